abbrev cX12_topFrom : ByteArray := prog_14_method_101_code
def yX12_topFrom : MethodName := ⟨RX12, "topFrom", "(II)I"⟩
theorem okX12_topFrom : yok yX12_topFrom 2 := by decide +kernel
theorem dX12_topFrom_0 : decode cX12_topFrom 0 = .ok (.aload_n 0, 1) := by decide +kernel
theorem dX12_topFrom_1 : decode cX12_topFrom 1 = .ok (.getfield 161, 3) := by decide +kernel
theorem dX12_topFrom_4 : decode cX12_topFrom 4 = .ok (.iload_n 2, 1) := by decide +kernel
theorem dX12_topFrom_5 : decode cX12_topFrom 5 = .ok (.iaload, 1) := by decide +kernel
theorem dX12_topFrom_6 : decode cX12_topFrom 6 = .ok (.aload_n 0, 1) := by decide +kernel
theorem dX12_topFrom_7 : decode cX12_topFrom 7 = .ok (.iload_n 2, 1) := by decide +kernel
theorem dX12_topFrom_8 : decode cX12_topFrom 8 = .ok (.invokevirtual 582, 3) := by decide +kernel
theorem kw_2150 : Cond.code yX12_greatestHigh prog_14_method_100_code 4 (some .int) ∈ uu := uu_in (i := 2150) (by decide +kernel) (by decide +kernel)
theorem kw_2147 : Cond.methodLink "LandSurveyModel" 582 yX12_greatestHigh ∈ uu := uu_in (i := 2147) (by decide +kernel) (by decide +kernel)
theorem kw_2149 : Cond.instanceMethod yX12_greatestHigh ∈ uu := uu_in (i := 2149) (by decide +kernel) (by decide +kernel)
theorem kw_129 : Cond.selects "LandSurveyModel" yX12_greatestHigh yX12_greatestHigh ∈ uu := uu_in (i := 129) (by decide +kernel) (by decide +kernel)
theorem lk_LandSurveyModel_582 : lkV "LandSurveyModel" 582 yX12_greatestHigh cX12_greatestHigh 4 (some .int) 1 := ⟨kw_2147, kw_2149, kw_129, kw_152, kw_2150, okX12_greatestHigh⟩
theorem dX12_topFrom_11 : decode cX12_topFrom 11 = .ok (.isub, 1) := by decide +kernel
theorem dX12_topFrom_12 : decode cX12_topFrom 12 = .ok (.aload_n 0, 1) := by decide +kernel
theorem dX12_topFrom_13 : decode cX12_topFrom 13 = .ok (.iload_n 1, 1) := by decide +kernel
theorem dX12_topFrom_14 : decode cX12_topFrom 14 = .ok (.iload_n 2, 1) := by decide +kernel
theorem dX12_topFrom_15 : decode cX12_topFrom 15 = .ok (.invokevirtual 468, 3) := by decide +kernel
theorem dX12_topFrom_18 : decode cX12_topFrom 18 = .ok (.isub, 1) := by decide +kernel
theorem dX12_topFrom_19 : decode cX12_topFrom 19 = .ok (.aload_n 0, 1) := by decide +kernel
theorem dX12_topFrom_20 : decode cX12_topFrom 20 = .ok (.iload_n 1, 1) := by decide +kernel
theorem dX12_topFrom_21 : decode cX12_topFrom 21 = .ok (.invokevirtual 462, 3) := by decide +kernel
theorem dX12_topFrom_24 : decode cX12_topFrom 24 = .ok (.isub, 1) := by decide +kernel
theorem dX12_topFrom_25 : decode cX12_topFrom 25 = .ok (.ireturn, 1) := by decide +kernel
abbrev cX12_topTo : ByteArray := prog_14_method_102_code
def yX12_topTo : MethodName := ⟨RX12, "topTo", "(II)I"⟩
theorem okX12_topTo : yok yX12_topTo 2 := by decide +kernel
theorem dX12_topTo_0 : decode cX12_topTo 0 = .ok (.aload_n 0, 1) := by decide +kernel
theorem dX12_topTo_1 : decode cX12_topTo 1 = .ok (.getfield 161, 3) := by decide +kernel
theorem dX12_topTo_4 : decode cX12_topTo 4 = .ok (.iload_n 2, 1) := by decide +kernel
theorem dX12_topTo_5 : decode cX12_topTo 5 = .ok (.iaload, 1) := by decide +kernel
theorem dX12_topTo_6 : decode cX12_topTo 6 = .ok (.aload_n 0, 1) := by decide +kernel
theorem dX12_topTo_7 : decode cX12_topTo 7 = .ok (.iload_n 2, 1) := by decide +kernel
theorem dX12_topTo_8 : decode cX12_topTo 8 = .ok (.invokevirtual 585, 3) := by decide +kernel
theorem kw_2159 : Cond.code yX12_leastHigh prog_14_method_99_code 4 (some .int) ∈ uu := uu_in (i := 2159) (by decide +kernel) (by decide +kernel)
theorem kw_2156 : Cond.methodLink "LandSurveyModel" 585 yX12_leastHigh ∈ uu := uu_in (i := 2156) (by decide +kernel) (by decide +kernel)
theorem kw_2158 : Cond.instanceMethod yX12_leastHigh ∈ uu := uu_in (i := 2158) (by decide +kernel) (by decide +kernel)
theorem kw_131 : Cond.selects "LandSurveyModel" yX12_leastHigh yX12_leastHigh ∈ uu := uu_in (i := 131) (by decide +kernel) (by decide +kernel)
theorem lk_LandSurveyModel_585 : lkV "LandSurveyModel" 585 yX12_leastHigh cX12_leastHigh 4 (some .int) 1 := ⟨kw_2156, kw_2158, kw_131, kw_152, kw_2159, okX12_leastHigh⟩
theorem dX12_topTo_11 : decode cX12_topTo 11 = .ok (.isub, 1) := by decide +kernel
theorem dX12_topTo_12 : decode cX12_topTo 12 = .ok (.aload_n 0, 1) := by decide +kernel
theorem dX12_topTo_13 : decode cX12_topTo 13 = .ok (.iload_n 1, 1) := by decide +kernel
theorem dX12_topTo_14 : decode cX12_topTo 14 = .ok (.iload_n 2, 1) := by decide +kernel
theorem dX12_topTo_15 : decode cX12_topTo 15 = .ok (.invokevirtual 471, 3) := by decide +kernel
theorem dX12_topTo_18 : decode cX12_topTo 18 = .ok (.isub, 1) := by decide +kernel
theorem dX12_topTo_19 : decode cX12_topTo 19 = .ok (.aload_n 0, 1) := by decide +kernel
theorem dX12_topTo_20 : decode cX12_topTo 20 = .ok (.iload_n 1, 1) := by decide +kernel
theorem dX12_topTo_21 : decode cX12_topTo 21 = .ok (.invokevirtual 459, 3) := by decide +kernel
theorem dX12_topTo_24 : decode cX12_topTo 24 = .ok (.isub, 1) := by decide +kernel
theorem dX12_topTo_25 : decode cX12_topTo 25 = .ok (.ireturn, 1) := by decide +kernel
abbrev cX12_footFrom : ByteArray := prog_14_method_103_code
def yX12_footFrom : MethodName := ⟨RX12, "footFrom", "(II)I"⟩
theorem okX12_footFrom : yok yX12_footFrom 2 := by decide +kernel
theorem dX12_footFrom_0 : decode cX12_footFrom 0 = .ok (.aload_n 0, 1) := by decide +kernel
theorem dX12_footFrom_1 : decode cX12_footFrom 1 = .ok (.getfield 161, 3) := by decide +kernel
theorem dX12_footFrom_4 : decode cX12_footFrom 4 = .ok (.iload_n 2, 1) := by decide +kernel
theorem dX12_footFrom_5 : decode cX12_footFrom 5 = .ok (.iaload, 1) := by decide +kernel
theorem dX12_footFrom_6 : decode cX12_footFrom 6 = .ok (.aload_n 0, 1) := by decide +kernel
theorem dX12_footFrom_7 : decode cX12_footFrom 7 = .ok (.iload_n 2, 1) := by decide +kernel
theorem dX12_footFrom_8 : decode cX12_footFrom 8 = .ok (.invokevirtual 582, 3) := by decide +kernel
theorem dX12_footFrom_11 : decode cX12_footFrom 11 = .ok (.isub, 1) := by decide +kernel
theorem dX12_footFrom_12 : decode cX12_footFrom 12 = .ok (.aload_n 0, 1) := by decide +kernel
theorem dX12_footFrom_13 : decode cX12_footFrom 13 = .ok (.iload_n 1, 1) := by decide +kernel
theorem dX12_footFrom_14 : decode cX12_footFrom 14 = .ok (.iload_n 2, 1) := by decide +kernel
theorem dX12_footFrom_15 : decode cX12_footFrom 15 = .ok (.invokevirtual 468, 3) := by decide +kernel
theorem dX12_footFrom_18 : decode cX12_footFrom 18 = .ok (.isub, 1) := by decide +kernel
theorem dX12_footFrom_19 : decode cX12_footFrom 19 = .ok (.ireturn, 1) := by decide +kernel
abbrev cX12_footTo : ByteArray := prog_14_method_104_code
def yX12_footTo : MethodName := ⟨RX12, "footTo", "(II)I"⟩
theorem okX12_footTo : yok yX12_footTo 2 := by decide +kernel
theorem dX12_footTo_0 : decode cX12_footTo 0 = .ok (.aload_n 0, 1) := by decide +kernel
theorem dX12_footTo_1 : decode cX12_footTo 1 = .ok (.getfield 161, 3) := by decide +kernel
theorem dX12_footTo_4 : decode cX12_footTo 4 = .ok (.iload_n 2, 1) := by decide +kernel
theorem dX12_footTo_5 : decode cX12_footTo 5 = .ok (.iaload, 1) := by decide +kernel
theorem dX12_footTo_6 : decode cX12_footTo 6 = .ok (.aload_n 0, 1) := by decide +kernel
theorem dX12_footTo_7 : decode cX12_footTo 7 = .ok (.iload_n 2, 1) := by decide +kernel
theorem dX12_footTo_8 : decode cX12_footTo 8 = .ok (.invokevirtual 585, 3) := by decide +kernel
theorem dX12_footTo_11 : decode cX12_footTo 11 = .ok (.isub, 1) := by decide +kernel
theorem dX12_footTo_12 : decode cX12_footTo 12 = .ok (.aload_n 0, 1) := by decide +kernel
theorem dX12_footTo_13 : decode cX12_footTo 13 = .ok (.iload_n 1, 1) := by decide +kernel
theorem dX12_footTo_14 : decode cX12_footTo 14 = .ok (.iload_n 2, 1) := by decide +kernel
theorem dX12_footTo_15 : decode cX12_footTo 15 = .ok (.invokevirtual 471, 3) := by decide +kernel
theorem dX12_footTo_18 : decode cX12_footTo 18 = .ok (.isub, 1) := by decide +kernel
theorem dX12_footTo_19 : decode cX12_footTo 19 = .ok (.ireturn, 1) := by decide +kernel
abbrev cX12_isBestKnown : ByteArray := prog_14_method_119_code
def yX12_isBestKnown : MethodName := ⟨RX12, "isBestKnown", "()Z"⟩
theorem okX12_isBestKnown : yok yX12_isBestKnown 0 := by decide +kernel
theorem dX12_isBestKnown_0 : decode cX12_isBestKnown 0 = .ok (.aload_n 0, 1) := by decide +kernel
theorem dX12_isBestKnown_1 : decode cX12_isBestKnown 1 = .ok (.invokevirtual 557, 3) := by decide +kernel
theorem kw_1945 : Cond.code yX12_findGrounds prog_14_method_79_code 2 none ∈ uu := uu_in (i := 1945) (by decide +kernel) (by decide +kernel)
theorem kw_1942 : Cond.methodLink "LandSurveyModel" 557 yX12_findGrounds ∈ uu := uu_in (i := 1942) (by decide +kernel) (by decide +kernel)
theorem kw_1944 : Cond.instanceMethod yX12_findGrounds ∈ uu := uu_in (i := 1944) (by decide +kernel) (by decide +kernel)
theorem kw_89 : Cond.selects "LandSurveyModel" yX12_findGrounds yX12_findGrounds ∈ uu := uu_in (i := 89) (by decide +kernel) (by decide +kernel)
theorem lk_LandSurveyModel_557 : lkV "LandSurveyModel" 557 yX12_findGrounds cX12_findGrounds 2 none 0 := ⟨kw_1942, kw_1944, kw_89, kw_152, kw_1945, okX12_findGrounds⟩
theorem dX12_isBestKnown_4 : decode cX12_isBestKnown 4 = .ok (.aload_n 0, 1) := by decide +kernel
theorem dX12_isBestKnown_5 : decode cX12_isBestKnown 5 = .ok (.getfield 537, 3) := by decide +kernel
theorem dX12_isBestKnown_8 : decode cX12_isBestKnown 8 = .ok (.ifCond .lt 19, 3) := by decide +kernel
theorem dX12_isBestKnown_27 : decode cX12_isBestKnown 27 = .ok (.iconst 0, 1) := by decide +kernel
theorem dX12_isBestKnown_28 : decode cX12_isBestKnown 28 = .ok (.ireturn, 1) := by decide +kernel
theorem dX12_isBestKnown_11 : decode cX12_isBestKnown 11 = .ok (.aload_n 0, 1) := by decide +kernel
theorem dX12_isBestKnown_12 : decode cX12_isBestKnown 12 = .ok (.getfield 263, 3) := by decide +kernel
theorem dX12_isBestKnown_15 : decode cX12_isBestKnown 15 = .ok (.aload_n 0, 1) := by decide +kernel
theorem dX12_isBestKnown_16 : decode cX12_isBestKnown 16 = .ok (.getfield 537, 3) := by decide +kernel
theorem dX12_isBestKnown_19 : decode cX12_isBestKnown 19 = .ok (.baload, 1) := by decide +kernel
theorem dX12_isBestKnown_20 : decode cX12_isBestKnown 20 = .ok (.ifCond .eq 7, 3) := by decide +kernel
theorem dX12_isBestKnown_23 : decode cX12_isBestKnown 23 = .ok (.iconst 1, 1) := by decide +kernel
theorem dX12_isBestKnown_24 : decode cX12_isBestKnown 24 = .ok (.goto 4, 3) := by decide +kernel
abbrev cX12_doubtNow : ByteArray := prog_14_method_120_code
def yX12_doubtNow : MethodName := ⟨RX12, "doubtNow", "()I"⟩
theorem okX12_doubtNow : yok yX12_doubtNow 0 := by decide +kernel
theorem dX12_doubtNow_0 : decode cX12_doubtNow 0 = .ok (.iconst 0, 1) := by decide +kernel
theorem dX12_doubtNow_1 : decode cX12_doubtNow 1 = .ok (.istore_n 1, 1) := by decide +kernel
theorem dX12_doubtNow_2 : decode cX12_doubtNow 2 = .ok (.iconst 0, 1) := by decide +kernel
theorem dX12_doubtNow_3 : decode cX12_doubtNow 3 = .ok (.istore_n 2, 1) := by decide +kernel
theorem dX12_doubtNow_4 : decode cX12_doubtNow 4 = .ok (.iload_n 2, 1) := by decide +kernel
theorem dX12_doubtNow_5 : decode cX12_doubtNow 5 = .ok (.bipush 96, 2) := by decide +kernel
theorem dX12_doubtNow_7 : decode cX12_doubtNow 7 = .ok (.if_icmp .ge 54, 3) := by decide +kernel
theorem dX12_doubtNow_61 : decode cX12_doubtNow 61 = .ok (.iload_n 1, 1) := by decide +kernel
theorem dX12_doubtNow_62 : decode cX12_doubtNow 62 = .ok (.ireturn, 1) := by decide +kernel
theorem dX12_doubtNow_10 : decode cX12_doubtNow 10 = .ok (.iload_n 1, 1) := by decide +kernel
theorem dX12_doubtNow_11 : decode cX12_doubtNow 11 = .ok (.aload_n 0, 1) := by decide +kernel
theorem dX12_doubtNow_12 : decode cX12_doubtNow 12 = .ok (.getfield 275, 3) := by decide +kernel
theorem dX12_doubtNow_15 : decode cX12_doubtNow 15 = .ok (.iload_n 2, 1) := by decide +kernel
theorem dX12_doubtNow_16 : decode cX12_doubtNow 16 = .ok (.baload, 1) := by decide +kernel
theorem dX12_doubtNow_17 : decode cX12_doubtNow 17 = .ok (.ifCond .eq 35, 3) := by decide +kernel
theorem dX12_doubtNow_52 : decode cX12_doubtNow 52 = .ok (.iconst 0, 1) := by decide +kernel
theorem dX12_doubtNow_53 : decode cX12_doubtNow 53 = .ok (.iadd, 1) := by decide +kernel
theorem dX12_doubtNow_54 : decode cX12_doubtNow 54 = .ok (.istore_n 1, 1) := by decide +kernel
theorem dX12_doubtNow_55 : decode cX12_doubtNow 55 = .ok (.iinc 2 1, 3) := by decide +kernel
theorem dX12_doubtNow_58 : decode cX12_doubtNow 58 = .ok (.goto (-54), 3) := by decide +kernel
theorem dX12_doubtNow_20 : decode cX12_doubtNow 20 = .ok (.aload_n 0, 1) := by decide +kernel
theorem dX12_doubtNow_21 : decode cX12_doubtNow 21 = .ok (.getfield 269, 3) := by decide +kernel
theorem dX12_doubtNow_24 : decode cX12_doubtNow 24 = .ok (.bipush 96, 2) := by decide +kernel
theorem dX12_doubtNow_26 : decode cX12_doubtNow 26 = .ok (.aload_n 0, 1) := by decide +kernel
theorem dX12_doubtNow_27 : decode cX12_doubtNow 27 = .ok (.getfield 537, 3) := by decide +kernel
theorem dX12_doubtNow_30 : decode cX12_doubtNow 30 = .ok (.imul, 1) := by decide +kernel
theorem dX12_doubtNow_31 : decode cX12_doubtNow 31 = .ok (.iload_n 2, 1) := by decide +kernel
theorem dX12_doubtNow_32 : decode cX12_doubtNow 32 = .ok (.iadd, 1) := by decide +kernel
theorem dX12_doubtNow_33 : decode cX12_doubtNow 33 = .ok (.iaload, 1) := by decide +kernel
theorem dX12_doubtNow_34 : decode cX12_doubtNow 34 = .ok (.aload_n 0, 1) := by decide +kernel
theorem dX12_doubtNow_35 : decode cX12_doubtNow 35 = .ok (.getfield 266, 3) := by decide +kernel
theorem dX12_doubtNow_38 : decode cX12_doubtNow 38 = .ok (.bipush 96, 2) := by decide +kernel
theorem dX12_doubtNow_40 : decode cX12_doubtNow 40 = .ok (.aload_n 0, 1) := by decide +kernel
theorem dX12_doubtNow_41 : decode cX12_doubtNow 41 = .ok (.getfield 537, 3) := by decide +kernel
theorem dX12_doubtNow_44 : decode cX12_doubtNow 44 = .ok (.imul, 1) := by decide +kernel
theorem dX12_doubtNow_45 : decode cX12_doubtNow 45 = .ok (.iload_n 2, 1) := by decide +kernel
theorem dX12_doubtNow_46 : decode cX12_doubtNow 46 = .ok (.iadd, 1) := by decide +kernel
theorem dX12_doubtNow_47 : decode cX12_doubtNow 47 = .ok (.iaload, 1) := by decide +kernel
theorem dX12_doubtNow_48 : decode cX12_doubtNow 48 = .ok (.isub, 1) := by decide +kernel
theorem dX12_doubtNow_49 : decode cX12_doubtNow 49 = .ok (.goto 4, 3) := by decide +kernel
abbrev cX12_leavesOf : ByteArray := prog_14_method_124_code
def yX12_leavesOf : MethodName := ⟨RX12, "leavesOf", "(I)I"⟩
theorem okX12_leavesOf : yok yX12_leavesOf 1 := by decide +kernel
theorem dX12_leavesOf_0 : decode cX12_leavesOf 0 = .ok (.iconst 0, 1) := by decide +kernel
theorem dX12_leavesOf_1 : decode cX12_leavesOf 1 = .ok (.istore_n 2, 1) := by decide +kernel
theorem dX12_leavesOf_2 : decode cX12_leavesOf 2 = .ok (.iconst 0, 1) := by decide +kernel
theorem dX12_leavesOf_3 : decode cX12_leavesOf 3 = .ok (.istore_n 3, 1) := by decide +kernel
theorem dX12_leavesOf_4 : decode cX12_leavesOf 4 = .ok (.iload_n 3, 1) := by decide +kernel
theorem dX12_leavesOf_5 : decode cX12_leavesOf 5 = .ok (.bipush 96, 2) := by decide +kernel
theorem dX12_leavesOf_7 : decode cX12_leavesOf 7 = .ok (.if_icmp .ge 114, 3) := by decide +kernel
theorem dX12_leavesOf_121 : decode cX12_leavesOf 121 = .ok (.iload_n 2, 1) := by decide +kernel
theorem dX12_leavesOf_122 : decode cX12_leavesOf 122 = .ok (.ireturn, 1) := by decide +kernel
theorem dX12_leavesOf_10 : decode cX12_leavesOf 10 = .ok (.aload_n 0, 1) := by decide +kernel
theorem dX12_leavesOf_11 : decode cX12_leavesOf 11 = .ok (.getfield 275, 3) := by decide +kernel
theorem dX12_leavesOf_14 : decode cX12_leavesOf 14 = .ok (.iload_n 3, 1) := by decide +kernel
theorem dX12_leavesOf_15 : decode cX12_leavesOf 15 = .ok (.baload, 1) := by decide +kernel
theorem dX12_leavesOf_16 : decode cX12_leavesOf 16 = .ok (.ifCond .eq 99, 3) := by decide +kernel
theorem dX12_leavesOf_115 : decode cX12_leavesOf 115 = .ok (.iinc 3 1, 3) := by decide +kernel
theorem dX12_leavesOf_118 : decode cX12_leavesOf 118 = .ok (.goto (-114), 3) := by decide +kernel
theorem dX12_leavesOf_19 : decode cX12_leavesOf 19 = .ok (.aload_n 0, 1) := by decide +kernel
theorem dX12_leavesOf_20 : decode cX12_leavesOf 20 = .ok (.getfield 269, 3) := by decide +kernel
theorem dX12_leavesOf_23 : decode cX12_leavesOf 23 = .ok (.bipush 96, 2) := by decide +kernel
theorem dX12_leavesOf_25 : decode cX12_leavesOf 25 = .ok (.aload_n 0, 1) := by decide +kernel
theorem dX12_leavesOf_26 : decode cX12_leavesOf 26 = .ok (.getfield 537, 3) := by decide +kernel
theorem dX12_leavesOf_29 : decode cX12_leavesOf 29 = .ok (.imul, 1) := by decide +kernel
theorem dX12_leavesOf_30 : decode cX12_leavesOf 30 = .ok (.iload_n 3, 1) := by decide +kernel
theorem dX12_leavesOf_31 : decode cX12_leavesOf 31 = .ok (.iadd, 1) := by decide +kernel
theorem dX12_leavesOf_32 : decode cX12_leavesOf 32 = .ok (.iaload, 1) := by decide +kernel
theorem dX12_leavesOf_33 : decode cX12_leavesOf 33 = .ok (.istore 4, 2) := by decide +kernel
theorem dX12_leavesOf_35 : decode cX12_leavesOf 35 = .ok (.aload_n 0, 1) := by decide +kernel
theorem dX12_leavesOf_36 : decode cX12_leavesOf 36 = .ok (.getfield 266, 3) := by decide +kernel
theorem dX12_leavesOf_39 : decode cX12_leavesOf 39 = .ok (.bipush 96, 2) := by decide +kernel
theorem dX12_leavesOf_41 : decode cX12_leavesOf 41 = .ok (.aload_n 0, 1) := by decide +kernel
theorem dX12_leavesOf_42 : decode cX12_leavesOf 42 = .ok (.getfield 537, 3) := by decide +kernel
theorem dX12_leavesOf_45 : decode cX12_leavesOf 45 = .ok (.imul, 1) := by decide +kernel
theorem dX12_leavesOf_46 : decode cX12_leavesOf 46 = .ok (.iload_n 3, 1) := by decide +kernel
theorem dX12_leavesOf_47 : decode cX12_leavesOf 47 = .ok (.iadd, 1) := by decide +kernel
theorem dX12_leavesOf_48 : decode cX12_leavesOf 48 = .ok (.iaload, 1) := by decide +kernel
theorem dX12_leavesOf_49 : decode cX12_leavesOf 49 = .ok (.istore 5, 2) := by decide +kernel
theorem dX12_leavesOf_51 : decode cX12_leavesOf 51 = .ok (.iload_n 1, 1) := by decide +kernel
theorem dX12_leavesOf_52 : decode cX12_leavesOf 52 = .ok (.aload_n 0, 1) := by decide +kernel
theorem dX12_leavesOf_53 : decode cX12_leavesOf 53 = .ok (.getfield 284, 3) := by decide +kernel
theorem kw_1592 : Cond.fieldLink "LandSurveyModel" 284 "LandSurveyModel" "ahead" "[I" ∈ uu := uu_in (i := 1592) (by decide +kernel) (by decide +kernel)
theorem fk_LandSurveyModel_284 : fkR "LandSurveyModel" 284 11 86 RX12 TX12 87 := ⟨rfl, rfl, inX12, by decide, kw_1592, by decide⟩
theorem dX12_leavesOf_56 : decode cX12_leavesOf 56 = .ok (.iload_n 3, 1) := by decide +kernel
theorem dX12_leavesOf_57 : decode cX12_leavesOf 57 = .ok (.iaload, 1) := by decide +kernel
theorem dX12_leavesOf_58 : decode cX12_leavesOf 58 = .ok (.iadd, 1) := by decide +kernel
theorem dX12_leavesOf_59 : decode cX12_leavesOf 59 = .ok (.iload 4, 2) := by decide +kernel
theorem dX12_leavesOf_61 : decode cX12_leavesOf 61 = .ok (.if_icmp .ge 14, 3) := by decide +kernel
theorem dX12_leavesOf_75 : decode cX12_leavesOf 75 = .ok (.iload 4, 2) := by decide +kernel
theorem dX12_leavesOf_77 : decode cX12_leavesOf 77 = .ok (.istore 4, 2) := by decide +kernel
theorem dX12_leavesOf_79 : decode cX12_leavesOf 79 = .ok (.iload_n 1, 1) := by decide +kernel
theorem dX12_leavesOf_80 : decode cX12_leavesOf 80 = .ok (.aload_n 0, 1) := by decide +kernel
theorem dX12_leavesOf_81 : decode cX12_leavesOf 81 = .ok (.getfield 245, 3) := by decide +kernel
theorem dX12_leavesOf_84 : decode cX12_leavesOf 84 = .ok (.iload_n 3, 1) := by decide +kernel
theorem dX12_leavesOf_85 : decode cX12_leavesOf 85 = .ok (.iaload, 1) := by decide +kernel
theorem dX12_leavesOf_86 : decode cX12_leavesOf 86 = .ok (.isub, 1) := by decide +kernel
theorem dX12_leavesOf_87 : decode cX12_leavesOf 87 = .ok (.iload 5, 2) := by decide +kernel
theorem dX12_leavesOf_89 : decode cX12_leavesOf 89 = .ok (.if_icmp .le 14, 3) := by decide +kernel
theorem dX12_leavesOf_103 : decode cX12_leavesOf 103 = .ok (.iload 5, 2) := by decide +kernel
theorem dX12_leavesOf_105 : decode cX12_leavesOf 105 = .ok (.istore 5, 2) := by decide +kernel
theorem dX12_leavesOf_107 : decode cX12_leavesOf 107 = .ok (.iload_n 2, 1) := by decide +kernel
theorem dX12_leavesOf_108 : decode cX12_leavesOf 108 = .ok (.iload 4, 2) := by decide +kernel
theorem dX12_leavesOf_110 : decode cX12_leavesOf 110 = .ok (.iload 5, 2) := by decide +kernel
theorem dX12_leavesOf_112 : decode cX12_leavesOf 112 = .ok (.isub, 1) := by decide +kernel
theorem dX12_leavesOf_113 : decode cX12_leavesOf 113 = .ok (.iadd, 1) := by decide +kernel
theorem dX12_leavesOf_114 : decode cX12_leavesOf 114 = .ok (.istore_n 2, 1) := by decide +kernel
theorem dX12_leavesOf_92 : decode cX12_leavesOf 92 = .ok (.iload_n 1, 1) := by decide +kernel
theorem dX12_leavesOf_93 : decode cX12_leavesOf 93 = .ok (.aload_n 0, 1) := by decide +kernel
theorem dX12_leavesOf_94 : decode cX12_leavesOf 94 = .ok (.getfield 245, 3) := by decide +kernel
theorem dX12_leavesOf_97 : decode cX12_leavesOf 97 = .ok (.iload_n 3, 1) := by decide +kernel
theorem dX12_leavesOf_98 : decode cX12_leavesOf 98 = .ok (.iaload, 1) := by decide +kernel
theorem dX12_leavesOf_99 : decode cX12_leavesOf 99 = .ok (.isub, 1) := by decide +kernel
theorem dX12_leavesOf_100 : decode cX12_leavesOf 100 = .ok (.goto 5, 3) := by decide +kernel
theorem dX12_leavesOf_64 : decode cX12_leavesOf 64 = .ok (.iload_n 1, 1) := by decide +kernel
theorem dX12_leavesOf_65 : decode cX12_leavesOf 65 = .ok (.aload_n 0, 1) := by decide +kernel
theorem dX12_leavesOf_66 : decode cX12_leavesOf 66 = .ok (.getfield 284, 3) := by decide +kernel
theorem dX12_leavesOf_69 : decode cX12_leavesOf 69 = .ok (.iload_n 3, 1) := by decide +kernel
theorem dX12_leavesOf_70 : decode cX12_leavesOf 70 = .ok (.iaload, 1) := by decide +kernel
theorem dX12_leavesOf_71 : decode cX12_leavesOf 71 = .ok (.iadd, 1) := by decide +kernel
theorem dX12_leavesOf_72 : decode cX12_leavesOf 72 = .ok (.goto 5, 3) := by decide +kernel
abbrev cX12_leftAt : ByteArray := prog_14_method_123_code
def yX12_leftAt : MethodName := ⟨RX12, "leftAt", "(I)I"⟩
theorem okX12_leftAt : yok yX12_leftAt 1 := by decide +kernel
theorem dX12_leftAt_0 : decode cX12_leftAt 0 = .ok (.aload_n 0, 1) := by decide +kernel
theorem dX12_leftAt_1 : decode cX12_leftAt 1 = .ok (.getfield 278, 3) := by decide +kernel
theorem dX12_leftAt_4 : decode cX12_leftAt 4 = .ok (.iload_n 1, 1) := by decide +kernel
theorem dX12_leftAt_5 : decode cX12_leftAt 5 = .ok (.iaload, 1) := by decide +kernel
theorem dX12_leftAt_6 : decode cX12_leftAt 6 = .ok (.istore_n 2, 1) := by decide +kernel
theorem dX12_leftAt_7 : decode cX12_leftAt 7 = .ok (.aload_n 0, 1) := by decide +kernel
theorem dX12_leftAt_8 : decode cX12_leftAt 8 = .ok (.getfield 266, 3) := by decide +kernel
theorem dX12_leftAt_11 : decode cX12_leftAt 11 = .ok (.bipush 96, 2) := by decide +kernel
theorem dX12_leftAt_13 : decode cX12_leftAt 13 = .ok (.aload_n 0, 1) := by decide +kernel
theorem dX12_leftAt_14 : decode cX12_leftAt 14 = .ok (.getfield 537, 3) := by decide +kernel
theorem dX12_leftAt_17 : decode cX12_leftAt 17 = .ok (.imul, 1) := by decide +kernel
theorem dX12_leftAt_18 : decode cX12_leftAt 18 = .ok (.iload_n 2, 1) := by decide +kernel
theorem dX12_leftAt_19 : decode cX12_leftAt 19 = .ok (.iadd, 1) := by decide +kernel
theorem dX12_leftAt_20 : decode cX12_leftAt 20 = .ok (.iaload, 1) := by decide +kernel
theorem dX12_leftAt_21 : decode cX12_leftAt 21 = .ok (.istore_n 3, 1) := by decide +kernel
theorem dX12_leftAt_22 : decode cX12_leftAt 22 = .ok (.aload_n 0, 1) := by decide +kernel
theorem dX12_leftAt_23 : decode cX12_leftAt 23 = .ok (.getfield 269, 3) := by decide +kernel
theorem dX12_leftAt_26 : decode cX12_leftAt 26 = .ok (.bipush 96, 2) := by decide +kernel
theorem dX12_leftAt_28 : decode cX12_leftAt 28 = .ok (.aload_n 0, 1) := by decide +kernel
theorem dX12_leftAt_29 : decode cX12_leftAt 29 = .ok (.getfield 537, 3) := by decide +kernel
theorem dX12_leftAt_32 : decode cX12_leftAt 32 = .ok (.imul, 1) := by decide +kernel
theorem dX12_leftAt_33 : decode cX12_leftAt 33 = .ok (.iload_n 2, 1) := by decide +kernel
theorem dX12_leftAt_34 : decode cX12_leftAt 34 = .ok (.iadd, 1) := by decide +kernel
theorem dX12_leftAt_35 : decode cX12_leftAt 35 = .ok (.iaload, 1) := by decide +kernel
theorem dX12_leftAt_36 : decode cX12_leftAt 36 = .ok (.istore 4, 2) := by decide +kernel
theorem dX12_leftAt_38 : decode cX12_leftAt 38 = .ok (.aload_n 0, 1) := by decide +kernel
theorem dX12_leftAt_39 : decode cX12_leftAt 39 = .ok (.aload_n 0, 1) := by decide +kernel
theorem dX12_leftAt_40 : decode cX12_leftAt 40 = .ok (.getfield 537, 3) := by decide +kernel
theorem dX12_leftAt_43 : decode cX12_leftAt 43 = .ok (.aload_n 0, 1) := by decide +kernel
theorem dX12_leftAt_44 : decode cX12_leftAt 44 = .ok (.getfield 257, 3) := by decide +kernel
theorem dX12_leftAt_47 : decode cX12_leftAt 47 = .ok (.aload_n 0, 1) := by decide +kernel
theorem dX12_leftAt_48 : decode cX12_leftAt 48 = .ok (.getfield 537, 3) := by decide +kernel
theorem dX12_leftAt_51 : decode cX12_leftAt 51 = .ok (.laload, 1) := by decide +kernel
theorem dX12_leftAt_52 : decode cX12_leftAt 52 = .ok (.iconst 0, 1) := by decide +kernel
theorem dX12_leftAt_53 : decode cX12_leftAt 53 = .ok (.invokevirtual 523, 3) := by decide +kernel
theorem dX12_leftAt_56 : decode cX12_leftAt 56 = .ok (.aload_n 0, 1) := by decide +kernel
theorem dX12_leftAt_57 : decode cX12_leftAt 57 = .ok (.iload_n 2, 1) := by decide +kernel
theorem dX12_leftAt_58 : decode cX12_leftAt 58 = .ok (.iconst 0, 1) := by decide +kernel
theorem dX12_leftAt_59 : decode cX12_leftAt 59 = .ok (.invokevirtual 553, 3) := by decide +kernel
theorem dX12_leftAt_62 : decode cX12_leftAt 62 = .ok (.iconst 0, 1) := by decide +kernel
theorem dX12_leftAt_63 : decode cX12_leftAt 63 = .ok (.istore 5, 2) := by decide +kernel
theorem dX12_leftAt_65 : decode cX12_leftAt 65 = .ok (.iload 5, 2) := by decide +kernel
theorem dX12_leftAt_67 : decode cX12_leftAt 67 = .ok (.bipush 97, 2) := by decide +kernel
theorem dX12_leftAt_69 : decode cX12_leftAt 69 = .ok (.if_icmp .ge 23, 3) := by decide +kernel
theorem dX12_leftAt_92 : decode cX12_leftAt 92 = .ok (.aload_n 0, 1) := by decide +kernel
theorem dX12_leftAt_93 : decode cX12_leftAt 93 = .ok (.iload_n 2, 1) := by decide +kernel
theorem dX12_leftAt_94 : decode cX12_leftAt 94 = .ok (.iconst 1, 1) := by decide +kernel
theorem dX12_leftAt_95 : decode cX12_leftAt 95 = .ok (.invokevirtual 553, 3) := by decide +kernel
theorem dX12_leftAt_98 : decode cX12_leftAt 98 = .ok (.aload_n 0, 1) := by decide +kernel
theorem dX12_leftAt_99 : decode cX12_leftAt 99 = .ok (.iload_n 3, 1) := by decide +kernel
theorem dX12_leftAt_100 : decode cX12_leftAt 100 = .ok (.invokevirtual 624, 3) := by decide +kernel
theorem kw_2243 : Cond.code yX12_leavesOf prog_14_method_124_code 6 (some .int) ∈ uu := uu_in (i := 2243) (by decide +kernel) (by decide +kernel)
theorem kw_2240 : Cond.methodLink "LandSurveyModel" 624 yX12_leavesOf ∈ uu := uu_in (i := 2240) (by decide +kernel) (by decide +kernel)
theorem kw_2242 : Cond.instanceMethod yX12_leavesOf ∈ uu := uu_in (i := 2242) (by decide +kernel) (by decide +kernel)
theorem kw_140 : Cond.selects "LandSurveyModel" yX12_leavesOf yX12_leavesOf ∈ uu := uu_in (i := 140) (by decide +kernel) (by decide +kernel)
theorem lk_LandSurveyModel_624 : lkV "LandSurveyModel" 624 yX12_leavesOf cX12_leavesOf 6 (some .int) 1 := ⟨kw_2240, kw_2242, kw_140, kw_152, kw_2243, okX12_leavesOf⟩
theorem dX12_leftAt_103 : decode cX12_leftAt 103 = .ok (.istore 5, 2) := by decide +kernel
theorem dX12_leftAt_105 : decode cX12_leftAt 105 = .ok (.aload_n 0, 1) := by decide +kernel
theorem dX12_leftAt_106 : decode cX12_leftAt 106 = .ok (.iload 4, 2) := by decide +kernel
theorem dX12_leftAt_108 : decode cX12_leftAt 108 = .ok (.invokevirtual 624, 3) := by decide +kernel
theorem dX12_leftAt_111 : decode cX12_leftAt 111 = .ok (.istore 6, 2) := by decide +kernel
theorem dX12_leftAt_113 : decode cX12_leftAt 113 = .ok (.iload 6, 2) := by decide +kernel
theorem dX12_leftAt_115 : decode cX12_leftAt 115 = .ok (.iload 5, 2) := by decide +kernel
theorem dX12_leftAt_117 : decode cX12_leftAt 117 = .ok (.if_icmp .le 8, 3) := by decide +kernel
theorem dX12_leftAt_125 : decode cX12_leftAt 125 = .ok (.iload 5, 2) := by decide +kernel
theorem dX12_leftAt_127 : decode cX12_leftAt 127 = .ok (.istore 5, 2) := by decide +kernel
theorem dX12_leftAt_129 : decode cX12_leftAt 129 = .ok (.aload_n 0, 1) := by decide +kernel
theorem dX12_leftAt_130 : decode cX12_leftAt 130 = .ok (.iload_n 3, 1) := by decide +kernel
theorem dX12_leftAt_131 : decode cX12_leftAt 131 = .ok (.iload 4, 2) := by decide +kernel
theorem dX12_leftAt_133 : decode cX12_leftAt 133 = .ok (.iadd, 1) := by decide +kernel
theorem dX12_leftAt_134 : decode cX12_leftAt 134 = .ok (.invokestatic 627, 3) := by decide +kernel
theorem kw_2246 : Cond.code yX12_halfDown prog_14_method_122_code 1 (some .int) ∈ uu := uu_in (i := 2246) (by decide +kernel) (by decide +kernel)
theorem kw_2244 : Cond.methodLink "LandSurveyModel" 627 yX12_halfDown ∈ uu := uu_in (i := 2244) (by decide +kernel) (by decide +kernel)
theorem kw_2245 : Cond.static yX12_halfDown ∈ uu := uu_in (i := 2245) (by decide +kernel) (by decide +kernel)
theorem lk_LandSurveyModel_627 : lkS "LandSurveyModel" 627 yX12_halfDown cX12_halfDown 1 (some .int) 1 := ⟨kw_2244, kw_2245, kw_152, kw_2246, okX12_halfDown⟩
theorem dX12_leftAt_137 : decode cX12_leftAt 137 = .ok (.invokevirtual 624, 3) := by decide +kernel
theorem dX12_leftAt_140 : decode cX12_leftAt 140 = .ok (.istore 6, 2) := by decide +kernel
theorem dX12_leftAt_142 : decode cX12_leftAt 142 = .ok (.iload 6, 2) := by decide +kernel
theorem dX12_leftAt_144 : decode cX12_leftAt 144 = .ok (.iload 5, 2) := by decide +kernel
theorem dX12_leftAt_146 : decode cX12_leftAt 146 = .ok (.if_icmp .le 8, 3) := by decide +kernel
theorem dX12_leftAt_154 : decode cX12_leftAt 154 = .ok (.iload 5, 2) := by decide +kernel
theorem dX12_leftAt_156 : decode cX12_leftAt 156 = .ok (.ireturn, 1) := by decide +kernel
theorem dX12_leftAt_149 : decode cX12_leftAt 149 = .ok (.iload 6, 2) := by decide +kernel
theorem dX12_leftAt_151 : decode cX12_leftAt 151 = .ok (.goto 5, 3) := by decide +kernel
theorem dX12_leftAt_120 : decode cX12_leftAt 120 = .ok (.iload 6, 2) := by decide +kernel
theorem dX12_leftAt_122 : decode cX12_leftAt 122 = .ok (.goto 5, 3) := by decide +kernel
theorem dX12_leftAt_72 : decode cX12_leftAt 72 = .ok (.aload_n 0, 1) := by decide +kernel
theorem dX12_leftAt_73 : decode cX12_leftAt 73 = .ok (.getfield 284, 3) := by decide +kernel
theorem dX12_leftAt_76 : decode cX12_leftAt 76 = .ok (.iload 5, 2) := by decide +kernel
theorem dX12_leftAt_78 : decode cX12_leftAt 78 = .ok (.aload_n 0, 1) := by decide +kernel
theorem dX12_leftAt_79 : decode cX12_leftAt 79 = .ok (.getfield 245, 3) := by decide +kernel
theorem dX12_leftAt_82 : decode cX12_leftAt 82 = .ok (.iload 5, 2) := by decide +kernel
theorem dX12_leftAt_84 : decode cX12_leftAt 84 = .ok (.iaload, 1) := by decide +kernel
theorem dX12_leftAt_85 : decode cX12_leftAt 85 = .ok (.iastore, 1) := by decide +kernel
theorem dX12_leftAt_86 : decode cX12_leftAt 86 = .ok (.iinc 5 1, 3) := by decide +kernel
theorem dX12_leftAt_89 : decode cX12_leftAt 89 = .ok (.goto (-24), 3) := by decide +kernel
abbrev cX12_cost : ByteArray := prog_14_method_86_code
def yX12_cost : MethodName := ⟨RX12, "cost", "(I)I"⟩
theorem okX12_cost : yok yX12_cost 1 := by decide +kernel
theorem dX12_cost_0 : decode cX12_cost 0 = .ok (.aload_n 0, 1) := by decide +kernel
theorem dX12_cost_1 : decode cX12_cost 1 = .ok (.iconst 0, 1) := by decide +kernel
theorem dX12_cost_2 : decode cX12_cost 2 = .ok (.putfield 1, 3) := by decide +kernel
theorem dX12_cost_5 : decode cX12_cost 5 = .ok (.aload_n 0, 1) := by decide +kernel
theorem dX12_cost_6 : decode cX12_cost 6 = .ok (.invokevirtual 557, 3) := by decide +kernel
theorem dX12_cost_9 : decode cX12_cost 9 = .ok (.aload_n 0, 1) := by decide +kernel
theorem dX12_cost_10 : decode cX12_cost 10 = .ok (.iload_n 1, 1) := by decide +kernel
theorem dX12_cost_11 : decode cX12_cost 11 = .ok (.invokevirtual 563, 3) := by decide +kernel
theorem kw_2091 : Cond.code yX12_isSet prog_14_method_83_code 2 (some .boolean) ∈ uu := uu_in (i := 2091) (by decide +kernel) (by decide +kernel)
theorem kw_2088 : Cond.methodLink "LandSurveyModel" 563 yX12_isSet ∈ uu := uu_in (i := 2088) (by decide +kernel) (by decide +kernel)
theorem kw_2090 : Cond.instanceMethod yX12_isSet ∈ uu := uu_in (i := 2090) (by decide +kernel) (by decide +kernel)
theorem kw_122 : Cond.selects "LandSurveyModel" yX12_isSet yX12_isSet ∈ uu := uu_in (i := 122) (by decide +kernel) (by decide +kernel)
theorem lk_LandSurveyModel_563 : lkV "LandSurveyModel" 563 yX12_isSet cX12_isSet 2 (some .boolean) 1 := ⟨kw_2088, kw_2090, kw_122, kw_152, kw_2091, okX12_isSet⟩
theorem dX12_cost_14 : decode cX12_cost 14 = .ok (.ifCond .eq 21, 3) := by decide +kernel
theorem dX12_cost_35 : decode cX12_cost 35 = .ok (.iconst (-1), 1) := by decide +kernel
theorem dX12_cost_36 : decode cX12_cost 36 = .ok (.ireturn, 1) := by decide +kernel
theorem dX12_cost_17 : decode cX12_cost 17 = .ok (.aload_n 0, 1) := by decide +kernel
theorem dX12_cost_18 : decode cX12_cost 18 = .ok (.getfield 251, 3) := by decide +kernel
theorem dX12_cost_21 : decode cX12_cost 21 = .ok (.iload_n 1, 1) := by decide +kernel
theorem dX12_cost_22 : decode cX12_cost 22 = .ok (.baload, 1) := by decide +kernel
theorem dX12_cost_23 : decode cX12_cost 23 = .ok (.ifCond .eq 12, 3) := by decide +kernel
theorem dX12_cost_26 : decode cX12_cost 26 = .ok (.aload_n 0, 1) := by decide +kernel
theorem dX12_cost_27 : decode cX12_cost 27 = .ok (.getfield 254, 3) := by decide +kernel
theorem dX12_cost_30 : decode cX12_cost 30 = .ok (.iload_n 1, 1) := by decide +kernel
theorem dX12_cost_31 : decode cX12_cost 31 = .ok (.iaload, 1) := by decide +kernel
theorem dX12_cost_32 : decode cX12_cost 32 = .ok (.goto 4, 3) := by decide +kernel
abbrev cX12_doubted : ByteArray := prog_14_method_87_code
def yX12_doubted : MethodName := ⟨RX12, "doubted", "(II)I"⟩
theorem okX12_doubted : yok yX12_doubted 2 := by decide +kernel
theorem dX12_doubted_0 : decode cX12_doubted 0 = .ok (.aload_n 0, 1) := by decide +kernel
theorem dX12_doubted_1 : decode cX12_doubted 1 = .ok (.iconst 0, 1) := by decide +kernel
theorem dX12_doubted_2 : decode cX12_doubted 2 = .ok (.putfield 1, 3) := by decide +kernel
theorem dX12_doubted_5 : decode cX12_doubted 5 = .ok (.aload_n 0, 1) := by decide +kernel
theorem dX12_doubted_6 : decode cX12_doubted 6 = .ok (.invokevirtual 557, 3) := by decide +kernel
theorem dX12_doubted_9 : decode cX12_doubted 9 = .ok (.iload_n 2, 1) := by decide +kernel
theorem dX12_doubted_10 : decode cX12_doubted 10 = .ok (.istore_n 3, 1) := by decide +kernel
theorem dX12_doubted_11 : decode cX12_doubted 11 = .ok (.iconst 0, 1) := by decide +kernel
theorem dX12_doubted_12 : decode cX12_doubted 12 = .ok (.istore 4, 2) := by decide +kernel
theorem dX12_doubted_14 : decode cX12_doubted 14 = .ok (.iload 4, 2) := by decide +kernel
theorem dX12_doubted_16 : decode cX12_doubted 16 = .ok (.aload_n 0, 1) := by decide +kernel
theorem dX12_doubted_17 : decode cX12_doubted 17 = .ok (.getfield 423, 3) := by decide +kernel
theorem dX12_doubted_20 : decode cX12_doubted 20 = .ok (.if_icmp .ge 54, 3) := by decide +kernel
theorem dX12_doubted_74 : decode cX12_doubted 74 = .ok (.iconst (-1), 1) := by decide +kernel
theorem dX12_doubted_75 : decode cX12_doubted 75 = .ok (.ireturn, 1) := by decide +kernel
theorem dX12_doubted_23 : decode cX12_doubted 23 = .ok (.aload_n 0, 1) := by decide +kernel
theorem dX12_doubted_24 : decode cX12_doubted 24 = .ok (.iload_n 1, 1) := by decide +kernel
theorem dX12_doubted_25 : decode cX12_doubted 25 = .ok (.invokevirtual 563, 3) := by decide +kernel
theorem dX12_doubted_28 : decode cX12_doubted 28 = .ok (.ifCond .eq 46, 3) := by decide +kernel
theorem dX12_doubted_31 : decode cX12_doubted 31 = .ok (.aload_n 0, 1) := by decide +kernel
theorem dX12_doubted_32 : decode cX12_doubted 32 = .ok (.getfield 251, 3) := by decide +kernel
theorem dX12_doubted_35 : decode cX12_doubted 35 = .ok (.iload_n 1, 1) := by decide +kernel
theorem dX12_doubted_36 : decode cX12_doubted 36 = .ok (.baload, 1) := by decide +kernel
theorem dX12_doubted_37 : decode cX12_doubted 37 = .ok (.ifCond .eq 37, 3) := by decide +kernel
theorem dX12_doubted_40 : decode cX12_doubted 40 = .ok (.iload_n 2, 1) := by decide +kernel
theorem dX12_doubted_41 : decode cX12_doubted 41 = .ok (.ifCond .lt 33, 3) := by decide +kernel
theorem dX12_doubted_44 : decode cX12_doubted 44 = .ok (.aload_n 0, 1) := by decide +kernel
theorem dX12_doubted_45 : decode cX12_doubted 45 = .ok (.getfield 257, 3) := by decide +kernel
theorem dX12_doubted_48 : decode cX12_doubted 48 = .ok (.iload_n 1, 1) := by decide +kernel
theorem dX12_doubted_49 : decode cX12_doubted 49 = .ok (.laload, 1) := by decide +kernel
theorem dX12_doubted_50 : decode cX12_doubted 50 = .ok (.iload 4, 2) := by decide +kernel
theorem dX12_doubted_52 : decode cX12_doubted 52 = .ok (.invokestatic 487, 3) := by decide +kernel
theorem dX12_doubted_55 : decode cX12_doubted 55 = .ok (.ifCond .eq 13, 3) := by decide +kernel
theorem dX12_doubted_68 : decode cX12_doubted 68 = .ok (.iinc 4 1, 3) := by decide +kernel
theorem dX12_doubted_71 : decode cX12_doubted 71 = .ok (.goto (-57), 3) := by decide +kernel
theorem dX12_doubted_58 : decode cX12_doubted 58 = .ok (.iload_n 3, 1) := by decide +kernel
theorem dX12_doubted_59 : decode cX12_doubted 59 = .ok (.ifCond .ne 6, 3) := by decide +kernel
theorem dX12_doubted_65 : decode cX12_doubted 65 = .ok (.iinc 3 (-1), 3) := by decide +kernel
theorem dX12_doubted_62 : decode cX12_doubted 62 = .ok (.iload 4, 2) := by decide +kernel
theorem dX12_doubted_64 : decode cX12_doubted 64 = .ok (.ireturn, 1) := by decide +kernel
abbrev cX12_best : ByteArray := prog_14_method_89_code
def yX12_best : MethodName := ⟨RX12, "best", "(I)I"⟩
theorem okX12_best : yok yX12_best 1 := by decide +kernel
theorem dX12_best_0 : decode cX12_best 0 = .ok (.aload_n 0, 1) := by decide +kernel
theorem dX12_best_1 : decode cX12_best 1 = .ok (.iconst 0, 1) := by decide +kernel
theorem dX12_best_2 : decode cX12_best 2 = .ok (.putfield 1, 3) := by decide +kernel
theorem dX12_best_5 : decode cX12_best 5 = .ok (.aload_n 0, 1) := by decide +kernel
theorem dX12_best_6 : decode cX12_best 6 = .ok (.invokevirtual 557, 3) := by decide +kernel
theorem dX12_best_9 : decode cX12_best 9 = .ok (.iload_n 1, 1) := by decide +kernel
theorem dX12_best_10 : decode cX12_best 10 = .ok (.iconst 3, 1) := by decide +kernel
theorem dX12_best_11 : decode cX12_best 11 = .ok (.if_icmp .ne 8, 3) := by decide +kernel
theorem dX12_best_19 : decode cX12_best 19 = .ok (.aload_n 0, 1) := by decide +kernel
theorem dX12_best_20 : decode cX12_best 20 = .ok (.getfield 537, 3) := by decide +kernel
theorem dX12_best_23 : decode cX12_best 23 = .ok (.ifCond .lt 12, 3) := by decide +kernel
theorem dX12_best_35 : decode cX12_best 35 = .ok (.iconst (-1), 1) := by decide +kernel
theorem dX12_best_36 : decode cX12_best 36 = .ok (.goto 44, 3) := by decide +kernel
theorem dX12_best_80 : decode cX12_best 80 = .ok (.ireturn, 1) := by decide +kernel
theorem dX12_best_26 : decode cX12_best 26 = .ok (.iload_n 1, 1) := by decide +kernel
theorem dX12_best_27 : decode cX12_best 27 = .ok (.ifCond .lt 8, 3) := by decide +kernel
theorem dX12_best_30 : decode cX12_best 30 = .ok (.iload_n 1, 1) := by decide +kernel
theorem dX12_best_31 : decode cX12_best 31 = .ok (.iconst 3, 1) := by decide +kernel
theorem dX12_best_32 : decode cX12_best 32 = .ok (.if_icmp .le 7, 3) := by decide +kernel
theorem dX12_best_39 : decode cX12_best 39 = .ok (.iload_n 1, 1) := by decide +kernel
theorem dX12_best_40 : decode cX12_best 40 = .ok (.ifCond .ne 10, 3) := by decide +kernel
theorem dX12_best_50 : decode cX12_best 50 = .ok (.iload_n 1, 1) := by decide +kernel
theorem dX12_best_51 : decode cX12_best 51 = .ok (.iconst 1, 1) := by decide +kernel
theorem dX12_best_52 : decode cX12_best 52 = .ok (.if_icmp .ne 15, 3) := by decide +kernel
theorem dX12_best_67 : decode cX12_best 67 = .ok (.aload_n 0, 1) := by decide +kernel
theorem dX12_best_68 : decode cX12_best 68 = .ok (.aload_n 0, 1) := by decide +kernel
theorem dX12_best_69 : decode cX12_best 69 = .ok (.getfield 257, 3) := by decide +kernel
theorem dX12_best_72 : decode cX12_best 72 = .ok (.aload_n 0, 1) := by decide +kernel
theorem dX12_best_73 : decode cX12_best 73 = .ok (.getfield 537, 3) := by decide +kernel
theorem dX12_best_76 : decode cX12_best 76 = .ok (.laload, 1) := by decide +kernel
theorem dX12_best_77 : decode cX12_best 77 = .ok (.invokevirtual 566, 3) := by decide +kernel
theorem kw_2103 : Cond.code yX12_bitsOf prog_14_method_88_code 5 (some .int) ∈ uu := uu_in (i := 2103) (by decide +kernel) (by decide +kernel)
theorem kw_2100 : Cond.methodLink "LandSurveyModel" 566 yX12_bitsOf ∈ uu := uu_in (i := 2100) (by decide +kernel) (by decide +kernel)
theorem kw_2102 : Cond.instanceMethod yX12_bitsOf ∈ uu := uu_in (i := 2102) (by decide +kernel) (by decide +kernel)
theorem kw_123 : Cond.selects "LandSurveyModel" yX12_bitsOf yX12_bitsOf ∈ uu := uu_in (i := 123) (by decide +kernel) (by decide +kernel)
theorem lk_LandSurveyModel_566 : lkV "LandSurveyModel" 566 yX12_bitsOf cX12_bitsOf 5 (some .int) 1 := ⟨kw_2100, kw_2102, kw_123, kw_152, kw_2103, okX12_bitsOf⟩
theorem dX12_best_55 : decode cX12_best 55 = .ok (.aload_n 0, 1) := by decide +kernel
theorem dX12_best_56 : decode cX12_best 56 = .ok (.getfield 254, 3) := by decide +kernel
theorem dX12_best_59 : decode cX12_best 59 = .ok (.aload_n 0, 1) := by decide +kernel
theorem dX12_best_60 : decode cX12_best 60 = .ok (.getfield 537, 3) := by decide +kernel
theorem dX12_best_63 : decode cX12_best 63 = .ok (.iaload, 1) := by decide +kernel
theorem dX12_best_64 : decode cX12_best 64 = .ok (.goto 16, 3) := by decide +kernel
theorem dX12_best_43 : decode cX12_best 43 = .ok (.aload_n 0, 1) := by decide +kernel
theorem dX12_best_44 : decode cX12_best 44 = .ok (.getfield 537, 3) := by decide +kernel
theorem dX12_best_47 : decode cX12_best 47 = .ok (.goto 33, 3) := by decide +kernel
theorem dX12_best_14 : decode cX12_best 14 = .ok (.aload_n 0, 1) := by decide +kernel
theorem dX12_best_15 : decode cX12_best 15 = .ok (.getfield 546, 3) := by decide +kernel
theorem dX12_best_18 : decode cX12_best 18 = .ok (.ireturn, 1) := by decide +kernel
abbrev cX12_kept : ByteArray := prog_14_method_90_code
def yX12_kept : MethodName := ⟨RX12, "kept", "(I)I"⟩
theorem okX12_kept : yok yX12_kept 1 := by decide +kernel
theorem dX12_kept_0 : decode cX12_kept 0 = .ok (.aload_n 0, 1) := by decide +kernel
theorem dX12_kept_1 : decode cX12_kept 1 = .ok (.iconst 0, 1) := by decide +kernel
theorem dX12_kept_2 : decode cX12_kept 2 = .ok (.putfield 1, 3) := by decide +kernel
theorem dX12_kept_5 : decode cX12_kept 5 = .ok (.aload_n 0, 1) := by decide +kernel
theorem dX12_kept_6 : decode cX12_kept 6 = .ok (.invokevirtual 557, 3) := by decide +kernel
theorem dX12_kept_9 : decode cX12_kept 9 = .ok (.aload_n 0, 1) := by decide +kernel
theorem dX12_kept_10 : decode cX12_kept 10 = .ok (.iload_n 1, 1) := by decide +kernel
theorem dX12_kept_11 : decode cX12_kept 11 = .ok (.invokevirtual 563, 3) := by decide +kernel
theorem dX12_kept_14 : decode cX12_kept 14 = .ok (.ifCond .ne 7, 3) := by decide +kernel
theorem dX12_kept_21 : decode cX12_kept 21 = .ok (.aload_n 0, 1) := by decide +kernel
theorem dX12_kept_22 : decode cX12_kept 22 = .ok (.getfield 260, 3) := by decide +kernel
theorem dX12_kept_25 : decode cX12_kept 25 = .ok (.iload_n 1, 1) := by decide +kernel
theorem dX12_kept_26 : decode cX12_kept 26 = .ok (.baload, 1) := by decide +kernel
theorem dX12_kept_27 : decode cX12_kept 27 = .ok (.ifCond .eq 7, 3) := by decide +kernel
theorem dX12_kept_34 : decode cX12_kept 34 = .ok (.iconst 0, 1) := by decide +kernel
theorem dX12_kept_35 : decode cX12_kept 35 = .ok (.ireturn, 1) := by decide +kernel
theorem dX12_kept_30 : decode cX12_kept 30 = .ok (.iconst 1, 1) := by decide +kernel
theorem dX12_kept_31 : decode cX12_kept 31 = .ok (.goto 4, 3) := by decide +kernel
theorem dX12_kept_17 : decode cX12_kept 17 = .ok (.iconst (-1), 1) := by decide +kernel
theorem dX12_kept_18 : decode cX12_kept 18 = .ok (.goto 17, 3) := by decide +kernel
abbrev cX12_base : ByteArray := prog_14_method_91_code
def yX12_base : MethodName := ⟨RX12, "base", "(IIII)I"⟩
theorem okX12_base : yok yX12_base 4 := by decide +kernel
theorem dX12_base_0 : decode cX12_base 0 = .ok (.aload_n 0, 1) := by decide +kernel
theorem dX12_base_1 : decode cX12_base 1 = .ok (.iconst 1, 1) := by decide +kernel
theorem dX12_base_2 : decode cX12_base 2 = .ok (.putfield 1, 3) := by decide +kernel
theorem dX12_base_5 : decode cX12_base 5 = .ok (.aload_n 0, 1) := by decide +kernel
theorem dX12_base_6 : decode cX12_base 6 = .ok (.iload_n 1, 1) := by decide +kernel
theorem dX12_base_7 : decode cX12_base 7 = .ok (.invokevirtual 563, 3) := by decide +kernel
theorem dX12_base_10 : decode cX12_base 10 = .ok (.ifCond .eq 21, 3) := by decide +kernel
theorem dX12_base_31 : decode cX12_base 31 = .ok (.iconst 0, 1) := by decide +kernel
theorem dX12_base_32 : decode cX12_base 32 = .ok (.ireturn, 1) := by decide +kernel
theorem dX12_base_13 : decode cX12_base 13 = .ok (.iload_n 2, 1) := by decide +kernel
theorem dX12_base_14 : decode cX12_base 14 = .ok (.iload_n 3, 1) := by decide +kernel
theorem dX12_base_15 : decode cX12_base 15 = .ok (.invokestatic 419, 3) := by decide +kernel
theorem dX12_base_18 : decode cX12_base 18 = .ok (.ifCond .eq 13, 3) := by decide +kernel
theorem dX12_base_21 : decode cX12_base 21 = .ok (.iload 4, 2) := by decide +kernel
theorem dX12_base_23 : decode cX12_base 23 = .ok (.iconst 0, 1) := by decide +kernel
theorem dX12_base_24 : decode cX12_base 24 = .ok (.iconst 1, 1) := by decide +kernel
theorem dX12_base_25 : decode cX12_base 25 = .ok (.invokestatic 415, 3) := by decide +kernel
theorem dX12_base_28 : decode cX12_base 28 = .ok (.ifCond .ne 5, 3) := by decide +kernel
theorem dX12_base_33 : decode cX12_base 33 = .ok (.aload_n 0, 1) := by decide +kernel
theorem dX12_base_34 : decode cX12_base 34 = .ok (.invokevirtual 557, 3) := by decide +kernel
theorem dX12_base_37 : decode cX12_base 37 = .ok (.aload_n 0, 1) := by decide +kernel
theorem dX12_base_38 : decode cX12_base 38 = .ok (.aload_n 0, 1) := by decide +kernel
theorem dX12_base_39 : decode cX12_base 39 = .ok (.getfield 251, 3) := by decide +kernel
theorem dX12_base_42 : decode cX12_base 42 = .ok (.iload_n 1, 1) := by decide +kernel
theorem dX12_base_43 : decode cX12_base 43 = .ok (.baload, 1) := by decide +kernel
theorem dX12_base_44 : decode cX12_base 44 = .ok (.ifCond .eq 16, 3) := by decide +kernel
theorem dX12_base_60 : decode cX12_base 60 = .ok (.iconst 1, 1) := by decide +kernel
theorem dX12_base_61 : decode cX12_base 61 = .ok (.putfield 1, 3) := by decide +kernel
theorem dX12_base_64 : decode cX12_base 64 = .ok (.aload_n 0, 1) := by decide +kernel
theorem dX12_base_65 : decode cX12_base 65 = .ok (.getfield 1, 3) := by decide +kernel
theorem dX12_base_68 : decode cX12_base 68 = .ok (.ifCond .le 7, 3) := by decide +kernel
theorem dX12_base_71 : decode cX12_base 71 = .ok (.iconst 0, 1) := by decide +kernel
theorem dX12_base_72 : decode cX12_base 72 = .ok (.goto 43, 3) := by decide +kernel
theorem dX12_base_115 : decode cX12_base 115 = .ok (.ireturn, 1) := by decide +kernel
theorem dX12_base_47 : decode cX12_base 47 = .ok (.aload_n 0, 1) := by decide +kernel
theorem dX12_base_48 : decode cX12_base 48 = .ok (.getfield 263, 3) := by decide +kernel
theorem dX12_base_51 : decode cX12_base 51 = .ok (.iload_n 1, 1) := by decide +kernel
theorem dX12_base_52 : decode cX12_base 52 = .ok (.baload, 1) := by decide +kernel
theorem dX12_base_53 : decode cX12_base 53 = .ok (.ifCond .eq 7, 3) := by decide +kernel
theorem dX12_base_56 : decode cX12_base 56 = .ok (.iconst 0, 1) := by decide +kernel
theorem dX12_base_57 : decode cX12_base 57 = .ok (.goto 4, 3) := by decide +kernel
theorem dX12_base_75 : decode cX12_base 75 = .ok (.iload 4, 2) := by decide +kernel
theorem dX12_base_77 : decode cX12_base 77 = .ok (.ifCond .ne 22, 3) := by decide +kernel
theorem dX12_base_99 : decode cX12_base 99 = .ok (.aload_n 0, 1) := by decide +kernel
theorem dX12_base_100 : decode cX12_base 100 = .ok (.getfield 269, 3) := by decide +kernel
theorem dX12_base_103 : decode cX12_base 103 = .ok (.bipush 96, 2) := by decide +kernel
theorem dX12_base_105 : decode cX12_base 105 = .ok (.iload_n 1, 1) := by decide +kernel
theorem dX12_base_106 : decode cX12_base 106 = .ok (.imul, 1) := by decide +kernel
theorem dX12_base_107 : decode cX12_base 107 = .ok (.bipush 12, 2) := by decide +kernel
theorem dX12_base_109 : decode cX12_base 109 = .ok (.iload_n 3, 1) := by decide +kernel
theorem dX12_base_110 : decode cX12_base 110 = .ok (.imul, 1) := by decide +kernel
theorem dX12_base_111 : decode cX12_base 111 = .ok (.iadd, 1) := by decide +kernel
theorem dX12_base_112 : decode cX12_base 112 = .ok (.iload_n 2, 1) := by decide +kernel
theorem dX12_base_113 : decode cX12_base 113 = .ok (.iadd, 1) := by decide +kernel
theorem dX12_base_114 : decode cX12_base 114 = .ok (.iaload, 1) := by decide +kernel
theorem dX12_base_80 : decode cX12_base 80 = .ok (.aload_n 0, 1) := by decide +kernel
theorem dX12_base_81 : decode cX12_base 81 = .ok (.getfield 266, 3) := by decide +kernel
theorem dX12_base_84 : decode cX12_base 84 = .ok (.bipush 96, 2) := by decide +kernel
theorem dX12_base_86 : decode cX12_base 86 = .ok (.iload_n 1, 1) := by decide +kernel
theorem dX12_base_87 : decode cX12_base 87 = .ok (.imul, 1) := by decide +kernel
theorem dX12_base_88 : decode cX12_base 88 = .ok (.bipush 12, 2) := by decide +kernel
theorem dX12_base_90 : decode cX12_base 90 = .ok (.iload_n 3, 1) := by decide +kernel
theorem dX12_base_91 : decode cX12_base 91 = .ok (.imul, 1) := by decide +kernel
theorem dX12_base_92 : decode cX12_base 92 = .ok (.iadd, 1) := by decide +kernel
theorem dX12_base_93 : decode cX12_base 93 = .ok (.iload_n 2, 1) := by decide +kernel
theorem dX12_base_94 : decode cX12_base 94 = .ok (.iadd, 1) := by decide +kernel
theorem dX12_base_95 : decode cX12_base 95 = .ok (.iaload, 1) := by decide +kernel
theorem dX12_base_96 : decode cX12_base 96 = .ok (.goto 19, 3) := by decide +kernel
abbrev cX12_lies : ByteArray := prog_14_method_95_code
def yX12_lies : MethodName := ⟨RX12, "lies", "(III)I"⟩
theorem okX12_lies : yok yX12_lies 3 := by decide +kernel
theorem dX12_lies_0 : decode cX12_lies 0 = .ok (.aload_n 0, 1) := by decide +kernel
theorem dX12_lies_1 : decode cX12_lies 1 = .ok (.iconst 0, 1) := by decide +kernel
theorem dX12_lies_2 : decode cX12_lies 2 = .ok (.putfield 1, 3) := by decide +kernel
theorem dX12_lies_5 : decode cX12_lies 5 = .ok (.iload_n 1, 1) := by decide +kernel
theorem dX12_lies_6 : decode cX12_lies 6 = .ok (.iload_n 2, 1) := by decide +kernel
theorem dX12_lies_7 : decode cX12_lies 7 = .ok (.invokestatic 419, 3) := by decide +kernel
theorem dX12_lies_10 : decode cX12_lies 10 = .ok (.ifCond .eq 14, 3) := by decide +kernel
theorem dX12_lies_24 : decode cX12_lies 24 = .ok (.iconst (-1), 1) := by decide +kernel
theorem dX12_lies_25 : decode cX12_lies 25 = .ok (.ireturn, 1) := by decide +kernel
theorem dX12_lies_13 : decode cX12_lies 13 = .ok (.iload_n 3, 1) := by decide +kernel
theorem dX12_lies_14 : decode cX12_lies 14 = .ok (.iconst 0, 1) := by decide +kernel
theorem dX12_lies_15 : decode cX12_lies 15 = .ok (.sipush 2000, 3) := by decide +kernel
theorem dX12_lies_18 : decode cX12_lies 18 = .ok (.invokestatic 415, 3) := by decide +kernel
theorem dX12_lies_21 : decode cX12_lies 21 = .ok (.ifCond .ne 5, 3) := by decide +kernel
theorem dX12_lies_26 : decode cX12_lies 26 = .ok (.aload_n 0, 1) := by decide +kernel
theorem dX12_lies_27 : decode cX12_lies 27 = .ok (.invokevirtual 557, 3) := by decide +kernel
theorem dX12_lies_30 : decode cX12_lies 30 = .ok (.aload_n 0, 1) := by decide +kernel
theorem dX12_lies_31 : decode cX12_lies 31 = .ok (.getfield 546, 3) := by decide +kernel
theorem dX12_lies_34 : decode cX12_lies 34 = .ok (.ifCond .ne 7, 3) := by decide +kernel
theorem dX12_lies_41 : decode cX12_lies 41 = .ok (.aload_n 0, 1) := by decide +kernel
theorem dX12_lies_42 : decode cX12_lies 42 = .ok (.bipush 12, 2) := by decide +kernel
theorem dX12_lies_44 : decode cX12_lies 44 = .ok (.iload_n 2, 1) := by decide +kernel
theorem dX12_lies_45 : decode cX12_lies 45 = .ok (.imul, 1) := by decide +kernel
theorem dX12_lies_46 : decode cX12_lies 46 = .ok (.iload_n 1, 1) := by decide +kernel
theorem dX12_lies_47 : decode cX12_lies 47 = .ok (.iadd, 1) := by decide +kernel
theorem dX12_lies_48 : decode cX12_lies 48 = .ok (.iload_n 3, 1) := by decide +kernel
theorem dX12_lies_49 : decode cX12_lies 49 = .ok (.invokevirtual 575, 3) := by decide +kernel
theorem kw_2119 : Cond.code yX12_mayLieAll prog_14_method_94_code 5 (some .int) ∈ uu := uu_in (i := 2119) (by decide +kernel) (by decide +kernel)
theorem kw_2116 : Cond.methodLink "LandSurveyModel" 575 yX12_mayLieAll ∈ uu := uu_in (i := 2116) (by decide +kernel) (by decide +kernel)
theorem kw_2118 : Cond.instanceMethod yX12_mayLieAll ∈ uu := uu_in (i := 2118) (by decide +kernel) (by decide +kernel)
theorem kw_124 : Cond.selects "LandSurveyModel" yX12_mayLieAll yX12_mayLieAll ∈ uu := uu_in (i := 124) (by decide +kernel) (by decide +kernel)
theorem lk_LandSurveyModel_575 : lkV "LandSurveyModel" 575 yX12_mayLieAll cX12_mayLieAll 5 (some .int) 2 := ⟨kw_2116, kw_2118, kw_124, kw_152, kw_2119, okX12_mayLieAll⟩
theorem dX12_lies_52 : decode cX12_lies 52 = .ok (.ireturn, 1) := by decide +kernel
theorem dX12_lies_37 : decode cX12_lies 37 = .ok (.iconst (-1), 1) := by decide +kernel
theorem dX12_lies_38 : decode cX12_lies 38 = .ok (.goto 14, 3) := by decide +kernel
abbrev cX12_line : ByteArray := prog_14_method_97_code
def yX12_line : MethodName := ⟨RX12, "line", "(III)I"⟩
theorem okX12_line : yok yX12_line 3 := by decide +kernel
theorem dX12_line_0 : decode cX12_line 0 = .ok (.aload_n 0, 1) := by decide +kernel
theorem dX12_line_1 : decode cX12_line 1 = .ok (.iconst 0, 1) := by decide +kernel
theorem dX12_line_2 : decode cX12_line 2 = .ok (.putfield 1, 3) := by decide +kernel
theorem dX12_line_5 : decode cX12_line 5 = .ok (.iload_n 1, 1) := by decide +kernel
theorem dX12_line_6 : decode cX12_line 6 = .ok (.iload_n 2, 1) := by decide +kernel
theorem dX12_line_7 : decode cX12_line 7 = .ok (.invokestatic 419, 3) := by decide +kernel
theorem dX12_line_10 : decode cX12_line 10 = .ok (.ifCond .eq 25, 3) := by decide +kernel
theorem dX12_line_35 : decode cX12_line 35 = .ok (.iconst (-1), 1) := by decide +kernel
theorem dX12_line_36 : decode cX12_line 36 = .ok (.ireturn, 1) := by decide +kernel
theorem dX12_line_13 : decode cX12_line 13 = .ok (.iload_n 3, 1) := by decide +kernel
theorem dX12_line_14 : decode cX12_line 14 = .ok (.iconst 0, 1) := by decide +kernel
theorem dX12_line_15 : decode cX12_line 15 = .ok (.iconst 3, 1) := by decide +kernel
theorem dX12_line_16 : decode cX12_line 16 = .ok (.invokestatic 415, 3) := by decide +kernel
theorem dX12_line_19 : decode cX12_line 19 = .ok (.ifCond .eq 16, 3) := by decide +kernel
theorem dX12_line_22 : decode cX12_line 22 = .ok (.bipush 12, 2) := by decide +kernel
theorem dX12_line_24 : decode cX12_line 24 = .ok (.iload_n 2, 1) := by decide +kernel
theorem dX12_line_25 : decode cX12_line 25 = .ok (.imul, 1) := by decide +kernel
theorem dX12_line_26 : decode cX12_line 26 = .ok (.iload_n 1, 1) := by decide +kernel
theorem dX12_line_27 : decode cX12_line 27 = .ok (.iadd, 1) := by decide +kernel
theorem dX12_line_28 : decode cX12_line 28 = .ok (.iload_n 3, 1) := by decide +kernel
theorem dX12_line_29 : decode cX12_line 29 = .ok (.invokestatic 491, 3) := by decide +kernel
theorem dX12_line_32 : decode cX12_line 32 = .ok (.ifCond .ge 5, 3) := by decide +kernel
theorem dX12_line_37 : decode cX12_line 37 = .ok (.aload_n 0, 1) := by decide +kernel
theorem dX12_line_38 : decode cX12_line 38 = .ok (.invokevirtual 557, 3) := by decide +kernel
theorem dX12_line_41 : decode cX12_line 41 = .ok (.aload_n 0, 1) := by decide +kernel
theorem dX12_line_42 : decode cX12_line 42 = .ok (.getfield 546, 3) := by decide +kernel
theorem dX12_line_45 : decode cX12_line 45 = .ok (.ifCond .ne 5, 3) := by decide +kernel
theorem dX12_line_50 : decode cX12_line 50 = .ok (.iconst 0, 1) := by decide +kernel
theorem dX12_line_51 : decode cX12_line 51 = .ok (.istore 4, 2) := by decide +kernel
theorem dX12_line_53 : decode cX12_line 53 = .ok (.iconst 0, 1) := by decide +kernel
theorem dX12_line_54 : decode cX12_line 54 = .ok (.istore 5, 2) := by decide +kernel
theorem dX12_line_56 : decode cX12_line 56 = .ok (.iconst 0, 1) := by decide +kernel
theorem dX12_line_57 : decode cX12_line 57 = .ok (.istore 6, 2) := by decide +kernel
theorem dX12_line_59 : decode cX12_line 59 = .ok (.iconst 0, 1) := by decide +kernel
theorem dX12_line_60 : decode cX12_line 60 = .ok (.istore 7, 2) := by decide +kernel
theorem dX12_line_62 : decode cX12_line 62 = .ok (.iload 7, 2) := by decide +kernel
theorem dX12_line_64 : decode cX12_line 64 = .ok (.iconst 1, 1) := by decide +kernel
theorem dX12_line_65 : decode cX12_line 65 = .ok (.aload_n 0, 1) := by decide +kernel
theorem dX12_line_66 : decode cX12_line 66 = .ok (.getfield 477, 3) := by decide +kernel
theorem dX12_line_69 : decode cX12_line 69 = .ok (.ishl, 1) := by decide +kernel
theorem dX12_line_70 : decode cX12_line 70 = .ok (.if_icmp .ge 129, 3) := by decide +kernel
theorem dX12_line_199 : decode cX12_line 199 = .ok (.iconst 0, 1) := by decide +kernel
theorem dX12_line_200 : decode cX12_line 200 = .ok (.istore 7, 2) := by decide +kernel
theorem dX12_line_202 : decode cX12_line 202 = .ok (.iload 7, 2) := by decide +kernel
theorem dX12_line_204 : decode cX12_line 204 = .ok (.bipush 12, 2) := by decide +kernel
theorem dX12_line_206 : decode cX12_line 206 = .ok (.if_icmp .ge 17, 3) := by decide +kernel
theorem dX12_line_223 : decode cX12_line 223 = .ok (.aload_n 0, 1) := by decide +kernel
theorem dX12_line_224 : decode cX12_line 224 = .ok (.getfield 155, 3) := by decide +kernel
theorem dX12_line_227 : decode cX12_line 227 = .ok (.bipush 8, 2) := by decide +kernel
theorem dX12_line_229 : decode cX12_line 229 = .ok (.sipush 1000, 3) := by decide +kernel
theorem dX12_line_232 : decode cX12_line 232 = .ok (.iload 4, 2) := by decide +kernel
theorem dX12_line_234 : decode cX12_line 234 = .ok (.imul, 1) := by decide +kernel
theorem dX12_line_235 : decode cX12_line 235 = .ok (.aload_n 0, 1) := by decide +kernel
theorem dX12_line_236 : decode cX12_line 236 = .ok (.getfield 546, 3) := by decide +kernel
theorem dX12_line_239 : decode cX12_line 239 = .ok (.idiv, 1) := by decide +kernel
theorem dX12_line_240 : decode cX12_line 240 = .ok (.iastore, 1) := by decide +kernel
theorem dX12_line_241 : decode cX12_line 241 = .ok (.aload_n 0, 1) := by decide +kernel
theorem dX12_line_242 : decode cX12_line 242 = .ok (.getfield 155, 3) := by decide +kernel
theorem dX12_line_245 : decode cX12_line 245 = .ok (.bipush 9, 2) := by decide +kernel
theorem dX12_line_247 : decode cX12_line 247 = .ok (.sipush 1000, 3) := by decide +kernel
theorem dX12_line_250 : decode cX12_line 250 = .ok (.iload 5, 2) := by decide +kernel
theorem dX12_line_252 : decode cX12_line 252 = .ok (.imul, 1) := by decide +kernel
theorem dX12_line_253 : decode cX12_line 253 = .ok (.aload_n 0, 1) := by decide +kernel
theorem dX12_line_254 : decode cX12_line 254 = .ok (.getfield 546, 3) := by decide +kernel
theorem dX12_line_257 : decode cX12_line 257 = .ok (.idiv, 1) := by decide +kernel
theorem dX12_line_258 : decode cX12_line 258 = .ok (.iastore, 1) := by decide +kernel
theorem dX12_line_259 : decode cX12_line 259 = .ok (.aload_n 0, 1) := by decide +kernel
theorem dX12_line_260 : decode cX12_line 260 = .ok (.getfield 155, 3) := by decide +kernel
theorem dX12_line_263 : decode cX12_line 263 = .ok (.bipush 10, 2) := by decide +kernel
theorem dX12_line_265 : decode cX12_line 265 = .ok (.sipush 1000, 3) := by decide +kernel
theorem dX12_line_268 : decode cX12_line 268 = .ok (.iload 6, 2) := by decide +kernel
theorem dX12_line_270 : decode cX12_line 270 = .ok (.imul, 1) := by decide +kernel
theorem dX12_line_271 : decode cX12_line 271 = .ok (.aload_n 0, 1) := by decide +kernel
theorem dX12_line_272 : decode cX12_line 272 = .ok (.getfield 546, 3) := by decide +kernel
theorem dX12_line_275 : decode cX12_line 275 = .ok (.idiv, 1) := by decide +kernel
theorem dX12_line_276 : decode cX12_line 276 = .ok (.iastore, 1) := by decide +kernel
theorem dX12_line_277 : decode cX12_line 277 = .ok (.aload_n 0, 1) := by decide +kernel
theorem dX12_line_278 : decode cX12_line 278 = .ok (.getfield 155, 3) := by decide +kernel
theorem dX12_line_281 : decode cX12_line 281 = .ok (.bipush 11, 2) := by decide +kernel
theorem dX12_line_283 : decode cX12_line 283 = .ok (.aload_n 0, 1) := by decide +kernel
theorem dX12_line_284 : decode cX12_line 284 = .ok (.getfield 546, 3) := by decide +kernel
theorem dX12_line_287 : decode cX12_line 287 = .ok (.iastore, 1) := by decide +kernel
theorem dX12_line_288 : decode cX12_line 288 = .ok (.aload_n 0, 1) := by decide +kernel
theorem dX12_line_289 : decode cX12_line 289 = .ok (.iconst 3, 1) := by decide +kernel
theorem dX12_line_290 : decode cX12_line 290 = .ok (.invokevirtual 441, 3) := by decide +kernel
theorem dX12_line_293 : decode cX12_line 293 = .ok (.istore 7, 2) := by decide +kernel
theorem dX12_line_295 : decode cX12_line 295 = .ok (.iload 7, 2) := by decide +kernel
theorem dX12_line_297 : decode cX12_line 297 = .ok (.ifCond .lt 21, 3) := by decide +kernel
theorem dX12_line_318 : decode cX12_line 318 = .ok (.aload_n 0, 1) := by decide +kernel
theorem dX12_line_319 : decode cX12_line 319 = .ok (.getfield 155, 3) := by decide +kernel
theorem dX12_line_322 : decode cX12_line 322 = .ok (.bipush 8, 2) := by decide +kernel
theorem dX12_line_324 : decode cX12_line 324 = .ok (.iaload, 1) := by decide +kernel
theorem dX12_line_325 : decode cX12_line 325 = .ok (.sipush 1000, 3) := by decide +kernel
theorem dX12_line_328 : decode cX12_line 328 = .ok (.if_icmp .ne 7, 3) := by decide +kernel
theorem dX12_line_335 : decode cX12_line 335 = .ok (.aload_n 0, 1) := by decide +kernel
theorem dX12_line_336 : decode cX12_line 336 = .ok (.getfield 155, 3) := by decide +kernel
theorem dX12_line_339 : decode cX12_line 339 = .ok (.bipush 9, 2) := by decide +kernel
theorem dX12_line_341 : decode cX12_line 341 = .ok (.iaload, 1) := by decide +kernel
theorem dX12_line_342 : decode cX12_line 342 = .ok (.sipush 1000, 3) := by decide +kernel
theorem dX12_line_345 : decode cX12_line 345 = .ok (.if_icmp .ne 7, 3) := by decide +kernel
theorem dX12_line_352 : decode cX12_line 352 = .ok (.aload_n 0, 1) := by decide +kernel
theorem dX12_line_353 : decode cX12_line 353 = .ok (.getfield 155, 3) := by decide +kernel
theorem dX12_line_356 : decode cX12_line 356 = .ok (.bipush 10, 2) := by decide +kernel
theorem dX12_line_358 : decode cX12_line 358 = .ok (.iaload, 1) := by decide +kernel
theorem dX12_line_359 : decode cX12_line 359 = .ok (.sipush 1000, 3) := by decide +kernel
theorem dX12_line_362 : decode cX12_line 362 = .ok (.if_icmp .ne 7, 3) := by decide +kernel
theorem dX12_line_369 : decode cX12_line 369 = .ok (.iconst 1, 1) := by decide +kernel
theorem dX12_line_370 : decode cX12_line 370 = .ok (.ireturn, 1) := by decide +kernel
theorem dX12_line_365 : decode cX12_line 365 = .ok (.iconst 0, 1) := by decide +kernel
theorem dX12_line_366 : decode cX12_line 366 = .ok (.goto 4, 3) := by decide +kernel
theorem dX12_line_348 : decode cX12_line 348 = .ok (.iconst 2, 1) := by decide +kernel
theorem dX12_line_349 : decode cX12_line 349 = .ok (.goto 21, 3) := by decide +kernel
theorem dX12_line_331 : decode cX12_line 331 = .ok (.iconst 3, 1) := by decide +kernel
theorem dX12_line_332 : decode cX12_line 332 = .ok (.goto 38, 3) := by decide +kernel
theorem dX12_line_300 : decode cX12_line 300 = .ok (.aload_n 0, 1) := by decide +kernel
theorem dX12_line_301 : decode cX12_line 301 = .ok (.getfield 143, 3) := by decide +kernel
theorem dX12_line_304 : decode cX12_line 304 = .ok (.bipush 24, 2) := by decide +kernel
theorem dX12_line_306 : decode cX12_line 306 = .ok (.aload_n 0, 1) := by decide +kernel
theorem dX12_line_307 : decode cX12_line 307 = .ok (.invokevirtual 432, 3) := by decide +kernel
theorem dX12_line_310 : decode cX12_line 310 = .ok (.imul, 1) := by decide +kernel
theorem dX12_line_311 : decode cX12_line 311 = .ok (.iload 7, 2) := by decide +kernel
theorem dX12_line_313 : decode cX12_line 313 = .ok (.iadd, 1) := by decide +kernel
theorem dX12_line_314 : decode cX12_line 314 = .ok (.iaload, 1) := by decide +kernel
theorem dX12_line_315 : decode cX12_line 315 = .ok (.goto 55, 3) := by decide +kernel
theorem dX12_line_209 : decode cX12_line 209 = .ok (.aload_n 0, 1) := by decide +kernel
theorem dX12_line_210 : decode cX12_line 210 = .ok (.getfield 155, 3) := by decide +kernel
theorem dX12_line_213 : decode cX12_line 213 = .ok (.iload 7, 2) := by decide +kernel
theorem dX12_line_215 : decode cX12_line 215 = .ok (.iconst 0, 1) := by decide +kernel
theorem dX12_line_216 : decode cX12_line 216 = .ok (.iastore, 1) := by decide +kernel
theorem dX12_line_217 : decode cX12_line 217 = .ok (.iinc 7 1, 3) := by decide +kernel
theorem dX12_line_220 : decode cX12_line 220 = .ok (.goto (-18), 3) := by decide +kernel
theorem dX12_line_73 : decode cX12_line 73 = .ok (.aload_n 0, 1) := by decide +kernel
theorem dX12_line_74 : decode cX12_line 74 = .ok (.getfield 260, 3) := by decide +kernel
theorem dX12_line_77 : decode cX12_line 77 = .ok (.iload 7, 2) := by decide +kernel
theorem dX12_line_79 : decode cX12_line 79 = .ok (.baload, 1) := by decide +kernel
theorem dX12_line_80 : decode cX12_line 80 = .ok (.ifCond .eq 113, 3) := by decide +kernel
theorem dX12_line_193 : decode cX12_line 193 = .ok (.iinc 7 1, 3) := by decide +kernel
theorem dX12_line_196 : decode cX12_line 196 = .ok (.goto (-134), 3) := by decide +kernel
theorem dX12_line_83 : decode cX12_line 83 = .ok (.aload_n 0, 1) := by decide +kernel
theorem dX12_line_84 : decode cX12_line 84 = .ok (.iload 7, 2) := by decide +kernel
theorem dX12_line_86 : decode cX12_line 86 = .ok (.bipush 12, 2) := by decide +kernel
theorem dX12_line_88 : decode cX12_line 88 = .ok (.iload_n 2, 1) := by decide +kernel
theorem dX12_line_89 : decode cX12_line 89 = .ok (.imul, 1) := by decide +kernel
theorem dX12_line_90 : decode cX12_line 90 = .ok (.iload_n 1, 1) := by decide +kernel
theorem dX12_line_91 : decode cX12_line 91 = .ok (.iadd, 1) := by decide +kernel
theorem dX12_line_92 : decode cX12_line 92 = .ok (.iconst 0, 1) := by decide +kernel
theorem dX12_line_93 : decode cX12_line 93 = .ok (.invokevirtual 572, 3) := by decide +kernel
theorem dX12_line_96 : decode cX12_line 96 = .ok (.istore 8, 2) := by decide +kernel
theorem dX12_line_98 : decode cX12_line 98 = .ok (.aload_n 0, 1) := by decide +kernel
theorem dX12_line_99 : decode cX12_line 99 = .ok (.iload 7, 2) := by decide +kernel
theorem dX12_line_101 : decode cX12_line 101 = .ok (.bipush 12, 2) := by decide +kernel
theorem dX12_line_103 : decode cX12_line 103 = .ok (.iload_n 2, 1) := by decide +kernel
theorem dX12_line_104 : decode cX12_line 104 = .ok (.imul, 1) := by decide +kernel
theorem dX12_line_105 : decode cX12_line 105 = .ok (.iload_n 1, 1) := by decide +kernel
theorem dX12_line_106 : decode cX12_line 106 = .ok (.iadd, 1) := by decide +kernel
theorem dX12_line_107 : decode cX12_line 107 = .ok (.iload_n 3, 1) := by decide +kernel
theorem dX12_line_108 : decode cX12_line 108 = .ok (.invokestatic 491, 3) := by decide +kernel
theorem dX12_line_111 : decode cX12_line 111 = .ok (.iconst 0, 1) := by decide +kernel
theorem dX12_line_112 : decode cX12_line 112 = .ok (.invokevirtual 572, 3) := by decide +kernel
theorem dX12_line_115 : decode cX12_line 115 = .ok (.istore 9, 2) := by decide +kernel
theorem dX12_line_117 : decode cX12_line 117 = .ok (.iload 4, 2) := by decide +kernel
theorem dX12_line_119 : decode cX12_line 119 = .ok (.iload 8, 2) := by decide +kernel
theorem dX12_line_121 : decode cX12_line 121 = .ok (.invokestatic 578, 3) := by decide +kernel
theorem kw_2134 : Cond.code yX12_isOne prog_14_method_96_code 1 (some .boolean) ∈ uu := uu_in (i := 2134) (by decide +kernel) (by decide +kernel)
theorem kw_2132 : Cond.methodLink "LandSurveyModel" 578 yX12_isOne ∈ uu := uu_in (i := 2132) (by decide +kernel) (by decide +kernel)
theorem kw_2133 : Cond.static yX12_isOne ∈ uu := uu_in (i := 2133) (by decide +kernel) (by decide +kernel)
theorem lk_LandSurveyModel_578 : lkS "LandSurveyModel" 578 yX12_isOne cX12_isOne 1 (some .boolean) 1 := ⟨kw_2132, kw_2133, kw_152, kw_2134, okX12_isOne⟩
theorem dX12_line_124 : decode cX12_line 124 = .ok (.ifCond .eq 22, 3) := by decide +kernel
theorem dX12_line_146 : decode cX12_line 146 = .ok (.iconst 0, 1) := by decide +kernel
theorem dX12_line_147 : decode cX12_line 147 = .ok (.iadd, 1) := by decide +kernel
theorem dX12_line_148 : decode cX12_line 148 = .ok (.istore 4, 2) := by decide +kernel
theorem dX12_line_150 : decode cX12_line 150 = .ok (.iload 5, 2) := by decide +kernel
theorem dX12_line_152 : decode cX12_line 152 = .ok (.iload 8, 2) := by decide +kernel
theorem dX12_line_154 : decode cX12_line 154 = .ok (.iload 9, 2) := by decide +kernel
theorem dX12_line_156 : decode cX12_line 156 = .ok (.iand, 1) := by decide +kernel
theorem dX12_line_157 : decode cX12_line 157 = .ok (.ifCond .ne 7, 3) := by decide +kernel
theorem dX12_line_164 : decode cX12_line 164 = .ok (.iconst 0, 1) := by decide +kernel
theorem dX12_line_165 : decode cX12_line 165 = .ok (.iadd, 1) := by decide +kernel
theorem dX12_line_166 : decode cX12_line 166 = .ok (.istore 5, 2) := by decide +kernel
theorem dX12_line_168 : decode cX12_line 168 = .ok (.iload 6, 2) := by decide +kernel
theorem dX12_line_170 : decode cX12_line 170 = .ok (.iload 8, 2) := by decide +kernel
theorem dX12_line_172 : decode cX12_line 172 = .ok (.invokestatic 578, 3) := by decide +kernel
theorem dX12_line_175 : decode cX12_line 175 = .ok (.ifCond .eq 14, 3) := by decide +kernel
theorem dX12_line_189 : decode cX12_line 189 = .ok (.iconst 0, 1) := by decide +kernel
theorem dX12_line_190 : decode cX12_line 190 = .ok (.iadd, 1) := by decide +kernel
theorem dX12_line_191 : decode cX12_line 191 = .ok (.istore 6, 2) := by decide +kernel
theorem dX12_line_178 : decode cX12_line 178 = .ok (.iload 8, 2) := by decide +kernel
theorem dX12_line_180 : decode cX12_line 180 = .ok (.iload 9, 2) := by decide +kernel
theorem dX12_line_182 : decode cX12_line 182 = .ok (.if_icmp .ne 7, 3) := by decide +kernel
theorem dX12_line_185 : decode cX12_line 185 = .ok (.iconst 1, 1) := by decide +kernel
theorem dX12_line_186 : decode cX12_line 186 = .ok (.goto 4, 3) := by decide +kernel
theorem dX12_line_160 : decode cX12_line 160 = .ok (.iconst 1, 1) := by decide +kernel
theorem dX12_line_161 : decode cX12_line 161 = .ok (.goto 4, 3) := by decide +kernel
theorem dX12_line_127 : decode cX12_line 127 = .ok (.iload 9, 2) := by decide +kernel
theorem dX12_line_129 : decode cX12_line 129 = .ok (.invokestatic 578, 3) := by decide +kernel
theorem dX12_line_132 : decode cX12_line 132 = .ok (.ifCond .eq 14, 3) := by decide +kernel
theorem dX12_line_135 : decode cX12_line 135 = .ok (.iload 8, 2) := by decide +kernel
theorem dX12_line_137 : decode cX12_line 137 = .ok (.iload 9, 2) := by decide +kernel
theorem dX12_line_139 : decode cX12_line 139 = .ok (.if_icmp .eq 7, 3) := by decide +kernel
theorem dX12_line_142 : decode cX12_line 142 = .ok (.iconst 1, 1) := by decide +kernel
theorem dX12_line_143 : decode cX12_line 143 = .ok (.goto 4, 3) := by decide +kernel
theorem dX12_line_48 : decode cX12_line 48 = .ok (.iconst (-1), 1) := by decide +kernel
theorem dX12_line_49 : decode cX12_line 49 = .ok (.ireturn, 1) := by decide +kernel
def wr_k_X12_topFrom : List Nat := []
set_option maxRecDepth 100000 in
set_option maxHeartbeats 4000000 in
theorem k_X12_topFrom (l : Launch) (D : va_G) (cy : Nat → ClassId) (w : Nat → Nat) (z0 : Nat)  {h : Hp} {a0 : Nat} {a1 : Int} {a2 : Int}  (O : Okh h) (ta0 : Tg h a0 = 12) (fa1 : 0 ≤ a1 ∧ a1 ≤ 9) (fa2 : 0 ≤ a2 ∧ a2 ≤ 95) (P_bn : 0 ≤ BNow h a0) : MI l D cy w z0 yX12_topFrom cX12_topFrom 3 (some .int) 4 87 0 0 [.inr (.inr a0), .inl a1, .inl a2] h (fun v h1 => Okh h1 ∧ Fx wr_k_X12_topFrom h h1 ∧ ((-2147483648) ≤ v ∧ v ≤ 2147483647)) := by
  obtain ⟨v1, e2⟩ : ∃ z, BNow h a0 = z := ⟨_, rfl⟩
  have f3 : (-1 : Int) ≤ v1 ∧ v1 ≤ (7 : Int) := BNow_rng O ta0 e2
  rw [e2] at P_bn
  have f4 : (0 : Int) ≤ v1 ∧ v1 ≤ (7 : Int) := by omega
  refine hm_go (by decide +kernel) (Nat.le_of_ble_eq_true rfl) (fun p e s m below meth c C hr hn => ?_)
  refine g_aload_n C rfl 0 rfl dX12_topFrom_0 ?_
  obtain ⟨v5, e6⟩ : ∃ z, Rv h a0 36 = z := ⟨_, rfl⟩
  have t7 := ok_R O ta0 rE_12_36 e6
  have l8 := ok_L O ta0 rE_12_36 e6
  refine gf_R C fk_LandSurveyModel_161 rfl ta0 e6 dX12_topFrom_1 ?_
  refine g_iload_n C rfl 2 rfl dX12_topFrom_4 ?_
  obtain ⟨v9, e10⟩ : ∃ z, Iv h v5 a2.toNat = z := ⟨_, rfl⟩
  have f11 := ok_Ia O t7 ar_136100 rI_136100_0 e10
  refine g_iald C t7 rfl l8 (ix fa2 (by decide) (by decide)) e10 dX12_topFrom_5 ?_
  refine g_aload_n C rfl 0 rfl dX12_topFrom_6 ?_
  refine g_iload_n C rfl 2 rfl dX12_topFrom_7 ?_
  refine g_callI (st := [.inl v9]) (gc_V C lk_LandSurveyModel_582 (k_X12_greatestHigh l D cy w z0 O ta0 fa2) ta0 rfl rfl rfl ⟨by decide, by decide⟩ (Nat.le_of_ble_eq_true rfl) dX12_topFrom_8 ⟨(by decide), (by decide)⟩) (fun r12 h13 f15 K14 => ?_)
  obtain ⟨O16, F17, f18⟩ := K14
  have f19 : (-2147483648 : Int) ≤ (w32 (v9 - r12)) ∧ (w32 (v9 - r12)) ≤ (2147483647 : Int) := w32_inR _
  refine g_isubW C dX12_topFrom_11 ?_
  refine g_aload_n C rfl 0 rfl dX12_topFrom_12 ?_
  refine g_iload_n C rfl 1 rfl dX12_topFrom_13 ?_
  refine g_iload_n C rfl 2 rfl dX12_topFrom_14 ?_
  have e20 : Tg h13 a0 = 12 := (fxT F17 ta0)
  refine g_callI (st := [.inl (w32 (v9 - r12))]) (gc_V C lk_LandSurveyModel_468 (k_X12_underHigh l D cy w z0 O16 e20 (iw fa1 (by decide) (by decide)) fa2) e20 rfl rfl rfl ⟨by decide, by decide⟩ (Nat.le_of_ble_eq_true rfl) dX12_topFrom_15 ⟨(by decide), (by decide)⟩) (fun r21 h22 f24 K23 => ?_)
  obtain ⟨O25, F26, f27⟩ := K23
  have f28 : (-2147483648 : Int) ≤ (w32 ((w32 (v9 - r12)) - r21)) ∧ (w32 ((w32 (v9 - r12)) - r21)) ≤ (2147483647 : Int) := w32_inR _
  refine g_isubW C dX12_topFrom_18 ?_
  refine g_aload_n C rfl 0 rfl dX12_topFrom_19 ?_
  refine g_iload_n C rfl 1 rfl dX12_topFrom_20 ?_
  have e29 : Tg h22 a0 = 12 := (fxT F26 e20)
  have p30 := ((BNow_fx O16 F26 e20 rfl).trans ((BNow_fx O F17 ta0 rfl).trans e2))
  refine g_callI (st := [.inl (w32 ((w32 (v9 - r12)) - r21))]) (gc_V C lk_LandSurveyModel_462 (k_X12_thickOf l D cy w z0 O25 e29 fa1 (by rw [p30]; omega)) e29 rfl rfl rfl ⟨by decide, by decide⟩ (Nat.le_of_ble_eq_true rfl) dX12_topFrom_21 ⟨(by decide), (by decide)⟩) (fun r31 h32 f34 K33 => ?_)
  obtain ⟨O35, F36, f37⟩ := K33
  have f38 : (-2147483648 : Int) ≤ (w32 ((w32 ((w32 (v9 - r12)) - r21)) - r31)) ∧ (w32 ((w32 ((w32 (v9 - r12)) - r21)) - r31)) ≤ (2147483647 : Int) := w32_inR _
  refine g_isubW C dX12_topFrom_24 ?_
  exact g_iret C hr rfl f38 ⟨O35, ((((Fx.rf (wr := wr_k_X12_topFrom)).call F17 rfl).call F26 rfl).call F36 rfl), f38⟩ (by decide) (by decide) dX12_topFrom_25
def wr_k_X12_topTo : List Nat := []
set_option maxRecDepth 100000 in
set_option maxHeartbeats 4000000 in
theorem k_X12_topTo (l : Launch) (D : va_G) (cy : Nat → ClassId) (w : Nat → Nat) (z0 : Nat)  {h : Hp} {a0 : Nat} {a1 : Int} {a2 : Int}  (O : Okh h) (ta0 : Tg h a0 = 12) (fa1 : 0 ≤ a1 ∧ a1 ≤ 9) (fa2 : 0 ≤ a2 ∧ a2 ≤ 95) (P_bn : 0 ≤ BNow h a0) : MI l D cy w z0 yX12_topTo cX12_topTo 3 (some .int) 4 87 0 0 [.inr (.inr a0), .inl a1, .inl a2] h (fun v h1 => Okh h1 ∧ Fx wr_k_X12_topTo h h1 ∧ ((-2147483648) ≤ v ∧ v ≤ 2147483647)) := by
  obtain ⟨v1, e2⟩ : ∃ z, BNow h a0 = z := ⟨_, rfl⟩
  have f3 : (-1 : Int) ≤ v1 ∧ v1 ≤ (7 : Int) := BNow_rng O ta0 e2
  rw [e2] at P_bn
  have f4 : (0 : Int) ≤ v1 ∧ v1 ≤ (7 : Int) := by omega
  refine hm_go (by decide +kernel) (Nat.le_of_ble_eq_true rfl) (fun p e s m below meth c C hr hn => ?_)
  refine g_aload_n C rfl 0 rfl dX12_topTo_0 ?_
  obtain ⟨v5, e6⟩ : ∃ z, Rv h a0 36 = z := ⟨_, rfl⟩
  have t7 := ok_R O ta0 rE_12_36 e6
  have l8 := ok_L O ta0 rE_12_36 e6
  refine gf_R C fk_LandSurveyModel_161 rfl ta0 e6 dX12_topTo_1 ?_
  refine g_iload_n C rfl 2 rfl dX12_topTo_4 ?_
  obtain ⟨v9, e10⟩ : ∃ z, Iv h v5 a2.toNat = z := ⟨_, rfl⟩
  have f11 := ok_Ia O t7 ar_136100 rI_136100_0 e10
  refine g_iald C t7 rfl l8 (ix fa2 (by decide) (by decide)) e10 dX12_topTo_5 ?_
  refine g_aload_n C rfl 0 rfl dX12_topTo_6 ?_
  refine g_iload_n C rfl 2 rfl dX12_topTo_7 ?_
  refine g_callI (st := [.inl v9]) (gc_V C lk_LandSurveyModel_585 (k_X12_leastHigh l D cy w z0 O ta0 fa2) ta0 rfl rfl rfl ⟨by decide, by decide⟩ (Nat.le_of_ble_eq_true rfl) dX12_topTo_8 ⟨(by decide), (by decide)⟩) (fun r12 h13 f15 K14 => ?_)
  obtain ⟨O16, F17, f18⟩ := K14
  have f19 : (-2147483648 : Int) ≤ (w32 (v9 - r12)) ∧ (w32 (v9 - r12)) ≤ (2147483647 : Int) := w32_inR _
  refine g_isubW C dX12_topTo_11 ?_
  refine g_aload_n C rfl 0 rfl dX12_topTo_12 ?_
  refine g_iload_n C rfl 1 rfl dX12_topTo_13 ?_
  refine g_iload_n C rfl 2 rfl dX12_topTo_14 ?_
  have e20 : Tg h13 a0 = 12 := (fxT F17 ta0)
  refine g_callI (st := [.inl (w32 (v9 - r12))]) (gc_V C lk_LandSurveyModel_471 (k_X12_underLow l D cy w z0 O16 e20 (iw fa1 (by decide) (by decide)) fa2) e20 rfl rfl rfl ⟨by decide, by decide⟩ (Nat.le_of_ble_eq_true rfl) dX12_topTo_15 ⟨(by decide), (by decide)⟩) (fun r21 h22 f24 K23 => ?_)
  obtain ⟨O25, F26, f27⟩ := K23
  have f28 : (-2147483648 : Int) ≤ (w32 ((w32 (v9 - r12)) - r21)) ∧ (w32 ((w32 (v9 - r12)) - r21)) ≤ (2147483647 : Int) := w32_inR _
  refine g_isubW C dX12_topTo_18 ?_
  refine g_aload_n C rfl 0 rfl dX12_topTo_19 ?_
  refine g_iload_n C rfl 1 rfl dX12_topTo_20 ?_
  have e29 : Tg h22 a0 = 12 := (fxT F26 e20)
  have p30 := ((BNow_fx O16 F26 e20 rfl).trans ((BNow_fx O F17 ta0 rfl).trans e2))
  refine g_callI (st := [.inl (w32 ((w32 (v9 - r12)) - r21))]) (gc_V C lk_LandSurveyModel_459 (k_X12_thinOf l D cy w z0 O25 e29 fa1 (by rw [p30]; omega)) e29 rfl rfl rfl ⟨by decide, by decide⟩ (Nat.le_of_ble_eq_true rfl) dX12_topTo_21 ⟨(by decide), (by decide)⟩) (fun r31 h32 f34 K33 => ?_)
  obtain ⟨O35, F36, f37⟩ := K33
  have f38 : (-2147483648 : Int) ≤ (w32 ((w32 ((w32 (v9 - r12)) - r21)) - r31)) ∧ (w32 ((w32 ((w32 (v9 - r12)) - r21)) - r31)) ≤ (2147483647 : Int) := w32_inR _
  refine g_isubW C dX12_topTo_24 ?_
  exact g_iret C hr rfl f38 ⟨O35, ((((Fx.rf (wr := wr_k_X12_topTo)).call F17 rfl).call F26 rfl).call F36 rfl), f38⟩ (by decide) (by decide) dX12_topTo_25
def wr_k_X12_footFrom : List Nat := []
set_option maxRecDepth 100000 in
set_option maxHeartbeats 4000000 in
theorem k_X12_footFrom (l : Launch) (D : va_G) (cy : Nat → ClassId) (w : Nat → Nat) (z0 : Nat)  {h : Hp} {a0 : Nat} {a1 : Int} {a2 : Int}  (O : Okh h) (ta0 : Tg h a0 = 12) (fa1 : (-2147483648) ≤ a1 ∧ a1 ≤ 2147483647) (fa2 : 0 ≤ a2 ∧ a2 ≤ 95) : MI l D cy w z0 yX12_footFrom cX12_footFrom 3 (some .int) 4 87 0 0 [.inr (.inr a0), .inl a1, .inl a2] h (fun v h1 => Okh h1 ∧ Fx wr_k_X12_footFrom h h1 ∧ ((-2147483648) ≤ v ∧ v ≤ 2147483647)) := by
  refine hm_go (by decide +kernel) (Nat.le_of_ble_eq_true rfl) (fun p e s m below meth c C hr hn => ?_)
  refine g_aload_n C rfl 0 rfl dX12_footFrom_0 ?_
  obtain ⟨v1, e2⟩ : ∃ z, Rv h a0 36 = z := ⟨_, rfl⟩
  have t3 := ok_R O ta0 rE_12_36 e2
  have l4 := ok_L O ta0 rE_12_36 e2
  refine gf_R C fk_LandSurveyModel_161 rfl ta0 e2 dX12_footFrom_1 ?_
  refine g_iload_n C rfl 2 rfl dX12_footFrom_4 ?_
  obtain ⟨v5, e6⟩ : ∃ z, Iv h v1 a2.toNat = z := ⟨_, rfl⟩
  have f7 := ok_Ia O t3 ar_136100 rI_136100_0 e6
  refine g_iald C t3 rfl l4 (ix fa2 (by decide) (by decide)) e6 dX12_footFrom_5 ?_
  refine g_aload_n C rfl 0 rfl dX12_footFrom_6 ?_
  refine g_iload_n C rfl 2 rfl dX12_footFrom_7 ?_
  refine g_callI (st := [.inl v5]) (gc_V C lk_LandSurveyModel_582 (k_X12_greatestHigh l D cy w z0 O ta0 fa2) ta0 rfl rfl rfl ⟨by decide, by decide⟩ (Nat.le_of_ble_eq_true rfl) dX12_footFrom_8 ⟨(by decide), (by decide)⟩) (fun r8 h9 f11 K10 => ?_)
  obtain ⟨O12, F13, f14⟩ := K10
  have f15 : (-2147483648 : Int) ≤ (w32 (v5 - r8)) ∧ (w32 (v5 - r8)) ≤ (2147483647 : Int) := w32_inR _
  refine g_isubW C dX12_footFrom_11 ?_
  refine g_aload_n C rfl 0 rfl dX12_footFrom_12 ?_
  refine g_iload_n C rfl 1 rfl dX12_footFrom_13 ?_
  refine g_iload_n C rfl 2 rfl dX12_footFrom_14 ?_
  have e16 : Tg h9 a0 = 12 := (fxT F13 ta0)
  refine g_callI (st := [.inl (w32 (v5 - r8))]) (gc_V C lk_LandSurveyModel_468 (k_X12_underHigh l D cy w z0 O12 e16 fa1 fa2) e16 rfl rfl rfl ⟨by decide, by decide⟩ (Nat.le_of_ble_eq_true rfl) dX12_footFrom_15 ⟨(by decide), (by decide)⟩) (fun r17 h18 f20 K19 => ?_)
  obtain ⟨O21, F22, f23⟩ := K19
  have f24 : (-2147483648 : Int) ≤ (w32 ((w32 (v5 - r8)) - r17)) ∧ (w32 ((w32 (v5 - r8)) - r17)) ≤ (2147483647 : Int) := w32_inR _
  refine g_isubW C dX12_footFrom_18 ?_
  exact g_iret C hr rfl f24 ⟨O21, (((Fx.rf (wr := wr_k_X12_footFrom)).call F13 rfl).call F22 rfl), f24⟩ (by decide) (by decide) dX12_footFrom_19
def wr_k_X12_footTo : List Nat := []
set_option maxRecDepth 100000 in
set_option maxHeartbeats 4000000 in
theorem k_X12_footTo (l : Launch) (D : va_G) (cy : Nat → ClassId) (w : Nat → Nat) (z0 : Nat)  {h : Hp} {a0 : Nat} {a1 : Int} {a2 : Int}  (O : Okh h) (ta0 : Tg h a0 = 12) (fa1 : (-2147483648) ≤ a1 ∧ a1 ≤ 2147483647) (fa2 : 0 ≤ a2 ∧ a2 ≤ 95) : MI l D cy w z0 yX12_footTo cX12_footTo 3 (some .int) 4 87 0 0 [.inr (.inr a0), .inl a1, .inl a2] h (fun v h1 => Okh h1 ∧ Fx wr_k_X12_footTo h h1 ∧ ((-2147483648) ≤ v ∧ v ≤ 2147483647)) := by
  refine hm_go (by decide +kernel) (Nat.le_of_ble_eq_true rfl) (fun p e s m below meth c C hr hn => ?_)
  refine g_aload_n C rfl 0 rfl dX12_footTo_0 ?_
  obtain ⟨v1, e2⟩ : ∃ z, Rv h a0 36 = z := ⟨_, rfl⟩
  have t3 := ok_R O ta0 rE_12_36 e2
  have l4 := ok_L O ta0 rE_12_36 e2
  refine gf_R C fk_LandSurveyModel_161 rfl ta0 e2 dX12_footTo_1 ?_
  refine g_iload_n C rfl 2 rfl dX12_footTo_4 ?_
  obtain ⟨v5, e6⟩ : ∃ z, Iv h v1 a2.toNat = z := ⟨_, rfl⟩
  have f7 := ok_Ia O t3 ar_136100 rI_136100_0 e6
  refine g_iald C t3 rfl l4 (ix fa2 (by decide) (by decide)) e6 dX12_footTo_5 ?_
  refine g_aload_n C rfl 0 rfl dX12_footTo_6 ?_
  refine g_iload_n C rfl 2 rfl dX12_footTo_7 ?_
  refine g_callI (st := [.inl v5]) (gc_V C lk_LandSurveyModel_585 (k_X12_leastHigh l D cy w z0 O ta0 fa2) ta0 rfl rfl rfl ⟨by decide, by decide⟩ (Nat.le_of_ble_eq_true rfl) dX12_footTo_8 ⟨(by decide), (by decide)⟩) (fun r8 h9 f11 K10 => ?_)
  obtain ⟨O12, F13, f14⟩ := K10
  have f15 : (-2147483648 : Int) ≤ (w32 (v5 - r8)) ∧ (w32 (v5 - r8)) ≤ (2147483647 : Int) := w32_inR _
  refine g_isubW C dX12_footTo_11 ?_
  refine g_aload_n C rfl 0 rfl dX12_footTo_12 ?_
  refine g_iload_n C rfl 1 rfl dX12_footTo_13 ?_
  refine g_iload_n C rfl 2 rfl dX12_footTo_14 ?_
  have e16 : Tg h9 a0 = 12 := (fxT F13 ta0)
  refine g_callI (st := [.inl (w32 (v5 - r8))]) (gc_V C lk_LandSurveyModel_471 (k_X12_underLow l D cy w z0 O12 e16 fa1 fa2) e16 rfl rfl rfl ⟨by decide, by decide⟩ (Nat.le_of_ble_eq_true rfl) dX12_footTo_15 ⟨(by decide), (by decide)⟩) (fun r17 h18 f20 K19 => ?_)
  obtain ⟨O21, F22, f23⟩ := K19
  have f24 : (-2147483648 : Int) ≤ (w32 ((w32 (v5 - r8)) - r17)) ∧ (w32 ((w32 (v5 - r8)) - r17)) ≤ (2147483647 : Int) := w32_inR _
  refine g_isubW C dX12_footTo_18 ?_
  exact g_iret C hr rfl f24 ⟨O21, (((Fx.rf (wr := wr_k_X12_footTo)).call F13 rfl).call F22 rfl), f24⟩ (by decide) (by decide) dX12_footTo_19
def wr_k_X12_isBestKnown : List Nat := [2435, 2462, 2469, 2477, 2478, 26220000, 26420000, 30620200, 30820000, 31020000, 31220000, 32620000, 32820000, 33020000, 33220000, 33420000, 33620000, 34020200, 34220000, 34420400, 34620200, 34820200, 35020000, 35220000]
set_option maxRecDepth 100000 in
set_option maxHeartbeats 4000000 in
theorem k_X12_isBestKnown (l : Launch) (D : va_G) (cy : Nat → ClassId) (w : Nat → Nat) (z0 : Nat)  {h : Hp} {a0 : Nat}  (O : Okh h) (ta0 : Tg h a0 = 12) (P_MInv : MInv h a0) : MI l D cy w z0 yX12_isBestKnown cX12_isBestKnown 1 (some .boolean) 11 278 0 0 [.inr (.inr a0)] h (fun v h1 => Okh h1 ∧ Fx wr_k_X12_isBestKnown h h1 ∧ (0 ≤ v ∧ v ≤ 1) ∧ (v = 1 → 0 ≤ Iv h1 a0 77)) := by
  refine hm_go (by decide +kernel) (Nat.le_of_ble_eq_true rfl) (fun p e s m below meth c C hr hn => ?_)
  refine g_aload_n C rfl 0 rfl dX12_isBestKnown_0 ?_
  refine g_callV (st := []) (gc_V C lk_LandSurveyModel_557 (k_X12_findGrounds l D cy w z0 O ta0 P_MInv) ta0 rfl rfl rfl ⟨by decide, by decide⟩ (Nat.le_of_ble_eq_true rfl) dX12_isBestKnown_1 ⟨(by decide), (by decide)⟩) (fun h2 K3 => ?_)
  obtain ⟨O5, F6⟩ := K3
  refine g_aload_n C rfl 0 rfl dX12_isBestKnown_4 ?_
  have e7 : Tg h2 a0 = 12 := (fxT F6 ta0)
  obtain ⟨v8, e9⟩ : ∃ z, Iv h2 a0 77 = z := ⟨_, rfl⟩
  have f10 := ok_I O5 e7 rI_12_77 e9
  refine gf_I C fk_LandSurveyModel_537 rfl e7 e9 dX12_isBestKnown_5 ?_
  refine g_if_lt C (iw f10 (by decide) (by decide)) 27 (by decide) dX12_isBestKnown_8 (fun q11 => ?_) (fun q12 => ?_)
  · have f13 : (-1 : Int) ≤ v8 ∧ v8 ≤ (-1 : Int) := r_lt f10 (il 0) q11 (by decide) (by decide)
    refine g_iconst C dX12_isBestKnown_27 ?_
    exact g_iret C hr (nar_z2 (iw (il 0) (by decide) (by decide))).1 (iw (il 0) (by decide) (by decide)) ⟨O5, ((Fx.rf (wr := wr_k_X12_isBestKnown)).call F6 rfl), (iw (il 0) (by decide) (by decide)), (by rw [e9]; omega)⟩ (by decide) (by decide) dX12_isBestKnown_28
  · have f14 : (0 : Int) ≤ v8 ∧ v8 ≤ (15 : Int) := r_ge f10 (il 0) q12 (by decide) (by decide)
    refine g_aload_n C rfl 0 rfl dX12_isBestKnown_11 ?_
    obtain ⟨v15, e16⟩ : ∃ z, Rv h2 a0 74 = z := ⟨_, rfl⟩
    have t17 := ok_R O5 e7 rE_12_74 e16
    have l18 := ok_L O5 e7 rE_12_74 e16
    refine gf_R C fk_LandSurveyModel_263 rfl e7 e16 dX12_isBestKnown_12 ?_
    refine g_aload_n C rfl 0 rfl dX12_isBestKnown_15 ?_
    refine gf_I C fk_LandSurveyModel_537 rfl e7 e9 dX12_isBestKnown_16 ?_
    obtain ⟨v19, e20⟩ : ∃ z, Iv h2 v15 v8.toNat = z := ⟨_, rfl⟩
    have f21 := ok_Ia O5 t17 ar_174101 rI_174101_0 e20
    refine g_zald C t17 rfl l18 (ix f14 (by decide) (by decide)) e20 dX12_isBestKnown_19 ?_
    refine g_if_eq C (iw f21 (by decide) (by decide)) 27 (by decide) dX12_isBestKnown_20 (fun q22 => ?_) (fun q23 => ?_)
    · have f24 : (0 : Int) ≤ v19 ∧ v19 ≤ (0 : Int) := ii f21 (r_eq (il 0) q22) (by decide) (by decide)
      refine g_iconst C dX12_isBestKnown_27 ?_
      exact g_iret C hr (nar_z2 (iw (il 0) (by decide) (by decide))).1 (iw (il 0) (by decide) (by decide)) ⟨O5, ((Fx.rf (wr := wr_k_X12_isBestKnown)).call F6 rfl), (iw (il 0) (by decide) (by decide)), (by rw [e9]; omega)⟩ (by decide) (by decide) dX12_isBestKnown_28
    · have f25 : (1 : Int) ≤ v19 ∧ v19 ≤ (1 : Int) := r_nl f21 q23
      refine g_iconst C dX12_isBestKnown_23 ?_
      refine g_goto C 28 (by decide) dX12_isBestKnown_24 ?_
      exact g_iret C hr (nar_z2 (iw (il 1) (by decide) (by decide))).1 (iw (il 1) (by decide) (by decide)) ⟨O5, ((Fx.rf (wr := wr_k_X12_isBestKnown)).call F6 rfl), (iw (il 1) (by decide) (by decide)), (by rw [e9]; omega)⟩ (by decide) (by decide) dX12_isBestKnown_28
def wr_k_X12_doubtNow : List Nat := []
set_option maxRecDepth 100000 in
set_option maxHeartbeats 4000000 in
theorem k_X12_doubtNow (l : Launch) (D : va_G) (cy : Nat → ClassId) (w : Nat → Nat) (z0 : Nat)  {h : Hp} {a0 : Nat}  (O : Okh h) (ta0 : Tg h a0 = 12) (P_b0 : 0 ≤ Iv h a0 77) : MI l D cy w z0 yX12_doubtNow cX12_doubtNow 3 (some .int) 0 0 0 0 [.inr (.inr a0)] h (fun v h1 => Okh h1 ∧ Fx wr_k_X12_doubtNow h h1 ∧ ((-2147483648) ≤ v ∧ v ≤ 2147483647)) := by
  obtain ⟨v1, e2⟩ : ∃ z, Iv h a0 77 = z := ⟨_, rfl⟩
  have f3 := ok_I O ta0 rI_12_77 e2
  rw [e2] at P_b0
  have f4 : (0 : Int) ≤ v1 ∧ v1 ≤ (15 : Int) := by omega
  refine hm_go (by decide +kernel) (Nat.le_of_ble_eq_true rfl) (fun p e s m below meth c C hr hn => ?_)
  refine g_iconst C dX12_doubtNow_0 ?_
  refine g_istore_n C [(1, .inl 0), (0, .inr (.inr a0))] rfl (by decide) rfl dX12_doubtNow_1 ?_
  refine g_iconst C dX12_doubtNow_2 ?_
  refine g_istore_n C [(2, .inl 0), (1, .inl 0), (0, .inr (.inr a0))] rfl (by decide) rfl dX12_doubtNow_3 ?_
  refine GW.sub [2, 1, 0] rfl ?_
  -- loop at 4
  have L7 : ∀ (μ : Nat) (x5 : Int) (x6 : Int), (96 - x6).toNat = μ → ((-2147483648 : Int) ≤ x5 ∧ x5 ≤ (2147483647 : Int)) → ((0 : Int) ≤ x6 ∧ x6 ≤ (96 : Int)) → GW p l e (rmm 0 0 0 0) s m (List.map toV [.inr (.inr a0)]).toArray below meth c D cy z0 3 (MQ below (QI D cy z0 (fun v h1 => Okh h1 ∧ Fx wr_k_X12_doubtNow h h1 ∧ ((-2147483648) ≤ v ∧ v ≤ 2147483647))) (List.map toV [.inr (.inr a0)]).toArray s 0 0 (Aof z0)) 4 [(0, .inr (.inr a0)), (1, .inl x5), (2, .inl x6)] [] h 0 0 := by
    intro μ
    induction μ using Nat.strongRecOn with
    | ind μ ih8 =>
      intro x5 x6 hm9 f10 f11
      refine g_iload_n C rfl 2 rfl dX12_doubtNow_4 ?_
      refine g_bipush C (by decide) dX12_doubtNow_5 ?_
      refine g_icmp_ge C (iw f11 (by decide) (by decide)) (iw (il 96) (by decide) (by decide)) 61 (by decide) dX12_doubtNow_7 (fun q12 => ?_) (fun q13 => ?_)
      · have f14 : (96 : Int) ≤ x6 ∧ x6 ≤ (96 : Int) := r_ge f11 (il 96) q12 (by decide) (by decide)
        refine g_iload_n C rfl 1 rfl dX12_doubtNow_61 ?_
        exact g_iret C hr rfl f10 ⟨O, Fx.rf, f10⟩ (by decide) (by decide) dX12_doubtNow_62
      · have f15 : (0 : Int) ≤ x6 ∧ x6 ≤ (95 : Int) := r_lt f11 (il 96) q13 (by decide) (by decide)
        refine g_iload_n C rfl 1 rfl dX12_doubtNow_10 ?_
        refine g_aload_n C rfl 0 rfl dX12_doubtNow_11 ?_
        obtain ⟨v16, e17⟩ : ∃ z, Rv h a0 82 = z := ⟨_, rfl⟩
        have t18 := ok_R O ta0 rE_12_82 e17
        have l19 := ok_L O ta0 rE_12_82 e17
        refine gf_R C fk_LandSurveyModel_275 rfl ta0 e17 dX12_doubtNow_12 ?_
        refine g_iload_n C rfl 2 rfl dX12_doubtNow_15 ?_
        obtain ⟨v20, e21⟩ : ∃ z, Iv h v16 x6.toNat = z := ⟨_, rfl⟩
        have f22 := ok_Ia O t18 ar_182101 rI_182101_0 e21
        refine g_zald C t18 rfl l19 (ix f15 (by decide) (by decide)) e21 dX12_doubtNow_16 ?_
        refine g_if_eq C (iw f22 (by decide) (by decide)) 52 (by decide) dX12_doubtNow_17 (fun q23 => ?_) (fun q24 => ?_)
        · have f25 : (0 : Int) ≤ v20 ∧ v20 ≤ (0 : Int) := ii f22 (r_eq (il 0) q23) (by decide) (by decide)
          refine g_iconst C dX12_doubtNow_52 ?_
          have f26 : (-2147483648 : Int) ≤ (x5 + 0) ∧ (x5 + 0) ≤ (2147483647 : Int) := ia_add f10 (il 0) (by decide) (by decide)
          refine g_iadd C dX12_doubtNow_53 ?_
          refine g_istore_n C [(1, .inl (x5 + 0)), (0, .inr (.inr a0)), (2, .inl x6)] rfl (by decide) rfl dX12_doubtNow_54 ?_
          have f27 : (1 : Int) ≤ (x6 + 1) ∧ (x6 + 1) ≤ (96 : Int) := ia_add f15 (il 1) (by decide) (by decide)
          refine g_iinc C [(2, .inl (x6 + 1)), (1, .inl (x5 + 0)), (0, .inr (.inr a0))] 2 rfl (by decide) rfl dX12_doubtNow_55 ?_
          refine g_goto C 4 (by decide) dX12_doubtNow_58 ?_
          refine GW.sub [2, 1, 0] rfl ?_
          exact ih8 _ (by omega) (x5 + 0) (x6 + 1) rfl f26 (iw f27 (by decide) (by decide))
        · have f28 : (1 : Int) ≤ v20 ∧ v20 ≤ (1 : Int) := r_nl f22 q24
          refine g_aload_n C rfl 0 rfl dX12_doubtNow_20 ?_
          obtain ⟨v29, e30⟩ : ∃ z, Rv h a0 76 = z := ⟨_, rfl⟩
          have t31 := ok_R O ta0 rE_12_76 e30
          have l32 := ok_L O ta0 rE_12_76 e30
          refine gf_R C fk_LandSurveyModel_269 rfl ta0 e30 dX12_doubtNow_21 ?_
          refine g_bipush C (by decide) dX12_doubtNow_24 ?_
          refine g_aload_n C rfl 0 rfl dX12_doubtNow_26 ?_
          refine gf_I C fk_LandSurveyModel_537 rfl ta0 e2 dX12_doubtNow_27 ?_
          have f33 : (0 : Int) ≤ (96 * v1) ∧ (96 * v1) ≤ (1440 : Int) := ia_mul (by decide) f4 (by decide) (by decide)
          refine g_imul C dX12_doubtNow_30 ?_
          refine g_iload_n C rfl 2 rfl dX12_doubtNow_31 ?_
          have f34 : (0 : Int) ≤ ((96 * v1) + x6) ∧ ((96 * v1) + x6) ≤ (1535 : Int) := ia_add f33 f15 (by decide) (by decide)
          refine g_iadd C dX12_doubtNow_32 ?_
          obtain ⟨v35, e36⟩ : ∃ z, Iv h v29 (((96 * v1) + x6).toNat) = z := ⟨_, rfl⟩
          have f37 := ok_Ia O t31 ar_176100 rI_176100_0 e36
          refine g_iald C t31 rfl l32 (ix f34 (by decide) (by decide)) e36 dX12_doubtNow_33 ?_
          refine g_aload_n C rfl 0 rfl dX12_doubtNow_34 ?_
          obtain ⟨v38, e39⟩ : ∃ z, Rv h a0 75 = z := ⟨_, rfl⟩
          have t40 := ok_R O ta0 rE_12_75 e39
          have l41 := ok_L O ta0 rE_12_75 e39
          refine gf_R C fk_LandSurveyModel_266 rfl ta0 e39 dX12_doubtNow_35 ?_
          refine g_bipush C (by decide) dX12_doubtNow_38 ?_
          refine g_aload_n C rfl 0 rfl dX12_doubtNow_40 ?_
          refine gf_I C fk_LandSurveyModel_537 rfl ta0 e2 dX12_doubtNow_41 ?_
          refine g_imul C dX12_doubtNow_44 ?_
          refine g_iload_n C rfl 2 rfl dX12_doubtNow_45 ?_
          refine g_iadd C dX12_doubtNow_46 ?_
          obtain ⟨v42, e43⟩ : ∃ z, Iv h v38 (((96 * v1) + x6).toNat) = z := ⟨_, rfl⟩
          have f44 := ok_Ia O t40 ar_175100 rI_175100_0 e43
          refine g_iald C t40 rfl l41 (ix f34 (by decide) (by decide)) e43 dX12_doubtNow_47 ?_
          have f45 : (-2147483648 : Int) ≤ (w32 (v35 - v42)) ∧ (w32 (v35 - v42)) ≤ (2147483647 : Int) := w32_inR _
          refine g_isubW C dX12_doubtNow_48 ?_
          refine g_goto C 53 (by decide) dX12_doubtNow_49 ?_
          have f46 : (-2147483648 : Int) ≤ (w32 (x5 + (w32 (v35 - v42)))) ∧ (w32 (x5 + (w32 (v35 - v42)))) ≤ (2147483647 : Int) := w32_inR _
          refine g_iaddW C dX12_doubtNow_53 ?_
          refine g_istore_n C [(1, .inl (w32 (x5 + (w32 (v35 - v42))))), (0, .inr (.inr a0)), (2, .inl x6)] rfl (by decide) rfl dX12_doubtNow_54 ?_
          have f47 : (1 : Int) ≤ (x6 + 1) ∧ (x6 + 1) ≤ (96 : Int) := ia_add f15 (il 1) (by decide) (by decide)
          refine g_iinc C [(2, .inl (x6 + 1)), (1, .inl (w32 (x5 + (w32 (v35 - v42))))), (0, .inr (.inr a0))] 2 rfl (by decide) rfl dX12_doubtNow_55 ?_
          refine g_goto C 4 (by decide) dX12_doubtNow_58 ?_
          refine GW.sub [2, 1, 0] rfl ?_
          exact ih8 _ (by omega) (w32 (x5 + (w32 (v35 - v42)))) (x6 + 1) rfl f46 (iw f47 (by decide) (by decide))
  exact L7 _ 0 0 rfl (iw (il 0) (by decide) (by decide)) (iw (il 0) (by decide) (by decide))
def wr_k_X12_leavesOf : List Nat := []
set_option maxRecDepth 100000 in
set_option maxHeartbeats 4000000 in
theorem k_X12_leavesOf (l : Launch) (D : va_G) (cy : Nat → ClassId) (w : Nat → Nat) (z0 : Nat)  {h : Hp} {a0 : Nat} {a1 : Int}  (O : Okh h) (ta0 : Tg h a0 = 12) (fa1 : (-2147483648) ≤ a1 ∧ a1 ≤ 2147483647) (P_b0 : 0 ≤ Iv h a0 77) : MI l D cy w z0 yX12_leavesOf cX12_leavesOf 6 (some .int) 0 0 0 0 [.inr (.inr a0), .inl a1] h (fun v h1 => Okh h1 ∧ Fx wr_k_X12_leavesOf h h1 ∧ ((-2147483648) ≤ v ∧ v ≤ 2147483647)) := by
  obtain ⟨v1, e2⟩ : ∃ z, Iv h a0 77 = z := ⟨_, rfl⟩
  have f3 := ok_I O ta0 rI_12_77 e2
  rw [e2] at P_b0
  have f4 : (0 : Int) ≤ v1 ∧ v1 ≤ (15 : Int) := by omega
  refine hm_go (by decide +kernel) (Nat.le_of_ble_eq_true rfl) (fun p e s m below meth c C hr hn => ?_)
  refine g_iconst C dX12_leavesOf_0 ?_
  refine g_istore_n C [(2, .inl 0), (0, .inr (.inr a0)), (1, .inl a1)] rfl (by decide) rfl dX12_leavesOf_1 ?_
  refine g_iconst C dX12_leavesOf_2 ?_
  refine g_istore_n C [(3, .inl 0), (2, .inl 0), (0, .inr (.inr a0)), (1, .inl a1)] rfl (by decide) rfl dX12_leavesOf_3 ?_
  refine GW.sub [2, 3, 1, 0] rfl ?_
  -- loop at 4
  have L7 : ∀ (μ : Nat) (x5 : Int) (x6 : Int), (96 - x6).toNat = μ → ((-2147483648 : Int) ≤ x5 ∧ x5 ≤ (2147483647 : Int)) → ((0 : Int) ≤ x6 ∧ x6 ≤ (96 : Int)) → GW p l e (rmm 0 0 0 0) s m (List.map toV [.inr (.inr a0), .inl a1]).toArray below meth c D cy z0 6 (MQ below (QI D cy z0 (fun v h1 => Okh h1 ∧ Fx wr_k_X12_leavesOf h h1 ∧ ((-2147483648) ≤ v ∧ v ≤ 2147483647))) (List.map toV [.inr (.inr a0), .inl a1]).toArray s 0 0 (Aof z0)) 4 [(0, .inr (.inr a0)), (1, .inl a1), (2, .inl x5), (3, .inl x6)] [] h 0 0 := by
    intro μ
    induction μ using Nat.strongRecOn with
    | ind μ ih8 =>
      intro x5 x6 hm9 f10 f11
      refine g_iload_n C rfl 3 rfl dX12_leavesOf_4 ?_
      refine g_bipush C (by decide) dX12_leavesOf_5 ?_
      refine g_icmp_ge C (iw f11 (by decide) (by decide)) (iw (il 96) (by decide) (by decide)) 121 (by decide) dX12_leavesOf_7 (fun q12 => ?_) (fun q13 => ?_)
      · have f14 : (96 : Int) ≤ x6 ∧ x6 ≤ (96 : Int) := r_ge f11 (il 96) q12 (by decide) (by decide)
        refine g_iload_n C rfl 2 rfl dX12_leavesOf_121 ?_
        exact g_iret C hr rfl f10 ⟨O, Fx.rf, f10⟩ (by decide) (by decide) dX12_leavesOf_122
      · have f15 : (0 : Int) ≤ x6 ∧ x6 ≤ (95 : Int) := r_lt f11 (il 96) q13 (by decide) (by decide)
        refine g_aload_n C rfl 0 rfl dX12_leavesOf_10 ?_
        obtain ⟨v16, e17⟩ : ∃ z, Rv h a0 82 = z := ⟨_, rfl⟩
        have t18 := ok_R O ta0 rE_12_82 e17
        have l19 := ok_L O ta0 rE_12_82 e17
        refine gf_R C fk_LandSurveyModel_275 rfl ta0 e17 dX12_leavesOf_11 ?_
        refine g_iload_n C rfl 3 rfl dX12_leavesOf_14 ?_
        obtain ⟨v20, e21⟩ : ∃ z, Iv h v16 x6.toNat = z := ⟨_, rfl⟩
        have f22 := ok_Ia O t18 ar_182101 rI_182101_0 e21
        refine g_zald C t18 rfl l19 (ix f15 (by decide) (by decide)) e21 dX12_leavesOf_15 ?_
        refine g_if_eq C (iw f22 (by decide) (by decide)) 115 (by decide) dX12_leavesOf_16 (fun q23 => ?_) (fun q24 => ?_)
        · have f25 : (0 : Int) ≤ v20 ∧ v20 ≤ (0 : Int) := ii f22 (r_eq (il 0) q23) (by decide) (by decide)
          have f26 : (1 : Int) ≤ (x6 + 1) ∧ (x6 + 1) ≤ (96 : Int) := ia_add f15 (il 1) (by decide) (by decide)
          refine g_iinc C [(3, .inl (x6 + 1)), (0, .inr (.inr a0)), (1, .inl a1), (2, .inl x5)] 3 rfl (by decide) rfl dX12_leavesOf_115 ?_
          refine g_goto C 4 (by decide) dX12_leavesOf_118 ?_
          refine GW.sub [1, 2, 3, 0] rfl ?_
          exact ih8 _ (by omega) x5 (x6 + 1) rfl f10 (iw f26 (by decide) (by decide))
        · have f27 : (1 : Int) ≤ v20 ∧ v20 ≤ (1 : Int) := r_nl f22 q24
          refine g_aload_n C rfl 0 rfl dX12_leavesOf_19 ?_
          obtain ⟨v28, e29⟩ : ∃ z, Rv h a0 76 = z := ⟨_, rfl⟩
          have t30 := ok_R O ta0 rE_12_76 e29
          have l31 := ok_L O ta0 rE_12_76 e29
          refine gf_R C fk_LandSurveyModel_269 rfl ta0 e29 dX12_leavesOf_20 ?_
          refine g_bipush C (by decide) dX12_leavesOf_23 ?_
          refine g_aload_n C rfl 0 rfl dX12_leavesOf_25 ?_
          refine gf_I C fk_LandSurveyModel_537 rfl ta0 e2 dX12_leavesOf_26 ?_
          have f32 : (0 : Int) ≤ (96 * v1) ∧ (96 * v1) ≤ (1440 : Int) := ia_mul (by decide) f4 (by decide) (by decide)
          refine g_imul C dX12_leavesOf_29 ?_
          refine g_iload_n C rfl 3 rfl dX12_leavesOf_30 ?_
          have f33 : (0 : Int) ≤ ((96 * v1) + x6) ∧ ((96 * v1) + x6) ≤ (1535 : Int) := ia_add f32 f15 (by decide) (by decide)
          refine g_iadd C dX12_leavesOf_31 ?_
          obtain ⟨v34, e35⟩ : ∃ z, Iv h v28 (((96 * v1) + x6).toNat) = z := ⟨_, rfl⟩
          have f36 := ok_Ia O t30 ar_176100 rI_176100_0 e35
          refine g_iald C t30 rfl l31 (ix f33 (by decide) (by decide)) e35 dX12_leavesOf_32 ?_
          refine g_istore C [(4, .inl v34), (0, .inr (.inr a0)), (1, .inl a1), (2, .inl x5), (3, .inl x6)] (by decide) rfl dX12_leavesOf_33 ?_
          refine g_aload_n C rfl 1 rfl dX12_leavesOf_35 ?_
          obtain ⟨v37, e38⟩ : ∃ z, Rv h a0 75 = z := ⟨_, rfl⟩
          have t39 := ok_R O ta0 rE_12_75 e38
          have l40 := ok_L O ta0 rE_12_75 e38
          refine gf_R C fk_LandSurveyModel_266 rfl ta0 e38 dX12_leavesOf_36 ?_
          refine g_bipush C (by decide) dX12_leavesOf_39 ?_
          refine g_aload_n C rfl 1 rfl dX12_leavesOf_41 ?_
          refine gf_I C fk_LandSurveyModel_537 rfl ta0 e2 dX12_leavesOf_42 ?_
          refine g_imul C dX12_leavesOf_45 ?_
          refine g_iload_n C rfl 4 rfl dX12_leavesOf_46 ?_
          refine g_iadd C dX12_leavesOf_47 ?_
          obtain ⟨v41, e42⟩ : ∃ z, Iv h v37 (((96 * v1) + x6).toNat) = z := ⟨_, rfl⟩
          have f43 := ok_Ia O t39 ar_175100 rI_175100_0 e42
          refine g_iald C t39 rfl l40 (ix f33 (by decide) (by decide)) e42 dX12_leavesOf_48 ?_
          refine g_istore C [(5, .inl v41), (4, .inl v34), (0, .inr (.inr a0)), (1, .inl a1), (2, .inl x5), (3, .inl x6)] (by decide) rfl dX12_leavesOf_49 ?_
          refine g_iload_n C rfl 3 rfl dX12_leavesOf_51 ?_
          refine g_aload_n C rfl 2 rfl dX12_leavesOf_52 ?_
          obtain ⟨v44, e45⟩ : ∃ z, Rv h a0 86 = z := ⟨_, rfl⟩
          have t46 := ok_R O ta0 rE_12_86 e45
          have l47 := ok_L O ta0 rE_12_86 e45
          refine gf_R C fk_LandSurveyModel_284 rfl ta0 e45 dX12_leavesOf_53 ?_
          refine g_iload_n C rfl 5 rfl dX12_leavesOf_56 ?_
          obtain ⟨v48, e49⟩ : ∃ z, Iv h v44 x6.toNat = z := ⟨_, rfl⟩
          have f50 := ok_Ia O t46 ar_186100 rI_186100_0 e49
          refine g_iald C t46 rfl l47 (ix f15 (by decide) (by decide)) e49 dX12_leavesOf_57 ?_
          have f51 : (-2147483648 : Int) ≤ (w32 (a1 + v48)) ∧ (w32 (a1 + v48)) ≤ (2147483647 : Int) := w32_inR _
          refine g_iaddW C dX12_leavesOf_58 ?_
          refine g_iload C 1 rfl dX12_leavesOf_59 ?_
          refine g_icmp_ge C f51 f36 75 (by decide) dX12_leavesOf_61 (fun q52 => ?_) (fun q53 => ?_)
          · refine g_iload C 1 rfl dX12_leavesOf_75 ?_
            refine g_istore C [(4, .inl v34), (5, .inl v41), (0, .inr (.inr a0)), (1, .inl a1), (2, .inl x5), (3, .inl x6)] (by decide) rfl dX12_leavesOf_77 ?_
            refine g_iload_n C rfl 3 rfl dX12_leavesOf_79 ?_
            refine g_aload_n C rfl 2 rfl dX12_leavesOf_80 ?_
            obtain ⟨v54, e55⟩ : ∃ z, Rv h a0 67 = z := ⟨_, rfl⟩
            have t56 := ok_R O ta0 rE_12_67 e55
            have l57 := ok_L O ta0 rE_12_67 e55
            refine gf_R C fk_LandSurveyModel_245 rfl ta0 e55 dX12_leavesOf_81 ?_
            refine g_iload_n C rfl 5 rfl dX12_leavesOf_84 ?_
            obtain ⟨v58, e59⟩ : ∃ z, Iv h v54 x6.toNat = z := ⟨_, rfl⟩
            have f60 := ok_Ia O t56 ar_167100 rI_167100_0 e59
            refine g_iald C t56 rfl l57 (ix f15 (by decide) (by decide)) e59 dX12_leavesOf_85 ?_
            have f61 : (-2147483648 : Int) ≤ (w32 (a1 - v58)) ∧ (w32 (a1 - v58)) ≤ (2147483647 : Int) := w32_inR _
            refine g_isubW C dX12_leavesOf_86 ?_
            refine g_iload C 1 rfl dX12_leavesOf_87 ?_
            refine g_icmp_le C f61 f43 103 (by decide) dX12_leavesOf_89 (fun q62 => ?_) (fun q63 => ?_)
            · refine g_iload C 1 rfl dX12_leavesOf_103 ?_
              refine g_istore C [(5, .inl v41), (4, .inl v34), (0, .inr (.inr a0)), (1, .inl a1), (2, .inl x5), (3, .inl x6)] (by decide) rfl dX12_leavesOf_105 ?_
              refine g_iload_n C rfl 4 rfl dX12_leavesOf_107 ?_
              refine g_iload C 1 rfl dX12_leavesOf_108 ?_
              refine g_iload C 0 rfl dX12_leavesOf_110 ?_
              have f64 : (-2147483648 : Int) ≤ (w32 (v34 - v41)) ∧ (w32 (v34 - v41)) ≤ (2147483647 : Int) := w32_inR _
              refine g_isubW C dX12_leavesOf_112 ?_
              have f65 : (-2147483648 : Int) ≤ (w32 (x5 + (w32 (v34 - v41)))) ∧ (w32 (x5 + (w32 (v34 - v41)))) ≤ (2147483647 : Int) := w32_inR _
              refine g_iaddW C dX12_leavesOf_113 ?_
              refine g_istore_n C [(2, .inl (w32 (x5 + (w32 (v34 - v41))))), (5, .inl v41), (4, .inl v34), (0, .inr (.inr a0)), (1, .inl a1), (3, .inl x6)] rfl (by decide) rfl dX12_leavesOf_114 ?_
              have f66 : (1 : Int) ≤ (x6 + 1) ∧ (x6 + 1) ≤ (96 : Int) := ia_add f15 (il 1) (by decide) (by decide)
              refine g_iinc C [(3, .inl (x6 + 1)), (2, .inl (w32 (x5 + (w32 (v34 - v41))))), (5, .inl v41), (4, .inl v34), (0, .inr (.inr a0)), (1, .inl a1)] 5 rfl (by decide) rfl dX12_leavesOf_115 ?_
              refine g_goto C 4 (by decide) dX12_leavesOf_118 ?_
              refine GW.sub [4, 5, 1, 0] rfl ?_
              exact ih8 _ (by omega) (w32 (x5 + (w32 (v34 - v41)))) (x6 + 1) rfl f65 (iw f66 (by decide) (by decide))
            · have f67 : (-2147483648 : Int) ≤ v41 ∧ v41 ≤ (2147483646 : Int) := r_lt f43 f61 q63 (by decide) (by decide)
              have f68 : (-2147483647 : Int) ≤ (w32 (a1 - v58)) ∧ (w32 (a1 - v58)) ≤ (2147483647 : Int) := r_gt f61 f43 q63 (by decide) (by decide)
              refine g_iload_n C rfl 3 rfl dX12_leavesOf_92 ?_
              refine g_aload_n C rfl 2 rfl dX12_leavesOf_93 ?_
              refine gf_R C fk_LandSurveyModel_245 rfl ta0 e55 dX12_leavesOf_94 ?_
              refine g_iload_n C rfl 5 rfl dX12_leavesOf_97 ?_
              refine g_iald C t56 rfl l57 (ix f15 (by decide) (by decide)) e59 dX12_leavesOf_98 ?_
              refine g_isubW C dX12_leavesOf_99 ?_
              refine g_goto C 105 (by decide) dX12_leavesOf_100 ?_
              refine g_istore C [(5, .inl (w32 (a1 - v58))), (4, .inl v34), (0, .inr (.inr a0)), (1, .inl a1), (2, .inl x5), (3, .inl x6)] (by decide) rfl dX12_leavesOf_105 ?_
              refine g_iload_n C rfl 4 rfl dX12_leavesOf_107 ?_
              refine g_iload C 1 rfl dX12_leavesOf_108 ?_
              refine g_iload C 0 rfl dX12_leavesOf_110 ?_
              have f69 : (-2147483648 : Int) ≤ (w32 (v34 - (w32 (a1 - v58)))) ∧ (w32 (v34 - (w32 (a1 - v58)))) ≤ (2147483647 : Int) := w32_inR _
              refine g_isubW C dX12_leavesOf_112 ?_
              have f70 : (-2147483648 : Int) ≤ (w32 (x5 + (w32 (v34 - (w32 (a1 - v58)))))) ∧ (w32 (x5 + (w32 (v34 - (w32 (a1 - v58)))))) ≤ (2147483647 : Int) := w32_inR _
              refine g_iaddW C dX12_leavesOf_113 ?_
              refine g_istore_n C [(2, .inl (w32 (x5 + (w32 (v34 - (w32 (a1 - v58))))))), (5, .inl (w32 (a1 - v58))), (4, .inl v34), (0, .inr (.inr a0)), (1, .inl a1), (3, .inl x6)] rfl (by decide) rfl dX12_leavesOf_114 ?_
              have f71 : (1 : Int) ≤ (x6 + 1) ∧ (x6 + 1) ≤ (96 : Int) := ia_add f15 (il 1) (by decide) (by decide)
              refine g_iinc C [(3, .inl (x6 + 1)), (2, .inl (w32 (x5 + (w32 (v34 - (w32 (a1 - v58))))))), (5, .inl (w32 (a1 - v58))), (4, .inl v34), (0, .inr (.inr a0)), (1, .inl a1)] 5 rfl (by decide) rfl dX12_leavesOf_115 ?_
              refine g_goto C 4 (by decide) dX12_leavesOf_118 ?_
              refine GW.sub [4, 5, 1, 0] rfl ?_
              exact ih8 _ (by omega) (w32 (x5 + (w32 (v34 - (w32 (a1 - v58)))))) (x6 + 1) rfl f70 (iw f71 (by decide) (by decide))
          · have f72 : (-2147483648 : Int) ≤ (w32 (a1 + v48)) ∧ (w32 (a1 + v48)) ≤ (2147483646 : Int) := r_lt f51 f36 q53 (by decide) (by decide)
            have f73 : (-2147483647 : Int) ≤ v34 ∧ v34 ≤ (2147483647 : Int) := r_gt f36 f51 q53 (by decide) (by decide)
            refine g_iload_n C rfl 3 rfl dX12_leavesOf_64 ?_
            refine g_aload_n C rfl 2 rfl dX12_leavesOf_65 ?_
            refine gf_R C fk_LandSurveyModel_284 rfl ta0 e45 dX12_leavesOf_66 ?_
            refine g_iload_n C rfl 5 rfl dX12_leavesOf_69 ?_
            refine g_iald C t46 rfl l47 (ix f15 (by decide) (by decide)) e49 dX12_leavesOf_70 ?_
            refine g_iaddW C dX12_leavesOf_71 ?_
            refine g_goto C 77 (by decide) dX12_leavesOf_72 ?_
            refine g_istore C [(4, .inl (w32 (a1 + v48))), (5, .inl v41), (0, .inr (.inr a0)), (1, .inl a1), (2, .inl x5), (3, .inl x6)] (by decide) rfl dX12_leavesOf_77 ?_
            refine g_iload_n C rfl 3 rfl dX12_leavesOf_79 ?_
            refine g_aload_n C rfl 2 rfl dX12_leavesOf_80 ?_
            obtain ⟨v74, e75⟩ : ∃ z, Rv h a0 67 = z := ⟨_, rfl⟩
            have t76 := ok_R O ta0 rE_12_67 e75
            have l77 := ok_L O ta0 rE_12_67 e75
            refine gf_R C fk_LandSurveyModel_245 rfl ta0 e75 dX12_leavesOf_81 ?_
            refine g_iload_n C rfl 5 rfl dX12_leavesOf_84 ?_
            obtain ⟨v78, e79⟩ : ∃ z, Iv h v74 x6.toNat = z := ⟨_, rfl⟩
            have f80 := ok_Ia O t76 ar_167100 rI_167100_0 e79
            refine g_iald C t76 rfl l77 (ix f15 (by decide) (by decide)) e79 dX12_leavesOf_85 ?_
            have f81 : (-2147483648 : Int) ≤ (w32 (a1 - v78)) ∧ (w32 (a1 - v78)) ≤ (2147483647 : Int) := w32_inR _
            refine g_isubW C dX12_leavesOf_86 ?_
            refine g_iload C 1 rfl dX12_leavesOf_87 ?_
            refine g_icmp_le C f81 f43 103 (by decide) dX12_leavesOf_89 (fun q82 => ?_) (fun q83 => ?_)
            · refine g_iload C 1 rfl dX12_leavesOf_103 ?_
              refine g_istore C [(5, .inl v41), (4, .inl (w32 (a1 + v48))), (0, .inr (.inr a0)), (1, .inl a1), (2, .inl x5), (3, .inl x6)] (by decide) rfl dX12_leavesOf_105 ?_
              refine g_iload_n C rfl 4 rfl dX12_leavesOf_107 ?_
              refine g_iload C 1 rfl dX12_leavesOf_108 ?_
              refine g_iload C 0 rfl dX12_leavesOf_110 ?_
              have f84 : (-2147483648 : Int) ≤ (w32 ((w32 (a1 + v48)) - v41)) ∧ (w32 ((w32 (a1 + v48)) - v41)) ≤ (2147483647 : Int) := w32_inR _
              refine g_isubW C dX12_leavesOf_112 ?_
              have f85 : (-2147483648 : Int) ≤ (w32 (x5 + (w32 ((w32 (a1 + v48)) - v41)))) ∧ (w32 (x5 + (w32 ((w32 (a1 + v48)) - v41)))) ≤ (2147483647 : Int) := w32_inR _
              refine g_iaddW C dX12_leavesOf_113 ?_
              refine g_istore_n C [(2, .inl (w32 (x5 + (w32 ((w32 (a1 + v48)) - v41))))), (5, .inl v41), (4, .inl (w32 (a1 + v48))), (0, .inr (.inr a0)), (1, .inl a1), (3, .inl x6)] rfl (by decide) rfl dX12_leavesOf_114 ?_
              have f86 : (1 : Int) ≤ (x6 + 1) ∧ (x6 + 1) ≤ (96 : Int) := ia_add f15 (il 1) (by decide) (by decide)
              refine g_iinc C [(3, .inl (x6 + 1)), (2, .inl (w32 (x5 + (w32 ((w32 (a1 + v48)) - v41))))), (5, .inl v41), (4, .inl (w32 (a1 + v48))), (0, .inr (.inr a0)), (1, .inl a1)] 5 rfl (by decide) rfl dX12_leavesOf_115 ?_
              refine g_goto C 4 (by decide) dX12_leavesOf_118 ?_
              refine GW.sub [4, 5, 1, 0] rfl ?_
              exact ih8 _ (by omega) (w32 (x5 + (w32 ((w32 (a1 + v48)) - v41)))) (x6 + 1) rfl f85 (iw f86 (by decide) (by decide))
            · have f87 : (-2147483648 : Int) ≤ v41 ∧ v41 ≤ (2147483646 : Int) := r_lt f43 f81 q83 (by decide) (by decide)
              have f88 : (-2147483647 : Int) ≤ (w32 (a1 - v78)) ∧ (w32 (a1 - v78)) ≤ (2147483647 : Int) := r_gt f81 f43 q83 (by decide) (by decide)
              refine g_iload_n C rfl 3 rfl dX12_leavesOf_92 ?_
              refine g_aload_n C rfl 2 rfl dX12_leavesOf_93 ?_
              refine gf_R C fk_LandSurveyModel_245 rfl ta0 e75 dX12_leavesOf_94 ?_
              refine g_iload_n C rfl 5 rfl dX12_leavesOf_97 ?_
              refine g_iald C t76 rfl l77 (ix f15 (by decide) (by decide)) e79 dX12_leavesOf_98 ?_
              refine g_isubW C dX12_leavesOf_99 ?_
              refine g_goto C 105 (by decide) dX12_leavesOf_100 ?_
              refine g_istore C [(5, .inl (w32 (a1 - v78))), (4, .inl (w32 (a1 + v48))), (0, .inr (.inr a0)), (1, .inl a1), (2, .inl x5), (3, .inl x6)] (by decide) rfl dX12_leavesOf_105 ?_
              refine g_iload_n C rfl 4 rfl dX12_leavesOf_107 ?_
              refine g_iload C 1 rfl dX12_leavesOf_108 ?_
              refine g_iload C 0 rfl dX12_leavesOf_110 ?_
              have f89 : (-2147483648 : Int) ≤ (w32 ((w32 (a1 + v48)) - (w32 (a1 - v78)))) ∧ (w32 ((w32 (a1 + v48)) - (w32 (a1 - v78)))) ≤ (2147483647 : Int) := w32_inR _
              refine g_isubW C dX12_leavesOf_112 ?_
              have f90 : (-2147483648 : Int) ≤ (w32 (x5 + (w32 ((w32 (a1 + v48)) - (w32 (a1 - v78)))))) ∧ (w32 (x5 + (w32 ((w32 (a1 + v48)) - (w32 (a1 - v78)))))) ≤ (2147483647 : Int) := w32_inR _
              refine g_iaddW C dX12_leavesOf_113 ?_
              refine g_istore_n C [(2, .inl (w32 (x5 + (w32 ((w32 (a1 + v48)) - (w32 (a1 - v78))))))), (5, .inl (w32 (a1 - v78))), (4, .inl (w32 (a1 + v48))), (0, .inr (.inr a0)), (1, .inl a1), (3, .inl x6)] rfl (by decide) rfl dX12_leavesOf_114 ?_
              have f91 : (1 : Int) ≤ (x6 + 1) ∧ (x6 + 1) ≤ (96 : Int) := ia_add f15 (il 1) (by decide) (by decide)
              refine g_iinc C [(3, .inl (x6 + 1)), (2, .inl (w32 (x5 + (w32 ((w32 (a1 + v48)) - (w32 (a1 - v78))))))), (5, .inl (w32 (a1 - v78))), (4, .inl (w32 (a1 + v48))), (0, .inr (.inr a0)), (1, .inl a1)] 5 rfl (by decide) rfl dX12_leavesOf_115 ?_
              refine g_goto C 4 (by decide) dX12_leavesOf_118 ?_
              refine GW.sub [4, 5, 1, 0] rfl ?_
              exact ih8 _ (by omega) (w32 (x5 + (w32 ((w32 (a1 + v48)) - (w32 (a1 - v78)))))) (x6 + 1) rfl f90 (iw f91 (by decide) (by decide))
  exact L7 _ 0 0 rfl (iw (il 0) (by decide) (by decide)) (iw (il 0) (by decide) (by decide))
def wr_k_X12_leftAt : List Nat := [2462, 32620000, 32820000, 33020000, 33220000, 33420000, 37220000]
set_option maxRecDepth 100000 in
set_option maxHeartbeats 4000000 in
theorem k_X12_leftAt (l : Launch) (D : va_G) (cy : Nat → ClassId) (w : Nat → Nat) (z0 : Nat)  {h : Hp} {a0 : Nat} {a1 : Int}  (O : Okh h) (ta0 : Tg h a0 = 12) (fa1 : 0 ≤ a1 ∧ a1 ≤ 7) (P_b0 : 0 ≤ Iv h a0 77) : MI l D cy w z0 yX12_leftAt cX12_leftAt 7 (some .int) 6 145 0 0 [.inr (.inr a0), .inl a1] h (fun v h1 => Okh h1 ∧ Fx wr_k_X12_leftAt h h1 ∧ ((-2147483648) ≤ v ∧ v ≤ 2147483647)) := by
  obtain ⟨v1, e2⟩ : ∃ z, Iv h a0 77 = z := ⟨_, rfl⟩
  have f3 := ok_I O ta0 rI_12_77 e2
  rw [e2] at P_b0
  have f4 : (0 : Int) ≤ v1 ∧ v1 ≤ (15 : Int) := by omega
  refine hm_go (by decide +kernel) (Nat.le_of_ble_eq_true rfl) (fun p e s m below meth c C hr hn => ?_)
  refine g_aload_n C rfl 0 rfl dX12_leftAt_0 ?_
  obtain ⟨v5, e6⟩ : ∃ z, Rv h a0 84 = z := ⟨_, rfl⟩
  have t7 := ok_R O ta0 rE_12_84 e6
  have l8 := ok_L O ta0 rE_12_84 e6
  refine gf_R C fk_LandSurveyModel_278 rfl ta0 e6 dX12_leftAt_1 ?_
  refine g_iload_n C rfl 1 rfl dX12_leftAt_4 ?_
  obtain ⟨v9, e10⟩ : ∃ z, Iv h v5 a1.toNat = z := ⟨_, rfl⟩
  have f11 := ok_Ia O t7 ar_184100 rI_184100_0 e10
  refine g_iald C t7 rfl l8 (ix fa1 (by decide) (by decide)) e10 dX12_leftAt_5 ?_
  refine g_istore_n C [(2, .inl v9), (0, .inr (.inr a0)), (1, .inl a1)] rfl (by decide) rfl dX12_leftAt_6 ?_
  refine g_aload_n C rfl 1 rfl dX12_leftAt_7 ?_
  obtain ⟨v12, e13⟩ : ∃ z, Rv h a0 75 = z := ⟨_, rfl⟩
  have t14 := ok_R O ta0 rE_12_75 e13
  have l15 := ok_L O ta0 rE_12_75 e13
  refine gf_R C fk_LandSurveyModel_266 rfl ta0 e13 dX12_leftAt_8 ?_
  refine g_bipush C (by decide) dX12_leftAt_11 ?_
  refine g_aload_n C rfl 1 rfl dX12_leftAt_13 ?_
  refine gf_I C fk_LandSurveyModel_537 rfl ta0 e2 dX12_leftAt_14 ?_
  have f16 : (0 : Int) ≤ (96 * v1) ∧ (96 * v1) ≤ (1440 : Int) := ia_mul (by decide) f4 (by decide) (by decide)
  refine g_imul C dX12_leftAt_17 ?_
  refine g_iload_n C rfl 0 rfl dX12_leftAt_18 ?_
  have f17 : (0 : Int) ≤ ((96 * v1) + v9) ∧ ((96 * v1) + v9) ≤ (1535 : Int) := ia_add f16 f11 (by decide) (by decide)
  refine g_iadd C dX12_leftAt_19 ?_
  obtain ⟨v18, e19⟩ : ∃ z, Iv h v12 (((96 * v1) + v9).toNat) = z := ⟨_, rfl⟩
  have f20 := ok_Ia O t14 ar_175100 rI_175100_0 e19
  refine g_iald C t14 rfl l15 (ix f17 (by decide) (by decide)) e19 dX12_leftAt_20 ?_
  refine g_istore_n C [(3, .inl v18), (2, .inl v9), (0, .inr (.inr a0)), (1, .inl a1)] rfl (by decide) rfl dX12_leftAt_21 ?_
  refine g_aload_n C rfl 2 rfl dX12_leftAt_22 ?_
  obtain ⟨v21, e22⟩ : ∃ z, Rv h a0 76 = z := ⟨_, rfl⟩
  have t23 := ok_R O ta0 rE_12_76 e22
  have l24 := ok_L O ta0 rE_12_76 e22
  refine gf_R C fk_LandSurveyModel_269 rfl ta0 e22 dX12_leftAt_23 ?_
  refine g_bipush C (by decide) dX12_leftAt_26 ?_
  refine g_aload_n C rfl 2 rfl dX12_leftAt_28 ?_
  refine gf_I C fk_LandSurveyModel_537 rfl ta0 e2 dX12_leftAt_29 ?_
  refine g_imul C dX12_leftAt_32 ?_
  refine g_iload_n C rfl 1 rfl dX12_leftAt_33 ?_
  refine g_iadd C dX12_leftAt_34 ?_
  obtain ⟨v25, e26⟩ : ∃ z, Iv h v21 (((96 * v1) + v9).toNat) = z := ⟨_, rfl⟩
  have f27 := ok_Ia O t23 ar_176100 rI_176100_0 e26
  refine g_iald C t23 rfl l24 (ix f17 (by decide) (by decide)) e26 dX12_leftAt_35 ?_
  refine g_istore C [(4, .inl v25), (3, .inl v18), (2, .inl v9), (0, .inr (.inr a0)), (1, .inl a1)] (by decide) rfl dX12_leftAt_36 ?_
  refine g_aload_n C rfl 3 rfl dX12_leftAt_38 ?_
  refine g_aload_n C rfl 3 rfl dX12_leftAt_39 ?_
  refine gf_I C fk_LandSurveyModel_537 rfl ta0 e2 dX12_leftAt_40 ?_
  refine g_aload_n C rfl 3 rfl dX12_leftAt_43 ?_
  obtain ⟨v28, e29⟩ : ∃ z, Rv h a0 72 = z := ⟨_, rfl⟩
  have t30 := ok_R O ta0 rE_12_72 e29
  have l31 := ok_L O ta0 rE_12_72 e29
  refine gf_R C fk_LandSurveyModel_257 rfl ta0 e29 dX12_leftAt_44 ?_
  refine g_aload_n C rfl 3 rfl dX12_leftAt_47 ?_
  refine gf_I C fk_LandSurveyModel_537 rfl ta0 e2 dX12_leftAt_48 ?_
  obtain ⟨v32, e33⟩ : ∃ z, Jv h v28 v1.toNat = z := ⟨_, rfl⟩
  have f34 := inL_J O e33
  refine g_lald C t30 rfl l31 (ix f4 (by decide) (by decide)) e33 dX12_leftAt_51 ?_
  refine g_iconst C dX12_leftAt_52 ?_
  refine g_callV (st := []) (gc_V C lk_LandSurveyModel_523 (k_X12_findBounds l D cy w z0 O ta0 f4 f34 (iw (il 0) (by decide) (by decide))) ta0 rfl rfl rfl ⟨by decide, by decide⟩ (Nat.le_of_ble_eq_true rfl) dX12_leftAt_53 ⟨(by decide), (by decide)⟩) (fun h36 K37 => ?_)
  obtain ⟨O39, F40⟩ := K37
  refine g_aload_n C rfl 3 rfl dX12_leftAt_56 ?_
  refine g_iload_n C rfl 2 rfl dX12_leftAt_57 ?_
  refine g_iconst C dX12_leftAt_58 ?_
  have e41 : Tg h36 a0 = 12 := (fxT F40 ta0)
  refine g_callV (st := []) (gc_V C lk_LandSurveyModel_553 (k_X12_findWays l D cy w z0 O39 e41 (iw f11 (by decide) (by decide)) (iw (il 0) (by decide) (by decide))) e41 rfl rfl rfl ⟨by decide, by decide⟩ (Nat.le_of_ble_eq_true rfl) dX12_leftAt_59 ⟨(by decide), (by decide)⟩) (fun h43 K44 => ?_)
  obtain ⟨O46, F47⟩ := K44
  refine g_iconst C dX12_leftAt_62 ?_
  refine g_istore C [(5, .inl 0), (4, .inl v25), (3, .inl v18), (2, .inl v9), (0, .inr (.inr a0)), (1, .inl a1)] (by decide) rfl dX12_leftAt_63 ?_
  refine GW.sub [4, 5, 3, 2, 1, 0] rfl ?_
  -- loop at 65
  have L50 : ∀ (μ : Nat) (x48 : Int) (h49 : Hp), (97 - x48).toNat = μ → Okh h49 → Fx [37220000] h43 h49 → ((0 : Int) ≤ x48 ∧ x48 ≤ (97 : Int)) → GW p l e (rmm 6 145 0 0) s m (List.map toV [.inr (.inr a0), .inl a1]).toArray below meth c D cy z0 7 (MQ below (QI D cy z0 (fun v h1 => Okh h1 ∧ Fx wr_k_X12_leftAt h h1 ∧ ((-2147483648) ≤ v ∧ v ≤ 2147483647))) (List.map toV [.inr (.inr a0), .inl a1]).toArray s 0 0 (Aof z0)) 65 [(0, .inr (.inr a0)), (1, .inl a1), (2, .inl v9), (3, .inl v18), (4, .inl v25), (5, .inl x48)] [] h49 0 0 := by
    intro μ
    induction μ using Nat.strongRecOn with
    | ind μ ih51 =>
      intro x48 h49 hm52 O53 F54 f55
      refine g_iload C 5 rfl dX12_leftAt_65 ?_
      refine g_bipush C (by decide) dX12_leftAt_67 ?_
      refine g_icmp_ge C (iw f55 (by decide) (by decide)) (iw (il 97) (by decide) (by decide)) 92 (by decide) dX12_leftAt_69 (fun q56 => ?_) (fun q57 => ?_)
      · have f58 : (97 : Int) ≤ x48 ∧ x48 ≤ (97 : Int) := r_ge f55 (il 97) q56 (by decide) (by decide)
        refine g_aload_n C rfl 0 rfl dX12_leftAt_92 ?_
        refine g_iload_n C rfl 2 rfl dX12_leftAt_93 ?_
        refine g_iconst C dX12_leftAt_94 ?_
        have e59 : Tg h49 a0 = 12 := (fxT F54 (fxT F47 e41))
        refine g_callV (st := []) (gc_V C lk_LandSurveyModel_553 (k_X12_findWays l D cy w z0 O53 e59 (iw f11 (by decide) (by decide)) (iw (il 1) (by decide) (by decide))) e59 rfl rfl rfl ⟨by decide, by decide⟩ (Nat.le_of_ble_eq_true rfl) dX12_leftAt_95 ⟨(by decide), (by decide)⟩) (fun h61 K62 => ?_)
        obtain ⟨O64, F65⟩ := K62
        refine g_aload_n C rfl 0 rfl dX12_leftAt_98 ?_
        refine g_iload_n C rfl 3 rfl dX12_leftAt_99 ?_
        have e66 : Tg h61 a0 = 12 := (fxT F65 e59)
        have e67 : Tg h43 a0 = 12 := (fxT F47 e41)
        have e68 : Iv h61 a0 77 = v1 := ((fxI F65 e59 rfl).trans ((fxI F54 e67 rfl).trans ((fxI F47 e41 rfl).trans ((fxI F40 ta0 rfl).trans e2))))
        refine g_callI (st := []) (gc_V C lk_LandSurveyModel_624 (k_X12_leavesOf l D cy w z0 O64 e66 f20 (by rw [e68]; omega)) e66 rfl rfl rfl ⟨by decide, by decide⟩ (Nat.le_of_ble_eq_true rfl) dX12_leftAt_100 ⟨(by decide), (by decide)⟩) (fun r69 h70 f72 K71 => ?_)
        obtain ⟨O73, F74, f75⟩ := K71
        refine g_istore C [(5, .inl r69), (0, .inr (.inr a0)), (1, .inl a1), (2, .inl v9), (3, .inl v18), (4, .inl v25)] (by decide) rfl dX12_leftAt_103 ?_
        refine g_aload_n C rfl 1 rfl dX12_leftAt_105 ?_
        refine g_iload C 5 rfl dX12_leftAt_106 ?_
        have e76 : Tg h70 a0 = 12 := (fxT F74 e66)
        have e77 : Iv h70 a0 77 = v1 := ((fxI F74 e66 rfl).trans e68)
        refine g_callI (st := []) (gc_V C lk_LandSurveyModel_624 (k_X12_leavesOf l D cy w z0 O73 e76 f27 (by rw [e77]; omega)) e76 rfl rfl rfl ⟨by decide, by decide⟩ (Nat.le_of_ble_eq_true rfl) dX12_leftAt_108 ⟨(by decide), (by decide)⟩) (fun r78 h79 f81 K80 => ?_)
        obtain ⟨O82, F83, f84⟩ := K80
        refine g_istore C [(6, .inl r78), (5, .inl r69), (0, .inr (.inr a0)), (1, .inl a1), (2, .inl v9), (3, .inl v18), (4, .inl v25)] (by decide) rfl dX12_leftAt_111 ?_
        refine g_iload C 0 rfl dX12_leftAt_113 ?_
        refine g_iload C 1 rfl dX12_leftAt_115 ?_
        refine g_icmp_le C f84 f75 125 (by decide) dX12_leftAt_117 (fun q85 => ?_) (fun q86 => ?_)
        · refine g_iload C 1 rfl dX12_leftAt_125 ?_
          refine g_istore C [(5, .inl r69), (6, .inl r78), (0, .inr (.inr a0)), (1, .inl a1), (2, .inl v9), (3, .inl v18), (4, .inl v25)] (by decide) rfl dX12_leftAt_127 ?_
          refine g_aload_n C rfl 2 rfl dX12_leftAt_129 ?_
          refine g_iload_n C rfl 5 rfl dX12_leftAt_130 ?_
          refine g_iload C 6 rfl dX12_leftAt_131 ?_
          have f87 : (-2147483648 : Int) ≤ (w32 (v18 + v25)) ∧ (w32 (v18 + v25)) ≤ (2147483647 : Int) := w32_inR _
          refine g_iaddW C dX12_leftAt_133 ?_
          refine g_callI (st := [.inr (.inr a0)]) (gc_S C lk_LandSurveyModel_627 (k_X12_halfDown l D cy w z0 O82 f87) rfl ⟨by decide, by decide⟩ (Nat.le_of_ble_eq_true rfl) dX12_leftAt_134 ⟨(by decide), (by decide)⟩) (fun r88 h89 f91 K90 => ?_)
          obtain ⟨O92, F93, f94⟩ := K90
          have e95 : Tg h89 a0 = 12 := (fxT F93 (fxT F83 e76))
          have e96 : Tg h79 a0 = 12 := (fxT F83 e76)
          have e97 : Iv h89 a0 77 = v1 := ((fxI F93 e96 rfl).trans ((fxI F83 e76 rfl).trans e77))
          refine g_callI (st := []) (gc_V C lk_LandSurveyModel_624 (k_X12_leavesOf l D cy w z0 O92 e95 f94 (by rw [e97]; omega)) e95 rfl rfl rfl ⟨by decide, by decide⟩ (Nat.le_of_ble_eq_true rfl) dX12_leftAt_137 ⟨(by decide), (by decide)⟩) (fun r98 h99 f101 K100 => ?_)
          obtain ⟨O102, F103, f104⟩ := K100
          refine g_istore C [(6, .inl r98), (5, .inl r69), (0, .inr (.inr a0)), (1, .inl a1), (2, .inl v9), (3, .inl v18), (4, .inl v25)] (by decide) rfl dX12_leftAt_140 ?_
          refine g_iload C 0 rfl dX12_leftAt_142 ?_
          refine g_iload C 1 rfl dX12_leftAt_144 ?_
          refine g_icmp_le C f104 f75 154 (by decide) dX12_leftAt_146 (fun q105 => ?_) (fun q106 => ?_)
          · refine g_iload C 1 rfl dX12_leftAt_154 ?_
            exact g_iret C hr rfl f75 ⟨O102, (((((((((Fx.rf (wr := wr_k_X12_leftAt)).call F40 rfl).call F47 rfl).call F54 rfl).call F65 rfl).call F74 rfl).call F83 rfl).call F93 rfl).call F103 rfl), f75⟩ (by decide) (by decide) dX12_leftAt_156
          · have f107 : (-2147483648 : Int) ≤ r69 ∧ r69 ≤ (2147483646 : Int) := r_lt f75 f104 q106 (by decide) (by decide)
            have f108 : (-2147483647 : Int) ≤ r98 ∧ r98 ≤ (2147483647 : Int) := r_gt f104 f75 q106 (by decide) (by decide)
            refine g_iload C 0 rfl dX12_leftAt_149 ?_
            refine g_goto C 156 (by decide) dX12_leftAt_151 ?_
            exact g_iret C hr rfl (iw f108 (by decide) (by decide)) ⟨O102, (((((((((Fx.rf (wr := wr_k_X12_leftAt)).call F40 rfl).call F47 rfl).call F54 rfl).call F65 rfl).call F74 rfl).call F83 rfl).call F93 rfl).call F103 rfl), (iw f108 (by decide) (by decide))⟩ (by decide) (by decide) dX12_leftAt_156
        · have f109 : (-2147483648 : Int) ≤ r69 ∧ r69 ≤ (2147483646 : Int) := r_lt f75 f84 q86 (by decide) (by decide)
          have f110 : (-2147483647 : Int) ≤ r78 ∧ r78 ≤ (2147483647 : Int) := r_gt f84 f75 q86 (by decide) (by decide)
          refine g_iload C 0 rfl dX12_leftAt_120 ?_
          refine g_goto C 127 (by decide) dX12_leftAt_122 ?_
          refine g_istore C [(5, .inl r78), (6, .inl r78), (0, .inr (.inr a0)), (1, .inl a1), (2, .inl v9), (3, .inl v18), (4, .inl v25)] (by decide) rfl dX12_leftAt_127 ?_
          refine g_aload_n C rfl 2 rfl dX12_leftAt_129 ?_
          refine g_iload_n C rfl 5 rfl dX12_leftAt_130 ?_
          refine g_iload C 6 rfl dX12_leftAt_131 ?_
          have f111 : (-2147483648 : Int) ≤ (w32 (v18 + v25)) ∧ (w32 (v18 + v25)) ≤ (2147483647 : Int) := w32_inR _
          refine g_iaddW C dX12_leftAt_133 ?_
          refine g_callI (st := [.inr (.inr a0)]) (gc_S C lk_LandSurveyModel_627 (k_X12_halfDown l D cy w z0 O82 f111) rfl ⟨by decide, by decide⟩ (Nat.le_of_ble_eq_true rfl) dX12_leftAt_134 ⟨(by decide), (by decide)⟩) (fun r112 h113 f115 K114 => ?_)
          obtain ⟨O116, F117, f118⟩ := K114
          have e119 : Tg h113 a0 = 12 := (fxT F117 (fxT F83 e76))
          have e120 : Tg h79 a0 = 12 := (fxT F83 e76)
          have e121 : Iv h113 a0 77 = v1 := ((fxI F117 e120 rfl).trans ((fxI F83 e76 rfl).trans e77))
          refine g_callI (st := []) (gc_V C lk_LandSurveyModel_624 (k_X12_leavesOf l D cy w z0 O116 e119 f118 (by rw [e121]; omega)) e119 rfl rfl rfl ⟨by decide, by decide⟩ (Nat.le_of_ble_eq_true rfl) dX12_leftAt_137 ⟨(by decide), (by decide)⟩) (fun r122 h123 f125 K124 => ?_)
          obtain ⟨O126, F127, f128⟩ := K124
          refine g_istore C [(6, .inl r122), (5, .inl r78), (0, .inr (.inr a0)), (1, .inl a1), (2, .inl v9), (3, .inl v18), (4, .inl v25)] (by decide) rfl dX12_leftAt_140 ?_
          refine g_iload C 0 rfl dX12_leftAt_142 ?_
          refine g_iload C 1 rfl dX12_leftAt_144 ?_
          refine g_icmp_le C f128 (iw f110 (by decide) (by decide)) 154 (by decide) dX12_leftAt_146 (fun q129 => ?_) (fun q130 => ?_)
          · refine g_iload C 1 rfl dX12_leftAt_154 ?_
            exact g_iret C hr rfl (iw f110 (by decide) (by decide)) ⟨O126, (((((((((Fx.rf (wr := wr_k_X12_leftAt)).call F40 rfl).call F47 rfl).call F54 rfl).call F65 rfl).call F74 rfl).call F83 rfl).call F117 rfl).call F127 rfl), (iw f110 (by decide) (by decide))⟩ (by decide) (by decide) dX12_leftAt_156
          · have f131 : (-2147483647 : Int) ≤ r78 ∧ r78 ≤ (2147483646 : Int) := r_lt f110 f128 q130 (by decide) (by decide)
            have f132 : (-2147483646 : Int) ≤ r122 ∧ r122 ≤ (2147483647 : Int) := r_gt f128 f110 q130 (by decide) (by decide)
            refine g_iload C 0 rfl dX12_leftAt_149 ?_
            refine g_goto C 156 (by decide) dX12_leftAt_151 ?_
            exact g_iret C hr rfl (iw f132 (by decide) (by decide)) ⟨O126, (((((((((Fx.rf (wr := wr_k_X12_leftAt)).call F40 rfl).call F47 rfl).call F54 rfl).call F65 rfl).call F74 rfl).call F83 rfl).call F117 rfl).call F127 rfl), (iw f132 (by decide) (by decide))⟩ (by decide) (by decide) dX12_leftAt_156
      · have f133 : (0 : Int) ≤ x48 ∧ x48 ≤ (96 : Int) := r_lt f55 (il 97) q57 (by decide) (by decide)
        refine g_aload_n C rfl 0 rfl dX12_leftAt_72 ?_
        have e134 : Tg h49 a0 = 12 := (fxT F54 (fxT F47 e41))
        obtain ⟨v135, e136⟩ : ∃ z, Rv h49 a0 86 = z := ⟨_, rfl⟩
        have t137 := ok_R O53 e134 rE_12_86 e136
        have l138 := ok_L O53 e134 rE_12_86 e136
        refine gf_R C fk_LandSurveyModel_284 rfl e134 e136 dX12_leftAt_73 ?_
        refine g_iload C 5 rfl dX12_leftAt_76 ?_
        refine g_aload_n C rfl 0 rfl dX12_leftAt_78 ?_
        obtain ⟨v139, e140⟩ : ∃ z, Rv h49 a0 67 = z := ⟨_, rfl⟩
        have t141 := ok_R O53 e134 rE_12_67 e140
        have l142 := ok_L O53 e134 rE_12_67 e140
        refine gf_R C fk_LandSurveyModel_245 rfl e134 e140 dX12_leftAt_79 ?_
        refine g_iload C 5 rfl dX12_leftAt_82 ?_
        obtain ⟨v143, e144⟩ : ∃ z, Iv h49 v139 x48.toNat = z := ⟨_, rfl⟩
        have f145 := ok_Ia O53 t141 ar_167100 rI_167100_0 e144
        refine g_iald C t141 rfl l142 (ix f133 (by decide) (by decide)) e144 dX12_leftAt_84 ?_
        refine g_iast C t137 rfl l138 (ix f133 (by decide) (by decide)) f145 dX12_leftAt_85 (fun h147 hh146 => ?_)
        have O148 := O53.pIa t137 ar_186100 hh146 rI_186100_0 f145 nofun
        have f149 : (1 : Int) ≤ (x48 + 1) ∧ (x48 + 1) ≤ (97 : Int) := ia_add f133 (il 1) (by decide) (by decide)
        refine g_iinc C [(5, .inl (x48 + 1)), (0, .inr (.inr a0)), (1, .inl a1), (2, .inl v9), (3, .inl v18), (4, .inl v25)] 5 rfl (by decide) rfl dX12_leftAt_86 ?_
        refine g_goto C 65 (by decide) dX12_leftAt_89 ?_
        refine GW.sub [1, 2, 3, 4, 5, 0] rfl ?_
        exact ih51 _ (by omega) (x48 + 1) h147 rfl O148 (F54.pIa t137 ar_186100 hh146 rfl) (iw f149 (by decide) (by decide))
  exact L50 _ 0 h43 rfl O46 Fx.rf (iw (il 0) (by decide) (by decide))
def wr_k2_isSet : List Nat := []
set_option maxRecDepth 100000 in
set_option maxHeartbeats 4000000 in
theorem k2_isSet (l : Launch) (D : va_G) (cy : Nat → ClassId) (w : Nat → Nat) (z0 : Nat)  {h : Hp} {a0 : Nat} {a1 : Int}  (O : Okh h) (ta0 : Tg h a0 = 12) (fa1 : (-2147483648) ≤ a1 ∧ a1 ≤ 2147483647) : MI l D cy w z0 yX12_isSet cX12_isSet 2 (some .boolean) 0 0 0 0 [.inr (.inr a0), .inl a1] h (fun v h1 => Okh h1 ∧ Fx wr_k2_isSet h h1 ∧ (0 ≤ v ∧ v ≤ 1) ∧ (v = 1 → 0 ≤ a1 ∧ a1 ≤ 15)) := by
  refine hm_go (by decide +kernel) (Nat.le_of_ble_eq_true rfl) (fun p e s m below meth c C hr hn => ?_)
  refine g_iload_n C rfl 1 rfl dX12_isSet_0 ?_
  refine g_if_lt C fa1 18 (by decide) dX12_isSet_1 (fun q1 => ?_) (fun q2 => ?_)
  · have f3 : (-2147483648 : Int) ≤ a1 ∧ a1 ≤ (-1 : Int) := r_lt fa1 (il 0) q1 (by decide) (by decide)
    refine g_iconst C dX12_isSet_18 ?_
    exact g_iret C hr (nar_z2 (iw (il 0) (by decide) (by decide))).1 (iw (il 0) (by decide) (by decide)) ⟨O, Fx.rf, (iw (il 0) (by decide) (by decide)), (by omega)⟩ (by decide) (by decide) dX12_isSet_19
  · have f4 : (0 : Int) ≤ a1 ∧ a1 ≤ (2147483647 : Int) := r_ge fa1 (il 0) q2 (by decide) (by decide)
    refine g_iload_n C rfl 1 rfl dX12_isSet_4 ?_
    refine g_iconst C dX12_isSet_5 ?_
    refine g_aload_n C rfl 0 rfl dX12_isSet_6 ?_
    obtain ⟨v5, e6⟩ : ∃ z, Iv h a0 57 = z := ⟨_, rfl⟩
    have f7 := ok_I O ta0 rI_12_57 e6
    refine gf_I C fk_LandSurveyModel_477 rfl ta0 e6 dX12_isSet_7 ?_
    refine g_ishl C dX12_isSet_10 ?_
    have f8 : (1 : Int) ≤ (bShl 1 v5) ∧ (bShl 1 v5) ≤ (16 : Int) := bShl_4 f7
    refine g_icmp_ge C (iw f4 (by decide) (by decide)) (iw f8 (by decide) (by decide)) 18 (by decide) dX12_isSet_11 (fun q9 => ?_) (fun q10 => ?_)
    · have f11 : (1 : Int) ≤ a1 ∧ a1 ≤ (2147483647 : Int) := r_ge f4 f8 q9 (by decide) (by decide)
      refine g_iconst C dX12_isSet_18 ?_
      exact g_iret C hr (nar_z2 (iw (il 0) (by decide) (by decide))).1 (iw (il 0) (by decide) (by decide)) ⟨O, Fx.rf, (iw (il 0) (by decide) (by decide)), (by omega)⟩ (by decide) (by decide) dX12_isSet_19
    · have f12 : (0 : Int) ≤ a1 ∧ a1 ≤ (15 : Int) := r_lt f4 f8 q10 (by decide) (by decide)
      refine g_iconst C dX12_isSet_14 ?_
      refine g_goto C 19 (by decide) dX12_isSet_15 ?_
      exact g_iret C hr (nar_z2 (iw (il 1) (by decide) (by decide))).1 (iw (il 1) (by decide) (by decide)) ⟨O, Fx.rf, (iw (il 1) (by decide) (by decide)), (by omega)⟩ (by decide) (by decide) dX12_isSet_19
def wr_k2_isSheet : List Nat := []
set_option maxRecDepth 100000 in
set_option maxHeartbeats 4000000 in
theorem k2_isSheet (l : Launch) (D : va_G) (cy : Nat → ClassId) (w : Nat → Nat) (z0 : Nat)  {h : Hp} {a0 : Nat} {a1 : Int}  (O : Okh h) (ta0 : Tg h a0 = 12) (fa1 : (-2147483648) ≤ a1 ∧ a1 ≤ 2147483647) : MI l D cy w z0 yX12_isSheet cX12_isSheet 2 (some .boolean) 0 0 0 0 [.inr (.inr a0), .inl a1] h (fun v h1 => Okh h1 ∧ Fx wr_k2_isSheet h h1 ∧ (0 ≤ v ∧ v ≤ 1) ∧ (v = 1 → 0 ≤ a1 ∧ a1 ≤ 9)) := by
  refine hm_go (by decide +kernel) (Nat.le_of_ble_eq_true rfl) (fun p e s m below meth c C hr hn => ?_)
  refine g_iload_n C rfl 1 rfl dX12_isSheet_0 ?_
  refine g_if_lt C fa1 16 (by decide) dX12_isSheet_1 (fun q1 => ?_) (fun q2 => ?_)
  · have f3 : (-2147483648 : Int) ≤ a1 ∧ a1 ≤ (-1 : Int) := r_lt fa1 (il 0) q1 (by decide) (by decide)
    refine g_iconst C dX12_isSheet_16 ?_
    exact g_iret C hr (nar_z2 (iw (il 0) (by decide) (by decide))).1 (iw (il 0) (by decide) (by decide)) ⟨O, Fx.rf, (iw (il 0) (by decide) (by decide)), (by omega)⟩ (by decide) (by decide) dX12_isSheet_17
  · have f4 : (0 : Int) ≤ a1 ∧ a1 ≤ (2147483647 : Int) := r_ge fa1 (il 0) q2 (by decide) (by decide)
    refine g_iload_n C rfl 1 rfl dX12_isSheet_4 ?_
    refine g_aload_n C rfl 0 rfl dX12_isSheet_5 ?_
    obtain ⟨v5, e6⟩ : ∃ z, Iv h a0 80 = z := ⟨_, rfl⟩
    have f7 := ok_I O ta0 rI_12_80 e6
    refine gf_I C fk_LandSurveyModel_603 rfl ta0 e6 dX12_isSheet_6 ?_
    refine g_icmp_ge C (iw f4 (by decide) (by decide)) (iw f7 (by decide) (by decide)) 16 (by decide) dX12_isSheet_9 (fun q8 => ?_) (fun q9 => ?_)
    · refine g_iconst C dX12_isSheet_16 ?_
      exact g_iret C hr (nar_z2 (iw (il 0) (by decide) (by decide))).1 (iw (il 0) (by decide) (by decide)) ⟨O, Fx.rf, (iw (il 0) (by decide) (by decide)), (by omega)⟩ (by decide) (by decide) dX12_isSheet_17
    · have f10 : (0 : Int) ≤ a1 ∧ a1 ≤ (9 : Int) := r_lt f4 f7 q9 (by decide) (by decide)
      have f11 : (1 : Int) ≤ v5 ∧ v5 ≤ (10 : Int) := r_gt f7 f4 q9 (by decide) (by decide)
      refine g_iconst C dX12_isSheet_12 ?_
      refine g_goto C 17 (by decide) dX12_isSheet_13 ?_
      exact g_iret C hr (nar_z2 (iw (il 1) (by decide) (by decide))).1 (iw (il 1) (by decide) (by decide)) ⟨O, Fx.rf, (iw (il 1) (by decide) (by decide)), (by omega)⟩ (by decide) (by decide) dX12_isSheet_17
def wr_k_X12_cost : List Nat := [2400, 2435, 2462, 2469, 2477, 2478, 26220000, 26420000, 30620200, 30820000, 31020000, 31220000, 32620000, 32820000, 33020000, 33220000, 33420000, 33620000, 34020200, 34220000, 34420400, 34620200, 34820200, 35020000, 35220000]
set_option maxRecDepth 100000 in
set_option maxHeartbeats 4000000 in
theorem k_X12_cost (l : Launch) (D : va_G) (cy : Nat → ClassId) (w : Nat → Nat) (z0 : Nat)  {h : Hp} {a0 : Nat} {a1 : Int}  (O : Okh h) (ta0 : Tg h a0 = 12) (fa1 : (-2147483648) ≤ a1 ∧ a1 ≤ 2147483647) (P_MInv : MInv h a0) : MI l D cy w z0 yX12_cost cX12_cost 2 (some .int) 11 278 0 0 [.inr (.inr a0), .inl a1] h (fun v h1 => Okh h1 ∧ Fx wr_k_X12_cost h h1 ∧ ((-2147483648) ≤ v ∧ v ≤ 2147483647)) := by
  refine hm_go (by decide +kernel) (Nat.le_of_ble_eq_true rfl) (fun p e s m below meth c C hr hn => ?_)
  refine g_aload_n C rfl 0 rfl dX12_cost_0 ?_
  refine g_iconst C dX12_cost_1 ?_
  refine gp_I C fk_LandSurveyModel_1 pk_LandSurveyModel_0 rfl ta0 (iw (il 0) (by decide) (by decide)) (nf_i _) dX12_cost_2 (fun h2 hh1 => ?_)
  have O3 := O.pI ta0 hh1 rI_12_0 (iw (il 0) (by decide) (by decide)) nofun
  refine g_aload_n C rfl 0 rfl dX12_cost_5 ?_
  have e4 : Tg h2 a0 = 12 := ((pIT hh1).trans ta0)
  have p5 := (MInv_fx O ((Fx.rf (wr := [2400]) (h := h)).pI ta0 hh1 rfl) ta0 rfl P_MInv)
  refine g_callV (st := []) (gc_V C lk_LandSurveyModel_557 (k_X12_findGrounds l D cy w z0 O3 e4 p5) e4 rfl rfl rfl ⟨by decide, by decide⟩ (Nat.le_of_ble_eq_true rfl) dX12_cost_6 ⟨(by decide), (by decide)⟩) (fun h7 K8 => ?_)
  obtain ⟨O10, F11⟩ := K8
  refine g_aload_n C rfl 0 rfl dX12_cost_9 ?_
  refine g_iload_n C rfl 1 rfl dX12_cost_10 ?_
  have e12 : Tg h7 a0 = 12 := (fxT F11 e4)
  refine g_callI (st := []) (gc_V C lk_LandSurveyModel_563 (k2_isSet l D cy w z0 O10 e12 fa1) e12 rfl rfl rfl ⟨by decide, by decide⟩ (Nat.le_of_ble_eq_true rfl) dX12_cost_11 ⟨(by decide), (by decide)⟩) (fun r13 h14 f16 K15 => ?_)
  obtain ⟨O17, F18, f19, p20⟩ := K15
  refine g_if_eq C (iw f19 (by decide) (by decide)) 35 (by decide) dX12_cost_14 (fun q21 => ?_) (fun q22 => ?_)
  · have f23 : (0 : Int) ≤ r13 ∧ r13 ≤ (0 : Int) := ii f19 (r_eq (il 0) q21) (by decide) (by decide)
    refine g_iconst C dX12_cost_35 ?_
    exact g_iret C hr rfl (iw (il (-1)) (by decide) (by decide)) ⟨O17, ((((Fx.rf (wr := wr_k_X12_cost)).pI ta0 hh1 rfl).call F11 rfl).call F18 rfl), (iw (il (-1)) (by decide) (by decide))⟩ (by decide) (by decide) dX12_cost_36
  · have f24 : (1 : Int) ≤ r13 ∧ r13 ≤ (1 : Int) := r_nl f19 q22
    have f25 : (0 : Int) ≤ a1 ∧ a1 ≤ (15 : Int) := by omega
    refine g_aload_n C rfl 0 rfl dX12_cost_17 ?_
    have e26 : Tg h14 a0 = 12 := (fxT F18 e12)
    obtain ⟨v27, e28⟩ : ∃ z, Rv h14 a0 70 = z := ⟨_, rfl⟩
    have t29 := ok_R O17 e26 rE_12_70 e28
    have l30 := ok_L O17 e26 rE_12_70 e28
    refine gf_R C fk_LandSurveyModel_251 rfl e26 e28 dX12_cost_18 ?_
    refine g_iload_n C rfl 1 rfl dX12_cost_21 ?_
    obtain ⟨v31, e32⟩ : ∃ z, Iv h14 v27 a1.toNat = z := ⟨_, rfl⟩
    have f33 := ok_Ia O17 t29 ar_170101 rI_170101_0 e32
    refine g_zald C t29 rfl l30 (ix f25 (by decide) (by decide)) e32 dX12_cost_22 ?_
    refine g_if_eq C (iw f33 (by decide) (by decide)) 35 (by decide) dX12_cost_23 (fun q34 => ?_) (fun q35 => ?_)
    · have f36 : (0 : Int) ≤ v31 ∧ v31 ≤ (0 : Int) := ii f33 (r_eq (il 0) q34) (by decide) (by decide)
      refine g_iconst C dX12_cost_35 ?_
      exact g_iret C hr rfl (iw (il (-1)) (by decide) (by decide)) ⟨O17, ((((Fx.rf (wr := wr_k_X12_cost)).pI ta0 hh1 rfl).call F11 rfl).call F18 rfl), (iw (il (-1)) (by decide) (by decide))⟩ (by decide) (by decide) dX12_cost_36
    · have f37 : (1 : Int) ≤ v31 ∧ v31 ≤ (1 : Int) := r_nl f33 q35
      refine g_aload_n C rfl 0 rfl dX12_cost_26 ?_
      obtain ⟨v38, e39⟩ : ∃ z, Rv h14 a0 71 = z := ⟨_, rfl⟩
      have t40 := ok_R O17 e26 rE_12_71 e39
      have l41 := ok_L O17 e26 rE_12_71 e39
      refine gf_R C fk_LandSurveyModel_254 rfl e26 e39 dX12_cost_27 ?_
      refine g_iload_n C rfl 1 rfl dX12_cost_30 ?_
      obtain ⟨v42, e43⟩ : ∃ z, Iv h14 v38 a1.toNat = z := ⟨_, rfl⟩
      have f44 := ok_Ia O17 t40 ar_171100 rI_171100_0 e43
      refine g_iald C t40 rfl l41 (ix f25 (by decide) (by decide)) e43 dX12_cost_31 ?_
      refine g_goto C 36 (by decide) dX12_cost_32 ?_
      exact g_iret C hr rfl f44 ⟨O17, ((((Fx.rf (wr := wr_k_X12_cost)).pI ta0 hh1 rfl).call F11 rfl).call F18 rfl), f44⟩ (by decide) (by decide) dX12_cost_36
def wr_k_X12_doubted : List Nat := [2400, 2435, 2462, 2469, 2477, 2478, 26220000, 26420000, 30620200, 30820000, 31020000, 31220000, 32620000, 32820000, 33020000, 33220000, 33420000, 33620000, 34020200, 34220000, 34420400, 34620200, 34820200, 35020000, 35220000]
set_option maxRecDepth 100000 in
set_option maxHeartbeats 4000000 in
theorem k_X12_doubted (l : Launch) (D : va_G) (cy : Nat → ClassId) (w : Nat → Nat) (z0 : Nat)  {h : Hp} {a0 : Nat} {a1 : Int} {a2 : Int}  (O : Okh h) (ta0 : Tg h a0 = 12) (fa1 : (-2147483648) ≤ a1 ∧ a1 ≤ 2147483647) (fa2 : (-2147483648) ≤ a2 ∧ a2 ≤ 2147483647) (P_MInv : MInv h a0) : MI l D cy w z0 yX12_doubted cX12_doubted 5 (some .int) 11 278 0 0 [.inr (.inr a0), .inl a1, .inl a2] h (fun v h1 => Okh h1 ∧ Fx wr_k_X12_doubted h h1 ∧ ((-2147483648) ≤ v ∧ v ≤ 2147483647)) := by
  refine hm_go (by decide +kernel) (Nat.le_of_ble_eq_true rfl) (fun p e s m below meth c C hr hn => ?_)
  refine g_aload_n C rfl 0 rfl dX12_doubted_0 ?_
  refine g_iconst C dX12_doubted_1 ?_
  refine gp_I C fk_LandSurveyModel_1 pk_LandSurveyModel_0 rfl ta0 (iw (il 0) (by decide) (by decide)) (nf_i _) dX12_doubted_2 (fun h2 hh1 => ?_)
  have O3 := O.pI ta0 hh1 rI_12_0 (iw (il 0) (by decide) (by decide)) nofun
  refine g_aload_n C rfl 0 rfl dX12_doubted_5 ?_
  have e4 : Tg h2 a0 = 12 := ((pIT hh1).trans ta0)
  have p5 := (MInv_fx O ((Fx.rf (wr := [2400]) (h := h)).pI ta0 hh1 rfl) ta0 rfl P_MInv)
  refine g_callV (st := []) (gc_V C lk_LandSurveyModel_557 (k_X12_findGrounds l D cy w z0 O3 e4 p5) e4 rfl rfl rfl ⟨by decide, by decide⟩ (Nat.le_of_ble_eq_true rfl) dX12_doubted_6 ⟨(by decide), (by decide)⟩) (fun h7 K8 => ?_)
  obtain ⟨O10, F11⟩ := K8
  refine g_iload_n C rfl 2 rfl dX12_doubted_9 ?_
  refine g_istore_n C [(3, .inl a2), (0, .inr (.inr a0)), (1, .inl a1), (2, .inl a2)] rfl (by decide) rfl dX12_doubted_10 ?_
  refine g_iconst C dX12_doubted_11 ?_
  refine g_istore C [(4, .inl 0), (3, .inl a2), (0, .inr (.inr a0)), (1, .inl a1), (2, .inl a2)] (by decide) rfl dX12_doubted_12 ?_
  refine GW.sub [2, 3, 4, 1, 0] rfl ?_
  -- loop at 14
  have L15 : ∀ (μ : Nat) (x12 : Int) (x13 : Int) (h14 : Hp), (40 - x13).toNat = μ → Okh h14 → Fx [] h7 h14 → ((-2147483648 : Int) ≤ x12 ∧ x12 ≤ (2147483647 : Int)) → ((0 : Int) ≤ x13 ∧ x13 ≤ (40 : Int)) → GW p l e (rmm 11 278 0 0) s m (List.map toV [.inr (.inr a0), .inl a1, .inl a2]).toArray below meth c D cy z0 5 (MQ below (QI D cy z0 (fun v h1 => Okh h1 ∧ Fx wr_k_X12_doubted h h1 ∧ ((-2147483648) ≤ v ∧ v ≤ 2147483647))) (List.map toV [.inr (.inr a0), .inl a1, .inl a2]).toArray s 0 0 (Aof z0)) 14 [(0, .inr (.inr a0)), (1, .inl a1), (2, .inl a2), (3, .inl x12), (4, .inl x13)] [] h14 0 0 := by
    intro μ
    induction μ using Nat.strongRecOn with
    | ind μ ih16 =>
      intro x12 x13 h14 hm17 O18 F19 f20 f21
      refine g_iload C 4 rfl dX12_doubted_14 ?_
      refine g_aload_n C rfl 0 rfl dX12_doubted_16 ?_
      have e22 : Tg h14 a0 = 12 := (fxT F19 (fxT F11 e4))
      obtain ⟨v23, e24⟩ : ∃ z, Iv h14 a0 40 = z := ⟨_, rfl⟩
      have f25 := ok_I O18 e22 rI_12_40 e24
      refine gf_I C fk_LandSurveyModel_423 rfl e22 e24 dX12_doubted_17 ?_
      refine g_icmp_ge C (iw f21 (by decide) (by decide)) (iw f25 (by decide) (by decide)) 74 (by decide) dX12_doubted_20 (fun q26 => ?_) (fun q27 => ?_)
      · refine g_iconst C dX12_doubted_74 ?_
        exact g_iret C hr rfl (iw (il (-1)) (by decide) (by decide)) ⟨O18, ((((Fx.rf (wr := wr_k_X12_doubted)).pI ta0 hh1 rfl).call F11 rfl).call F19 rfl), (iw (il (-1)) (by decide) (by decide))⟩ (by decide) (by decide) dX12_doubted_75
      · have f28 : (0 : Int) ≤ x13 ∧ x13 ≤ (39 : Int) := r_lt f21 f25 q27 (by decide) (by decide)
        have f29 : (1 : Int) ≤ v23 ∧ v23 ≤ (40 : Int) := r_gt f25 f21 q27 (by decide) (by decide)
        refine g_aload_n C rfl 0 rfl dX12_doubted_23 ?_
        refine g_iload_n C rfl 1 rfl dX12_doubted_24 ?_
        refine g_callI (st := []) (gc_V C lk_LandSurveyModel_563 (k2_isSet l D cy w z0 O18 e22 fa1) e22 rfl rfl rfl ⟨by decide, by decide⟩ (Nat.le_of_ble_eq_true rfl) dX12_doubted_25 ⟨(by decide), (by decide)⟩) (fun r30 h31 f33 K32 => ?_)
        obtain ⟨O34, F35, f36, p37⟩ := K32
        refine g_if_eq C (iw f36 (by decide) (by decide)) 74 (by decide) dX12_doubted_28 (fun q38 => ?_) (fun q39 => ?_)
        · have f40 : (0 : Int) ≤ r30 ∧ r30 ≤ (0 : Int) := ii f36 (r_eq (il 0) q38) (by decide) (by decide)
          refine g_iconst C dX12_doubted_74 ?_
          exact g_iret C hr rfl (iw (il (-1)) (by decide) (by decide)) ⟨O34, (((((Fx.rf (wr := wr_k_X12_doubted)).pI ta0 hh1 rfl).call F11 rfl).call F19 rfl).call F35 rfl), (iw (il (-1)) (by decide) (by decide))⟩ (by decide) (by decide) dX12_doubted_75
        · have f41 : (1 : Int) ≤ r30 ∧ r30 ≤ (1 : Int) := r_nl f36 q39
          have f42 : (0 : Int) ≤ a1 ∧ a1 ≤ (15 : Int) := by omega
          refine g_aload_n C rfl 0 rfl dX12_doubted_31 ?_
          have e43 : Tg h31 a0 = 12 := (fxT F35 e22)
          obtain ⟨v44, e45⟩ : ∃ z, Rv h31 a0 70 = z := ⟨_, rfl⟩
          have t46 := ok_R O34 e43 rE_12_70 e45
          have l47 := ok_L O34 e43 rE_12_70 e45
          refine gf_R C fk_LandSurveyModel_251 rfl e43 e45 dX12_doubted_32 ?_
          refine g_iload_n C rfl 1 rfl dX12_doubted_35 ?_
          obtain ⟨v48, e49⟩ : ∃ z, Iv h31 v44 a1.toNat = z := ⟨_, rfl⟩
          have f50 := ok_Ia O34 t46 ar_170101 rI_170101_0 e49
          refine g_zald C t46 rfl l47 (ix f42 (by decide) (by decide)) e49 dX12_doubted_36 ?_
          refine g_if_eq C (iw f50 (by decide) (by decide)) 74 (by decide) dX12_doubted_37 (fun q51 => ?_) (fun q52 => ?_)
          · have f53 : (0 : Int) ≤ v48 ∧ v48 ≤ (0 : Int) := ii f50 (r_eq (il 0) q51) (by decide) (by decide)
            refine g_iconst C dX12_doubted_74 ?_
            exact g_iret C hr rfl (iw (il (-1)) (by decide) (by decide)) ⟨O34, (((((Fx.rf (wr := wr_k_X12_doubted)).pI ta0 hh1 rfl).call F11 rfl).call F19 rfl).call F35 rfl), (iw (il (-1)) (by decide) (by decide))⟩ (by decide) (by decide) dX12_doubted_75
          · have f54 : (1 : Int) ≤ v48 ∧ v48 ≤ (1 : Int) := r_nl f50 q52
            refine g_iload_n C rfl 2 rfl dX12_doubted_40 ?_
            refine g_if_lt C fa2 74 (by decide) dX12_doubted_41 (fun q55 => ?_) (fun q56 => ?_)
            · have f57 : (-2147483648 : Int) ≤ a2 ∧ a2 ≤ (-1 : Int) := r_lt fa2 (il 0) q55 (by decide) (by decide)
              refine g_iconst C dX12_doubted_74 ?_
              exact g_iret C hr rfl (iw (il (-1)) (by decide) (by decide)) ⟨O34, (((((Fx.rf (wr := wr_k_X12_doubted)).pI ta0 hh1 rfl).call F11 rfl).call F19 rfl).call F35 rfl), (iw (il (-1)) (by decide) (by decide))⟩ (by decide) (by decide) dX12_doubted_75
            · have f58 : (0 : Int) ≤ a2 ∧ a2 ≤ (2147483647 : Int) := r_ge fa2 (il 0) q56 (by decide) (by decide)
              refine g_aload_n C rfl 0 rfl dX12_doubted_44 ?_
              obtain ⟨v59, e60⟩ : ∃ z, Rv h31 a0 72 = z := ⟨_, rfl⟩
              have t61 := ok_R O34 e43 rE_12_72 e60
              have l62 := ok_L O34 e43 rE_12_72 e60
              refine gf_R C fk_LandSurveyModel_257 rfl e43 e60 dX12_doubted_45 ?_
              refine g_iload_n C rfl 1 rfl dX12_doubted_48 ?_
              obtain ⟨v63, e64⟩ : ∃ z, Jv h31 v59 a1.toNat = z := ⟨_, rfl⟩
              have f65 := inL_J O34 e64
              refine g_lald C t61 rfl l62 (ix f42 (by decide) (by decide)) e64 dX12_doubted_49 ?_
              refine g_iload C 4 rfl dX12_doubted_50 ?_
              refine g_callI (st := []) (gc_S C lk_LandSurveyModel_487 (k_X12_isIn l D cy w z0 O34 f65 (iw f28 (by decide) (by decide))) rfl ⟨by decide, by decide⟩ (Nat.le_of_ble_eq_true rfl) dX12_doubted_52 ⟨(by decide), (by decide)⟩) (fun r66 h67 f69 K68 => ?_)
              obtain ⟨O70, F71, f72⟩ := K68
              refine g_if_eq C (iw f72 (by decide) (by decide)) 68 (by decide) dX12_doubted_55 (fun q73 => ?_) (fun q74 => ?_)
              · have f75 : (0 : Int) ≤ r66 ∧ r66 ≤ (0 : Int) := ii f72 (r_eq (il 0) q73) (by decide) (by decide)
                have f76 : (1 : Int) ≤ (x13 + 1) ∧ (x13 + 1) ≤ (40 : Int) := ia_add f28 (il 1) (by decide) (by decide)
                refine g_iinc C [(4, .inl (x13 + 1)), (0, .inr (.inr a0)), (1, .inl a1), (2, .inl a2), (3, .inl x12)] 4 rfl (by decide) rfl dX12_doubted_68 ?_
                refine g_goto C 14 (by decide) dX12_doubted_71 ?_
                refine GW.sub [1, 2, 3, 4, 0] rfl ?_
                exact ih16 _ (by omega) x12 (x13 + 1) h67 rfl O70 ((F19.call F35 rfl).call F71 rfl) f20 (iw f76 (by decide) (by decide))
              · have f77 : (1 : Int) ≤ r66 ∧ r66 ≤ (1 : Int) := r_nl f72 q74
                refine g_iload_n C rfl 3 rfl dX12_doubted_58 ?_
                refine g_if_ne C f20 65 (by decide) dX12_doubted_59 (fun q78 => ?_) (fun q79 => ?_)
                · have f80 : (-2147483648 : Int) ≤ (w32 (x12 + (-1))) ∧ (w32 (x12 + (-1))) ≤ (2147483647 : Int) := w32_inR _
                  refine g_iincW C [(3, .inl (w32 (x12 + (-1)))), (0, .inr (.inr a0)), (1, .inl a1), (2, .inl a2), (4, .inl x13)] 3 rfl (by decide) rfl dX12_doubted_65 ?_
                  have f81 : (1 : Int) ≤ (x13 + 1) ∧ (x13 + 1) ≤ (40 : Int) := ia_add f28 (il 1) (by decide) (by decide)
                  refine g_iinc C [(4, .inl (x13 + 1)), (3, .inl (w32 (x12 + (-1)))), (0, .inr (.inr a0)), (1, .inl a1), (2, .inl a2)] 4 rfl (by decide) rfl dX12_doubted_68 ?_
                  refine g_goto C 14 (by decide) dX12_doubted_71 ?_
                  refine GW.sub [2, 3, 4, 1, 0] rfl ?_
                  exact ih16 _ (by omega) (w32 (x12 + (-1))) (x13 + 1) h67 rfl O70 ((F19.call F35 rfl).call F71 rfl) f80 (iw f81 (by decide) (by decide))
                · have f82 : (0 : Int) ≤ x12 ∧ x12 ≤ (0 : Int) := ii f20 (r_eq (il 0) q79) (by decide) (by decide)
                  refine g_iload C 4 rfl dX12_doubted_62 ?_
                  exact g_iret C hr rfl (iw f28 (by decide) (by decide)) ⟨O70, ((((((Fx.rf (wr := wr_k_X12_doubted)).pI ta0 hh1 rfl).call F11 rfl).call F19 rfl).call F35 rfl).call F71 rfl), (iw f28 (by decide) (by decide))⟩ (by decide) (by decide) dX12_doubted_64
  exact L15 _ a2 0 h7 rfl O10 Fx.rf fa2 (iw (il 0) (by decide) (by decide))
def wr_k_X12_best : List Nat := [2400, 2435, 2462, 2469, 2477, 2478, 26220000, 26420000, 30620200, 30820000, 31020000, 31220000, 32620000, 32820000, 33020000, 33220000, 33420000, 33620000, 34020200, 34220000, 34420400, 34620200, 34820200, 35020000, 35220000]
set_option maxRecDepth 100000 in
set_option maxHeartbeats 4000000 in
theorem k_X12_best (l : Launch) (D : va_G) (cy : Nat → ClassId) (w : Nat → Nat) (z0 : Nat)  {h : Hp} {a0 : Nat} {a1 : Int}  (O : Okh h) (ta0 : Tg h a0 = 12) (fa1 : (-2147483648) ≤ a1 ∧ a1 ≤ 2147483647) (P_MInv : MInv h a0) : MI l D cy w z0 yX12_best cX12_best 2 (some .int) 11 278 0 0 [.inr (.inr a0), .inl a1] h (fun v h1 => Okh h1 ∧ Fx wr_k_X12_best h h1 ∧ ((-2147483648) ≤ v ∧ v ≤ 2147483647)) := by
  refine hm_go (by decide +kernel) (Nat.le_of_ble_eq_true rfl) (fun p e s m below meth c C hr hn => ?_)
  refine g_aload_n C rfl 0 rfl dX12_best_0 ?_
  refine g_iconst C dX12_best_1 ?_
  refine gp_I C fk_LandSurveyModel_1 pk_LandSurveyModel_0 rfl ta0 (iw (il 0) (by decide) (by decide)) (nf_i _) dX12_best_2 (fun h2 hh1 => ?_)
  have O3 := O.pI ta0 hh1 rI_12_0 (iw (il 0) (by decide) (by decide)) nofun
  refine g_aload_n C rfl 0 rfl dX12_best_5 ?_
  have e4 : Tg h2 a0 = 12 := ((pIT hh1).trans ta0)
  have p5 := (MInv_fx O ((Fx.rf (wr := [2400]) (h := h)).pI ta0 hh1 rfl) ta0 rfl P_MInv)
  refine g_callV (st := []) (gc_V C lk_LandSurveyModel_557 (k_X12_findGrounds l D cy w z0 O3 e4 p5) e4 rfl rfl rfl ⟨by decide, by decide⟩ (Nat.le_of_ble_eq_true rfl) dX12_best_6 ⟨(by decide), (by decide)⟩) (fun h7 K8 => ?_)
  obtain ⟨O10, F11⟩ := K8
  refine g_iload_n C rfl 1 rfl dX12_best_9 ?_
  refine g_iconst C dX12_best_10 ?_
  refine g_icmp_ne C fa1 (iw (il 3) (by decide) (by decide)) 19 (by decide) dX12_best_11 (fun q12 => ?_) (fun q13 => ?_)
  · refine g_aload_n C rfl 0 rfl dX12_best_19 ?_
    have e14 : Tg h7 a0 = 12 := (fxT F11 e4)
    obtain ⟨v15, e16⟩ : ∃ z, Iv h7 a0 77 = z := ⟨_, rfl⟩
    have f17 := ok_I O10 e14 rI_12_77 e16
    refine gf_I C fk_LandSurveyModel_537 rfl e14 e16 dX12_best_20 ?_
    refine g_if_lt C (iw f17 (by decide) (by decide)) 35 (by decide) dX12_best_23 (fun q18 => ?_) (fun q19 => ?_)
    · have f20 : (-1 : Int) ≤ v15 ∧ v15 ≤ (-1 : Int) := r_lt f17 (il 0) q18 (by decide) (by decide)
      refine g_iconst C dX12_best_35 ?_
      refine g_goto C 80 (by decide) dX12_best_36 ?_
      exact g_iret C hr rfl (iw (il (-1)) (by decide) (by decide)) ⟨O10, (((Fx.rf (wr := wr_k_X12_best)).pI ta0 hh1 rfl).call F11 rfl), (iw (il (-1)) (by decide) (by decide))⟩ (by decide) (by decide) dX12_best_80
    · have f21 : (0 : Int) ≤ v15 ∧ v15 ≤ (15 : Int) := r_ge f17 (il 0) q19 (by decide) (by decide)
      refine g_iload_n C rfl 1 rfl dX12_best_26 ?_
      refine g_if_lt C fa1 35 (by decide) dX12_best_27 (fun q22 => ?_) (fun q23 => ?_)
      · have f24 : (-2147483648 : Int) ≤ a1 ∧ a1 ≤ (-1 : Int) := r_lt fa1 (il 0) q22 (by decide) (by decide)
        refine g_iconst C dX12_best_35 ?_
        refine g_goto C 80 (by decide) dX12_best_36 ?_
        exact g_iret C hr rfl (iw (il (-1)) (by decide) (by decide)) ⟨O10, (((Fx.rf (wr := wr_k_X12_best)).pI ta0 hh1 rfl).call F11 rfl), (iw (il (-1)) (by decide) (by decide))⟩ (by decide) (by decide) dX12_best_80
      · have f25 : (0 : Int) ≤ a1 ∧ a1 ≤ (2147483647 : Int) := r_ge fa1 (il 0) q23 (by decide) (by decide)
        refine g_iload_n C rfl 1 rfl dX12_best_30 ?_
        refine g_iconst C dX12_best_31 ?_
        refine g_icmp_le C (iw f25 (by decide) (by decide)) (iw (il 3) (by decide) (by decide)) 39 (by decide) dX12_best_32 (fun q26 => ?_) (fun q27 => ?_)
        · have f28 : (0 : Int) ≤ a1 ∧ a1 ≤ (3 : Int) := r_le f25 (il 3) q26 (by decide) (by decide)
          refine g_iload_n C rfl 1 rfl dX12_best_39 ?_
          refine g_if_ne C (iw f28 (by decide) (by decide)) 50 (by decide) dX12_best_40 (fun q29 => ?_) (fun q30 => ?_)
          · have f31 : (1 : Int) ≤ a1 ∧ a1 ≤ (3 : Int) := r_nl f28 q29
            refine g_iload_n C rfl 1 rfl dX12_best_50 ?_
            refine g_iconst C dX12_best_51 ?_
            refine g_icmp_ne C (iw f31 (by decide) (by decide)) (iw (il 1) (by decide) (by decide)) 67 (by decide) dX12_best_52 (fun q32 => ?_) (fun q33 => ?_)
            · have f34 : (2 : Int) ≤ a1 ∧ a1 ≤ (3 : Int) := r_nl f31 q32
              refine g_aload_n C rfl 0 rfl dX12_best_67 ?_
              refine g_aload_n C rfl 0 rfl dX12_best_68 ?_
              obtain ⟨v35, e36⟩ : ∃ z, Rv h7 a0 72 = z := ⟨_, rfl⟩
              have t37 := ok_R O10 e14 rE_12_72 e36
              have l38 := ok_L O10 e14 rE_12_72 e36
              refine gf_R C fk_LandSurveyModel_257 rfl e14 e36 dX12_best_69 ?_
              refine g_aload_n C rfl 0 rfl dX12_best_72 ?_
              refine gf_I C fk_LandSurveyModel_537 rfl e14 e16 dX12_best_73 ?_
              obtain ⟨v39, e40⟩ : ∃ z, Jv h7 v35 v15.toNat = z := ⟨_, rfl⟩
              have f41 := inL_J O10 e40
              refine g_lald C t37 rfl l38 (ix f21 (by decide) (by decide)) e40 dX12_best_76 ?_
              refine g_callI (st := []) (gc_V C lk_LandSurveyModel_566 (k_X12_bitsOf l D cy w z0 O10 e14 f41) e14 rfl rfl rfl ⟨by decide, by decide⟩ (Nat.le_of_ble_eq_true rfl) dX12_best_77 ⟨(by decide), (by decide)⟩) (fun r42 h43 f45 K44 => ?_)
              obtain ⟨O46, F47, f48⟩ := K44
              exact g_iret C hr rfl f48 ⟨O46, ((((Fx.rf (wr := wr_k_X12_best)).pI ta0 hh1 rfl).call F11 rfl).call F47 rfl), f48⟩ (by decide) (by decide) dX12_best_80
            · have f49 : (1 : Int) ≤ a1 ∧ a1 ≤ (1 : Int) := ii f31 (r_eq (il 1) q33) (by decide) (by decide)
              refine g_aload_n C rfl 0 rfl dX12_best_55 ?_
              obtain ⟨v50, e51⟩ : ∃ z, Rv h7 a0 71 = z := ⟨_, rfl⟩
              have t52 := ok_R O10 e14 rE_12_71 e51
              have l53 := ok_L O10 e14 rE_12_71 e51
              refine gf_R C fk_LandSurveyModel_254 rfl e14 e51 dX12_best_56 ?_
              refine g_aload_n C rfl 0 rfl dX12_best_59 ?_
              refine gf_I C fk_LandSurveyModel_537 rfl e14 e16 dX12_best_60 ?_
              obtain ⟨v54, e55⟩ : ∃ z, Iv h7 v50 v15.toNat = z := ⟨_, rfl⟩
              have f56 := ok_Ia O10 t52 ar_171100 rI_171100_0 e55
              refine g_iald C t52 rfl l53 (ix f21 (by decide) (by decide)) e55 dX12_best_63 ?_
              refine g_goto C 80 (by decide) dX12_best_64 ?_
              exact g_iret C hr rfl f56 ⟨O10, (((Fx.rf (wr := wr_k_X12_best)).pI ta0 hh1 rfl).call F11 rfl), f56⟩ (by decide) (by decide) dX12_best_80
          · have f57 : (0 : Int) ≤ a1 ∧ a1 ≤ (0 : Int) := ii f28 (r_eq (il 0) q30) (by decide) (by decide)
            refine g_aload_n C rfl 0 rfl dX12_best_43 ?_
            refine gf_I C fk_LandSurveyModel_537 rfl e14 e16 dX12_best_44 ?_
            refine g_goto C 80 (by decide) dX12_best_47 ?_
            exact g_iret C hr rfl (iw f21 (by decide) (by decide)) ⟨O10, (((Fx.rf (wr := wr_k_X12_best)).pI ta0 hh1 rfl).call F11 rfl), (iw f21 (by decide) (by decide))⟩ (by decide) (by decide) dX12_best_80
        · have f58 : (4 : Int) ≤ a1 ∧ a1 ≤ (2147483647 : Int) := r_gt f25 (il 3) q27 (by decide) (by decide)
          refine g_iconst C dX12_best_35 ?_
          refine g_goto C 80 (by decide) dX12_best_36 ?_
          exact g_iret C hr rfl (iw (il (-1)) (by decide) (by decide)) ⟨O10, (((Fx.rf (wr := wr_k_X12_best)).pI ta0 hh1 rfl).call F11 rfl), (iw (il (-1)) (by decide) (by decide))⟩ (by decide) (by decide) dX12_best_80
  · have f59 : (3 : Int) ≤ a1 ∧ a1 ≤ (3 : Int) := ii fa1 (r_eq (il 3) q13) (by decide) (by decide)
    refine g_aload_n C rfl 0 rfl dX12_best_14 ?_
    have e60 : Tg h7 a0 = 12 := (fxT F11 e4)
    obtain ⟨v61, e62⟩ : ∃ z, Iv h7 a0 78 = z := ⟨_, rfl⟩
    have f63 := ok_I O10 e60 rI_12_78 e62
    refine gf_I C fk_LandSurveyModel_546 rfl e60 e62 dX12_best_15 ?_
    exact g_iret C hr rfl (iw f63 (by decide) (by decide)) ⟨O10, (((Fx.rf (wr := wr_k_X12_best)).pI ta0 hh1 rfl).call F11 rfl), (iw f63 (by decide) (by decide))⟩ (by decide) (by decide) dX12_best_18
def wr_k_X12_kept : List Nat := [2400, 2435, 2462, 2469, 2477, 2478, 26220000, 26420000, 30620200, 30820000, 31020000, 31220000, 32620000, 32820000, 33020000, 33220000, 33420000, 33620000, 34020200, 34220000, 34420400, 34620200, 34820200, 35020000, 35220000]
set_option maxRecDepth 100000 in
set_option maxHeartbeats 4000000 in
theorem k_X12_kept (l : Launch) (D : va_G) (cy : Nat → ClassId) (w : Nat → Nat) (z0 : Nat)  {h : Hp} {a0 : Nat} {a1 : Int}  (O : Okh h) (ta0 : Tg h a0 = 12) (fa1 : (-2147483648) ≤ a1 ∧ a1 ≤ 2147483647) (P_MInv : MInv h a0) : MI l D cy w z0 yX12_kept cX12_kept 2 (some .int) 11 278 0 0 [.inr (.inr a0), .inl a1] h (fun v h1 => Okh h1 ∧ Fx wr_k_X12_kept h h1 ∧ ((-2147483648) ≤ v ∧ v ≤ 2147483647)) := by
  refine hm_go (by decide +kernel) (Nat.le_of_ble_eq_true rfl) (fun p e s m below meth c C hr hn => ?_)
  refine g_aload_n C rfl 0 rfl dX12_kept_0 ?_
  refine g_iconst C dX12_kept_1 ?_
  refine gp_I C fk_LandSurveyModel_1 pk_LandSurveyModel_0 rfl ta0 (iw (il 0) (by decide) (by decide)) (nf_i _) dX12_kept_2 (fun h2 hh1 => ?_)
  have O3 := O.pI ta0 hh1 rI_12_0 (iw (il 0) (by decide) (by decide)) nofun
  refine g_aload_n C rfl 0 rfl dX12_kept_5 ?_
  have e4 : Tg h2 a0 = 12 := ((pIT hh1).trans ta0)
  have p5 := (MInv_fx O ((Fx.rf (wr := [2400]) (h := h)).pI ta0 hh1 rfl) ta0 rfl P_MInv)
  refine g_callV (st := []) (gc_V C lk_LandSurveyModel_557 (k_X12_findGrounds l D cy w z0 O3 e4 p5) e4 rfl rfl rfl ⟨by decide, by decide⟩ (Nat.le_of_ble_eq_true rfl) dX12_kept_6 ⟨(by decide), (by decide)⟩) (fun h7 K8 => ?_)
  obtain ⟨O10, F11⟩ := K8
  refine g_aload_n C rfl 0 rfl dX12_kept_9 ?_
  refine g_iload_n C rfl 1 rfl dX12_kept_10 ?_
  have e12 : Tg h7 a0 = 12 := (fxT F11 e4)
  refine g_callI (st := []) (gc_V C lk_LandSurveyModel_563 (k2_isSet l D cy w z0 O10 e12 fa1) e12 rfl rfl rfl ⟨by decide, by decide⟩ (Nat.le_of_ble_eq_true rfl) dX12_kept_11 ⟨(by decide), (by decide)⟩) (fun r13 h14 f16 K15 => ?_)
  obtain ⟨O17, F18, f19, p20⟩ := K15
  refine g_if_ne C (iw f19 (by decide) (by decide)) 21 (by decide) dX12_kept_14 (fun q21 => ?_) (fun q22 => ?_)
  · have f23 : (1 : Int) ≤ r13 ∧ r13 ≤ (1 : Int) := r_nl f19 q21
    have f24 : (0 : Int) ≤ a1 ∧ a1 ≤ (15 : Int) := by omega
    refine g_aload_n C rfl 0 rfl dX12_kept_21 ?_
    have e25 : Tg h14 a0 = 12 := (fxT F18 e12)
    obtain ⟨v26, e27⟩ : ∃ z, Rv h14 a0 73 = z := ⟨_, rfl⟩
    have t28 := ok_R O17 e25 rE_12_73 e27
    have l29 := ok_L O17 e25 rE_12_73 e27
    refine gf_R C fk_LandSurveyModel_260 rfl e25 e27 dX12_kept_22 ?_
    refine g_iload_n C rfl 1 rfl dX12_kept_25 ?_
    obtain ⟨v30, e31⟩ : ∃ z, Iv h14 v26 a1.toNat = z := ⟨_, rfl⟩
    have f32 := ok_Ia O17 t28 ar_173101 rI_173101_0 e31
    refine g_zald C t28 rfl l29 (ix f24 (by decide) (by decide)) e31 dX12_kept_26 ?_
    refine g_if_eq C (iw f32 (by decide) (by decide)) 34 (by decide) dX12_kept_27 (fun q33 => ?_) (fun q34 => ?_)
    · have f35 : (0 : Int) ≤ v30 ∧ v30 ≤ (0 : Int) := ii f32 (r_eq (il 0) q33) (by decide) (by decide)
      refine g_iconst C dX12_kept_34 ?_
      exact g_iret C hr rfl (iw (il 0) (by decide) (by decide)) ⟨O17, ((((Fx.rf (wr := wr_k_X12_kept)).pI ta0 hh1 rfl).call F11 rfl).call F18 rfl), (iw (il 0) (by decide) (by decide))⟩ (by decide) (by decide) dX12_kept_35
    · have f36 : (1 : Int) ≤ v30 ∧ v30 ≤ (1 : Int) := r_nl f32 q34
      refine g_iconst C dX12_kept_30 ?_
      refine g_goto C 35 (by decide) dX12_kept_31 ?_
      exact g_iret C hr rfl (iw (il 1) (by decide) (by decide)) ⟨O17, ((((Fx.rf (wr := wr_k_X12_kept)).pI ta0 hh1 rfl).call F11 rfl).call F18 rfl), (iw (il 1) (by decide) (by decide))⟩ (by decide) (by decide) dX12_kept_35
  · have f37 : (0 : Int) ≤ r13 ∧ r13 ≤ (0 : Int) := ii f19 (r_eq (il 0) q22) (by decide) (by decide)
    refine g_iconst C dX12_kept_17 ?_
    refine g_goto C 35 (by decide) dX12_kept_18 ?_
    exact g_iret C hr rfl (iw (il (-1)) (by decide) (by decide)) ⟨O17, ((((Fx.rf (wr := wr_k_X12_kept)).pI ta0 hh1 rfl).call F11 rfl).call F18 rfl), (iw (il (-1)) (by decide) (by decide))⟩ (by decide) (by decide) dX12_kept_35
def wr_k_X12_base : List Nat := [2400, 2435, 2462, 2469, 2477, 2478, 26220000, 26420000, 30620200, 30820000, 31020000, 31220000, 32620000, 32820000, 33020000, 33220000, 33420000, 33620000, 34020200, 34220000, 34420400, 34620200, 34820200, 35020000, 35220000]
set_option maxRecDepth 100000 in
set_option maxHeartbeats 4000000 in
theorem k_X12_base (l : Launch) (D : va_G) (cy : Nat → ClassId) (w : Nat → Nat) (z0 : Nat)  {h : Hp} {a0 : Nat} {a1 : Int} {a2 : Int} {a3 : Int} {a4 : Int}  (O : Okh h) (ta0 : Tg h a0 = 12) (fa1 : (-2147483648) ≤ a1 ∧ a1 ≤ 2147483647) (fa2 : (-2147483648) ≤ a2 ∧ a2 ≤ 2147483647) (fa3 : (-2147483648) ≤ a3 ∧ a3 ≤ 2147483647) (fa4 : (-2147483648) ≤ a4 ∧ a4 ≤ 2147483647) (P_MInv : MInv h a0) : MI l D cy w z0 yX12_base cX12_base 5 (some .int) 11 278 0 0 [.inr (.inr a0), .inl a1, .inl a2, .inl a3, .inl a4] h (fun v h1 => Okh h1 ∧ Fx wr_k_X12_base h h1 ∧ ((-2147483648) ≤ v ∧ v ≤ 2147483647)) := by
  refine hm_go (by decide +kernel) (Nat.le_of_ble_eq_true rfl) (fun p e s m below meth c C hr hn => ?_)
  refine g_aload_n C rfl 0 rfl dX12_base_0 ?_
  refine g_iconst C dX12_base_1 ?_
  refine gp_I C fk_LandSurveyModel_1 pk_LandSurveyModel_0 rfl ta0 (iw (il 1) (by decide) (by decide)) (nf_i _) dX12_base_2 (fun h2 hh1 => ?_)
  have O3 := O.pI ta0 hh1 rI_12_0 (iw (il 1) (by decide) (by decide)) nofun
  refine g_aload_n C rfl 0 rfl dX12_base_5 ?_
  refine g_iload_n C rfl 1 rfl dX12_base_6 ?_
  have e4 : Tg h2 a0 = 12 := ((pIT hh1).trans ta0)
  refine g_callI (st := []) (gc_V C lk_LandSurveyModel_563 (k2_isSet l D cy w z0 O3 e4 fa1) e4 rfl rfl rfl ⟨by decide, by decide⟩ (Nat.le_of_ble_eq_true rfl) dX12_base_7 ⟨(by decide), (by decide)⟩) (fun r5 h6 f8 K7 => ?_)
  obtain ⟨O9, F10, f11, p12⟩ := K7
  refine g_if_eq C (iw f11 (by decide) (by decide)) 31 (by decide) dX12_base_10 (fun q13 => ?_) (fun q14 => ?_)
  · have f15 : (0 : Int) ≤ r5 ∧ r5 ≤ (0 : Int) := ii f11 (r_eq (il 0) q13) (by decide) (by decide)
    refine g_iconst C dX12_base_31 ?_
    exact g_iret C hr rfl (iw (il 0) (by decide) (by decide)) ⟨O9, (((Fx.rf (wr := wr_k_X12_base)).pI ta0 hh1 rfl).call F10 rfl), (iw (il 0) (by decide) (by decide))⟩ (by decide) (by decide) dX12_base_32
  · have f16 : (1 : Int) ≤ r5 ∧ r5 ≤ (1 : Int) := r_nl f11 q14
    have f17 : (0 : Int) ≤ a1 ∧ a1 ≤ (15 : Int) := by omega
    refine g_iload_n C rfl 2 rfl dX12_base_13 ?_
    refine g_iload_n C rfl 3 rfl dX12_base_14 ?_
    refine g_callI (st := []) (gc_S C lk_LandSurveyModel_419 (k_X12_isCell l D cy w z0 O9 fa2 fa3) rfl ⟨by decide, by decide⟩ (Nat.le_of_ble_eq_true rfl) dX12_base_15 ⟨(by decide), (by decide)⟩) (fun r18 h19 f21 K20 => ?_)
    obtain ⟨O22, F23, f24, p25⟩ := K20
    refine g_if_eq C (iw f24 (by decide) (by decide)) 31 (by decide) dX12_base_18 (fun q26 => ?_) (fun q27 => ?_)
    · have f28 : (0 : Int) ≤ r18 ∧ r18 ≤ (0 : Int) := ii f24 (r_eq (il 0) q26) (by decide) (by decide)
      refine g_iconst C dX12_base_31 ?_
      exact g_iret C hr rfl (iw (il 0) (by decide) (by decide)) ⟨O22, ((((Fx.rf (wr := wr_k_X12_base)).pI ta0 hh1 rfl).call F10 rfl).call F23 rfl), (iw (il 0) (by decide) (by decide))⟩ (by decide) (by decide) dX12_base_32
    · have f29 : (1 : Int) ≤ r18 ∧ r18 ≤ (1 : Int) := r_nl f24 q27
      have f30 : (0 : Int) ≤ a2 ∧ a2 ≤ (11 : Int) := by omega
      have f31 : (0 : Int) ≤ a3 ∧ a3 ≤ (7 : Int) := by omega
      refine g_iload C 4 rfl dX12_base_21 ?_
      refine g_iconst C dX12_base_23 ?_
      refine g_iconst C dX12_base_24 ?_
      refine g_callI (st := []) (gc_S C lk_LandSurveyModel_415 (k_X12_within l D cy w z0 O22 fa4 (iw (il 0) (by decide) (by decide)) (iw (il 1) (by decide) (by decide))) rfl ⟨by decide, by decide⟩ (Nat.le_of_ble_eq_true rfl) dX12_base_25 ⟨(by decide), (by decide)⟩) (fun r32 h33 f35 K34 => ?_)
      obtain ⟨O36, F37, f38, p39⟩ := K34
      refine g_if_ne C (iw f38 (by decide) (by decide)) 33 (by decide) dX12_base_28 (fun q40 => ?_) (fun q41 => ?_)
      · have f42 : (1 : Int) ≤ r32 ∧ r32 ≤ (1 : Int) := r_nl f38 q40
        have f43 : (0 : Int) ≤ a4 ∧ a4 ≤ (1 : Int) := by omega
        refine g_aload_n C rfl 0 rfl dX12_base_33 ?_
        have e44 : Tg h33 a0 = 12 := (fxT F37 (fxT F23 (fxT F10 e4)))
        have e45 : Tg h6 a0 = 12 := (fxT F10 e4)
        have e46 : Tg h19 a0 = 12 := (fxT F23 e45)
        have p47 := (MInv_fx O22 F37 e46 rfl (MInv_fx O9 F23 e45 rfl (MInv_fx O3 F10 e4 rfl (MInv_fx O ((Fx.rf (wr := [2400]) (h := h)).pI ta0 hh1 rfl) ta0 rfl P_MInv))))
        refine g_callV (st := []) (gc_V C lk_LandSurveyModel_557 (k_X12_findGrounds l D cy w z0 O36 e44 p47) e44 rfl rfl rfl ⟨by decide, by decide⟩ (Nat.le_of_ble_eq_true rfl) dX12_base_34 ⟨(by decide), (by decide)⟩) (fun h49 K50 => ?_)
        obtain ⟨O52, F53⟩ := K50
        refine g_aload_n C rfl 0 rfl dX12_base_37 ?_
        refine g_aload_n C rfl 0 rfl dX12_base_38 ?_
        have e54 : Tg h49 a0 = 12 := (fxT F53 e44)
        obtain ⟨v55, e56⟩ : ∃ z, Rv h49 a0 70 = z := ⟨_, rfl⟩
        have t57 := ok_R O52 e54 rE_12_70 e56
        have l58 := ok_L O52 e54 rE_12_70 e56
        refine gf_R C fk_LandSurveyModel_251 rfl e54 e56 dX12_base_39 ?_
        refine g_iload_n C rfl 1 rfl dX12_base_42 ?_
        obtain ⟨v59, e60⟩ : ∃ z, Iv h49 v55 a1.toNat = z := ⟨_, rfl⟩
        have f61 := ok_Ia O52 t57 ar_170101 rI_170101_0 e60
        refine g_zald C t57 rfl l58 (ix f17 (by decide) (by decide)) e60 dX12_base_43 ?_
        refine g_if_eq C (iw f61 (by decide) (by decide)) 60 (by decide) dX12_base_44 (fun q62 => ?_) (fun q63 => ?_)
        · have f64 : (0 : Int) ≤ v59 ∧ v59 ≤ (0 : Int) := ii f61 (r_eq (il 0) q62) (by decide) (by decide)
          refine g_iconst C dX12_base_60 ?_
          refine gp_I C fk_LandSurveyModel_1 pk_LandSurveyModel_0 rfl e54 (iw (il 1) (by decide) (by decide)) (nf_i _) dX12_base_61 (fun h66 hh65 => ?_)
          have O67 := O52.pI e54 hh65 rI_12_0 (iw (il 1) (by decide) (by decide)) nofun
          refine g_aload_n C rfl 0 rfl dX12_base_64 ?_
          have e68 : Tg h66 a0 = 12 := ((pIT hh65).trans e54)
          refine gf_I C fk_LandSurveyModel_1 rfl e68 (pI_e hh65) dX12_base_65 ?_
          refine g_if_le C (iw (il 1) (by decide) (by decide)) 75 (by decide) dX12_base_68 (fun q69 => ?_) (fun q70 => ?_)
          · exact (no_le (il 1) (il 0) q69 (by decide)).elim
          · refine g_iconst C dX12_base_71 ?_
            refine g_goto C 115 (by decide) dX12_base_72 ?_
            exact g_iret C hr rfl (iw (il 0) (by decide) (by decide)) ⟨O67, (((((((Fx.rf (wr := wr_k_X12_base)).pI ta0 hh1 rfl).call F10 rfl).call F23 rfl).call F37 rfl).call F53 rfl).pI e54 hh65 rfl), (iw (il 0) (by decide) (by decide))⟩ (by decide) (by decide) dX12_base_115
        · have f71 : (1 : Int) ≤ v59 ∧ v59 ≤ (1 : Int) := r_nl f61 q63
          refine g_aload_n C rfl 0 rfl dX12_base_47 ?_
          obtain ⟨v72, e73⟩ : ∃ z, Rv h49 a0 74 = z := ⟨_, rfl⟩
          have t74 := ok_R O52 e54 rE_12_74 e73
          have l75 := ok_L O52 e54 rE_12_74 e73
          refine gf_R C fk_LandSurveyModel_263 rfl e54 e73 dX12_base_48 ?_
          refine g_iload_n C rfl 1 rfl dX12_base_51 ?_
          obtain ⟨v76, e77⟩ : ∃ z, Iv h49 v72 a1.toNat = z := ⟨_, rfl⟩
          have f78 := ok_Ia O52 t74 ar_174101 rI_174101_0 e77
          refine g_zald C t74 rfl l75 (ix f17 (by decide) (by decide)) e77 dX12_base_52 ?_
          refine g_if_eq C (iw f78 (by decide) (by decide)) 60 (by decide) dX12_base_53 (fun q79 => ?_) (fun q80 => ?_)
          · have f81 : (0 : Int) ≤ v76 ∧ v76 ≤ (0 : Int) := ii f78 (r_eq (il 0) q79) (by decide) (by decide)
            refine g_iconst C dX12_base_60 ?_
            refine gp_I C fk_LandSurveyModel_1 pk_LandSurveyModel_0 rfl e54 (iw (il 1) (by decide) (by decide)) (nf_i _) dX12_base_61 (fun h83 hh82 => ?_)
            have O84 := O52.pI e54 hh82 rI_12_0 (iw (il 1) (by decide) (by decide)) nofun
            refine g_aload_n C rfl 0 rfl dX12_base_64 ?_
            have e85 : Tg h83 a0 = 12 := ((pIT hh82).trans e54)
            refine gf_I C fk_LandSurveyModel_1 rfl e85 (pI_e hh82) dX12_base_65 ?_
            refine g_if_le C (iw (il 1) (by decide) (by decide)) 75 (by decide) dX12_base_68 (fun q86 => ?_) (fun q87 => ?_)
            · exact (no_le (il 1) (il 0) q86 (by decide)).elim
            · refine g_iconst C dX12_base_71 ?_
              refine g_goto C 115 (by decide) dX12_base_72 ?_
              exact g_iret C hr rfl (iw (il 0) (by decide) (by decide)) ⟨O84, (((((((Fx.rf (wr := wr_k_X12_base)).pI ta0 hh1 rfl).call F10 rfl).call F23 rfl).call F37 rfl).call F53 rfl).pI e54 hh82 rfl), (iw (il 0) (by decide) (by decide))⟩ (by decide) (by decide) dX12_base_115
          · have f88 : (1 : Int) ≤ v76 ∧ v76 ≤ (1 : Int) := r_nl f78 q80
            refine g_iconst C dX12_base_56 ?_
            refine g_goto C 61 (by decide) dX12_base_57 ?_
            refine gp_I C fk_LandSurveyModel_1 pk_LandSurveyModel_0 rfl e54 (iw (il 0) (by decide) (by decide)) (nf_i _) dX12_base_61 (fun h90 hh89 => ?_)
            have O91 := O52.pI e54 hh89 rI_12_0 (iw (il 0) (by decide) (by decide)) nofun
            refine g_aload_n C rfl 0 rfl dX12_base_64 ?_
            have e92 : Tg h90 a0 = 12 := ((pIT hh89).trans e54)
            refine gf_I C fk_LandSurveyModel_1 rfl e92 (pI_e hh89) dX12_base_65 ?_
            refine g_if_le C (iw (il 0) (by decide) (by decide)) 75 (by decide) dX12_base_68 (fun q93 => ?_) (fun q94 => ?_)
            · refine g_iload C 4 rfl dX12_base_75 ?_
              refine g_if_ne C (iw f43 (by decide) (by decide)) 99 (by decide) dX12_base_77 (fun q95 => ?_) (fun q96 => ?_)
              · have f97 : (1 : Int) ≤ a4 ∧ a4 ≤ (1 : Int) := r_nl f43 q95
                refine g_aload_n C rfl 0 rfl dX12_base_99 ?_
                obtain ⟨v98, e99⟩ : ∃ z, Rv h90 a0 76 = z := ⟨_, rfl⟩
                have t100 := ok_R O91 e92 rE_12_76 e99
                have l101 := ok_L O91 e92 rE_12_76 e99
                refine gf_R C fk_LandSurveyModel_269 rfl e92 e99 dX12_base_100 ?_
                refine g_bipush C (by decide) dX12_base_103 ?_
                refine g_iload_n C rfl 1 rfl dX12_base_105 ?_
                have f102 : (0 : Int) ≤ (96 * a1) ∧ (96 * a1) ≤ (1440 : Int) := ia_mul (by decide) f17 (by decide) (by decide)
                refine g_imul C dX12_base_106 ?_
                refine g_bipush C (by decide) dX12_base_107 ?_
                refine g_iload_n C rfl 3 rfl dX12_base_109 ?_
                have f103 : (0 : Int) ≤ (12 * a3) ∧ (12 * a3) ≤ (84 : Int) := ia_mul (by decide) f31 (by decide) (by decide)
                refine g_imul C dX12_base_110 ?_
                have f104 : (0 : Int) ≤ ((96 * a1) + (12 * a3)) ∧ ((96 * a1) + (12 * a3)) ≤ (1524 : Int) := ia_add f102 f103 (by decide) (by decide)
                refine g_iadd C dX12_base_111 ?_
                refine g_iload_n C rfl 2 rfl dX12_base_112 ?_
                have f105 : (0 : Int) ≤ (((96 * a1) + (12 * a3)) + a2) ∧ (((96 * a1) + (12 * a3)) + a2) ≤ (1535 : Int) := ia_add f104 f30 (by decide) (by decide)
                refine g_iadd C dX12_base_113 ?_
                obtain ⟨v106, e107⟩ : ∃ z, Iv h90 v98 ((((96 * a1) + (12 * a3)) + a2).toNat) = z := ⟨_, rfl⟩
                have f108 := ok_Ia O91 t100 ar_176100 rI_176100_0 e107
                refine g_iald C t100 rfl l101 (ix f105 (by decide) (by decide)) e107 dX12_base_114 ?_
                exact g_iret C hr rfl f108 ⟨O91, (((((((Fx.rf (wr := wr_k_X12_base)).pI ta0 hh1 rfl).call F10 rfl).call F23 rfl).call F37 rfl).call F53 rfl).pI e54 hh89 rfl), f108⟩ (by decide) (by decide) dX12_base_115
              · have f109 : (0 : Int) ≤ a4 ∧ a4 ≤ (0 : Int) := ii f43 (r_eq (il 0) q96) (by decide) (by decide)
                refine g_aload_n C rfl 0 rfl dX12_base_80 ?_
                obtain ⟨v110, e111⟩ : ∃ z, Rv h90 a0 75 = z := ⟨_, rfl⟩
                have t112 := ok_R O91 e92 rE_12_75 e111
                have l113 := ok_L O91 e92 rE_12_75 e111
                refine gf_R C fk_LandSurveyModel_266 rfl e92 e111 dX12_base_81 ?_
                refine g_bipush C (by decide) dX12_base_84 ?_
                refine g_iload_n C rfl 1 rfl dX12_base_86 ?_
                have f114 : (0 : Int) ≤ (96 * a1) ∧ (96 * a1) ≤ (1440 : Int) := ia_mul (by decide) f17 (by decide) (by decide)
                refine g_imul C dX12_base_87 ?_
                refine g_bipush C (by decide) dX12_base_88 ?_
                refine g_iload_n C rfl 3 rfl dX12_base_90 ?_
                have f115 : (0 : Int) ≤ (12 * a3) ∧ (12 * a3) ≤ (84 : Int) := ia_mul (by decide) f31 (by decide) (by decide)
                refine g_imul C dX12_base_91 ?_
                have f116 : (0 : Int) ≤ ((96 * a1) + (12 * a3)) ∧ ((96 * a1) + (12 * a3)) ≤ (1524 : Int) := ia_add f114 f115 (by decide) (by decide)
                refine g_iadd C dX12_base_92 ?_
                refine g_iload_n C rfl 2 rfl dX12_base_93 ?_
                have f117 : (0 : Int) ≤ (((96 * a1) + (12 * a3)) + a2) ∧ (((96 * a1) + (12 * a3)) + a2) ≤ (1535 : Int) := ia_add f116 f30 (by decide) (by decide)
                refine g_iadd C dX12_base_94 ?_
                obtain ⟨v118, e119⟩ : ∃ z, Iv h90 v110 ((((96 * a1) + (12 * a3)) + a2).toNat) = z := ⟨_, rfl⟩
                have f120 := ok_Ia O91 t112 ar_175100 rI_175100_0 e119
                refine g_iald C t112 rfl l113 (ix f117 (by decide) (by decide)) e119 dX12_base_95 ?_
                refine g_goto C 115 (by decide) dX12_base_96 ?_
                exact g_iret C hr rfl f120 ⟨O91, (((((((Fx.rf (wr := wr_k_X12_base)).pI ta0 hh1 rfl).call F10 rfl).call F23 rfl).call F37 rfl).call F53 rfl).pI e54 hh89 rfl), f120⟩ (by decide) (by decide) dX12_base_115
            · exact (no_lt (il 0) (il 0) q94 (by decide)).elim
      · have f121 : (0 : Int) ≤ r32 ∧ r32 ≤ (0 : Int) := ii f38 (r_eq (il 0) q41) (by decide) (by decide)
        refine g_iconst C dX12_base_31 ?_
        exact g_iret C hr rfl (iw (il 0) (by decide) (by decide)) ⟨O36, (((((Fx.rf (wr := wr_k_X12_base)).pI ta0 hh1 rfl).call F10 rfl).call F23 rfl).call F37 rfl), (iw (il 0) (by decide) (by decide))⟩ (by decide) (by decide) dX12_base_32
def wr_k_X12_lies : List Nat := [2400, 2435, 2462, 2469, 2477, 2478, 26220000, 26420000, 30620200, 30820000, 31020000, 31220000, 32620000, 32820000, 33020000, 33220000, 33420000, 33620000, 34020200, 34220000, 34420400, 34620200, 34820200, 35020000, 35220000]
set_option maxRecDepth 100000 in
set_option maxHeartbeats 4000000 in
theorem k_X12_lies (l : Launch) (D : va_G) (cy : Nat → ClassId) (w : Nat → Nat) (z0 : Nat)  {h : Hp} {a0 : Nat} {a1 : Int} {a2 : Int} {a3 : Int}  (O : Okh h) (ta0 : Tg h a0 = 12) (fa1 : (-2147483648) ≤ a1 ∧ a1 ≤ 2147483647) (fa2 : (-2147483648) ≤ a2 ∧ a2 ≤ 2147483647) (fa3 : (-2147483648) ≤ a3 ∧ a3 ≤ 2147483647) (P_MInv : MInv h a0) : MI l D cy w z0 yX12_lies cX12_lies 4 (some .int) 11 278 0 0 [.inr (.inr a0), .inl a1, .inl a2, .inl a3] h (fun v h1 => Okh h1 ∧ Fx wr_k_X12_lies h h1 ∧ ((-2147483648) ≤ v ∧ v ≤ 2147483647)) := by
  refine hm_go (by decide +kernel) (Nat.le_of_ble_eq_true rfl) (fun p e s m below meth c C hr hn => ?_)
  refine g_aload_n C rfl 0 rfl dX12_lies_0 ?_
  refine g_iconst C dX12_lies_1 ?_
  refine gp_I C fk_LandSurveyModel_1 pk_LandSurveyModel_0 rfl ta0 (iw (il 0) (by decide) (by decide)) (nf_i _) dX12_lies_2 (fun h2 hh1 => ?_)
  have O3 := O.pI ta0 hh1 rI_12_0 (iw (il 0) (by decide) (by decide)) nofun
  refine g_iload_n C rfl 1 rfl dX12_lies_5 ?_
  refine g_iload_n C rfl 2 rfl dX12_lies_6 ?_
  refine g_callI (st := []) (gc_S C lk_LandSurveyModel_419 (k_X12_isCell l D cy w z0 O3 fa1 fa2) rfl ⟨by decide, by decide⟩ (Nat.le_of_ble_eq_true rfl) dX12_lies_7 ⟨(by decide), (by decide)⟩) (fun r4 h5 f7 K6 => ?_)
  obtain ⟨O8, F9, f10, p11⟩ := K6
  refine g_if_eq C (iw f10 (by decide) (by decide)) 24 (by decide) dX12_lies_10 (fun q12 => ?_) (fun q13 => ?_)
  · have f14 : (0 : Int) ≤ r4 ∧ r4 ≤ (0 : Int) := ii f10 (r_eq (il 0) q12) (by decide) (by decide)
    refine g_iconst C dX12_lies_24 ?_
    exact g_iret C hr rfl (iw (il (-1)) (by decide) (by decide)) ⟨O8, (((Fx.rf (wr := wr_k_X12_lies)).pI ta0 hh1 rfl).call F9 rfl), (iw (il (-1)) (by decide) (by decide))⟩ (by decide) (by decide) dX12_lies_25
  · have f15 : (1 : Int) ≤ r4 ∧ r4 ≤ (1 : Int) := r_nl f10 q13
    have f16 : (0 : Int) ≤ a1 ∧ a1 ≤ (11 : Int) := by omega
    have f17 : (0 : Int) ≤ a2 ∧ a2 ≤ (7 : Int) := by omega
    refine g_iload_n C rfl 3 rfl dX12_lies_13 ?_
    refine g_iconst C dX12_lies_14 ?_
    refine g_sipush C (by decide) dX12_lies_15 ?_
    refine g_callI (st := []) (gc_S C lk_LandSurveyModel_415 (k_X12_within l D cy w z0 O8 fa3 (iw (il 0) (by decide) (by decide)) (iw (il 2000) (by decide) (by decide))) rfl ⟨by decide, by decide⟩ (Nat.le_of_ble_eq_true rfl) dX12_lies_18 ⟨(by decide), (by decide)⟩) (fun r18 h19 f21 K20 => ?_)
    obtain ⟨O22, F23, f24, p25⟩ := K20
    refine g_if_ne C (iw f24 (by decide) (by decide)) 26 (by decide) dX12_lies_21 (fun q26 => ?_) (fun q27 => ?_)
    · have f28 : (1 : Int) ≤ r18 ∧ r18 ≤ (1 : Int) := r_nl f24 q26
      have f29 : (0 : Int) ≤ a3 ∧ a3 ≤ (2000 : Int) := by omega
      refine g_aload_n C rfl 0 rfl dX12_lies_26 ?_
      have e30 : Tg h19 a0 = 12 := (fxT F23 (fxT F9 ((pIT hh1).trans ta0)))
      have e31 : Tg h2 a0 = 12 := ((pIT hh1).trans ta0)
      have e32 : Tg h5 a0 = 12 := (fxT F9 e31)
      have p33 := (MInv_fx O8 F23 e32 rfl (MInv_fx O3 F9 e31 rfl (MInv_fx O ((Fx.rf (wr := [2400]) (h := h)).pI ta0 hh1 rfl) ta0 rfl P_MInv)))
      refine g_callV (st := []) (gc_V C lk_LandSurveyModel_557 (k_X12_findGrounds l D cy w z0 O22 e30 p33) e30 rfl rfl rfl ⟨by decide, by decide⟩ (Nat.le_of_ble_eq_true rfl) dX12_lies_27 ⟨(by decide), (by decide)⟩) (fun h35 K36 => ?_)
      obtain ⟨O38, F39⟩ := K36
      refine g_aload_n C rfl 0 rfl dX12_lies_30 ?_
      have e40 : Tg h35 a0 = 12 := (fxT F39 e30)
      obtain ⟨v41, e42⟩ : ∃ z, Iv h35 a0 78 = z := ⟨_, rfl⟩
      have f43 := ok_I O38 e40 rI_12_78 e42
      refine gf_I C fk_LandSurveyModel_546 rfl e40 e42 dX12_lies_31 ?_
      refine g_if_ne C (iw f43 (by decide) (by decide)) 41 (by decide) dX12_lies_34 (fun q44 => ?_) (fun q45 => ?_)
      · have f46 : (1 : Int) ≤ v41 ∧ v41 ≤ (16 : Int) := r_nl f43 q44
        refine g_aload_n C rfl 0 rfl dX12_lies_41 ?_
        refine g_bipush C (by decide) dX12_lies_42 ?_
        refine g_iload_n C rfl 2 rfl dX12_lies_44 ?_
        have f47 : (0 : Int) ≤ (12 * a2) ∧ (12 * a2) ≤ (84 : Int) := ia_mul (by decide) f17 (by decide) (by decide)
        refine g_imul C dX12_lies_45 ?_
        refine g_iload_n C rfl 1 rfl dX12_lies_46 ?_
        have f48 : (0 : Int) ≤ ((12 * a2) + a1) ∧ ((12 * a2) + a1) ≤ (95 : Int) := ia_add f47 f16 (by decide) (by decide)
        refine g_iadd C dX12_lies_47 ?_
        refine g_iload_n C rfl 3 rfl dX12_lies_48 ?_
        refine g_callI (st := []) (gc_V C lk_LandSurveyModel_575 (k_X12_mayLieAll l D cy w z0 O38 e40 f48 (iw f29 (by decide) (by decide))) e40 rfl rfl rfl ⟨by decide, by decide⟩ (Nat.le_of_ble_eq_true rfl) dX12_lies_49 ⟨(by decide), (by decide)⟩) (fun r49 h50 f52 K51 => ?_)
        obtain ⟨O53, F54, f55⟩ := K51
        exact g_iret C hr rfl f55 ⟨O53, ((((((Fx.rf (wr := wr_k_X12_lies)).pI ta0 hh1 rfl).call F9 rfl).call F23 rfl).call F39 rfl).call F54 rfl), f55⟩ (by decide) (by decide) dX12_lies_52
      · have f56 : (0 : Int) ≤ v41 ∧ v41 ≤ (0 : Int) := ii f43 (r_eq (il 0) q45) (by decide) (by decide)
        refine g_iconst C dX12_lies_37 ?_
        refine g_goto C 52 (by decide) dX12_lies_38 ?_
        exact g_iret C hr rfl (iw (il (-1)) (by decide) (by decide)) ⟨O38, (((((Fx.rf (wr := wr_k_X12_lies)).pI ta0 hh1 rfl).call F9 rfl).call F23 rfl).call F39 rfl), (iw (il (-1)) (by decide) (by decide))⟩ (by decide) (by decide) dX12_lies_52
    · have f57 : (0 : Int) ≤ r18 ∧ r18 ≤ (0 : Int) := ii f24 (r_eq (il 0) q27) (by decide) (by decide)
      refine g_iconst C dX12_lies_24 ?_
      exact g_iret C hr rfl (iw (il (-1)) (by decide) (by decide)) ⟨O22, ((((Fx.rf (wr := wr_k_X12_lies)).pI ta0 hh1 rfl).call F9 rfl).call F23 rfl), (iw (il (-1)) (by decide) (by decide))⟩ (by decide) (by decide) dX12_lies_25
def wr_k_X12_line : List Nat := [2400, 2435, 2462, 2469, 2477, 2478, 26220000, 26420000, 30620200, 30820000, 31020000, 31220000, 32620000, 32820000, 33020000, 33220000, 33420000, 33620000, 34020200, 34220000, 34420400, 34620200, 34820200, 35020000, 35220000]
set_option maxRecDepth 100000 in
set_option maxHeartbeats 4000000 in
theorem k_X12_line (l : Launch) (D : va_G) (cy : Nat → ClassId) (w : Nat → Nat) (z0 : Nat)  {h : Hp} {a0 : Nat} {a1 : Int} {a2 : Int} {a3 : Int}  (O : Okh h) (ta0 : Tg h a0 = 12) (fa1 : (-2147483648) ≤ a1 ∧ a1 ≤ 2147483647) (fa2 : (-2147483648) ≤ a2 ∧ a2 ≤ 2147483647) (fa3 : (-2147483648) ≤ a3 ∧ a3 ≤ 2147483647) (P_MInv : MInv h a0) : MI l D cy w z0 yX12_line cX12_line 10 (some .int) 11 278 0 0 [.inr (.inr a0), .inl a1, .inl a2, .inl a3] h (fun v h1 => Okh h1 ∧ Fx wr_k_X12_line h h1 ∧ ((-2147483648) ≤ v ∧ v ≤ 2147483647)) := by
  refine hm_go (by decide +kernel) (Nat.le_of_ble_eq_true rfl) (fun p e s m below meth c C hr hn => ?_)
  refine g_aload_n C rfl 0 rfl dX12_line_0 ?_
  refine g_iconst C dX12_line_1 ?_
  refine gp_I C fk_LandSurveyModel_1 pk_LandSurveyModel_0 rfl ta0 (iw (il 0) (by decide) (by decide)) (nf_i _) dX12_line_2 (fun h2 hh1 => ?_)
  have O3 := O.pI ta0 hh1 rI_12_0 (iw (il 0) (by decide) (by decide)) nofun
  refine g_iload_n C rfl 1 rfl dX12_line_5 ?_
  refine g_iload_n C rfl 2 rfl dX12_line_6 ?_
  refine g_callI (st := []) (gc_S C lk_LandSurveyModel_419 (k_X12_isCell l D cy w z0 O3 fa1 fa2) rfl ⟨by decide, by decide⟩ (Nat.le_of_ble_eq_true rfl) dX12_line_7 ⟨(by decide), (by decide)⟩) (fun r4 h5 f7 K6 => ?_)
  obtain ⟨O8, F9, f10, p11⟩ := K6
  refine g_if_eq C (iw f10 (by decide) (by decide)) 35 (by decide) dX12_line_10 (fun q12 => ?_) (fun q13 => ?_)
  · have f14 : (0 : Int) ≤ r4 ∧ r4 ≤ (0 : Int) := ii f10 (r_eq (il 0) q12) (by decide) (by decide)
    refine g_iconst C dX12_line_35 ?_
    exact g_iret C hr rfl (iw (il (-1)) (by decide) (by decide)) ⟨O8, (((Fx.rf (wr := wr_k_X12_line)).pI ta0 hh1 rfl).call F9 rfl), (iw (il (-1)) (by decide) (by decide))⟩ (by decide) (by decide) dX12_line_36
  · have f15 : (1 : Int) ≤ r4 ∧ r4 ≤ (1 : Int) := r_nl f10 q13
    have f16 : (0 : Int) ≤ a1 ∧ a1 ≤ (11 : Int) := by omega
    have f17 : (0 : Int) ≤ a2 ∧ a2 ≤ (7 : Int) := by omega
    refine g_iload_n C rfl 3 rfl dX12_line_13 ?_
    refine g_iconst C dX12_line_14 ?_
    refine g_iconst C dX12_line_15 ?_
    refine g_callI (st := []) (gc_S C lk_LandSurveyModel_415 (k_X12_within l D cy w z0 O8 fa3 (iw (il 0) (by decide) (by decide)) (iw (il 3) (by decide) (by decide))) rfl ⟨by decide, by decide⟩ (Nat.le_of_ble_eq_true rfl) dX12_line_16 ⟨(by decide), (by decide)⟩) (fun r18 h19 f21 K20 => ?_)
    obtain ⟨O22, F23, f24, p25⟩ := K20
    refine g_if_eq C (iw f24 (by decide) (by decide)) 35 (by decide) dX12_line_19 (fun q26 => ?_) (fun q27 => ?_)
    · have f28 : (0 : Int) ≤ r18 ∧ r18 ≤ (0 : Int) := ii f24 (r_eq (il 0) q26) (by decide) (by decide)
      refine g_iconst C dX12_line_35 ?_
      exact g_iret C hr rfl (iw (il (-1)) (by decide) (by decide)) ⟨O22, ((((Fx.rf (wr := wr_k_X12_line)).pI ta0 hh1 rfl).call F9 rfl).call F23 rfl), (iw (il (-1)) (by decide) (by decide))⟩ (by decide) (by decide) dX12_line_36
    · have f29 : (1 : Int) ≤ r18 ∧ r18 ≤ (1 : Int) := r_nl f24 q27
      have f30 : (0 : Int) ≤ a3 ∧ a3 ≤ (3 : Int) := by omega
      refine g_bipush C (by decide) dX12_line_22 ?_
      refine g_iload_n C rfl 2 rfl dX12_line_24 ?_
      have f31 : (0 : Int) ≤ (12 * a2) ∧ (12 * a2) ≤ (84 : Int) := ia_mul (by decide) f17 (by decide) (by decide)
      refine g_imul C dX12_line_25 ?_
      refine g_iload_n C rfl 1 rfl dX12_line_26 ?_
      have f32 : (0 : Int) ≤ ((12 * a2) + a1) ∧ ((12 * a2) + a1) ≤ (95 : Int) := ia_add f31 f16 (by decide) (by decide)
      refine g_iadd C dX12_line_27 ?_
      refine g_iload_n C rfl 3 rfl dX12_line_28 ?_
      refine g_callI (st := []) (gc_S C lk_LandSurveyModel_491 (k_X12_neighbour l D cy w z0 O22 f32 f30) rfl ⟨by decide, by decide⟩ (Nat.le_of_ble_eq_true rfl) dX12_line_29 ⟨(by decide), (by decide)⟩) (fun r33 h34 f36 K35 => ?_)
      obtain ⟨O37, F38, f39, p40⟩ := K35
      refine g_if_ge C (iw f39 (by decide) (by decide)) 37 (by decide) dX12_line_32 (fun q41 => ?_) (fun q42 => ?_)
      · have f43 : (0 : Int) ≤ r33 ∧ r33 ≤ (95 : Int) := r_ge f39 (il 0) q41 (by decide) (by decide)
        refine g_aload_n C rfl 0 rfl dX12_line_37 ?_
        have e44 : Tg h34 a0 = 12 := (fxT F38 (fxT F23 (fxT F9 ((pIT hh1).trans ta0))))
        have e45 : Tg h2 a0 = 12 := ((pIT hh1).trans ta0)
        have e46 : Tg h5 a0 = 12 := (fxT F9 e45)
        have e47 : Tg h19 a0 = 12 := (fxT F23 e46)
        have p48 := (MInv_fx O22 F38 e47 rfl (MInv_fx O8 F23 e46 rfl (MInv_fx O3 F9 e45 rfl (MInv_fx O ((Fx.rf (wr := [2400]) (h := h)).pI ta0 hh1 rfl) ta0 rfl P_MInv))))
        refine g_callV (st := []) (gc_V C lk_LandSurveyModel_557 (k_X12_findGrounds l D cy w z0 O37 e44 p48) e44 rfl rfl rfl ⟨by decide, by decide⟩ (Nat.le_of_ble_eq_true rfl) dX12_line_38 ⟨(by decide), (by decide)⟩) (fun h50 K51 => ?_)
        obtain ⟨O53, F54⟩ := K51
        refine g_aload_n C rfl 0 rfl dX12_line_41 ?_
        have e55 : Tg h50 a0 = 12 := (fxT F54 e44)
        obtain ⟨v56, e57⟩ : ∃ z, Iv h50 a0 78 = z := ⟨_, rfl⟩
        have f58 := ok_I O53 e55 rI_12_78 e57
        refine gf_I C fk_LandSurveyModel_546 rfl e55 e57 dX12_line_42 ?_
        refine g_if_ne C (iw f58 (by decide) (by decide)) 50 (by decide) dX12_line_45 (fun q59 => ?_) (fun q60 => ?_)
        · have f61 : (1 : Int) ≤ v56 ∧ v56 ≤ (16 : Int) := r_nl f58 q59
          refine g_iconst C dX12_line_50 ?_
          refine g_istore C [(4, .inl 0), (0, .inr (.inr a0)), (1, .inl a1), (2, .inl a2), (3, .inl a3)] (by decide) rfl dX12_line_51 ?_
          refine g_iconst C dX12_line_53 ?_
          refine g_istore C [(5, .inl 0), (4, .inl 0), (0, .inr (.inr a0)), (1, .inl a1), (2, .inl a2), (3, .inl a3)] (by decide) rfl dX12_line_54 ?_
          refine g_iconst C dX12_line_56 ?_
          refine g_istore C [(6, .inl 0), (5, .inl 0), (4, .inl 0), (0, .inr (.inr a0)), (1, .inl a1), (2, .inl a2), (3, .inl a3)] (by decide) rfl dX12_line_57 ?_
          refine g_iconst C dX12_line_59 ?_
          refine g_istore C [(7, .inl 0), (6, .inl 0), (5, .inl 0), (4, .inl 0), (0, .inr (.inr a0)), (1, .inl a1), (2, .inl a2), (3, .inl a3)] (by decide) rfl dX12_line_60 ?_
          refine GW.sub [4, 5, 6, 7, 3, 2, 1, 0] rfl ?_
          -- loop at 62
          have L67 : ∀ (μ : Nat) (x62 : Int) (x63 : Int) (x64 : Int) (x65 : Int) (h66 : Hp), (16 - x65).toNat = μ → Okh h66 → Fx [] h50 h66 → ((-2147483648 : Int) ≤ x62 ∧ x62 ≤ (2147483647 : Int)) → ((-2147483648 : Int) ≤ x63 ∧ x63 ≤ (2147483647 : Int)) → ((-2147483648 : Int) ≤ x64 ∧ x64 ≤ (2147483647 : Int)) → ((0 : Int) ≤ x65 ∧ x65 ≤ (16 : Int)) → GW p l e (rmm 11 278 0 0) s m (List.map toV [.inr (.inr a0), .inl a1, .inl a2, .inl a3]).toArray below meth c D cy z0 10 (MQ below (QI D cy z0 (fun v h1 => Okh h1 ∧ Fx wr_k_X12_line h h1 ∧ ((-2147483648) ≤ v ∧ v ≤ 2147483647))) (List.map toV [.inr (.inr a0), .inl a1, .inl a2, .inl a3]).toArray s 0 0 (Aof z0)) 62 [(0, .inr (.inr a0)), (1, .inl a1), (2, .inl a2), (3, .inl a3), (4, .inl x62), (5, .inl x63), (6, .inl x64), (7, .inl x65)] [] h66 0 0 := by
            intro μ
            induction μ using Nat.strongRecOn with
            | ind μ ih68 =>
              intro x62 x63 x64 x65 h66 hm69 O70 F71 f72 f73 f74 f75
              refine g_iload C 7 rfl dX12_line_62 ?_
              refine g_iconst C dX12_line_64 ?_
              refine g_aload_n C rfl 0 rfl dX12_line_65 ?_
              have e76 : Tg h66 a0 = 12 := (fxT F71 e55)
              obtain ⟨v77, e78⟩ : ∃ z, Iv h66 a0 57 = z := ⟨_, rfl⟩
              have f79 := ok_I O70 e76 rI_12_57 e78
              refine gf_I C fk_LandSurveyModel_477 rfl e76 e78 dX12_line_66 ?_
              refine g_ishl C dX12_line_69 ?_
              have f80 : (1 : Int) ≤ (bShl 1 v77) ∧ (bShl 1 v77) ≤ (16 : Int) := bShl_4 f79
              refine g_icmp_ge C (iw f75 (by decide) (by decide)) (iw f80 (by decide) (by decide)) 199 (by decide) dX12_line_70 (fun q81 => ?_) (fun q82 => ?_)
              · have f83 : (1 : Int) ≤ x65 ∧ x65 ≤ (16 : Int) := r_ge f75 f80 q81 (by decide) (by decide)
                refine g_iconst C dX12_line_199 ?_
                refine g_istore C [(7, .inl 0), (0, .inr (.inr a0)), (1, .inl a1), (2, .inl a2), (3, .inl a3), (4, .inl x62), (5, .inl x63), (6, .inl x64)] (by decide) rfl dX12_line_200 ?_
                refine GW.sub [1, 2, 3, 4, 5, 6, 7, 0] rfl ?_
                -- loop at 202
                have L86 : ∀ (μ : Nat) (x84 : Int) (h85 : Hp), (12 - x84).toNat = μ → Okh h85 → Fx [26220000] h66 h85 → ((0 : Int) ≤ x84 ∧ x84 ≤ (12 : Int)) → GW p l e (rmm 11 278 0 0) s m (List.map toV [.inr (.inr a0), .inl a1, .inl a2, .inl a3]).toArray below meth c D cy z0 10 (MQ below (QI D cy z0 (fun v h1 => Okh h1 ∧ Fx wr_k_X12_line h h1 ∧ ((-2147483648) ≤ v ∧ v ≤ 2147483647))) (List.map toV [.inr (.inr a0), .inl a1, .inl a2, .inl a3]).toArray s 0 0 (Aof z0)) 202 [(0, .inr (.inr a0)), (1, .inl a1), (2, .inl a2), (3, .inl a3), (4, .inl x62), (5, .inl x63), (6, .inl x64), (7, .inl x84)] [] h85 0 0 := by
                  intro μ
                  induction μ using Nat.strongRecOn with
                  | ind μ ih87 =>
                    intro x84 h85 hm88 O89 F90 f91
                    refine g_iload C 7 rfl dX12_line_202 ?_
                    refine g_bipush C (by decide) dX12_line_204 ?_
                    refine g_icmp_ge C (iw f91 (by decide) (by decide)) (iw (il 12) (by decide) (by decide)) 223 (by decide) dX12_line_206 (fun q92 => ?_) (fun q93 => ?_)
                    · have f94 : (12 : Int) ≤ x84 ∧ x84 ≤ (12 : Int) := r_ge f91 (il 12) q92 (by decide) (by decide)
                      refine g_aload_n C rfl 0 rfl dX12_line_223 ?_
                      have e95 : Tg h85 a0 = 12 := (fxT F90 e76)
                      obtain ⟨v96, e97⟩ : ∃ z, Rv h85 a0 31 = z := ⟨_, rfl⟩
                      have t98 := ok_R O89 e95 rE_12_31 e97
                      have l99 := ok_L O89 e95 rE_12_31 e97
                      refine gf_R C fk_LandSurveyModel_155 rfl e95 e97 dX12_line_224 ?_
                      refine g_bipush C (by decide) dX12_line_227 ?_
                      refine g_sipush C (by decide) dX12_line_229 ?_
                      refine g_iload C 4 rfl dX12_line_232 ?_
                      have f100 : (-2147483648 : Int) ≤ (w32 (1000 * x62)) ∧ (w32 (1000 * x62)) ≤ (2147483647 : Int) := w32_inR _
                      refine g_imulW C dX12_line_234 ?_
                      refine g_aload_n C rfl 0 rfl dX12_line_235 ?_
                      have e101 : Iv h85 a0 78 = v56 := ((fxI F90 e76 rfl).trans ((fxI F71 e55 rfl).trans e57))
                      refine gf_I C fk_LandSurveyModel_546 rfl e95 e101 dX12_line_236 ?_
                      refine g_idiv C (iw f61 (by decide) (by decide)) (iv_pos f61 (by decide)) dX12_line_239 ?_
                      have f102 : (-2147483648 : Int) ≤ (iD (w32 (1000 * x62)) v56) ∧ (iD (w32 (1000 * x62)) v56) ≤ (2147483647 : Int) := inR_of _
                      refine g_iast C t98 rfl l99 (ix (il 8) (by decide) (by decide)) f102 dX12_line_240 (fun h104 hh103 => ?_)
                      have O105 := O89.pIa t98 ar_131100 hh103 rI_131100_0 f102 nofun
                      refine g_aload_n C rfl 0 rfl dX12_line_241 ?_
                      have e106 : Tg h104 a0 = 12 := ((pIT hh103).trans e95)
                      have e107 : Rv h104 a0 31 = v96 := ((pIR hh103).trans e97)
                      refine gf_R C fk_LandSurveyModel_155 rfl e106 e107 dX12_line_242 ?_
                      refine g_bipush C (by decide) dX12_line_245 ?_
                      refine g_sipush C (by decide) dX12_line_247 ?_
                      refine g_iload C 5 rfl dX12_line_250 ?_
                      have f108 : (-2147483648 : Int) ≤ (w32 (1000 * x63)) ∧ (w32 (1000 * x63)) ≤ (2147483647 : Int) := w32_inR _
                      refine g_imulW C dX12_line_252 ?_
                      refine g_aload_n C rfl 0 rfl dX12_line_253 ?_
                      have e109 : Iv h104 a0 78 = v56 := ((pI_n hh103 (ne_tag e95 t98 (by decide))).trans e101)
                      refine gf_I C fk_LandSurveyModel_546 rfl e106 e109 dX12_line_254 ?_
                      refine g_idiv C (iw f61 (by decide) (by decide)) (iv_pos f61 (by decide)) dX12_line_257 ?_
                      have f110 : (-2147483648 : Int) ≤ (iD (w32 (1000 * x63)) v56) ∧ (iD (w32 (1000 * x63)) v56) ≤ (2147483647 : Int) := inR_of _
                      have e111 : Tg h104 v96 = 131100 := ((pIT hh103).trans t98)
                      have e112 : Ln h104 v96 = 12 := ((pIL hh103).trans l99)
                      refine g_iast C e111 rfl e112 (ix (il 9) (by decide) (by decide)) f110 dX12_line_258 (fun h114 hh113 => ?_)
                      have O115 := O105.pIa e111 ar_131100 hh113 rI_131100_0 f110 nofun
                      refine g_aload_n C rfl 0 rfl dX12_line_259 ?_
                      have e116 : Tg h114 a0 = 12 := ((pIT hh113).trans e106)
                      have e117 : Rv h114 a0 31 = v96 := ((pIR hh113).trans e107)
                      refine gf_R C fk_LandSurveyModel_155 rfl e116 e117 dX12_line_260 ?_
                      refine g_bipush C (by decide) dX12_line_263 ?_
                      refine g_sipush C (by decide) dX12_line_265 ?_
                      refine g_iload C 6 rfl dX12_line_268 ?_
                      have f118 : (-2147483648 : Int) ≤ (w32 (1000 * x64)) ∧ (w32 (1000 * x64)) ≤ (2147483647 : Int) := w32_inR _
                      refine g_imulW C dX12_line_270 ?_
                      refine g_aload_n C rfl 0 rfl dX12_line_271 ?_
                      have e119 : Iv h114 a0 78 = v56 := ((pI_n hh113 (ne_tag e106 e111 (by decide))).trans e109)
                      refine gf_I C fk_LandSurveyModel_546 rfl e116 e119 dX12_line_272 ?_
                      refine g_idiv C (iw f61 (by decide) (by decide)) (iv_pos f61 (by decide)) dX12_line_275 ?_
                      have f120 : (-2147483648 : Int) ≤ (iD (w32 (1000 * x64)) v56) ∧ (iD (w32 (1000 * x64)) v56) ≤ (2147483647 : Int) := inR_of _
                      have e121 : Tg h114 v96 = 131100 := ((pIT hh113).trans e111)
                      have e122 : Ln h114 v96 = 12 := ((pIL hh113).trans e112)
                      refine g_iast C e121 rfl e122 (ix (il 10) (by decide) (by decide)) f120 dX12_line_276 (fun h124 hh123 => ?_)
                      have O125 := O115.pIa e121 ar_131100 hh123 rI_131100_0 f120 nofun
                      refine g_aload_n C rfl 0 rfl dX12_line_277 ?_
                      have e126 : Tg h124 a0 = 12 := ((pIT hh123).trans e116)
                      have e127 : Rv h124 a0 31 = v96 := ((pIR hh123).trans e117)
                      refine gf_R C fk_LandSurveyModel_155 rfl e126 e127 dX12_line_278 ?_
                      refine g_bipush C (by decide) dX12_line_281 ?_
                      refine g_aload_n C rfl 0 rfl dX12_line_283 ?_
                      have e128 : Iv h124 a0 78 = v56 := ((pI_n hh123 (ne_tag e116 e121 (by decide))).trans e119)
                      refine gf_I C fk_LandSurveyModel_546 rfl e126 e128 dX12_line_284 ?_
                      have e129 : Tg h124 v96 = 131100 := ((pIT hh123).trans e121)
                      have e130 : Ln h124 v96 = 12 := ((pIL hh123).trans e122)
                      refine g_iast C e129 rfl e130 (ix (il 11) (by decide) (by decide)) (iw f61 (by decide) (by decide)) dX12_line_287 (fun h132 hh131 => ?_)
                      have O133 := O125.pIa e129 ar_131100 hh131 rI_131100_0 (iw f61 (by decide) (by decide)) nofun
                      refine g_aload_n C rfl 0 rfl dX12_line_288 ?_
                      refine g_iconst C dX12_line_289 ?_
                      have e134 : Tg h132 a0 = 12 := ((pIT hh131).trans e126)
                      have p135 := (MInv_fx O125 ((Fx.rf (wr := [26220000]) (h := h124)).pIa e129 ar_131100 hh131 rfl) e126 rfl (MInv_fx O115 ((Fx.rf (wr := [26220000]) (h := h114)).pIa e121 ar_131100 hh123 rfl) e116 rfl (MInv_fx O105 ((Fx.rf (wr := [26220000]) (h := h104)).pIa e111 ar_131100 hh113 rfl) e106 rfl (MInv_fx O89 ((Fx.rf (wr := [26220000]) (h := h85)).pIa t98 ar_131100 hh103 rfl) e95 rfl (MInv_fx O70 F90 e76 rfl (MInv_fx O53 F71 e55 rfl (MInv_fx O37 F54 e44 rfl p48)))))))
                      refine g_callI (st := []) (gc_V C lk_LandSurveyModel_441 (k_X12_lineOf l D cy w z0 O133 e134 (iw (il 3) (by decide) (by decide)) p135) e134 rfl rfl rfl ⟨by decide, by decide⟩ (Nat.le_of_ble_eq_true rfl) dX12_line_290 ⟨(by decide), (by decide)⟩) (fun r136 h137 f139 K138 => ?_)
                      obtain ⟨O140, F141, f142, p143⟩ := K138
                      obtain ⟨v144, e145⟩ : ∃ z, BNow h132 a0 = z := ⟨_, rfl⟩
                      have f146 : (-1 : Int) ≤ v144 ∧ v144 ≤ (7 : Int) := BNow_rng O133 e134 e145
                      have z147 := LO_spec O133 e134 (Eq.symm p143)
                      rw [e145] at z147
                      refine g_istore C [(7, .inl r136), (0, .inr (.inr a0)), (1, .inl a1), (2, .inl a2), (3, .inl a3), (4, .inl x62), (5, .inl x63), (6, .inl x64)] (by decide) rfl dX12_line_293 ?_
                      refine g_iload C 0 rfl dX12_line_295 ?_
                      refine g_if_lt C (iw f142 (by decide) (by decide)) 318 (by decide) dX12_line_297 (fun q148 => ?_) (fun q149 => ?_)
                      · have f150 : (-1 : Int) ≤ r136 ∧ r136 ≤ (-1 : Int) := r_lt f142 (il 0) q148 (by decide) (by decide)
                        refine g_aload_n C rfl 1 rfl dX12_line_318 ?_
                        have e151 : Tg h137 a0 = 12 := (fxT F141 e134)
                        have e152 : Rv h137 a0 31 = v96 := ((fxR F141 e134 rfl).trans ((pIR hh131).trans e127))
                        refine gf_R C fk_LandSurveyModel_155 rfl e151 e152 dX12_line_319 ?_
                        refine g_bipush C (by decide) dX12_line_322 ?_
                        have e153 : Tg h137 v96 = 131100 := (fxT F141 ((pIT hh131).trans e129))
                        have e154 : Tg h132 v96 = 131100 := ((pIT hh131).trans e129)
                        have e155 : Ln h137 v96 = 12 := ((fxL F141 e154).trans ((pIL hh131).trans e130))
                        have e156 : Iv h137 v96 ((8 : Int).toNat) = (iD (w32 (1000 * x62)) v56) := ((fxIa F141 e154 ar_131100 rfl).trans ((pI_j hh131 (by decide)).trans ((pI_j hh123 (by decide)).trans ((pI_j hh113 (by decide)).trans (pI_e hh103)))))
                        refine g_iald C e153 rfl e155 (ix (il 8) (by decide) (by decide)) e156 dX12_line_324 ?_
                        refine g_sipush C (by decide) dX12_line_325 ?_
                        refine g_icmp_ne C f102 (iw (il 1000) (by decide) (by decide)) 335 (by decide) dX12_line_328 (fun q157 => ?_) (fun q158 => ?_)
                        · refine g_aload_n C rfl 1 rfl dX12_line_335 ?_
                          refine gf_R C fk_LandSurveyModel_155 rfl e151 e152 dX12_line_336 ?_
                          refine g_bipush C (by decide) dX12_line_339 ?_
                          have e159 : Iv h137 v96 ((9 : Int).toNat) = (iD (w32 (1000 * x63)) v56) := ((fxIa F141 e154 ar_131100 rfl).trans ((pI_j hh131 (by decide)).trans ((pI_j hh123 (by decide)).trans (pI_e hh113))))
                          refine g_iald C e153 rfl e155 (ix (il 9) (by decide) (by decide)) e159 dX12_line_341 ?_
                          refine g_sipush C (by decide) dX12_line_342 ?_
                          refine g_icmp_ne C f110 (iw (il 1000) (by decide) (by decide)) 352 (by decide) dX12_line_345 (fun q160 => ?_) (fun q161 => ?_)
                          · refine g_aload_n C rfl 1 rfl dX12_line_352 ?_
                            refine gf_R C fk_LandSurveyModel_155 rfl e151 e152 dX12_line_353 ?_
                            refine g_bipush C (by decide) dX12_line_356 ?_
                            have e162 : Iv h137 v96 ((10 : Int).toNat) = (iD (w32 (1000 * x64)) v56) := ((fxIa F141 e154 ar_131100 rfl).trans ((pI_j hh131 (by decide)).trans (pI_e hh123)))
                            refine g_iald C e153 rfl e155 (ix (il 10) (by decide) (by decide)) e162 dX12_line_358 ?_
                            refine g_sipush C (by decide) dX12_line_359 ?_
                            refine g_icmp_ne C f120 (iw (il 1000) (by decide) (by decide)) 369 (by decide) dX12_line_362 (fun q163 => ?_) (fun q164 => ?_)
                            · refine g_iconst C dX12_line_369 ?_
                              exact g_iret C hr rfl (iw (il 1) (by decide) (by decide)) ⟨O140, (((((((((((((Fx.rf (wr := wr_k_X12_line)).pI ta0 hh1 rfl).call F9 rfl).call F23 rfl).call F38 rfl).call F54 rfl).call F71 rfl).call F90 rfl).pIa t98 ar_131100 hh103 rfl).pIa e111 ar_131100 hh113 rfl).pIa e121 ar_131100 hh123 rfl).pIa e129 ar_131100 hh131 rfl).call F141 rfl), (iw (il 1) (by decide) (by decide))⟩ (by decide) (by decide) dX12_line_370
                            · have f165 : (1000 : Int) ≤ (iD (w32 (1000 * x64)) v56) ∧ (iD (w32 (1000 * x64)) v56) ≤ (1000 : Int) := ii f120 (r_eq (il 1000) q164) (by decide) (by decide)
                              refine g_iconst C dX12_line_365 ?_
                              refine g_goto C 370 (by decide) dX12_line_366 ?_
                              exact g_iret C hr rfl (iw (il 0) (by decide) (by decide)) ⟨O140, (((((((((((((Fx.rf (wr := wr_k_X12_line)).pI ta0 hh1 rfl).call F9 rfl).call F23 rfl).call F38 rfl).call F54 rfl).call F71 rfl).call F90 rfl).pIa t98 ar_131100 hh103 rfl).pIa e111 ar_131100 hh113 rfl).pIa e121 ar_131100 hh123 rfl).pIa e129 ar_131100 hh131 rfl).call F141 rfl), (iw (il 0) (by decide) (by decide))⟩ (by decide) (by decide) dX12_line_370
                          · have f166 : (1000 : Int) ≤ (iD (w32 (1000 * x63)) v56) ∧ (iD (w32 (1000 * x63)) v56) ≤ (1000 : Int) := ii f110 (r_eq (il 1000) q161) (by decide) (by decide)
                            refine g_iconst C dX12_line_348 ?_
                            refine g_goto C 370 (by decide) dX12_line_349 ?_
                            exact g_iret C hr rfl (iw (il 2) (by decide) (by decide)) ⟨O140, (((((((((((((Fx.rf (wr := wr_k_X12_line)).pI ta0 hh1 rfl).call F9 rfl).call F23 rfl).call F38 rfl).call F54 rfl).call F71 rfl).call F90 rfl).pIa t98 ar_131100 hh103 rfl).pIa e111 ar_131100 hh113 rfl).pIa e121 ar_131100 hh123 rfl).pIa e129 ar_131100 hh131 rfl).call F141 rfl), (iw (il 2) (by decide) (by decide))⟩ (by decide) (by decide) dX12_line_370
                        · have f167 : (1000 : Int) ≤ (iD (w32 (1000 * x62)) v56) ∧ (iD (w32 (1000 * x62)) v56) ≤ (1000 : Int) := ii f102 (r_eq (il 1000) q158) (by decide) (by decide)
                          refine g_iconst C dX12_line_331 ?_
                          refine g_goto C 370 (by decide) dX12_line_332 ?_
                          exact g_iret C hr rfl (iw (il 3) (by decide) (by decide)) ⟨O140, (((((((((((((Fx.rf (wr := wr_k_X12_line)).pI ta0 hh1 rfl).call F9 rfl).call F23 rfl).call F38 rfl).call F54 rfl).call F71 rfl).call F90 rfl).pIa t98 ar_131100 hh103 rfl).pIa e111 ar_131100 hh113 rfl).pIa e121 ar_131100 hh123 rfl).pIa e129 ar_131100 hh131 rfl).call F141 rfl), (iw (il 3) (by decide) (by decide))⟩ (by decide) (by decide) dX12_line_370
                      · have f168 : (0 : Int) ≤ r136 ∧ r136 ≤ (23 : Int) := r_ge f142 (il 0) q149 (by decide) (by decide)
                        refine g_aload_n C rfl 1 rfl dX12_line_300 ?_
                        have e169 : Tg h137 a0 = 12 := (fxT F141 e134)
                        obtain ⟨v170, e171⟩ : ∃ z, Rv h137 a0 26 = z := ⟨_, rfl⟩
                        have t172 := ok_R O140 e169 rE_12_26 e171
                        have l173 := ok_L O140 e169 rE_12_26 e171
                        refine gf_R C fk_LandSurveyModel_143 rfl e169 e171 dX12_line_301 ?_
                        refine g_bipush C (by decide) dX12_line_304 ?_
                        refine g_aload_n C rfl 1 rfl dX12_line_306 ?_
                        refine g_callI (st := [.inl 24, .inr (.inr v170)]) (gc_V C lk_LandSurveyModel_432 (k_X12_bookNow l D cy w z0 O140 e169) e169 rfl rfl rfl ⟨by decide, by decide⟩ (Nat.le_of_ble_eq_true rfl) dX12_line_307 ⟨(by decide), (by decide)⟩) (fun r174 h175 f177 K176 => ?_)
                        obtain ⟨O178, F179, f180, p181⟩ := K176
                        have p182 := ((BNow_fx O133 F141 e134 rfl).trans e145)
                        rw [p182] at p181
                        have f183 : (-1 : Int) ≤ r174 ∧ r174 ≤ (7 : Int) := by omega
                        have f184 : (-24 : Int) ≤ (24 * r174) ∧ (24 * r174) ≤ (168 : Int) := ia_mul (by decide) f183 (by decide) (by decide)
                        refine g_imul C dX12_line_310 ?_
                        refine g_iload C 0 rfl dX12_line_311 ?_
                        have f185 : (-24 : Int) ≤ ((24 * r174) + r136) ∧ ((24 * r174) + r136) ≤ (191 : Int) := ia_add f184 f168 (by decide) (by decide)
                        refine g_iadd C dX12_line_313 ?_
                        have e186 : Tg h175 v170 = 126100 := (fxT F179 t172)
                        have e187 : Ln h175 v170 = 216 := ((fxL F179 t172).trans l173)
                        obtain ⟨v188, e189⟩ : ∃ z, Iv h175 v170 (((24 * r174) + r136).toNat) = z := ⟨_, rfl⟩
                        have f190 := ok_Ia O178 e186 ar_126100 rI_126100_0 e189
                        refine g_iald C e186 rfl e187 (by omega) e189 dX12_line_314 ?_
                        refine g_goto C 370 (by decide) dX12_line_315 ?_
                        exact g_iret C hr rfl (iw f190 (by decide) (by decide)) ⟨O178, ((((((((((((((Fx.rf (wr := wr_k_X12_line)).pI ta0 hh1 rfl).call F9 rfl).call F23 rfl).call F38 rfl).call F54 rfl).call F71 rfl).call F90 rfl).pIa t98 ar_131100 hh103 rfl).pIa e111 ar_131100 hh113 rfl).pIa e121 ar_131100 hh123 rfl).pIa e129 ar_131100 hh131 rfl).call F141 rfl).call F179 rfl), (iw f190 (by decide) (by decide))⟩ (by decide) (by decide) dX12_line_370
                    · have f191 : (0 : Int) ≤ x84 ∧ x84 ≤ (11 : Int) := r_lt f91 (il 12) q93 (by decide) (by decide)
                      refine g_aload_n C rfl 0 rfl dX12_line_209 ?_
                      have e192 : Tg h85 a0 = 12 := (fxT F90 e76)
                      obtain ⟨v193, e194⟩ : ∃ z, Rv h85 a0 31 = z := ⟨_, rfl⟩
                      have t195 := ok_R O89 e192 rE_12_31 e194
                      have l196 := ok_L O89 e192 rE_12_31 e194
                      refine gf_R C fk_LandSurveyModel_155 rfl e192 e194 dX12_line_210 ?_
                      refine g_iload C 7 rfl dX12_line_213 ?_
                      refine g_iconst C dX12_line_215 ?_
                      refine g_iast C t195 rfl l196 (ix f191 (by decide) (by decide)) (iw (il 0) (by decide) (by decide)) dX12_line_216 (fun h198 hh197 => ?_)
                      have O199 := O89.pIa t195 ar_131100 hh197 rI_131100_0 (iw (il 0) (by decide) (by decide)) nofun
                      have f200 : (1 : Int) ≤ (x84 + 1) ∧ (x84 + 1) ≤ (12 : Int) := ia_add f191 (il 1) (by decide) (by decide)
                      refine g_iinc C [(7, .inl (x84 + 1)), (0, .inr (.inr a0)), (1, .inl a1), (2, .inl a2), (3, .inl a3), (4, .inl x62), (5, .inl x63), (6, .inl x64)] 7 rfl (by decide) rfl dX12_line_217 ?_
                      refine g_goto C 202 (by decide) dX12_line_220 ?_
                      refine GW.sub [1, 2, 3, 4, 5, 6, 7, 0] rfl ?_
                      exact ih87 _ (by omega) (x84 + 1) h198 rfl O199 (F90.pIa t195 ar_131100 hh197 rfl) (iw f200 (by decide) (by decide))
                exact L86 _ 0 h66 rfl O70 Fx.rf (iw (il 0) (by decide) (by decide))
              · have f201 : (0 : Int) ≤ x65 ∧ x65 ≤ (15 : Int) := r_lt f75 f80 q82 (by decide) (by decide)
                refine g_aload_n C rfl 0 rfl dX12_line_73 ?_
                obtain ⟨v202, e203⟩ : ∃ z, Rv h66 a0 73 = z := ⟨_, rfl⟩
                have t204 := ok_R O70 e76 rE_12_73 e203
                have l205 := ok_L O70 e76 rE_12_73 e203
                refine gf_R C fk_LandSurveyModel_260 rfl e76 e203 dX12_line_74 ?_
                refine g_iload C 7 rfl dX12_line_77 ?_
                obtain ⟨v206, e207⟩ : ∃ z, Iv h66 v202 x65.toNat = z := ⟨_, rfl⟩
                have f208 := ok_Ia O70 t204 ar_173101 rI_173101_0 e207
                refine g_zald C t204 rfl l205 (ix f201 (by decide) (by decide)) e207 dX12_line_79 ?_
                refine g_if_eq C (iw f208 (by decide) (by decide)) 193 (by decide) dX12_line_80 (fun q209 => ?_) (fun q210 => ?_)
                · have f211 : (0 : Int) ≤ v206 ∧ v206 ≤ (0 : Int) := ii f208 (r_eq (il 0) q209) (by decide) (by decide)
                  have f212 : (1 : Int) ≤ (x65 + 1) ∧ (x65 + 1) ≤ (16 : Int) := ia_add f201 (il 1) (by decide) (by decide)
                  refine g_iinc C [(7, .inl (x65 + 1)), (0, .inr (.inr a0)), (1, .inl a1), (2, .inl a2), (3, .inl a3), (4, .inl x62), (5, .inl x63), (6, .inl x64)] 7 rfl (by decide) rfl dX12_line_193 ?_
                  refine g_goto C 62 (by decide) dX12_line_196 ?_
                  refine GW.sub [1, 2, 3, 4, 5, 6, 7, 0] rfl ?_
                  exact ih68 _ (by omega) x62 x63 x64 (x65 + 1) h66 rfl O70 F71 f72 f73 f74 (iw f212 (by decide) (by decide))
                · have f213 : (1 : Int) ≤ v206 ∧ v206 ≤ (1 : Int) := r_nl f208 q210
                  refine g_aload_n C rfl 0 rfl dX12_line_83 ?_
                  refine g_iload C 7 rfl dX12_line_84 ?_
                  refine g_bipush C (by decide) dX12_line_86 ?_
                  refine g_iload_n C rfl 2 rfl dX12_line_88 ?_
                  refine g_imul C dX12_line_89 ?_
                  refine g_iload_n C rfl 1 rfl dX12_line_90 ?_
                  refine g_iadd C dX12_line_91 ?_
                  refine g_iconst C dX12_line_92 ?_
                  refine g_callI (st := []) (gc_V C lk_LandSurveyModel_572 (k_X12_mayLie l D cy w z0 O70 e76 f201 f32 (iw (il 0) (by decide) (by decide))) e76 rfl rfl rfl ⟨by decide, by decide⟩ (Nat.le_of_ble_eq_true rfl) dX12_line_93 ⟨(by decide), (by decide)⟩) (fun r214 h215 f217 K216 => ?_)
                  obtain ⟨O218, F219, f220⟩ := K216
                  refine g_istore C [(8, .inl r214), (0, .inr (.inr a0)), (1, .inl a1), (2, .inl a2), (3, .inl a3), (4, .inl x62), (5, .inl x63), (6, .inl x64), (7, .inl x65)] (by decide) rfl dX12_line_96 ?_
                  refine g_aload_n C rfl 1 rfl dX12_line_98 ?_
                  refine g_iload C 8 rfl dX12_line_99 ?_
                  refine g_bipush C (by decide) dX12_line_101 ?_
                  refine g_iload_n C rfl 3 rfl dX12_line_103 ?_
                  refine g_imul C dX12_line_104 ?_
                  refine g_iload_n C rfl 2 rfl dX12_line_105 ?_
                  refine g_iadd C dX12_line_106 ?_
                  refine g_iload_n C rfl 4 rfl dX12_line_107 ?_
                  refine g_callI (st := [.inl x65, .inr (.inr a0)]) (gc_S C lk_LandSurveyModel_491 (k_X12_neighbour l D cy w z0 O218 f32 f30) rfl ⟨by decide, by decide⟩ (Nat.le_of_ble_eq_true rfl) dX12_line_108 ⟨(by decide), (by decide)⟩) (fun r221 h222 f224 K223 => ?_)
                  obtain ⟨O225, F226, f227, p228⟩ := K223
                  refine g_iconst C dX12_line_111 ?_
                  have e229 : Tg h222 a0 = 12 := (fxT F226 (fxT F219 e76))
                  refine g_callI (st := []) (gc_V C lk_LandSurveyModel_572 (k_X12_mayLie l D cy w z0 O225 e229 f201 (by omega) (iw (il 0) (by decide) (by decide))) e229 rfl rfl rfl ⟨by decide, by decide⟩ (Nat.le_of_ble_eq_true rfl) dX12_line_112 ⟨(by decide), (by decide)⟩) (fun r230 h231 f233 K232 => ?_)
                  obtain ⟨O234, F235, f236⟩ := K232
                  refine g_istore C [(9, .inl r230), (8, .inl r214), (0, .inr (.inr a0)), (1, .inl a1), (2, .inl a2), (3, .inl a3), (4, .inl x62), (5, .inl x63), (6, .inl x64), (7, .inl x65)] (by decide) rfl dX12_line_115 ?_
                  refine g_iload C 6 rfl dX12_line_117 ?_
                  refine g_iload C 1 rfl dX12_line_119 ?_
                  refine g_callI (st := [.inl x62]) (gc_S C lk_LandSurveyModel_578 (k_X12_isOne l D cy w z0 O234 f220) rfl ⟨by decide, by decide⟩ (Nat.le_of_ble_eq_true rfl) dX12_line_121 ⟨(by decide), (by decide)⟩) (fun r237 h238 f240 K239 => ?_)
                  obtain ⟨O241, F242, f243⟩ := K239
                  refine g_if_eq C (iw f243 (by decide) (by decide)) 146 (by decide) dX12_line_124 (fun q244 => ?_) (fun q245 => ?_)
                  · have f246 : (0 : Int) ≤ r237 ∧ r237 ≤ (0 : Int) := ii f243 (r_eq (il 0) q244) (by decide) (by decide)
                    refine g_iconst C dX12_line_146 ?_
                    have f247 : (-2147483648 : Int) ≤ (x62 + 0) ∧ (x62 + 0) ≤ (2147483647 : Int) := ia_add f72 (il 0) (by decide) (by decide)
                    refine g_iadd C dX12_line_147 ?_
                    refine g_istore C [(4, .inl (x62 + 0)), (9, .inl r230), (8, .inl r214), (0, .inr (.inr a0)), (1, .inl a1), (2, .inl a2), (3, .inl a3), (5, .inl x63), (6, .inl x64), (7, .inl x65)] (by decide) rfl dX12_line_148 ?_
                    refine g_iload C 7 rfl dX12_line_150 ?_
                    refine g_iload C 2 rfl dX12_line_152 ?_
                    refine g_iload C 1 rfl dX12_line_154 ?_
                    refine g_iand C dX12_line_156 ?_
                    have f248 : (-2147483648 : Int) ≤ (bAnd r214 r230) ∧ (bAnd r214 r230) ≤ (2147483647 : Int) := inR_of _
                    refine g_if_ne C f248 164 (by decide) dX12_line_157 (fun q249 => ?_) (fun q250 => ?_)
                    · refine g_iconst C dX12_line_164 ?_
                      have f251 : (-2147483648 : Int) ≤ (x63 + 0) ∧ (x63 + 0) ≤ (2147483647 : Int) := ia_add f73 (il 0) (by decide) (by decide)
                      refine g_iadd C dX12_line_165 ?_
                      refine g_istore C [(5, .inl (x63 + 0)), (4, .inl (x62 + 0)), (9, .inl r230), (8, .inl r214), (0, .inr (.inr a0)), (1, .inl a1), (2, .inl a2), (3, .inl a3), (6, .inl x64), (7, .inl x65)] (by decide) rfl dX12_line_166 ?_
                      refine g_iload C 8 rfl dX12_line_168 ?_
                      refine g_iload C 3 rfl dX12_line_170 ?_
                      refine g_callI (st := [.inl x64]) (gc_S C lk_LandSurveyModel_578 (k_X12_isOne l D cy w z0 O241 f220) rfl ⟨by decide, by decide⟩ (Nat.le_of_ble_eq_true rfl) dX12_line_172 ⟨(by decide), (by decide)⟩) (fun r252 h253 f255 K254 => ?_)
                      obtain ⟨O256, F257, f258⟩ := K254
                      refine g_if_eq C (iw f258 (by decide) (by decide)) 189 (by decide) dX12_line_175 (fun q259 => ?_) (fun q260 => ?_)
                      · have f261 : (0 : Int) ≤ r252 ∧ r252 ≤ (0 : Int) := ii f258 (r_eq (il 0) q259) (by decide) (by decide)
                        refine g_iconst C dX12_line_189 ?_
                        have f262 : (-2147483648 : Int) ≤ (x64 + 0) ∧ (x64 + 0) ≤ (2147483647 : Int) := ia_add f74 (il 0) (by decide) (by decide)
                        refine g_iadd C dX12_line_190 ?_
                        refine g_istore C [(6, .inl (x64 + 0)), (5, .inl (x63 + 0)), (4, .inl (x62 + 0)), (9, .inl r230), (8, .inl r214), (0, .inr (.inr a0)), (1, .inl a1), (2, .inl a2), (3, .inl a3), (7, .inl x65)] (by decide) rfl dX12_line_191 ?_
                        have f263 : (1 : Int) ≤ (x65 + 1) ∧ (x65 + 1) ≤ (16 : Int) := ia_add f201 (il 1) (by decide) (by decide)
                        refine g_iinc C [(7, .inl (x65 + 1)), (6, .inl (x64 + 0)), (5, .inl (x63 + 0)), (4, .inl (x62 + 0)), (9, .inl r230), (8, .inl r214), (0, .inr (.inr a0)), (1, .inl a1), (2, .inl a2), (3, .inl a3)] 9 rfl (by decide) rfl dX12_line_193 ?_
                        refine g_goto C 62 (by decide) dX12_line_196 ?_
                        refine GW.sub [6, 7, 8, 9, 3, 2, 1, 0] rfl ?_
                        exact ih68 _ (by omega) (x62 + 0) (x63 + 0) (x64 + 0) (x65 + 1) h253 rfl O256 (((((F71.call F219 rfl).call F226 rfl).call F235 rfl).call F242 rfl).call F257 rfl) f247 f251 f262 (iw f263 (by decide) (by decide))
                      · have f264 : (1 : Int) ≤ r252 ∧ r252 ≤ (1 : Int) := r_nl f258 q260
                        refine g_iload C 3 rfl dX12_line_178 ?_
                        refine g_iload C 2 rfl dX12_line_180 ?_
                        refine g_icmp_ne C f220 f236 189 (by decide) dX12_line_182 (fun q265 => ?_) (fun q266 => ?_)
                        · refine g_iconst C dX12_line_189 ?_
                          have f267 : (-2147483648 : Int) ≤ (x64 + 0) ∧ (x64 + 0) ≤ (2147483647 : Int) := ia_add f74 (il 0) (by decide) (by decide)
                          refine g_iadd C dX12_line_190 ?_
                          refine g_istore C [(6, .inl (x64 + 0)), (5, .inl (x63 + 0)), (4, .inl (x62 + 0)), (9, .inl r230), (8, .inl r214), (0, .inr (.inr a0)), (1, .inl a1), (2, .inl a2), (3, .inl a3), (7, .inl x65)] (by decide) rfl dX12_line_191 ?_
                          have f268 : (1 : Int) ≤ (x65 + 1) ∧ (x65 + 1) ≤ (16 : Int) := ia_add f201 (il 1) (by decide) (by decide)
                          refine g_iinc C [(7, .inl (x65 + 1)), (6, .inl (x64 + 0)), (5, .inl (x63 + 0)), (4, .inl (x62 + 0)), (9, .inl r230), (8, .inl r214), (0, .inr (.inr a0)), (1, .inl a1), (2, .inl a2), (3, .inl a3)] 9 rfl (by decide) rfl dX12_line_193 ?_
                          refine g_goto C 62 (by decide) dX12_line_196 ?_
                          refine GW.sub [6, 7, 8, 9, 3, 2, 1, 0] rfl ?_
                          exact ih68 _ (by omega) (x62 + 0) (x63 + 0) (x64 + 0) (x65 + 1) h253 rfl O256 (((((F71.call F219 rfl).call F226 rfl).call F235 rfl).call F242 rfl).call F257 rfl) f247 f251 f267 (iw f268 (by decide) (by decide))
                        · refine g_iconst C dX12_line_185 ?_
                          refine g_goto C 190 (by decide) dX12_line_186 ?_
                          have f269 : (-2147483648 : Int) ≤ (w32 (x64 + 1)) ∧ (w32 (x64 + 1)) ≤ (2147483647 : Int) := w32_inR _
                          refine g_iaddW C dX12_line_190 ?_
                          refine g_istore C [(6, .inl (w32 (x64 + 1))), (5, .inl (x63 + 0)), (4, .inl (x62 + 0)), (9, .inl r230), (8, .inl r214), (0, .inr (.inr a0)), (1, .inl a1), (2, .inl a2), (3, .inl a3), (7, .inl x65)] (by decide) rfl dX12_line_191 ?_
                          have f270 : (1 : Int) ≤ (x65 + 1) ∧ (x65 + 1) ≤ (16 : Int) := ia_add f201 (il 1) (by decide) (by decide)
                          refine g_iinc C [(7, .inl (x65 + 1)), (6, .inl (w32 (x64 + 1))), (5, .inl (x63 + 0)), (4, .inl (x62 + 0)), (9, .inl r230), (8, .inl r214), (0, .inr (.inr a0)), (1, .inl a1), (2, .inl a2), (3, .inl a3)] 9 rfl (by decide) rfl dX12_line_193 ?_
                          refine g_goto C 62 (by decide) dX12_line_196 ?_
                          refine GW.sub [6, 7, 8, 9, 3, 2, 1, 0] rfl ?_
                          exact ih68 _ (by omega) (x62 + 0) (x63 + 0) (w32 (x64 + 1)) (x65 + 1) h253 rfl O256 (((((F71.call F219 rfl).call F226 rfl).call F235 rfl).call F242 rfl).call F257 rfl) f247 f251 f269 (iw f270 (by decide) (by decide))
                    · have f271 : (0 : Int) ≤ (bAnd r214 r230) ∧ (bAnd r214 r230) ≤ (0 : Int) := ii f248 (r_eq (il 0) q250) (by decide) (by decide)
                      refine g_iconst C dX12_line_160 ?_
                      refine g_goto C 165 (by decide) dX12_line_161 ?_
                      have f272 : (-2147483648 : Int) ≤ (w32 (x63 + 1)) ∧ (w32 (x63 + 1)) ≤ (2147483647 : Int) := w32_inR _
                      refine g_iaddW C dX12_line_165 ?_
                      refine g_istore C [(5, .inl (w32 (x63 + 1))), (4, .inl (x62 + 0)), (9, .inl r230), (8, .inl r214), (0, .inr (.inr a0)), (1, .inl a1), (2, .inl a2), (3, .inl a3), (6, .inl x64), (7, .inl x65)] (by decide) rfl dX12_line_166 ?_
                      refine g_iload C 8 rfl dX12_line_168 ?_
                      refine g_iload C 3 rfl dX12_line_170 ?_
                      refine g_callI (st := [.inl x64]) (gc_S C lk_LandSurveyModel_578 (k_X12_isOne l D cy w z0 O241 f220) rfl ⟨by decide, by decide⟩ (Nat.le_of_ble_eq_true rfl) dX12_line_172 ⟨(by decide), (by decide)⟩) (fun r273 h274 f276 K275 => ?_)
                      obtain ⟨O277, F278, f279⟩ := K275
                      refine g_if_eq C (iw f279 (by decide) (by decide)) 189 (by decide) dX12_line_175 (fun q280 => ?_) (fun q281 => ?_)
                      · have f282 : (0 : Int) ≤ r273 ∧ r273 ≤ (0 : Int) := ii f279 (r_eq (il 0) q280) (by decide) (by decide)
                        refine g_iconst C dX12_line_189 ?_
                        have f283 : (-2147483648 : Int) ≤ (x64 + 0) ∧ (x64 + 0) ≤ (2147483647 : Int) := ia_add f74 (il 0) (by decide) (by decide)
                        refine g_iadd C dX12_line_190 ?_
                        refine g_istore C [(6, .inl (x64 + 0)), (5, .inl (w32 (x63 + 1))), (4, .inl (x62 + 0)), (9, .inl r230), (8, .inl r214), (0, .inr (.inr a0)), (1, .inl a1), (2, .inl a2), (3, .inl a3), (7, .inl x65)] (by decide) rfl dX12_line_191 ?_
                        have f284 : (1 : Int) ≤ (x65 + 1) ∧ (x65 + 1) ≤ (16 : Int) := ia_add f201 (il 1) (by decide) (by decide)
                        refine g_iinc C [(7, .inl (x65 + 1)), (6, .inl (x64 + 0)), (5, .inl (w32 (x63 + 1))), (4, .inl (x62 + 0)), (9, .inl r230), (8, .inl r214), (0, .inr (.inr a0)), (1, .inl a1), (2, .inl a2), (3, .inl a3)] 9 rfl (by decide) rfl dX12_line_193 ?_
                        refine g_goto C 62 (by decide) dX12_line_196 ?_
                        refine GW.sub [6, 7, 8, 9, 3, 2, 1, 0] rfl ?_
                        exact ih68 _ (by omega) (x62 + 0) (w32 (x63 + 1)) (x64 + 0) (x65 + 1) h274 rfl O277 (((((F71.call F219 rfl).call F226 rfl).call F235 rfl).call F242 rfl).call F278 rfl) f247 f272 f283 (iw f284 (by decide) (by decide))
                      · have f285 : (1 : Int) ≤ r273 ∧ r273 ≤ (1 : Int) := r_nl f279 q281
                        refine g_iload C 3 rfl dX12_line_178 ?_
                        refine g_iload C 2 rfl dX12_line_180 ?_
                        refine g_icmp_ne C f220 f236 189 (by decide) dX12_line_182 (fun q286 => ?_) (fun q287 => ?_)
                        · refine g_iconst C dX12_line_189 ?_
                          have f288 : (-2147483648 : Int) ≤ (x64 + 0) ∧ (x64 + 0) ≤ (2147483647 : Int) := ia_add f74 (il 0) (by decide) (by decide)
                          refine g_iadd C dX12_line_190 ?_
                          refine g_istore C [(6, .inl (x64 + 0)), (5, .inl (w32 (x63 + 1))), (4, .inl (x62 + 0)), (9, .inl r230), (8, .inl r214), (0, .inr (.inr a0)), (1, .inl a1), (2, .inl a2), (3, .inl a3), (7, .inl x65)] (by decide) rfl dX12_line_191 ?_
                          have f289 : (1 : Int) ≤ (x65 + 1) ∧ (x65 + 1) ≤ (16 : Int) := ia_add f201 (il 1) (by decide) (by decide)
                          refine g_iinc C [(7, .inl (x65 + 1)), (6, .inl (x64 + 0)), (5, .inl (w32 (x63 + 1))), (4, .inl (x62 + 0)), (9, .inl r230), (8, .inl r214), (0, .inr (.inr a0)), (1, .inl a1), (2, .inl a2), (3, .inl a3)] 9 rfl (by decide) rfl dX12_line_193 ?_
                          refine g_goto C 62 (by decide) dX12_line_196 ?_
                          refine GW.sub [6, 7, 8, 9, 3, 2, 1, 0] rfl ?_
                          exact ih68 _ (by omega) (x62 + 0) (w32 (x63 + 1)) (x64 + 0) (x65 + 1) h274 rfl O277 (((((F71.call F219 rfl).call F226 rfl).call F235 rfl).call F242 rfl).call F278 rfl) f247 f272 f288 (iw f289 (by decide) (by decide))
                        · refine g_iconst C dX12_line_185 ?_
                          refine g_goto C 190 (by decide) dX12_line_186 ?_
                          have f290 : (-2147483648 : Int) ≤ (w32 (x64 + 1)) ∧ (w32 (x64 + 1)) ≤ (2147483647 : Int) := w32_inR _
                          refine g_iaddW C dX12_line_190 ?_
                          refine g_istore C [(6, .inl (w32 (x64 + 1))), (5, .inl (w32 (x63 + 1))), (4, .inl (x62 + 0)), (9, .inl r230), (8, .inl r214), (0, .inr (.inr a0)), (1, .inl a1), (2, .inl a2), (3, .inl a3), (7, .inl x65)] (by decide) rfl dX12_line_191 ?_
                          have f291 : (1 : Int) ≤ (x65 + 1) ∧ (x65 + 1) ≤ (16 : Int) := ia_add f201 (il 1) (by decide) (by decide)
                          refine g_iinc C [(7, .inl (x65 + 1)), (6, .inl (w32 (x64 + 1))), (5, .inl (w32 (x63 + 1))), (4, .inl (x62 + 0)), (9, .inl r230), (8, .inl r214), (0, .inr (.inr a0)), (1, .inl a1), (2, .inl a2), (3, .inl a3)] 9 rfl (by decide) rfl dX12_line_193 ?_
                          refine g_goto C 62 (by decide) dX12_line_196 ?_
                          refine GW.sub [6, 7, 8, 9, 3, 2, 1, 0] rfl ?_
                          exact ih68 _ (by omega) (x62 + 0) (w32 (x63 + 1)) (w32 (x64 + 1)) (x65 + 1) h274 rfl O277 (((((F71.call F219 rfl).call F226 rfl).call F235 rfl).call F242 rfl).call F278 rfl) f247 f272 f290 (iw f291 (by decide) (by decide))
                  · have f292 : (1 : Int) ≤ r237 ∧ r237 ≤ (1 : Int) := r_nl f243 q245
                    refine g_iload C 0 rfl dX12_line_127 ?_
                    refine g_callI (st := [.inl x62]) (gc_S C lk_LandSurveyModel_578 (k_X12_isOne l D cy w z0 O241 f236) rfl ⟨by decide, by decide⟩ (Nat.le_of_ble_eq_true rfl) dX12_line_129 ⟨(by decide), (by decide)⟩) (fun r293 h294 f296 K295 => ?_)
                    obtain ⟨O297, F298, f299⟩ := K295
                    refine g_if_eq C (iw f299 (by decide) (by decide)) 146 (by decide) dX12_line_132 (fun q300 => ?_) (fun q301 => ?_)
                    · have f302 : (0 : Int) ≤ r293 ∧ r293 ≤ (0 : Int) := ii f299 (r_eq (il 0) q300) (by decide) (by decide)
                      refine g_iconst C dX12_line_146 ?_
                      have f303 : (-2147483648 : Int) ≤ (x62 + 0) ∧ (x62 + 0) ≤ (2147483647 : Int) := ia_add f72 (il 0) (by decide) (by decide)
                      refine g_iadd C dX12_line_147 ?_
                      refine g_istore C [(4, .inl (x62 + 0)), (9, .inl r230), (8, .inl r214), (0, .inr (.inr a0)), (1, .inl a1), (2, .inl a2), (3, .inl a3), (5, .inl x63), (6, .inl x64), (7, .inl x65)] (by decide) rfl dX12_line_148 ?_
                      refine g_iload C 7 rfl dX12_line_150 ?_
                      refine g_iload C 2 rfl dX12_line_152 ?_
                      refine g_iload C 1 rfl dX12_line_154 ?_
                      refine g_iand C dX12_line_156 ?_
                      have f304 : (-2147483648 : Int) ≤ (bAnd r214 r230) ∧ (bAnd r214 r230) ≤ (2147483647 : Int) := inR_of _
                      refine g_if_ne C f304 164 (by decide) dX12_line_157 (fun q305 => ?_) (fun q306 => ?_)
                      · refine g_iconst C dX12_line_164 ?_
                        have f307 : (-2147483648 : Int) ≤ (x63 + 0) ∧ (x63 + 0) ≤ (2147483647 : Int) := ia_add f73 (il 0) (by decide) (by decide)
                        refine g_iadd C dX12_line_165 ?_
                        refine g_istore C [(5, .inl (x63 + 0)), (4, .inl (x62 + 0)), (9, .inl r230), (8, .inl r214), (0, .inr (.inr a0)), (1, .inl a1), (2, .inl a2), (3, .inl a3), (6, .inl x64), (7, .inl x65)] (by decide) rfl dX12_line_166 ?_
                        refine g_iload C 8 rfl dX12_line_168 ?_
                        refine g_iload C 3 rfl dX12_line_170 ?_
                        refine g_callI (st := [.inl x64]) (gc_S C lk_LandSurveyModel_578 (k_X12_isOne l D cy w z0 O297 f220) rfl ⟨by decide, by decide⟩ (Nat.le_of_ble_eq_true rfl) dX12_line_172 ⟨(by decide), (by decide)⟩) (fun r308 h309 f311 K310 => ?_)
                        obtain ⟨O312, F313, f314⟩ := K310
                        refine g_if_eq C (iw f314 (by decide) (by decide)) 189 (by decide) dX12_line_175 (fun q315 => ?_) (fun q316 => ?_)
                        · have f317 : (0 : Int) ≤ r308 ∧ r308 ≤ (0 : Int) := ii f314 (r_eq (il 0) q315) (by decide) (by decide)
                          refine g_iconst C dX12_line_189 ?_
                          have f318 : (-2147483648 : Int) ≤ (x64 + 0) ∧ (x64 + 0) ≤ (2147483647 : Int) := ia_add f74 (il 0) (by decide) (by decide)
                          refine g_iadd C dX12_line_190 ?_
                          refine g_istore C [(6, .inl (x64 + 0)), (5, .inl (x63 + 0)), (4, .inl (x62 + 0)), (9, .inl r230), (8, .inl r214), (0, .inr (.inr a0)), (1, .inl a1), (2, .inl a2), (3, .inl a3), (7, .inl x65)] (by decide) rfl dX12_line_191 ?_
                          have f319 : (1 : Int) ≤ (x65 + 1) ∧ (x65 + 1) ≤ (16 : Int) := ia_add f201 (il 1) (by decide) (by decide)
                          refine g_iinc C [(7, .inl (x65 + 1)), (6, .inl (x64 + 0)), (5, .inl (x63 + 0)), (4, .inl (x62 + 0)), (9, .inl r230), (8, .inl r214), (0, .inr (.inr a0)), (1, .inl a1), (2, .inl a2), (3, .inl a3)] 9 rfl (by decide) rfl dX12_line_193 ?_
                          refine g_goto C 62 (by decide) dX12_line_196 ?_
                          refine GW.sub [6, 7, 8, 9, 3, 2, 1, 0] rfl ?_
                          exact ih68 _ (by omega) (x62 + 0) (x63 + 0) (x64 + 0) (x65 + 1) h309 rfl O312 ((((((F71.call F219 rfl).call F226 rfl).call F235 rfl).call F242 rfl).call F298 rfl).call F313 rfl) f303 f307 f318 (iw f319 (by decide) (by decide))
                        · have f320 : (1 : Int) ≤ r308 ∧ r308 ≤ (1 : Int) := r_nl f314 q316
                          refine g_iload C 3 rfl dX12_line_178 ?_
                          refine g_iload C 2 rfl dX12_line_180 ?_
                          refine g_icmp_ne C f220 f236 189 (by decide) dX12_line_182 (fun q321 => ?_) (fun q322 => ?_)
                          · refine g_iconst C dX12_line_189 ?_
                            have f323 : (-2147483648 : Int) ≤ (x64 + 0) ∧ (x64 + 0) ≤ (2147483647 : Int) := ia_add f74 (il 0) (by decide) (by decide)
                            refine g_iadd C dX12_line_190 ?_
                            refine g_istore C [(6, .inl (x64 + 0)), (5, .inl (x63 + 0)), (4, .inl (x62 + 0)), (9, .inl r230), (8, .inl r214), (0, .inr (.inr a0)), (1, .inl a1), (2, .inl a2), (3, .inl a3), (7, .inl x65)] (by decide) rfl dX12_line_191 ?_
                            have f324 : (1 : Int) ≤ (x65 + 1) ∧ (x65 + 1) ≤ (16 : Int) := ia_add f201 (il 1) (by decide) (by decide)
                            refine g_iinc C [(7, .inl (x65 + 1)), (6, .inl (x64 + 0)), (5, .inl (x63 + 0)), (4, .inl (x62 + 0)), (9, .inl r230), (8, .inl r214), (0, .inr (.inr a0)), (1, .inl a1), (2, .inl a2), (3, .inl a3)] 9 rfl (by decide) rfl dX12_line_193 ?_
                            refine g_goto C 62 (by decide) dX12_line_196 ?_
                            refine GW.sub [6, 7, 8, 9, 3, 2, 1, 0] rfl ?_
                            exact ih68 _ (by omega) (x62 + 0) (x63 + 0) (x64 + 0) (x65 + 1) h309 rfl O312 ((((((F71.call F219 rfl).call F226 rfl).call F235 rfl).call F242 rfl).call F298 rfl).call F313 rfl) f303 f307 f323 (iw f324 (by decide) (by decide))
                          · refine g_iconst C dX12_line_185 ?_
                            refine g_goto C 190 (by decide) dX12_line_186 ?_
                            have f325 : (-2147483648 : Int) ≤ (w32 (x64 + 1)) ∧ (w32 (x64 + 1)) ≤ (2147483647 : Int) := w32_inR _
                            refine g_iaddW C dX12_line_190 ?_
                            refine g_istore C [(6, .inl (w32 (x64 + 1))), (5, .inl (x63 + 0)), (4, .inl (x62 + 0)), (9, .inl r230), (8, .inl r214), (0, .inr (.inr a0)), (1, .inl a1), (2, .inl a2), (3, .inl a3), (7, .inl x65)] (by decide) rfl dX12_line_191 ?_
                            have f326 : (1 : Int) ≤ (x65 + 1) ∧ (x65 + 1) ≤ (16 : Int) := ia_add f201 (il 1) (by decide) (by decide)
                            refine g_iinc C [(7, .inl (x65 + 1)), (6, .inl (w32 (x64 + 1))), (5, .inl (x63 + 0)), (4, .inl (x62 + 0)), (9, .inl r230), (8, .inl r214), (0, .inr (.inr a0)), (1, .inl a1), (2, .inl a2), (3, .inl a3)] 9 rfl (by decide) rfl dX12_line_193 ?_
                            refine g_goto C 62 (by decide) dX12_line_196 ?_
                            refine GW.sub [6, 7, 8, 9, 3, 2, 1, 0] rfl ?_
                            exact ih68 _ (by omega) (x62 + 0) (x63 + 0) (w32 (x64 + 1)) (x65 + 1) h309 rfl O312 ((((((F71.call F219 rfl).call F226 rfl).call F235 rfl).call F242 rfl).call F298 rfl).call F313 rfl) f303 f307 f325 (iw f326 (by decide) (by decide))
                      · have f327 : (0 : Int) ≤ (bAnd r214 r230) ∧ (bAnd r214 r230) ≤ (0 : Int) := ii f304 (r_eq (il 0) q306) (by decide) (by decide)
                        refine g_iconst C dX12_line_160 ?_
                        refine g_goto C 165 (by decide) dX12_line_161 ?_
                        have f328 : (-2147483648 : Int) ≤ (w32 (x63 + 1)) ∧ (w32 (x63 + 1)) ≤ (2147483647 : Int) := w32_inR _
                        refine g_iaddW C dX12_line_165 ?_
                        refine g_istore C [(5, .inl (w32 (x63 + 1))), (4, .inl (x62 + 0)), (9, .inl r230), (8, .inl r214), (0, .inr (.inr a0)), (1, .inl a1), (2, .inl a2), (3, .inl a3), (6, .inl x64), (7, .inl x65)] (by decide) rfl dX12_line_166 ?_
                        refine g_iload C 8 rfl dX12_line_168 ?_
                        refine g_iload C 3 rfl dX12_line_170 ?_
                        refine g_callI (st := [.inl x64]) (gc_S C lk_LandSurveyModel_578 (k_X12_isOne l D cy w z0 O297 f220) rfl ⟨by decide, by decide⟩ (Nat.le_of_ble_eq_true rfl) dX12_line_172 ⟨(by decide), (by decide)⟩) (fun r329 h330 f332 K331 => ?_)
                        obtain ⟨O333, F334, f335⟩ := K331
                        refine g_if_eq C (iw f335 (by decide) (by decide)) 189 (by decide) dX12_line_175 (fun q336 => ?_) (fun q337 => ?_)
                        · have f338 : (0 : Int) ≤ r329 ∧ r329 ≤ (0 : Int) := ii f335 (r_eq (il 0) q336) (by decide) (by decide)
                          refine g_iconst C dX12_line_189 ?_
                          have f339 : (-2147483648 : Int) ≤ (x64 + 0) ∧ (x64 + 0) ≤ (2147483647 : Int) := ia_add f74 (il 0) (by decide) (by decide)
                          refine g_iadd C dX12_line_190 ?_
                          refine g_istore C [(6, .inl (x64 + 0)), (5, .inl (w32 (x63 + 1))), (4, .inl (x62 + 0)), (9, .inl r230), (8, .inl r214), (0, .inr (.inr a0)), (1, .inl a1), (2, .inl a2), (3, .inl a3), (7, .inl x65)] (by decide) rfl dX12_line_191 ?_
                          have f340 : (1 : Int) ≤ (x65 + 1) ∧ (x65 + 1) ≤ (16 : Int) := ia_add f201 (il 1) (by decide) (by decide)
                          refine g_iinc C [(7, .inl (x65 + 1)), (6, .inl (x64 + 0)), (5, .inl (w32 (x63 + 1))), (4, .inl (x62 + 0)), (9, .inl r230), (8, .inl r214), (0, .inr (.inr a0)), (1, .inl a1), (2, .inl a2), (3, .inl a3)] 9 rfl (by decide) rfl dX12_line_193 ?_
                          refine g_goto C 62 (by decide) dX12_line_196 ?_
                          refine GW.sub [6, 7, 8, 9, 3, 2, 1, 0] rfl ?_
                          exact ih68 _ (by omega) (x62 + 0) (w32 (x63 + 1)) (x64 + 0) (x65 + 1) h330 rfl O333 ((((((F71.call F219 rfl).call F226 rfl).call F235 rfl).call F242 rfl).call F298 rfl).call F334 rfl) f303 f328 f339 (iw f340 (by decide) (by decide))
                        · have f341 : (1 : Int) ≤ r329 ∧ r329 ≤ (1 : Int) := r_nl f335 q337
                          refine g_iload C 3 rfl dX12_line_178 ?_
                          refine g_iload C 2 rfl dX12_line_180 ?_
                          refine g_icmp_ne C f220 f236 189 (by decide) dX12_line_182 (fun q342 => ?_) (fun q343 => ?_)
                          · refine g_iconst C dX12_line_189 ?_
                            have f344 : (-2147483648 : Int) ≤ (x64 + 0) ∧ (x64 + 0) ≤ (2147483647 : Int) := ia_add f74 (il 0) (by decide) (by decide)
                            refine g_iadd C dX12_line_190 ?_
                            refine g_istore C [(6, .inl (x64 + 0)), (5, .inl (w32 (x63 + 1))), (4, .inl (x62 + 0)), (9, .inl r230), (8, .inl r214), (0, .inr (.inr a0)), (1, .inl a1), (2, .inl a2), (3, .inl a3), (7, .inl x65)] (by decide) rfl dX12_line_191 ?_
                            have f345 : (1 : Int) ≤ (x65 + 1) ∧ (x65 + 1) ≤ (16 : Int) := ia_add f201 (il 1) (by decide) (by decide)
                            refine g_iinc C [(7, .inl (x65 + 1)), (6, .inl (x64 + 0)), (5, .inl (w32 (x63 + 1))), (4, .inl (x62 + 0)), (9, .inl r230), (8, .inl r214), (0, .inr (.inr a0)), (1, .inl a1), (2, .inl a2), (3, .inl a3)] 9 rfl (by decide) rfl dX12_line_193 ?_
                            refine g_goto C 62 (by decide) dX12_line_196 ?_
                            refine GW.sub [6, 7, 8, 9, 3, 2, 1, 0] rfl ?_
                            exact ih68 _ (by omega) (x62 + 0) (w32 (x63 + 1)) (x64 + 0) (x65 + 1) h330 rfl O333 ((((((F71.call F219 rfl).call F226 rfl).call F235 rfl).call F242 rfl).call F298 rfl).call F334 rfl) f303 f328 f344 (iw f345 (by decide) (by decide))
                          · refine g_iconst C dX12_line_185 ?_
                            refine g_goto C 190 (by decide) dX12_line_186 ?_
                            have f346 : (-2147483648 : Int) ≤ (w32 (x64 + 1)) ∧ (w32 (x64 + 1)) ≤ (2147483647 : Int) := w32_inR _
                            refine g_iaddW C dX12_line_190 ?_
                            refine g_istore C [(6, .inl (w32 (x64 + 1))), (5, .inl (w32 (x63 + 1))), (4, .inl (x62 + 0)), (9, .inl r230), (8, .inl r214), (0, .inr (.inr a0)), (1, .inl a1), (2, .inl a2), (3, .inl a3), (7, .inl x65)] (by decide) rfl dX12_line_191 ?_
                            have f347 : (1 : Int) ≤ (x65 + 1) ∧ (x65 + 1) ≤ (16 : Int) := ia_add f201 (il 1) (by decide) (by decide)
                            refine g_iinc C [(7, .inl (x65 + 1)), (6, .inl (w32 (x64 + 1))), (5, .inl (w32 (x63 + 1))), (4, .inl (x62 + 0)), (9, .inl r230), (8, .inl r214), (0, .inr (.inr a0)), (1, .inl a1), (2, .inl a2), (3, .inl a3)] 9 rfl (by decide) rfl dX12_line_193 ?_
                            refine g_goto C 62 (by decide) dX12_line_196 ?_
                            refine GW.sub [6, 7, 8, 9, 3, 2, 1, 0] rfl ?_
                            exact ih68 _ (by omega) (x62 + 0) (w32 (x63 + 1)) (w32 (x64 + 1)) (x65 + 1) h330 rfl O333 ((((((F71.call F219 rfl).call F226 rfl).call F235 rfl).call F242 rfl).call F298 rfl).call F334 rfl) f303 f328 f346 (iw f347 (by decide) (by decide))
                    · have f348 : (1 : Int) ≤ r293 ∧ r293 ≤ (1 : Int) := r_nl f299 q301
                      refine g_iload C 1 rfl dX12_line_135 ?_
                      refine g_iload C 0 rfl dX12_line_137 ?_
                      refine g_icmp_eq C f220 f236 146 (by decide) dX12_line_139 (fun q349 => ?_) (fun q350 => ?_)
                      · refine g_iconst C dX12_line_146 ?_
                        have f351 : (-2147483648 : Int) ≤ (x62 + 0) ∧ (x62 + 0) ≤ (2147483647 : Int) := ia_add f72 (il 0) (by decide) (by decide)
                        refine g_iadd C dX12_line_147 ?_
                        refine g_istore C [(4, .inl (x62 + 0)), (9, .inl r230), (8, .inl r214), (0, .inr (.inr a0)), (1, .inl a1), (2, .inl a2), (3, .inl a3), (5, .inl x63), (6, .inl x64), (7, .inl x65)] (by decide) rfl dX12_line_148 ?_
                        refine g_iload C 7 rfl dX12_line_150 ?_
                        refine g_iload C 2 rfl dX12_line_152 ?_
                        refine g_iload C 1 rfl dX12_line_154 ?_
                        refine g_iand C dX12_line_156 ?_
                        have f352 : (-2147483648 : Int) ≤ (bAnd r214 r230) ∧ (bAnd r214 r230) ≤ (2147483647 : Int) := inR_of _
                        refine g_if_ne C f352 164 (by decide) dX12_line_157 (fun q353 => ?_) (fun q354 => ?_)
                        · refine g_iconst C dX12_line_164 ?_
                          have f355 : (-2147483648 : Int) ≤ (x63 + 0) ∧ (x63 + 0) ≤ (2147483647 : Int) := ia_add f73 (il 0) (by decide) (by decide)
                          refine g_iadd C dX12_line_165 ?_
                          refine g_istore C [(5, .inl (x63 + 0)), (4, .inl (x62 + 0)), (9, .inl r230), (8, .inl r214), (0, .inr (.inr a0)), (1, .inl a1), (2, .inl a2), (3, .inl a3), (6, .inl x64), (7, .inl x65)] (by decide) rfl dX12_line_166 ?_
                          refine g_iload C 8 rfl dX12_line_168 ?_
                          refine g_iload C 3 rfl dX12_line_170 ?_
                          refine g_callI (st := [.inl x64]) (gc_S C lk_LandSurveyModel_578 (k_X12_isOne l D cy w z0 O297 f220) rfl ⟨by decide, by decide⟩ (Nat.le_of_ble_eq_true rfl) dX12_line_172 ⟨(by decide), (by decide)⟩) (fun r356 h357 f359 K358 => ?_)
                          obtain ⟨O360, F361, f362⟩ := K358
                          refine g_if_eq C (iw f362 (by decide) (by decide)) 189 (by decide) dX12_line_175 (fun q363 => ?_) (fun q364 => ?_)
                          · have f365 : (0 : Int) ≤ r356 ∧ r356 ≤ (0 : Int) := ii f362 (r_eq (il 0) q363) (by decide) (by decide)
                            refine g_iconst C dX12_line_189 ?_
                            have f366 : (-2147483648 : Int) ≤ (x64 + 0) ∧ (x64 + 0) ≤ (2147483647 : Int) := ia_add f74 (il 0) (by decide) (by decide)
                            refine g_iadd C dX12_line_190 ?_
                            refine g_istore C [(6, .inl (x64 + 0)), (5, .inl (x63 + 0)), (4, .inl (x62 + 0)), (9, .inl r230), (8, .inl r214), (0, .inr (.inr a0)), (1, .inl a1), (2, .inl a2), (3, .inl a3), (7, .inl x65)] (by decide) rfl dX12_line_191 ?_
                            have f367 : (1 : Int) ≤ (x65 + 1) ∧ (x65 + 1) ≤ (16 : Int) := ia_add f201 (il 1) (by decide) (by decide)
                            refine g_iinc C [(7, .inl (x65 + 1)), (6, .inl (x64 + 0)), (5, .inl (x63 + 0)), (4, .inl (x62 + 0)), (9, .inl r230), (8, .inl r214), (0, .inr (.inr a0)), (1, .inl a1), (2, .inl a2), (3, .inl a3)] 9 rfl (by decide) rfl dX12_line_193 ?_
                            refine g_goto C 62 (by decide) dX12_line_196 ?_
                            refine GW.sub [6, 7, 8, 9, 3, 2, 1, 0] rfl ?_
                            exact ih68 _ (by omega) (x62 + 0) (x63 + 0) (x64 + 0) (x65 + 1) h357 rfl O360 ((((((F71.call F219 rfl).call F226 rfl).call F235 rfl).call F242 rfl).call F298 rfl).call F361 rfl) f351 f355 f366 (iw f367 (by decide) (by decide))
                          · have f368 : (1 : Int) ≤ r356 ∧ r356 ≤ (1 : Int) := r_nl f362 q364
                            refine g_iload C 3 rfl dX12_line_178 ?_
                            refine g_iload C 2 rfl dX12_line_180 ?_
                            refine g_icmp_ne C f220 f236 189 (by decide) dX12_line_182 (fun q369 => ?_) (fun q370 => ?_)
                            · refine g_iconst C dX12_line_189 ?_
                              have f371 : (-2147483648 : Int) ≤ (x64 + 0) ∧ (x64 + 0) ≤ (2147483647 : Int) := ia_add f74 (il 0) (by decide) (by decide)
                              refine g_iadd C dX12_line_190 ?_
                              refine g_istore C [(6, .inl (x64 + 0)), (5, .inl (x63 + 0)), (4, .inl (x62 + 0)), (9, .inl r230), (8, .inl r214), (0, .inr (.inr a0)), (1, .inl a1), (2, .inl a2), (3, .inl a3), (7, .inl x65)] (by decide) rfl dX12_line_191 ?_
                              have f372 : (1 : Int) ≤ (x65 + 1) ∧ (x65 + 1) ≤ (16 : Int) := ia_add f201 (il 1) (by decide) (by decide)
                              refine g_iinc C [(7, .inl (x65 + 1)), (6, .inl (x64 + 0)), (5, .inl (x63 + 0)), (4, .inl (x62 + 0)), (9, .inl r230), (8, .inl r214), (0, .inr (.inr a0)), (1, .inl a1), (2, .inl a2), (3, .inl a3)] 9 rfl (by decide) rfl dX12_line_193 ?_
                              refine g_goto C 62 (by decide) dX12_line_196 ?_
                              refine GW.sub [6, 7, 8, 9, 3, 2, 1, 0] rfl ?_
                              exact ih68 _ (by omega) (x62 + 0) (x63 + 0) (x64 + 0) (x65 + 1) h357 rfl O360 ((((((F71.call F219 rfl).call F226 rfl).call F235 rfl).call F242 rfl).call F298 rfl).call F361 rfl) f351 f355 f371 (iw f372 (by decide) (by decide))
                            · refine g_iconst C dX12_line_185 ?_
                              refine g_goto C 190 (by decide) dX12_line_186 ?_
                              have f373 : (-2147483648 : Int) ≤ (w32 (x64 + 1)) ∧ (w32 (x64 + 1)) ≤ (2147483647 : Int) := w32_inR _
                              refine g_iaddW C dX12_line_190 ?_
                              refine g_istore C [(6, .inl (w32 (x64 + 1))), (5, .inl (x63 + 0)), (4, .inl (x62 + 0)), (9, .inl r230), (8, .inl r214), (0, .inr (.inr a0)), (1, .inl a1), (2, .inl a2), (3, .inl a3), (7, .inl x65)] (by decide) rfl dX12_line_191 ?_
                              have f374 : (1 : Int) ≤ (x65 + 1) ∧ (x65 + 1) ≤ (16 : Int) := ia_add f201 (il 1) (by decide) (by decide)
                              refine g_iinc C [(7, .inl (x65 + 1)), (6, .inl (w32 (x64 + 1))), (5, .inl (x63 + 0)), (4, .inl (x62 + 0)), (9, .inl r230), (8, .inl r214), (0, .inr (.inr a0)), (1, .inl a1), (2, .inl a2), (3, .inl a3)] 9 rfl (by decide) rfl dX12_line_193 ?_
                              refine g_goto C 62 (by decide) dX12_line_196 ?_
                              refine GW.sub [6, 7, 8, 9, 3, 2, 1, 0] rfl ?_
                              exact ih68 _ (by omega) (x62 + 0) (x63 + 0) (w32 (x64 + 1)) (x65 + 1) h357 rfl O360 ((((((F71.call F219 rfl).call F226 rfl).call F235 rfl).call F242 rfl).call F298 rfl).call F361 rfl) f351 f355 f373 (iw f374 (by decide) (by decide))
                        · have f375 : (0 : Int) ≤ (bAnd r214 r230) ∧ (bAnd r214 r230) ≤ (0 : Int) := ii f352 (r_eq (il 0) q354) (by decide) (by decide)
                          refine g_iconst C dX12_line_160 ?_
                          refine g_goto C 165 (by decide) dX12_line_161 ?_
                          have f376 : (-2147483648 : Int) ≤ (w32 (x63 + 1)) ∧ (w32 (x63 + 1)) ≤ (2147483647 : Int) := w32_inR _
                          refine g_iaddW C dX12_line_165 ?_
                          refine g_istore C [(5, .inl (w32 (x63 + 1))), (4, .inl (x62 + 0)), (9, .inl r230), (8, .inl r214), (0, .inr (.inr a0)), (1, .inl a1), (2, .inl a2), (3, .inl a3), (6, .inl x64), (7, .inl x65)] (by decide) rfl dX12_line_166 ?_
                          refine g_iload C 8 rfl dX12_line_168 ?_
                          refine g_iload C 3 rfl dX12_line_170 ?_
                          refine g_callI (st := [.inl x64]) (gc_S C lk_LandSurveyModel_578 (k_X12_isOne l D cy w z0 O297 f220) rfl ⟨by decide, by decide⟩ (Nat.le_of_ble_eq_true rfl) dX12_line_172 ⟨(by decide), (by decide)⟩) (fun r377 h378 f380 K379 => ?_)
                          obtain ⟨O381, F382, f383⟩ := K379
                          refine g_if_eq C (iw f383 (by decide) (by decide)) 189 (by decide) dX12_line_175 (fun q384 => ?_) (fun q385 => ?_)
                          · have f386 : (0 : Int) ≤ r377 ∧ r377 ≤ (0 : Int) := ii f383 (r_eq (il 0) q384) (by decide) (by decide)
                            refine g_iconst C dX12_line_189 ?_
                            have f387 : (-2147483648 : Int) ≤ (x64 + 0) ∧ (x64 + 0) ≤ (2147483647 : Int) := ia_add f74 (il 0) (by decide) (by decide)
                            refine g_iadd C dX12_line_190 ?_
                            refine g_istore C [(6, .inl (x64 + 0)), (5, .inl (w32 (x63 + 1))), (4, .inl (x62 + 0)), (9, .inl r230), (8, .inl r214), (0, .inr (.inr a0)), (1, .inl a1), (2, .inl a2), (3, .inl a3), (7, .inl x65)] (by decide) rfl dX12_line_191 ?_
                            have f388 : (1 : Int) ≤ (x65 + 1) ∧ (x65 + 1) ≤ (16 : Int) := ia_add f201 (il 1) (by decide) (by decide)
                            refine g_iinc C [(7, .inl (x65 + 1)), (6, .inl (x64 + 0)), (5, .inl (w32 (x63 + 1))), (4, .inl (x62 + 0)), (9, .inl r230), (8, .inl r214), (0, .inr (.inr a0)), (1, .inl a1), (2, .inl a2), (3, .inl a3)] 9 rfl (by decide) rfl dX12_line_193 ?_
                            refine g_goto C 62 (by decide) dX12_line_196 ?_
                            refine GW.sub [6, 7, 8, 9, 3, 2, 1, 0] rfl ?_
                            exact ih68 _ (by omega) (x62 + 0) (w32 (x63 + 1)) (x64 + 0) (x65 + 1) h378 rfl O381 ((((((F71.call F219 rfl).call F226 rfl).call F235 rfl).call F242 rfl).call F298 rfl).call F382 rfl) f351 f376 f387 (iw f388 (by decide) (by decide))
                          · have f389 : (1 : Int) ≤ r377 ∧ r377 ≤ (1 : Int) := r_nl f383 q385
                            refine g_iload C 3 rfl dX12_line_178 ?_
                            refine g_iload C 2 rfl dX12_line_180 ?_
                            refine g_icmp_ne C f220 f236 189 (by decide) dX12_line_182 (fun q390 => ?_) (fun q391 => ?_)
                            · refine g_iconst C dX12_line_189 ?_
                              have f392 : (-2147483648 : Int) ≤ (x64 + 0) ∧ (x64 + 0) ≤ (2147483647 : Int) := ia_add f74 (il 0) (by decide) (by decide)
                              refine g_iadd C dX12_line_190 ?_
                              refine g_istore C [(6, .inl (x64 + 0)), (5, .inl (w32 (x63 + 1))), (4, .inl (x62 + 0)), (9, .inl r230), (8, .inl r214), (0, .inr (.inr a0)), (1, .inl a1), (2, .inl a2), (3, .inl a3), (7, .inl x65)] (by decide) rfl dX12_line_191 ?_
                              have f393 : (1 : Int) ≤ (x65 + 1) ∧ (x65 + 1) ≤ (16 : Int) := ia_add f201 (il 1) (by decide) (by decide)
                              refine g_iinc C [(7, .inl (x65 + 1)), (6, .inl (x64 + 0)), (5, .inl (w32 (x63 + 1))), (4, .inl (x62 + 0)), (9, .inl r230), (8, .inl r214), (0, .inr (.inr a0)), (1, .inl a1), (2, .inl a2), (3, .inl a3)] 9 rfl (by decide) rfl dX12_line_193 ?_
                              refine g_goto C 62 (by decide) dX12_line_196 ?_
                              refine GW.sub [6, 7, 8, 9, 3, 2, 1, 0] rfl ?_
                              exact ih68 _ (by omega) (x62 + 0) (w32 (x63 + 1)) (x64 + 0) (x65 + 1) h378 rfl O381 ((((((F71.call F219 rfl).call F226 rfl).call F235 rfl).call F242 rfl).call F298 rfl).call F382 rfl) f351 f376 f392 (iw f393 (by decide) (by decide))
                            · refine g_iconst C dX12_line_185 ?_
                              refine g_goto C 190 (by decide) dX12_line_186 ?_
                              have f394 : (-2147483648 : Int) ≤ (w32 (x64 + 1)) ∧ (w32 (x64 + 1)) ≤ (2147483647 : Int) := w32_inR _
                              refine g_iaddW C dX12_line_190 ?_
                              refine g_istore C [(6, .inl (w32 (x64 + 1))), (5, .inl (w32 (x63 + 1))), (4, .inl (x62 + 0)), (9, .inl r230), (8, .inl r214), (0, .inr (.inr a0)), (1, .inl a1), (2, .inl a2), (3, .inl a3), (7, .inl x65)] (by decide) rfl dX12_line_191 ?_
                              have f395 : (1 : Int) ≤ (x65 + 1) ∧ (x65 + 1) ≤ (16 : Int) := ia_add f201 (il 1) (by decide) (by decide)
                              refine g_iinc C [(7, .inl (x65 + 1)), (6, .inl (w32 (x64 + 1))), (5, .inl (w32 (x63 + 1))), (4, .inl (x62 + 0)), (9, .inl r230), (8, .inl r214), (0, .inr (.inr a0)), (1, .inl a1), (2, .inl a2), (3, .inl a3)] 9 rfl (by decide) rfl dX12_line_193 ?_
                              refine g_goto C 62 (by decide) dX12_line_196 ?_
                              refine GW.sub [6, 7, 8, 9, 3, 2, 1, 0] rfl ?_
                              exact ih68 _ (by omega) (x62 + 0) (w32 (x63 + 1)) (w32 (x64 + 1)) (x65 + 1) h378 rfl O381 ((((((F71.call F219 rfl).call F226 rfl).call F235 rfl).call F242 rfl).call F298 rfl).call F382 rfl) f351 f376 f394 (iw f395 (by decide) (by decide))
                      · refine g_iconst C dX12_line_142 ?_
                        refine g_goto C 147 (by decide) dX12_line_143 ?_
                        have f396 : (-2147483648 : Int) ≤ (w32 (x62 + 1)) ∧ (w32 (x62 + 1)) ≤ (2147483647 : Int) := w32_inR _
                        refine g_iaddW C dX12_line_147 ?_
                        refine g_istore C [(4, .inl (w32 (x62 + 1))), (9, .inl r230), (8, .inl r214), (0, .inr (.inr a0)), (1, .inl a1), (2, .inl a2), (3, .inl a3), (5, .inl x63), (6, .inl x64), (7, .inl x65)] (by decide) rfl dX12_line_148 ?_
                        refine g_iload C 7 rfl dX12_line_150 ?_
                        refine g_iload C 2 rfl dX12_line_152 ?_
                        refine g_iload C 1 rfl dX12_line_154 ?_
                        refine g_iand C dX12_line_156 ?_
                        have f397 : (-2147483648 : Int) ≤ (bAnd r214 r230) ∧ (bAnd r214 r230) ≤ (2147483647 : Int) := inR_of _
                        refine g_if_ne C f397 164 (by decide) dX12_line_157 (fun q398 => ?_) (fun q399 => ?_)
                        · refine g_iconst C dX12_line_164 ?_
                          have f400 : (-2147483648 : Int) ≤ (x63 + 0) ∧ (x63 + 0) ≤ (2147483647 : Int) := ia_add f73 (il 0) (by decide) (by decide)
                          refine g_iadd C dX12_line_165 ?_
                          refine g_istore C [(5, .inl (x63 + 0)), (4, .inl (w32 (x62 + 1))), (9, .inl r230), (8, .inl r214), (0, .inr (.inr a0)), (1, .inl a1), (2, .inl a2), (3, .inl a3), (6, .inl x64), (7, .inl x65)] (by decide) rfl dX12_line_166 ?_
                          refine g_iload C 8 rfl dX12_line_168 ?_
                          refine g_iload C 3 rfl dX12_line_170 ?_
                          refine g_callI (st := [.inl x64]) (gc_S C lk_LandSurveyModel_578 (k_X12_isOne l D cy w z0 O297 f220) rfl ⟨by decide, by decide⟩ (Nat.le_of_ble_eq_true rfl) dX12_line_172 ⟨(by decide), (by decide)⟩) (fun r401 h402 f404 K403 => ?_)
                          obtain ⟨O405, F406, f407⟩ := K403
                          refine g_if_eq C (iw f407 (by decide) (by decide)) 189 (by decide) dX12_line_175 (fun q408 => ?_) (fun q409 => ?_)
                          · have f410 : (0 : Int) ≤ r401 ∧ r401 ≤ (0 : Int) := ii f407 (r_eq (il 0) q408) (by decide) (by decide)
                            refine g_iconst C dX12_line_189 ?_
                            have f411 : (-2147483648 : Int) ≤ (x64 + 0) ∧ (x64 + 0) ≤ (2147483647 : Int) := ia_add f74 (il 0) (by decide) (by decide)
                            refine g_iadd C dX12_line_190 ?_
                            refine g_istore C [(6, .inl (x64 + 0)), (5, .inl (x63 + 0)), (4, .inl (w32 (x62 + 1))), (9, .inl r230), (8, .inl r214), (0, .inr (.inr a0)), (1, .inl a1), (2, .inl a2), (3, .inl a3), (7, .inl x65)] (by decide) rfl dX12_line_191 ?_
                            have f412 : (1 : Int) ≤ (x65 + 1) ∧ (x65 + 1) ≤ (16 : Int) := ia_add f201 (il 1) (by decide) (by decide)
                            refine g_iinc C [(7, .inl (x65 + 1)), (6, .inl (x64 + 0)), (5, .inl (x63 + 0)), (4, .inl (w32 (x62 + 1))), (9, .inl r230), (8, .inl r214), (0, .inr (.inr a0)), (1, .inl a1), (2, .inl a2), (3, .inl a3)] 9 rfl (by decide) rfl dX12_line_193 ?_
                            refine g_goto C 62 (by decide) dX12_line_196 ?_
                            refine GW.sub [6, 7, 8, 9, 3, 2, 1, 0] rfl ?_
                            exact ih68 _ (by omega) (w32 (x62 + 1)) (x63 + 0) (x64 + 0) (x65 + 1) h402 rfl O405 ((((((F71.call F219 rfl).call F226 rfl).call F235 rfl).call F242 rfl).call F298 rfl).call F406 rfl) f396 f400 f411 (iw f412 (by decide) (by decide))
                          · have f413 : (1 : Int) ≤ r401 ∧ r401 ≤ (1 : Int) := r_nl f407 q409
                            refine g_iload C 3 rfl dX12_line_178 ?_
                            refine g_iload C 2 rfl dX12_line_180 ?_
                            refine g_icmp_ne C f220 f236 189 (by decide) dX12_line_182 (fun q414 => ?_) (fun q415 => ?_)
                            · refine g_iconst C dX12_line_189 ?_
                              have f416 : (-2147483648 : Int) ≤ (x64 + 0) ∧ (x64 + 0) ≤ (2147483647 : Int) := ia_add f74 (il 0) (by decide) (by decide)
                              refine g_iadd C dX12_line_190 ?_
                              refine g_istore C [(6, .inl (x64 + 0)), (5, .inl (x63 + 0)), (4, .inl (w32 (x62 + 1))), (9, .inl r230), (8, .inl r214), (0, .inr (.inr a0)), (1, .inl a1), (2, .inl a2), (3, .inl a3), (7, .inl x65)] (by decide) rfl dX12_line_191 ?_
                              have f417 : (1 : Int) ≤ (x65 + 1) ∧ (x65 + 1) ≤ (16 : Int) := ia_add f201 (il 1) (by decide) (by decide)
                              refine g_iinc C [(7, .inl (x65 + 1)), (6, .inl (x64 + 0)), (5, .inl (x63 + 0)), (4, .inl (w32 (x62 + 1))), (9, .inl r230), (8, .inl r214), (0, .inr (.inr a0)), (1, .inl a1), (2, .inl a2), (3, .inl a3)] 9 rfl (by decide) rfl dX12_line_193 ?_
                              refine g_goto C 62 (by decide) dX12_line_196 ?_
                              refine GW.sub [6, 7, 8, 9, 3, 2, 1, 0] rfl ?_
                              exact ih68 _ (by omega) (w32 (x62 + 1)) (x63 + 0) (x64 + 0) (x65 + 1) h402 rfl O405 ((((((F71.call F219 rfl).call F226 rfl).call F235 rfl).call F242 rfl).call F298 rfl).call F406 rfl) f396 f400 f416 (iw f417 (by decide) (by decide))
                            · refine g_iconst C dX12_line_185 ?_
                              refine g_goto C 190 (by decide) dX12_line_186 ?_
                              have f418 : (-2147483648 : Int) ≤ (w32 (x64 + 1)) ∧ (w32 (x64 + 1)) ≤ (2147483647 : Int) := w32_inR _
                              refine g_iaddW C dX12_line_190 ?_
                              refine g_istore C [(6, .inl (w32 (x64 + 1))), (5, .inl (x63 + 0)), (4, .inl (w32 (x62 + 1))), (9, .inl r230), (8, .inl r214), (0, .inr (.inr a0)), (1, .inl a1), (2, .inl a2), (3, .inl a3), (7, .inl x65)] (by decide) rfl dX12_line_191 ?_
                              have f419 : (1 : Int) ≤ (x65 + 1) ∧ (x65 + 1) ≤ (16 : Int) := ia_add f201 (il 1) (by decide) (by decide)
                              refine g_iinc C [(7, .inl (x65 + 1)), (6, .inl (w32 (x64 + 1))), (5, .inl (x63 + 0)), (4, .inl (w32 (x62 + 1))), (9, .inl r230), (8, .inl r214), (0, .inr (.inr a0)), (1, .inl a1), (2, .inl a2), (3, .inl a3)] 9 rfl (by decide) rfl dX12_line_193 ?_
                              refine g_goto C 62 (by decide) dX12_line_196 ?_
                              refine GW.sub [6, 7, 8, 9, 3, 2, 1, 0] rfl ?_
                              exact ih68 _ (by omega) (w32 (x62 + 1)) (x63 + 0) (w32 (x64 + 1)) (x65 + 1) h402 rfl O405 ((((((F71.call F219 rfl).call F226 rfl).call F235 rfl).call F242 rfl).call F298 rfl).call F406 rfl) f396 f400 f418 (iw f419 (by decide) (by decide))
                        · have f420 : (0 : Int) ≤ (bAnd r214 r230) ∧ (bAnd r214 r230) ≤ (0 : Int) := ii f397 (r_eq (il 0) q399) (by decide) (by decide)
                          refine g_iconst C dX12_line_160 ?_
                          refine g_goto C 165 (by decide) dX12_line_161 ?_
                          have f421 : (-2147483648 : Int) ≤ (w32 (x63 + 1)) ∧ (w32 (x63 + 1)) ≤ (2147483647 : Int) := w32_inR _
                          refine g_iaddW C dX12_line_165 ?_
                          refine g_istore C [(5, .inl (w32 (x63 + 1))), (4, .inl (w32 (x62 + 1))), (9, .inl r230), (8, .inl r214), (0, .inr (.inr a0)), (1, .inl a1), (2, .inl a2), (3, .inl a3), (6, .inl x64), (7, .inl x65)] (by decide) rfl dX12_line_166 ?_
                          refine g_iload C 8 rfl dX12_line_168 ?_
                          refine g_iload C 3 rfl dX12_line_170 ?_
                          refine g_callI (st := [.inl x64]) (gc_S C lk_LandSurveyModel_578 (k_X12_isOne l D cy w z0 O297 f220) rfl ⟨by decide, by decide⟩ (Nat.le_of_ble_eq_true rfl) dX12_line_172 ⟨(by decide), (by decide)⟩) (fun r422 h423 f425 K424 => ?_)
                          obtain ⟨O426, F427, f428⟩ := K424
                          refine g_if_eq C (iw f428 (by decide) (by decide)) 189 (by decide) dX12_line_175 (fun q429 => ?_) (fun q430 => ?_)
                          · have f431 : (0 : Int) ≤ r422 ∧ r422 ≤ (0 : Int) := ii f428 (r_eq (il 0) q429) (by decide) (by decide)
                            refine g_iconst C dX12_line_189 ?_
                            have f432 : (-2147483648 : Int) ≤ (x64 + 0) ∧ (x64 + 0) ≤ (2147483647 : Int) := ia_add f74 (il 0) (by decide) (by decide)
                            refine g_iadd C dX12_line_190 ?_
                            refine g_istore C [(6, .inl (x64 + 0)), (5, .inl (w32 (x63 + 1))), (4, .inl (w32 (x62 + 1))), (9, .inl r230), (8, .inl r214), (0, .inr (.inr a0)), (1, .inl a1), (2, .inl a2), (3, .inl a3), (7, .inl x65)] (by decide) rfl dX12_line_191 ?_
                            have f433 : (1 : Int) ≤ (x65 + 1) ∧ (x65 + 1) ≤ (16 : Int) := ia_add f201 (il 1) (by decide) (by decide)
                            refine g_iinc C [(7, .inl (x65 + 1)), (6, .inl (x64 + 0)), (5, .inl (w32 (x63 + 1))), (4, .inl (w32 (x62 + 1))), (9, .inl r230), (8, .inl r214), (0, .inr (.inr a0)), (1, .inl a1), (2, .inl a2), (3, .inl a3)] 9 rfl (by decide) rfl dX12_line_193 ?_
                            refine g_goto C 62 (by decide) dX12_line_196 ?_
                            refine GW.sub [6, 7, 8, 9, 3, 2, 1, 0] rfl ?_
                            exact ih68 _ (by omega) (w32 (x62 + 1)) (w32 (x63 + 1)) (x64 + 0) (x65 + 1) h423 rfl O426 ((((((F71.call F219 rfl).call F226 rfl).call F235 rfl).call F242 rfl).call F298 rfl).call F427 rfl) f396 f421 f432 (iw f433 (by decide) (by decide))
                          · have f434 : (1 : Int) ≤ r422 ∧ r422 ≤ (1 : Int) := r_nl f428 q430
                            refine g_iload C 3 rfl dX12_line_178 ?_
                            refine g_iload C 2 rfl dX12_line_180 ?_
                            refine g_icmp_ne C f220 f236 189 (by decide) dX12_line_182 (fun q435 => ?_) (fun q436 => ?_)
                            · refine g_iconst C dX12_line_189 ?_
                              have f437 : (-2147483648 : Int) ≤ (x64 + 0) ∧ (x64 + 0) ≤ (2147483647 : Int) := ia_add f74 (il 0) (by decide) (by decide)
                              refine g_iadd C dX12_line_190 ?_
                              refine g_istore C [(6, .inl (x64 + 0)), (5, .inl (w32 (x63 + 1))), (4, .inl (w32 (x62 + 1))), (9, .inl r230), (8, .inl r214), (0, .inr (.inr a0)), (1, .inl a1), (2, .inl a2), (3, .inl a3), (7, .inl x65)] (by decide) rfl dX12_line_191 ?_
                              have f438 : (1 : Int) ≤ (x65 + 1) ∧ (x65 + 1) ≤ (16 : Int) := ia_add f201 (il 1) (by decide) (by decide)
                              refine g_iinc C [(7, .inl (x65 + 1)), (6, .inl (x64 + 0)), (5, .inl (w32 (x63 + 1))), (4, .inl (w32 (x62 + 1))), (9, .inl r230), (8, .inl r214), (0, .inr (.inr a0)), (1, .inl a1), (2, .inl a2), (3, .inl a3)] 9 rfl (by decide) rfl dX12_line_193 ?_
                              refine g_goto C 62 (by decide) dX12_line_196 ?_
                              refine GW.sub [6, 7, 8, 9, 3, 2, 1, 0] rfl ?_
                              exact ih68 _ (by omega) (w32 (x62 + 1)) (w32 (x63 + 1)) (x64 + 0) (x65 + 1) h423 rfl O426 ((((((F71.call F219 rfl).call F226 rfl).call F235 rfl).call F242 rfl).call F298 rfl).call F427 rfl) f396 f421 f437 (iw f438 (by decide) (by decide))
                            · refine g_iconst C dX12_line_185 ?_
                              refine g_goto C 190 (by decide) dX12_line_186 ?_
                              have f439 : (-2147483648 : Int) ≤ (w32 (x64 + 1)) ∧ (w32 (x64 + 1)) ≤ (2147483647 : Int) := w32_inR _
                              refine g_iaddW C dX12_line_190 ?_
                              refine g_istore C [(6, .inl (w32 (x64 + 1))), (5, .inl (w32 (x63 + 1))), (4, .inl (w32 (x62 + 1))), (9, .inl r230), (8, .inl r214), (0, .inr (.inr a0)), (1, .inl a1), (2, .inl a2), (3, .inl a3), (7, .inl x65)] (by decide) rfl dX12_line_191 ?_
                              have f440 : (1 : Int) ≤ (x65 + 1) ∧ (x65 + 1) ≤ (16 : Int) := ia_add f201 (il 1) (by decide) (by decide)
                              refine g_iinc C [(7, .inl (x65 + 1)), (6, .inl (w32 (x64 + 1))), (5, .inl (w32 (x63 + 1))), (4, .inl (w32 (x62 + 1))), (9, .inl r230), (8, .inl r214), (0, .inr (.inr a0)), (1, .inl a1), (2, .inl a2), (3, .inl a3)] 9 rfl (by decide) rfl dX12_line_193 ?_
                              refine g_goto C 62 (by decide) dX12_line_196 ?_
                              refine GW.sub [6, 7, 8, 9, 3, 2, 1, 0] rfl ?_
                              exact ih68 _ (by omega) (w32 (x62 + 1)) (w32 (x63 + 1)) (w32 (x64 + 1)) (x65 + 1) h423 rfl O426 ((((((F71.call F219 rfl).call F226 rfl).call F235 rfl).call F242 rfl).call F298 rfl).call F427 rfl) f396 f421 f439 (iw f440 (by decide) (by decide))
          exact L67 _ 0 0 0 0 h50 rfl O53 Fx.rf (iw (il 0) (by decide) (by decide)) (iw (il 0) (by decide) (by decide)) (iw (il 0) (by decide) (by decide)) (iw (il 0) (by decide) (by decide))
        · have f441 : (0 : Int) ≤ v56 ∧ v56 ≤ (0 : Int) := ii f58 (r_eq (il 0) q60) (by decide) (by decide)
          refine g_iconst C dX12_line_48 ?_
          exact g_iret C hr rfl (iw (il (-1)) (by decide) (by decide)) ⟨O53, ((((((Fx.rf (wr := wr_k_X12_line)).pI ta0 hh1 rfl).call F9 rfl).call F23 rfl).call F38 rfl).call F54 rfl), (iw (il (-1)) (by decide) (by decide))⟩ (by decide) (by decide) dX12_line_49
      · have f442 : (-1 : Int) ≤ r33 ∧ r33 ≤ (-1 : Int) := r_lt f39 (il 0) q42 (by decide) (by decide)
        refine g_iconst C dX12_line_35 ?_
        exact g_iret C hr rfl (iw (il (-1)) (by decide) (by decide)) ⟨O37, (((((Fx.rf (wr := wr_k_X12_line)).pI ta0 hh1 rfl).call F9 rfl).call F23 rfl).call F38 rfl), (iw (il (-1)) (by decide) (by decide))⟩ (by decide) (by decide) dX12_line_36
