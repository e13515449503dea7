abbrev cX12_viewDay : ByteArray := prog_14_method_40_code
def yX12_viewDay : MethodName := ⟨RX12, "viewDay", "()I"⟩
theorem okX12_viewDay : yok yX12_viewDay 0 := by decide +kernel
abbrev cX12_bookNow : ByteArray := prog_14_method_49_code
def yX12_bookNow : MethodName := ⟨RX12, "bookNow", "()I"⟩
theorem okX12_bookNow : yok yX12_bookNow 0 := by decide +kernel
abbrev cX12_rocksNow : ByteArray := prog_14_method_50_code
def yX12_rocksNow : MethodName := ⟨RX12, "rocksNow", "()I"⟩
theorem okX12_rocksNow : yok yX12_rocksNow 0 := by decide +kernel
abbrev cX12_breakOn : ByteArray := prog_14_method_69_code
def yX12_breakOn : MethodName := ⟨RX12, "breakOn", "(II)I"⟩
theorem okX12_breakOn : yok yX12_breakOn 2 := by decide +kernel
abbrev cX12_breaksCost : ByteArray := prog_14_method_77_code
def yX12_breaksCost : MethodName := ⟨RX12, "breaksCost", "(I)I"⟩
theorem okX12_breaksCost : yok yX12_breaksCost 1 := by decide +kernel
abbrev cX12_costOf : ByteArray := prog_14_method_76_code
def yX12_costOf : MethodName := ⟨RX12, "costOf", "(J)I"⟩
theorem okX12_costOf : yok yX12_costOf 1 := by decide +kernel
abbrev cX12_lineOf : ByteArray := prog_14_method_52_code
def yX12_lineOf : MethodName := ⟨RX12, "lineOf", "(I)I"⟩
theorem okX12_lineOf : yok yX12_lineOf 1 := by decide +kernel
abbrev cX12_bound : ByteArray := prog_14_method_66_code
def yX12_bound : MethodName := ⟨RX12, "bound", "(IIII)V"⟩
theorem okX12_bound : yok yX12_bound 4 := by decide +kernel
abbrev cX12_span : ByteArray := prog_14_method_67_code
def yX12_span : MethodName := ⟨RX12, "span", "(IIIII)V"⟩
theorem okX12_span : yok yX12_span 5 := by decide +kernel
abbrev cX12_sideBounds : ByteArray := prog_14_method_72_code
def yX12_sideBounds : MethodName := ⟨RX12, "sideBounds", "(IIIIJ)V"⟩
theorem okX12_sideBounds : yok yX12_sideBounds 5 := by decide +kernel
abbrev cX12_findBounds : ByteArray := prog_14_method_73_code
def yX12_findBounds : MethodName := ⟨RX12, "findBounds", "(IJZ)V"⟩
theorem okX12_findBounds : yok yX12_findBounds 3 := by decide +kernel
abbrev cX12_goesTogether : ByteArray := prog_14_method_74_code
def yX12_goesTogether : MethodName := ⟨RX12, "goesTogether", "()Z"⟩
theorem okX12_goesTogether : yok yX12_goesTogether 0 := by decide +kernel
abbrev cX12_seeks : ByteArray := prog_14_method_78_code
def yX12_seeks : MethodName := ⟨RX12, "seeks", "(IJI)V"⟩
theorem okX12_seeks : yok yX12_seeks 3 := by decide +kernel
theorem kw_1520 : Cond.fieldLink "LandSurveyModel" 339 "LandSurveyModel" "books" "I" ∈ uu := uu_in (i := 1520) (by decide +kernel) (by decide +kernel)
theorem kw_1957 : Cond.code yX12_bookNow prog_14_method_49_code 3 (some .int) ∈ uu := uu_in (i := 1957) (by decide +kernel) (by decide +kernel)
theorem kw_1954 : Cond.methodLink "LandSurveyModel" 432 yX12_bookNow ∈ uu := uu_in (i := 1954) (by decide +kernel) (by decide +kernel)
theorem kw_1956 : Cond.instanceMethod yX12_bookNow ∈ uu := uu_in (i := 1956) (by decide +kernel) (by decide +kernel)
theorem kw_91 : Cond.selects "LandSurveyModel" yX12_bookNow yX12_bookNow ∈ uu := uu_in (i := 91) (by decide +kernel) (by decide +kernel)
theorem kw_1567 : Cond.fieldLink "LandSurveyModel" 477 "LandSurveyModel" "breaks" "I" ∈ uu := uu_in (i := 1567) (by decide +kernel) (by decide +kernel)
theorem kw_1573 : Cond.fieldLink "LandSurveyModel" 233 "LandSurveyModel" "boundFrom" "[I" ∈ uu := uu_in (i := 1573) (by decide +kernel) (by decide +kernel)
theorem kw_1572 : Cond.fieldLink "LandSurveyModel" 480 "LandSurveyModel" "bounds" "I" ∈ uu := uu_in (i := 1572) (by decide +kernel) (by decide +kernel)
theorem kw_1574 : Cond.fieldLink "LandSurveyModel" 236 "LandSurveyModel" "boundTo" "[I" ∈ uu := uu_in (i := 1574) (by decide +kernel) (by decide +kernel)
theorem kw_1575 : Cond.fieldLink "LandSurveyModel" 239 "LandSurveyModel" "boundBy" "[I" ∈ uu := uu_in (i := 1575) (by decide +kernel) (by decide +kernel)
theorem kw_1576 : Cond.fieldLink "LandSurveyModel" 242 "LandSurveyModel" "boundSight" "[I" ∈ uu := uu_in (i := 1576) (by decide +kernel) (by decide +kernel)
theorem kw_2055 : Cond.code yX12_bound prog_14_method_66_code 5 none ∈ uu := uu_in (i := 2055) (by decide +kernel) (by decide +kernel)
theorem kw_2052 : Cond.methodLink "LandSurveyModel" 483 yX12_bound ∈ uu := uu_in (i := 2052) (by decide +kernel) (by decide +kernel)
theorem kw_2054 : Cond.instanceMethod yX12_bound ∈ uu := uu_in (i := 2054) (by decide +kernel) (by decide +kernel)
theorem kw_114 : Cond.selects "LandSurveyModel" yX12_bound yX12_bound ∈ uu := uu_in (i := 114) (by decide +kernel) (by decide +kernel)
theorem kw_2047 : Cond.code yX12_breakOn prog_14_method_69_code 4 (some .int) ∈ uu := uu_in (i := 2047) (by decide +kernel) (by decide +kernel)
theorem kw_2044 : Cond.methodLink "LandSurveyModel" 494 yX12_breakOn ∈ uu := uu_in (i := 2044) (by decide +kernel) (by decide +kernel)
theorem kw_2046 : Cond.instanceMethod yX12_breakOn ∈ uu := uu_in (i := 2046) (by decide +kernel) (by decide +kernel)
theorem kw_112 : Cond.selects "LandSurveyModel" yX12_breakOn yX12_breakOn ∈ uu := uu_in (i := 112) (by decide +kernel) (by decide +kernel)
theorem kw_2051 : Cond.code yX12_span prog_14_method_67_code 6 none ∈ uu := uu_in (i := 2051) (by decide +kernel) (by decide +kernel)
theorem kw_2048 : Cond.methodLink "LandSurveyModel" 497 yX12_span ∈ uu := uu_in (i := 2048) (by decide +kernel) (by decide +kernel)
theorem kw_2050 : Cond.instanceMethod yX12_span ∈ uu := uu_in (i := 2050) (by decide +kernel) (by decide +kernel)
theorem kw_113 : Cond.selects "LandSurveyModel" yX12_span yX12_span ∈ uu := uu_in (i := 113) (by decide +kernel) (by decide +kernel)
theorem kw_2043 : Cond.code yX12_sideBounds prog_14_method_72_code 10 none ∈ uu := uu_in (i := 2043) (by decide +kernel) (by decide +kernel)
theorem kw_2040 : Cond.methodLink "LandSurveyModel" 505 yX12_sideBounds ∈ uu := uu_in (i := 2040) (by decide +kernel) (by decide +kernel)
theorem kw_2042 : Cond.instanceMethod yX12_sideBounds ∈ uu := uu_in (i := 2042) (by decide +kernel) (by decide +kernel)
theorem kw_111 : Cond.selects "LandSurveyModel" yX12_sideBounds yX12_sideBounds ∈ uu := uu_in (i := 111) (by decide +kernel) (by decide +kernel)
theorem kw_1577 : Cond.fieldLink "LandSurveyModel" 245 "LandSurveyModel" "reach" "[I" ∈ uu := uu_in (i := 1577) (by decide +kernel) (by decide +kernel)
theorem kw_1578 : Cond.fieldLink "LandSurveyModel" 248 "LandSurveyModel" "by" "[I" ∈ uu := uu_in (i := 1578) (by decide +kernel) (by decide +kernel)
theorem kw_2028 : Cond.code yX12_breaksCost prog_14_method_77_code 4 (some .int) ∈ uu := uu_in (i := 2028) (by decide +kernel) (by decide +kernel)
theorem kw_2025 : Cond.methodLink "LandSurveyModel" 516 yX12_breaksCost ∈ uu := uu_in (i := 2025) (by decide +kernel) (by decide +kernel)
theorem kw_2027 : Cond.instanceMethod yX12_breaksCost ∈ uu := uu_in (i := 2027) (by decide +kernel) (by decide +kernel)
theorem kw_108 : Cond.selects "LandSurveyModel" yX12_breaksCost yX12_breaksCost ∈ uu := uu_in (i := 108) (by decide +kernel) (by decide +kernel)
theorem kw_2032 : Cond.code yX12_costOf prog_14_method_76_code 5 (some .int) ∈ uu := uu_in (i := 2032) (by decide +kernel) (by decide +kernel)
theorem kw_2029 : Cond.methodLink "LandSurveyModel" 519 yX12_costOf ∈ uu := uu_in (i := 2029) (by decide +kernel) (by decide +kernel)
theorem kw_2031 : Cond.instanceMethod yX12_costOf ∈ uu := uu_in (i := 2031) (by decide +kernel) (by decide +kernel)
theorem kw_109 : Cond.selects "LandSurveyModel" yX12_costOf yX12_costOf ∈ uu := uu_in (i := 109) (by decide +kernel) (by decide +kernel)
theorem kw_1580 : Cond.fieldLink "LandSurveyModel" 251 "LandSurveyModel" "isGround" "[Z" ∈ uu := uu_in (i := 1580) (by decide +kernel) (by decide +kernel)
theorem kw_2039 : Cond.code yX12_findBounds prog_14_method_73_code 6 none ∈ uu := uu_in (i := 2039) (by decide +kernel) (by decide +kernel)
theorem kw_2036 : Cond.methodLink "LandSurveyModel" 523 yX12_findBounds ∈ uu := uu_in (i := 2036) (by decide +kernel) (by decide +kernel)
theorem kw_2038 : Cond.instanceMethod yX12_findBounds ∈ uu := uu_in (i := 2038) (by decide +kernel) (by decide +kernel)
theorem kw_110 : Cond.selects "LandSurveyModel" yX12_findBounds yX12_findBounds ∈ uu := uu_in (i := 110) (by decide +kernel) (by decide +kernel)
theorem kw_2066 : Cond.code yX12_goesTogether prog_14_method_74_code 5 (some .boolean) ∈ uu := uu_in (i := 2066) (by decide +kernel) (by decide +kernel)
theorem kw_2063 : Cond.methodLink "LandSurveyModel" 527 yX12_goesTogether ∈ uu := uu_in (i := 2063) (by decide +kernel) (by decide +kernel)
theorem kw_2065 : Cond.instanceMethod yX12_goesTogether ∈ uu := uu_in (i := 2065) (by decide +kernel) (by decide +kernel)
theorem kw_116 : Cond.selects "LandSurveyModel" yX12_goesTogether yX12_goesTogether ∈ uu := uu_in (i := 116) (by decide +kernel) (by decide +kernel)
theorem kw_1581 : Cond.fieldLink "LandSurveyModel" 254 "LandSurveyModel" "costs" "[I" ∈ uu := uu_in (i := 1581) (by decide +kernel) (by decide +kernel)
theorem kw_1582 : Cond.fieldLink "LandSurveyModel" 257 "LandSurveyModel" "doubts" "[J" ∈ uu := uu_in (i := 1582) (by decide +kernel) (by decide +kernel)
theorem dX12_viewDay_0 : decode cX12_viewDay 0 = .ok (.aload_n 0, 1) := by decide +kernel
theorem dX12_viewDay_1 : decode cX12_viewDay 1 = .ok (.getfield 287, 3) := by decide +kernel
theorem dX12_viewDay_4 : decode cX12_viewDay 4 = .ok (.ifCond .ge 10, 3) := by decide +kernel
theorem dX12_viewDay_7 : decode cX12_viewDay 7 = .ok (.aload_n 0, 1) := by decide +kernel
theorem dX12_viewDay_8 : decode cX12_viewDay 8 = .ok (.getfield 342, 3) := by decide +kernel
theorem dX12_viewDay_11 : decode cX12_viewDay 11 = .ok (.goto 7, 3) := by decide +kernel
theorem dX12_viewDay_18 : decode cX12_viewDay 18 = .ok (.ireturn, 1) := by decide +kernel
theorem dX12_bookNow_0 : decode cX12_bookNow 0 = .ok (.iconst (-1), 1) := by decide +kernel
theorem dX12_bookNow_1 : decode cX12_bookNow 1 = .ok (.istore_n 1, 1) := by decide +kernel
theorem dX12_bookNow_2 : decode cX12_bookNow 2 = .ok (.iconst 0, 1) := by decide +kernel
theorem dX12_bookNow_3 : decode cX12_bookNow 3 = .ok (.istore_n 2, 1) := by decide +kernel
theorem dX12_bookNow_4 : decode cX12_bookNow 4 = .ok (.iload_n 2, 1) := by decide +kernel
theorem dX12_bookNow_5 : decode cX12_bookNow 5 = .ok (.aload_n 0, 1) := by decide +kernel
theorem dX12_bookNow_6 : decode cX12_bookNow 6 = .ok (.getfield 339, 3) := by decide +kernel
theorem dX12_bookNow_9 : decode cX12_bookNow 9 = .ok (.if_icmp .ge 28, 3) := by decide +kernel
theorem dX12_bookNow_37 : decode cX12_bookNow 37 = .ok (.iload_n 1, 1) := by decide +kernel
theorem dX12_bookNow_38 : decode cX12_bookNow 38 = .ok (.ireturn, 1) := by decide +kernel
theorem dX12_rocksNow_0 : decode cX12_rocksNow 0 = .ok (.aload_n 0, 1) := by decide +kernel
theorem dX12_rocksNow_1 : decode cX12_rocksNow 1 = .ok (.invokevirtual 432, 3) := by decide +kernel
theorem dX12_rocksNow_4 : decode cX12_rocksNow 4 = .ok (.istore_n 1, 1) := by decide +kernel
theorem dX12_rocksNow_5 : decode cX12_rocksNow 5 = .ok (.iload_n 1, 1) := by decide +kernel
theorem dX12_rocksNow_6 : decode cX12_rocksNow 6 = .ok (.ifCond .ge 7, 3) := by decide +kernel
theorem dX12_rocksNow_9 : decode cX12_rocksNow 9 = .ok (.iconst 0, 1) := by decide +kernel
theorem dX12_rocksNow_10 : decode cX12_rocksNow 10 = .ok (.goto 9, 3) := by decide +kernel
theorem dX12_rocksNow_19 : decode cX12_rocksNow 19 = .ok (.ireturn, 1) := by decide +kernel
theorem dX12_breakOn_0 : decode cX12_breakOn 0 = .ok (.iconst 0, 1) := by decide +kernel
theorem dX12_breakOn_1 : decode cX12_breakOn 1 = .ok (.istore_n 3, 1) := by decide +kernel
theorem dX12_breakOn_2 : decode cX12_breakOn 2 = .ok (.iload_n 3, 1) := by decide +kernel
theorem dX12_breakOn_3 : decode cX12_breakOn 3 = .ok (.aload_n 0, 1) := by decide +kernel
theorem dX12_breakOn_4 : decode cX12_breakOn 4 = .ok (.getfield 477, 3) := by decide +kernel
theorem dX12_breakOn_7 : decode cX12_breakOn 7 = .ok (.if_icmp .ge 35, 3) := by decide +kernel
theorem dX12_breakOn_42 : decode cX12_breakOn 42 = .ok (.iconst (-1), 1) := by decide +kernel
theorem dX12_breakOn_43 : decode cX12_breakOn 43 = .ok (.ireturn, 1) := by decide +kernel
theorem dX12_breaksCost_0 : decode cX12_breaksCost 0 = .ok (.iconst 0, 1) := by decide +kernel
theorem dX12_breaksCost_1 : decode cX12_breaksCost 1 = .ok (.istore_n 2, 1) := by decide +kernel
theorem dX12_breaksCost_2 : decode cX12_breaksCost 2 = .ok (.iconst 0, 1) := by decide +kernel
theorem dX12_breaksCost_3 : decode cX12_breaksCost 3 = .ok (.istore_n 3, 1) := by decide +kernel
theorem dX12_breaksCost_4 : decode cX12_breaksCost 4 = .ok (.iload_n 3, 1) := by decide +kernel
theorem dX12_breaksCost_5 : decode cX12_breaksCost 5 = .ok (.aload_n 0, 1) := by decide +kernel
theorem dX12_breaksCost_6 : decode cX12_breaksCost 6 = .ok (.getfield 477, 3) := by decide +kernel
theorem dX12_breaksCost_9 : decode cX12_breaksCost 9 = .ok (.if_icmp .ge 31, 3) := by decide +kernel
theorem dX12_breaksCost_40 : decode cX12_breaksCost 40 = .ok (.iload_n 2, 1) := by decide +kernel
theorem dX12_breaksCost_41 : decode cX12_breaksCost 41 = .ok (.ireturn, 1) := by decide +kernel
theorem dX12_costOf_0 : decode cX12_costOf 0 = .ok (.iconst 0, 1) := by decide +kernel
theorem dX12_costOf_1 : decode cX12_costOf 1 = .ok (.istore_n 3, 1) := by decide +kernel
theorem dX12_costOf_2 : decode cX12_costOf 2 = .ok (.iconst 0, 1) := by decide +kernel
theorem dX12_costOf_3 : decode cX12_costOf 3 = .ok (.istore 4, 2) := by decide +kernel
theorem dX12_costOf_5 : decode cX12_costOf 5 = .ok (.iload 4, 2) := by decide +kernel
theorem dX12_costOf_7 : decode cX12_costOf 7 = .ok (.aload_n 0, 1) := by decide +kernel
theorem dX12_costOf_8 : decode cX12_costOf 8 = .ok (.getfield 423, 3) := by decide +kernel
theorem dX12_costOf_11 : decode cX12_costOf 11 = .ok (.if_icmp .ge 32, 3) := by decide +kernel
theorem dX12_costOf_43 : decode cX12_costOf 43 = .ok (.iload_n 3, 1) := by decide +kernel
theorem dX12_costOf_44 : decode cX12_costOf 44 = .ok (.ireturn, 1) := by decide +kernel
theorem dX12_lineOf_0 : decode cX12_lineOf 0 = .ok (.aload_n 0, 1) := by decide +kernel
theorem dX12_lineOf_1 : decode cX12_lineOf 1 = .ok (.invokevirtual 432, 3) := by decide +kernel
theorem dX12_lineOf_4 : decode cX12_lineOf 4 = .ok (.istore_n 2, 1) := by decide +kernel
theorem dX12_lineOf_5 : decode cX12_lineOf 5 = .ok (.iconst 0, 1) := by decide +kernel
theorem dX12_lineOf_6 : decode cX12_lineOf 6 = .ok (.istore_n 3, 1) := by decide +kernel
theorem dX12_lineOf_7 : decode cX12_lineOf 7 = .ok (.iload_n 2, 1) := by decide +kernel
theorem dX12_lineOf_8 : decode cX12_lineOf 8 = .ok (.ifCond .lt 54, 3) := by decide +kernel
theorem dX12_lineOf_62 : decode cX12_lineOf 62 = .ok (.iconst (-1), 1) := by decide +kernel
theorem dX12_lineOf_63 : decode cX12_lineOf 63 = .ok (.ireturn, 1) := by decide +kernel
theorem dX12_bound_0 : decode cX12_bound 0 = .ok (.aload_n 0, 1) := by decide +kernel
theorem dX12_bound_1 : decode cX12_bound 1 = .ok (.getfield 233, 3) := by decide +kernel
theorem dX12_bound_4 : decode cX12_bound 4 = .ok (.aload_n 0, 1) := by decide +kernel
theorem dX12_bound_5 : decode cX12_bound 5 = .ok (.getfield 480, 3) := by decide +kernel
theorem dX12_bound_8 : decode cX12_bound 8 = .ok (.iload_n 1, 1) := by decide +kernel
theorem dX12_bound_9 : decode cX12_bound 9 = .ok (.iastore, 1) := by decide +kernel
theorem dX12_bound_10 : decode cX12_bound 10 = .ok (.aload_n 0, 1) := by decide +kernel
theorem dX12_bound_11 : decode cX12_bound 11 = .ok (.getfield 236, 3) := by decide +kernel
theorem dX12_bound_14 : decode cX12_bound 14 = .ok (.aload_n 0, 1) := by decide +kernel
theorem dX12_bound_15 : decode cX12_bound 15 = .ok (.getfield 480, 3) := by decide +kernel
theorem dX12_bound_18 : decode cX12_bound 18 = .ok (.iload_n 2, 1) := by decide +kernel
theorem dX12_bound_19 : decode cX12_bound 19 = .ok (.iastore, 1) := by decide +kernel
theorem dX12_bound_20 : decode cX12_bound 20 = .ok (.aload_n 0, 1) := by decide +kernel
theorem dX12_bound_21 : decode cX12_bound 21 = .ok (.getfield 239, 3) := by decide +kernel
theorem dX12_bound_24 : decode cX12_bound 24 = .ok (.aload_n 0, 1) := by decide +kernel
theorem dX12_bound_25 : decode cX12_bound 25 = .ok (.getfield 480, 3) := by decide +kernel
theorem dX12_bound_28 : decode cX12_bound 28 = .ok (.iload_n 3, 1) := by decide +kernel
theorem dX12_bound_29 : decode cX12_bound 29 = .ok (.iastore, 1) := by decide +kernel
theorem dX12_bound_30 : decode cX12_bound 30 = .ok (.aload_n 0, 1) := by decide +kernel
theorem dX12_bound_31 : decode cX12_bound 31 = .ok (.getfield 242, 3) := by decide +kernel
theorem dX12_bound_34 : decode cX12_bound 34 = .ok (.aload_n 0, 1) := by decide +kernel
theorem dX12_bound_35 : decode cX12_bound 35 = .ok (.getfield 480, 3) := by decide +kernel
theorem dX12_bound_38 : decode cX12_bound 38 = .ok (.iload 4, 2) := by decide +kernel
theorem dX12_bound_40 : decode cX12_bound 40 = .ok (.iastore, 1) := by decide +kernel
theorem dX12_bound_41 : decode cX12_bound 41 = .ok (.aload_n 0, 1) := by decide +kernel
theorem dX12_bound_42 : decode cX12_bound 42 = .ok (.dup, 1) := by decide +kernel
theorem dX12_bound_43 : decode cX12_bound 43 = .ok (.getfield 480, 3) := by decide +kernel
theorem dX12_bound_46 : decode cX12_bound 46 = .ok (.iconst 1, 1) := by decide +kernel
theorem dX12_bound_47 : decode cX12_bound 47 = .ok (.iadd, 1) := by decide +kernel
theorem dX12_bound_48 : decode cX12_bound 48 = .ok (.putfield 480, 3) := by decide +kernel
theorem dX12_bound_51 : decode cX12_bound 51 = .ok (.return_, 1) := by decide +kernel
theorem dX12_span_0 : decode cX12_span 0 = .ok (.aload_n 0, 1) := by decide +kernel
theorem dX12_span_1 : decode cX12_span 1 = .ok (.iload_n 1, 1) := by decide +kernel
theorem dX12_span_2 : decode cX12_span 2 = .ok (.iload_n 2, 1) := by decide +kernel
theorem dX12_span_3 : decode cX12_span 3 = .ok (.iload 4, 2) := by decide +kernel
theorem dX12_span_5 : decode cX12_span 5 = .ok (.iload 5, 2) := by decide +kernel
theorem dX12_span_7 : decode cX12_span 7 = .ok (.invokevirtual 483, 3) := by decide +kernel
theorem dX12_span_10 : decode cX12_span 10 = .ok (.aload_n 0, 1) := by decide +kernel
theorem dX12_span_11 : decode cX12_span 11 = .ok (.iload_n 2, 1) := by decide +kernel
theorem dX12_span_12 : decode cX12_span 12 = .ok (.iload_n 1, 1) := by decide +kernel
theorem dX12_span_13 : decode cX12_span 13 = .ok (.iload_n 3, 1) := by decide +kernel
theorem dX12_span_14 : decode cX12_span 14 = .ok (.ineg, 1) := by decide +kernel
theorem dX12_span_15 : decode cX12_span 15 = .ok (.iload 5, 2) := by decide +kernel
theorem dX12_span_17 : decode cX12_span 17 = .ok (.invokevirtual 483, 3) := by decide +kernel
theorem dX12_span_20 : decode cX12_span 20 = .ok (.return_, 1) := by decide +kernel
theorem dX12_sideBounds_0 : decode cX12_sideBounds 0 = .ok (.aload_n 0, 1) := by decide +kernel
theorem dX12_sideBounds_1 : decode cX12_sideBounds 1 = .ok (.iload_n 3, 1) := by decide +kernel
theorem dX12_sideBounds_2 : decode cX12_sideBounds 2 = .ok (.iload 4, 2) := by decide +kernel
theorem dX12_sideBounds_4 : decode cX12_sideBounds 4 = .ok (.invokevirtual 494, 3) := by decide +kernel
theorem dX12_sideBounds_7 : decode cX12_sideBounds 7 = .ok (.istore 7, 2) := by decide +kernel
theorem dX12_sideBounds_9 : decode cX12_sideBounds 9 = .ok (.iload 7, 2) := by decide +kernel
theorem dX12_sideBounds_11 : decode cX12_sideBounds 11 = .ok (.ifCond .lt 25, 3) := by decide +kernel
theorem dX12_sideBounds_36 : decode cX12_sideBounds 36 = .ok (.iconst 0, 1) := by decide +kernel
theorem dX12_sideBounds_37 : decode cX12_sideBounds 37 = .ok (.istore 8, 2) := by decide +kernel
theorem dX12_sideBounds_39 : decode cX12_sideBounds 39 = .ok (.iconst 0, 1) := by decide +kernel
theorem dX12_sideBounds_40 : decode cX12_sideBounds 40 = .ok (.istore 9, 2) := by decide +kernel
theorem dX12_sideBounds_42 : decode cX12_sideBounds 42 = .ok (.iload 9, 2) := by decide +kernel
theorem dX12_sideBounds_44 : decode cX12_sideBounds 44 = .ok (.aload_n 0, 1) := by decide +kernel
theorem dX12_sideBounds_45 : decode cX12_sideBounds 45 = .ok (.getfield 423, 3) := by decide +kernel
theorem dX12_sideBounds_48 : decode cX12_sideBounds 48 = .ok (.if_icmp .ge 117, 3) := by decide +kernel
theorem dX12_sideBounds_165 : decode cX12_sideBounds 165 = .ok (.iload 8, 2) := by decide +kernel
theorem dX12_sideBounds_167 : decode cX12_sideBounds 167 = .ok (.ifCond .ne 38, 3) := by decide +kernel
theorem dX12_sideBounds_170 : decode cX12_sideBounds 170 = .ok (.aload_n 0, 1) := by decide +kernel
theorem dX12_sideBounds_171 : decode cX12_sideBounds 171 = .ok (.invokevirtual 432, 3) := by decide +kernel
theorem dX12_sideBounds_174 : decode cX12_sideBounds 174 = .ok (.ifCond .ge 8, 3) := by decide +kernel
theorem dX12_sideBounds_177 : decode cX12_sideBounds 177 = .ok (.bipush 10, 2) := by decide +kernel
theorem dX12_sideBounds_179 : decode cX12_sideBounds 179 = .ok (.goto 12, 3) := by decide +kernel
theorem dX12_sideBounds_191 : decode cX12_sideBounds 191 = .ok (.istore 9, 2) := by decide +kernel
theorem dX12_sideBounds_193 : decode cX12_sideBounds 193 = .ok (.aload_n 0, 1) := by decide +kernel
theorem dX12_sideBounds_194 : decode cX12_sideBounds 194 = .ok (.iload_n 1, 1) := by decide +kernel
theorem dX12_sideBounds_195 : decode cX12_sideBounds 195 = .ok (.iload_n 2, 1) := by decide +kernel
theorem dX12_sideBounds_196 : decode cX12_sideBounds 196 = .ok (.iload 9, 2) := by decide +kernel
theorem dX12_sideBounds_198 : decode cX12_sideBounds 198 = .ok (.ineg, 1) := by decide +kernel
theorem dX12_sideBounds_199 : decode cX12_sideBounds 199 = .ok (.iload 9, 2) := by decide +kernel
theorem dX12_sideBounds_201 : decode cX12_sideBounds 201 = .ok (.iconst (-1), 1) := by decide +kernel
theorem dX12_sideBounds_202 : decode cX12_sideBounds 202 = .ok (.invokevirtual 497, 3) := by decide +kernel
theorem dX12_sideBounds_205 : decode cX12_sideBounds 205 = .ok (.return_, 1) := by decide +kernel
theorem dX12_findBounds_0 : decode cX12_findBounds 0 = .ok (.aload_n 0, 1) := by decide +kernel
theorem dX12_findBounds_1 : decode cX12_findBounds 1 = .ok (.iconst 0, 1) := by decide +kernel
theorem dX12_findBounds_2 : decode cX12_findBounds 2 = .ok (.putfield 480, 3) := by decide +kernel
theorem dX12_findBounds_5 : decode cX12_findBounds 5 = .ok (.iconst 0, 1) := by decide +kernel
theorem dX12_findBounds_6 : decode cX12_findBounds 6 = .ok (.istore 5, 2) := by decide +kernel
theorem dX12_findBounds_8 : decode cX12_findBounds 8 = .ok (.iload 5, 2) := by decide +kernel
theorem dX12_findBounds_10 : decode cX12_findBounds 10 = .ok (.bipush 96, 2) := by decide +kernel
theorem dX12_findBounds_12 : decode cX12_findBounds 12 = .ok (.if_icmp .ge 61, 3) := by decide +kernel
theorem dX12_findBounds_73 : decode cX12_findBounds 73 = .ok (.iconst 0, 1) := by decide +kernel
theorem dX12_findBounds_74 : decode cX12_findBounds 74 = .ok (.istore 5, 2) := by decide +kernel
theorem dX12_findBounds_76 : decode cX12_findBounds 76 = .ok (.iload 5, 2) := by decide +kernel
theorem dX12_findBounds_78 : decode cX12_findBounds 78 = .ok (.aload_n 0, 1) := by decide +kernel
theorem dX12_findBounds_79 : decode cX12_findBounds 79 = .ok (.getfield 423, 3) := by decide +kernel
theorem dX12_findBounds_82 : decode cX12_findBounds 82 = .ok (.if_icmp .ge 62, 3) := by decide +kernel
theorem dX12_findBounds_144 : decode cX12_findBounds 144 = .ok (.return_, 1) := by decide +kernel
theorem dX12_findBounds_15 : decode cX12_findBounds 15 = .ok (.iload 5, 2) := by decide +kernel
theorem dX12_findBounds_17 : decode cX12_findBounds 17 = .ok (.bipush 12, 2) := by decide +kernel
theorem dX12_findBounds_19 : decode cX12_findBounds 19 = .ok (.irem, 1) := by decide +kernel
theorem dX12_findBounds_20 : decode cX12_findBounds 20 = .ok (.bipush 11, 2) := by decide +kernel
theorem dX12_findBounds_22 : decode cX12_findBounds 22 = .ok (.if_icmp .ge 17, 3) := by decide +kernel
theorem dX12_findBounds_39 : decode cX12_findBounds 39 = .ok (.iload 5, 2) := by decide +kernel
theorem dX12_findBounds_41 : decode cX12_findBounds 41 = .ok (.bipush 12, 2) := by decide +kernel
theorem dX12_findBounds_43 : decode cX12_findBounds 43 = .ok (.idiv, 1) := by decide +kernel
theorem dX12_findBounds_44 : decode cX12_findBounds 44 = .ok (.bipush 7, 2) := by decide +kernel
theorem dX12_findBounds_46 : decode cX12_findBounds 46 = .ok (.if_icmp .ge 21, 3) := by decide +kernel
theorem dX12_findBounds_67 : decode cX12_findBounds 67 = .ok (.iinc 5 1, 3) := by decide +kernel
theorem dX12_findBounds_70 : decode cX12_findBounds 70 = .ok (.goto (-62), 3) := by decide +kernel
theorem dX12_findBounds_49 : decode cX12_findBounds 49 = .ok (.aload_n 0, 1) := by decide +kernel
theorem dX12_findBounds_50 : decode cX12_findBounds 50 = .ok (.iload 5, 2) := by decide +kernel
theorem dX12_findBounds_52 : decode cX12_findBounds 52 = .ok (.iload 5, 2) := by decide +kernel
theorem dX12_findBounds_54 : decode cX12_findBounds 54 = .ok (.bipush 12, 2) := by decide +kernel
theorem dX12_findBounds_56 : decode cX12_findBounds 56 = .ok (.iadd, 1) := by decide +kernel
theorem dX12_findBounds_57 : decode cX12_findBounds 57 = .ok (.bipush 96, 2) := by decide +kernel
theorem dX12_findBounds_59 : decode cX12_findBounds 59 = .ok (.iload 5, 2) := by decide +kernel
theorem dX12_findBounds_61 : decode cX12_findBounds 61 = .ok (.iadd, 1) := by decide +kernel
theorem dX12_findBounds_62 : decode cX12_findBounds 62 = .ok (.iload_n 1, 1) := by decide +kernel
theorem dX12_findBounds_63 : decode cX12_findBounds 63 = .ok (.lload_n 2, 1) := by decide +kernel
theorem dX12_findBounds_64 : decode cX12_findBounds 64 = .ok (.invokevirtual 505, 3) := by decide +kernel
theorem dX12_findBounds_25 : decode cX12_findBounds 25 = .ok (.aload_n 0, 1) := by decide +kernel
theorem dX12_findBounds_26 : decode cX12_findBounds 26 = .ok (.iload 5, 2) := by decide +kernel
theorem dX12_findBounds_28 : decode cX12_findBounds 28 = .ok (.iload 5, 2) := by decide +kernel
theorem dX12_findBounds_30 : decode cX12_findBounds 30 = .ok (.iconst 1, 1) := by decide +kernel
theorem dX12_findBounds_31 : decode cX12_findBounds 31 = .ok (.iadd, 1) := by decide +kernel
theorem dX12_findBounds_32 : decode cX12_findBounds 32 = .ok (.iload 5, 2) := by decide +kernel
theorem dX12_findBounds_34 : decode cX12_findBounds 34 = .ok (.iload_n 1, 1) := by decide +kernel
theorem dX12_findBounds_35 : decode cX12_findBounds 35 = .ok (.lload_n 2, 1) := by decide +kernel
theorem dX12_findBounds_36 : decode cX12_findBounds 36 = .ok (.invokevirtual 505, 3) := by decide +kernel
theorem dX12_goesTogether_0 : decode cX12_goesTogether 0 = .ok (.iconst 0, 1) := by decide +kernel
theorem dX12_goesTogether_1 : decode cX12_goesTogether 1 = .ok (.istore_n 1, 1) := by decide +kernel
theorem dX12_goesTogether_2 : decode cX12_goesTogether 2 = .ok (.iload_n 1, 1) := by decide +kernel
theorem dX12_goesTogether_3 : decode cX12_goesTogether 3 = .ok (.bipush 97, 2) := by decide +kernel
theorem dX12_goesTogether_5 : decode cX12_goesTogether 5 = .ok (.if_icmp .ge 23, 3) := by decide +kernel
theorem dX12_goesTogether_28 : decode cX12_goesTogether 28 = .ok (.iconst (-1), 1) := by decide +kernel
theorem dX12_goesTogether_29 : decode cX12_goesTogether 29 = .ok (.istore_n 1, 1) := by decide +kernel
theorem dX12_goesTogether_30 : decode cX12_goesTogether 30 = .ok (.iconst 0, 1) := by decide +kernel
theorem dX12_goesTogether_31 : decode cX12_goesTogether 31 = .ok (.istore_n 2, 1) := by decide +kernel
theorem dX12_goesTogether_32 : decode cX12_goesTogether 32 = .ok (.iload_n 2, 1) := by decide +kernel
theorem dX12_goesTogether_33 : decode cX12_goesTogether 33 = .ok (.bipush 98, 2) := by decide +kernel
theorem dX12_goesTogether_35 : decode cX12_goesTogether 35 = .ok (.if_icmp .ge 101, 3) := by decide +kernel
theorem dX12_goesTogether_38 : decode cX12_goesTogether 38 = .ok (.iconst (-1), 1) := by decide +kernel
theorem dX12_goesTogether_39 : decode cX12_goesTogether 39 = .ok (.istore_n 1, 1) := by decide +kernel
theorem dX12_goesTogether_40 : decode cX12_goesTogether 40 = .ok (.iconst 0, 1) := by decide +kernel
theorem dX12_goesTogether_41 : decode cX12_goesTogether 41 = .ok (.istore_n 3, 1) := by decide +kernel
theorem dX12_goesTogether_42 : decode cX12_goesTogether 42 = .ok (.iload_n 3, 1) := by decide +kernel
theorem dX12_goesTogether_43 : decode cX12_goesTogether 43 = .ok (.aload_n 0, 1) := by decide +kernel
theorem dX12_goesTogether_44 : decode cX12_goesTogether 44 = .ok (.getfield 480, 3) := by decide +kernel
theorem dX12_goesTogether_47 : decode cX12_goesTogether 47 = .ok (.if_icmp .ge 77, 3) := by decide +kernel
theorem dX12_goesTogether_124 : decode cX12_goesTogether 124 = .ok (.iload_n 1, 1) := by decide +kernel
theorem dX12_goesTogether_125 : decode cX12_goesTogether 125 = .ok (.ifCond .ge 5, 3) := by decide +kernel
theorem dX12_goesTogether_128 : decode cX12_goesTogether 128 = .ok (.iconst 1, 1) := by decide +kernel
theorem dX12_goesTogether_129 : decode cX12_goesTogether 129 = .ok (.ireturn, 1) := by decide +kernel
theorem dX12_goesTogether_50 : decode cX12_goesTogether 50 = .ok (.aload_n 0, 1) := by decide +kernel
theorem dX12_goesTogether_51 : decode cX12_goesTogether 51 = .ok (.getfield 245, 3) := by decide +kernel
theorem dX12_goesTogether_54 : decode cX12_goesTogether 54 = .ok (.aload_n 0, 1) := by decide +kernel
theorem dX12_goesTogether_55 : decode cX12_goesTogether 55 = .ok (.getfield 233, 3) := by decide +kernel
theorem dX12_goesTogether_58 : decode cX12_goesTogether 58 = .ok (.iload_n 3, 1) := by decide +kernel
theorem dX12_goesTogether_59 : decode cX12_goesTogether 59 = .ok (.iaload, 1) := by decide +kernel
theorem dX12_goesTogether_60 : decode cX12_goesTogether 60 = .ok (.iaload, 1) := by decide +kernel
theorem dX12_goesTogether_61 : decode cX12_goesTogether 61 = .ok (.aload_n 0, 1) := by decide +kernel
theorem dX12_goesTogether_62 : decode cX12_goesTogether 62 = .ok (.getfield 239, 3) := by decide +kernel
theorem dX12_goesTogether_65 : decode cX12_goesTogether 65 = .ok (.iload_n 3, 1) := by decide +kernel
theorem dX12_goesTogether_66 : decode cX12_goesTogether 66 = .ok (.iaload, 1) := by decide +kernel
theorem dX12_goesTogether_67 : decode cX12_goesTogether 67 = .ok (.iadd, 1) := by decide +kernel
theorem dX12_goesTogether_68 : decode cX12_goesTogether 68 = .ok (.istore 4, 2) := by decide +kernel
theorem dX12_goesTogether_70 : decode cX12_goesTogether 70 = .ok (.iload 4, 2) := by decide +kernel
theorem dX12_goesTogether_72 : decode cX12_goesTogether 72 = .ok (.aload_n 0, 1) := by decide +kernel
theorem dX12_goesTogether_73 : decode cX12_goesTogether 73 = .ok (.getfield 245, 3) := by decide +kernel
theorem dX12_goesTogether_76 : decode cX12_goesTogether 76 = .ok (.aload_n 0, 1) := by decide +kernel
theorem dX12_goesTogether_77 : decode cX12_goesTogether 77 = .ok (.getfield 236, 3) := by decide +kernel
theorem dX12_goesTogether_80 : decode cX12_goesTogether 80 = .ok (.iload_n 3, 1) := by decide +kernel
theorem dX12_goesTogether_81 : decode cX12_goesTogether 81 = .ok (.iaload, 1) := by decide +kernel
theorem dX12_goesTogether_82 : decode cX12_goesTogether 82 = .ok (.iaload, 1) := by decide +kernel
theorem dX12_goesTogether_83 : decode cX12_goesTogether 83 = .ok (.if_icmp .ge 35, 3) := by decide +kernel
theorem dX12_goesTogether_118 : decode cX12_goesTogether 118 = .ok (.iinc 3 1, 3) := by decide +kernel
theorem dX12_goesTogether_121 : decode cX12_goesTogether 121 = .ok (.goto (-79), 3) := by decide +kernel
theorem dX12_goesTogether_8 : decode cX12_goesTogether 8 = .ok (.aload_n 0, 1) := by decide +kernel
theorem dX12_goesTogether_9 : decode cX12_goesTogether 9 = .ok (.getfield 245, 3) := by decide +kernel
theorem dX12_goesTogether_12 : decode cX12_goesTogether 12 = .ok (.iload_n 1, 1) := by decide +kernel
theorem dX12_goesTogether_13 : decode cX12_goesTogether 13 = .ok (.iconst 0, 1) := by decide +kernel
theorem dX12_goesTogether_14 : decode cX12_goesTogether 14 = .ok (.iastore, 1) := by decide +kernel
theorem dX12_goesTogether_15 : decode cX12_goesTogether 15 = .ok (.aload_n 0, 1) := by decide +kernel
theorem dX12_goesTogether_16 : decode cX12_goesTogether 16 = .ok (.getfield 248, 3) := by decide +kernel
theorem dX12_goesTogether_19 : decode cX12_goesTogether 19 = .ok (.iload_n 1, 1) := by decide +kernel
theorem dX12_goesTogether_20 : decode cX12_goesTogether 20 = .ok (.iconst (-1), 1) := by decide +kernel
theorem dX12_goesTogether_21 : decode cX12_goesTogether 21 = .ok (.iastore, 1) := by decide +kernel
theorem dX12_goesTogether_22 : decode cX12_goesTogether 22 = .ok (.iinc 1 1, 3) := by decide +kernel
theorem dX12_goesTogether_25 : decode cX12_goesTogether 25 = .ok (.goto (-23), 3) := by decide +kernel
theorem dX12_seeks_0 : decode cX12_seeks 0 = .ok (.aload_n 0, 1) := by decide +kernel
theorem dX12_seeks_1 : decode cX12_seeks 1 = .ok (.iload_n 1, 1) := by decide +kernel
theorem dX12_seeks_2 : decode cX12_seeks 2 = .ok (.invokevirtual 516, 3) := by decide +kernel
theorem dX12_seeks_5 : decode cX12_seeks 5 = .ok (.aload_n 0, 1) := by decide +kernel
theorem dX12_seeks_6 : decode cX12_seeks 6 = .ok (.lload_n 2, 1) := by decide +kernel
theorem dX12_seeks_7 : decode cX12_seeks 7 = .ok (.invokevirtual 519, 3) := by decide +kernel
theorem dX12_seeks_10 : decode cX12_seeks 10 = .ok (.iadd, 1) := by decide +kernel
theorem dX12_seeks_11 : decode cX12_seeks 11 = .ok (.istore 5, 2) := by decide +kernel
theorem dX12_seeks_13 : decode cX12_seeks 13 = .ok (.aload_n 0, 1) := by decide +kernel
theorem dX12_seeks_14 : decode cX12_seeks 14 = .ok (.getfield 251, 3) := by decide +kernel
theorem dX12_seeks_17 : decode cX12_seeks 17 = .ok (.iload_n 1, 1) := by decide +kernel
theorem dX12_seeks_18 : decode cX12_seeks 18 = .ok (.baload, 1) := by decide +kernel
theorem dX12_seeks_19 : decode cX12_seeks 19 = .ok (.ifCond .eq 37, 3) := by decide +kernel
theorem dX12_seeks_56 : decode cX12_seeks 56 = .ok (.aload_n 0, 1) := by decide +kernel
theorem dX12_seeks_57 : decode cX12_seeks 57 = .ok (.iload_n 1, 1) := by decide +kernel
theorem dX12_seeks_58 : decode cX12_seeks 58 = .ok (.lload_n 2, 1) := by decide +kernel
theorem dX12_seeks_59 : decode cX12_seeks 59 = .ok (.iconst 1, 1) := by decide +kernel
theorem dX12_seeks_60 : decode cX12_seeks 60 = .ok (.invokevirtual 523, 3) := by decide +kernel
theorem dX12_seeks_63 : decode cX12_seeks 63 = .ok (.aload_n 0, 1) := by decide +kernel
theorem dX12_seeks_64 : decode cX12_seeks 64 = .ok (.invokevirtual 527, 3) := by decide +kernel
theorem dX12_seeks_67 : decode cX12_seeks 67 = .ok (.ifCond .eq 26, 3) := by decide +kernel
theorem dX12_seeks_70 : decode cX12_seeks 70 = .ok (.aload_n 0, 1) := by decide +kernel
theorem dX12_seeks_71 : decode cX12_seeks 71 = .ok (.getfield 251, 3) := by decide +kernel
theorem dX12_seeks_74 : decode cX12_seeks 74 = .ok (.iload_n 1, 1) := by decide +kernel
theorem dX12_seeks_75 : decode cX12_seeks 75 = .ok (.iconst 1, 1) := by decide +kernel
theorem dX12_seeks_76 : decode cX12_seeks 76 = .ok (.bastore, 1) := by decide +kernel
theorem dX12_seeks_77 : decode cX12_seeks 77 = .ok (.aload_n 0, 1) := by decide +kernel
theorem dX12_seeks_78 : decode cX12_seeks 78 = .ok (.getfield 254, 3) := by decide +kernel
theorem dX12_seeks_81 : decode cX12_seeks 81 = .ok (.iload_n 1, 1) := by decide +kernel
theorem dX12_seeks_82 : decode cX12_seeks 82 = .ok (.iload 5, 2) := by decide +kernel
theorem dX12_seeks_84 : decode cX12_seeks 84 = .ok (.iastore, 1) := by decide +kernel
theorem dX12_seeks_85 : decode cX12_seeks 85 = .ok (.aload_n 0, 1) := by decide +kernel
theorem dX12_seeks_86 : decode cX12_seeks 86 = .ok (.getfield 257, 3) := by decide +kernel
theorem dX12_seeks_89 : decode cX12_seeks 89 = .ok (.iload_n 1, 1) := by decide +kernel
theorem dX12_seeks_90 : decode cX12_seeks 90 = .ok (.lload_n 2, 1) := by decide +kernel
theorem dX12_seeks_91 : decode cX12_seeks 91 = .ok (.lastore, 1) := by decide +kernel
theorem dX12_seeks_92 : decode cX12_seeks 92 = .ok (.return_, 1) := by decide +kernel
/-! BOUNDS of the reference on a fresh object: each leads from a cell to a cell, by 10 -/
def Bd (n : Nat) (bf bt bb : Nat → Int32) : Prop := ∀ i, i < n → (∃ j, j < 96 ∧ bf i = nI j) ∧ (∃ j, j < 96 ∧ bt i = nI j) ∧ bb i = 10
theorem bd_0 (bf bt bb : Nat → Int32) : Bd 0 bf bt bb := fun i h => absurd h (Nat.not_lt_zero i)
theorem bd_add {n : Nat} {bf bt bb : Nat → Int32} (h : Bd n bf bt bb) {c d : Nat} (hc : c < 96) (hd : d < 96) : Bd (n + 2) (upd (upd bf n (nI c)) (n + 1) (nI d)) (upd (upd bt n (nI d)) (n + 1) (nI c)) (upd (upd bb n 10) (n + 1) 10) := by
  intro i hi
  by_cases h1 : i = n + 1
  · subst h1
    rw [pk_us, pk_us, pk_us]
    exact ⟨⟨d, hd, rfl⟩, ⟨c, hc, rfl⟩, rfl⟩
  · rw [pk_un h1, pk_un h1, pk_un h1]
    by_cases h2 : i = n
    · subst h2
      rw [pk_us, pk_us, pk_us]
      exact ⟨⟨c, hc, rfl⟩, ⟨d, hd, rfl⟩, rfl⟩
    · rw [pk_un h2, pk_un h2, pk_un h2]
      exact h i (by omega)

set_option maxHeartbeats 4000000 in
set_option maxRecDepth 100000 in
theorem kX12_viewDay (l : Launch) (D : va_G) (cy : Nat → ClassId) (q : Nat → Nat) (t : Int32) (ch : Int32) (bn : Int32) (bs : Int32) (km : Int32) : RI l D cy yX12_viewDay cX12_viewDay 1 (some .int) 0 0 [.ref (q 0)] [((q 0), .inr (11, (mO q t 0 0 0 0 0 0 0 (-1) ch 0 0 bn 0 bs km 0 0 0)))] (fun v : Int32 => v = 0) := by
  refine metr_go (by decide) (Nat.le_of_ble_eq_true rfl) (fun p e s m below meth c ls S hr hlk hP hK hl => ?_)
  have hl : lv_has ls 1 [(0, .ref (q 0))] := hl
  refine lv_aload_n S.1 S.2.1 dX12_viewDay_0 rfl (lv_at hl 0 rfl) ?_
  refine r_get S hK hP 0 11 rfl rfl inX12 34 (by decide) kw_1544 (v := .int (-1)) rfl dX12_viewDay_1 ?_
  refine r_if_ge S (-1) rfl dX12_viewDay_4 (tgt := 14) (by decide) (fun c => absurd c (by decide)) (fun _ => ?_)
  refine lv_aload_n S.1 S.2.1 dX12_viewDay_7 rfl (lv_at hl 0 rfl) ?_
  refine r_get S hK hP 0 11 rfl rfl inX12 33 (by decide) kw_1543 (v := .int 0) rfl dX12_viewDay_8 ?_
  refine lv_goto (tgt := 18) S.1 S.2.1 dX12_viewDay_11 (by decide) ?_
  exact ri_ret S hr hlk rfl (rfl) dX12_viewDay_18
set_option maxHeartbeats 4000000 in
set_option maxRecDepth 100000 in
theorem kX12_bookNow (l : Launch) (D : va_G) (cy : Nat → ClassId) (q : Nat → Nat) (t : Int32) (ch : Int32) (bn : Int32) (bs : Int32) (km : Int32) : RI l D cy yX12_bookNow cX12_bookNow 3 (some .int) 0 0 [.ref (q 0)] [((q 0), .inr (11, (mO q t 0 0 0 0 0 0 0 (-1) ch 0 0 bn 0 bs km 0 0 0)))] (fun v : Int32 => v = (-1)) := by
  refine metr_go (by decide) (Nat.le_of_ble_eq_true rfl) (fun p e s m below meth c ls S hr hlk hP hK hl => ?_)
  have hl : lv_has ls 3 [(0, .ref (q 0))] := hl
  refine lv_iconst (v := (-1)) S.1 S.2.1 dX12_bookNow_0 (by decide) ?_
  refine lv_istore_n (lv' := [(1, .int (-1)), (0, .ref (q 0))]) S.1 S.2.1 dX12_bookNow_1 rfl hl (by decide) rfl (fun ls hl => ?_)
  refine lv_iconst (v := 0) S.1 S.2.1 dX12_bookNow_2 (by decide) ?_
  refine lv_istore_n (lv' := [(2, .int 0), (1, .int (-1)), (0, .ref (q 0))]) S.1 S.2.1 dX12_bookNow_3 rfl hl (by decide) rfl (fun ls hl => ?_)
  refine lv_iload_n S.1 S.2.1 dX12_bookNow_4 rfl (lv_at hl 0 rfl) ?_
  refine lv_aload_n S.1 S.2.1 dX12_bookNow_5 rfl (lv_at hl 2 rfl) ?_
  refine r_get S hK hP 0 11 rfl rfl inX12 10 (by decide) kw_1520 (v := .int 0) rfl dX12_bookNow_6 ?_
  refine r_icmp_ge S 0 0 rfl rfl dX12_bookNow_9 (tgt := 37) (by decide) (fun _ => ?_) (fun c => absurd c (by decide))
  refine lv_iload_n S.1 S.2.1 dX12_bookNow_37 rfl (lv_at hl 1 rfl) ?_
  exact ri_ret S hr hlk rfl (rfl) dX12_bookNow_38
set_option maxHeartbeats 4000000 in
set_option maxRecDepth 100000 in
theorem kX12_rocksNow (l : Launch) (D : va_G) (cy : Nat → ClassId) (q : Nat → Nat) (t : Int32) (ch : Int32) (bn : Int32) (bs : Int32) (km : Int32) : RI l D cy yX12_rocksNow cX12_rocksNow 2 (some .int) 1 22 [.ref (q 0)] [((q 0), .inr (11, (mO q t 0 0 0 0 0 0 0 (-1) ch 0 0 bn 0 bs km 0 0 0)))] (fun v : Int32 => v = 0) := by
  refine metr_go (by decide) (Nat.le_of_ble_eq_true rfl) (fun p e s m below meth c ls S hr hlk hP hK hl => ?_)
  have hl : lv_has ls 2 [(0, .ref (q 0))] := hl
  refine lv_aload_n S.1 S.2.1 dX12_rocksNow_0 rfl (lv_at hl 0 rfl) ?_
  refine call_ri (runV_R (wc := [((q 0), .inr (11, (mO q t 0 0 0 0 0 0 0 (-1) ch 0 0 bn 0 bs km 0 0 0)))]) (As := []) (rest := []) S (kX12_bookNow l D cy q t ch bn bs km) hK hP [0] rfl 0 11 rfl rfl kw_1954 kw_1956 kw_91 kw_152 kw_1957 okX12_bookNow rfl (by decide) hl.1 rfl (Nat.le_of_ble_eq_true rfl) dX12_rocksNow_1 (by decide)) (fun v1 w1 => ?_)
  subst w1
  refine lv_istore_n (lv' := [(1, .int (-1)), (0, .ref (q 0))]) S.1 S.2.1 dX12_rocksNow_4 rfl hl (by decide) rfl (fun ls hl => ?_)
  refine lv_iload_n S.1 S.2.1 dX12_rocksNow_5 rfl (lv_at hl 0 rfl) ?_
  refine r_if_ge S (-1) rfl dX12_rocksNow_6 (tgt := 13) (by decide) (fun c => absurd c (by decide)) (fun _ => ?_)
  refine lv_iconst (v := 0) S.1 S.2.1 dX12_rocksNow_9 (by decide) ?_
  refine lv_goto (tgt := 19) S.1 S.2.1 dX12_rocksNow_10 (by decide) ?_
  exact ri_ret S hr hlk rfl (rfl) dX12_rocksNow_19
set_option maxHeartbeats 4000000 in
set_option maxRecDepth 100000 in
theorem kX12_breakOn (l : Launch) (D : va_G) (cy : Nat → ClassId) (q : Nat → Nat) (t : Int32) (ch : Int32) (bn : Int32) (bs : Int32) (km : Int32) (p0 : Int32) (p1 : Int32) (z0 : Int) (h0 : p0.toInt = z0) (z1 : Int) (h1 : p1.toInt = z1) : RI l D cy yX12_breakOn cX12_breakOn 4 (some .int) 0 0 [.ref (q 0), .int p0, .int p1] [((q 0), .inr (11, (mO q t 0 0 0 0 0 0 0 (-1) ch 0 0 bn 0 bs km 0 0 0)))] (fun v : Int32 => v = (-1)) := by
  refine metr_go (by decide) (Nat.le_of_ble_eq_true rfl) (fun p e s m below meth c ls S hr hlk hP hK hl => ?_)
  have hl : lv_has ls 4 [(0, .ref (q 0)), (1, .int p0), (2, .int p1)] := hl
  refine lv_iconst (v := 0) S.1 S.2.1 dX12_breakOn_0 (by decide) ?_
  refine lv_istore_n (lv' := [(3, .int 0), (0, .ref (q 0)), (1, .int p0), (2, .int p1)]) S.1 S.2.1 dX12_breakOn_1 rfl hl (by decide) rfl (fun ls hl => ?_)
  refine lv_iload_n S.1 S.2.1 dX12_breakOn_2 rfl (lv_at hl 0 rfl) ?_
  refine lv_aload_n S.1 S.2.1 dX12_breakOn_3 rfl (lv_at hl 1 rfl) ?_
  refine r_get S hK hP 0 11 rfl rfl inX12 57 (by decide) kw_1567 (v := .int 0) rfl dX12_breakOn_4 ?_
  refine r_icmp_ge S 0 0 rfl rfl dX12_breakOn_7 (tgt := 42) (by decide) (fun _ => ?_) (fun c => absurd c (by decide))
  refine lv_iconst (v := (-1)) S.1 S.2.1 dX12_breakOn_42 (by decide) ?_
  exact ri_ret S hr hlk rfl (rfl) dX12_breakOn_43
set_option maxHeartbeats 4000000 in
set_option maxRecDepth 100000 in
theorem kX12_breaksCost (l : Launch) (D : va_G) (cy : Nat → ClassId) (q : Nat → Nat) (t : Int32) (ch : Int32) (bn : Int32) (bs : Int32) (km : Int32) : RI l D cy yX12_breaksCost cX12_breaksCost 4 (some .int) 0 0 [.ref (q 0), .int 0] [((q 0), .inr (11, (mO q t 0 0 0 0 0 0 0 (-1) ch 0 0 bn 0 bs km 0 0 0)))] (fun v : Int32 => v = 0) := by
  refine metr_go (by decide) (Nat.le_of_ble_eq_true rfl) (fun p e s m below meth c ls S hr hlk hP hK hl => ?_)
  have hl : lv_has ls 4 [(0, .ref (q 0)), (1, .int 0)] := hl
  refine lv_iconst (v := 0) S.1 S.2.1 dX12_breaksCost_0 (by decide) ?_
  refine lv_istore_n (lv' := [(2, .int 0), (0, .ref (q 0)), (1, .int 0)]) S.1 S.2.1 dX12_breaksCost_1 rfl hl (by decide) rfl (fun ls hl => ?_)
  refine lv_iconst (v := 0) S.1 S.2.1 dX12_breaksCost_2 (by decide) ?_
  refine lv_istore_n (lv' := [(3, .int 0), (2, .int 0), (0, .ref (q 0)), (1, .int 0)]) S.1 S.2.1 dX12_breaksCost_3 rfl hl (by decide) rfl (fun ls hl => ?_)
  refine lv_iload_n S.1 S.2.1 dX12_breaksCost_4 rfl (lv_at hl 0 rfl) ?_
  refine lv_aload_n S.1 S.2.1 dX12_breaksCost_5 rfl (lv_at hl 2 rfl) ?_
  refine r_get S hK hP 0 11 rfl rfl inX12 57 (by decide) kw_1567 (v := .int 0) rfl dX12_breaksCost_6 ?_
  refine r_icmp_ge S 0 0 rfl rfl dX12_breaksCost_9 (tgt := 40) (by decide) (fun _ => ?_) (fun c => absurd c (by decide))
  refine lv_iload_n S.1 S.2.1 dX12_breaksCost_40 rfl (lv_at hl 1 rfl) ?_
  exact ri_ret S hr hlk rfl (rfl) dX12_breaksCost_41
set_option maxHeartbeats 4000000 in
set_option maxRecDepth 100000 in
theorem kX12_costOf (l : Launch) (D : va_G) (cy : Nat → ClassId) (q : Nat → Nat) (t : Int32) (ch : Int32) (bn : Int32) (bs : Int32) (km : Int32) : RI l D cy yX12_costOf cX12_costOf 5 (some .int) 0 0 [.ref (q 0), .long 0] [((q 0), .inr (11, (mO q t 0 0 0 0 0 0 0 (-1) ch 0 0 bn 0 bs km 0 0 0)))] (fun v : Int32 => v = 0) := by
  refine metr_go (by decide) (Nat.le_of_ble_eq_true rfl) (fun p e s m below meth c ls S hr hlk hP hK hl => ?_)
  have hl : lv_has ls 5 [(0, .ref (q 0)), (1, .long 0)] := hl
  refine lv_iconst (v := 0) S.1 S.2.1 dX12_costOf_0 (by decide) ?_
  refine lv_istore_n (lv' := [(3, .int 0), (0, .ref (q 0)), (1, .long 0)]) S.1 S.2.1 dX12_costOf_1 rfl hl (by decide) rfl (fun ls hl => ?_)
  refine lv_iconst (v := 0) S.1 S.2.1 dX12_costOf_2 (by decide) ?_
  refine lv_istore (lv' := [(4, .int 0), (3, .int 0), (0, .ref (q 0)), (1, .long 0)]) S.1 S.2.1 dX12_costOf_3 hl (by decide) rfl (fun ls hl => ?_)
  refine lv_iload S.1 S.2.1 dX12_costOf_5 (lv_at hl 0 rfl) ?_
  refine lv_aload_n S.1 S.2.1 dX12_costOf_7 rfl (lv_at hl 2 rfl) ?_
  refine r_get S hK hP 0 11 rfl rfl inX12 40 (by decide) kw_1550 (v := .int 0) rfl dX12_costOf_8 ?_
  refine r_icmp_ge S 0 0 rfl rfl dX12_costOf_11 (tgt := 43) (by decide) (fun _ => ?_) (fun c => absurd c (by decide))
  refine lv_iload_n S.1 S.2.1 dX12_costOf_43 rfl (lv_at hl 1 rfl) ?_
  exact ri_ret S hr hlk rfl (rfl) dX12_costOf_44
set_option maxHeartbeats 4000000 in
set_option maxRecDepth 100000 in
theorem kX12_lineOf (l : Launch) (D : va_G) (cy : Nat → ClassId) (q : Nat → Nat) (t : Int32) (ch : Int32) (bn : Int32) (bs : Int32) (km : Int32) : RI l D cy yX12_lineOf cX12_lineOf 4 (some .int) 1 22 [.ref (q 0), .int 3] [((q 0), .inr (11, (mO q t 0 0 0 0 0 0 0 (-1) ch 0 0 bn 0 bs km 0 0 0)))] (fun v : Int32 => v = (-1)) := by
  refine metr_go (by decide) (Nat.le_of_ble_eq_true rfl) (fun p e s m below meth c ls S hr hlk hP hK hl => ?_)
  have hl : lv_has ls 4 [(0, .ref (q 0)), (1, .int 3)] := hl
  refine lv_aload_n S.1 S.2.1 dX12_lineOf_0 rfl (lv_at hl 0 rfl) ?_
  refine call_ri (runV_R (wc := [((q 0), .inr (11, (mO q t 0 0 0 0 0 0 0 (-1) ch 0 0 bn 0 bs km 0 0 0)))]) (As := []) (rest := []) S (kX12_bookNow l D cy q t ch bn bs km) hK hP [0] rfl 0 11 rfl rfl kw_1954 kw_1956 kw_91 kw_152 kw_1957 okX12_bookNow rfl (by decide) hl.1 rfl (Nat.le_of_ble_eq_true rfl) dX12_lineOf_1 (by decide)) (fun v1 w1 => ?_)
  subst w1
  refine lv_istore_n (lv' := [(2, .int (-1)), (0, .ref (q 0)), (1, .int 3)]) S.1 S.2.1 dX12_lineOf_4 rfl hl (by decide) rfl (fun ls hl => ?_)
  refine lv_iconst (v := 0) S.1 S.2.1 dX12_lineOf_5 (by decide) ?_
  refine lv_istore_n (lv' := [(3, .int 0), (2, .int (-1)), (0, .ref (q 0)), (1, .int 3)]) S.1 S.2.1 dX12_lineOf_6 rfl hl (by decide) rfl (fun ls hl => ?_)
  refine lv_iload_n S.1 S.2.1 dX12_lineOf_7 rfl (lv_at hl 1 rfl) ?_
  refine r_if_lt S (-1) rfl dX12_lineOf_8 (tgt := 62) (by decide) (fun _ => ?_) (fun c => absurd c (by decide))
  refine lv_iconst (v := (-1)) S.1 S.2.1 dX12_lineOf_62 (by decide) ?_
  exact ri_ret S hr hlk rfl (rfl) dX12_lineOf_63
set_option maxHeartbeats 4000000 in
set_option maxRecDepth 100000 in
theorem kX12_bound (l : Launch) (D : va_G) (cy : Nat → ClassId) (q : Nat → Nat) (t : Int32) (ch : Int32) (bs : Int32) (km : Int32) (n : Nat) (f0 : Nat → Int32) (f1 : Nat → Int32) (f2 : Nat → Int32) (f3 : Nat → Int32) (p0 : Int32) (p1 : Int32) (p2 : Int32) (p3 : Int32) (z0 : Int) (h0 : p0.toInt = z0) (z1 : Int) (h1 : p1.toInt = z1) (z2 : Int) (h2 : p2.toInt = z2) (z3 : Int) (h3 : p3.toInt = z3) (hn : n < 600) : CV l D cy yX12_bound cX12_bound 5 none 0 0 0 0 [.ref (q 0), .int p0, .int p1, .int p2, .int p3] [((q 0), .inr (11, (mO q t 0 0 0 0 0 0 0 (-1) ch 0 0 (nI (n)) 0 bs km 0 0 0))), ((q 63), .inl (cy 0, 600, .inl f0)), ((q 64), .inl (cy 0, 600, .inl f1)), ((q 65), .inl (cy 0, 600, .inl f2)), ((q 66), .inl (cy 0, 600, .inl f3))] (fun (u : Unit) => True) (fun (u : Unit) => [((q 0), .inr (11, (mO q t 0 0 0 0 0 0 0 (-1) ch 0 0 (nI (n + 1)) 0 bs km 0 0 0))), ((q 63), .inl (cy 0, 600, .inl (upd f0 (n) p0))), ((q 64), .inl (cy 0, 600, .inl (upd f1 (n) p1))), ((q 65), .inl (cy 0, 600, .inl (upd f2 (n) p2))), ((q 66), .inl (cy 0, 600, .inl (upd f3 (n) p3)))]) := by
  refine cv_go (by decide) (Nat.le_of_ble_eq_true rfl) (fun p e s m below meth c ls A hA S hr hlk hnm hP hK hD hl => ?_)
  have hS : va_S A s.heap s.heap [] := va_S.rf
  have hl : lv_has ls 5 [(0, .ref (q 0)), (1, .int p0), (2, .int p1), (3, .int p2), (4, .int p3)] := hl
  refine lv_aload_n S.1 S.2.1 dX12_bound_0 rfl (lv_at hl 0 rfl) ?_
  refine r_get S hK hP 0 11 rfl rfl inX12 63 (by decide) kw_1573 (v := .ref (q 63)) rfl dX12_bound_1 ?_
  refine lv_aload_n S.1 S.2.1 dX12_bound_4 rfl (lv_at hl 0 rfl) ?_
  refine r_get S hK hP 0 11 rfl rfl inX12 62 (by decide) kw_1572 (v := .int (nI (n))) rfl dX12_bound_5 ?_
  refine lv_iload_n S.1 S.2.1 dX12_bound_8 rfl (lv_at hl 1 rfl) ?_
  refine r_iast S hK hP hD hS 1 0 rfl rfl ((n)) rfl (by omega) (by decide) dX12_bound_9 (fun H locs hP hD hS => ?_)
  have hP : va_P D vwCl [((q 0), .inr (11, (mO q t 0 0 0 0 0 0 0 (-1) ch 0 0 (nI (n)) 0 bs km 0 0 0))), ((q 63), .inl (cy 0, 600, .inl (upd f0 ((n)) p0))), ((q 64), .inl (cy 0, 600, .inl f1)), ((q 65), .inl (cy 0, 600, .inl f2)), ((q 66), .inl (cy 0, 600, .inl f3))] H := hP
  have hD : va_D A [((q 0), .inr (11, (mO q t 0 0 0 0 0 0 0 (-1) ch 0 0 (nI (n)) 0 bs km 0 0 0))), ((q 63), .inl (cy 0, 600, .inl (upd f0 ((n)) p0))), ((q 64), .inl (cy 0, 600, .inl f1)), ((q 65), .inl (cy 0, 600, .inl f2)), ((q 66), .inl (cy 0, 600, .inl f3))] := hD
  refine lv_aload_n S.1 S.2.1 dX12_bound_10 rfl (lv_at hl 0 rfl) ?_
  refine r_get S hK hP 0 11 rfl rfl inX12 64 (by decide) kw_1574 (v := .ref (q 64)) rfl dX12_bound_11 ?_
  refine lv_aload_n S.1 S.2.1 dX12_bound_14 rfl (lv_at hl 0 rfl) ?_
  refine r_get S hK hP 0 11 rfl rfl inX12 62 (by decide) kw_1572 (v := .int (nI (n))) rfl dX12_bound_15 ?_
  refine lv_iload_n S.1 S.2.1 dX12_bound_18 rfl (lv_at hl 2 rfl) ?_
  refine r_iast S hK hP hD hS 2 0 rfl rfl ((n)) rfl (by omega) (by decide) dX12_bound_19 (fun H locs hP hD hS => ?_)
  have hP : va_P D vwCl [((q 0), .inr (11, (mO q t 0 0 0 0 0 0 0 (-1) ch 0 0 (nI (n)) 0 bs km 0 0 0))), ((q 63), .inl (cy 0, 600, .inl (upd f0 ((n)) p0))), ((q 64), .inl (cy 0, 600, .inl (upd f1 ((n)) p1))), ((q 65), .inl (cy 0, 600, .inl f2)), ((q 66), .inl (cy 0, 600, .inl f3))] H := hP
  have hD : va_D A [((q 0), .inr (11, (mO q t 0 0 0 0 0 0 0 (-1) ch 0 0 (nI (n)) 0 bs km 0 0 0))), ((q 63), .inl (cy 0, 600, .inl (upd f0 ((n)) p0))), ((q 64), .inl (cy 0, 600, .inl (upd f1 ((n)) p1))), ((q 65), .inl (cy 0, 600, .inl f2)), ((q 66), .inl (cy 0, 600, .inl f3))] := hD
  refine lv_aload_n S.1 S.2.1 dX12_bound_20 rfl (lv_at hl 0 rfl) ?_
  refine r_get S hK hP 0 11 rfl rfl inX12 65 (by decide) kw_1575 (v := .ref (q 65)) rfl dX12_bound_21 ?_
  refine lv_aload_n S.1 S.2.1 dX12_bound_24 rfl (lv_at hl 0 rfl) ?_
  refine r_get S hK hP 0 11 rfl rfl inX12 62 (by decide) kw_1572 (v := .int (nI (n))) rfl dX12_bound_25 ?_
  refine lv_iload_n S.1 S.2.1 dX12_bound_28 rfl (lv_at hl 3 rfl) ?_
  refine r_iast S hK hP hD hS 3 0 rfl rfl ((n)) rfl (by omega) (by decide) dX12_bound_29 (fun H locs hP hD hS => ?_)
  have hP : va_P D vwCl [((q 0), .inr (11, (mO q t 0 0 0 0 0 0 0 (-1) ch 0 0 (nI (n)) 0 bs km 0 0 0))), ((q 63), .inl (cy 0, 600, .inl (upd f0 ((n)) p0))), ((q 64), .inl (cy 0, 600, .inl (upd f1 ((n)) p1))), ((q 65), .inl (cy 0, 600, .inl (upd f2 ((n)) p2))), ((q 66), .inl (cy 0, 600, .inl f3))] H := hP
  have hD : va_D A [((q 0), .inr (11, (mO q t 0 0 0 0 0 0 0 (-1) ch 0 0 (nI (n)) 0 bs km 0 0 0))), ((q 63), .inl (cy 0, 600, .inl (upd f0 ((n)) p0))), ((q 64), .inl (cy 0, 600, .inl (upd f1 ((n)) p1))), ((q 65), .inl (cy 0, 600, .inl (upd f2 ((n)) p2))), ((q 66), .inl (cy 0, 600, .inl f3))] := hD
  refine lv_aload_n S.1 S.2.1 dX12_bound_30 rfl (lv_at hl 0 rfl) ?_
  refine r_get S hK hP 0 11 rfl rfl inX12 66 (by decide) kw_1576 (v := .ref (q 66)) rfl dX12_bound_31 ?_
  refine lv_aload_n S.1 S.2.1 dX12_bound_34 rfl (lv_at hl 0 rfl) ?_
  refine r_get S hK hP 0 11 rfl rfl inX12 62 (by decide) kw_1572 (v := .int (nI (n))) rfl dX12_bound_35 ?_
  refine lv_iload S.1 S.2.1 dX12_bound_38 (lv_at hl 4 rfl) ?_
  refine r_iast S hK hP hD hS 4 0 rfl rfl ((n)) rfl (by omega) (by decide) dX12_bound_40 (fun H locs hP hD hS => ?_)
  have hP : va_P D vwCl [((q 0), .inr (11, (mO q t 0 0 0 0 0 0 0 (-1) ch 0 0 (nI (n)) 0 bs km 0 0 0))), ((q 63), .inl (cy 0, 600, .inl (upd f0 ((n)) p0))), ((q 64), .inl (cy 0, 600, .inl (upd f1 ((n)) p1))), ((q 65), .inl (cy 0, 600, .inl (upd f2 ((n)) p2))), ((q 66), .inl (cy 0, 600, .inl (upd f3 ((n)) p3)))] H := hP
  have hD : va_D A [((q 0), .inr (11, (mO q t 0 0 0 0 0 0 0 (-1) ch 0 0 (nI (n)) 0 bs km 0 0 0))), ((q 63), .inl (cy 0, 600, .inl (upd f0 ((n)) p0))), ((q 64), .inl (cy 0, 600, .inl (upd f1 ((n)) p1))), ((q 65), .inl (cy 0, 600, .inl (upd f2 ((n)) p2))), ((q 66), .inl (cy 0, 600, .inl (upd f3 ((n)) p3)))] := hD
  refine lv_aload_n S.1 S.2.1 dX12_bound_41 rfl (lv_at hl 0 rfl) ?_
  refine lv_dup S.1 S.2.1 dX12_bound_42 rfl ?_
  refine r_get S hK hP 0 11 rfl rfl inX12 62 (by decide) kw_1572 (v := .int (nI (n))) rfl dX12_bound_43 ?_
  refine lv_iconst (v := 1) S.1 S.2.1 dX12_bound_46 (by decide) ?_
  refine r_iadd S dX12_bound_47 (v := (nI ((n) + 1))) (nI_add ((n)) (1)) ?_
  refine r_put S hK hP hD hS 0 11 rfl rfl inX12 62 (by decide) tyX12 tyX12_ok nmX12 kw_1572 (v := .int (nI ((n) + 1))) rfl rfl rfl (Nat.le_of_ble_eq_true rfl) dX12_bound_48 (fun H locs hP hD hS => ?_)
  have hP : va_P D vwCl [((q 0), .inr (11, (mO q t 0 0 0 0 0 0 0 (-1) ch 0 0 (nI ((n) + 1)) 0 bs km 0 0 0))), ((q 63), .inl (cy 0, 600, .inl (upd f0 ((n)) p0))), ((q 64), .inl (cy 0, 600, .inl (upd f1 ((n)) p1))), ((q 65), .inl (cy 0, 600, .inl (upd f2 ((n)) p2))), ((q 66), .inl (cy 0, 600, .inl (upd f3 ((n)) p3)))] H := hP
  have hD : va_D A [((q 0), .inr (11, (mO q t 0 0 0 0 0 0 0 (-1) ch 0 0 (nI ((n) + 1)) 0 bs km 0 0 0))), ((q 63), .inl (cy 0, 600, .inl (upd f0 ((n)) p0))), ((q 64), .inl (cy 0, 600, .inl (upd f1 ((n)) p1))), ((q 65), .inl (cy 0, 600, .inl (upd f2 ((n)) p2))), ((q 66), .inl (cy 0, 600, .inl (upd f3 ((n)) p3)))] := hD
  exact cv_ret (u := ()) S hr hlk hK (hP.sub [0, 1, 2, 3, 4] rfl) (hD.sub [0, 1, 2, 3, 4] (by decide) rfl) hS (trivial) (by decide) (by decide) dX12_bound_51
set_option maxHeartbeats 4000000 in
set_option maxRecDepth 100000 in
theorem kX12_span (l : Launch) (D : va_G) (cy : Nat → ClassId) (q : Nat → Nat) (t : Int32) (ch : Int32) (bs : Int32) (km : Int32) (n : Nat) (f0 : Nat → Int32) (f1 : Nat → Int32) (f2 : Nat → Int32) (f3 : Nat → Int32) (p0 : Int32) (p1 : Int32) (z0 : Int) (h0 : p0.toInt = z0) (z1 : Int) (h1 : p1.toInt = z1) (hn : n < 599) : CV l D cy yX12_span cX12_span 6 none 1 24 0 0 [.ref (q 0), .int p0, .int p1, .int (-10), .int 10, .int (-1)] [((q 0), .inr (11, (mO q t 0 0 0 0 0 0 0 (-1) ch 0 0 (nI (n)) 0 bs km 0 0 0))), ((q 63), .inl (cy 0, 600, .inl f0)), ((q 64), .inl (cy 0, 600, .inl f1)), ((q 65), .inl (cy 0, 600, .inl f2)), ((q 66), .inl (cy 0, 600, .inl f3))] (fun (u : Unit) => True) (fun (u : Unit) => [((q 0), .inr (11, (mO q t 0 0 0 0 0 0 0 (-1) ch 0 0 (nI ((n + 1) + 1)) 0 bs km 0 0 0))), ((q 63), .inl (cy 0, 600, .inl (upd (upd f0 (n) p0) (n + 1) p1))), ((q 64), .inl (cy 0, 600, .inl (upd (upd f1 (n) p1) (n + 1) p0))), ((q 65), .inl (cy 0, 600, .inl (upd (upd f2 (n) 10) (n + 1) 10))), ((q 66), .inl (cy 0, 600, .inl (upd (upd f3 (n) (-1)) (n + 1) (-1))))]) := by
  refine cv_go (by decide) (Nat.le_of_ble_eq_true rfl) (fun p e s m below meth c ls A hA S hr hlk hnm hP hK hD hl => ?_)
  have hS : va_S A s.heap s.heap [] := va_S.rf
  have hl : lv_has ls 6 [(0, .ref (q 0)), (1, .int p0), (2, .int p1), (3, .int (-10)), (4, .int 10), (5, .int (-1))] := hl
  refine lv_aload_n S.1 S.2.1 dX12_span_0 rfl (lv_at hl 0 rfl) ?_
  refine lv_iload_n S.1 S.2.1 dX12_span_1 rfl (lv_at hl 1 rfl) ?_
  refine lv_iload_n S.1 S.2.1 dX12_span_2 rfl (lv_at hl 2 rfl) ?_
  refine lv_iload S.1 S.2.1 dX12_span_3 (lv_at hl 4 rfl) ?_
  refine lv_iload S.1 S.2.1 dX12_span_5 (lv_at hl 5 rfl) ?_
  refine call_v (wr := []) (runV_C (wc := [((q 0), .inr (11, (mO q t 0 0 0 0 0 0 0 (-1) ch 0 0 (nI ((n))) 0 bs km 0 0 0))), ((q 63), .inl (cy 0, 600, .inl f0)), ((q 64), .inl (cy 0, 600, .inl f1)), ((q 65), .inl (cy 0, 600, .inl f2)), ((q 66), .inl (cy 0, 600, .inl f3))]) (As := [.int p0, .int p1, .int 10, .int (-1)]) (rest := []) S (kX12_bound l D cy q t ch bs km (n) f0 f1 f2 f3 p0 p1 10 (-1) z0 h0 z1 h1 10 rfl (-1) rfl (by omega)) hK hP hD [0, 1, 2, 3, 4] (by decide) rfl 0 11 rfl rfl kw_2052 kw_2054 kw_114 kw_152 kw_2055 okX12_bound rfl (by decide) hl.1 rfl (Nat.le_of_ble_eq_true rfl) dX12_span_7 (by decide)) hP hD hS hA [0, 1, 2, 3, 4] [] rfl rfl (by decide) (by decide) (fun u7 H locs w7 hP hD hS => ?_)
  have hP : va_P D vwCl [((q 0), .inr (11, (mO q t 0 0 0 0 0 0 0 (-1) ch 0 0 (nI ((n) + 1)) 0 bs km 0 0 0))), ((q 63), .inl (cy 0, 600, .inl (upd f0 ((n)) p0))), ((q 64), .inl (cy 0, 600, .inl (upd f1 ((n)) p1))), ((q 65), .inl (cy 0, 600, .inl (upd f2 ((n)) 10))), ((q 66), .inl (cy 0, 600, .inl (upd f3 ((n)) (-1))))] H := hP
  have hD : va_D A [((q 0), .inr (11, (mO q t 0 0 0 0 0 0 0 (-1) ch 0 0 (nI ((n) + 1)) 0 bs km 0 0 0))), ((q 63), .inl (cy 0, 600, .inl (upd f0 ((n)) p0))), ((q 64), .inl (cy 0, 600, .inl (upd f1 ((n)) p1))), ((q 65), .inl (cy 0, 600, .inl (upd f2 ((n)) 10))), ((q 66), .inl (cy 0, 600, .inl (upd f3 ((n)) (-1))))] := hD
  refine lv_aload_n S.1 S.2.1 dX12_span_10 rfl (lv_at hl 0 rfl) ?_
  refine lv_iload_n S.1 S.2.1 dX12_span_11 rfl (lv_at hl 2 rfl) ?_
  refine lv_iload_n S.1 S.2.1 dX12_span_12 rfl (lv_at hl 1 rfl) ?_
  refine lv_iload_n S.1 S.2.1 dX12_span_13 rfl (lv_at hl 3 rfl) ?_
  refine r_ineg S dX12_span_14 (v := 10) (by decide) ?_
  refine lv_iload S.1 S.2.1 dX12_span_15 (lv_at hl 5 rfl) ?_
  refine call_v (wr := []) (runV_C (wc := [((q 0), .inr (11, (mO q t 0 0 0 0 0 0 0 (-1) ch 0 0 (nI (((n) + 1))) 0 bs km 0 0 0))), ((q 63), .inl (cy 0, 600, .inl (upd f0 ((n)) p0))), ((q 64), .inl (cy 0, 600, .inl (upd f1 ((n)) p1))), ((q 65), .inl (cy 0, 600, .inl (upd f2 ((n)) 10))), ((q 66), .inl (cy 0, 600, .inl (upd f3 ((n)) (-1))))]) (As := [.int p1, .int p0, .int 10, .int (-1)]) (rest := []) S (kX12_bound l D cy q t ch bs km ((n) + 1) (upd f0 ((n)) p0) (upd f1 ((n)) p1) (upd f2 ((n)) 10) (upd f3 ((n)) (-1)) p1 p0 10 (-1) z1 h1 z0 h0 10 rfl (-1) rfl (by omega)) hK hP hD [0, 1, 2, 3, 4] (by decide) rfl 0 11 rfl rfl kw_2052 kw_2054 kw_114 kw_152 kw_2055 okX12_bound rfl (by decide) hl.1 rfl (Nat.le_of_ble_eq_true rfl) dX12_span_17 (by decide)) hP hD hS hA [0, 1, 2, 3, 4] [] rfl rfl (by decide) (by decide) (fun u17 H locs w17 hP hD hS => ?_)
  have hP : va_P D vwCl [((q 0), .inr (11, (mO q t 0 0 0 0 0 0 0 (-1) ch 0 0 (nI (((n) + 1) + 1)) 0 bs km 0 0 0))), ((q 63), .inl (cy 0, 600, .inl (upd (upd f0 ((n)) p0) (((n) + 1)) p1))), ((q 64), .inl (cy 0, 600, .inl (upd (upd f1 ((n)) p1) (((n) + 1)) p0))), ((q 65), .inl (cy 0, 600, .inl (upd (upd f2 ((n)) 10) (((n) + 1)) 10))), ((q 66), .inl (cy 0, 600, .inl (upd (upd f3 ((n)) (-1)) (((n) + 1)) (-1))))] H := hP
  have hD : va_D A [((q 0), .inr (11, (mO q t 0 0 0 0 0 0 0 (-1) ch 0 0 (nI (((n) + 1) + 1)) 0 bs km 0 0 0))), ((q 63), .inl (cy 0, 600, .inl (upd (upd f0 ((n)) p0) (((n) + 1)) p1))), ((q 64), .inl (cy 0, 600, .inl (upd (upd f1 ((n)) p1) (((n) + 1)) p0))), ((q 65), .inl (cy 0, 600, .inl (upd (upd f2 ((n)) 10) (((n) + 1)) 10))), ((q 66), .inl (cy 0, 600, .inl (upd (upd f3 ((n)) (-1)) (((n) + 1)) (-1))))] := hD
  exact cv_ret (u := ()) S hr hlk hK (hP.sub [0, 1, 2, 3, 4] rfl) (hD.sub [0, 1, 2, 3, 4] (by decide) rfl) hS (trivial) (by decide) (by decide) dX12_span_20
set_option maxHeartbeats 4000000 in
set_option maxRecDepth 100000 in
theorem kX12_sideBounds (l : Launch) (D : va_G) (cy : Nat → ClassId) (q : Nat → Nat) (t : Int32) (ch : Int32) (bs : Int32) (km : Int32) (n : Nat) (f0 : Nat → Int32) (f1 : Nat → Int32) (f2 : Nat → Int32) (f3 : Nat → Int32) (p0 : Int32) (p1 : Int32) (p2 : Int32) (z0 : Int) (h0 : p0.toInt = z0) (z1 : Int) (h1 : p1.toInt = z1) (z2 : Int) (h2 : p2.toInt = z2) (hn : n < 599) : CV l D cy yX12_sideBounds cX12_sideBounds 10 none 2 49 0 0 [.ref (q 0), .int p0, .int p1, .int p2, .int 0, .long 0] [((q 0), .inr (11, (mO q t 0 0 0 0 0 0 0 (-1) ch 0 0 (nI (n)) 0 bs km 0 0 0))), ((q 63), .inl (cy 0, 600, .inl f0)), ((q 64), .inl (cy 0, 600, .inl f1)), ((q 65), .inl (cy 0, 600, .inl f2)), ((q 66), .inl (cy 0, 600, .inl f3))] (fun (u : Unit) => True) (fun (u : Unit) => [((q 0), .inr (11, (mO q t 0 0 0 0 0 0 0 (-1) ch 0 0 (nI ((n + 1) + 1)) 0 bs km 0 0 0))), ((q 63), .inl (cy 0, 600, .inl (upd (upd f0 (n) p0) (n + 1) p1))), ((q 64), .inl (cy 0, 600, .inl (upd (upd f1 (n) p1) (n + 1) p0))), ((q 65), .inl (cy 0, 600, .inl (upd (upd f2 (n) 10) (n + 1) 10))), ((q 66), .inl (cy 0, 600, .inl (upd (upd f3 (n) (-1)) (n + 1) (-1))))]) := by
  refine cv_go (by decide) (Nat.le_of_ble_eq_true rfl) (fun p e s m below meth c ls A hA S hr hlk hnm hP hK hD hl => ?_)
  have hS : va_S A s.heap s.heap [] := va_S.rf
  have hl : lv_has ls 10 [(0, .ref (q 0)), (1, .int p0), (2, .int p1), (3, .int p2), (4, .int 0), (5, .long 0)] := hl
  refine lv_aload_n S.1 S.2.1 dX12_sideBounds_0 rfl (lv_at hl 0 rfl) ?_
  refine lv_iload_n S.1 S.2.1 dX12_sideBounds_1 rfl (lv_at hl 3 rfl) ?_
  refine lv_iload S.1 S.2.1 dX12_sideBounds_2 (lv_at hl 4 rfl) ?_
  refine call_ri (runV_R (wc := [((q 0), .inr (11, (mO q t 0 0 0 0 0 0 0 (-1) ch 0 0 (nI (n)) 0 bs km 0 0 0)))]) (As := [.int p2, .int 0]) (rest := []) S (kX12_breakOn l D cy q t ch (nI (n)) bs km p2 0 z2 h2 0 rfl) hK hP [0] rfl 0 11 rfl rfl kw_2044 kw_2046 kw_112 kw_152 kw_2047 okX12_breakOn rfl (by decide) hl.1 rfl (Nat.le_of_ble_eq_true rfl) dX12_sideBounds_4 (by decide)) (fun v4 w4 => ?_)
  subst w4
  refine lv_istore (lv' := [(7, .int (-1)), (0, .ref (q 0)), (1, .int p0), (2, .int p1), (3, .int p2), (4, .int 0), (5, .long 0)]) S.1 S.2.1 dX12_sideBounds_7 hl (by decide) rfl (fun ls hl => ?_)
  refine lv_iload S.1 S.2.1 dX12_sideBounds_9 (lv_at hl 0 rfl) ?_
  refine r_if_lt S (-1) rfl dX12_sideBounds_11 (tgt := 36) (by decide) (fun _ => ?_) (fun c => absurd c (by decide))
  refine lv_iconst (v := 0) S.1 S.2.1 dX12_sideBounds_36 (by decide) ?_
  refine lv_istore (lv' := [(8, .int 0), (7, .int (-1)), (0, .ref (q 0)), (1, .int p0), (2, .int p1), (3, .int p2), (4, .int 0), (5, .long 0)]) S.1 S.2.1 dX12_sideBounds_37 hl (by decide) rfl (fun ls hl => ?_)
  refine lv_iconst (v := 0) S.1 S.2.1 dX12_sideBounds_39 (by decide) ?_
  refine lv_istore (lv' := [(9, .int 0), (8, .int 0), (7, .int (-1)), (0, .ref (q 0)), (1, .int p0), (2, .int p1), (3, .int p2), (4, .int 0), (5, .long 0)]) S.1 S.2.1 dX12_sideBounds_40 hl (by decide) rfl (fun ls hl => ?_)
  refine lv_iload S.1 S.2.1 dX12_sideBounds_42 (lv_at hl 0 rfl) ?_
  refine lv_aload_n S.1 S.2.1 dX12_sideBounds_44 rfl (lv_at hl 3 rfl) ?_
  refine r_get S hK hP 0 11 rfl rfl inX12 40 (by decide) kw_1550 (v := .int 0) rfl dX12_sideBounds_45 ?_
  refine r_icmp_ge S 0 0 rfl rfl dX12_sideBounds_48 (tgt := 165) (by decide) (fun _ => ?_) (fun c => absurd c (by decide))
  refine lv_iload S.1 S.2.1 dX12_sideBounds_165 (lv_at hl 1 rfl) ?_
  refine r_if_ne S 0 rfl dX12_sideBounds_167 (tgt := 205) (by decide) (fun c => absurd c (by decide)) (fun _ => ?_)
  refine lv_aload_n S.1 S.2.1 dX12_sideBounds_170 rfl (lv_at hl 3 rfl) ?_
  refine call_ri (runV_R (wc := [((q 0), .inr (11, (mO q t 0 0 0 0 0 0 0 (-1) ch 0 0 (nI (n)) 0 bs km 0 0 0)))]) (As := []) (rest := []) S (kX12_bookNow l D cy q t ch (nI (n)) bs km) hK hP [0] rfl 0 11 rfl rfl kw_1954 kw_1956 kw_91 kw_152 kw_1957 okX12_bookNow rfl (by decide) hl.1 rfl (Nat.le_of_ble_eq_true rfl) dX12_sideBounds_171 (by decide)) (fun v171 w171 => ?_)
  subst w171
  refine r_if_ge S (-1) rfl dX12_sideBounds_174 (tgt := 182) (by decide) (fun c => absurd c (by decide)) (fun _ => ?_)
  refine lv_bipush (v := 10) S.1 S.2.1 dX12_sideBounds_177 (by decide) ?_
  refine lv_goto (tgt := 191) S.1 S.2.1 dX12_sideBounds_179 (by decide) ?_
  refine lv_istore (lv' := [(9, .int 10), (8, .int 0), (7, .int (-1)), (0, .ref (q 0)), (1, .int p0), (2, .int p1), (3, .int p2), (4, .int 0), (5, .long 0)]) S.1 S.2.1 dX12_sideBounds_191 hl (by decide) rfl (fun ls hl => ?_)
  refine lv_aload_n S.1 S.2.1 dX12_sideBounds_193 rfl (lv_at hl 3 rfl) ?_
  refine lv_iload_n S.1 S.2.1 dX12_sideBounds_194 rfl (lv_at hl 4 rfl) ?_
  refine lv_iload_n S.1 S.2.1 dX12_sideBounds_195 rfl (lv_at hl 5 rfl) ?_
  refine lv_iload S.1 S.2.1 dX12_sideBounds_196 (lv_at hl 0 rfl) ?_
  refine r_ineg S dX12_sideBounds_198 (v := (-10)) (by decide) ?_
  refine lv_iload S.1 S.2.1 dX12_sideBounds_199 (lv_at hl 0 rfl) ?_
  refine lv_iconst (v := (-1)) S.1 S.2.1 dX12_sideBounds_201 (by decide) ?_
  refine call_v (wr := []) (runV_C (wc := [((q 0), .inr (11, (mO q t 0 0 0 0 0 0 0 (-1) ch 0 0 (nI ((n))) 0 bs km 0 0 0))), ((q 63), .inl (cy 0, 600, .inl f0)), ((q 64), .inl (cy 0, 600, .inl f1)), ((q 65), .inl (cy 0, 600, .inl f2)), ((q 66), .inl (cy 0, 600, .inl f3))]) (As := [.int p0, .int p1, .int (-10), .int 10, .int (-1)]) (rest := []) S (kX12_span l D cy q t ch bs km (n) f0 f1 f2 f3 p0 p1 z0 h0 z1 h1 (by omega)) hK hP hD [0, 1, 2, 3, 4] (by decide) rfl 0 11 rfl rfl kw_2048 kw_2050 kw_113 kw_152 kw_2051 okX12_span rfl (by decide) hl.1 rfl (Nat.le_of_ble_eq_true rfl) dX12_sideBounds_202 (by decide)) hP hD hS hA [0, 1, 2, 3, 4] [] rfl rfl (by decide) (by decide) (fun u202 H locs w202 hP hD hS => ?_)
  have hP : va_P D vwCl [((q 0), .inr (11, (mO q t 0 0 0 0 0 0 0 (-1) ch 0 0 (nI (((n) + 1) + 1)) 0 bs km 0 0 0))), ((q 63), .inl (cy 0, 600, .inl (upd (upd f0 ((n)) p0) ((n) + 1) p1))), ((q 64), .inl (cy 0, 600, .inl (upd (upd f1 ((n)) p1) ((n) + 1) p0))), ((q 65), .inl (cy 0, 600, .inl (upd (upd f2 ((n)) 10) ((n) + 1) 10))), ((q 66), .inl (cy 0, 600, .inl (upd (upd f3 ((n)) (-1)) ((n) + 1) (-1))))] H := hP
  have hD : va_D A [((q 0), .inr (11, (mO q t 0 0 0 0 0 0 0 (-1) ch 0 0 (nI (((n) + 1) + 1)) 0 bs km 0 0 0))), ((q 63), .inl (cy 0, 600, .inl (upd (upd f0 ((n)) p0) ((n) + 1) p1))), ((q 64), .inl (cy 0, 600, .inl (upd (upd f1 ((n)) p1) ((n) + 1) p0))), ((q 65), .inl (cy 0, 600, .inl (upd (upd f2 ((n)) 10) ((n) + 1) 10))), ((q 66), .inl (cy 0, 600, .inl (upd (upd f3 ((n)) (-1)) ((n) + 1) (-1))))] := hD
  exact cv_ret (u := ()) S hr hlk hK (hP.sub [0, 1, 2, 3, 4] rfl) (hD.sub [0, 1, 2, 3, 4] (by decide) rfl) hS (trivial) (by decide) (by decide) dX12_sideBounds_205
set_option maxHeartbeats 4000000 in
set_option maxRecDepth 100000 in
theorem kX12_findBounds (l : Launch) (D : va_G) (cy : Nat → ClassId) (q : Nat → Nat) (t : Int32) (bs : Int32) (km : Int32) : CV l D cy yX12_findBounds cX12_findBounds 6 none 3 78 0 0 [.ref (q 0), .int 0, .long 0, .int 1] [((q 0), .inr (11, (mO q t 0 0 0 0 0 0 0 (-1) 0 0 0 0 0 bs km 0 0 0))), ((q 63), .inl (cy 0, 600, .inl (fun _ => 0))), ((q 64), .inl (cy 0, 600, .inl (fun _ => 0))), ((q 65), .inl (cy 0, 600, .inl (fun _ => 0))), ((q 66), .inl (cy 0, 600, .inl (fun _ => 0)))] (fun (u : (Nat) × (Nat → Int32) × (Nat → Int32) × (Nat → Int32) × (Nat → Int32)) => (u.1) ≤ 384 ∧ Bd (u.1) (u.2.1) (u.2.2.1) (u.2.2.2.1)) (fun (u : (Nat) × (Nat → Int32) × (Nat → Int32) × (Nat → Int32) × (Nat → Int32)) => [((q 0), .inr (11, (mO q t 0 0 0 0 0 0 0 (-1) 0 0 0 (nI ((u.1))) 0 bs km 0 0 0))), ((q 63), .inl (cy 0, 600, .inl (u.2.1))), ((q 64), .inl (cy 0, 600, .inl (u.2.2.1))), ((q 65), .inl (cy 0, 600, .inl (u.2.2.2.1))), ((q 66), .inl (cy 0, 600, .inl (u.2.2.2.2)))]) := by
  refine cv_go (by decide) (Nat.le_of_ble_eq_true rfl) (fun p e s m below meth c ls A hA S hr hlk hnm hP hK hD hl => ?_)
  have hS : va_S A s.heap s.heap [] := va_S.rf
  have hl : lv_has ls 6 [(0, .ref (q 0)), (1, .int 0), (2, .long 0), (4, .int 1)] := hl
  refine lv_aload_n S.1 S.2.1 dX12_findBounds_0 rfl (lv_at hl 0 rfl) ?_
  refine lv_iconst (v := 0) S.1 S.2.1 dX12_findBounds_1 (by decide) ?_
  refine r_put S hK hP hD hS 0 11 rfl rfl inX12 62 (by decide) tyX12 tyX12_ok nmX12 kw_1572 (v := .int 0) rfl rfl rfl (Nat.le_of_ble_eq_true rfl) dX12_findBounds_2 (fun H locs hP hD hS => ?_)
  have hP : va_P D vwCl [((q 0), .inr (11, (mO q t 0 0 0 0 0 0 0 (-1) 0 0 0 0 0 bs km 0 0 0))), ((q 63), .inl (cy 0, 600, .inl (fun _ => 0))), ((q 64), .inl (cy 0, 600, .inl (fun _ => 0))), ((q 65), .inl (cy 0, 600, .inl (fun _ => 0))), ((q 66), .inl (cy 0, 600, .inl (fun _ => 0)))] H := hP
  have hD : va_D A [((q 0), .inr (11, (mO q t 0 0 0 0 0 0 0 (-1) 0 0 0 0 0 bs km 0 0 0))), ((q 63), .inl (cy 0, 600, .inl (fun _ => 0))), ((q 64), .inl (cy 0, 600, .inl (fun _ => 0))), ((q 65), .inl (cy 0, 600, .inl (fun _ => 0))), ((q 66), .inl (cy 0, 600, .inl (fun _ => 0)))] := hD
  refine lv_iconst (v := 0) S.1 S.2.1 dX12_findBounds_5 (by decide) ?_
  refine lv_istore (lv' := [(5, .int 0), (0, .ref (q 0)), (1, .int 0), (2, .long 0), (4, .int 1)]) S.1 S.2.1 dX12_findBounds_6 hl (by decide) rfl (fun ls hl => ?_)
  refine loopN (σ := (Nat) × (Nat → Int32) × (Nat → Int32) × (Nat → Int32) × (Nat → Int32)) 8 96 (fun k xs9 => [((q 0), .inr (11, (mO q t 0 0 0 0 0 0 0 (-1) 0 0 0 (nI ((xs9.1))) 0 bs km 0 0 0))), ((q 63), .inl (cy 0, 600, .inl (xs9.2.1))), ((q 64), .inl (cy 0, 600, .inl (xs9.2.2.1))), ((q 65), .inl (cy 0, 600, .inl (xs9.2.2.2.1))), ((q 66), .inl (cy 0, 600, .inl (xs9.2.2.2.2)))]) (fun k xs9 => [(5, .int (nI (k))), (0, .ref (q 0)), (1, .int 0), (2, .long 0), (4, .int 1)]) (fun k xs9 => (xs9.1) ≤ 4 * k ∧ Bd (xs9.1) (xs9.2.1) (xs9.2.2.1) (xs9.2.2.2.1)) (fun xs9 hJ H locs ls hP hD hS hl => ?_) (fun k xs9 hk hJ H locs ls hP hD hS hl ih => ?_) (0, (fun _ => 0), (fun _ => 0), (fun _ => 0), (fun _ => 0)) ⟨by omega, bd_0 _ _ _⟩ (hP.sub [0, 1, 2, 3, 4] rfl) (hD.sub [0, 1, 2, 3, 4] (by decide) rfl) hS (lv_sub hl [0, 1, 2, 3, 4] rfl)
  · obtain ⟨n, g0, g1, g2, g3⟩ := xs9
    have hJ : n ≤ 4 * 96 ∧ Bd n g0 g1 g2 := hJ
    have hP : va_P D vwCl [((q 0), .inr (11, (mO q t 0 0 0 0 0 0 0 (-1) 0 0 0 (nI (n)) 0 bs km 0 0 0))), ((q 63), .inl (cy 0, 600, .inl g0)), ((q 64), .inl (cy 0, 600, .inl g1)), ((q 65), .inl (cy 0, 600, .inl g2)), ((q 66), .inl (cy 0, 600, .inl g3))] H := hP
    have hD : va_D A [((q 0), .inr (11, (mO q t 0 0 0 0 0 0 0 (-1) 0 0 0 (nI (n)) 0 bs km 0 0 0))), ((q 63), .inl (cy 0, 600, .inl g0)), ((q 64), .inl (cy 0, 600, .inl g1)), ((q 65), .inl (cy 0, 600, .inl g2)), ((q 66), .inl (cy 0, 600, .inl g3))] := hD
    have hl : lv_has ls 6 [(5, .int 96), (0, .ref (q 0)), (1, .int 0), (2, .long 0), (4, .int 1)] := hl
    obtain ⟨hn4, hB⟩ := hJ
    refine lv_iload S.1 S.2.1 dX12_findBounds_8 (lv_at hl 0 rfl) ?_
    refine lv_bipush (v := 96) S.1 S.2.1 dX12_findBounds_10 (by decide) ?_
    refine r_icmp_ge S 96 96 rfl rfl dX12_findBounds_12 (tgt := 73) (by decide) (fun _ => ?_) (fun c => absurd c (by decide))
    refine lv_iconst (v := 0) S.1 S.2.1 dX12_findBounds_73 (by decide) ?_
    refine lv_istore (lv' := [(5, .int 0), (0, .ref (q 0)), (1, .int 0), (2, .long 0), (4, .int 1)]) S.1 S.2.1 dX12_findBounds_74 hl (by decide) rfl (fun ls hl => ?_)
    refine lv_iload S.1 S.2.1 dX12_findBounds_76 (lv_at hl 0 rfl) ?_
    refine lv_aload_n S.1 S.2.1 dX12_findBounds_78 rfl (lv_at hl 1 rfl) ?_
    refine r_get S hK hP 0 11 rfl rfl inX12 40 (by decide) kw_1550 (v := .int 0) rfl dX12_findBounds_79 ?_
    refine r_icmp_ge S 0 0 rfl rfl dX12_findBounds_82 (tgt := 144) (by decide) (fun _ => ?_) (fun c => absurd c (by decide))
    exact cv_ret (u := (n, g0, g1, g2, g3)) S hr hlk hK (hP.sub [0, 1, 2, 3, 4] rfl) (hD.sub [0, 1, 2, 3, 4] (by decide) rfl) hS (⟨(by omega), hB⟩) (by decide) (by decide) dX12_findBounds_144
  · obtain ⟨n, g0, g1, g2, g3⟩ := xs9
    have hJ : n ≤ 4 * k ∧ Bd n g0 g1 g2 := hJ
    have hP : va_P D vwCl [((q 0), .inr (11, (mO q t 0 0 0 0 0 0 0 (-1) 0 0 0 (nI (n)) 0 bs km 0 0 0))), ((q 63), .inl (cy 0, 600, .inl g0)), ((q 64), .inl (cy 0, 600, .inl g1)), ((q 65), .inl (cy 0, 600, .inl g2)), ((q 66), .inl (cy 0, 600, .inl g3))] H := hP
    have hD : va_D A [((q 0), .inr (11, (mO q t 0 0 0 0 0 0 0 (-1) 0 0 0 (nI (n)) 0 bs km 0 0 0))), ((q 63), .inl (cy 0, 600, .inl g0)), ((q 64), .inl (cy 0, 600, .inl g1)), ((q 65), .inl (cy 0, 600, .inl g2)), ((q 66), .inl (cy 0, 600, .inl g3))] := hD
    have hl : lv_has ls 6 [(5, .int (nI (k))), (0, .ref (q 0)), (1, .int 0), (2, .long 0), (4, .int 1)] := hl
    obtain ⟨hn4, hB⟩ := hJ
    refine lv_iload S.1 S.2.1 dX12_findBounds_8 (lv_at hl 0 rfl) ?_
    refine lv_bipush (v := 96) S.1 S.2.1 dX12_findBounds_10 (by decide) ?_
    refine r_icmp_ge S ((k : Nat) : Int) 96 (nI_toInt (by omega)) rfl dX12_findBounds_12 (tgt := 73) (by decide) (fun c => absurd c (by omega)) (fun _ => ?_)
    refine lv_iload S.1 S.2.1 dX12_findBounds_15 (lv_at hl 0 rfl) ?_
    refine lv_bipush (v := 12) S.1 S.2.1 dX12_findBounds_17 (by decide) ?_
    refine r_irem S dX12_findBounds_19 (by decide) (v := (nI ((k) % 12))) (pk_rem (a := (k)) (d := 12) (by omega) (by omega) (by omega)) ?_
    refine lv_bipush (v := 11) S.1 S.2.1 dX12_findBounds_20 (by decide) ?_
    refine r_icmp_ge S (((k) % 12 : Nat) : Int) 11 (nI_toInt (by omega)) rfl dX12_findBounds_22 (tgt := 39) (by decide) (fun e_22_1 => ?_) (fun e_22_1 => ?_)
    · refine lv_iload S.1 S.2.1 dX12_findBounds_39 (lv_at hl 0 rfl) ?_
      refine lv_bipush (v := 12) S.1 S.2.1 dX12_findBounds_41 (by decide) ?_
      refine r_idiv S dX12_findBounds_43 (by decide) (v := (nI ((k) / 12))) (pk_div (a := (k)) (d := 12) (by omega) (by omega) (by omega)) ?_
      refine lv_bipush (v := 7) S.1 S.2.1 dX12_findBounds_44 (by decide) ?_
      refine r_icmp_ge S (((k) / 12 : Nat) : Int) 7 (nI_toInt (by omega)) rfl dX12_findBounds_46 (tgt := 67) (by decide) (fun e_46_2 => ?_) (fun e_46_2 => ?_)
      · refine lv_iinc (v := (nI ((k) + 1))) (lv' := [(5, .int (nI ((k) + 1))), (0, .ref (q 0)), (1, .int 0), (2, .long 0), (4, .int 1)]) S.1 S.2.1 dX12_findBounds_67 hl (k := 0) rfl (nI_1 (k)) (by decide) rfl (fun ls hl => ?_)
        refine lv_goto (tgt := 8) S.1 S.2.1 dX12_findBounds_70 (by decide) ?_
        exact ih ((n), g0, g1, g2, g3) _ _ _ ⟨by omega, hB⟩ (hP.sub [0, 1, 2, 3, 4] rfl) (hD.sub [0, 1, 2, 3, 4] (by decide) rfl) hS (lv_sub hl [0, 1, 2, 3, 4] rfl)
      · refine lv_aload_n S.1 S.2.1 dX12_findBounds_49 rfl (lv_at hl 1 rfl) ?_
        refine lv_iload S.1 S.2.1 dX12_findBounds_50 (lv_at hl 0 rfl) ?_
        refine lv_iload S.1 S.2.1 dX12_findBounds_52 (lv_at hl 0 rfl) ?_
        refine lv_bipush (v := 12) S.1 S.2.1 dX12_findBounds_54 (by decide) ?_
        refine r_iadd S dX12_findBounds_56 (v := (nI ((k) + 12))) (nI_add ((k)) (12)) ?_
        refine lv_bipush (v := 96) S.1 S.2.1 dX12_findBounds_57 (by decide) ?_
        refine lv_iload S.1 S.2.1 dX12_findBounds_59 (lv_at hl 0 rfl) ?_
        refine r_iadd S dX12_findBounds_61 (v := (nI (96 + (k)))) (nI_add (96) ((k))) ?_
        refine lv_iload_n S.1 S.2.1 dX12_findBounds_62 rfl (lv_at hl 2 rfl) ?_
        refine lv_lload_n S.1 S.2.1 dX12_findBounds_63 rfl (lv_at hl 3 rfl) ?_
        refine call_v (wr := []) (runV_C (wc := [((q 0), .inr (11, (mO q t 0 0 0 0 0 0 0 (-1) 0 0 0 (nI ((n))) 0 bs km 0 0 0))), ((q 63), .inl (cy 0, 600, .inl g0)), ((q 64), .inl (cy 0, 600, .inl g1)), ((q 65), .inl (cy 0, 600, .inl g2)), ((q 66), .inl (cy 0, 600, .inl g3))]) (As := [.int (nI (k)), .int (nI ((k) + 12)), .int (nI (96 + (k))), .int 0, .long 0]) (rest := []) S (kX12_sideBounds l D cy q t 0 bs km (n) g0 g1 g2 g3 (nI (k)) (nI ((k) + 12)) (nI (96 + (k))) ((k : Nat) : Int) (nI_toInt (by omega)) (((k) + 12 : Nat) : Int) (nI_toInt (by omega)) ((96 + (k) : Nat) : Int) (nI_toInt (by omega)) (by omega)) hK hP hD [0, 1, 2, 3, 4] (by decide) rfl 0 11 rfl rfl kw_2040 kw_2042 kw_111 kw_152 kw_2043 okX12_sideBounds rfl (by decide) hl.1 rfl (Nat.le_of_ble_eq_true rfl) dX12_findBounds_64 (by decide)) hP hD hS hA [0, 1, 2, 3, 4] [] rfl rfl (by decide) (by decide) (fun u64 H locs w64 hP hD hS => ?_)
        have hP : va_P D vwCl [((q 0), .inr (11, (mO q t 0 0 0 0 0 0 0 (-1) 0 0 0 (nI (((n) + 1) + 1)) 0 bs km 0 0 0))), ((q 63), .inl (cy 0, 600, .inl (upd (upd g0 ((n)) (nI (k))) ((n) + 1) (nI ((k) + 12))))), ((q 64), .inl (cy 0, 600, .inl (upd (upd g1 ((n)) (nI ((k) + 12))) ((n) + 1) (nI (k))))), ((q 65), .inl (cy 0, 600, .inl (upd (upd g2 ((n)) 10) ((n) + 1) 10))), ((q 66), .inl (cy 0, 600, .inl (upd (upd g3 ((n)) (-1)) ((n) + 1) (-1))))] H := hP
        have hD : va_D A [((q 0), .inr (11, (mO q t 0 0 0 0 0 0 0 (-1) 0 0 0 (nI (((n) + 1) + 1)) 0 bs km 0 0 0))), ((q 63), .inl (cy 0, 600, .inl (upd (upd g0 ((n)) (nI (k))) ((n) + 1) (nI ((k) + 12))))), ((q 64), .inl (cy 0, 600, .inl (upd (upd g1 ((n)) (nI ((k) + 12))) ((n) + 1) (nI (k))))), ((q 65), .inl (cy 0, 600, .inl (upd (upd g2 ((n)) 10) ((n) + 1) 10))), ((q 66), .inl (cy 0, 600, .inl (upd (upd g3 ((n)) (-1)) ((n) + 1) (-1))))] := hD
        refine lv_iinc (v := (nI ((k) + 1))) (lv' := [(5, .int (nI ((k) + 1))), (0, .ref (q 0)), (1, .int 0), (2, .long 0), (4, .int 1)]) S.1 S.2.1 dX12_findBounds_67 hl (k := 0) rfl (nI_1 (k)) (by decide) rfl (fun ls hl => ?_)
        refine lv_goto (tgt := 8) S.1 S.2.1 dX12_findBounds_70 (by decide) ?_
        exact ih ((((n) + 1) + 1), (upd (upd g0 ((n)) (nI (k))) ((n) + 1) (nI ((k) + 12))), (upd (upd g1 ((n)) (nI ((k) + 12))) ((n) + 1) (nI (k))), (upd (upd g2 ((n)) 10) ((n) + 1) 10), (upd (upd g3 ((n)) (-1)) ((n) + 1) (-1))) _ _ _ ⟨by omega, (bd_add hB (c := k) (d := k + 12) (by omega) (by omega))⟩ (hP.sub [0, 1, 2, 3, 4] rfl) (hD.sub [0, 1, 2, 3, 4] (by decide) rfl) hS (lv_sub hl [0, 1, 2, 3, 4] rfl)
    · refine lv_aload_n S.1 S.2.1 dX12_findBounds_25 rfl (lv_at hl 1 rfl) ?_
      refine lv_iload S.1 S.2.1 dX12_findBounds_26 (lv_at hl 0 rfl) ?_
      refine lv_iload S.1 S.2.1 dX12_findBounds_28 (lv_at hl 0 rfl) ?_
      refine lv_iconst (v := 1) S.1 S.2.1 dX12_findBounds_30 (by decide) ?_
      refine r_iadd S dX12_findBounds_31 (v := (nI ((k) + 1))) (nI_add ((k)) (1)) ?_
      refine lv_iload S.1 S.2.1 dX12_findBounds_32 (lv_at hl 0 rfl) ?_
      refine lv_iload_n S.1 S.2.1 dX12_findBounds_34 rfl (lv_at hl 2 rfl) ?_
      refine lv_lload_n S.1 S.2.1 dX12_findBounds_35 rfl (lv_at hl 3 rfl) ?_
      refine call_v (wr := []) (runV_C (wc := [((q 0), .inr (11, (mO q t 0 0 0 0 0 0 0 (-1) 0 0 0 (nI ((n))) 0 bs km 0 0 0))), ((q 63), .inl (cy 0, 600, .inl g0)), ((q 64), .inl (cy 0, 600, .inl g1)), ((q 65), .inl (cy 0, 600, .inl g2)), ((q 66), .inl (cy 0, 600, .inl g3))]) (As := [.int (nI (k)), .int (nI ((k) + 1)), .int (nI (k)), .int 0, .long 0]) (rest := []) S (kX12_sideBounds l D cy q t 0 bs km (n) g0 g1 g2 g3 (nI (k)) (nI ((k) + 1)) (nI (k)) ((k : Nat) : Int) (nI_toInt (by omega)) (((k) + 1 : Nat) : Int) (nI_toInt (by omega)) ((k : Nat) : Int) (nI_toInt (by omega)) (by omega)) hK hP hD [0, 1, 2, 3, 4] (by decide) rfl 0 11 rfl rfl kw_2040 kw_2042 kw_111 kw_152 kw_2043 okX12_sideBounds rfl (by decide) hl.1 rfl (Nat.le_of_ble_eq_true rfl) dX12_findBounds_36 (by decide)) hP hD hS hA [0, 1, 2, 3, 4] [] rfl rfl (by decide) (by decide) (fun u36 H locs w36 hP hD hS => ?_)
      have hP : va_P D vwCl [((q 0), .inr (11, (mO q t 0 0 0 0 0 0 0 (-1) 0 0 0 (nI (((n) + 1) + 1)) 0 bs km 0 0 0))), ((q 63), .inl (cy 0, 600, .inl (upd (upd g0 ((n)) (nI (k))) ((n) + 1) (nI ((k) + 1))))), ((q 64), .inl (cy 0, 600, .inl (upd (upd g1 ((n)) (nI ((k) + 1))) ((n) + 1) (nI (k))))), ((q 65), .inl (cy 0, 600, .inl (upd (upd g2 ((n)) 10) ((n) + 1) 10))), ((q 66), .inl (cy 0, 600, .inl (upd (upd g3 ((n)) (-1)) ((n) + 1) (-1))))] H := hP
      have hD : va_D A [((q 0), .inr (11, (mO q t 0 0 0 0 0 0 0 (-1) 0 0 0 (nI (((n) + 1) + 1)) 0 bs km 0 0 0))), ((q 63), .inl (cy 0, 600, .inl (upd (upd g0 ((n)) (nI (k))) ((n) + 1) (nI ((k) + 1))))), ((q 64), .inl (cy 0, 600, .inl (upd (upd g1 ((n)) (nI ((k) + 1))) ((n) + 1) (nI (k))))), ((q 65), .inl (cy 0, 600, .inl (upd (upd g2 ((n)) 10) ((n) + 1) 10))), ((q 66), .inl (cy 0, 600, .inl (upd (upd g3 ((n)) (-1)) ((n) + 1) (-1))))] := hD
      refine lv_iload S.1 S.2.1 dX12_findBounds_39 (lv_at hl 0 rfl) ?_
      refine lv_bipush (v := 12) S.1 S.2.1 dX12_findBounds_41 (by decide) ?_
      refine r_idiv S dX12_findBounds_43 (by decide) (v := (nI ((k) / 12))) (pk_div (a := (k)) (d := 12) (by omega) (by omega) (by omega)) ?_
      refine lv_bipush (v := 7) S.1 S.2.1 dX12_findBounds_44 (by decide) ?_
      refine r_icmp_ge S (((k) / 12 : Nat) : Int) 7 (nI_toInt (by omega)) rfl dX12_findBounds_46 (tgt := 67) (by decide) (fun e_46_2 => ?_) (fun e_46_2 => ?_)
      · refine lv_iinc (v := (nI ((k) + 1))) (lv' := [(5, .int (nI ((k) + 1))), (0, .ref (q 0)), (1, .int 0), (2, .long 0), (4, .int 1)]) S.1 S.2.1 dX12_findBounds_67 hl (k := 0) rfl (nI_1 (k)) (by decide) rfl (fun ls hl => ?_)
        refine lv_goto (tgt := 8) S.1 S.2.1 dX12_findBounds_70 (by decide) ?_
        exact ih ((((n) + 1) + 1), (upd (upd g0 ((n)) (nI (k))) ((n) + 1) (nI ((k) + 1))), (upd (upd g1 ((n)) (nI ((k) + 1))) ((n) + 1) (nI (k))), (upd (upd g2 ((n)) 10) ((n) + 1) 10), (upd (upd g3 ((n)) (-1)) ((n) + 1) (-1))) _ _ _ ⟨by omega, (bd_add hB (c := k) (d := k + 1) (by omega) (by omega))⟩ (hP.sub [0, 1, 2, 3, 4] rfl) (hD.sub [0, 1, 2, 3, 4] (by decide) rfl) hS (lv_sub hl [0, 1, 2, 3, 4] rfl)
      · refine lv_aload_n S.1 S.2.1 dX12_findBounds_49 rfl (lv_at hl 1 rfl) ?_
        refine lv_iload S.1 S.2.1 dX12_findBounds_50 (lv_at hl 0 rfl) ?_
        refine lv_iload S.1 S.2.1 dX12_findBounds_52 (lv_at hl 0 rfl) ?_
        refine lv_bipush (v := 12) S.1 S.2.1 dX12_findBounds_54 (by decide) ?_
        refine r_iadd S dX12_findBounds_56 (v := (nI ((k) + 12))) (nI_add ((k)) (12)) ?_
        refine lv_bipush (v := 96) S.1 S.2.1 dX12_findBounds_57 (by decide) ?_
        refine lv_iload S.1 S.2.1 dX12_findBounds_59 (lv_at hl 0 rfl) ?_
        refine r_iadd S dX12_findBounds_61 (v := (nI (96 + (k)))) (nI_add (96) ((k))) ?_
        refine lv_iload_n S.1 S.2.1 dX12_findBounds_62 rfl (lv_at hl 2 rfl) ?_
        refine lv_lload_n S.1 S.2.1 dX12_findBounds_63 rfl (lv_at hl 3 rfl) ?_
        refine call_v (wr := []) (runV_C (wc := [((q 0), .inr (11, (mO q t 0 0 0 0 0 0 0 (-1) 0 0 0 (nI ((((n) + 1) + 1))) 0 bs km 0 0 0))), ((q 63), .inl (cy 0, 600, .inl (upd (upd g0 ((n)) (nI (k))) ((n) + 1) (nI ((k) + 1))))), ((q 64), .inl (cy 0, 600, .inl (upd (upd g1 ((n)) (nI ((k) + 1))) ((n) + 1) (nI (k))))), ((q 65), .inl (cy 0, 600, .inl (upd (upd g2 ((n)) 10) ((n) + 1) 10))), ((q 66), .inl (cy 0, 600, .inl (upd (upd g3 ((n)) (-1)) ((n) + 1) (-1))))]) (As := [.int (nI (k)), .int (nI ((k) + 12)), .int (nI (96 + (k))), .int 0, .long 0]) (rest := []) S (kX12_sideBounds l D cy q t 0 bs km (((n) + 1) + 1) (upd (upd g0 ((n)) (nI (k))) ((n) + 1) (nI ((k) + 1))) (upd (upd g1 ((n)) (nI ((k) + 1))) ((n) + 1) (nI (k))) (upd (upd g2 ((n)) 10) ((n) + 1) 10) (upd (upd g3 ((n)) (-1)) ((n) + 1) (-1)) (nI (k)) (nI ((k) + 12)) (nI (96 + (k))) ((k : Nat) : Int) (nI_toInt (by omega)) (((k) + 12 : Nat) : Int) (nI_toInt (by omega)) ((96 + (k) : Nat) : Int) (nI_toInt (by omega)) (by omega)) hK hP hD [0, 1, 2, 3, 4] (by decide) rfl 0 11 rfl rfl kw_2040 kw_2042 kw_111 kw_152 kw_2043 okX12_sideBounds rfl (by decide) hl.1 rfl (Nat.le_of_ble_eq_true rfl) dX12_findBounds_64 (by decide)) hP hD hS hA [0, 1, 2, 3, 4] [] rfl rfl (by decide) (by decide) (fun u64 H locs w64 hP hD hS => ?_)
        have hP : va_P D vwCl [((q 0), .inr (11, (mO q t 0 0 0 0 0 0 0 (-1) 0 0 0 (nI (((((n) + 1) + 1) + 1) + 1)) 0 bs km 0 0 0))), ((q 63), .inl (cy 0, 600, .inl (upd (upd (upd (upd g0 ((n)) (nI (k))) ((n) + 1) (nI ((k) + 1))) ((((n) + 1) + 1)) (nI (k))) ((((n) + 1) + 1) + 1) (nI ((k) + 12))))), ((q 64), .inl (cy 0, 600, .inl (upd (upd (upd (upd g1 ((n)) (nI ((k) + 1))) ((n) + 1) (nI (k))) ((((n) + 1) + 1)) (nI ((k) + 12))) ((((n) + 1) + 1) + 1) (nI (k))))), ((q 65), .inl (cy 0, 600, .inl (upd (upd (upd (upd g2 ((n)) 10) ((n) + 1) 10) ((((n) + 1) + 1)) 10) ((((n) + 1) + 1) + 1) 10))), ((q 66), .inl (cy 0, 600, .inl (upd (upd (upd (upd g3 ((n)) (-1)) ((n) + 1) (-1)) ((((n) + 1) + 1)) (-1)) ((((n) + 1) + 1) + 1) (-1))))] H := hP
        have hD : va_D A [((q 0), .inr (11, (mO q t 0 0 0 0 0 0 0 (-1) 0 0 0 (nI (((((n) + 1) + 1) + 1) + 1)) 0 bs km 0 0 0))), ((q 63), .inl (cy 0, 600, .inl (upd (upd (upd (upd g0 ((n)) (nI (k))) ((n) + 1) (nI ((k) + 1))) ((((n) + 1) + 1)) (nI (k))) ((((n) + 1) + 1) + 1) (nI ((k) + 12))))), ((q 64), .inl (cy 0, 600, .inl (upd (upd (upd (upd g1 ((n)) (nI ((k) + 1))) ((n) + 1) (nI (k))) ((((n) + 1) + 1)) (nI ((k) + 12))) ((((n) + 1) + 1) + 1) (nI (k))))), ((q 65), .inl (cy 0, 600, .inl (upd (upd (upd (upd g2 ((n)) 10) ((n) + 1) 10) ((((n) + 1) + 1)) 10) ((((n) + 1) + 1) + 1) 10))), ((q 66), .inl (cy 0, 600, .inl (upd (upd (upd (upd g3 ((n)) (-1)) ((n) + 1) (-1)) ((((n) + 1) + 1)) (-1)) ((((n) + 1) + 1) + 1) (-1))))] := hD
        refine lv_iinc (v := (nI ((k) + 1))) (lv' := [(5, .int (nI ((k) + 1))), (0, .ref (q 0)), (1, .int 0), (2, .long 0), (4, .int 1)]) S.1 S.2.1 dX12_findBounds_67 hl (k := 0) rfl (nI_1 (k)) (by decide) rfl (fun ls hl => ?_)
        refine lv_goto (tgt := 8) S.1 S.2.1 dX12_findBounds_70 (by decide) ?_
        exact ih ((((((n) + 1) + 1) + 1) + 1), (upd (upd (upd (upd g0 ((n)) (nI (k))) ((n) + 1) (nI ((k) + 1))) ((((n) + 1) + 1)) (nI (k))) ((((n) + 1) + 1) + 1) (nI ((k) + 12))), (upd (upd (upd (upd g1 ((n)) (nI ((k) + 1))) ((n) + 1) (nI (k))) ((((n) + 1) + 1)) (nI ((k) + 12))) ((((n) + 1) + 1) + 1) (nI (k))), (upd (upd (upd (upd g2 ((n)) 10) ((n) + 1) 10) ((((n) + 1) + 1)) 10) ((((n) + 1) + 1) + 1) 10), (upd (upd (upd (upd g3 ((n)) (-1)) ((n) + 1) (-1)) ((((n) + 1) + 1)) (-1)) ((((n) + 1) + 1) + 1) (-1))) _ _ _ ⟨by omega, (bd_add (bd_add hB (c := k) (d := k + 1) (by omega) (by omega)) (c := k) (d := k + 12) (by omega) (by omega))⟩ (hP.sub [0, 1, 2, 3, 4] rfl) (hD.sub [0, 1, 2, 3, 4] (by decide) rfl) hS (lv_sub hl [0, 1, 2, 3, 4] rfl)
set_option maxHeartbeats 4000000 in
set_option maxRecDepth 100000 in
theorem kX12_goesTogether (l : Launch) (D : va_G) (cy : Nat → ClassId) (q : Nat → Nat) (t : Int32) (bs : Int32) (km : Int32) (n : Nat) (f0 : Nat → Int32) (f1 : Nat → Int32) (f2 : Nat → Int32) (f3 : Nat → Int32) (hn : n ≤ 384) (hB : Bd n f0 f1 f2) : CI l D cy yX12_goesTogether cX12_goesTogether 5 (some .boolean) 0 0 0 0 [.ref (q 0)] [((q 0), .inr (11, (mO q t 0 0 0 0 0 0 0 (-1) 0 0 0 (nI (n)) 0 bs km 0 0 0))), ((q 63), .inl (cy 0, 600, .inl f0)), ((q 64), .inl (cy 0, 600, .inl f1)), ((q 65), .inl (cy 0, 600, .inl f2)), ((q 66), .inl (cy 0, 600, .inl f3)), ((q 67), .inl (cy 0, 97, .inl (fun _ => 0))), ((q 68), .inl (cy 0, 97, .inl (fun _ => 0)))] (fun (v : Int32) (u : Unit) => v = 1) (fun (u : Unit) => [((q 0), .inr (11, (mO q t 0 0 0 0 0 0 0 (-1) 0 0 0 (nI (n)) 0 bs km 0 0 0)))]) := by
  refine ci_go (by decide) (Nat.le_of_ble_eq_true rfl) (fun p e s m below meth c ls A hA S hr hlk hnm hP hK hD hl => ?_)
  have hS : va_S A s.heap s.heap [] := va_S.rf
  have hl : lv_has ls 5 [(0, .ref (q 0))] := hl
  refine lv_iconst (v := 0) S.1 S.2.1 dX12_goesTogether_0 (by decide) ?_
  refine lv_istore_n (lv' := [(1, .int 0), (0, .ref (q 0))]) S.1 S.2.1 dX12_goesTogether_1 rfl hl (by decide) rfl (fun ls hl => ?_)
  refine loopN (σ := (Nat → Int32) × (Nat → Int32)) 2 97 (fun k xs9 => [((q 0), .inr (11, (mO q t 0 0 0 0 0 0 0 (-1) 0 0 0 (nI (n)) 0 bs km 0 0 0))), ((q 63), .inl (cy 0, 600, .inl f0)), ((q 64), .inl (cy 0, 600, .inl f1)), ((q 65), .inl (cy 0, 600, .inl f2)), ((q 66), .inl (cy 0, 600, .inl f3)), ((q 67), .inl (cy 0, 97, .inl (xs9.1))), ((q 68), .inl (cy 0, 97, .inl (xs9.2)))]) (fun k xs9 => [(1, .int (nI (k))), (0, .ref (q 0))]) (fun k xs9 => ∀ j : Nat, j < k → (xs9.1) j = 0) (fun xs9 hJ H locs ls hP hD hS hl => ?_) (fun k xs9 hk hJ H locs ls hP hD hS hl ih => ?_) ((fun _ => 0), (fun _ => 0)) (fun j _ => rfl) (hP.sub [0, 1, 2, 3, 4, 5, 6] rfl) (hD.sub [0, 1, 2, 3, 4, 5, 6] (by decide) rfl) hS (lv_sub hl [0, 1] rfl)
  · obtain ⟨r9, b9⟩ := xs9
    have hJ : ∀ j : Nat, j < 97 → r9 j = 0 := hJ
    have hP : va_P D vwCl [((q 0), .inr (11, (mO q t 0 0 0 0 0 0 0 (-1) 0 0 0 (nI (n)) 0 bs km 0 0 0))), ((q 63), .inl (cy 0, 600, .inl f0)), ((q 64), .inl (cy 0, 600, .inl f1)), ((q 65), .inl (cy 0, 600, .inl f2)), ((q 66), .inl (cy 0, 600, .inl f3)), ((q 67), .inl (cy 0, 97, .inl r9)), ((q 68), .inl (cy 0, 97, .inl b9))] H := hP
    have hD : va_D A [((q 0), .inr (11, (mO q t 0 0 0 0 0 0 0 (-1) 0 0 0 (nI (n)) 0 bs km 0 0 0))), ((q 63), .inl (cy 0, 600, .inl f0)), ((q 64), .inl (cy 0, 600, .inl f1)), ((q 65), .inl (cy 0, 600, .inl f2)), ((q 66), .inl (cy 0, 600, .inl f3)), ((q 67), .inl (cy 0, 97, .inl r9)), ((q 68), .inl (cy 0, 97, .inl b9))] := hD
    have hl : lv_has ls 5 [(1, .int 97), (0, .ref (q 0))] := hl
    have hP := arr_i 5 (fun _ => 0) hP rfl hJ
    have hD := d_set (e1 := .inl (cy 0, 97, .inl (fun _ => 0))) 5 hD rfl
    have hP : va_P D vwCl [((q 0), .inr (11, (mO q t 0 0 0 0 0 0 0 (-1) 0 0 0 (nI (n)) 0 bs km 0 0 0))), ((q 63), .inl (cy 0, 600, .inl f0)), ((q 64), .inl (cy 0, 600, .inl f1)), ((q 65), .inl (cy 0, 600, .inl f2)), ((q 66), .inl (cy 0, 600, .inl f3)), ((q 67), .inl (cy 0, 97, .inl (fun _ => 0))), ((q 68), .inl (cy 0, 97, .inl b9))] H := hP
    have hD : va_D A [((q 0), .inr (11, (mO q t 0 0 0 0 0 0 0 (-1) 0 0 0 (nI (n)) 0 bs km 0 0 0))), ((q 63), .inl (cy 0, 600, .inl f0)), ((q 64), .inl (cy 0, 600, .inl f1)), ((q 65), .inl (cy 0, 600, .inl f2)), ((q 66), .inl (cy 0, 600, .inl f3)), ((q 67), .inl (cy 0, 97, .inl (fun _ => 0))), ((q 68), .inl (cy 0, 97, .inl b9))] := hD
    refine lv_iload_n S.1 S.2.1 dX12_goesTogether_2 rfl (lv_at hl 0 rfl) ?_
    refine lv_bipush (v := 97) S.1 S.2.1 dX12_goesTogether_3 (by decide) ?_
    refine r_icmp_ge S 97 97 rfl rfl dX12_goesTogether_5 (tgt := 28) (by decide) (fun _ => ?_) (fun c => absurd c (by decide))
    refine lv_iconst (v := (-1)) S.1 S.2.1 dX12_goesTogether_28 (by decide) ?_
    refine lv_istore_n (lv' := [(1, .int (-1)), (0, .ref (q 0))]) S.1 S.2.1 dX12_goesTogether_29 rfl hl (by decide) rfl (fun ls hl => ?_)
    refine lv_iconst (v := 0) S.1 S.2.1 dX12_goesTogether_30 (by decide) ?_
    refine lv_istore_n (lv' := [(2, .int 0), (1, .int (-1)), (0, .ref (q 0))]) S.1 S.2.1 dX12_goesTogether_31 rfl hl (by decide) rfl (fun ls hl => ?_)
    refine lv_iload_n S.1 S.2.1 dX12_goesTogether_32 rfl (lv_at hl 0 rfl) ?_
    refine lv_bipush (v := 98) S.1 S.2.1 dX12_goesTogether_33 (by decide) ?_
    refine r_icmp_ge S 0 98 rfl rfl dX12_goesTogether_35 (tgt := 136) (by decide) (fun c => absurd c (by decide)) (fun _ => ?_)
    refine lv_iconst (v := (-1)) S.1 S.2.1 dX12_goesTogether_38 (by decide) ?_
    refine lv_istore_n (lv' := [(1, .int (-1)), (2, .int 0), (0, .ref (q 0))]) S.1 S.2.1 dX12_goesTogether_39 rfl hl (by decide) rfl (fun ls hl => ?_)
    refine lv_iconst (v := 0) S.1 S.2.1 dX12_goesTogether_40 (by decide) ?_
    refine lv_istore_n (lv' := [(3, .int 0), (1, .int (-1)), (2, .int 0), (0, .ref (q 0))]) S.1 S.2.1 dX12_goesTogether_41 rfl hl (by decide) rfl (fun ls hl => ?_)
    refine loopN (σ := Unit) 42 n (fun k2 xs9 => [((q 0), .inr (11, (mO q t 0 0 0 0 0 0 0 (-1) 0 0 0 (nI (n)) 0 bs km 0 0 0))), ((q 63), .inl (cy 0, 600, .inl f0)), ((q 64), .inl (cy 0, 600, .inl f1)), ((q 65), .inl (cy 0, 600, .inl f2)), ((q 66), .inl (cy 0, 600, .inl f3)), ((q 67), .inl (cy 0, 97, .inl (fun _ => 0))), ((q 68), .inl (cy 0, 97, .inl b9))]) (fun k2 xs9 => [(3, .int (nI (k2))), (1, .int (-1)), (2, .int 0), (0, .ref (q 0))]) (fun k2 xs9 => True) (fun xs9 hJ2 H locs ls hP hD hS hl => ?_) (fun k2 xs9 hk2 hJ2 H locs ls hP hD hS hl ih2 => ?_) () trivial (hP.sub [0, 1, 2, 3, 4, 5, 6] rfl) (hD.sub [0, 1, 2, 3, 4, 5, 6] (by decide) rfl) hS (lv_sub hl [0, 1, 2, 3] rfl)
    · have hP : va_P D vwCl [((q 0), .inr (11, (mO q t 0 0 0 0 0 0 0 (-1) 0 0 0 (nI (n)) 0 bs km 0 0 0))), ((q 63), .inl (cy 0, 600, .inl f0)), ((q 64), .inl (cy 0, 600, .inl f1)), ((q 65), .inl (cy 0, 600, .inl f2)), ((q 66), .inl (cy 0, 600, .inl f3)), ((q 67), .inl (cy 0, 97, .inl (fun _ => 0))), ((q 68), .inl (cy 0, 97, .inl b9))] H := hP
      have hD : va_D A [((q 0), .inr (11, (mO q t 0 0 0 0 0 0 0 (-1) 0 0 0 (nI (n)) 0 bs km 0 0 0))), ((q 63), .inl (cy 0, 600, .inl f0)), ((q 64), .inl (cy 0, 600, .inl f1)), ((q 65), .inl (cy 0, 600, .inl f2)), ((q 66), .inl (cy 0, 600, .inl f3)), ((q 67), .inl (cy 0, 97, .inl (fun _ => 0))), ((q 68), .inl (cy 0, 97, .inl b9))] := hD
      have hl : lv_has ls 5 [(3, .int (nI (n))), (1, .int (-1)), (2, .int 0), (0, .ref (q 0))] := hl
      refine lv_iload_n S.1 S.2.1 dX12_goesTogether_42 rfl (lv_at hl 0 rfl) ?_
      refine lv_aload_n S.1 S.2.1 dX12_goesTogether_43 rfl (lv_at hl 3 rfl) ?_
      refine r_get S hK hP 0 11 rfl rfl inX12 62 (by decide) kw_1572 (v := .int (nI (n))) rfl dX12_goesTogether_44 ?_
      refine r_icmp_ge S ((n : Nat) : Int) ((n : Nat) : Int) (nI_toInt (by omega)) (nI_toInt (by omega)) dX12_goesTogether_47 (tgt := 124) (by decide) (fun _ => ?_) (fun c => absurd c (by omega))
      refine lv_iload_n S.1 S.2.1 dX12_goesTogether_124 rfl (lv_at hl 1 rfl) ?_
      refine r_if_ge S (-1) rfl dX12_goesTogether_125 (tgt := 130) (by decide) (fun c => absurd c (by decide)) (fun _ => ?_)
      refine lv_iconst (v := 1) S.1 S.2.1 dX12_goesTogether_128 (by decide) ?_
      exact ci_ret (u := ()) S hr hlk (by decide) hK (hP.sub [0] rfl) (hD.sub [0] (by decide) rfl) hS (rfl) (by decide) (by decide) dX12_goesTogether_129
    · have hP : va_P D vwCl [((q 0), .inr (11, (mO q t 0 0 0 0 0 0 0 (-1) 0 0 0 (nI (n)) 0 bs km 0 0 0))), ((q 63), .inl (cy 0, 600, .inl f0)), ((q 64), .inl (cy 0, 600, .inl f1)), ((q 65), .inl (cy 0, 600, .inl f2)), ((q 66), .inl (cy 0, 600, .inl f3)), ((q 67), .inl (cy 0, 97, .inl (fun _ => 0))), ((q 68), .inl (cy 0, 97, .inl b9))] H := hP
      have hD : va_D A [((q 0), .inr (11, (mO q t 0 0 0 0 0 0 0 (-1) 0 0 0 (nI (n)) 0 bs km 0 0 0))), ((q 63), .inl (cy 0, 600, .inl f0)), ((q 64), .inl (cy 0, 600, .inl f1)), ((q 65), .inl (cy 0, 600, .inl f2)), ((q 66), .inl (cy 0, 600, .inl f3)), ((q 67), .inl (cy 0, 97, .inl (fun _ => 0))), ((q 68), .inl (cy 0, 97, .inl b9))] := hD
      have hl : lv_has ls 5 [(3, .int (nI (k2))), (1, .int (-1)), (2, .int 0), (0, .ref (q 0))] := hl
      obtain ⟨⟨jf, hjf, ejf⟩, ⟨jt, hjt, ejt⟩, eb⟩ := hB k2 (by omega)
      refine lv_iload_n S.1 S.2.1 dX12_goesTogether_42 rfl (lv_at hl 0 rfl) ?_
      refine lv_aload_n S.1 S.2.1 dX12_goesTogether_43 rfl (lv_at hl 3 rfl) ?_
      refine r_get S hK hP 0 11 rfl rfl inX12 62 (by decide) kw_1572 (v := .int (nI (n))) rfl dX12_goesTogether_44 ?_
      refine r_icmp_ge S ((k2 : Nat) : Int) ((n : Nat) : Int) (nI_toInt (by omega)) (nI_toInt (by omega)) dX12_goesTogether_47 (tgt := 124) (by decide) (fun c => absurd c (by omega)) (fun _ => ?_)
      refine lv_aload_n S.1 S.2.1 dX12_goesTogether_50 rfl (lv_at hl 3 rfl) ?_
      refine r_get S hK hP 0 11 rfl rfl inX12 67 (by decide) kw_1577 (v := .ref (q 67)) rfl dX12_goesTogether_51 ?_
      refine lv_aload_n S.1 S.2.1 dX12_goesTogether_54 rfl (lv_at hl 3 rfl) ?_
      refine r_get S hK hP 0 11 rfl rfl inX12 63 (by decide) kw_1573 (v := .ref (q 63)) rfl dX12_goesTogether_55 ?_
      refine lv_iload_n S.1 S.2.1 dX12_goesTogether_58 rfl (lv_at hl 0 rfl) ?_
      refine r_iald S hK hP 1 0 rfl rfl ((k2)) rfl (by omega) (by decide) (v := (nI (jf))) ejf dX12_goesTogether_59 ?_
      refine r_iald S hK hP 5 0 rfl rfl ((jf)) rfl (by omega) (by decide) (v := 0) rfl dX12_goesTogether_60 ?_
      refine lv_aload_n S.1 S.2.1 dX12_goesTogether_61 rfl (lv_at hl 3 rfl) ?_
      refine r_get S hK hP 0 11 rfl rfl inX12 65 (by decide) kw_1575 (v := .ref (q 65)) rfl dX12_goesTogether_62 ?_
      refine lv_iload_n S.1 S.2.1 dX12_goesTogether_65 rfl (lv_at hl 0 rfl) ?_
      refine r_iald S hK hP 3 0 rfl rfl ((k2)) rfl (by omega) (by decide) (v := 10) eb dX12_goesTogether_66 ?_
      refine r_iadd S dX12_goesTogether_67 (v := 10) (by decide) ?_
      refine lv_istore (lv' := [(4, .int 10), (3, .int (nI (k2))), (1, .int (-1)), (2, .int 0), (0, .ref (q 0))]) S.1 S.2.1 dX12_goesTogether_68 hl (by decide) rfl (fun ls hl => ?_)
      refine lv_iload S.1 S.2.1 dX12_goesTogether_70 (lv_at hl 0 rfl) ?_
      refine lv_aload_n S.1 S.2.1 dX12_goesTogether_72 rfl (lv_at hl 4 rfl) ?_
      refine r_get S hK hP 0 11 rfl rfl inX12 67 (by decide) kw_1577 (v := .ref (q 67)) rfl dX12_goesTogether_73 ?_
      refine lv_aload_n S.1 S.2.1 dX12_goesTogether_76 rfl (lv_at hl 4 rfl) ?_
      refine r_get S hK hP 0 11 rfl rfl inX12 64 (by decide) kw_1574 (v := .ref (q 64)) rfl dX12_goesTogether_77 ?_
      refine lv_iload_n S.1 S.2.1 dX12_goesTogether_80 rfl (lv_at hl 1 rfl) ?_
      refine r_iald S hK hP 2 0 rfl rfl ((k2)) rfl (by omega) (by decide) (v := (nI (jt))) ejt dX12_goesTogether_81 ?_
      refine r_iald S hK hP 5 0 rfl rfl ((jt)) rfl (by omega) (by decide) (v := 0) rfl dX12_goesTogether_82 ?_
      refine r_icmp_ge S 10 0 rfl rfl dX12_goesTogether_83 (tgt := 118) (by decide) (fun _ => ?_) (fun c => absurd c (by decide))
      refine lv_iinc (v := (nI ((k2) + 1))) (lv' := [(3, .int (nI ((k2) + 1))), (4, .int 10), (1, .int (-1)), (2, .int 0), (0, .ref (q 0))]) S.1 S.2.1 dX12_goesTogether_118 hl (k := 1) rfl (nI_1 (k2)) (by decide) rfl (fun ls hl => ?_)
      refine lv_goto (tgt := 42) S.1 S.2.1 dX12_goesTogether_121 (by decide) ?_
      exact ih2 () _ _ _ trivial (hP.sub [0, 1, 2, 3, 4, 5, 6] rfl) (hD.sub [0, 1, 2, 3, 4, 5, 6] (by decide) rfl) hS (lv_sub hl [0, 2, 3, 4] rfl)
  · obtain ⟨r9, b9⟩ := xs9
    have hJ : ∀ j : Nat, j < k → r9 j = 0 := hJ
    have hP : va_P D vwCl [((q 0), .inr (11, (mO q t 0 0 0 0 0 0 0 (-1) 0 0 0 (nI (n)) 0 bs km 0 0 0))), ((q 63), .inl (cy 0, 600, .inl f0)), ((q 64), .inl (cy 0, 600, .inl f1)), ((q 65), .inl (cy 0, 600, .inl f2)), ((q 66), .inl (cy 0, 600, .inl f3)), ((q 67), .inl (cy 0, 97, .inl r9)), ((q 68), .inl (cy 0, 97, .inl b9))] H := hP
    have hD : va_D A [((q 0), .inr (11, (mO q t 0 0 0 0 0 0 0 (-1) 0 0 0 (nI (n)) 0 bs km 0 0 0))), ((q 63), .inl (cy 0, 600, .inl f0)), ((q 64), .inl (cy 0, 600, .inl f1)), ((q 65), .inl (cy 0, 600, .inl f2)), ((q 66), .inl (cy 0, 600, .inl f3)), ((q 67), .inl (cy 0, 97, .inl r9)), ((q 68), .inl (cy 0, 97, .inl b9))] := hD
    have hl : lv_has ls 5 [(1, .int (nI (k))), (0, .ref (q 0))] := hl
    refine lv_iload_n S.1 S.2.1 dX12_goesTogether_2 rfl (lv_at hl 0 rfl) ?_
    refine lv_bipush (v := 97) S.1 S.2.1 dX12_goesTogether_3 (by decide) ?_
    refine r_icmp_ge S ((k : Nat) : Int) 97 (nI_toInt (by omega)) rfl dX12_goesTogether_5 (tgt := 28) (by decide) (fun c => absurd c (by omega)) (fun _ => ?_)
    refine lv_aload_n S.1 S.2.1 dX12_goesTogether_8 rfl (lv_at hl 1 rfl) ?_
    refine r_get S hK hP 0 11 rfl rfl inX12 67 (by decide) kw_1577 (v := .ref (q 67)) rfl dX12_goesTogether_9 ?_
    refine lv_iload_n S.1 S.2.1 dX12_goesTogether_12 rfl (lv_at hl 0 rfl) ?_
    refine lv_iconst (v := 0) S.1 S.2.1 dX12_goesTogether_13 (by decide) ?_
    refine r_iast S hK hP hD hS 5 0 rfl rfl ((k)) rfl (by omega) (by decide) dX12_goesTogether_14 (fun H locs hP hD hS => ?_)
    have hP : va_P D vwCl [((q 0), .inr (11, (mO q t 0 0 0 0 0 0 0 (-1) 0 0 0 (nI (n)) 0 bs km 0 0 0))), ((q 63), .inl (cy 0, 600, .inl f0)), ((q 64), .inl (cy 0, 600, .inl f1)), ((q 65), .inl (cy 0, 600, .inl f2)), ((q 66), .inl (cy 0, 600, .inl f3)), ((q 67), .inl (cy 0, 97, .inl (upd r9 ((k)) 0))), ((q 68), .inl (cy 0, 97, .inl b9))] H := hP
    have hD : va_D A [((q 0), .inr (11, (mO q t 0 0 0 0 0 0 0 (-1) 0 0 0 (nI (n)) 0 bs km 0 0 0))), ((q 63), .inl (cy 0, 600, .inl f0)), ((q 64), .inl (cy 0, 600, .inl f1)), ((q 65), .inl (cy 0, 600, .inl f2)), ((q 66), .inl (cy 0, 600, .inl f3)), ((q 67), .inl (cy 0, 97, .inl (upd r9 ((k)) 0))), ((q 68), .inl (cy 0, 97, .inl b9))] := hD
    refine lv_aload_n S.1 S.2.1 dX12_goesTogether_15 rfl (lv_at hl 1 rfl) ?_
    refine r_get S hK hP 0 11 rfl rfl inX12 68 (by decide) kw_1578 (v := .ref (q 68)) rfl dX12_goesTogether_16 ?_
    refine lv_iload_n S.1 S.2.1 dX12_goesTogether_19 rfl (lv_at hl 0 rfl) ?_
    refine lv_iconst (v := (-1)) S.1 S.2.1 dX12_goesTogether_20 (by decide) ?_
    refine r_iast S hK hP hD hS 6 0 rfl rfl ((k)) rfl (by omega) (by decide) dX12_goesTogether_21 (fun H locs hP hD hS => ?_)
    have hP : va_P D vwCl [((q 0), .inr (11, (mO q t 0 0 0 0 0 0 0 (-1) 0 0 0 (nI (n)) 0 bs km 0 0 0))), ((q 63), .inl (cy 0, 600, .inl f0)), ((q 64), .inl (cy 0, 600, .inl f1)), ((q 65), .inl (cy 0, 600, .inl f2)), ((q 66), .inl (cy 0, 600, .inl f3)), ((q 67), .inl (cy 0, 97, .inl (upd r9 ((k)) 0))), ((q 68), .inl (cy 0, 97, .inl (upd b9 ((k)) (-1))))] H := hP
    have hD : va_D A [((q 0), .inr (11, (mO q t 0 0 0 0 0 0 0 (-1) 0 0 0 (nI (n)) 0 bs km 0 0 0))), ((q 63), .inl (cy 0, 600, .inl f0)), ((q 64), .inl (cy 0, 600, .inl f1)), ((q 65), .inl (cy 0, 600, .inl f2)), ((q 66), .inl (cy 0, 600, .inl f3)), ((q 67), .inl (cy 0, 97, .inl (upd r9 ((k)) 0))), ((q 68), .inl (cy 0, 97, .inl (upd b9 ((k)) (-1))))] := hD
    refine lv_iinc (v := (nI ((k) + 1))) (lv' := [(1, .int (nI ((k) + 1))), (0, .ref (q 0))]) S.1 S.2.1 dX12_goesTogether_22 hl (k := 0) rfl (nI_1 (k)) (by decide) rfl (fun ls hl => ?_)
    refine lv_goto (tgt := 2) S.1 S.2.1 dX12_goesTogether_25 (by decide) ?_
    exact ih ((upd r9 ((k)) 0), (upd b9 ((k)) (-1))) _ _ _ (lt_s (fun j hj => (pk_un (Nat.ne_of_lt hj)).trans (hJ j hj)) pk_us) (hP.sub [0, 1, 2, 3, 4, 5, 6] rfl) (hD.sub [0, 1, 2, 3, 4, 5, 6] (by decide) rfl) hS (lv_sub hl [0, 1] rfl)
set_option maxHeartbeats 4000000 in
set_option maxRecDepth 100000 in
theorem kX12_seeks (l : Launch) (D : va_G) (cy : Nat → ClassId) (q : Nat → Nat) (t : Int32) (bs : Int32) (km : Int32) : CV l D cy yX12_seeks cX12_seeks 9 none 4 103 0 0 [.ref (q 0), .int 0, .long 0, .int 0] [((q 0), .inr (11, (mO q t 0 0 0 0 0 0 0 (-1) 0 0 0 0 0 bs km 0 0 0))), ((q 63), .inl (cy 0, 600, .inl (fun _ => 0))), ((q 64), .inl (cy 0, 600, .inl (fun _ => 0))), ((q 65), .inl (cy 0, 600, .inl (fun _ => 0))), ((q 66), .inl (cy 0, 600, .inl (fun _ => 0))), ((q 67), .inl (cy 0, 97, .inl (fun _ => 0))), ((q 68), .inl (cy 0, 97, .inl (fun _ => 0))), ((q 70), .inl (cy 1, 16, .inl (upd (fun _ => 0) (0) (vp_nar .boolean 0)))), ((q 71), .inl (cy 0, 16, .inl (fun _ => 0))), ((q 72), .inl (cy 2, 16, .inr (.inl (fun _ => 0))))] (fun (u : (Int32) × (Nat → Int32) × (Nat → Int32) × (Nat → Int64)) => (u.2.1) 0 = 1 ∧ (u.2.2.1) 0 = 0 ∧ (u.2.2.2) 0 = 0) (fun (u : (Int32) × (Nat → Int32) × (Nat → Int32) × (Nat → Int64)) => [((q 0), .inr (11, (mO q t 0 0 0 0 0 0 0 (-1) 0 0 0 (u.1) 0 bs km 0 0 0))), ((q 70), .inl (cy 1, 16, .inl (u.2.1))), ((q 71), .inl (cy 0, 16, .inl (u.2.2.1))), ((q 72), .inl (cy 2, 16, .inr (.inl (u.2.2.2))))]) := by
  refine cv_go (by decide) (Nat.le_of_ble_eq_true rfl) (fun p e s m below meth c ls A hA S hr hlk hnm hP hK hD hl => ?_)
  have hS : va_S A s.heap s.heap [] := va_S.rf
  have hl : lv_has ls 9 [(0, .ref (q 0)), (1, .int 0), (2, .long 0), (4, .int 0)] := hl
  refine lv_aload_n S.1 S.2.1 dX12_seeks_0 rfl (lv_at hl 0 rfl) ?_
  refine lv_iload_n S.1 S.2.1 dX12_seeks_1 rfl (lv_at hl 1 rfl) ?_
  refine call_ri (runV_R (wc := [((q 0), .inr (11, (mO q t 0 0 0 0 0 0 0 (-1) 0 0 0 0 0 bs km 0 0 0)))]) (As := [.int 0]) (rest := []) S (kX12_breaksCost l D cy q t 0 0 bs km) hK hP [0] rfl 0 11 rfl rfl kw_2025 kw_2027 kw_108 kw_152 kw_2028 okX12_breaksCost rfl (by decide) hl.1 rfl (Nat.le_of_ble_eq_true rfl) dX12_seeks_2 (by decide)) (fun v2 w2 => ?_)
  subst w2
  refine lv_aload_n S.1 S.2.1 dX12_seeks_5 rfl (lv_at hl 0 rfl) ?_
  refine lv_lload_n S.1 S.2.1 dX12_seeks_6 rfl (lv_at hl 2 rfl) ?_
  refine call_ri (runV_R (wc := [((q 0), .inr (11, (mO q t 0 0 0 0 0 0 0 (-1) 0 0 0 0 0 bs km 0 0 0)))]) (As := [.long 0]) (rest := [.int 0]) S (kX12_costOf l D cy q t 0 0 bs km) hK hP [0] rfl 0 11 rfl rfl kw_2029 kw_2031 kw_109 kw_152 kw_2032 okX12_costOf rfl (by decide) hl.1 rfl (Nat.le_of_ble_eq_true rfl) dX12_seeks_7 (by decide)) (fun v7 w7 => ?_)
  subst w7
  refine r_iadd S dX12_seeks_10 (v := 0) (by decide) ?_
  refine lv_istore (lv' := [(5, .int 0), (0, .ref (q 0)), (1, .int 0), (2, .long 0), (4, .int 0)]) S.1 S.2.1 dX12_seeks_11 hl (by decide) rfl (fun ls hl => ?_)
  refine lv_aload_n S.1 S.2.1 dX12_seeks_13 rfl (lv_at hl 1 rfl) ?_
  refine r_get S hK hP 0 11 rfl rfl inX12 70 (by decide) kw_1580 (v := .ref (q 70)) rfl dX12_seeks_14 ?_
  refine lv_iload_n S.1 S.2.1 dX12_seeks_17 rfl (lv_at hl 2 rfl) ?_
  refine r_zald S hK hP 7 1 rfl rfl (0) rfl (by decide) (by decide) (v := 0) rfl dX12_seeks_18 ?_
  refine r_if_eq S 0 rfl dX12_seeks_19 (tgt := 56) (by decide) (fun _ => ?_) (fun c => absurd c (by decide))
  refine lv_aload_n S.1 S.2.1 dX12_seeks_56 rfl (lv_at hl 1 rfl) ?_
  refine lv_iload_n S.1 S.2.1 dX12_seeks_57 rfl (lv_at hl 2 rfl) ?_
  refine lv_lload_n S.1 S.2.1 dX12_seeks_58 rfl (lv_at hl 3 rfl) ?_
  refine lv_iconst (v := 1) S.1 S.2.1 dX12_seeks_59 (by decide) ?_
  refine call_v (wr := [((q 67), .inl (cy 0, 97, .inl (fun _ => 0))), ((q 68), .inl (cy 0, 97, .inl (fun _ => 0))), ((q 70), .inl (cy 1, 16, .inl (upd (fun _ => 0) (0) (vp_nar .boolean 0)))), ((q 71), .inl (cy 0, 16, .inl (fun _ => 0))), ((q 72), .inl (cy 2, 16, .inr (.inl (fun _ => 0))))]) (runV_C (wc := [((q 0), .inr (11, (mO q t 0 0 0 0 0 0 0 (-1) 0 0 0 0 0 bs km 0 0 0))), ((q 63), .inl (cy 0, 600, .inl (fun _ => 0))), ((q 64), .inl (cy 0, 600, .inl (fun _ => 0))), ((q 65), .inl (cy 0, 600, .inl (fun _ => 0))), ((q 66), .inl (cy 0, 600, .inl (fun _ => 0)))]) (As := [.int 0, .long 0, .int 1]) (rest := []) S (kX12_findBounds l D cy q t bs km) hK hP hD [0, 1, 2, 3, 4] (by decide) rfl 0 11 rfl rfl kw_2036 kw_2038 kw_110 kw_152 kw_2039 okX12_findBounds rfl (by decide) hl.1 rfl (Nat.le_of_ble_eq_true rfl) dX12_seeks_60 (by decide)) hP hD hS hA [0, 1, 2, 3, 4] [5, 6, 7, 8, 9] rfl rfl (by decide) (by decide) (fun u60 H locs w60 hP hD hS => ?_)
  obtain ⟨n_60, g0_60, g1_60, g2_60, g3_60⟩ := u60
  have hP : va_P D vwCl [((q 67), .inl (cy 0, 97, .inl (fun _ => 0))), ((q 68), .inl (cy 0, 97, .inl (fun _ => 0))), ((q 70), .inl (cy 1, 16, .inl (upd (fun _ => 0) (0) (vp_nar .boolean 0)))), ((q 71), .inl (cy 0, 16, .inl (fun _ => 0))), ((q 72), .inl (cy 2, 16, .inr (.inl (fun _ => 0)))), ((q 0), .inr (11, (mO q t 0 0 0 0 0 0 0 (-1) 0 0 0 (nI (n_60)) 0 bs km 0 0 0))), ((q 63), .inl (cy 0, 600, .inl g0_60)), ((q 64), .inl (cy 0, 600, .inl g1_60)), ((q 65), .inl (cy 0, 600, .inl g2_60)), ((q 66), .inl (cy 0, 600, .inl g3_60))] H := hP
  have hD : va_D A [((q 67), .inl (cy 0, 97, .inl (fun _ => 0))), ((q 68), .inl (cy 0, 97, .inl (fun _ => 0))), ((q 70), .inl (cy 1, 16, .inl (upd (fun _ => 0) (0) (vp_nar .boolean 0)))), ((q 71), .inl (cy 0, 16, .inl (fun _ => 0))), ((q 72), .inl (cy 2, 16, .inr (.inl (fun _ => 0)))), ((q 0), .inr (11, (mO q t 0 0 0 0 0 0 0 (-1) 0 0 0 (nI (n_60)) 0 bs km 0 0 0))), ((q 63), .inl (cy 0, 600, .inl g0_60)), ((q 64), .inl (cy 0, 600, .inl g1_60)), ((q 65), .inl (cy 0, 600, .inl g2_60)), ((q 66), .inl (cy 0, 600, .inl g3_60))] := hD
  obtain ⟨hn4, hB⟩ := w60
  refine lv_aload_n S.1 S.2.1 dX12_seeks_63 rfl (lv_at hl 1 rfl) ?_
  refine call_i (wr := [((q 70), .inl (cy 1, 16, .inl (upd (fun _ => 0) (0) (vp_nar .boolean 0)))), ((q 71), .inl (cy 0, 16, .inl (fun _ => 0))), ((q 72), .inl (cy 2, 16, .inr (.inl (fun _ => 0))))]) (runV_C (wc := [((q 0), .inr (11, (mO q t 0 0 0 0 0 0 0 (-1) 0 0 0 (nI ((n_60))) 0 bs km 0 0 0))), ((q 63), .inl (cy 0, 600, .inl g0_60)), ((q 64), .inl (cy 0, 600, .inl g1_60)), ((q 65), .inl (cy 0, 600, .inl g2_60)), ((q 66), .inl (cy 0, 600, .inl g3_60)), ((q 67), .inl (cy 0, 97, .inl (fun _ => 0))), ((q 68), .inl (cy 0, 97, .inl (fun _ => 0)))]) (As := []) (rest := []) S (kX12_goesTogether l D cy q t bs km (n_60) g0_60 g1_60 g2_60 g3_60 (by omega) hB) hK hP hD [5, 6, 7, 8, 9, 0, 1] (by decide) rfl 0 11 rfl rfl kw_2063 kw_2065 kw_116 kw_152 kw_2066 okX12_goesTogether rfl (by decide) hl.1 rfl (Nat.le_of_ble_eq_true rfl) dX12_seeks_64 (by decide)) hP hD hS hA [5, 6, 7, 8, 9, 0, 1] [2, 3, 4] rfl rfl (by decide) (by decide) (fun v64 u64 H locs w64 hP hD hS => ?_)
  have hP : va_P D vwCl [((q 70), .inl (cy 1, 16, .inl (upd (fun _ => 0) (0) (vp_nar .boolean 0)))), ((q 71), .inl (cy 0, 16, .inl (fun _ => 0))), ((q 72), .inl (cy 2, 16, .inr (.inl (fun _ => 0)))), ((q 0), .inr (11, (mO q t 0 0 0 0 0 0 0 (-1) 0 0 0 (nI ((n_60))) 0 bs km 0 0 0)))] H := hP
  have hD : va_D A [((q 70), .inl (cy 1, 16, .inl (upd (fun _ => 0) (0) (vp_nar .boolean 0)))), ((q 71), .inl (cy 0, 16, .inl (fun _ => 0))), ((q 72), .inl (cy 2, 16, .inr (.inl (fun _ => 0)))), ((q 0), .inr (11, (mO q t 0 0 0 0 0 0 0 (-1) 0 0 0 (nI ((n_60))) 0 bs km 0 0 0)))] := hD
  subst w64
  refine r_if_eq S 1 rfl dX12_seeks_67 (tgt := 93) (by decide) (fun c => absurd c (by decide)) (fun _ => ?_)
  refine lv_aload_n S.1 S.2.1 dX12_seeks_70 rfl (lv_at hl 1 rfl) ?_
  refine r_get S hK hP 3 11 rfl rfl inX12 70 (by decide) kw_1580 (v := .ref (q 70)) rfl dX12_seeks_71 ?_
  refine lv_iload_n S.1 S.2.1 dX12_seeks_74 rfl (lv_at hl 2 rfl) ?_
  refine lv_iconst (v := 1) S.1 S.2.1 dX12_seeks_75 (by decide) ?_
  refine r_zast S hK hP hD hS 0 1 rfl rfl (0) rfl (by decide) (by decide) dX12_seeks_76 (fun H locs hP hD hS => ?_)
  have hP : va_P D vwCl [((q 70), .inl (cy 1, 16, .inl (upd (upd (fun _ => 0) (0) (vp_nar .boolean 0)) (0) (vp_nar .boolean 1)))), ((q 71), .inl (cy 0, 16, .inl (fun _ => 0))), ((q 72), .inl (cy 2, 16, .inr (.inl (fun _ => 0)))), ((q 0), .inr (11, (mO q t 0 0 0 0 0 0 0 (-1) 0 0 0 (nI ((n_60))) 0 bs km 0 0 0)))] H := hP
  have hD : va_D A [((q 70), .inl (cy 1, 16, .inl (upd (upd (fun _ => 0) (0) (vp_nar .boolean 0)) (0) (vp_nar .boolean 1)))), ((q 71), .inl (cy 0, 16, .inl (fun _ => 0))), ((q 72), .inl (cy 2, 16, .inr (.inl (fun _ => 0)))), ((q 0), .inr (11, (mO q t 0 0 0 0 0 0 0 (-1) 0 0 0 (nI ((n_60))) 0 bs km 0 0 0)))] := hD
  refine lv_aload_n S.1 S.2.1 dX12_seeks_77 rfl (lv_at hl 1 rfl) ?_
  refine r_get S hK hP 3 11 rfl rfl inX12 71 (by decide) kw_1581 (v := .ref (q 71)) rfl dX12_seeks_78 ?_
  refine lv_iload_n S.1 S.2.1 dX12_seeks_81 rfl (lv_at hl 2 rfl) ?_
  refine lv_iload S.1 S.2.1 dX12_seeks_82 (lv_at hl 0 rfl) ?_
  refine r_iast S hK hP hD hS 1 0 rfl rfl (0) rfl (by decide) (by decide) dX12_seeks_84 (fun H locs hP hD hS => ?_)
  have hP : va_P D vwCl [((q 70), .inl (cy 1, 16, .inl (upd (upd (fun _ => 0) (0) (vp_nar .boolean 0)) (0) (vp_nar .boolean 1)))), ((q 71), .inl (cy 0, 16, .inl (upd (fun _ => 0) (0) 0))), ((q 72), .inl (cy 2, 16, .inr (.inl (fun _ => 0)))), ((q 0), .inr (11, (mO q t 0 0 0 0 0 0 0 (-1) 0 0 0 (nI ((n_60))) 0 bs km 0 0 0)))] H := hP
  have hD : va_D A [((q 70), .inl (cy 1, 16, .inl (upd (upd (fun _ => 0) (0) (vp_nar .boolean 0)) (0) (vp_nar .boolean 1)))), ((q 71), .inl (cy 0, 16, .inl (upd (fun _ => 0) (0) 0))), ((q 72), .inl (cy 2, 16, .inr (.inl (fun _ => 0)))), ((q 0), .inr (11, (mO q t 0 0 0 0 0 0 0 (-1) 0 0 0 (nI ((n_60))) 0 bs km 0 0 0)))] := hD
  refine lv_aload_n S.1 S.2.1 dX12_seeks_85 rfl (lv_at hl 1 rfl) ?_
  refine r_get S hK hP 3 11 rfl rfl inX12 72 (by decide) kw_1582 (v := .ref (q 72)) rfl dX12_seeks_86 ?_
  refine lv_iload_n S.1 S.2.1 dX12_seeks_89 rfl (lv_at hl 2 rfl) ?_
  refine lv_lload_n S.1 S.2.1 dX12_seeks_90 rfl (lv_at hl 3 rfl) ?_
  refine r_last S hK hP hD hS 2 2 rfl rfl (0) rfl (by decide) (by decide) dX12_seeks_91 (fun H locs hP hD hS => ?_)
  have hP : va_P D vwCl [((q 70), .inl (cy 1, 16, .inl (upd (upd (fun _ => 0) (0) (vp_nar .boolean 0)) (0) (vp_nar .boolean 1)))), ((q 71), .inl (cy 0, 16, .inl (upd (fun _ => 0) (0) 0))), ((q 72), .inl (cy 2, 16, .inr (.inl (vp_updL (fun _ => 0) (0) 0)))), ((q 0), .inr (11, (mO q t 0 0 0 0 0 0 0 (-1) 0 0 0 (nI ((n_60))) 0 bs km 0 0 0)))] H := hP
  have hD : va_D A [((q 70), .inl (cy 1, 16, .inl (upd (upd (fun _ => 0) (0) (vp_nar .boolean 0)) (0) (vp_nar .boolean 1)))), ((q 71), .inl (cy 0, 16, .inl (upd (fun _ => 0) (0) 0))), ((q 72), .inl (cy 2, 16, .inr (.inl (vp_updL (fun _ => 0) (0) 0)))), ((q 0), .inr (11, (mO q t 0 0 0 0 0 0 0 (-1) 0 0 0 (nI ((n_60))) 0 bs km 0 0 0)))] := hD
  exact cv_ret (u := ((nI ((n_60))), (upd (upd (fun _ => 0) (0) (vp_nar .boolean 0)) (0) (vp_nar .boolean 1)), (upd (fun _ => 0) (0) 0), (vp_updL (fun _ => 0) (0) 0))) S hr hlk hK (hP.sub [3, 0, 1, 2] rfl) (hD.sub [3, 0, 1, 2] (by decide) rfl) hS (⟨rfl, rfl, rfl⟩) (by decide) (by decide) dX12_seeks_92
