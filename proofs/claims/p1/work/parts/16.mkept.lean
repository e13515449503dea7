abbrev cX12_findSaid : ByteArray := prog_14_method_64_code
def yX12_findSaid : MethodName := ⟨RX12, "findSaid", "()V"⟩
theorem okX12_findSaid : yok yX12_findSaid 0 := by decide +kernel
abbrev cX12_findBase : ByteArray := prog_14_method_82_code
def yX12_findBase : MethodName := ⟨RX12, "findBase", "(I)V"⟩
theorem okX12_findBase : yok yX12_findBase 1 := by decide +kernel
abbrev cX12_findKept : ByteArray := prog_14_method_80_code
def yX12_findKept : MethodName := ⟨RX12, "findKept", "()V"⟩
theorem okX12_findKept : yok yX12_findKept 0 := by decide +kernel
abbrev cX12_findGrounds : ByteArray := prog_14_method_79_code
def yX12_findGrounds : MethodName := ⟨RX12, "findGrounds", "()V"⟩
theorem okX12_findGrounds : yok yX12_findGrounds 0 := by decide +kernel
abbrev cX12_isSet : ByteArray := prog_14_method_83_code
def yX12_isSet : MethodName := ⟨RX12, "isSet", "(I)Z"⟩
theorem okX12_isSet : yok yX12_isSet 1 := by decide +kernel
abbrev cX12_sightsThat : ByteArray := prog_14_method_127_code
def yX12_sightsThat : MethodName := ⟨RX12, "sightsThat", "(I)I"⟩
theorem okX12_sightsThat : yok yX12_sightsThat 1 := by decide +kernel
abbrev cX12_bitsOf : ByteArray := prog_14_method_88_code
def yX12_bitsOf : MethodName := ⟨RX12, "bitsOf", "(J)I"⟩
theorem okX12_bitsOf : yok yX12_bitsOf 1 := by decide +kernel
abbrev cX12_isOne : ByteArray := prog_14_method_96_code
def yX12_isOne : MethodName := ⟨RX12, "isOne", "(I)Z"⟩
theorem okX12_isOne : yok yX12_isOne 1 := by decide +kernel
abbrev cX12_mayLie : ByteArray := prog_14_method_93_code
def yX12_mayLie : MethodName := ⟨RX12, "mayLie", "(III)I"⟩
theorem okX12_mayLie : yok yX12_mayLie 3 := by decide +kernel
abbrev cX12_mayLieAll : ByteArray := prog_14_method_94_code
def yX12_mayLieAll : MethodName := ⟨RX12, "mayLieAll", "(II)I"⟩
theorem okX12_mayLieAll : yok yX12_mayLieAll 2 := by decide +kernel
abbrev cX12_areKnown : ByteArray := prog_14_method_98_code
def yX12_areKnown : MethodName := ⟨RX12, "areKnown", "()Z"⟩
theorem okX12_areKnown : yok yX12_areKnown 0 := by decide +kernel
abbrev cX12_cellsOfOne : ByteArray := prog_14_method_128_code
def yX12_cellsOfOne : MethodName := ⟨RX12, "cellsOfOne", "()I"⟩
theorem okX12_cellsOfOne : yok yX12_cellsOfOne 0 := by decide +kernel
abbrev cX12_isBestKnown : ByteArray := prog_14_method_119_code
def yX12_isBestKnown : MethodName := ⟨RX12, "isBestKnown", "()Z"⟩
theorem okX12_isBestKnown : yok yX12_isBestKnown 0 := by decide +kernel
abbrev cX12_neighbour : ByteArray := prog_14_method_68_code
def yX12_neighbour : MethodName := ⟨RX12, "neighbour", "(II)I"⟩
theorem okX12_neighbour : yok yX12_neighbour 2 := by decide +kernel
theorem kw_1584 : Cond.fieldLink "LandSurveyModel" 263 "LandSurveyModel" "isKnown" "[Z" ∈ uu := uu_in (i := 1584) (by decide +kernel) (by decide +kernel)
theorem kw_1588 : Cond.fieldLink "LandSurveyModel" 546 "LandSurveyModel" "keptMany" "I" ∈ uu := uu_in (i := 1588) (by decide +kernel) (by decide +kernel)
theorem kw_1583 : Cond.fieldLink "LandSurveyModel" 260 "LandSurveyModel" "isKept" "[Z" ∈ uu := uu_in (i := 1583) (by decide +kernel) (by decide +kernel)
theorem kw_1587 : Cond.fieldLink "LandSurveyModel" 537 "LandSurveyModel" "best" "I" ∈ uu := uu_in (i := 1587) (by decide +kernel) (by decide +kernel)
theorem kw_1953 : Cond.code yX12_findSaid prog_14_method_64_code 7 none ∈ uu := uu_in (i := 1953) (by decide +kernel) (by decide +kernel)
theorem kw_1950 : Cond.methodLink "LandSurveyModel" 534 yX12_findSaid ∈ uu := uu_in (i := 1950) (by decide +kernel) (by decide +kernel)
theorem kw_1952 : Cond.instanceMethod yX12_findSaid ∈ uu := uu_in (i := 1952) (by decide +kernel) (by decide +kernel)
theorem kw_90 : Cond.selects "LandSurveyModel" yX12_findSaid yX12_findSaid ∈ uu := uu_in (i := 90) (by decide +kernel) (by decide +kernel)
theorem kw_2024 : Cond.code yX12_seeks prog_14_method_78_code 9 none ∈ uu := uu_in (i := 2024) (by decide +kernel) (by decide +kernel)
theorem kw_2021 : Cond.methodLink "LandSurveyModel" 530 yX12_seeks ∈ uu := uu_in (i := 2021) (by decide +kernel) (by decide +kernel)
theorem kw_2023 : Cond.instanceMethod yX12_seeks ∈ uu := uu_in (i := 2023) (by decide +kernel) (by decide +kernel)
theorem kw_107 : Cond.selects "LandSurveyModel" yX12_seeks yX12_seeks ∈ uu := uu_in (i := 107) (by decide +kernel) (by decide +kernel)
theorem kw_2074 : Cond.code yX12_findBase prog_14_method_82_code 3 none ∈ uu := uu_in (i := 2074) (by decide +kernel) (by decide +kernel)
theorem kw_2071 : Cond.methodLink "LandSurveyModel" 540 yX12_findBase ∈ uu := uu_in (i := 2071) (by decide +kernel) (by decide +kernel)
theorem kw_2073 : Cond.instanceMethod yX12_findBase ∈ uu := uu_in (i := 2073) (by decide +kernel) (by decide +kernel)
theorem kw_118 : Cond.selects "LandSurveyModel" yX12_findBase yX12_findBase ∈ uu := uu_in (i := 118) (by decide +kernel) (by decide +kernel)
theorem kw_2083 : Cond.code yX12_findKept prog_14_method_80_code 2 none ∈ uu := uu_in (i := 2083) (by decide +kernel) (by decide +kernel)
theorem kw_2080 : Cond.methodLink "LandSurveyModel" 543 yX12_findKept ∈ uu := uu_in (i := 2080) (by decide +kernel) (by decide +kernel)
theorem kw_2082 : Cond.instanceMethod yX12_findKept ∈ uu := uu_in (i := 2082) (by decide +kernel) (by decide +kernel)
theorem kw_120 : Cond.selects "LandSurveyModel" yX12_findKept yX12_findKept ∈ uu := uu_in (i := 120) (by decide +kernel) (by decide +kernel)
theorem kw_2000 : Cond.code yX12_rocksNow prog_14_method_50_code 2 (some .int) ∈ uu := uu_in (i := 2000) (by decide +kernel) (by decide +kernel)
theorem kw_1997 : Cond.methodLink "LandSurveyModel" 453 yX12_rocksNow ∈ uu := uu_in (i := 1997) (by decide +kernel) (by decide +kernel)
theorem kw_1999 : Cond.instanceMethod yX12_rocksNow ∈ uu := uu_in (i := 1999) (by decide +kernel) (by decide +kernel)
theorem kw_101 : Cond.selects "LandSurveyModel" yX12_rocksNow yX12_rocksNow ∈ uu := uu_in (i := 101) (by decide +kernel) (by decide +kernel)
theorem kw_2127 : Cond.code yX12_mayLie prog_14_method_93_code 12 (some .int) ∈ uu := uu_in (i := 2127) (by decide +kernel) (by decide +kernel)
theorem kw_2124 : Cond.methodLink "LandSurveyModel" 572 yX12_mayLie ∈ uu := uu_in (i := 2124) (by decide +kernel) (by decide +kernel)
theorem kw_2126 : Cond.instanceMethod yX12_mayLie ∈ uu := uu_in (i := 2126) (by decide +kernel) (by decide +kernel)
theorem kw_125 : Cond.selects "LandSurveyModel" yX12_mayLie yX12_mayLie ∈ uu := uu_in (i := 125) (by decide +kernel) (by decide +kernel)
theorem kw_2123 : Cond.code yX12_mayLieAll prog_14_method_94_code 5 (some .int) ∈ uu := uu_in (i := 2123) (by decide +kernel) (by decide +kernel)
theorem kw_2120 : Cond.methodLink "LandSurveyModel" 575 yX12_mayLieAll ∈ uu := uu_in (i := 2120) (by decide +kernel) (by decide +kernel)
theorem kw_2122 : Cond.instanceMethod yX12_mayLieAll ∈ uu := uu_in (i := 2122) (by decide +kernel) (by decide +kernel)
theorem kw_124 : Cond.selects "LandSurveyModel" yX12_mayLieAll yX12_mayLieAll ∈ uu := uu_in (i := 124) (by decide +kernel) (by decide +kernel)
theorem kw_2138 : Cond.code yX12_isOne prog_14_method_96_code 1 (some .boolean) ∈ uu := uu_in (i := 2138) (by decide +kernel) (by decide +kernel)
theorem kw_2136 : Cond.methodLink "LandSurveyModel" 578 yX12_isOne ∈ uu := uu_in (i := 2136) (by decide +kernel) (by decide +kernel)
theorem kw_2137 : Cond.static yX12_isOne ∈ uu := uu_in (i := 2137) (by decide +kernel) (by decide +kernel)
theorem kw_1949 : Cond.code yX12_findGrounds prog_14_method_79_code 2 none ∈ uu := uu_in (i := 1949) (by decide +kernel) (by decide +kernel)
theorem kw_1946 : Cond.methodLink "LandSurveyModel" 557 yX12_findGrounds ∈ uu := uu_in (i := 1946) (by decide +kernel) (by decide +kernel)
theorem kw_1948 : Cond.instanceMethod yX12_findGrounds ∈ uu := uu_in (i := 1948) (by decide +kernel) (by decide +kernel)
theorem kw_89 : Cond.selects "LandSurveyModel" yX12_findGrounds yX12_findGrounds ∈ uu := uu_in (i := 89) (by decide +kernel) (by decide +kernel)
theorem dX12_findSaid_0 : decode cX12_findSaid 0 = .ok (.aload_n 0, 1) := by decide +kernel
theorem dX12_findSaid_1 : decode cX12_findSaid 1 = .ok (.invokevirtual 432, 3) := by decide +kernel
theorem dX12_findSaid_4 : decode cX12_findSaid 4 = .ok (.istore_n 1, 1) := by decide +kernel
theorem dX12_findSaid_5 : decode cX12_findSaid 5 = .ok (.iconst 0, 1) := by decide +kernel
theorem dX12_findSaid_6 : decode cX12_findSaid 6 = .ok (.istore_n 2, 1) := by decide +kernel
theorem dX12_findSaid_7 : decode cX12_findSaid 7 = .ok (.iload_n 2, 1) := by decide +kernel
theorem dX12_findSaid_8 : decode cX12_findSaid 8 = .ok (.aload_n 0, 1) := by decide +kernel
theorem dX12_findSaid_9 : decode cX12_findSaid 9 = .ok (.getfield 423, 3) := by decide +kernel
theorem dX12_findSaid_12 : decode cX12_findSaid 12 = .ok (.if_icmp .ge 136, 3) := by decide +kernel
theorem dX12_findSaid_148 : decode cX12_findSaid 148 = .ok (.return_, 1) := by decide +kernel
theorem dX12_findBase_0 : decode cX12_findBase 0 = .ok (.aload_n 0, 1) := by decide +kernel
theorem dX12_findBase_1 : decode cX12_findBase 1 = .ok (.getfield 263, 3) := by decide +kernel
theorem dX12_findBase_4 : decode cX12_findBase 4 = .ok (.iload_n 1, 1) := by decide +kernel
theorem dX12_findBase_5 : decode cX12_findBase 5 = .ok (.iconst 0, 1) := by decide +kernel
theorem dX12_findBase_6 : decode cX12_findBase 6 = .ok (.bastore, 1) := by decide +kernel
theorem dX12_findBase_7 : decode cX12_findBase 7 = .ok (.iconst 0, 1) := by decide +kernel
theorem dX12_findBase_8 : decode cX12_findBase 8 = .ok (.istore_n 2, 1) := by decide +kernel
theorem dX12_findBase_9 : decode cX12_findBase 9 = .ok (.iload_n 2, 1) := by decide +kernel
theorem dX12_findBase_10 : decode cX12_findBase 10 = .ok (.aload_n 0, 1) := by decide +kernel
theorem dX12_findBase_11 : decode cX12_findBase 11 = .ok (.getfield 423, 3) := by decide +kernel
theorem dX12_findBase_14 : decode cX12_findBase 14 = .ok (.if_icmp .ge 51, 3) := by decide +kernel
theorem dX12_findBase_65 : decode cX12_findBase 65 = .ok (.aload_n 0, 1) := by decide +kernel
theorem dX12_findBase_66 : decode cX12_findBase 66 = .ok (.getfield 263, 3) := by decide +kernel
theorem dX12_findBase_69 : decode cX12_findBase 69 = .ok (.iload_n 1, 1) := by decide +kernel
theorem dX12_findBase_70 : decode cX12_findBase 70 = .ok (.baload, 1) := by decide +kernel
theorem dX12_findBase_71 : decode cX12_findBase 71 = .ok (.ifCond .eq 92, 3) := by decide +kernel
theorem dX12_findBase_163 : decode cX12_findBase 163 = .ok (.return_, 1) := by decide +kernel
theorem dX12_findKept_0 : decode cX12_findKept 0 = .ok (.aload_n 0, 1) := by decide +kernel
theorem dX12_findKept_1 : decode cX12_findKept 1 = .ok (.iconst 0, 1) := by decide +kernel
theorem dX12_findKept_2 : decode cX12_findKept 2 = .ok (.putfield 546, 3) := by decide +kernel
theorem dX12_findKept_5 : decode cX12_findKept 5 = .ok (.iconst 0, 1) := by decide +kernel
theorem dX12_findKept_6 : decode cX12_findKept 6 = .ok (.istore_n 1, 1) := by decide +kernel
theorem dX12_findKept_7 : decode cX12_findKept 7 = .ok (.iload_n 1, 1) := by decide +kernel
theorem dX12_findKept_8 : decode cX12_findKept 8 = .ok (.iconst 1, 1) := by decide +kernel
theorem dX12_findKept_9 : decode cX12_findKept 9 = .ok (.aload_n 0, 1) := by decide +kernel
theorem dX12_findKept_10 : decode cX12_findKept 10 = .ok (.getfield 477, 3) := by decide +kernel
theorem dX12_findKept_13 : decode cX12_findKept 13 = .ok (.ishl, 1) := by decide +kernel
theorem dX12_findKept_14 : decode cX12_findKept 14 = .ok (.if_icmp .ge 75, 3) := by decide +kernel
theorem dX12_findKept_17 : decode cX12_findKept 17 = .ok (.aload_n 0, 1) := by decide +kernel
theorem dX12_findKept_18 : decode cX12_findKept 18 = .ok (.getfield 260, 3) := by decide +kernel
theorem dX12_findKept_21 : decode cX12_findKept 21 = .ok (.iload_n 1, 1) := by decide +kernel
theorem dX12_findKept_22 : decode cX12_findKept 22 = .ok (.aload_n 0, 1) := by decide +kernel
theorem dX12_findKept_23 : decode cX12_findKept 23 = .ok (.getfield 251, 3) := by decide +kernel
theorem dX12_findKept_26 : decode cX12_findKept 26 = .ok (.iload_n 1, 1) := by decide +kernel
theorem dX12_findKept_27 : decode cX12_findKept 27 = .ok (.baload, 1) := by decide +kernel
theorem dX12_findKept_28 : decode cX12_findKept 28 = .ok (.ifCond .eq 30, 3) := by decide +kernel
theorem dX12_findKept_31 : decode cX12_findKept 31 = .ok (.aload_n 0, 1) := by decide +kernel
theorem dX12_findKept_32 : decode cX12_findKept 32 = .ok (.getfield 254, 3) := by decide +kernel
theorem dX12_findKept_35 : decode cX12_findKept 35 = .ok (.iload_n 1, 1) := by decide +kernel
theorem dX12_findKept_36 : decode cX12_findKept 36 = .ok (.iaload, 1) := by decide +kernel
theorem dX12_findKept_37 : decode cX12_findKept 37 = .ok (.aload_n 0, 1) := by decide +kernel
theorem dX12_findKept_38 : decode cX12_findKept 38 = .ok (.getfield 254, 3) := by decide +kernel
theorem dX12_findKept_41 : decode cX12_findKept 41 = .ok (.aload_n 0, 1) := by decide +kernel
theorem dX12_findKept_42 : decode cX12_findKept 42 = .ok (.getfield 537, 3) := by decide +kernel
theorem dX12_findKept_45 : decode cX12_findKept 45 = .ok (.iaload, 1) := by decide +kernel
theorem dX12_findKept_46 : decode cX12_findKept 46 = .ok (.aload_n 0, 1) := by decide +kernel
theorem dX12_findKept_47 : decode cX12_findKept 47 = .ok (.getfield 549, 3) := by decide +kernel
theorem dX12_findKept_50 : decode cX12_findKept 50 = .ok (.iadd, 1) := by decide +kernel
theorem dX12_findKept_51 : decode cX12_findKept 51 = .ok (.if_icmp .gt 7, 3) := by decide +kernel
theorem dX12_findKept_54 : decode cX12_findKept 54 = .ok (.iconst 1, 1) := by decide +kernel
theorem dX12_findKept_55 : decode cX12_findKept 55 = .ok (.goto 4, 3) := by decide +kernel
theorem dX12_findKept_59 : decode cX12_findKept 59 = .ok (.bastore, 1) := by decide +kernel
theorem dX12_findKept_60 : decode cX12_findKept 60 = .ok (.aload_n 0, 1) := by decide +kernel
theorem dX12_findKept_61 : decode cX12_findKept 61 = .ok (.dup, 1) := by decide +kernel
theorem dX12_findKept_62 : decode cX12_findKept 62 = .ok (.getfield 546, 3) := by decide +kernel
theorem dX12_findKept_65 : decode cX12_findKept 65 = .ok (.aload_n 0, 1) := by decide +kernel
theorem dX12_findKept_66 : decode cX12_findKept 66 = .ok (.getfield 260, 3) := by decide +kernel
theorem dX12_findKept_69 : decode cX12_findKept 69 = .ok (.iload_n 1, 1) := by decide +kernel
theorem dX12_findKept_70 : decode cX12_findKept 70 = .ok (.baload, 1) := by decide +kernel
theorem dX12_findKept_71 : decode cX12_findKept 71 = .ok (.ifCond .eq 7, 3) := by decide +kernel
theorem dX12_findKept_74 : decode cX12_findKept 74 = .ok (.iconst 1, 1) := by decide +kernel
theorem dX12_findKept_75 : decode cX12_findKept 75 = .ok (.goto 4, 3) := by decide +kernel
theorem dX12_findKept_79 : decode cX12_findKept 79 = .ok (.iadd, 1) := by decide +kernel
theorem dX12_findKept_80 : decode cX12_findKept 80 = .ok (.putfield 546, 3) := by decide +kernel
theorem dX12_findKept_83 : decode cX12_findKept 83 = .ok (.iinc 1 1, 3) := by decide +kernel
theorem dX12_findKept_86 : decode cX12_findKept 86 = .ok (.goto (-79), 3) := by decide +kernel
theorem dX12_findKept_89 : decode cX12_findKept 89 = .ok (.return_, 1) := by decide +kernel
theorem dX12_findGrounds_0 : decode cX12_findGrounds 0 = .ok (.aload_n 0, 1) := by decide +kernel
theorem dX12_findGrounds_1 : decode cX12_findGrounds 1 = .ok (.getfield 290, 3) := by decide +kernel
theorem dX12_findGrounds_4 : decode cX12_findGrounds 4 = .ok (.ifCond .ne 4, 3) := by decide +kernel
theorem dX12_findGrounds_8 : decode cX12_findGrounds 8 = .ok (.aload_n 0, 1) := by decide +kernel
theorem dX12_findGrounds_9 : decode cX12_findGrounds 9 = .ok (.iconst 0, 1) := by decide +kernel
theorem dX12_findGrounds_10 : decode cX12_findGrounds 10 = .ok (.putfield 290, 3) := by decide +kernel
theorem dX12_findGrounds_13 : decode cX12_findGrounds 13 = .ok (.aload_n 0, 1) := by decide +kernel
theorem dX12_findGrounds_14 : decode cX12_findGrounds 14 = .ok (.invokevirtual 534, 3) := by decide +kernel
theorem dX12_findGrounds_17 : decode cX12_findGrounds 17 = .ok (.aload_n 0, 1) := by decide +kernel
theorem dX12_findGrounds_18 : decode cX12_findGrounds 18 = .ok (.iconst (-1), 1) := by decide +kernel
theorem dX12_findGrounds_19 : decode cX12_findGrounds 19 = .ok (.putfield 537, 3) := by decide +kernel
theorem dX12_findGrounds_22 : decode cX12_findGrounds 22 = .ok (.iconst 0, 1) := by decide +kernel
theorem dX12_findGrounds_23 : decode cX12_findGrounds 23 = .ok (.istore_n 1, 1) := by decide +kernel
theorem dX12_findGrounds_24 : decode cX12_findGrounds 24 = .ok (.iload_n 1, 1) := by decide +kernel
theorem dX12_findGrounds_25 : decode cX12_findGrounds 25 = .ok (.iconst 1, 1) := by decide +kernel
theorem dX12_findGrounds_26 : decode cX12_findGrounds 26 = .ok (.aload_n 0, 1) := by decide +kernel
theorem dX12_findGrounds_27 : decode cX12_findGrounds 27 = .ok (.getfield 477, 3) := by decide +kernel
theorem dX12_findGrounds_30 : decode cX12_findGrounds 30 = .ok (.ishl, 1) := by decide +kernel
theorem dX12_findGrounds_31 : decode cX12_findGrounds 31 = .ok (.if_icmp .ge 74, 3) := by decide +kernel
theorem dX12_findGrounds_34 : decode cX12_findGrounds 34 = .ok (.aload_n 0, 1) := by decide +kernel
theorem dX12_findGrounds_35 : decode cX12_findGrounds 35 = .ok (.getfield 251, 3) := by decide +kernel
theorem dX12_findGrounds_38 : decode cX12_findGrounds 38 = .ok (.iload_n 1, 1) := by decide +kernel
theorem dX12_findGrounds_39 : decode cX12_findGrounds 39 = .ok (.iconst 0, 1) := by decide +kernel
theorem dX12_findGrounds_40 : decode cX12_findGrounds 40 = .ok (.bastore, 1) := by decide +kernel
theorem dX12_findGrounds_41 : decode cX12_findGrounds 41 = .ok (.aload_n 0, 1) := by decide +kernel
theorem dX12_findGrounds_42 : decode cX12_findGrounds 42 = .ok (.iload_n 1, 1) := by decide +kernel
theorem dX12_findGrounds_43 : decode cX12_findGrounds 43 = .ok (.lconst 0, 1) := by decide +kernel
theorem dX12_findGrounds_44 : decode cX12_findGrounds 44 = .ok (.iconst 0, 1) := by decide +kernel
theorem dX12_findGrounds_45 : decode cX12_findGrounds 45 = .ok (.invokevirtual 530, 3) := by decide +kernel
theorem dX12_findGrounds_48 : decode cX12_findGrounds 48 = .ok (.aload_n 0, 1) := by decide +kernel
theorem dX12_findGrounds_49 : decode cX12_findGrounds 49 = .ok (.getfield 251, 3) := by decide +kernel
theorem dX12_findGrounds_52 : decode cX12_findGrounds 52 = .ok (.iload_n 1, 1) := by decide +kernel
theorem dX12_findGrounds_53 : decode cX12_findGrounds 53 = .ok (.baload, 1) := by decide +kernel
theorem dX12_findGrounds_54 : decode cX12_findGrounds 54 = .ok (.ifCond .eq 45, 3) := by decide +kernel
theorem dX12_findGrounds_57 : decode cX12_findGrounds 57 = .ok (.aload_n 0, 1) := by decide +kernel
theorem dX12_findGrounds_58 : decode cX12_findGrounds 58 = .ok (.aload_n 0, 1) := by decide +kernel
theorem dX12_findGrounds_59 : decode cX12_findGrounds 59 = .ok (.getfield 537, 3) := by decide +kernel
theorem dX12_findGrounds_62 : decode cX12_findGrounds 62 = .ok (.ifCond .lt 21, 3) := by decide +kernel
theorem dX12_findGrounds_83 : decode cX12_findGrounds 83 = .ok (.iload_n 1, 1) := by decide +kernel
theorem dX12_findGrounds_84 : decode cX12_findGrounds 84 = .ok (.goto 7, 3) := by decide +kernel
theorem dX12_findGrounds_91 : decode cX12_findGrounds 91 = .ok (.putfield 537, 3) := by decide +kernel
theorem dX12_findGrounds_94 : decode cX12_findGrounds 94 = .ok (.aload_n 0, 1) := by decide +kernel
theorem dX12_findGrounds_95 : decode cX12_findGrounds 95 = .ok (.iload_n 1, 1) := by decide +kernel
theorem dX12_findGrounds_96 : decode cX12_findGrounds 96 = .ok (.invokevirtual 540, 3) := by decide +kernel
theorem dX12_findGrounds_99 : decode cX12_findGrounds 99 = .ok (.iinc 1 1, 3) := by decide +kernel
theorem dX12_findGrounds_102 : decode cX12_findGrounds 102 = .ok (.goto (-78), 3) := by decide +kernel
theorem dX12_findGrounds_105 : decode cX12_findGrounds 105 = .ok (.aload_n 0, 1) := by decide +kernel
theorem dX12_findGrounds_106 : decode cX12_findGrounds 106 = .ok (.invokevirtual 543, 3) := by decide +kernel
theorem dX12_findGrounds_109 : decode cX12_findGrounds 109 = .ok (.return_, 1) := by decide +kernel
theorem dX12_isSet_0 : decode cX12_isSet 0 = .ok (.iload_n 1, 1) := by decide +kernel
theorem dX12_isSet_1 : decode cX12_isSet 1 = .ok (.ifCond .lt 17, 3) := by decide +kernel
theorem dX12_isSet_4 : decode cX12_isSet 4 = .ok (.iload_n 1, 1) := by decide +kernel
theorem dX12_isSet_5 : decode cX12_isSet 5 = .ok (.iconst 1, 1) := by decide +kernel
theorem dX12_isSet_6 : decode cX12_isSet 6 = .ok (.aload_n 0, 1) := by decide +kernel
theorem dX12_isSet_7 : decode cX12_isSet 7 = .ok (.getfield 477, 3) := by decide +kernel
theorem dX12_isSet_10 : decode cX12_isSet 10 = .ok (.ishl, 1) := by decide +kernel
theorem dX12_isSet_11 : decode cX12_isSet 11 = .ok (.if_icmp .ge 7, 3) := by decide +kernel
theorem dX12_isSet_14 : decode cX12_isSet 14 = .ok (.iconst 1, 1) := by decide +kernel
theorem dX12_isSet_15 : decode cX12_isSet 15 = .ok (.goto 4, 3) := by decide +kernel
theorem dX12_isSet_19 : decode cX12_isSet 19 = .ok (.ireturn, 1) := by decide +kernel
theorem dX12_isSet_18 : decode cX12_isSet 18 = .ok (.iconst 0, 1) := by decide +kernel
theorem dX12_sightsThat_0 : decode cX12_sightsThat 0 = .ok (.iconst 0, 1) := by decide +kernel
theorem dX12_sightsThat_1 : decode cX12_sightsThat 1 = .ok (.istore_n 2, 1) := by decide +kernel
theorem dX12_sightsThat_2 : decode cX12_sightsThat 2 = .ok (.iconst 0, 1) := by decide +kernel
theorem dX12_sightsThat_3 : decode cX12_sightsThat 3 = .ok (.istore_n 3, 1) := by decide +kernel
theorem dX12_sightsThat_4 : decode cX12_sightsThat 4 = .ok (.iload_n 3, 1) := by decide +kernel
theorem dX12_sightsThat_5 : decode cX12_sightsThat 5 = .ok (.aload_n 0, 1) := by decide +kernel
theorem dX12_sightsThat_6 : decode cX12_sightsThat 6 = .ok (.getfield 423, 3) := by decide +kernel
theorem dX12_sightsThat_9 : decode cX12_sightsThat 9 = .ok (.if_icmp .ge 55, 3) := by decide +kernel
theorem dX12_sightsThat_64 : decode cX12_sightsThat 64 = .ok (.iload_n 2, 1) := by decide +kernel
theorem dX12_sightsThat_65 : decode cX12_sightsThat 65 = .ok (.ireturn, 1) := by decide +kernel
theorem dX12_bitsOf_0 : decode cX12_bitsOf 0 = .ok (.iconst 0, 1) := by decide +kernel
theorem dX12_bitsOf_1 : decode cX12_bitsOf 1 = .ok (.istore_n 3, 1) := by decide +kernel
theorem dX12_bitsOf_2 : decode cX12_bitsOf 2 = .ok (.iconst 0, 1) := by decide +kernel
theorem dX12_bitsOf_3 : decode cX12_bitsOf 3 = .ok (.istore 4, 2) := by decide +kernel
theorem dX12_bitsOf_5 : decode cX12_bitsOf 5 = .ok (.iload 4, 2) := by decide +kernel
theorem dX12_bitsOf_7 : decode cX12_bitsOf 7 = .ok (.aload_n 0, 1) := by decide +kernel
theorem dX12_bitsOf_8 : decode cX12_bitsOf 8 = .ok (.getfield 423, 3) := by decide +kernel
theorem dX12_bitsOf_11 : decode cX12_bitsOf 11 = .ok (.if_icmp .ge 26, 3) := by decide +kernel
theorem dX12_bitsOf_37 : decode cX12_bitsOf 37 = .ok (.iload_n 3, 1) := by decide +kernel
theorem dX12_bitsOf_38 : decode cX12_bitsOf 38 = .ok (.ireturn, 1) := by decide +kernel
theorem dX12_isOne_0 : decode cX12_isOne 0 = .ok (.iload_n 0, 1) := by decide +kernel
theorem dX12_isOne_1 : decode cX12_isOne 1 = .ok (.ifCond .eq 15, 3) := by decide +kernel
theorem dX12_isOne_4 : decode cX12_isOne 4 = .ok (.iload_n 0, 1) := by decide +kernel
theorem dX12_isOne_5 : decode cX12_isOne 5 = .ok (.iload_n 0, 1) := by decide +kernel
theorem dX12_isOne_6 : decode cX12_isOne 6 = .ok (.iconst 1, 1) := by decide +kernel
theorem dX12_isOne_7 : decode cX12_isOne 7 = .ok (.isub, 1) := by decide +kernel
theorem dX12_isOne_8 : decode cX12_isOne 8 = .ok (.iand, 1) := by decide +kernel
theorem dX12_isOne_9 : decode cX12_isOne 9 = .ok (.ifCond .ne 7, 3) := by decide +kernel
theorem dX12_isOne_16 : decode cX12_isOne 16 = .ok (.iconst 0, 1) := by decide +kernel
theorem dX12_isOne_17 : decode cX12_isOne 17 = .ok (.ireturn, 1) := by decide +kernel
theorem dX12_mayLie_0 : decode cX12_mayLie 0 = .ok (.aload_n 0, 1) := by decide +kernel
theorem dX12_mayLie_1 : decode cX12_mayLie 1 = .ok (.invokevirtual 453, 3) := by decide +kernel
theorem dX12_mayLie_4 : decode cX12_mayLie 4 = .ok (.istore 4, 2) := by decide +kernel
theorem dX12_mayLie_6 : decode cX12_mayLie 6 = .ok (.aload_n 0, 1) := by decide +kernel
theorem dX12_mayLie_7 : decode cX12_mayLie 7 = .ok (.getfield 263, 3) := by decide +kernel
theorem dX12_mayLie_10 : decode cX12_mayLie 10 = .ok (.iload_n 1, 1) := by decide +kernel
theorem dX12_mayLie_11 : decode cX12_mayLie 11 = .ok (.baload, 1) := by decide +kernel
theorem dX12_mayLie_12 : decode cX12_mayLie 12 = .ok (.ifCond .ne 18, 3) := by decide +kernel
theorem dX12_mayLie_15 : decode cX12_mayLie 15 = .ok (.iconst 1, 1) := by decide +kernel
theorem dX12_mayLie_16 : decode cX12_mayLie 16 = .ok (.iload 4, 2) := by decide +kernel
theorem dX12_mayLie_18 : decode cX12_mayLie 18 = .ok (.ishl, 1) := by decide +kernel
theorem dX12_mayLie_19 : decode cX12_mayLie 19 = .ok (.iconst 1, 1) := by decide +kernel
theorem dX12_mayLie_20 : decode cX12_mayLie 20 = .ok (.isub, 1) := by decide +kernel
theorem dX12_mayLie_21 : decode cX12_mayLie 21 = .ok (.sipush 1024, 3) := by decide +kernel
theorem dX12_mayLie_24 : decode cX12_mayLie 24 = .ok (.ior, 1) := by decide +kernel
theorem dX12_mayLie_25 : decode cX12_mayLie 25 = .ok (.sipush 2048, 3) := by decide +kernel
theorem dX12_mayLie_28 : decode cX12_mayLie 28 = .ok (.ior, 1) := by decide +kernel
theorem dX12_mayLie_29 : decode cX12_mayLie 29 = .ok (.ireturn, 1) := by decide +kernel
theorem dX12_mayLieAll_0 : decode cX12_mayLieAll 0 = .ok (.iconst 0, 1) := by decide +kernel
theorem dX12_mayLieAll_1 : decode cX12_mayLieAll 1 = .ok (.istore_n 3, 1) := by decide +kernel
theorem dX12_mayLieAll_2 : decode cX12_mayLieAll 2 = .ok (.iconst 0, 1) := by decide +kernel
theorem dX12_mayLieAll_3 : decode cX12_mayLieAll 3 = .ok (.istore 4, 2) := by decide +kernel
theorem dX12_mayLieAll_5 : decode cX12_mayLieAll 5 = .ok (.iload 4, 2) := by decide +kernel
theorem dX12_mayLieAll_7 : decode cX12_mayLieAll 7 = .ok (.iconst 1, 1) := by decide +kernel
theorem dX12_mayLieAll_8 : decode cX12_mayLieAll 8 = .ok (.aload_n 0, 1) := by decide +kernel
theorem dX12_mayLieAll_9 : decode cX12_mayLieAll 9 = .ok (.getfield 477, 3) := by decide +kernel
theorem dX12_mayLieAll_12 : decode cX12_mayLieAll 12 = .ok (.ishl, 1) := by decide +kernel
theorem dX12_mayLieAll_13 : decode cX12_mayLieAll 13 = .ok (.if_icmp .ge 34, 3) := by decide +kernel
theorem dX12_mayLieAll_16 : decode cX12_mayLieAll 16 = .ok (.iload_n 3, 1) := by decide +kernel
theorem dX12_mayLieAll_17 : decode cX12_mayLieAll 17 = .ok (.aload_n 0, 1) := by decide +kernel
theorem dX12_mayLieAll_18 : decode cX12_mayLieAll 18 = .ok (.getfield 260, 3) := by decide +kernel
theorem dX12_mayLieAll_21 : decode cX12_mayLieAll 21 = .ok (.iload 4, 2) := by decide +kernel
theorem dX12_mayLieAll_23 : decode cX12_mayLieAll 23 = .ok (.baload, 1) := by decide +kernel
theorem dX12_mayLieAll_24 : decode cX12_mayLieAll 24 = .ok (.ifCond .eq 14, 3) := by decide +kernel
theorem dX12_mayLieAll_27 : decode cX12_mayLieAll 27 = .ok (.aload_n 0, 1) := by decide +kernel
theorem dX12_mayLieAll_28 : decode cX12_mayLieAll 28 = .ok (.iload 4, 2) := by decide +kernel
theorem dX12_mayLieAll_30 : decode cX12_mayLieAll 30 = .ok (.iload_n 1, 1) := by decide +kernel
theorem dX12_mayLieAll_31 : decode cX12_mayLieAll 31 = .ok (.iload_n 2, 1) := by decide +kernel
theorem dX12_mayLieAll_32 : decode cX12_mayLieAll 32 = .ok (.invokevirtual 572, 3) := by decide +kernel
theorem dX12_mayLieAll_35 : decode cX12_mayLieAll 35 = .ok (.goto 4, 3) := by decide +kernel
theorem dX12_mayLieAll_39 : decode cX12_mayLieAll 39 = .ok (.ior, 1) := by decide +kernel
theorem dX12_mayLieAll_40 : decode cX12_mayLieAll 40 = .ok (.istore_n 3, 1) := by decide +kernel
theorem dX12_mayLieAll_41 : decode cX12_mayLieAll 41 = .ok (.iinc 4 1, 3) := by decide +kernel
theorem dX12_mayLieAll_44 : decode cX12_mayLieAll 44 = .ok (.goto (-39), 3) := by decide +kernel
theorem dX12_mayLieAll_47 : decode cX12_mayLieAll 47 = .ok (.iload_n 3, 1) := by decide +kernel
theorem dX12_mayLieAll_48 : decode cX12_mayLieAll 48 = .ok (.ireturn, 1) := by decide +kernel
theorem dX12_areKnown_0 : decode cX12_areKnown 0 = .ok (.aload_n 0, 1) := by decide +kernel
theorem dX12_areKnown_1 : decode cX12_areKnown 1 = .ok (.getfield 546, 3) := by decide +kernel
theorem dX12_areKnown_4 : decode cX12_areKnown 4 = .ok (.ifCond .le 7, 3) := by decide +kernel
theorem dX12_areKnown_7 : decode cX12_areKnown 7 = .ok (.iconst 1, 1) := by decide +kernel
theorem dX12_areKnown_8 : decode cX12_areKnown 8 = .ok (.goto 4, 3) := by decide +kernel
theorem dX12_areKnown_12 : decode cX12_areKnown 12 = .ok (.istore_n 1, 1) := by decide +kernel
theorem dX12_areKnown_13 : decode cX12_areKnown 13 = .ok (.iconst 0, 1) := by decide +kernel
theorem dX12_areKnown_14 : decode cX12_areKnown 14 = .ok (.istore_n 2, 1) := by decide +kernel
theorem dX12_areKnown_15 : decode cX12_areKnown 15 = .ok (.iload_n 2, 1) := by decide +kernel
theorem dX12_areKnown_16 : decode cX12_areKnown 16 = .ok (.iconst 1, 1) := by decide +kernel
theorem dX12_areKnown_17 : decode cX12_areKnown 17 = .ok (.aload_n 0, 1) := by decide +kernel
theorem dX12_areKnown_18 : decode cX12_areKnown 18 = .ok (.getfield 477, 3) := by decide +kernel
theorem dX12_areKnown_21 : decode cX12_areKnown 21 = .ok (.ishl, 1) := by decide +kernel
theorem dX12_areKnown_22 : decode cX12_areKnown 22 = .ok (.if_icmp .ge 37, 3) := by decide +kernel
theorem dX12_areKnown_25 : decode cX12_areKnown 25 = .ok (.iload_n 1, 1) := by decide +kernel
theorem dX12_areKnown_26 : decode cX12_areKnown 26 = .ok (.ifCond .eq 25, 3) := by decide +kernel
theorem dX12_areKnown_29 : decode cX12_areKnown 29 = .ok (.aload_n 0, 1) := by decide +kernel
theorem dX12_areKnown_30 : decode cX12_areKnown 30 = .ok (.getfield 260, 3) := by decide +kernel
theorem dX12_areKnown_33 : decode cX12_areKnown 33 = .ok (.iload_n 2, 1) := by decide +kernel
theorem dX12_areKnown_34 : decode cX12_areKnown 34 = .ok (.baload, 1) := by decide +kernel
theorem dX12_areKnown_35 : decode cX12_areKnown 35 = .ok (.ifCond .eq 12, 3) := by decide +kernel
theorem dX12_areKnown_38 : decode cX12_areKnown 38 = .ok (.aload_n 0, 1) := by decide +kernel
theorem dX12_areKnown_39 : decode cX12_areKnown 39 = .ok (.getfield 263, 3) := by decide +kernel
theorem dX12_areKnown_42 : decode cX12_areKnown 42 = .ok (.iload_n 2, 1) := by decide +kernel
theorem dX12_areKnown_43 : decode cX12_areKnown 43 = .ok (.baload, 1) := by decide +kernel
theorem dX12_areKnown_44 : decode cX12_areKnown 44 = .ok (.ifCond .eq 7, 3) := by decide +kernel
theorem dX12_areKnown_51 : decode cX12_areKnown 51 = .ok (.iconst 0, 1) := by decide +kernel
theorem dX12_areKnown_52 : decode cX12_areKnown 52 = .ok (.istore_n 1, 1) := by decide +kernel
theorem dX12_areKnown_53 : decode cX12_areKnown 53 = .ok (.iinc 2 1, 3) := by decide +kernel
theorem dX12_areKnown_56 : decode cX12_areKnown 56 = .ok (.goto (-41), 3) := by decide +kernel
theorem dX12_areKnown_59 : decode cX12_areKnown 59 = .ok (.iload_n 1, 1) := by decide +kernel
theorem dX12_areKnown_60 : decode cX12_areKnown 60 = .ok (.ireturn, 1) := by decide +kernel
theorem dX12_cellsOfOne_0 : decode cX12_cellsOfOne 0 = .ok (.iconst 0, 1) := by decide +kernel
theorem dX12_cellsOfOne_1 : decode cX12_cellsOfOne 1 = .ok (.istore_n 1, 1) := by decide +kernel
theorem dX12_cellsOfOne_2 : decode cX12_cellsOfOne 2 = .ok (.iconst 0, 1) := by decide +kernel
theorem dX12_cellsOfOne_3 : decode cX12_cellsOfOne 3 = .ok (.istore_n 2, 1) := by decide +kernel
theorem dX12_cellsOfOne_4 : decode cX12_cellsOfOne 4 = .ok (.iload_n 2, 1) := by decide +kernel
theorem dX12_cellsOfOne_5 : decode cX12_cellsOfOne 5 = .ok (.bipush 96, 2) := by decide +kernel
theorem dX12_cellsOfOne_7 : decode cX12_cellsOfOne 7 = .ok (.if_icmp .ge 36, 3) := by decide +kernel
theorem dX12_cellsOfOne_43 : decode cX12_cellsOfOne 43 = .ok (.iload_n 1, 1) := by decide +kernel
theorem dX12_cellsOfOne_44 : decode cX12_cellsOfOne 44 = .ok (.ireturn, 1) := by decide +kernel
theorem dX12_cellsOfOne_10 : decode cX12_cellsOfOne 10 = .ok (.iload_n 1, 1) := by decide +kernel
theorem dX12_cellsOfOne_11 : decode cX12_cellsOfOne 11 = .ok (.aload_n 0, 1) := by decide +kernel
theorem dX12_cellsOfOne_12 : decode cX12_cellsOfOne 12 = .ok (.getfield 546, 3) := by decide +kernel
theorem dX12_cellsOfOne_15 : decode cX12_cellsOfOne 15 = .ok (.ifCond .le 19, 3) := by decide +kernel
theorem dX12_cellsOfOne_18 : decode cX12_cellsOfOne 18 = .ok (.aload_n 0, 1) := by decide +kernel
theorem dX12_cellsOfOne_19 : decode cX12_cellsOfOne 19 = .ok (.iload_n 2, 1) := by decide +kernel
theorem dX12_cellsOfOne_20 : decode cX12_cellsOfOne 20 = .ok (.iconst 0, 1) := by decide +kernel
theorem dX12_cellsOfOne_21 : decode cX12_cellsOfOne 21 = .ok (.invokevirtual 575, 3) := by decide +kernel
theorem dX12_cellsOfOne_24 : decode cX12_cellsOfOne 24 = .ok (.invokestatic 578, 3) := by decide +kernel
theorem dX12_cellsOfOne_27 : decode cX12_cellsOfOne 27 = .ok (.ifCond .eq 7, 3) := by decide +kernel
theorem dX12_cellsOfOne_34 : decode cX12_cellsOfOne 34 = .ok (.iconst 0, 1) := by decide +kernel
theorem dX12_cellsOfOne_35 : decode cX12_cellsOfOne 35 = .ok (.iadd, 1) := by decide +kernel
theorem dX12_cellsOfOne_36 : decode cX12_cellsOfOne 36 = .ok (.istore_n 1, 1) := by decide +kernel
theorem dX12_cellsOfOne_37 : decode cX12_cellsOfOne 37 = .ok (.iinc 2 1, 3) := by decide +kernel
theorem dX12_cellsOfOne_40 : decode cX12_cellsOfOne 40 = .ok (.goto (-36), 3) := by decide +kernel
theorem dX12_isBestKnown_0 : decode cX12_isBestKnown 0 = .ok (.aload_n 0, 1) := by decide +kernel
theorem dX12_isBestKnown_1 : decode cX12_isBestKnown 1 = .ok (.invokevirtual 557, 3) := by decide +kernel
theorem dX12_isBestKnown_4 : decode cX12_isBestKnown 4 = .ok (.aload_n 0, 1) := by decide +kernel
theorem dX12_isBestKnown_5 : decode cX12_isBestKnown 5 = .ok (.getfield 537, 3) := by decide +kernel
theorem dX12_isBestKnown_8 : decode cX12_isBestKnown 8 = .ok (.ifCond .lt 19, 3) := by decide +kernel
theorem dX12_isBestKnown_11 : decode cX12_isBestKnown 11 = .ok (.aload_n 0, 1) := by decide +kernel
theorem dX12_isBestKnown_12 : decode cX12_isBestKnown 12 = .ok (.getfield 263, 3) := by decide +kernel
theorem dX12_isBestKnown_15 : decode cX12_isBestKnown 15 = .ok (.aload_n 0, 1) := by decide +kernel
theorem dX12_isBestKnown_16 : decode cX12_isBestKnown 16 = .ok (.getfield 537, 3) := by decide +kernel
theorem dX12_isBestKnown_19 : decode cX12_isBestKnown 19 = .ok (.baload, 1) := by decide +kernel
theorem dX12_isBestKnown_20 : decode cX12_isBestKnown 20 = .ok (.ifCond .eq 7, 3) := by decide +kernel
theorem dX12_isBestKnown_27 : decode cX12_isBestKnown 27 = .ok (.iconst 0, 1) := by decide +kernel
theorem dX12_isBestKnown_28 : decode cX12_isBestKnown 28 = .ok (.ireturn, 1) := by decide +kernel
theorem dX12_neighbour_0 : decode cX12_neighbour 0 = .ok (.iload_n 0, 1) := by decide +kernel
theorem dX12_neighbour_1 : decode cX12_neighbour 1 = .ok (.bipush 12, 2) := by decide +kernel
theorem dX12_neighbour_3 : decode cX12_neighbour 3 = .ok (.irem, 1) := by decide +kernel
theorem dX12_neighbour_4 : decode cX12_neighbour 4 = .ok (.iload_n 1, 1) := by decide +kernel
theorem dX12_neighbour_5 : decode cX12_neighbour 5 = .ok (.ifCond .ne 7, 3) := by decide +kernel
theorem dX12_neighbour_12 : decode cX12_neighbour 12 = .ok (.iload_n 1, 1) := by decide +kernel
theorem dX12_neighbour_13 : decode cX12_neighbour 13 = .ok (.iconst 1, 1) := by decide +kernel
theorem dX12_neighbour_14 : decode cX12_neighbour 14 = .ok (.if_icmp .ne 7, 3) := by decide +kernel
theorem dX12_neighbour_21 : decode cX12_neighbour 21 = .ok (.iconst 0, 1) := by decide +kernel
theorem dX12_neighbour_22 : decode cX12_neighbour 22 = .ok (.iadd, 1) := by decide +kernel
theorem dX12_neighbour_23 : decode cX12_neighbour 23 = .ok (.istore_n 2, 1) := by decide +kernel
theorem dX12_neighbour_24 : decode cX12_neighbour 24 = .ok (.iload_n 0, 1) := by decide +kernel
theorem dX12_neighbour_25 : decode cX12_neighbour 25 = .ok (.bipush 12, 2) := by decide +kernel
theorem dX12_neighbour_27 : decode cX12_neighbour 27 = .ok (.idiv, 1) := by decide +kernel
theorem dX12_neighbour_28 : decode cX12_neighbour 28 = .ok (.iload_n 1, 1) := by decide +kernel
theorem dX12_neighbour_29 : decode cX12_neighbour 29 = .ok (.iconst 2, 1) := by decide +kernel
theorem dX12_neighbour_30 : decode cX12_neighbour 30 = .ok (.if_icmp .ne 7, 3) := by decide +kernel
theorem dX12_neighbour_37 : decode cX12_neighbour 37 = .ok (.iload_n 1, 1) := by decide +kernel
theorem dX12_neighbour_38 : decode cX12_neighbour 38 = .ok (.iconst 3, 1) := by decide +kernel
theorem dX12_neighbour_39 : decode cX12_neighbour 39 = .ok (.if_icmp .ne 7, 3) := by decide +kernel
theorem dX12_neighbour_46 : decode cX12_neighbour 46 = .ok (.iconst 0, 1) := by decide +kernel
theorem dX12_neighbour_47 : decode cX12_neighbour 47 = .ok (.iadd, 1) := by decide +kernel
theorem dX12_neighbour_48 : decode cX12_neighbour 48 = .ok (.istore_n 3, 1) := by decide +kernel
theorem dX12_neighbour_49 : decode cX12_neighbour 49 = .ok (.iload_n 2, 1) := by decide +kernel
theorem dX12_neighbour_50 : decode cX12_neighbour 50 = .ok (.iload_n 3, 1) := by decide +kernel
theorem dX12_neighbour_51 : decode cX12_neighbour 51 = .ok (.invokestatic 419, 3) := by decide +kernel
theorem dX12_neighbour_54 : decode cX12_neighbour 54 = .ok (.ifCond .eq 12, 3) := by decide +kernel
theorem dX12_neighbour_57 : decode cX12_neighbour 57 = .ok (.bipush 12, 2) := by decide +kernel
theorem dX12_neighbour_59 : decode cX12_neighbour 59 = .ok (.iload_n 3, 1) := by decide +kernel
theorem dX12_neighbour_60 : decode cX12_neighbour 60 = .ok (.imul, 1) := by decide +kernel
theorem dX12_neighbour_61 : decode cX12_neighbour 61 = .ok (.iload_n 2, 1) := by decide +kernel
theorem dX12_neighbour_62 : decode cX12_neighbour 62 = .ok (.iadd, 1) := by decide +kernel
theorem dX12_neighbour_63 : decode cX12_neighbour 63 = .ok (.goto 4, 3) := by decide +kernel
theorem dX12_neighbour_67 : decode cX12_neighbour 67 = .ok (.ireturn, 1) := by decide +kernel
theorem dX12_neighbour_66 : decode cX12_neighbour 66 = .ok (.iconst (-1), 1) := by decide +kernel
theorem dX12_neighbour_42 : decode cX12_neighbour 42 = .ok (.iconst 1, 1) := by decide +kernel
theorem dX12_neighbour_43 : decode cX12_neighbour 43 = .ok (.goto 4, 3) := by decide +kernel
theorem dX12_neighbour_33 : decode cX12_neighbour 33 = .ok (.iconst (-1), 1) := by decide +kernel
theorem dX12_neighbour_34 : decode cX12_neighbour 34 = .ok (.goto 13, 3) := by decide +kernel
theorem dX12_neighbour_17 : decode cX12_neighbour 17 = .ok (.iconst 1, 1) := by decide +kernel
theorem dX12_neighbour_18 : decode cX12_neighbour 18 = .ok (.goto 4, 3) := by decide +kernel
theorem dX12_neighbour_8 : decode cX12_neighbour 8 = .ok (.iconst (-1), 1) := by decide +kernel
theorem dX12_neighbour_9 : decode cX12_neighbour 9 = .ok (.goto 13, 3) := by decide +kernel
set_option maxHeartbeats 4000000 in
set_option maxRecDepth 100000 in
theorem kX12_findSaid (l : Launch) (D : va_G) (cy : Nat → ClassId) (q : Nat → Nat) (t : Int32) (ch : Int32) (bn : Int32) (bs : Int32) (km : Int32) : RV l D cy yX12_findSaid cX12_findSaid 7 none 1 22 [.ref (q 0)] [((q 0), .inr (11, (mO q t 0 0 0 0 0 0 0 (-1) ch 0 0 bn 0 bs km 0 0 0)))] (fun v : Unit => True) := by
  refine metr_go (by decide) (Nat.le_of_ble_eq_true rfl) (fun p e s m below meth c ls S hr hlk hP hK hl => ?_)
  have hl : lv_has ls 7 [(0, .ref (q 0))] := hl
  refine lv_aload_n S.1 S.2.1 dX12_findSaid_0 rfl (lv_at hl 0 rfl) ?_
  refine call_ri (runV_R (wc := [((q 0), .inr (11, (mO q t 0 0 0 0 0 0 0 (-1) ch 0 0 bn 0 bs km 0 0 0)))]) (As := []) (rest := []) S (kX12_bookNow l D cy q t ch bn bs km) hK hP [0] rfl 0 11 rfl rfl kw_1954 kw_1956 kw_91 kw_152 kw_1957 okX12_bookNow rfl (by decide) hl.1 rfl (Nat.le_of_ble_eq_true rfl) dX12_findSaid_1 (by decide)) (fun v1 w1 => ?_)
  subst w1
  refine lv_istore_n (lv' := [(1, .int (-1)), (0, .ref (q 0))]) S.1 S.2.1 dX12_findSaid_4 rfl hl (by decide) rfl (fun ls hl => ?_)
  refine lv_iconst (v := 0) S.1 S.2.1 dX12_findSaid_5 (by decide) ?_
  refine lv_istore_n (lv' := [(2, .int 0), (1, .int (-1)), (0, .ref (q 0))]) S.1 S.2.1 dX12_findSaid_6 rfl hl (by decide) rfl (fun ls hl => ?_)
  refine lv_iload_n S.1 S.2.1 dX12_findSaid_7 rfl (lv_at hl 0 rfl) ?_
  refine lv_aload_n S.1 S.2.1 dX12_findSaid_8 rfl (lv_at hl 2 rfl) ?_
  refine r_get S hK hP 0 11 rfl rfl inX12 40 (by decide) kw_1550 (v := .int 0) rfl dX12_findSaid_9 ?_
  refine r_icmp_ge S 0 0 rfl rfl dX12_findSaid_12 (tgt := 148) (by decide) (fun _ => ?_) (fun c => absurd c (by decide))
  exact rv_ret S hr hlk (trivial) dX12_findSaid_148
set_option maxHeartbeats 4000000 in
set_option maxRecDepth 100000 in
theorem kX12_findBase (l : Launch) (D : va_G) (cy : Nat → ClassId) (q : Nat → Nat) (t : Int32) (ch : Int32) (bn : Int32) (bs : Int32) (km : Int32) : CV l D cy yX12_findBase cX12_findBase 3 none 0 0 0 0 [.ref (q 0), .int 0] [((q 0), .inr (11, (mO q t 0 0 0 0 0 0 0 (-1) ch 0 0 bn 0 bs km 0 0 0))), ((q 74), .inl (cy 1, 16, .inl (fun _ => 0)))] (fun (u : (Nat → Int32)) => (u) 0 = 0) (fun (u : (Nat → Int32)) => [((q 0), .inr (11, (mO q t 0 0 0 0 0 0 0 (-1) ch 0 0 bn 0 bs km 0 0 0))), ((q 74), .inl (cy 1, 16, .inl (u)))]) := by
  refine cv_go (by decide) (Nat.le_of_ble_eq_true rfl) (fun p e s m below meth c ls A hA S hr hlk hnm hP hK hD hl => ?_)
  have hS : va_S A s.heap s.heap [] := va_S.rf
  have hl : lv_has ls 3 [(0, .ref (q 0)), (1, .int 0)] := hl
  refine lv_aload_n S.1 S.2.1 dX12_findBase_0 rfl (lv_at hl 0 rfl) ?_
  refine r_get S hK hP 0 11 rfl rfl inX12 74 (by decide) kw_1584 (v := .ref (q 74)) rfl dX12_findBase_1 ?_
  refine lv_iload_n S.1 S.2.1 dX12_findBase_4 rfl (lv_at hl 1 rfl) ?_
  refine lv_iconst (v := 0) S.1 S.2.1 dX12_findBase_5 (by decide) ?_
  refine r_zast S hK hP hD hS 1 1 rfl rfl (0) rfl (by decide) (by decide) dX12_findBase_6 (fun H locs hP hD hS => ?_)
  have hP : va_P D vwCl [((q 0), .inr (11, (mO q t 0 0 0 0 0 0 0 (-1) ch 0 0 bn 0 bs km 0 0 0))), ((q 74), .inl (cy 1, 16, .inl (upd (fun _ => 0) (0) (vp_nar .boolean 0))))] H := hP
  have hD : va_D A [((q 0), .inr (11, (mO q t 0 0 0 0 0 0 0 (-1) ch 0 0 bn 0 bs km 0 0 0))), ((q 74), .inl (cy 1, 16, .inl (upd (fun _ => 0) (0) (vp_nar .boolean 0))))] := hD
  refine lv_iconst (v := 0) S.1 S.2.1 dX12_findBase_7 (by decide) ?_
  refine lv_istore_n (lv' := [(2, .int 0), (0, .ref (q 0)), (1, .int 0)]) S.1 S.2.1 dX12_findBase_8 rfl hl (by decide) rfl (fun ls hl => ?_)
  refine lv_iload_n S.1 S.2.1 dX12_findBase_9 rfl (lv_at hl 0 rfl) ?_
  refine lv_aload_n S.1 S.2.1 dX12_findBase_10 rfl (lv_at hl 1 rfl) ?_
  refine r_get S hK hP 0 11 rfl rfl inX12 40 (by decide) kw_1550 (v := .int 0) rfl dX12_findBase_11 ?_
  refine r_icmp_ge S 0 0 rfl rfl dX12_findBase_14 (tgt := 65) (by decide) (fun _ => ?_) (fun c => absurd c (by decide))
  refine lv_aload_n S.1 S.2.1 dX12_findBase_65 rfl (lv_at hl 1 rfl) ?_
  refine r_get S hK hP 0 11 rfl rfl inX12 74 (by decide) kw_1584 (v := .ref (q 74)) rfl dX12_findBase_66 ?_
  refine lv_iload_n S.1 S.2.1 dX12_findBase_69 rfl (lv_at hl 2 rfl) ?_
  refine r_zald S hK hP 1 1 rfl rfl (0) rfl (by decide) (by decide) (v := 0) rfl dX12_findBase_70 ?_
  refine r_if_eq S 0 rfl dX12_findBase_71 (tgt := 163) (by decide) (fun _ => ?_) (fun c => absurd c (by decide))
  exact cv_ret (u := (upd (fun _ => 0) (0) (vp_nar .boolean 0))) S hr hlk hK (hP.sub [0, 1] rfl) (hD.sub [0, 1] (by decide) rfl) hS (rfl) (by decide) (by decide) dX12_findBase_163
set_option maxHeartbeats 4000000 in
set_option maxRecDepth 100000 in
theorem kX12_findKept (l : Launch) (D : va_G) (cy : Nat → ClassId) (q : Nat → Nat) (t : Int32) (bn : Int32) (gd : Nat → Int32) (cs : Nat → Int32) (hgd : gd 0 = 1) (hcs : cs 0 = 0) : CV l D cy yX12_findKept cX12_findKept 2 none 0 0 0 0 [.ref (q 0)] [((q 0), .inr (11, (mO q t 0 0 0 0 0 0 0 (-1) 0 0 0 bn 0 0 0 0 0 0))), ((q 70), .inl (cy 1, 16, .inl gd)), ((q 71), .inl (cy 0, 16, .inl cs)), ((q 73), .inl (cy 1, 16, .inl (fun _ => 0)))] (fun (u : (Nat → Int32)) => (u) 0 = 1) (fun (u : (Nat → Int32)) => [((q 0), .inr (11, (mO q t 0 0 0 0 0 0 0 (-1) 0 0 0 bn 0 0 1 0 0 0))), ((q 70), .inl (cy 1, 16, .inl gd)), ((q 71), .inl (cy 0, 16, .inl cs)), ((q 73), .inl (cy 1, 16, .inl (u)))]) := by
  refine cv_go (by decide) (Nat.le_of_ble_eq_true rfl) (fun p e s m below meth c ls A hA S hr hlk hnm hP hK hD hl => ?_)
  have hS : va_S A s.heap s.heap [] := va_S.rf
  have hl : lv_has ls 2 [(0, .ref (q 0))] := hl
  refine lv_aload_n S.1 S.2.1 dX12_findKept_0 rfl (lv_at hl 0 rfl) ?_
  refine lv_iconst (v := 0) S.1 S.2.1 dX12_findKept_1 (by decide) ?_
  refine r_put S hK hP hD hS 0 11 rfl rfl inX12 78 (by decide) tyX12 tyX12_ok nmX12 kw_1588 (v := .int 0) rfl rfl rfl (Nat.le_of_ble_eq_true rfl) dX12_findKept_2 (fun H locs hP hD hS => ?_)
  have hP : va_P D vwCl [((q 0), .inr (11, (mO q t 0 0 0 0 0 0 0 (-1) 0 0 0 bn 0 0 0 0 0 0))), ((q 70), .inl (cy 1, 16, .inl gd)), ((q 71), .inl (cy 0, 16, .inl cs)), ((q 73), .inl (cy 1, 16, .inl (fun _ => 0)))] H := hP
  have hD : va_D A [((q 0), .inr (11, (mO q t 0 0 0 0 0 0 0 (-1) 0 0 0 bn 0 0 0 0 0 0))), ((q 70), .inl (cy 1, 16, .inl gd)), ((q 71), .inl (cy 0, 16, .inl cs)), ((q 73), .inl (cy 1, 16, .inl (fun _ => 0)))] := hD
  refine lv_iconst (v := 0) S.1 S.2.1 dX12_findKept_5 (by decide) ?_
  refine lv_istore_n (lv' := [(1, .int 0), (0, .ref (q 0))]) S.1 S.2.1 dX12_findKept_6 rfl hl (by decide) rfl (fun ls hl => ?_)
  refine lv_iload_n S.1 S.2.1 dX12_findKept_7 rfl (lv_at hl 0 rfl) ?_
  refine lv_iconst (v := 1) S.1 S.2.1 dX12_findKept_8 (by decide) ?_
  refine lv_aload_n S.1 S.2.1 dX12_findKept_9 rfl (lv_at hl 1 rfl) ?_
  refine r_get S hK hP 0 11 rfl rfl inX12 57 (by decide) kw_1567 (v := .int 0) rfl dX12_findKept_10 ?_
  refine r_ishl S dX12_findKept_13 (v := 1) (by decide) ?_
  refine r_icmp_ge S 0 1 rfl rfl dX12_findKept_14 (tgt := 89) (by decide) (fun c => absurd c (by decide)) (fun _ => ?_)
  refine lv_aload_n S.1 S.2.1 dX12_findKept_17 rfl (lv_at hl 1 rfl) ?_
  refine r_get S hK hP 0 11 rfl rfl inX12 73 (by decide) kw_1583 (v := .ref (q 73)) rfl dX12_findKept_18 ?_
  refine lv_iload_n S.1 S.2.1 dX12_findKept_21 rfl (lv_at hl 0 rfl) ?_
  refine lv_aload_n S.1 S.2.1 dX12_findKept_22 rfl (lv_at hl 1 rfl) ?_
  refine r_get S hK hP 0 11 rfl rfl inX12 70 (by decide) kw_1580 (v := .ref (q 70)) rfl dX12_findKept_23 ?_
  refine lv_iload_n S.1 S.2.1 dX12_findKept_26 rfl (lv_at hl 0 rfl) ?_
  refine r_zald S hK hP 1 1 rfl rfl (0) rfl (by decide) (by decide) (v := 1) hgd dX12_findKept_27 ?_
  refine r_if_eq S 1 rfl dX12_findKept_28 (tgt := 58) (by decide) (fun c => absurd c (by decide)) (fun _ => ?_)
  refine lv_aload_n S.1 S.2.1 dX12_findKept_31 rfl (lv_at hl 1 rfl) ?_
  refine r_get S hK hP 0 11 rfl rfl inX12 71 (by decide) kw_1581 (v := .ref (q 71)) rfl dX12_findKept_32 ?_
  refine lv_iload_n S.1 S.2.1 dX12_findKept_35 rfl (lv_at hl 0 rfl) ?_
  refine r_iald S hK hP 2 0 rfl rfl (0) rfl (by decide) (by decide) (v := 0) hcs dX12_findKept_36 ?_
  refine lv_aload_n S.1 S.2.1 dX12_findKept_37 rfl (lv_at hl 1 rfl) ?_
  refine r_get S hK hP 0 11 rfl rfl inX12 71 (by decide) kw_1581 (v := .ref (q 71)) rfl dX12_findKept_38 ?_
  refine lv_aload_n S.1 S.2.1 dX12_findKept_41 rfl (lv_at hl 1 rfl) ?_
  refine r_get S hK hP 0 11 rfl rfl inX12 77 (by decide) kw_1587 (v := .int 0) rfl dX12_findKept_42 ?_
  refine r_iald S hK hP 2 0 rfl rfl (0) rfl (by decide) (by decide) (v := 0) hcs dX12_findKept_45 ?_
  refine lv_aload_n S.1 S.2.1 dX12_findKept_46 rfl (lv_at hl 1 rfl) ?_
  refine r_get S hK hP 0 11 rfl rfl inX12 79 (by decide) kw_1589 (v := .int 0) rfl dX12_findKept_47 ?_
  refine r_iadd S dX12_findKept_50 (v := 0) (by decide) ?_
  refine r_icmp_gt S 0 0 rfl rfl dX12_findKept_51 (tgt := 58) (by decide) (fun c => absurd c (by decide)) (fun _ => ?_)
  refine lv_iconst (v := 1) S.1 S.2.1 dX12_findKept_54 (by decide) ?_
  refine lv_goto (tgt := 59) S.1 S.2.1 dX12_findKept_55 (by decide) ?_
  refine r_zast S hK hP hD hS 3 1 rfl rfl (0) rfl (by decide) (by decide) dX12_findKept_59 (fun H locs hP hD hS => ?_)
  have hP : va_P D vwCl [((q 0), .inr (11, (mO q t 0 0 0 0 0 0 0 (-1) 0 0 0 bn 0 0 0 0 0 0))), ((q 70), .inl (cy 1, 16, .inl gd)), ((q 71), .inl (cy 0, 16, .inl cs)), ((q 73), .inl (cy 1, 16, .inl (upd (fun _ => 0) (0) (vp_nar .boolean 1))))] H := hP
  have hD : va_D A [((q 0), .inr (11, (mO q t 0 0 0 0 0 0 0 (-1) 0 0 0 bn 0 0 0 0 0 0))), ((q 70), .inl (cy 1, 16, .inl gd)), ((q 71), .inl (cy 0, 16, .inl cs)), ((q 73), .inl (cy 1, 16, .inl (upd (fun _ => 0) (0) (vp_nar .boolean 1))))] := hD
  refine lv_aload_n S.1 S.2.1 dX12_findKept_60 rfl (lv_at hl 1 rfl) ?_
  refine lv_dup S.1 S.2.1 dX12_findKept_61 rfl ?_
  refine r_get S hK hP 0 11 rfl rfl inX12 78 (by decide) kw_1588 (v := .int 0) rfl dX12_findKept_62 ?_
  refine lv_aload_n S.1 S.2.1 dX12_findKept_65 rfl (lv_at hl 1 rfl) ?_
  refine r_get S hK hP 0 11 rfl rfl inX12 73 (by decide) kw_1583 (v := .ref (q 73)) rfl dX12_findKept_66 ?_
  refine lv_iload_n S.1 S.2.1 dX12_findKept_69 rfl (lv_at hl 0 rfl) ?_
  refine r_zald S hK hP 3 1 rfl rfl (0) rfl (by decide) (by decide) (v := 1) rfl dX12_findKept_70 ?_
  refine r_if_eq S 1 rfl dX12_findKept_71 (tgt := 78) (by decide) (fun c => absurd c (by decide)) (fun _ => ?_)
  refine lv_iconst (v := 1) S.1 S.2.1 dX12_findKept_74 (by decide) ?_
  refine lv_goto (tgt := 79) S.1 S.2.1 dX12_findKept_75 (by decide) ?_
  refine r_iadd S dX12_findKept_79 (v := 1) (by decide) ?_
  refine r_put S hK hP hD hS 0 11 rfl rfl inX12 78 (by decide) tyX12 tyX12_ok nmX12 kw_1588 (v := .int 1) rfl rfl rfl (Nat.le_of_ble_eq_true rfl) dX12_findKept_80 (fun H locs hP hD hS => ?_)
  have hP : va_P D vwCl [((q 0), .inr (11, (mO q t 0 0 0 0 0 0 0 (-1) 0 0 0 bn 0 0 1 0 0 0))), ((q 70), .inl (cy 1, 16, .inl gd)), ((q 71), .inl (cy 0, 16, .inl cs)), ((q 73), .inl (cy 1, 16, .inl (upd (fun _ => 0) (0) (vp_nar .boolean 1))))] H := hP
  have hD : va_D A [((q 0), .inr (11, (mO q t 0 0 0 0 0 0 0 (-1) 0 0 0 bn 0 0 1 0 0 0))), ((q 70), .inl (cy 1, 16, .inl gd)), ((q 71), .inl (cy 0, 16, .inl cs)), ((q 73), .inl (cy 1, 16, .inl (upd (fun _ => 0) (0) (vp_nar .boolean 1))))] := hD
  refine lv_iinc (v := 1) (lv' := [(1, .int 1), (0, .ref (q 0))]) S.1 S.2.1 dX12_findKept_83 hl (k := 0) rfl (by decide) (by decide) rfl (fun ls hl => ?_)
  refine lv_goto (tgt := 7) S.1 S.2.1 dX12_findKept_86 (by decide) ?_
  refine lv_iload_n S.1 S.2.1 dX12_findKept_7 rfl (lv_at hl 0 rfl) ?_
  refine lv_iconst (v := 1) S.1 S.2.1 dX12_findKept_8 (by decide) ?_
  refine lv_aload_n S.1 S.2.1 dX12_findKept_9 rfl (lv_at hl 1 rfl) ?_
  refine r_get S hK hP 0 11 rfl rfl inX12 57 (by decide) kw_1567 (v := .int 0) rfl dX12_findKept_10 ?_
  refine r_ishl S dX12_findKept_13 (v := 1) (by decide) ?_
  refine r_icmp_ge S 1 1 rfl rfl dX12_findKept_14 (tgt := 89) (by decide) (fun _ => ?_) (fun c => absurd c (by decide))
  exact cv_ret (u := (upd (fun _ => 0) (0) (vp_nar .boolean 1))) S hr hlk hK (hP.sub [0, 1, 2, 3] rfl) (hD.sub [0, 1, 2, 3] (by decide) rfl) hS (rfl) (by decide) (by decide) dX12_findKept_89
set_option maxHeartbeats 4000000 in
set_option maxRecDepth 100000 in
theorem kX12_findGrounds (l : Launch) (D : va_G) (cy : Nat → ClassId) (q : Nat → Nat) (t : Int32) : CV l D cy yX12_findGrounds cX12_findGrounds 2 none 5 131 0 0 [.ref (q 0)] [((q 0), .inr (11, (mO q t 0 0 0 0 0 0 0 (-1) 1 0 0 0 0 0 0 0 0 0))), ((q 63), .inl (cy 0, 600, .inl (fun _ => 0))), ((q 64), .inl (cy 0, 600, .inl (fun _ => 0))), ((q 65), .inl (cy 0, 600, .inl (fun _ => 0))), ((q 66), .inl (cy 0, 600, .inl (fun _ => 0))), ((q 67), .inl (cy 0, 97, .inl (fun _ => 0))), ((q 68), .inl (cy 0, 97, .inl (fun _ => 0))), ((q 70), .inl (cy 1, 16, .inl (fun _ => 0))), ((q 71), .inl (cy 0, 16, .inl (fun _ => 0))), ((q 72), .inl (cy 2, 16, .inr (.inl (fun _ => 0)))), ((q 73), .inl (cy 1, 16, .inl (fun _ => 0))), ((q 74), .inl (cy 1, 16, .inl (fun _ => 0)))] (fun (u : (Int32) × (Nat → Int32) × (Nat → Int32) × (Nat → Int64) × (Nat → Int32) × (Nat → Int32)) => (u.2.1) 0 = 1 ∧ (u.2.2.1) 0 = 0 ∧ (u.2.2.2.1) 0 = 0 ∧ (u.2.2.2.2.1) 0 = 1 ∧ (u.2.2.2.2.2) 0 = 0) (fun (u : (Int32) × (Nat → Int32) × (Nat → Int32) × (Nat → Int64) × (Nat → Int32) × (Nat → Int32)) => [((q 0), .inr (11, (mO q t 0 0 0 0 0 0 0 (-1) 0 0 0 (u.1) 0 0 1 0 0 0))), ((q 70), .inl (cy 1, 16, .inl (u.2.1))), ((q 71), .inl (cy 0, 16, .inl (u.2.2.1))), ((q 72), .inl (cy 2, 16, .inr (.inl (u.2.2.2.1)))), ((q 73), .inl (cy 1, 16, .inl (u.2.2.2.2.1))), ((q 74), .inl (cy 1, 16, .inl (u.2.2.2.2.2)))]) := by
  refine cv_go (by decide) (Nat.le_of_ble_eq_true rfl) (fun p e s m below meth c ls A hA S hr hlk hnm hP hK hD hl => ?_)
  have hS : va_S A s.heap s.heap [] := va_S.rf
  have hl : lv_has ls 2 [(0, .ref (q 0))] := hl
  refine lv_aload_n S.1 S.2.1 dX12_findGrounds_0 rfl (lv_at hl 0 rfl) ?_
  refine r_get S hK hP 0 11 rfl rfl inX12 35 (by decide) kw_1545 (v := .int 1) rfl dX12_findGrounds_1 ?_
  refine r_if_ne S 1 rfl dX12_findGrounds_4 (tgt := 8) (by decide) (fun _ => ?_) (fun c => absurd c (by decide))
  refine lv_aload_n S.1 S.2.1 dX12_findGrounds_8 rfl (lv_at hl 0 rfl) ?_
  refine lv_iconst (v := 0) S.1 S.2.1 dX12_findGrounds_9 (by decide) ?_
  refine r_put S hK hP hD hS 0 11 rfl rfl inX12 35 (by decide) tyX12 tyX12_ok nmX12 kw_1545 (v := .int 0) rfl (by decide) (by decide) (Nat.le_of_ble_eq_true rfl) dX12_findGrounds_10 (fun H locs hP hD hS => ?_)
  have hP : va_P D vwCl [((q 0), .inr (11, (mO q t 0 0 0 0 0 0 0 (-1) 0 0 0 0 0 0 0 0 0 0))), ((q 63), .inl (cy 0, 600, .inl (fun _ => 0))), ((q 64), .inl (cy 0, 600, .inl (fun _ => 0))), ((q 65), .inl (cy 0, 600, .inl (fun _ => 0))), ((q 66), .inl (cy 0, 600, .inl (fun _ => 0))), ((q 67), .inl (cy 0, 97, .inl (fun _ => 0))), ((q 68), .inl (cy 0, 97, .inl (fun _ => 0))), ((q 70), .inl (cy 1, 16, .inl (fun _ => 0))), ((q 71), .inl (cy 0, 16, .inl (fun _ => 0))), ((q 72), .inl (cy 2, 16, .inr (.inl (fun _ => 0)))), ((q 73), .inl (cy 1, 16, .inl (fun _ => 0))), ((q 74), .inl (cy 1, 16, .inl (fun _ => 0)))] H := hP
  have hD : va_D A [((q 0), .inr (11, (mO q t 0 0 0 0 0 0 0 (-1) 0 0 0 0 0 0 0 0 0 0))), ((q 63), .inl (cy 0, 600, .inl (fun _ => 0))), ((q 64), .inl (cy 0, 600, .inl (fun _ => 0))), ((q 65), .inl (cy 0, 600, .inl (fun _ => 0))), ((q 66), .inl (cy 0, 600, .inl (fun _ => 0))), ((q 67), .inl (cy 0, 97, .inl (fun _ => 0))), ((q 68), .inl (cy 0, 97, .inl (fun _ => 0))), ((q 70), .inl (cy 1, 16, .inl (fun _ => 0))), ((q 71), .inl (cy 0, 16, .inl (fun _ => 0))), ((q 72), .inl (cy 2, 16, .inr (.inl (fun _ => 0)))), ((q 73), .inl (cy 1, 16, .inl (fun _ => 0))), ((q 74), .inl (cy 1, 16, .inl (fun _ => 0)))] := hD
  refine lv_aload_n S.1 S.2.1 dX12_findGrounds_13 rfl (lv_at hl 0 rfl) ?_
  refine call_rv (runV_R (wc := [((q 0), .inr (11, (mO q t 0 0 0 0 0 0 0 (-1) 0 0 0 0 0 0 0 0 0 0)))]) (As := []) (rest := []) S (kX12_findSaid l D cy q t 0 0 0 0) hK hP [0] rfl 0 11 rfl rfl kw_1950 kw_1952 kw_90 kw_152 kw_1953 okX12_findSaid rfl (by decide) hl.1 rfl (Nat.le_of_ble_eq_true rfl) dX12_findGrounds_14 (by decide)) (fun w14 => ?_)
  refine lv_aload_n S.1 S.2.1 dX12_findGrounds_17 rfl (lv_at hl 0 rfl) ?_
  refine lv_iconst (v := (-1)) S.1 S.2.1 dX12_findGrounds_18 (by decide) ?_
  refine r_put S hK hP hD hS 0 11 rfl rfl inX12 77 (by decide) tyX12 tyX12_ok nmX12 kw_1587 (v := .int (-1)) rfl rfl rfl (Nat.le_of_ble_eq_true rfl) dX12_findGrounds_19 (fun H locs hP hD hS => ?_)
  have hP : va_P D vwCl [((q 0), .inr (11, (mO q t 0 0 0 0 0 0 0 (-1) 0 0 0 0 0 (-1) 0 0 0 0))), ((q 63), .inl (cy 0, 600, .inl (fun _ => 0))), ((q 64), .inl (cy 0, 600, .inl (fun _ => 0))), ((q 65), .inl (cy 0, 600, .inl (fun _ => 0))), ((q 66), .inl (cy 0, 600, .inl (fun _ => 0))), ((q 67), .inl (cy 0, 97, .inl (fun _ => 0))), ((q 68), .inl (cy 0, 97, .inl (fun _ => 0))), ((q 70), .inl (cy 1, 16, .inl (fun _ => 0))), ((q 71), .inl (cy 0, 16, .inl (fun _ => 0))), ((q 72), .inl (cy 2, 16, .inr (.inl (fun _ => 0)))), ((q 73), .inl (cy 1, 16, .inl (fun _ => 0))), ((q 74), .inl (cy 1, 16, .inl (fun _ => 0)))] H := hP
  have hD : va_D A [((q 0), .inr (11, (mO q t 0 0 0 0 0 0 0 (-1) 0 0 0 0 0 (-1) 0 0 0 0))), ((q 63), .inl (cy 0, 600, .inl (fun _ => 0))), ((q 64), .inl (cy 0, 600, .inl (fun _ => 0))), ((q 65), .inl (cy 0, 600, .inl (fun _ => 0))), ((q 66), .inl (cy 0, 600, .inl (fun _ => 0))), ((q 67), .inl (cy 0, 97, .inl (fun _ => 0))), ((q 68), .inl (cy 0, 97, .inl (fun _ => 0))), ((q 70), .inl (cy 1, 16, .inl (fun _ => 0))), ((q 71), .inl (cy 0, 16, .inl (fun _ => 0))), ((q 72), .inl (cy 2, 16, .inr (.inl (fun _ => 0)))), ((q 73), .inl (cy 1, 16, .inl (fun _ => 0))), ((q 74), .inl (cy 1, 16, .inl (fun _ => 0)))] := hD
  refine lv_iconst (v := 0) S.1 S.2.1 dX12_findGrounds_22 (by decide) ?_
  refine lv_istore_n (lv' := [(1, .int 0), (0, .ref (q 0))]) S.1 S.2.1 dX12_findGrounds_23 rfl hl (by decide) rfl (fun ls hl => ?_)
  refine lv_iload_n S.1 S.2.1 dX12_findGrounds_24 rfl (lv_at hl 0 rfl) ?_
  refine lv_iconst (v := 1) S.1 S.2.1 dX12_findGrounds_25 (by decide) ?_
  refine lv_aload_n S.1 S.2.1 dX12_findGrounds_26 rfl (lv_at hl 1 rfl) ?_
  refine r_get S hK hP 0 11 rfl rfl inX12 57 (by decide) kw_1567 (v := .int 0) rfl dX12_findGrounds_27 ?_
  refine r_ishl S dX12_findGrounds_30 (v := 1) (by decide) ?_
  refine r_icmp_ge S 0 1 rfl rfl dX12_findGrounds_31 (tgt := 105) (by decide) (fun c => absurd c (by decide)) (fun _ => ?_)
  refine lv_aload_n S.1 S.2.1 dX12_findGrounds_34 rfl (lv_at hl 1 rfl) ?_
  refine r_get S hK hP 0 11 rfl rfl inX12 70 (by decide) kw_1580 (v := .ref (q 70)) rfl dX12_findGrounds_35 ?_
  refine lv_iload_n S.1 S.2.1 dX12_findGrounds_38 rfl (lv_at hl 0 rfl) ?_
  refine lv_iconst (v := 0) S.1 S.2.1 dX12_findGrounds_39 (by decide) ?_
  refine r_zast S hK hP hD hS 7 1 rfl rfl (0) rfl (by decide) (by decide) dX12_findGrounds_40 (fun H locs hP hD hS => ?_)
  have hP : va_P D vwCl [((q 0), .inr (11, (mO q t 0 0 0 0 0 0 0 (-1) 0 0 0 0 0 (-1) 0 0 0 0))), ((q 63), .inl (cy 0, 600, .inl (fun _ => 0))), ((q 64), .inl (cy 0, 600, .inl (fun _ => 0))), ((q 65), .inl (cy 0, 600, .inl (fun _ => 0))), ((q 66), .inl (cy 0, 600, .inl (fun _ => 0))), ((q 67), .inl (cy 0, 97, .inl (fun _ => 0))), ((q 68), .inl (cy 0, 97, .inl (fun _ => 0))), ((q 70), .inl (cy 1, 16, .inl (upd (fun _ => 0) (0) (vp_nar .boolean 0)))), ((q 71), .inl (cy 0, 16, .inl (fun _ => 0))), ((q 72), .inl (cy 2, 16, .inr (.inl (fun _ => 0)))), ((q 73), .inl (cy 1, 16, .inl (fun _ => 0))), ((q 74), .inl (cy 1, 16, .inl (fun _ => 0)))] H := hP
  have hD : va_D A [((q 0), .inr (11, (mO q t 0 0 0 0 0 0 0 (-1) 0 0 0 0 0 (-1) 0 0 0 0))), ((q 63), .inl (cy 0, 600, .inl (fun _ => 0))), ((q 64), .inl (cy 0, 600, .inl (fun _ => 0))), ((q 65), .inl (cy 0, 600, .inl (fun _ => 0))), ((q 66), .inl (cy 0, 600, .inl (fun _ => 0))), ((q 67), .inl (cy 0, 97, .inl (fun _ => 0))), ((q 68), .inl (cy 0, 97, .inl (fun _ => 0))), ((q 70), .inl (cy 1, 16, .inl (upd (fun _ => 0) (0) (vp_nar .boolean 0)))), ((q 71), .inl (cy 0, 16, .inl (fun _ => 0))), ((q 72), .inl (cy 2, 16, .inr (.inl (fun _ => 0)))), ((q 73), .inl (cy 1, 16, .inl (fun _ => 0))), ((q 74), .inl (cy 1, 16, .inl (fun _ => 0)))] := hD
  refine lv_aload_n S.1 S.2.1 dX12_findGrounds_41 rfl (lv_at hl 1 rfl) ?_
  refine lv_iload_n S.1 S.2.1 dX12_findGrounds_42 rfl (lv_at hl 0 rfl) ?_
  refine lv_lconst (v := 0) S.1 S.2.1 dX12_findGrounds_43 (by decide) ?_
  refine lv_iconst (v := 0) S.1 S.2.1 dX12_findGrounds_44 (by decide) ?_
  refine call_v (wr := [((q 73), .inl (cy 1, 16, .inl (fun _ => 0))), ((q 74), .inl (cy 1, 16, .inl (fun _ => 0)))]) (runV_C (wc := [((q 0), .inr (11, (mO q t 0 0 0 0 0 0 0 (-1) 0 0 0 0 0 (-1) 0 0 0 0))), ((q 63), .inl (cy 0, 600, .inl (fun _ => 0))), ((q 64), .inl (cy 0, 600, .inl (fun _ => 0))), ((q 65), .inl (cy 0, 600, .inl (fun _ => 0))), ((q 66), .inl (cy 0, 600, .inl (fun _ => 0))), ((q 67), .inl (cy 0, 97, .inl (fun _ => 0))), ((q 68), .inl (cy 0, 97, .inl (fun _ => 0))), ((q 70), .inl (cy 1, 16, .inl (upd (fun _ => 0) (0) (vp_nar .boolean 0)))), ((q 71), .inl (cy 0, 16, .inl (fun _ => 0))), ((q 72), .inl (cy 2, 16, .inr (.inl (fun _ => 0))))]) (As := [.int 0, .long 0, .int 0]) (rest := []) S (kX12_seeks l D cy q t (-1) 0) hK hP hD [0, 1, 2, 3, 4, 5, 6, 7, 8, 9] (by decide) rfl 0 11 rfl rfl kw_2021 kw_2023 kw_107 kw_152 kw_2024 okX12_seeks rfl (by decide) hl.1 rfl (Nat.le_of_ble_eq_true rfl) dX12_findGrounds_45 (by decide)) hP hD hS hA [0, 1, 2, 3, 4, 5, 6, 7, 8, 9] [10, 11] rfl rfl (by decide) (by decide) (fun u45 H locs w45 hP hD hS => ?_)
  obtain ⟨bn_45, gd_45, cs_45, db_45⟩ := u45
  have hP : va_P D vwCl [((q 73), .inl (cy 1, 16, .inl (fun _ => 0))), ((q 74), .inl (cy 1, 16, .inl (fun _ => 0))), ((q 0), .inr (11, (mO q t 0 0 0 0 0 0 0 (-1) 0 0 0 bn_45 0 (-1) 0 0 0 0))), ((q 70), .inl (cy 1, 16, .inl gd_45)), ((q 71), .inl (cy 0, 16, .inl cs_45)), ((q 72), .inl (cy 2, 16, .inr (.inl db_45)))] H := hP
  have hD : va_D A [((q 73), .inl (cy 1, 16, .inl (fun _ => 0))), ((q 74), .inl (cy 1, 16, .inl (fun _ => 0))), ((q 0), .inr (11, (mO q t 0 0 0 0 0 0 0 (-1) 0 0 0 bn_45 0 (-1) 0 0 0 0))), ((q 70), .inl (cy 1, 16, .inl gd_45)), ((q 71), .inl (cy 0, 16, .inl cs_45)), ((q 72), .inl (cy 2, 16, .inr (.inl db_45)))] := hD
  obtain ⟨hgd, hcs, hdb⟩ := w45
  refine lv_aload_n S.1 S.2.1 dX12_findGrounds_48 rfl (lv_at hl 1 rfl) ?_
  refine r_get S hK hP 2 11 rfl rfl inX12 70 (by decide) kw_1580 (v := .ref (q 70)) rfl dX12_findGrounds_49 ?_
  refine lv_iload_n S.1 S.2.1 dX12_findGrounds_52 rfl (lv_at hl 0 rfl) ?_
  refine r_zald S hK hP 3 1 rfl rfl (0) rfl (by decide) (by decide) (v := 1) hgd dX12_findGrounds_53 ?_
  refine r_if_eq S 1 rfl dX12_findGrounds_54 (tgt := 99) (by decide) (fun c => absurd c (by decide)) (fun _ => ?_)
  refine lv_aload_n S.1 S.2.1 dX12_findGrounds_57 rfl (lv_at hl 1 rfl) ?_
  refine lv_aload_n S.1 S.2.1 dX12_findGrounds_58 rfl (lv_at hl 1 rfl) ?_
  refine r_get S hK hP 2 11 rfl rfl inX12 77 (by decide) kw_1587 (v := .int (-1)) rfl dX12_findGrounds_59 ?_
  refine r_if_lt S (-1) rfl dX12_findGrounds_62 (tgt := 83) (by decide) (fun _ => ?_) (fun c => absurd c (by decide))
  refine lv_iload_n S.1 S.2.1 dX12_findGrounds_83 rfl (lv_at hl 0 rfl) ?_
  refine lv_goto (tgt := 91) S.1 S.2.1 dX12_findGrounds_84 (by decide) ?_
  refine r_put S hK hP hD hS 2 11 rfl rfl inX12 77 (by decide) tyX12 tyX12_ok nmX12 kw_1587 (v := .int 0) rfl rfl rfl (Nat.le_of_ble_eq_true rfl) dX12_findGrounds_91 (fun H locs hP hD hS => ?_)
  have hP : va_P D vwCl [((q 73), .inl (cy 1, 16, .inl (fun _ => 0))), ((q 74), .inl (cy 1, 16, .inl (fun _ => 0))), ((q 0), .inr (11, (mO q t 0 0 0 0 0 0 0 (-1) 0 0 0 bn_45 0 0 0 0 0 0))), ((q 70), .inl (cy 1, 16, .inl gd_45)), ((q 71), .inl (cy 0, 16, .inl cs_45)), ((q 72), .inl (cy 2, 16, .inr (.inl db_45)))] H := hP
  have hD : va_D A [((q 73), .inl (cy 1, 16, .inl (fun _ => 0))), ((q 74), .inl (cy 1, 16, .inl (fun _ => 0))), ((q 0), .inr (11, (mO q t 0 0 0 0 0 0 0 (-1) 0 0 0 bn_45 0 0 0 0 0 0))), ((q 70), .inl (cy 1, 16, .inl gd_45)), ((q 71), .inl (cy 0, 16, .inl cs_45)), ((q 72), .inl (cy 2, 16, .inr (.inl db_45)))] := hD
  refine lv_aload_n S.1 S.2.1 dX12_findGrounds_94 rfl (lv_at hl 1 rfl) ?_
  refine lv_iload_n S.1 S.2.1 dX12_findGrounds_95 rfl (lv_at hl 0 rfl) ?_
  refine call_v (wr := [((q 73), .inl (cy 1, 16, .inl (fun _ => 0))), ((q 70), .inl (cy 1, 16, .inl gd_45)), ((q 71), .inl (cy 0, 16, .inl cs_45)), ((q 72), .inl (cy 2, 16, .inr (.inl db_45)))]) (runV_C (wc := [((q 0), .inr (11, (mO q t 0 0 0 0 0 0 0 (-1) 0 0 0 bn_45 0 0 0 0 0 0))), ((q 74), .inl (cy 1, 16, .inl (fun _ => 0)))]) (As := [.int 0]) (rest := []) S (kX12_findBase l D cy q t 0 bn_45 0 0) hK hP hD [2, 1] (by decide) rfl 0 11 rfl rfl kw_2071 kw_2073 kw_118 kw_152 kw_2074 okX12_findBase rfl (by decide) hl.1 rfl (Nat.le_of_ble_eq_true rfl) dX12_findGrounds_96 (by decide)) hP hD hS hA [2, 1] [0, 3, 4, 5] rfl rfl (by decide) (by decide) (fun u96 H locs w96 hP hD hS => ?_)
  obtain ⟨kn_96, rfl⟩ : ∃ z, z = u96 := ⟨_, rfl⟩
  have hP : va_P D vwCl [((q 73), .inl (cy 1, 16, .inl (fun _ => 0))), ((q 70), .inl (cy 1, 16, .inl gd_45)), ((q 71), .inl (cy 0, 16, .inl cs_45)), ((q 72), .inl (cy 2, 16, .inr (.inl db_45))), ((q 0), .inr (11, (mO q t 0 0 0 0 0 0 0 (-1) 0 0 0 bn_45 0 0 0 0 0 0))), ((q 74), .inl (cy 1, 16, .inl kn_96))] H := hP
  have hD : va_D A [((q 73), .inl (cy 1, 16, .inl (fun _ => 0))), ((q 70), .inl (cy 1, 16, .inl gd_45)), ((q 71), .inl (cy 0, 16, .inl cs_45)), ((q 72), .inl (cy 2, 16, .inr (.inl db_45))), ((q 0), .inr (11, (mO q t 0 0 0 0 0 0 0 (-1) 0 0 0 bn_45 0 0 0 0 0 0))), ((q 74), .inl (cy 1, 16, .inl kn_96))] := hD
  have hkn := w96
  refine lv_iinc (v := 1) (lv' := [(1, .int 1), (0, .ref (q 0))]) S.1 S.2.1 dX12_findGrounds_99 hl (k := 0) rfl (by decide) (by decide) rfl (fun ls hl => ?_)
  refine lv_goto (tgt := 24) S.1 S.2.1 dX12_findGrounds_102 (by decide) ?_
  refine lv_iload_n S.1 S.2.1 dX12_findGrounds_24 rfl (lv_at hl 0 rfl) ?_
  refine lv_iconst (v := 1) S.1 S.2.1 dX12_findGrounds_25 (by decide) ?_
  refine lv_aload_n S.1 S.2.1 dX12_findGrounds_26 rfl (lv_at hl 1 rfl) ?_
  refine r_get S hK hP 4 11 rfl rfl inX12 57 (by decide) kw_1567 (v := .int 0) rfl dX12_findGrounds_27 ?_
  refine r_ishl S dX12_findGrounds_30 (v := 1) (by decide) ?_
  refine r_icmp_ge S 1 1 rfl rfl dX12_findGrounds_31 (tgt := 105) (by decide) (fun _ => ?_) (fun c => absurd c (by decide))
  refine lv_aload_n S.1 S.2.1 dX12_findGrounds_105 rfl (lv_at hl 1 rfl) ?_
  refine call_v (wr := [((q 72), .inl (cy 2, 16, .inr (.inl db_45))), ((q 74), .inl (cy 1, 16, .inl kn_96))]) (runV_C (wc := [((q 0), .inr (11, (mO q t 0 0 0 0 0 0 0 (-1) 0 0 0 bn_45 0 0 0 0 0 0))), ((q 70), .inl (cy 1, 16, .inl gd_45)), ((q 71), .inl (cy 0, 16, .inl cs_45)), ((q 73), .inl (cy 1, 16, .inl (fun _ => 0)))]) (As := []) (rest := []) S (kX12_findKept l D cy q t bn_45 gd_45 cs_45 hgd hcs) hK hP hD [4, 1, 2, 0] (by decide) rfl 0 11 rfl rfl kw_2080 kw_2082 kw_120 kw_152 kw_2083 okX12_findKept rfl (by decide) hl.1 rfl (Nat.le_of_ble_eq_true rfl) dX12_findGrounds_106 (by decide)) hP hD hS hA [4, 1, 2, 0] [3, 5] rfl rfl (by decide) (by decide) (fun u106 H locs w106 hP hD hS => ?_)
  obtain ⟨kp_106, rfl⟩ : ∃ z, z = u106 := ⟨_, rfl⟩
  have hP : va_P D vwCl [((q 72), .inl (cy 2, 16, .inr (.inl db_45))), ((q 74), .inl (cy 1, 16, .inl kn_96)), ((q 0), .inr (11, (mO q t 0 0 0 0 0 0 0 (-1) 0 0 0 bn_45 0 0 1 0 0 0))), ((q 70), .inl (cy 1, 16, .inl gd_45)), ((q 71), .inl (cy 0, 16, .inl cs_45)), ((q 73), .inl (cy 1, 16, .inl kp_106))] H := hP
  have hD : va_D A [((q 72), .inl (cy 2, 16, .inr (.inl db_45))), ((q 74), .inl (cy 1, 16, .inl kn_96)), ((q 0), .inr (11, (mO q t 0 0 0 0 0 0 0 (-1) 0 0 0 bn_45 0 0 1 0 0 0))), ((q 70), .inl (cy 1, 16, .inl gd_45)), ((q 71), .inl (cy 0, 16, .inl cs_45)), ((q 73), .inl (cy 1, 16, .inl kp_106))] := hD
  have hkp := w106
  exact cv_ret (u := (bn_45, gd_45, cs_45, db_45, kp_106, kn_96)) S hr hlk hK (hP.sub [2, 3, 4, 0, 5, 1] rfl) (hD.sub [2, 3, 4, 0, 5, 1] (by decide) rfl) hS (⟨hgd, hcs, hdb, hkp, hkn⟩) (by decide) (by decide) dX12_findGrounds_109
set_option maxHeartbeats 4000000 in
set_option maxRecDepth 100000 in
theorem kX12_isSet_a (l : Launch) (D : va_G) (cy : Nat → ClassId) (q : Nat → Nat) (t : Int32) (ch : Int32) (bn : Int32) (bs : Int32) (km : Int32) : RI l D cy yX12_isSet cX12_isSet 2 (some .boolean) 0 0 [.ref (q 0), .int 0] [((q 0), .inr (11, (mO q t 0 0 0 0 0 0 0 (-1) ch 0 0 bn 0 bs km 0 0 0)))] (fun v : Int32 => v = 1) := by
  refine metr_go (by decide) (Nat.le_of_ble_eq_true rfl) (fun p e s m below meth c ls S hr hlk hP hK hl => ?_)
  have hl : lv_has ls 2 [(0, .ref (q 0)), (1, .int 0)] := hl
  refine lv_iload_n S.1 S.2.1 dX12_isSet_0 rfl (lv_at hl 1 rfl) ?_
  refine r_if_lt S 0 rfl dX12_isSet_1 (tgt := 18) (by decide) (fun c => absurd c (by decide)) (fun _ => ?_)
  refine lv_iload_n S.1 S.2.1 dX12_isSet_4 rfl (lv_at hl 1 rfl) ?_
  refine lv_iconst (v := 1) S.1 S.2.1 dX12_isSet_5 (by decide) ?_
  refine lv_aload_n S.1 S.2.1 dX12_isSet_6 rfl (lv_at hl 0 rfl) ?_
  refine r_get S hK hP 0 11 rfl rfl inX12 57 (by decide) kw_1567 (v := .int 0) rfl dX12_isSet_7 ?_
  refine r_ishl S dX12_isSet_10 (v := 1) (by decide) ?_
  refine r_icmp_ge S 0 1 rfl rfl dX12_isSet_11 (tgt := 18) (by decide) (fun c => absurd c (by decide)) (fun _ => ?_)
  refine lv_iconst (v := 1) S.1 S.2.1 dX12_isSet_14 (by decide) ?_
  refine lv_goto (tgt := 19) S.1 S.2.1 dX12_isSet_15 (by decide) ?_
  exact ri_ret S hr hlk (by decide) (rfl) dX12_isSet_19
set_option maxHeartbeats 4000000 in
set_option maxRecDepth 100000 in
theorem kX12_isSet_b (l : Launch) (D : va_G) (cy : Nat → ClassId) (q : Nat → Nat) (t : Int32) (ch : Int32) (bn : Int32) (bs : Int32) (km : Int32) (p0 : Int32) (z0 : Int) (h0 : p0.toInt = z0) (hz : ¬ z0 = 0) : RI l D cy yX12_isSet cX12_isSet 2 (some .boolean) 0 0 [.ref (q 0), .int p0] [((q 0), .inr (11, (mO q t 0 0 0 0 0 0 0 (-1) ch 0 0 bn 0 bs km 0 0 0)))] (fun v : Int32 => v = 0) := by
  refine metr_go (by decide) (Nat.le_of_ble_eq_true rfl) (fun p e s m below meth c ls S hr hlk hP hK hl => ?_)
  have hl : lv_has ls 2 [(0, .ref (q 0)), (1, .int p0)] := hl
  refine lv_iload_n S.1 S.2.1 dX12_isSet_0 rfl (lv_at hl 1 rfl) ?_
  refine r_if_lt S z0 h0 dX12_isSet_1 (tgt := 18) (by decide) (fun e_1_1 => ?_) (fun e_1_1 => ?_)
  · refine lv_iconst (v := 0) S.1 S.2.1 dX12_isSet_18 (by decide) ?_
    exact ri_ret S hr hlk (by decide) (rfl) dX12_isSet_19
  · refine lv_iload_n S.1 S.2.1 dX12_isSet_4 rfl (lv_at hl 1 rfl) ?_
    refine lv_iconst (v := 1) S.1 S.2.1 dX12_isSet_5 (by decide) ?_
    refine lv_aload_n S.1 S.2.1 dX12_isSet_6 rfl (lv_at hl 0 rfl) ?_
    refine r_get S hK hP 0 11 rfl rfl inX12 57 (by decide) kw_1567 (v := .int 0) rfl dX12_isSet_7 ?_
    refine r_ishl S dX12_isSet_10 (v := 1) (by decide) ?_
    refine r_icmp_ge S z0 1 h0 rfl dX12_isSet_11 (tgt := 18) (by decide) (fun _ => ?_) (fun c => absurd c (by omega))
    refine lv_iconst (v := 0) S.1 S.2.1 dX12_isSet_18 (by decide) ?_
    exact ri_ret S hr hlk (by decide) (rfl) dX12_isSet_19
set_option maxHeartbeats 4000000 in
set_option maxRecDepth 100000 in
theorem kX12_isSheet_b (l : Launch) (D : va_G) (cy : Nat → ClassId) (q : Nat → Nat) (t : Int32) (ch : Int32) (bn : Int32) (bs : Int32) (km : Int32) (p0 : Int32) (z0 : Int) (h0 : p0.toInt = z0) : RI l D cy yX12_isSheet cX12_isSheet 2 (some .boolean) 0 0 [.ref (q 0), .int p0] [((q 0), .inr (11, (mO q t 0 0 0 0 0 0 0 (-1) ch 0 0 bn 0 bs km 0 0 0)))] (fun v : Int32 => v = 0) := by
  refine metr_go (by decide) (Nat.le_of_ble_eq_true rfl) (fun p e s m below meth c ls S hr hlk hP hK hl => ?_)
  have hl : lv_has ls 2 [(0, .ref (q 0)), (1, .int p0)] := hl
  refine lv_iload_n S.1 S.2.1 dX12_isSheet_0 rfl (lv_at hl 1 rfl) ?_
  refine r_if_lt S z0 h0 dX12_isSheet_1 (tgt := 16) (by decide) (fun e_1_1 => ?_) (fun e_1_1 => ?_)
  · refine lv_iconst (v := 0) S.1 S.2.1 dX12_isSheet_16 (by decide) ?_
    exact ri_ret S hr hlk (by decide) (rfl) dX12_isSheet_17
  · refine lv_iload_n S.1 S.2.1 dX12_isSheet_4 rfl (lv_at hl 1 rfl) ?_
    refine lv_aload_n S.1 S.2.1 dX12_isSheet_5 rfl (lv_at hl 0 rfl) ?_
    refine r_get S hK hP 0 11 rfl rfl inX12 80 (by decide) kw_1590 (v := .int 0) rfl dX12_isSheet_6 ?_
    refine r_icmp_ge S z0 0 h0 rfl dX12_isSheet_9 (tgt := 16) (by decide) (fun _ => ?_) (fun c => absurd c (by omega))
    refine lv_iconst (v := 0) S.1 S.2.1 dX12_isSheet_16 (by decide) ?_
    exact ri_ret S hr hlk (by decide) (rfl) dX12_isSheet_17
set_option maxHeartbeats 4000000 in
set_option maxRecDepth 100000 in
theorem kX12_isSight_b (l : Launch) (D : va_G) (cy : Nat → ClassId) (q : Nat → Nat) (t : Int32) (ch : Int32) (bn : Int32) (bs : Int32) (km : Int32) (p0 : Int32) (z0 : Int) (h0 : p0.toInt = z0) : RI l D cy yX12_isSight cX12_isSight 2 (some .boolean) 0 0 [.ref (q 0), .int p0] [((q 0), .inr (11, (mO q t 0 0 0 0 0 0 0 (-1) ch 0 0 bn 0 bs km 0 0 0)))] (fun v : Int32 => v = 0) := by
  refine metr_go (by decide) (Nat.le_of_ble_eq_true rfl) (fun p e s m below meth c ls S hr hlk hP hK hl => ?_)
  have hl : lv_has ls 2 [(0, .ref (q 0)), (1, .int p0)] := hl
  refine lv_iload_n S.1 S.2.1 dX12_isSight_0 rfl (lv_at hl 1 rfl) ?_
  refine r_if_lt S z0 h0 dX12_isSight_1 (tgt := 16) (by decide) (fun e_1_1 => ?_) (fun e_1_1 => ?_)
  · refine lv_iconst (v := 0) S.1 S.2.1 dX12_isSight_16 (by decide) ?_
    exact ri_ret S hr hlk (by decide) (rfl) dX12_isSight_17
  · refine lv_iload_n S.1 S.2.1 dX12_isSight_4 rfl (lv_at hl 1 rfl) ?_
    refine lv_aload_n S.1 S.2.1 dX12_isSight_5 rfl (lv_at hl 0 rfl) ?_
    refine r_get S hK hP 0 11 rfl rfl inX12 40 (by decide) kw_1550 (v := .int 0) rfl dX12_isSight_6 ?_
    refine r_icmp_ge S z0 0 h0 rfl dX12_isSight_9 (tgt := 16) (by decide) (fun _ => ?_) (fun c => absurd c (by omega))
    refine lv_iconst (v := 0) S.1 S.2.1 dX12_isSight_16 (by decide) ?_
    exact ri_ret S hr hlk (by decide) (rfl) dX12_isSight_17
set_option maxHeartbeats 4000000 in
set_option maxRecDepth 100000 in
theorem kX12_asked_b (l : Launch) (D : va_G) (cy : Nat → ClassId) (q : Nat → Nat) (t : Int32) (ch : Int32) (bn : Int32) (bs : Int32) (km : Int32) : RI l D cy yX12_asked cX12_asked 3 (some .int) 0 0 [.ref (q 0)] [((q 0), .inr (11, (mO q t 0 0 0 0 0 0 0 (-1) ch 0 0 bn 0 bs km 0 0 0))), ((q 82), .inl (cy 1, 96, .inl (fun _ => 0)))] (fun v : Int32 => v = 0) := by
  refine metr_go (by decide) (Nat.le_of_ble_eq_true rfl) (fun p e s m below meth c ls S hr hlk hP hK hl => ?_)
  have hl : lv_has ls 3 [(0, .ref (q 0))] := hl
  refine lv_iconst (v := 0) S.1 S.2.1 dX12_asked_0 (by decide) ?_
  refine lv_istore_n (lv' := [(1, .int 0), (0, .ref (q 0))]) S.1 S.2.1 dX12_asked_1 rfl hl (by decide) rfl (fun ls hl => ?_)
  refine lv_iconst (v := 0) S.1 S.2.1 dX12_asked_2 (by decide) ?_
  refine lv_istore_n (lv' := [(2, .int 0), (1, .int 0), (0, .ref (q 0))]) S.1 S.2.1 dX12_asked_3 rfl hl (by decide) rfl (fun ls hl => ?_)
  refine loopR (σ := Unit) 4 96 (fun k xs9 => [(2, .int (nI (k))), (1, .int 0), (0, .ref (q 0))]) (fun k xs9 => True) (fun xs9 hJ ls hl => ?_) (fun k xs9 hk hJ ls hl ih => ?_) () trivial (lv_sub hl [0, 1, 2] rfl)
  · have hl : lv_has ls 3 [(2, .int 96), (1, .int 0), (0, .ref (q 0))] := hl
    refine lv_iload_n S.1 S.2.1 dX12_asked_4 rfl (lv_at hl 0 rfl) ?_
    refine lv_bipush (v := 96) S.1 S.2.1 dX12_asked_5 (by decide) ?_
    refine r_icmp_ge S 96 96 rfl rfl dX12_asked_7 (tgt := 33) (by decide) (fun _ => ?_) (fun c => absurd c (by decide))
    refine lv_iload_n S.1 S.2.1 dX12_asked_33 rfl (lv_at hl 1 rfl) ?_
    exact ri_ret S hr hlk rfl (rfl) dX12_asked_34
  · have hl : lv_has ls 3 [(2, .int (nI (k))), (1, .int 0), (0, .ref (q 0))] := hl
    refine lv_iload_n S.1 S.2.1 dX12_asked_4 rfl (lv_at hl 0 rfl) ?_
    refine lv_bipush (v := 96) S.1 S.2.1 dX12_asked_5 (by decide) ?_
    refine r_icmp_ge S ((k : Nat) : Int) 96 (nI_toInt (by omega)) rfl dX12_asked_7 (tgt := 33) (by decide) (fun c => absurd c (by omega)) (fun _ => ?_)
    refine lv_iload_n S.1 S.2.1 dX12_asked_10 rfl (lv_at hl 1 rfl) ?_
    refine lv_aload_n S.1 S.2.1 dX12_asked_11 rfl (lv_at hl 2 rfl) ?_
    refine r_get S hK hP 0 11 rfl rfl inX12 82 (by decide) kw_1592 (v := .ref (q 82)) rfl dX12_asked_12 ?_
    refine lv_iload_n S.1 S.2.1 dX12_asked_15 rfl (lv_at hl 0 rfl) ?_
    refine r_zald S hK hP 1 1 rfl rfl ((k)) rfl (by omega) (by decide) (v := 0) rfl dX12_asked_16 ?_
    refine r_if_eq S 0 rfl dX12_asked_17 (tgt := 24) (by decide) (fun _ => ?_) (fun c => absurd c (by decide))
    refine lv_iconst (v := 0) S.1 S.2.1 dX12_asked_24 (by decide) ?_
    refine r_iadd S dX12_asked_25 (v := 0) (by decide) ?_
    refine lv_istore_n (lv' := [(1, .int 0), (2, .int (nI (k))), (0, .ref (q 0))]) S.1 S.2.1 dX12_asked_26 rfl hl (by decide) rfl (fun ls hl => ?_)
    refine lv_iinc (v := (nI ((k) + 1))) (lv' := [(2, .int (nI ((k) + 1))), (1, .int 0), (0, .ref (q 0))]) S.1 S.2.1 dX12_asked_27 hl (k := 1) rfl (nI_1 (k)) (by decide) rfl (fun ls hl => ?_)
    refine lv_goto (tgt := 4) S.1 S.2.1 dX12_asked_30 (by decide) ?_
    exact ih () _ trivial (lv_sub hl [0, 1, 2] rfl)
set_option maxHeartbeats 4000000 in
set_option maxRecDepth 100000 in
theorem kX12_sightsThat (l : Launch) (D : va_G) (cy : Nat → ClassId) (q : Nat → Nat) (t : Int32) (ch : Int32) (bn : Int32) (bs : Int32) (km : Int32) (p0 : Int32) (z0 : Int) (h0 : p0.toInt = z0) : RI l D cy yX12_sightsThat cX12_sightsThat 4 (some .int) 0 0 [.ref (q 0), .int p0] [((q 0), .inr (11, (mO q t 0 0 0 0 0 0 0 (-1) ch 0 0 bn 0 bs km 0 0 0)))] (fun v : Int32 => v = 0) := by
  refine metr_go (by decide) (Nat.le_of_ble_eq_true rfl) (fun p e s m below meth c ls S hr hlk hP hK hl => ?_)
  have hl : lv_has ls 4 [(0, .ref (q 0)), (1, .int p0)] := hl
  refine lv_iconst (v := 0) S.1 S.2.1 dX12_sightsThat_0 (by decide) ?_
  refine lv_istore_n (lv' := [(2, .int 0), (0, .ref (q 0)), (1, .int p0)]) S.1 S.2.1 dX12_sightsThat_1 rfl hl (by decide) rfl (fun ls hl => ?_)
  refine lv_iconst (v := 0) S.1 S.2.1 dX12_sightsThat_2 (by decide) ?_
  refine lv_istore_n (lv' := [(3, .int 0), (2, .int 0), (0, .ref (q 0)), (1, .int p0)]) S.1 S.2.1 dX12_sightsThat_3 rfl hl (by decide) rfl (fun ls hl => ?_)
  refine lv_iload_n S.1 S.2.1 dX12_sightsThat_4 rfl (lv_at hl 0 rfl) ?_
  refine lv_aload_n S.1 S.2.1 dX12_sightsThat_5 rfl (lv_at hl 2 rfl) ?_
  refine r_get S hK hP 0 11 rfl rfl inX12 40 (by decide) kw_1550 (v := .int 0) rfl dX12_sightsThat_6 ?_
  refine r_icmp_ge S 0 0 rfl rfl dX12_sightsThat_9 (tgt := 64) (by decide) (fun _ => ?_) (fun c => absurd c (by decide))
  refine lv_iload_n S.1 S.2.1 dX12_sightsThat_64 rfl (lv_at hl 1 rfl) ?_
  exact ri_ret S hr hlk rfl (rfl) dX12_sightsThat_65
set_option maxHeartbeats 4000000 in
set_option maxRecDepth 100000 in
theorem kX12_bitsOf (l : Launch) (D : va_G) (cy : Nat → ClassId) (q : Nat → Nat) (t : Int32) (ch : Int32) (bn : Int32) (bs : Int32) (km : Int32) : RI l D cy yX12_bitsOf cX12_bitsOf 5 (some .int) 0 0 [.ref (q 0), .long 0] [((q 0), .inr (11, (mO q t 0 0 0 0 0 0 0 (-1) ch 0 0 bn 0 bs km 0 0 0)))] (fun v : Int32 => v = 0) := by
  refine metr_go (by decide) (Nat.le_of_ble_eq_true rfl) (fun p e s m below meth c ls S hr hlk hP hK hl => ?_)
  have hl : lv_has ls 5 [(0, .ref (q 0)), (1, .long 0)] := hl
  refine lv_iconst (v := 0) S.1 S.2.1 dX12_bitsOf_0 (by decide) ?_
  refine lv_istore_n (lv' := [(3, .int 0), (0, .ref (q 0)), (1, .long 0)]) S.1 S.2.1 dX12_bitsOf_1 rfl hl (by decide) rfl (fun ls hl => ?_)
  refine lv_iconst (v := 0) S.1 S.2.1 dX12_bitsOf_2 (by decide) ?_
  refine lv_istore (lv' := [(4, .int 0), (3, .int 0), (0, .ref (q 0)), (1, .long 0)]) S.1 S.2.1 dX12_bitsOf_3 hl (by decide) rfl (fun ls hl => ?_)
  refine lv_iload S.1 S.2.1 dX12_bitsOf_5 (lv_at hl 0 rfl) ?_
  refine lv_aload_n S.1 S.2.1 dX12_bitsOf_7 rfl (lv_at hl 2 rfl) ?_
  refine r_get S hK hP 0 11 rfl rfl inX12 40 (by decide) kw_1550 (v := .int 0) rfl dX12_bitsOf_8 ?_
  refine r_icmp_ge S 0 0 rfl rfl dX12_bitsOf_11 (tgt := 37) (by decide) (fun _ => ?_) (fun c => absurd c (by decide))
  refine lv_iload_n S.1 S.2.1 dX12_bitsOf_37 rfl (lv_at hl 1 rfl) ?_
  exact ri_ret S hr hlk rfl (rfl) dX12_bitsOf_38
set_option maxHeartbeats 4000000 in
set_option maxRecDepth 100000 in
theorem kX12_isOne (l : Launch) (D : va_G) (cy : Nat → ClassId) : RI l D cy yX12_isOne cX12_isOne 1 (some .boolean) 0 0 [.int 3072] [] (fun v : Int32 => v = 0) := by
  refine metr_go (by decide) (Nat.le_of_ble_eq_true rfl) (fun p e s m below meth c ls S hr hlk hP hK hl => ?_)
  have hl : lv_has ls 1 [(0, .int 3072)] := hl
  refine lv_iload_n S.1 S.2.1 dX12_isOne_0 rfl (lv_at hl 0 rfl) ?_
  refine r_if_eq S 3072 rfl dX12_isOne_1 (tgt := 16) (by decide) (fun c => absurd c (by decide)) (fun _ => ?_)
  refine lv_iload_n S.1 S.2.1 dX12_isOne_4 rfl (lv_at hl 0 rfl) ?_
  refine lv_iload_n S.1 S.2.1 dX12_isOne_5 rfl (lv_at hl 0 rfl) ?_
  refine lv_iconst (v := 1) S.1 S.2.1 dX12_isOne_6 (by decide) ?_
  refine r_isub S dX12_isOne_7 (v := 3071) (by decide) ?_
  refine r_iand S dX12_isOne_8 (v := 2048) (by decide) ?_
  refine r_if_ne S 2048 rfl dX12_isOne_9 (tgt := 16) (by decide) (fun _ => ?_) (fun c => absurd c (by decide))
  refine lv_iconst (v := 0) S.1 S.2.1 dX12_isOne_16 (by decide) ?_
  exact ri_ret S hr hlk (by decide) (rfl) dX12_isOne_17
set_option maxHeartbeats 4000000 in
set_option maxRecDepth 100000 in
theorem kX12_mayLie (l : Launch) (D : va_G) (cy : Nat → ClassId) (q : Nat → Nat) (t : Int32) (ch : Int32) (bn : Int32) (bs : Int32) (km : Int32) (kn : Nat → Int32) (p0 : Int32) (p1 : Int32) (z0 : Int) (h0 : p0.toInt = z0) (z1 : Int) (h1 : p1.toInt = z1) (hkn : kn 0 = 0) : RI l D cy yX12_mayLie cX12_mayLie 12 (some .int) 2 43 [.ref (q 0), .int 0, .int p0, .int p1] [((q 0), .inr (11, (mO q t 0 0 0 0 0 0 0 (-1) ch 0 0 bn 0 bs km 0 0 0))), ((q 74), .inl (cy 1, 16, .inl kn))] (fun v : Int32 => v = 3072) := by
  refine metr_go (by decide) (Nat.le_of_ble_eq_true rfl) (fun p e s m below meth c ls S hr hlk hP hK hl => ?_)
  have hl : lv_has ls 12 [(0, .ref (q 0)), (1, .int 0), (2, .int p0), (3, .int p1)] := hl
  refine lv_aload_n S.1 S.2.1 dX12_mayLie_0 rfl (lv_at hl 0 rfl) ?_
  refine call_ri (runV_R (wc := [((q 0), .inr (11, (mO q t 0 0 0 0 0 0 0 (-1) ch 0 0 bn 0 bs km 0 0 0)))]) (As := []) (rest := []) S (kX12_rocksNow l D cy q t ch bn bs km) hK hP [0] rfl 0 11 rfl rfl kw_1997 kw_1999 kw_101 kw_152 kw_2000 okX12_rocksNow rfl (by decide) hl.1 rfl (Nat.le_of_ble_eq_true rfl) dX12_mayLie_1 (by decide)) (fun v1 w1 => ?_)
  subst w1
  refine lv_istore (lv' := [(4, .int 0), (0, .ref (q 0)), (1, .int 0), (2, .int p0), (3, .int p1)]) S.1 S.2.1 dX12_mayLie_4 hl (by decide) rfl (fun ls hl => ?_)
  refine lv_aload_n S.1 S.2.1 dX12_mayLie_6 rfl (lv_at hl 1 rfl) ?_
  refine r_get S hK hP 0 11 rfl rfl inX12 74 (by decide) kw_1584 (v := .ref (q 74)) rfl dX12_mayLie_7 ?_
  refine lv_iload_n S.1 S.2.1 dX12_mayLie_10 rfl (lv_at hl 2 rfl) ?_
  refine r_zald S hK hP 1 1 rfl rfl (0) rfl (by decide) (by decide) (v := 0) hkn dX12_mayLie_11 ?_
  refine r_if_ne S 0 rfl dX12_mayLie_12 (tgt := 30) (by decide) (fun c => absurd c (by decide)) (fun _ => ?_)
  refine lv_iconst (v := 1) S.1 S.2.1 dX12_mayLie_15 (by decide) ?_
  refine lv_iload S.1 S.2.1 dX12_mayLie_16 (lv_at hl 0 rfl) ?_
  refine r_ishl S dX12_mayLie_18 (v := 1) (by decide) ?_
  refine lv_iconst (v := 1) S.1 S.2.1 dX12_mayLie_19 (by decide) ?_
  refine r_isub S dX12_mayLie_20 (v := 0) (by decide) ?_
  refine lv_sipush (v := 1024) S.1 S.2.1 dX12_mayLie_21 (by decide) ?_
  refine r_ior S dX12_mayLie_24 (v := 1024) (by decide) ?_
  refine lv_sipush (v := 2048) S.1 S.2.1 dX12_mayLie_25 (by decide) ?_
  refine r_ior S dX12_mayLie_28 (v := 3072) (by decide) ?_
  exact ri_ret S hr hlk rfl (rfl) dX12_mayLie_29
set_option maxHeartbeats 4000000 in
set_option maxRecDepth 100000 in
theorem kX12_mayLieAll (l : Launch) (D : va_G) (cy : Nat → ClassId) (q : Nat → Nat) (t : Int32) (ch : Int32) (bn : Int32) (bs : Int32) (km : Int32) (kp : Nat → Int32) (kn : Nat → Int32) (p0 : Int32) (p1 : Int32) (z0 : Int) (h0 : p0.toInt = z0) (z1 : Int) (h1 : p1.toInt = z1) (hkp : kp 0 = 1) (hkn : kn 0 = 0) : RI l D cy yX12_mayLieAll cX12_mayLieAll 5 (some .int) 3 74 [.ref (q 0), .int p0, .int p1] [((q 0), .inr (11, (mO q t 0 0 0 0 0 0 0 (-1) ch 0 0 bn 0 bs km 0 0 0))), ((q 73), .inl (cy 1, 16, .inl kp)), ((q 74), .inl (cy 1, 16, .inl kn))] (fun v : Int32 => v = 3072) := by
  refine metr_go (by decide) (Nat.le_of_ble_eq_true rfl) (fun p e s m below meth c ls S hr hlk hP hK hl => ?_)
  have hl : lv_has ls 5 [(0, .ref (q 0)), (1, .int p0), (2, .int p1)] := hl
  refine lv_iconst (v := 0) S.1 S.2.1 dX12_mayLieAll_0 (by decide) ?_
  refine lv_istore_n (lv' := [(3, .int 0), (0, .ref (q 0)), (1, .int p0), (2, .int p1)]) S.1 S.2.1 dX12_mayLieAll_1 rfl hl (by decide) rfl (fun ls hl => ?_)
  refine lv_iconst (v := 0) S.1 S.2.1 dX12_mayLieAll_2 (by decide) ?_
  refine lv_istore (lv' := [(4, .int 0), (3, .int 0), (0, .ref (q 0)), (1, .int p0), (2, .int p1)]) S.1 S.2.1 dX12_mayLieAll_3 hl (by decide) rfl (fun ls hl => ?_)
  refine lv_iload S.1 S.2.1 dX12_mayLieAll_5 (lv_at hl 0 rfl) ?_
  refine lv_iconst (v := 1) S.1 S.2.1 dX12_mayLieAll_7 (by decide) ?_
  refine lv_aload_n S.1 S.2.1 dX12_mayLieAll_8 rfl (lv_at hl 2 rfl) ?_
  refine r_get S hK hP 0 11 rfl rfl inX12 57 (by decide) kw_1567 (v := .int 0) rfl dX12_mayLieAll_9 ?_
  refine r_ishl S dX12_mayLieAll_12 (v := 1) (by decide) ?_
  refine r_icmp_ge S 0 1 rfl rfl dX12_mayLieAll_13 (tgt := 47) (by decide) (fun c => absurd c (by decide)) (fun _ => ?_)
  refine lv_iload_n S.1 S.2.1 dX12_mayLieAll_16 rfl (lv_at hl 1 rfl) ?_
  refine lv_aload_n S.1 S.2.1 dX12_mayLieAll_17 rfl (lv_at hl 2 rfl) ?_
  refine r_get S hK hP 0 11 rfl rfl inX12 73 (by decide) kw_1583 (v := .ref (q 73)) rfl dX12_mayLieAll_18 ?_
  refine lv_iload S.1 S.2.1 dX12_mayLieAll_21 (lv_at hl 0 rfl) ?_
  refine r_zald S hK hP 1 1 rfl rfl (0) rfl (by decide) (by decide) (v := 1) hkp dX12_mayLieAll_23 ?_
  refine r_if_eq S 1 rfl dX12_mayLieAll_24 (tgt := 38) (by decide) (fun c => absurd c (by decide)) (fun _ => ?_)
  refine lv_aload_n S.1 S.2.1 dX12_mayLieAll_27 rfl (lv_at hl 2 rfl) ?_
  refine lv_iload S.1 S.2.1 dX12_mayLieAll_28 (lv_at hl 0 rfl) ?_
  refine lv_iload_n S.1 S.2.1 dX12_mayLieAll_30 rfl (lv_at hl 3 rfl) ?_
  refine lv_iload_n S.1 S.2.1 dX12_mayLieAll_31 rfl (lv_at hl 4 rfl) ?_
  refine call_ri (runV_R (wc := [((q 0), .inr (11, (mO q t 0 0 0 0 0 0 0 (-1) ch 0 0 bn 0 bs km 0 0 0))), ((q 74), .inl (cy 1, 16, .inl kn))]) (As := [.int 0, .int p0, .int p1]) (rest := [.int 0]) S (kX12_mayLie l D cy q t ch bn bs km kn p0 p1 z0 h0 z1 h1 hkn) hK hP [0, 2] rfl 0 11 rfl rfl kw_2124 kw_2126 kw_125 kw_152 kw_2127 okX12_mayLie rfl (by decide) hl.1 rfl (Nat.le_of_ble_eq_true rfl) dX12_mayLieAll_32 (by decide)) (fun v32 w32 => ?_)
  subst w32
  refine lv_goto (tgt := 39) S.1 S.2.1 dX12_mayLieAll_35 (by decide) ?_
  refine r_ior S dX12_mayLieAll_39 (v := 3072) (by decide) ?_
  refine lv_istore_n (lv' := [(3, .int 3072), (4, .int 0), (0, .ref (q 0)), (1, .int p0), (2, .int p1)]) S.1 S.2.1 dX12_mayLieAll_40 rfl hl (by decide) rfl (fun ls hl => ?_)
  refine lv_iinc (v := 1) (lv' := [(4, .int 1), (3, .int 3072), (0, .ref (q 0)), (1, .int p0), (2, .int p1)]) S.1 S.2.1 dX12_mayLieAll_41 hl (k := 1) rfl (by decide) (by decide) rfl (fun ls hl => ?_)
  refine lv_goto (tgt := 5) S.1 S.2.1 dX12_mayLieAll_44 (by decide) ?_
  refine lv_iload S.1 S.2.1 dX12_mayLieAll_5 (lv_at hl 0 rfl) ?_
  refine lv_iconst (v := 1) S.1 S.2.1 dX12_mayLieAll_7 (by decide) ?_
  refine lv_aload_n S.1 S.2.1 dX12_mayLieAll_8 rfl (lv_at hl 2 rfl) ?_
  refine r_get S hK hP 0 11 rfl rfl inX12 57 (by decide) kw_1567 (v := .int 0) rfl dX12_mayLieAll_9 ?_
  refine r_ishl S dX12_mayLieAll_12 (v := 1) (by decide) ?_
  refine r_icmp_ge S 1 1 rfl rfl dX12_mayLieAll_13 (tgt := 47) (by decide) (fun _ => ?_) (fun c => absurd c (by decide))
  refine lv_iload_n S.1 S.2.1 dX12_mayLieAll_47 rfl (lv_at hl 1 rfl) ?_
  exact ri_ret S hr hlk rfl (rfl) dX12_mayLieAll_48
set_option maxHeartbeats 4000000 in
set_option maxRecDepth 100000 in
theorem kX12_areKnown (l : Launch) (D : va_G) (cy : Nat → ClassId) (q : Nat → Nat) (t : Int32) (bn : Int32) (kp : Nat → Int32) (kn : Nat → Int32) (hkp : kp 0 = 1) (hkn : kn 0 = 0) : RI l D cy yX12_areKnown cX12_areKnown 3 (some .boolean) 0 0 [.ref (q 0)] [((q 0), .inr (11, (mO q t 0 0 0 0 0 0 0 (-1) 0 0 0 bn 0 0 1 0 0 0))), ((q 73), .inl (cy 1, 16, .inl kp)), ((q 74), .inl (cy 1, 16, .inl kn))] (fun v : Int32 => v = 0) := by
  refine metr_go (by decide) (Nat.le_of_ble_eq_true rfl) (fun p e s m below meth c ls S hr hlk hP hK hl => ?_)
  have hl : lv_has ls 3 [(0, .ref (q 0))] := hl
  refine lv_aload_n S.1 S.2.1 dX12_areKnown_0 rfl (lv_at hl 0 rfl) ?_
  refine r_get S hK hP 0 11 rfl rfl inX12 78 (by decide) kw_1588 (v := .int 1) rfl dX12_areKnown_1 ?_
  refine r_if_le S 1 rfl dX12_areKnown_4 (tgt := 11) (by decide) (fun c => absurd c (by decide)) (fun _ => ?_)
  refine lv_iconst (v := 1) S.1 S.2.1 dX12_areKnown_7 (by decide) ?_
  refine lv_goto (tgt := 12) S.1 S.2.1 dX12_areKnown_8 (by decide) ?_
  refine lv_istore_n (lv' := [(1, .int 1), (0, .ref (q 0))]) S.1 S.2.1 dX12_areKnown_12 rfl hl (by decide) rfl (fun ls hl => ?_)
  refine lv_iconst (v := 0) S.1 S.2.1 dX12_areKnown_13 (by decide) ?_
  refine lv_istore_n (lv' := [(2, .int 0), (1, .int 1), (0, .ref (q 0))]) S.1 S.2.1 dX12_areKnown_14 rfl hl (by decide) rfl (fun ls hl => ?_)
  refine lv_iload_n S.1 S.2.1 dX12_areKnown_15 rfl (lv_at hl 0 rfl) ?_
  refine lv_iconst (v := 1) S.1 S.2.1 dX12_areKnown_16 (by decide) ?_
  refine lv_aload_n S.1 S.2.1 dX12_areKnown_17 rfl (lv_at hl 2 rfl) ?_
  refine r_get S hK hP 0 11 rfl rfl inX12 57 (by decide) kw_1567 (v := .int 0) rfl dX12_areKnown_18 ?_
  refine r_ishl S dX12_areKnown_21 (v := 1) (by decide) ?_
  refine r_icmp_ge S 0 1 rfl rfl dX12_areKnown_22 (tgt := 59) (by decide) (fun c => absurd c (by decide)) (fun _ => ?_)
  refine lv_iload_n S.1 S.2.1 dX12_areKnown_25 rfl (lv_at hl 1 rfl) ?_
  refine r_if_eq S 1 rfl dX12_areKnown_26 (tgt := 51) (by decide) (fun c => absurd c (by decide)) (fun _ => ?_)
  refine lv_aload_n S.1 S.2.1 dX12_areKnown_29 rfl (lv_at hl 2 rfl) ?_
  refine r_get S hK hP 0 11 rfl rfl inX12 73 (by decide) kw_1583 (v := .ref (q 73)) rfl dX12_areKnown_30 ?_
  refine lv_iload_n S.1 S.2.1 dX12_areKnown_33 rfl (lv_at hl 0 rfl) ?_
  refine r_zald S hK hP 1 1 rfl rfl (0) rfl (by decide) (by decide) (v := 1) hkp dX12_areKnown_34 ?_
  refine r_if_eq S 1 rfl dX12_areKnown_35 (tgt := 47) (by decide) (fun c => absurd c (by decide)) (fun _ => ?_)
  refine lv_aload_n S.1 S.2.1 dX12_areKnown_38 rfl (lv_at hl 2 rfl) ?_
  refine r_get S hK hP 0 11 rfl rfl inX12 74 (by decide) kw_1584 (v := .ref (q 74)) rfl dX12_areKnown_39 ?_
  refine lv_iload_n S.1 S.2.1 dX12_areKnown_42 rfl (lv_at hl 0 rfl) ?_
  refine r_zald S hK hP 2 1 rfl rfl (0) rfl (by decide) (by decide) (v := 0) hkn dX12_areKnown_43 ?_
  refine r_if_eq S 0 rfl dX12_areKnown_44 (tgt := 51) (by decide) (fun _ => ?_) (fun c => absurd c (by decide))
  refine lv_iconst (v := 0) S.1 S.2.1 dX12_areKnown_51 (by decide) ?_
  refine lv_istore_n (lv' := [(1, .int 0), (2, .int 0), (0, .ref (q 0))]) S.1 S.2.1 dX12_areKnown_52 rfl hl (by decide) rfl (fun ls hl => ?_)
  refine lv_iinc (v := 1) (lv' := [(2, .int 1), (1, .int 0), (0, .ref (q 0))]) S.1 S.2.1 dX12_areKnown_53 hl (k := 1) rfl (by decide) (by decide) rfl (fun ls hl => ?_)
  refine lv_goto (tgt := 15) S.1 S.2.1 dX12_areKnown_56 (by decide) ?_
  refine lv_iload_n S.1 S.2.1 dX12_areKnown_15 rfl (lv_at hl 0 rfl) ?_
  refine lv_iconst (v := 1) S.1 S.2.1 dX12_areKnown_16 (by decide) ?_
  refine lv_aload_n S.1 S.2.1 dX12_areKnown_17 rfl (lv_at hl 2 rfl) ?_
  refine r_get S hK hP 0 11 rfl rfl inX12 57 (by decide) kw_1567 (v := .int 0) rfl dX12_areKnown_18 ?_
  refine r_ishl S dX12_areKnown_21 (v := 1) (by decide) ?_
  refine r_icmp_ge S 1 1 rfl rfl dX12_areKnown_22 (tgt := 59) (by decide) (fun _ => ?_) (fun c => absurd c (by decide))
  refine lv_iload_n S.1 S.2.1 dX12_areKnown_59 rfl (lv_at hl 1 rfl) ?_
  exact ri_ret S hr hlk (by decide) (rfl) dX12_areKnown_60
set_option maxHeartbeats 4000000 in
set_option maxRecDepth 100000 in
theorem kX12_cellsOfOne (l : Launch) (D : va_G) (cy : Nat → ClassId) (q : Nat → Nat) (t : Int32) (bn : Int32) (kp : Nat → Int32) (kn : Nat → Int32) (hkp : kp 0 = 1) (hkn : kn 0 = 0) : RI l D cy yX12_cellsOfOne cX12_cellsOfOne 3 (some .int) 4 98 [.ref (q 0)] [((q 0), .inr (11, (mO q t 0 0 0 0 0 0 0 (-1) 0 0 0 bn 0 0 1 0 0 0))), ((q 73), .inl (cy 1, 16, .inl kp)), ((q 74), .inl (cy 1, 16, .inl kn))] (fun v : Int32 => v = 0) := by
  refine metr_go (by decide) (Nat.le_of_ble_eq_true rfl) (fun p e s m below meth c ls S hr hlk hP hK hl => ?_)
  have hl : lv_has ls 3 [(0, .ref (q 0))] := hl
  refine lv_iconst (v := 0) S.1 S.2.1 dX12_cellsOfOne_0 (by decide) ?_
  refine lv_istore_n (lv' := [(1, .int 0), (0, .ref (q 0))]) S.1 S.2.1 dX12_cellsOfOne_1 rfl hl (by decide) rfl (fun ls hl => ?_)
  refine lv_iconst (v := 0) S.1 S.2.1 dX12_cellsOfOne_2 (by decide) ?_
  refine lv_istore_n (lv' := [(2, .int 0), (1, .int 0), (0, .ref (q 0))]) S.1 S.2.1 dX12_cellsOfOne_3 rfl hl (by decide) rfl (fun ls hl => ?_)
  refine loopR (σ := Unit) 4 96 (fun k xs9 => [(2, .int (nI (k))), (1, .int 0), (0, .ref (q 0))]) (fun k xs9 => True) (fun xs9 hJ ls hl => ?_) (fun k xs9 hk hJ ls hl ih => ?_) () trivial (lv_sub hl [0, 1, 2] rfl)
  · have hl : lv_has ls 3 [(2, .int 96), (1, .int 0), (0, .ref (q 0))] := hl
    refine lv_iload_n S.1 S.2.1 dX12_cellsOfOne_4 rfl (lv_at hl 0 rfl) ?_
    refine lv_bipush (v := 96) S.1 S.2.1 dX12_cellsOfOne_5 (by decide) ?_
    refine r_icmp_ge S 96 96 rfl rfl dX12_cellsOfOne_7 (tgt := 43) (by decide) (fun _ => ?_) (fun c => absurd c (by decide))
    refine lv_iload_n S.1 S.2.1 dX12_cellsOfOne_43 rfl (lv_at hl 1 rfl) ?_
    exact ri_ret S hr hlk rfl (rfl) dX12_cellsOfOne_44
  · have hl : lv_has ls 3 [(2, .int (nI (k))), (1, .int 0), (0, .ref (q 0))] := hl
    refine lv_iload_n S.1 S.2.1 dX12_cellsOfOne_4 rfl (lv_at hl 0 rfl) ?_
    refine lv_bipush (v := 96) S.1 S.2.1 dX12_cellsOfOne_5 (by decide) ?_
    refine r_icmp_ge S ((k : Nat) : Int) 96 (nI_toInt (by omega)) rfl dX12_cellsOfOne_7 (tgt := 43) (by decide) (fun c => absurd c (by omega)) (fun _ => ?_)
    refine lv_iload_n S.1 S.2.1 dX12_cellsOfOne_10 rfl (lv_at hl 1 rfl) ?_
    refine lv_aload_n S.1 S.2.1 dX12_cellsOfOne_11 rfl (lv_at hl 2 rfl) ?_
    refine r_get S hK hP 0 11 rfl rfl inX12 78 (by decide) kw_1588 (v := .int 1) rfl dX12_cellsOfOne_12 ?_
    refine r_if_le S 1 rfl dX12_cellsOfOne_15 (tgt := 34) (by decide) (fun c => absurd c (by decide)) (fun _ => ?_)
    refine lv_aload_n S.1 S.2.1 dX12_cellsOfOne_18 rfl (lv_at hl 2 rfl) ?_
    refine lv_iload_n S.1 S.2.1 dX12_cellsOfOne_19 rfl (lv_at hl 0 rfl) ?_
    refine lv_iconst (v := 0) S.1 S.2.1 dX12_cellsOfOne_20 (by decide) ?_
    refine call_ri (runV_R (wc := [((q 0), .inr (11, (mO q t 0 0 0 0 0 0 0 (-1) 0 0 0 bn 0 0 1 0 0 0))), ((q 73), .inl (cy 1, 16, .inl kp)), ((q 74), .inl (cy 1, 16, .inl kn))]) (As := [.int (nI (k)), .int 0]) (rest := [.int 0]) S (kX12_mayLieAll l D cy q t 0 bn 0 1 kp kn (nI (k)) 0 ((k : Nat) : Int) (nI_toInt (by omega)) 0 rfl hkp hkn) hK hP [0, 1, 2] rfl 0 11 rfl rfl kw_2120 kw_2122 kw_124 kw_152 kw_2123 okX12_mayLieAll rfl (by decide) hl.1 rfl (Nat.le_of_ble_eq_true rfl) dX12_cellsOfOne_21 (by decide)) (fun v21 w21 => ?_)
    subst w21
    refine call_ri (runS_R (wc := []) (As := [.int 3072]) (rest := [.int 0]) S (kX12_isOne l D cy) hK hP [] rfl kw_2136 kw_2137 kw_152 kw_2138 okX12_isOne rfl (by decide) hl.1 rfl (Nat.le_of_ble_eq_true rfl) dX12_cellsOfOne_24 (by decide)) (fun v24 w24 => ?_)
    subst w24
    refine r_if_eq S 0 rfl dX12_cellsOfOne_27 (tgt := 34) (by decide) (fun _ => ?_) (fun c => absurd c (by decide))
    refine lv_iconst (v := 0) S.1 S.2.1 dX12_cellsOfOne_34 (by decide) ?_
    refine r_iadd S dX12_cellsOfOne_35 (v := 0) (by decide) ?_
    refine lv_istore_n (lv' := [(1, .int 0), (2, .int (nI (k))), (0, .ref (q 0))]) S.1 S.2.1 dX12_cellsOfOne_36 rfl hl (by decide) rfl (fun ls hl => ?_)
    refine lv_iinc (v := (nI ((k) + 1))) (lv' := [(2, .int (nI ((k) + 1))), (1, .int 0), (0, .ref (q 0))]) S.1 S.2.1 dX12_cellsOfOne_37 hl (k := 1) rfl (nI_1 (k)) (by decide) rfl (fun ls hl => ?_)
    refine lv_goto (tgt := 4) S.1 S.2.1 dX12_cellsOfOne_40 (by decide) ?_
    exact ih () _ trivial (lv_sub hl [0, 1, 2] rfl)
set_option maxHeartbeats 4000000 in
set_option maxRecDepth 100000 in
theorem kX12_isBestKnown (l : Launch) (D : va_G) (cy : Nat → ClassId) (q : Nat → Nat) (t : Int32) : CI l D cy yX12_isBestKnown cX12_isBestKnown 1 (some .boolean) 6 152 0 0 [.ref (q 0)] [((q 0), .inr (11, (mO q t 0 0 0 0 0 0 0 (-1) 1 0 0 0 0 0 0 0 0 0))), ((q 63), .inl (cy 0, 600, .inl (fun _ => 0))), ((q 64), .inl (cy 0, 600, .inl (fun _ => 0))), ((q 65), .inl (cy 0, 600, .inl (fun _ => 0))), ((q 66), .inl (cy 0, 600, .inl (fun _ => 0))), ((q 67), .inl (cy 0, 97, .inl (fun _ => 0))), ((q 68), .inl (cy 0, 97, .inl (fun _ => 0))), ((q 70), .inl (cy 1, 16, .inl (fun _ => 0))), ((q 71), .inl (cy 0, 16, .inl (fun _ => 0))), ((q 72), .inl (cy 2, 16, .inr (.inl (fun _ => 0)))), ((q 73), .inl (cy 1, 16, .inl (fun _ => 0))), ((q 74), .inl (cy 1, 16, .inl (fun _ => 0)))] (fun (v : Int32) (u : Unit) => v = 0) (fun (u : Unit) => []) := by
  refine ci_go (by decide) (Nat.le_of_ble_eq_true rfl) (fun p e s m below meth c ls A hA S hr hlk hnm hP hK hD hl => ?_)
  have hS : va_S A s.heap s.heap [] := va_S.rf
  have hl : lv_has ls 1 [(0, .ref (q 0))] := hl
  refine lv_aload_n S.1 S.2.1 dX12_isBestKnown_0 rfl (lv_at hl 0 rfl) ?_
  refine call_v (wr := []) (runV_C (wc := [((q 0), .inr (11, (mO q t 0 0 0 0 0 0 0 (-1) 1 0 0 0 0 0 0 0 0 0))), ((q 63), .inl (cy 0, 600, .inl (fun _ => 0))), ((q 64), .inl (cy 0, 600, .inl (fun _ => 0))), ((q 65), .inl (cy 0, 600, .inl (fun _ => 0))), ((q 66), .inl (cy 0, 600, .inl (fun _ => 0))), ((q 67), .inl (cy 0, 97, .inl (fun _ => 0))), ((q 68), .inl (cy 0, 97, .inl (fun _ => 0))), ((q 70), .inl (cy 1, 16, .inl (fun _ => 0))), ((q 71), .inl (cy 0, 16, .inl (fun _ => 0))), ((q 72), .inl (cy 2, 16, .inr (.inl (fun _ => 0)))), ((q 73), .inl (cy 1, 16, .inl (fun _ => 0))), ((q 74), .inl (cy 1, 16, .inl (fun _ => 0)))]) (As := []) (rest := []) S (kX12_findGrounds l D cy q t) hK hP hD [0, 1, 2, 3, 4, 5, 6, 7, 8, 9, 10, 11] (by decide) rfl 0 11 rfl rfl kw_1946 kw_1948 kw_89 kw_152 kw_1949 okX12_findGrounds rfl (by decide) hl.1 rfl (Nat.le_of_ble_eq_true rfl) dX12_isBestKnown_1 (by decide)) hP hD hS hA [0, 1, 2, 3, 4, 5, 6, 7, 8, 9, 10, 11] [] rfl rfl (by decide) (by decide) (fun u1 H locs w1 hP hD hS => ?_)
  obtain ⟨bn_1, gd_1, cs_1, db_1, kp_1, kn_1⟩ := u1
  have hP : va_P D vwCl [((q 0), .inr (11, (mO q t 0 0 0 0 0 0 0 (-1) 0 0 0 bn_1 0 0 1 0 0 0))), ((q 70), .inl (cy 1, 16, .inl gd_1)), ((q 71), .inl (cy 0, 16, .inl cs_1)), ((q 72), .inl (cy 2, 16, .inr (.inl db_1))), ((q 73), .inl (cy 1, 16, .inl kp_1)), ((q 74), .inl (cy 1, 16, .inl kn_1))] H := hP
  have hD : va_D A [((q 0), .inr (11, (mO q t 0 0 0 0 0 0 0 (-1) 0 0 0 bn_1 0 0 1 0 0 0))), ((q 70), .inl (cy 1, 16, .inl gd_1)), ((q 71), .inl (cy 0, 16, .inl cs_1)), ((q 72), .inl (cy 2, 16, .inr (.inl db_1))), ((q 73), .inl (cy 1, 16, .inl kp_1)), ((q 74), .inl (cy 1, 16, .inl kn_1))] := hD
  obtain ⟨hgd, hcs, hdb, hkp, hkn⟩ := w1
  refine lv_aload_n S.1 S.2.1 dX12_isBestKnown_4 rfl (lv_at hl 0 rfl) ?_
  refine r_get S hK hP 0 11 rfl rfl inX12 77 (by decide) kw_1587 (v := .int 0) rfl dX12_isBestKnown_5 ?_
  refine r_if_lt S 0 rfl dX12_isBestKnown_8 (tgt := 27) (by decide) (fun c => absurd c (by decide)) (fun _ => ?_)
  refine lv_aload_n S.1 S.2.1 dX12_isBestKnown_11 rfl (lv_at hl 0 rfl) ?_
  refine r_get S hK hP 0 11 rfl rfl inX12 74 (by decide) kw_1584 (v := .ref (q 74)) rfl dX12_isBestKnown_12 ?_
  refine lv_aload_n S.1 S.2.1 dX12_isBestKnown_15 rfl (lv_at hl 0 rfl) ?_
  refine r_get S hK hP 0 11 rfl rfl inX12 77 (by decide) kw_1587 (v := .int 0) rfl dX12_isBestKnown_16 ?_
  refine r_zald S hK hP 5 1 rfl rfl (0) rfl (by decide) (by decide) (v := 0) hkn dX12_isBestKnown_19 ?_
  refine r_if_eq S 0 rfl dX12_isBestKnown_20 (tgt := 27) (by decide) (fun _ => ?_) (fun c => absurd c (by decide))
  refine lv_iconst (v := 0) S.1 S.2.1 dX12_isBestKnown_27 (by decide) ?_
  exact ci_ret (u := ()) S hr hlk (by decide) hK (hP.sub [] rfl) (hD.sub [] (by decide) rfl) hS (rfl) (by decide) (by decide) dX12_isBestKnown_28
set_option maxHeartbeats 4000000 in
set_option maxRecDepth 100000 in
theorem kX12_neighbour (l : Launch) (D : va_G) (cy : Nat → ClassId) (n : Nat) (p1 : Int32) (z1 : Int) (h1 : p1.toInt = z1) (hn : n < 96) (hw : 0 ≤ z1 ∧ z1 ≤ 3) : RI l D cy yX12_neighbour cX12_neighbour 4 (some .int) 2 43 [.int (nI (n)), .int p1] [] (fun v : Int32 => (v = (-1) ∧ (¬ ((z1 = 0 ∧ 0 < n % 12) ∨ (z1 = 1 ∧ n % 12 < 11) ∨ (z1 = 2 ∧ 12 ≤ n) ∨ (z1 = 3 ∧ n < 84)))) ∨ (∃ nj : Nat, v = (nI (nj)) ∧ nj < 96 ∧ (((z1 = 0 ∧ 0 < n % 12) ∨ (z1 = 1 ∧ n % 12 < 11) ∨ (z1 = 2 ∧ 12 ≤ n) ∨ (z1 = 3 ∧ n < 84))))) := by
  refine metr_go (by decide) (Nat.le_of_ble_eq_true rfl) (fun p e s m below meth c ls S hr hlk hP hK hl => ?_)
  have hl : lv_has ls 4 [(0, .int (nI (n))), (1, .int p1)] := hl
  refine lv_iload_n S.1 S.2.1 dX12_neighbour_0 rfl (lv_at hl 0 rfl) ?_
  refine lv_bipush (v := 12) S.1 S.2.1 dX12_neighbour_1 (by decide) ?_
  refine r_irem S dX12_neighbour_3 (by decide) (v := (nI ((n) % 12))) (pk_rem (a := (n)) (d := 12) (by omega) (by omega) (by omega)) ?_
  refine lv_iload_n S.1 S.2.1 dX12_neighbour_4 rfl (lv_at hl 1 rfl) ?_
  refine r_if_ne S z1 h1 dX12_neighbour_5 (tgt := 12) (by decide) (fun e_5_1 => ?_) (fun e_5_1 => ?_)
  · refine lv_iload_n S.1 S.2.1 dX12_neighbour_12 rfl (lv_at hl 1 rfl) ?_
    refine lv_iconst (v := 1) S.1 S.2.1 dX12_neighbour_13 (by decide) ?_
    refine r_icmp_ne S z1 1 h1 rfl dX12_neighbour_14 (tgt := 21) (by decide) (fun e_14_2 => ?_) (fun e_14_2 => ?_)
    · refine lv_iconst (v := 0) S.1 S.2.1 dX12_neighbour_21 (by decide) ?_
      refine r_iadd S dX12_neighbour_22 (v := (nI (((n) % 12) + 0))) (nI_add (((n) % 12)) (0)) ?_
      refine lv_istore_n (lv' := [(2, .int (nI (((n) % 12) + 0))), (0, .int (nI (n))), (1, .int p1)]) S.1 S.2.1 dX12_neighbour_23 rfl hl (by decide) rfl (fun ls hl => ?_)
      refine lv_iload_n S.1 S.2.1 dX12_neighbour_24 rfl (lv_at hl 1 rfl) ?_
      refine lv_bipush (v := 12) S.1 S.2.1 dX12_neighbour_25 (by decide) ?_
      refine r_idiv S dX12_neighbour_27 (by decide) (v := (nI ((n) / 12))) (pk_div (a := (n)) (d := 12) (by omega) (by omega) (by omega)) ?_
      refine lv_iload_n S.1 S.2.1 dX12_neighbour_28 rfl (lv_at hl 2 rfl) ?_
      refine lv_iconst (v := 2) S.1 S.2.1 dX12_neighbour_29 (by decide) ?_
      refine r_icmp_ne S z1 2 h1 rfl dX12_neighbour_30 (tgt := 37) (by decide) (fun e_30_3 => ?_) (fun e_30_3 => ?_)
      · refine lv_iload_n S.1 S.2.1 dX12_neighbour_37 rfl (lv_at hl 2 rfl) ?_
        refine lv_iconst (v := 3) S.1 S.2.1 dX12_neighbour_38 (by decide) ?_
        refine r_icmp_ne S z1 3 h1 rfl dX12_neighbour_39 (tgt := 46) (by decide) (fun e_39_4 => ?_) (fun e_39_4 => ?_)
        · refine lv_iconst (v := 0) S.1 S.2.1 dX12_neighbour_46 (by decide) ?_
          refine r_iadd S dX12_neighbour_47 (v := (nI (((n) / 12) + 0))) (nI_add (((n) / 12)) (0)) ?_
          refine lv_istore_n (lv' := [(3, .int (nI (((n) / 12) + 0))), (2, .int (nI (((n) % 12) + 0))), (0, .int (nI (n))), (1, .int p1)]) S.1 S.2.1 dX12_neighbour_48 rfl hl (by decide) rfl (fun ls hl => ?_)
          refine lv_iload_n S.1 S.2.1 dX12_neighbour_49 rfl (lv_at hl 1 rfl) ?_
          refine lv_iload_n S.1 S.2.1 dX12_neighbour_50 rfl (lv_at hl 0 rfl) ?_
          refine call_ri (runS_R (wc := []) (As := [.int (nI (((n) % 12) + 0)), .int (nI (((n) / 12) + 0))]) (rest := []) S (kX12_isCell l D cy (nI (((n) % 12) + 0)) (nI (((n) / 12) + 0)) ((((n) % 12) + 0 : Nat) : Int) (nI_toInt (by omega)) ((((n) / 12) + 0 : Nat) : Int) (nI_toInt (by omega))) hK hP [] rfl kw_1903 kw_1904 kw_152 kw_1905 okX12_isCell rfl (by decide) hl.1 rfl (Nat.le_of_ble_eq_true rfl) dX12_neighbour_51 (by decide)) (fun v51 w51 => ?_)
          rcases w51 with ⟨rfl, w51_0_0⟩ | ⟨rfl, w51_1_0⟩
          · refine r_if_eq S 1 rfl dX12_neighbour_54 (tgt := 66) (by decide) (fun c => absurd c (by decide)) (fun _ => ?_)
            refine lv_bipush (v := 12) S.1 S.2.1 dX12_neighbour_57 (by decide) ?_
            refine lv_iload_n S.1 S.2.1 dX12_neighbour_59 rfl (lv_at hl 0 rfl) ?_
            refine r_imul S dX12_neighbour_60 (v := (nI (12 * (((n) / 12) + 0)))) (pk_mul (12) ((((n) / 12) + 0))) ?_
            refine lv_iload_n S.1 S.2.1 dX12_neighbour_61 rfl (lv_at hl 1 rfl) ?_
            refine r_iadd S dX12_neighbour_62 (v := (nI ((12 * (((n) / 12) + 0)) + (((n) % 12) + 0)))) (nI_add ((12 * (((n) / 12) + 0))) ((((n) % 12) + 0))) ?_
            obtain ⟨nj, hnj, qnj, znj⟩ := i_nat (x := (nI ((12 * (((n) / 12) + 0)) + (((n) % 12) + 0)))) (Z := (((12 * (((n) / 12) + 0)) + (((n) % 12) + 0) : Nat) : Int)) 96 (nI_toInt (by omega)) (by omega) (by omega)
            refine lv_goto (tgt := 67) S.1 S.2.1 dX12_neighbour_63 (by decide) ?_
            exact ri_ret S hr hlk rfl (Or.inr (⟨nj, qnj, (by omega), (by omega)⟩)) dX12_neighbour_67
          · refine r_if_eq S 0 rfl dX12_neighbour_54 (tgt := 66) (by decide) (fun _ => ?_) (fun c => absurd c (by decide))
            refine lv_iconst (v := (-1)) S.1 S.2.1 dX12_neighbour_66 (by decide) ?_
            exact ri_ret S hr hlk rfl (Or.inl ⟨rfl, (by omega)⟩) dX12_neighbour_67
        · refine lv_iconst (v := 1) S.1 S.2.1 dX12_neighbour_42 (by decide) ?_
          refine lv_goto (tgt := 47) S.1 S.2.1 dX12_neighbour_43 (by decide) ?_
          refine r_iadd S dX12_neighbour_47 (v := (nI (((n) / 12) + 1))) (nI_add (((n) / 12)) (1)) ?_
          refine lv_istore_n (lv' := [(3, .int (nI (((n) / 12) + 1))), (2, .int (nI (((n) % 12) + 0))), (0, .int (nI (n))), (1, .int p1)]) S.1 S.2.1 dX12_neighbour_48 rfl hl (by decide) rfl (fun ls hl => ?_)
          refine lv_iload_n S.1 S.2.1 dX12_neighbour_49 rfl (lv_at hl 1 rfl) ?_
          refine lv_iload_n S.1 S.2.1 dX12_neighbour_50 rfl (lv_at hl 0 rfl) ?_
          refine call_ri (runS_R (wc := []) (As := [.int (nI (((n) % 12) + 0)), .int (nI (((n) / 12) + 1))]) (rest := []) S (kX12_isCell l D cy (nI (((n) % 12) + 0)) (nI (((n) / 12) + 1)) ((((n) % 12) + 0 : Nat) : Int) (nI_toInt (by omega)) ((((n) / 12) + 1 : Nat) : Int) (nI_toInt (by omega))) hK hP [] rfl kw_1903 kw_1904 kw_152 kw_1905 okX12_isCell rfl (by decide) hl.1 rfl (Nat.le_of_ble_eq_true rfl) dX12_neighbour_51 (by decide)) (fun v51 w51 => ?_)
          rcases w51 with ⟨rfl, w51_0_0⟩ | ⟨rfl, w51_1_0⟩
          · refine r_if_eq S 1 rfl dX12_neighbour_54 (tgt := 66) (by decide) (fun c => absurd c (by decide)) (fun _ => ?_)
            refine lv_bipush (v := 12) S.1 S.2.1 dX12_neighbour_57 (by decide) ?_
            refine lv_iload_n S.1 S.2.1 dX12_neighbour_59 rfl (lv_at hl 0 rfl) ?_
            refine r_imul S dX12_neighbour_60 (v := (nI (12 * (((n) / 12) + 1)))) (pk_mul (12) ((((n) / 12) + 1))) ?_
            refine lv_iload_n S.1 S.2.1 dX12_neighbour_61 rfl (lv_at hl 1 rfl) ?_
            refine r_iadd S dX12_neighbour_62 (v := (nI ((12 * (((n) / 12) + 1)) + (((n) % 12) + 0)))) (nI_add ((12 * (((n) / 12) + 1))) ((((n) % 12) + 0))) ?_
            obtain ⟨nj, hnj, qnj, znj⟩ := i_nat (x := (nI ((12 * (((n) / 12) + 1)) + (((n) % 12) + 0)))) (Z := (((12 * (((n) / 12) + 1)) + (((n) % 12) + 0) : Nat) : Int)) 96 (nI_toInt (by omega)) (by omega) (by omega)
            refine lv_goto (tgt := 67) S.1 S.2.1 dX12_neighbour_63 (by decide) ?_
            exact ri_ret S hr hlk rfl (Or.inr (⟨nj, qnj, (by omega), (by omega)⟩)) dX12_neighbour_67
          · refine r_if_eq S 0 rfl dX12_neighbour_54 (tgt := 66) (by decide) (fun _ => ?_) (fun c => absurd c (by decide))
            refine lv_iconst (v := (-1)) S.1 S.2.1 dX12_neighbour_66 (by decide) ?_
            exact ri_ret S hr hlk rfl (Or.inl ⟨rfl, (by omega)⟩) dX12_neighbour_67
      · refine lv_iconst (v := (-1)) S.1 S.2.1 dX12_neighbour_33 (by decide) ?_
        refine lv_goto (tgt := 47) S.1 S.2.1 dX12_neighbour_34 (by decide) ?_
        refine r_iadd S dX12_neighbour_47 (v := ((nI ((n) / 12)) + (-1))) rfl ?_
        refine lv_istore_n (lv' := [(3, .int ((nI ((n) / 12)) + (-1))), (2, .int (nI (((n) % 12) + 0))), (0, .int (nI (n))), (1, .int p1)]) S.1 S.2.1 dX12_neighbour_48 rfl hl (by decide) rfl (fun ls hl => ?_)
        refine lv_iload_n S.1 S.2.1 dX12_neighbour_49 rfl (lv_at hl 1 rfl) ?_
        refine lv_iload_n S.1 S.2.1 dX12_neighbour_50 rfl (lv_at hl 0 rfl) ?_
        refine call_ri (runS_R (wc := []) (As := [.int (nI (((n) % 12) + 0)), .int ((nI ((n) / 12)) + (-1))]) (rest := []) S (kX12_isCell l D cy (nI (((n) % 12) + 0)) ((nI ((n) / 12)) + (-1)) ((((n) % 12) + 0 : Nat) : Int) (nI_toInt (by omega)) ((((n) / 12 : Nat) : Int) + (-1)) (zadd (x := (nI ((n) / 12))) (y := (-1)) (X := (((n) / 12 : Nat) : Int)) (Y := (-1)) (nI_toInt (by omega)) rfl (by omega) (by omega))) hK hP [] rfl kw_1903 kw_1904 kw_152 kw_1905 okX12_isCell rfl (by decide) hl.1 rfl (Nat.le_of_ble_eq_true rfl) dX12_neighbour_51 (by decide)) (fun v51 w51 => ?_)
        rcases w51 with ⟨rfl, w51_0_0⟩ | ⟨rfl, w51_1_0⟩
        · refine r_if_eq S 1 rfl dX12_neighbour_54 (tgt := 66) (by decide) (fun c => absurd c (by decide)) (fun _ => ?_)
          refine lv_bipush (v := 12) S.1 S.2.1 dX12_neighbour_57 (by decide) ?_
          refine lv_iload_n S.1 S.2.1 dX12_neighbour_59 rfl (lv_at hl 0 rfl) ?_
          refine r_imul S dX12_neighbour_60 (v := (12 * ((nI ((n) / 12)) + (-1)))) rfl ?_
          refine lv_iload_n S.1 S.2.1 dX12_neighbour_61 rfl (lv_at hl 1 rfl) ?_
          refine r_iadd S dX12_neighbour_62 (v := ((12 * ((nI ((n) / 12)) + (-1))) + (nI (((n) % 12) + 0)))) rfl ?_
          obtain ⟨nj, hnj, qnj, znj⟩ := i_nat (x := ((12 * ((nI ((n) / 12)) + (-1))) + (nI (((n) % 12) + 0)))) (Z := ((12 * ((((n) / 12 : Nat) : Int) + (-1))) + ((((n) % 12) + 0 : Nat) : Int))) 96 (zadd (x := (12 * ((nI ((n) / 12)) + (-1)))) (y := (nI (((n) % 12) + 0))) (X := (12 * ((((n) / 12 : Nat) : Int) + (-1)))) (Y := ((((n) % 12) + 0 : Nat) : Int)) (zmul (x := 12) (y := ((nI ((n) / 12)) + (-1))) (X := 12) (Y := ((((n) / 12 : Nat) : Int) + (-1))) rfl (zadd (x := (nI ((n) / 12))) (y := (-1)) (X := (((n) / 12 : Nat) : Int)) (Y := (-1)) (nI_toInt (by omega)) rfl (by omega) (by omega)) (by omega) (by omega)) (nI_toInt (by omega)) (by omega) (by omega)) (by omega) (by omega)
          refine lv_goto (tgt := 67) S.1 S.2.1 dX12_neighbour_63 (by decide) ?_
          exact ri_ret S hr hlk rfl (Or.inr (⟨nj, qnj, (by omega), (by omega)⟩)) dX12_neighbour_67
        · refine r_if_eq S 0 rfl dX12_neighbour_54 (tgt := 66) (by decide) (fun _ => ?_) (fun c => absurd c (by decide))
          refine lv_iconst (v := (-1)) S.1 S.2.1 dX12_neighbour_66 (by decide) ?_
          exact ri_ret S hr hlk rfl (Or.inl ⟨rfl, (by omega)⟩) dX12_neighbour_67
    · refine lv_iconst (v := 1) S.1 S.2.1 dX12_neighbour_17 (by decide) ?_
      refine lv_goto (tgt := 22) S.1 S.2.1 dX12_neighbour_18 (by decide) ?_
      refine r_iadd S dX12_neighbour_22 (v := (nI (((n) % 12) + 1))) (nI_add (((n) % 12)) (1)) ?_
      refine lv_istore_n (lv' := [(2, .int (nI (((n) % 12) + 1))), (0, .int (nI (n))), (1, .int p1)]) S.1 S.2.1 dX12_neighbour_23 rfl hl (by decide) rfl (fun ls hl => ?_)
      refine lv_iload_n S.1 S.2.1 dX12_neighbour_24 rfl (lv_at hl 1 rfl) ?_
      refine lv_bipush (v := 12) S.1 S.2.1 dX12_neighbour_25 (by decide) ?_
      refine r_idiv S dX12_neighbour_27 (by decide) (v := (nI ((n) / 12))) (pk_div (a := (n)) (d := 12) (by omega) (by omega) (by omega)) ?_
      refine lv_iload_n S.1 S.2.1 dX12_neighbour_28 rfl (lv_at hl 2 rfl) ?_
      refine lv_iconst (v := 2) S.1 S.2.1 dX12_neighbour_29 (by decide) ?_
      refine r_icmp_ne S z1 2 h1 rfl dX12_neighbour_30 (tgt := 37) (by decide) (fun e_30_3 => ?_) (fun e_30_3 => ?_)
      · refine lv_iload_n S.1 S.2.1 dX12_neighbour_37 rfl (lv_at hl 2 rfl) ?_
        refine lv_iconst (v := 3) S.1 S.2.1 dX12_neighbour_38 (by decide) ?_
        refine r_icmp_ne S z1 3 h1 rfl dX12_neighbour_39 (tgt := 46) (by decide) (fun e_39_4 => ?_) (fun e_39_4 => ?_)
        · refine lv_iconst (v := 0) S.1 S.2.1 dX12_neighbour_46 (by decide) ?_
          refine r_iadd S dX12_neighbour_47 (v := (nI (((n) / 12) + 0))) (nI_add (((n) / 12)) (0)) ?_
          refine lv_istore_n (lv' := [(3, .int (nI (((n) / 12) + 0))), (2, .int (nI (((n) % 12) + 1))), (0, .int (nI (n))), (1, .int p1)]) S.1 S.2.1 dX12_neighbour_48 rfl hl (by decide) rfl (fun ls hl => ?_)
          refine lv_iload_n S.1 S.2.1 dX12_neighbour_49 rfl (lv_at hl 1 rfl) ?_
          refine lv_iload_n S.1 S.2.1 dX12_neighbour_50 rfl (lv_at hl 0 rfl) ?_
          refine call_ri (runS_R (wc := []) (As := [.int (nI (((n) % 12) + 1)), .int (nI (((n) / 12) + 0))]) (rest := []) S (kX12_isCell l D cy (nI (((n) % 12) + 1)) (nI (((n) / 12) + 0)) ((((n) % 12) + 1 : Nat) : Int) (nI_toInt (by omega)) ((((n) / 12) + 0 : Nat) : Int) (nI_toInt (by omega))) hK hP [] rfl kw_1903 kw_1904 kw_152 kw_1905 okX12_isCell rfl (by decide) hl.1 rfl (Nat.le_of_ble_eq_true rfl) dX12_neighbour_51 (by decide)) (fun v51 w51 => ?_)
          rcases w51 with ⟨rfl, w51_0_0⟩ | ⟨rfl, w51_1_0⟩
          · refine r_if_eq S 1 rfl dX12_neighbour_54 (tgt := 66) (by decide) (fun c => absurd c (by decide)) (fun _ => ?_)
            refine lv_bipush (v := 12) S.1 S.2.1 dX12_neighbour_57 (by decide) ?_
            refine lv_iload_n S.1 S.2.1 dX12_neighbour_59 rfl (lv_at hl 0 rfl) ?_
            refine r_imul S dX12_neighbour_60 (v := (nI (12 * (((n) / 12) + 0)))) (pk_mul (12) ((((n) / 12) + 0))) ?_
            refine lv_iload_n S.1 S.2.1 dX12_neighbour_61 rfl (lv_at hl 1 rfl) ?_
            refine r_iadd S dX12_neighbour_62 (v := (nI ((12 * (((n) / 12) + 0)) + (((n) % 12) + 1)))) (nI_add ((12 * (((n) / 12) + 0))) ((((n) % 12) + 1))) ?_
            obtain ⟨nj, hnj, qnj, znj⟩ := i_nat (x := (nI ((12 * (((n) / 12) + 0)) + (((n) % 12) + 1)))) (Z := (((12 * (((n) / 12) + 0)) + (((n) % 12) + 1) : Nat) : Int)) 96 (nI_toInt (by omega)) (by omega) (by omega)
            refine lv_goto (tgt := 67) S.1 S.2.1 dX12_neighbour_63 (by decide) ?_
            exact ri_ret S hr hlk rfl (Or.inr (⟨nj, qnj, (by omega), (by omega)⟩)) dX12_neighbour_67
          · refine r_if_eq S 0 rfl dX12_neighbour_54 (tgt := 66) (by decide) (fun _ => ?_) (fun c => absurd c (by decide))
            refine lv_iconst (v := (-1)) S.1 S.2.1 dX12_neighbour_66 (by decide) ?_
            exact ri_ret S hr hlk rfl (Or.inl ⟨rfl, (by omega)⟩) dX12_neighbour_67
        · refine lv_iconst (v := 1) S.1 S.2.1 dX12_neighbour_42 (by decide) ?_
          refine lv_goto (tgt := 47) S.1 S.2.1 dX12_neighbour_43 (by decide) ?_
          refine r_iadd S dX12_neighbour_47 (v := (nI (((n) / 12) + 1))) (nI_add (((n) / 12)) (1)) ?_
          refine lv_istore_n (lv' := [(3, .int (nI (((n) / 12) + 1))), (2, .int (nI (((n) % 12) + 1))), (0, .int (nI (n))), (1, .int p1)]) S.1 S.2.1 dX12_neighbour_48 rfl hl (by decide) rfl (fun ls hl => ?_)
          refine lv_iload_n S.1 S.2.1 dX12_neighbour_49 rfl (lv_at hl 1 rfl) ?_
          refine lv_iload_n S.1 S.2.1 dX12_neighbour_50 rfl (lv_at hl 0 rfl) ?_
          refine call_ri (runS_R (wc := []) (As := [.int (nI (((n) % 12) + 1)), .int (nI (((n) / 12) + 1))]) (rest := []) S (kX12_isCell l D cy (nI (((n) % 12) + 1)) (nI (((n) / 12) + 1)) ((((n) % 12) + 1 : Nat) : Int) (nI_toInt (by omega)) ((((n) / 12) + 1 : Nat) : Int) (nI_toInt (by omega))) hK hP [] rfl kw_1903 kw_1904 kw_152 kw_1905 okX12_isCell rfl (by decide) hl.1 rfl (Nat.le_of_ble_eq_true rfl) dX12_neighbour_51 (by decide)) (fun v51 w51 => ?_)
          rcases w51 with ⟨rfl, w51_0_0⟩ | ⟨rfl, w51_1_0⟩
          · refine r_if_eq S 1 rfl dX12_neighbour_54 (tgt := 66) (by decide) (fun c => absurd c (by decide)) (fun _ => ?_)
            refine lv_bipush (v := 12) S.1 S.2.1 dX12_neighbour_57 (by decide) ?_
            refine lv_iload_n S.1 S.2.1 dX12_neighbour_59 rfl (lv_at hl 0 rfl) ?_
            refine r_imul S dX12_neighbour_60 (v := (nI (12 * (((n) / 12) + 1)))) (pk_mul (12) ((((n) / 12) + 1))) ?_
            refine lv_iload_n S.1 S.2.1 dX12_neighbour_61 rfl (lv_at hl 1 rfl) ?_
            refine r_iadd S dX12_neighbour_62 (v := (nI ((12 * (((n) / 12) + 1)) + (((n) % 12) + 1)))) (nI_add ((12 * (((n) / 12) + 1))) ((((n) % 12) + 1))) ?_
            obtain ⟨nj, hnj, qnj, znj⟩ := i_nat (x := (nI ((12 * (((n) / 12) + 1)) + (((n) % 12) + 1)))) (Z := (((12 * (((n) / 12) + 1)) + (((n) % 12) + 1) : Nat) : Int)) 96 (nI_toInt (by omega)) (by omega) (by omega)
            refine lv_goto (tgt := 67) S.1 S.2.1 dX12_neighbour_63 (by decide) ?_
            exact ri_ret S hr hlk rfl (Or.inr (⟨nj, qnj, (by omega), (by omega)⟩)) dX12_neighbour_67
          · refine r_if_eq S 0 rfl dX12_neighbour_54 (tgt := 66) (by decide) (fun _ => ?_) (fun c => absurd c (by decide))
            refine lv_iconst (v := (-1)) S.1 S.2.1 dX12_neighbour_66 (by decide) ?_
            exact ri_ret S hr hlk rfl (Or.inl ⟨rfl, (by omega)⟩) dX12_neighbour_67
      · refine lv_iconst (v := (-1)) S.1 S.2.1 dX12_neighbour_33 (by decide) ?_
        refine lv_goto (tgt := 47) S.1 S.2.1 dX12_neighbour_34 (by decide) ?_
        refine r_iadd S dX12_neighbour_47 (v := ((nI ((n) / 12)) + (-1))) rfl ?_
        refine lv_istore_n (lv' := [(3, .int ((nI ((n) / 12)) + (-1))), (2, .int (nI (((n) % 12) + 1))), (0, .int (nI (n))), (1, .int p1)]) S.1 S.2.1 dX12_neighbour_48 rfl hl (by decide) rfl (fun ls hl => ?_)
        refine lv_iload_n S.1 S.2.1 dX12_neighbour_49 rfl (lv_at hl 1 rfl) ?_
        refine lv_iload_n S.1 S.2.1 dX12_neighbour_50 rfl (lv_at hl 0 rfl) ?_
        refine call_ri (runS_R (wc := []) (As := [.int (nI (((n) % 12) + 1)), .int ((nI ((n) / 12)) + (-1))]) (rest := []) S (kX12_isCell l D cy (nI (((n) % 12) + 1)) ((nI ((n) / 12)) + (-1)) ((((n) % 12) + 1 : Nat) : Int) (nI_toInt (by omega)) ((((n) / 12 : Nat) : Int) + (-1)) (zadd (x := (nI ((n) / 12))) (y := (-1)) (X := (((n) / 12 : Nat) : Int)) (Y := (-1)) (nI_toInt (by omega)) rfl (by omega) (by omega))) hK hP [] rfl kw_1903 kw_1904 kw_152 kw_1905 okX12_isCell rfl (by decide) hl.1 rfl (Nat.le_of_ble_eq_true rfl) dX12_neighbour_51 (by decide)) (fun v51 w51 => ?_)
        rcases w51 with ⟨rfl, w51_0_0⟩ | ⟨rfl, w51_1_0⟩
        · refine r_if_eq S 1 rfl dX12_neighbour_54 (tgt := 66) (by decide) (fun c => absurd c (by decide)) (fun _ => ?_)
          refine lv_bipush (v := 12) S.1 S.2.1 dX12_neighbour_57 (by decide) ?_
          refine lv_iload_n S.1 S.2.1 dX12_neighbour_59 rfl (lv_at hl 0 rfl) ?_
          refine r_imul S dX12_neighbour_60 (v := (12 * ((nI ((n) / 12)) + (-1)))) rfl ?_
          refine lv_iload_n S.1 S.2.1 dX12_neighbour_61 rfl (lv_at hl 1 rfl) ?_
          refine r_iadd S dX12_neighbour_62 (v := ((12 * ((nI ((n) / 12)) + (-1))) + (nI (((n) % 12) + 1)))) rfl ?_
          obtain ⟨nj, hnj, qnj, znj⟩ := i_nat (x := ((12 * ((nI ((n) / 12)) + (-1))) + (nI (((n) % 12) + 1)))) (Z := ((12 * ((((n) / 12 : Nat) : Int) + (-1))) + ((((n) % 12) + 1 : Nat) : Int))) 96 (zadd (x := (12 * ((nI ((n) / 12)) + (-1)))) (y := (nI (((n) % 12) + 1))) (X := (12 * ((((n) / 12 : Nat) : Int) + (-1)))) (Y := ((((n) % 12) + 1 : Nat) : Int)) (zmul (x := 12) (y := ((nI ((n) / 12)) + (-1))) (X := 12) (Y := ((((n) / 12 : Nat) : Int) + (-1))) rfl (zadd (x := (nI ((n) / 12))) (y := (-1)) (X := (((n) / 12 : Nat) : Int)) (Y := (-1)) (nI_toInt (by omega)) rfl (by omega) (by omega)) (by omega) (by omega)) (nI_toInt (by omega)) (by omega) (by omega)) (by omega) (by omega)
          refine lv_goto (tgt := 67) S.1 S.2.1 dX12_neighbour_63 (by decide) ?_
          exact ri_ret S hr hlk rfl (Or.inr (⟨nj, qnj, (by omega), (by omega)⟩)) dX12_neighbour_67
        · refine r_if_eq S 0 rfl dX12_neighbour_54 (tgt := 66) (by decide) (fun _ => ?_) (fun c => absurd c (by decide))
          refine lv_iconst (v := (-1)) S.1 S.2.1 dX12_neighbour_66 (by decide) ?_
          exact ri_ret S hr hlk rfl (Or.inl ⟨rfl, (by omega)⟩) dX12_neighbour_67
  · refine lv_iconst (v := (-1)) S.1 S.2.1 dX12_neighbour_8 (by decide) ?_
    refine lv_goto (tgt := 22) S.1 S.2.1 dX12_neighbour_9 (by decide) ?_
    refine r_iadd S dX12_neighbour_22 (v := ((nI ((n) % 12)) + (-1))) rfl ?_
    refine lv_istore_n (lv' := [(2, .int ((nI ((n) % 12)) + (-1))), (0, .int (nI (n))), (1, .int p1)]) S.1 S.2.1 dX12_neighbour_23 rfl hl (by decide) rfl (fun ls hl => ?_)
    refine lv_iload_n S.1 S.2.1 dX12_neighbour_24 rfl (lv_at hl 1 rfl) ?_
    refine lv_bipush (v := 12) S.1 S.2.1 dX12_neighbour_25 (by decide) ?_
    refine r_idiv S dX12_neighbour_27 (by decide) (v := (nI ((n) / 12))) (pk_div (a := (n)) (d := 12) (by omega) (by omega) (by omega)) ?_
    refine lv_iload_n S.1 S.2.1 dX12_neighbour_28 rfl (lv_at hl 2 rfl) ?_
    refine lv_iconst (v := 2) S.1 S.2.1 dX12_neighbour_29 (by decide) ?_
    refine r_icmp_ne S z1 2 h1 rfl dX12_neighbour_30 (tgt := 37) (by decide) (fun e_30_2 => ?_) (fun e_30_2 => ?_)
    · refine lv_iload_n S.1 S.2.1 dX12_neighbour_37 rfl (lv_at hl 2 rfl) ?_
      refine lv_iconst (v := 3) S.1 S.2.1 dX12_neighbour_38 (by decide) ?_
      refine r_icmp_ne S z1 3 h1 rfl dX12_neighbour_39 (tgt := 46) (by decide) (fun e_39_3 => ?_) (fun e_39_3 => ?_)
      · refine lv_iconst (v := 0) S.1 S.2.1 dX12_neighbour_46 (by decide) ?_
        refine r_iadd S dX12_neighbour_47 (v := (nI (((n) / 12) + 0))) (nI_add (((n) / 12)) (0)) ?_
        refine lv_istore_n (lv' := [(3, .int (nI (((n) / 12) + 0))), (2, .int ((nI ((n) % 12)) + (-1))), (0, .int (nI (n))), (1, .int p1)]) S.1 S.2.1 dX12_neighbour_48 rfl hl (by decide) rfl (fun ls hl => ?_)
        refine lv_iload_n S.1 S.2.1 dX12_neighbour_49 rfl (lv_at hl 1 rfl) ?_
        refine lv_iload_n S.1 S.2.1 dX12_neighbour_50 rfl (lv_at hl 0 rfl) ?_
        refine call_ri (runS_R (wc := []) (As := [.int ((nI ((n) % 12)) + (-1)), .int (nI (((n) / 12) + 0))]) (rest := []) S (kX12_isCell l D cy ((nI ((n) % 12)) + (-1)) (nI (((n) / 12) + 0)) ((((n) % 12 : Nat) : Int) + (-1)) (zadd (x := (nI ((n) % 12))) (y := (-1)) (X := (((n) % 12 : Nat) : Int)) (Y := (-1)) (nI_toInt (by omega)) rfl (by omega) (by omega)) ((((n) / 12) + 0 : Nat) : Int) (nI_toInt (by omega))) hK hP [] rfl kw_1903 kw_1904 kw_152 kw_1905 okX12_isCell rfl (by decide) hl.1 rfl (Nat.le_of_ble_eq_true rfl) dX12_neighbour_51 (by decide)) (fun v51 w51 => ?_)
        rcases w51 with ⟨rfl, w51_0_0⟩ | ⟨rfl, w51_1_0⟩
        · refine r_if_eq S 1 rfl dX12_neighbour_54 (tgt := 66) (by decide) (fun c => absurd c (by decide)) (fun _ => ?_)
          refine lv_bipush (v := 12) S.1 S.2.1 dX12_neighbour_57 (by decide) ?_
          refine lv_iload_n S.1 S.2.1 dX12_neighbour_59 rfl (lv_at hl 0 rfl) ?_
          refine r_imul S dX12_neighbour_60 (v := (nI (12 * (((n) / 12) + 0)))) (pk_mul (12) ((((n) / 12) + 0))) ?_
          refine lv_iload_n S.1 S.2.1 dX12_neighbour_61 rfl (lv_at hl 1 rfl) ?_
          refine r_iadd S dX12_neighbour_62 (v := ((nI (12 * (((n) / 12) + 0))) + ((nI ((n) % 12)) + (-1)))) rfl ?_
          obtain ⟨nj, hnj, qnj, znj⟩ := i_nat (x := ((nI (12 * (((n) / 12) + 0))) + ((nI ((n) % 12)) + (-1)))) (Z := (((12 * (((n) / 12) + 0) : Nat) : Int) + ((((n) % 12 : Nat) : Int) + (-1)))) 96 (zadd (x := (nI (12 * (((n) / 12) + 0)))) (y := ((nI ((n) % 12)) + (-1))) (X := ((12 * (((n) / 12) + 0) : Nat) : Int)) (Y := ((((n) % 12 : Nat) : Int) + (-1))) (nI_toInt (by omega)) (zadd (x := (nI ((n) % 12))) (y := (-1)) (X := (((n) % 12 : Nat) : Int)) (Y := (-1)) (nI_toInt (by omega)) rfl (by omega) (by omega)) (by omega) (by omega)) (by omega) (by omega)
          refine lv_goto (tgt := 67) S.1 S.2.1 dX12_neighbour_63 (by decide) ?_
          exact ri_ret S hr hlk rfl (Or.inr (⟨nj, qnj, (by omega), (by omega)⟩)) dX12_neighbour_67
        · refine r_if_eq S 0 rfl dX12_neighbour_54 (tgt := 66) (by decide) (fun _ => ?_) (fun c => absurd c (by decide))
          refine lv_iconst (v := (-1)) S.1 S.2.1 dX12_neighbour_66 (by decide) ?_
          exact ri_ret S hr hlk rfl (Or.inl ⟨rfl, (by omega)⟩) dX12_neighbour_67
      · refine lv_iconst (v := 1) S.1 S.2.1 dX12_neighbour_42 (by decide) ?_
        refine lv_goto (tgt := 47) S.1 S.2.1 dX12_neighbour_43 (by decide) ?_
        refine r_iadd S dX12_neighbour_47 (v := (nI (((n) / 12) + 1))) (nI_add (((n) / 12)) (1)) ?_
        refine lv_istore_n (lv' := [(3, .int (nI (((n) / 12) + 1))), (2, .int ((nI ((n) % 12)) + (-1))), (0, .int (nI (n))), (1, .int p1)]) S.1 S.2.1 dX12_neighbour_48 rfl hl (by decide) rfl (fun ls hl => ?_)
        refine lv_iload_n S.1 S.2.1 dX12_neighbour_49 rfl (lv_at hl 1 rfl) ?_
        refine lv_iload_n S.1 S.2.1 dX12_neighbour_50 rfl (lv_at hl 0 rfl) ?_
        refine call_ri (runS_R (wc := []) (As := [.int ((nI ((n) % 12)) + (-1)), .int (nI (((n) / 12) + 1))]) (rest := []) S (kX12_isCell l D cy ((nI ((n) % 12)) + (-1)) (nI (((n) / 12) + 1)) ((((n) % 12 : Nat) : Int) + (-1)) (zadd (x := (nI ((n) % 12))) (y := (-1)) (X := (((n) % 12 : Nat) : Int)) (Y := (-1)) (nI_toInt (by omega)) rfl (by omega) (by omega)) ((((n) / 12) + 1 : Nat) : Int) (nI_toInt (by omega))) hK hP [] rfl kw_1903 kw_1904 kw_152 kw_1905 okX12_isCell rfl (by decide) hl.1 rfl (Nat.le_of_ble_eq_true rfl) dX12_neighbour_51 (by decide)) (fun v51 w51 => ?_)
        rcases w51 with ⟨rfl, w51_0_0⟩ | ⟨rfl, w51_1_0⟩
        · refine r_if_eq S 1 rfl dX12_neighbour_54 (tgt := 66) (by decide) (fun c => absurd c (by decide)) (fun _ => ?_)
          refine lv_bipush (v := 12) S.1 S.2.1 dX12_neighbour_57 (by decide) ?_
          refine lv_iload_n S.1 S.2.1 dX12_neighbour_59 rfl (lv_at hl 0 rfl) ?_
          refine r_imul S dX12_neighbour_60 (v := (nI (12 * (((n) / 12) + 1)))) (pk_mul (12) ((((n) / 12) + 1))) ?_
          refine lv_iload_n S.1 S.2.1 dX12_neighbour_61 rfl (lv_at hl 1 rfl) ?_
          refine r_iadd S dX12_neighbour_62 (v := ((nI (12 * (((n) / 12) + 1))) + ((nI ((n) % 12)) + (-1)))) rfl ?_
          obtain ⟨nj, hnj, qnj, znj⟩ := i_nat (x := ((nI (12 * (((n) / 12) + 1))) + ((nI ((n) % 12)) + (-1)))) (Z := (((12 * (((n) / 12) + 1) : Nat) : Int) + ((((n) % 12 : Nat) : Int) + (-1)))) 96 (zadd (x := (nI (12 * (((n) / 12) + 1)))) (y := ((nI ((n) % 12)) + (-1))) (X := ((12 * (((n) / 12) + 1) : Nat) : Int)) (Y := ((((n) % 12 : Nat) : Int) + (-1))) (nI_toInt (by omega)) (zadd (x := (nI ((n) % 12))) (y := (-1)) (X := (((n) % 12 : Nat) : Int)) (Y := (-1)) (nI_toInt (by omega)) rfl (by omega) (by omega)) (by omega) (by omega)) (by omega) (by omega)
          refine lv_goto (tgt := 67) S.1 S.2.1 dX12_neighbour_63 (by decide) ?_
          exact ri_ret S hr hlk rfl (Or.inr (⟨nj, qnj, (by omega), (by omega)⟩)) dX12_neighbour_67
        · refine r_if_eq S 0 rfl dX12_neighbour_54 (tgt := 66) (by decide) (fun _ => ?_) (fun c => absurd c (by decide))
          refine lv_iconst (v := (-1)) S.1 S.2.1 dX12_neighbour_66 (by decide) ?_
          exact ri_ret S hr hlk rfl (Or.inl ⟨rfl, (by omega)⟩) dX12_neighbour_67
    · refine lv_iconst (v := (-1)) S.1 S.2.1 dX12_neighbour_33 (by decide) ?_
      refine lv_goto (tgt := 47) S.1 S.2.1 dX12_neighbour_34 (by decide) ?_
      refine r_iadd S dX12_neighbour_47 (v := ((nI ((n) / 12)) + (-1))) rfl ?_
      refine lv_istore_n (lv' := [(3, .int ((nI ((n) / 12)) + (-1))), (2, .int ((nI ((n) % 12)) + (-1))), (0, .int (nI (n))), (1, .int p1)]) S.1 S.2.1 dX12_neighbour_48 rfl hl (by decide) rfl (fun ls hl => ?_)
      refine lv_iload_n S.1 S.2.1 dX12_neighbour_49 rfl (lv_at hl 1 rfl) ?_
      refine lv_iload_n S.1 S.2.1 dX12_neighbour_50 rfl (lv_at hl 0 rfl) ?_
      refine call_ri (runS_R (wc := []) (As := [.int ((nI ((n) % 12)) + (-1)), .int ((nI ((n) / 12)) + (-1))]) (rest := []) S (kX12_isCell l D cy ((nI ((n) % 12)) + (-1)) ((nI ((n) / 12)) + (-1)) ((((n) % 12 : Nat) : Int) + (-1)) (zadd (x := (nI ((n) % 12))) (y := (-1)) (X := (((n) % 12 : Nat) : Int)) (Y := (-1)) (nI_toInt (by omega)) rfl (by omega) (by omega)) ((((n) / 12 : Nat) : Int) + (-1)) (zadd (x := (nI ((n) / 12))) (y := (-1)) (X := (((n) / 12 : Nat) : Int)) (Y := (-1)) (nI_toInt (by omega)) rfl (by omega) (by omega))) hK hP [] rfl kw_1903 kw_1904 kw_152 kw_1905 okX12_isCell rfl (by decide) hl.1 rfl (Nat.le_of_ble_eq_true rfl) dX12_neighbour_51 (by decide)) (fun v51 w51 => ?_)
      rcases w51 with ⟨rfl, w51_0_0⟩ | ⟨rfl, w51_1_0⟩
      · refine r_if_eq S 1 rfl dX12_neighbour_54 (tgt := 66) (by decide) (fun c => absurd c (by decide)) (fun _ => ?_)
        refine lv_bipush (v := 12) S.1 S.2.1 dX12_neighbour_57 (by decide) ?_
        refine lv_iload_n S.1 S.2.1 dX12_neighbour_59 rfl (lv_at hl 0 rfl) ?_
        refine r_imul S dX12_neighbour_60 (v := (12 * ((nI ((n) / 12)) + (-1)))) rfl ?_
        refine lv_iload_n S.1 S.2.1 dX12_neighbour_61 rfl (lv_at hl 1 rfl) ?_
        refine r_iadd S dX12_neighbour_62 (v := ((12 * ((nI ((n) / 12)) + (-1))) + ((nI ((n) % 12)) + (-1)))) rfl ?_
        obtain ⟨nj, hnj, qnj, znj⟩ := i_nat (x := ((12 * ((nI ((n) / 12)) + (-1))) + ((nI ((n) % 12)) + (-1)))) (Z := ((12 * ((((n) / 12 : Nat) : Int) + (-1))) + ((((n) % 12 : Nat) : Int) + (-1)))) 96 (zadd (x := (12 * ((nI ((n) / 12)) + (-1)))) (y := ((nI ((n) % 12)) + (-1))) (X := (12 * ((((n) / 12 : Nat) : Int) + (-1)))) (Y := ((((n) % 12 : Nat) : Int) + (-1))) (zmul (x := 12) (y := ((nI ((n) / 12)) + (-1))) (X := 12) (Y := ((((n) / 12 : Nat) : Int) + (-1))) rfl (zadd (x := (nI ((n) / 12))) (y := (-1)) (X := (((n) / 12 : Nat) : Int)) (Y := (-1)) (nI_toInt (by omega)) rfl (by omega) (by omega)) (by omega) (by omega)) (zadd (x := (nI ((n) % 12))) (y := (-1)) (X := (((n) % 12 : Nat) : Int)) (Y := (-1)) (nI_toInt (by omega)) rfl (by omega) (by omega)) (by omega) (by omega)) (by omega) (by omega)
        refine lv_goto (tgt := 67) S.1 S.2.1 dX12_neighbour_63 (by decide) ?_
        exact ri_ret S hr hlk rfl (Or.inr (⟨nj, qnj, (by omega), (by omega)⟩)) dX12_neighbour_67
      · refine r_if_eq S 0 rfl dX12_neighbour_54 (tgt := 66) (by decide) (fun _ => ?_) (fun c => absurd c (by decide))
        refine lv_iconst (v := (-1)) S.1 S.2.1 dX12_neighbour_66 (by decide) ?_
        exact ri_ret S hr hlk rfl (Or.inl ⟨rfl, (by omega)⟩) dX12_neighbour_67
