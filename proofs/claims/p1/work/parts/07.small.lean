abbrev cX11_cellAt : ByteArray := prog_1_method_38_code
def yX11_cellAt : MethodName := ⟨RX11, "cellAt", "(II)I"⟩
theorem okX11_cellAt : yok yX11_cellAt 2 := by decide +kernel
abbrev cX11_isSight : ByteArray := prog_1_method_40_code
def yX11_isSight : MethodName := ⟨RX11, "isSight", "(I)Z"⟩
theorem okX11_isSight : yok yX11_isSight 1 := by decide +kernel
abbrev cX12_within : ByteArray := prog_14_method_36_code
def yX12_within : MethodName := ⟨RX12, "within", "(III)Z"⟩
theorem okX12_within : yok yX12_within 3 := by decide +kernel
abbrev cX12_isCell : ByteArray := prog_14_method_37_code
def yX12_isCell : MethodName := ⟨RX12, "isCell", "(II)Z"⟩
theorem okX12_isCell : yok yX12_isCell 2 := by decide +kernel
abbrev cX11_isSheet : ByteArray := prog_1_method_41_code
def yX11_isSheet : MethodName := ⟨RX11, "isSheet", "(I)Z"⟩
theorem okX11_isSheet : yok yX11_isSheet 1 := by decide +kernel
abbrev cX11_isHand : ByteArray := prog_1_method_44_code
def yX11_isHand : MethodName := ⟨RX11, "isHand", "(I)Z"⟩
theorem okX11_isHand : yok yX11_isHand 1 := by decide +kernel
abbrev cX12_isSight : ByteArray := prog_14_method_45_code
def yX12_isSight : MethodName := ⟨RX12, "isSight", "(I)Z"⟩
theorem okX12_isSight : yok yX12_isSight 1 := by decide +kernel
abbrev cX11_days : ByteArray := prog_1_method_2_code
def yX11_days : MethodName := ⟨RX11, "days", "(I)I"⟩
theorem okX11_days : yok yX11_days 1 := by decide +kernel
abbrev cX12_days : ByteArray := prog_14_method_38_code
def yX12_days : MethodName := ⟨RX12, "days", "(I)I"⟩
theorem okX12_days : yok yX12_days 1 := by decide +kernel
abbrev cX11_view : ByteArray := prog_1_method_3_code
def yX11_view : MethodName := ⟨RX11, "view", "(I)Z"⟩
theorem okX11_view : yok yX11_view 1 := by decide +kernel
abbrev cX12_view : ByteArray := prog_14_method_39_code
def yX12_view : MethodName := ⟨RX12, "view", "(I)Z"⟩
theorem okX12_view : yok yX12_view 1 := by decide +kernel
abbrev cX11_fold : ByteArray := prog_1_method_5_code
def yX11_fold : MethodName := ⟨RX11, "fold", "(IIZ)Z"⟩
theorem okX11_fold : yok yX11_fold 3 := by decide +kernel
abbrev cX12_fold : ByteArray := prog_14_method_42_code
def yX12_fold : MethodName := ⟨RX12, "fold", "(IIZ)Z"⟩
theorem okX12_fold : yok yX12_fold 3 := by decide +kernel
abbrev cX11_own : ByteArray := prog_1_method_6_code
def yX11_own : MethodName := ⟨RX11, "own", "(III)Z"⟩
theorem okX11_own : yok yX11_own 3 := by decide +kernel
abbrev cX12_own : ByteArray := prog_14_method_43_code
def yX12_own : MethodName := ⟨RX12, "own", "(III)Z"⟩
theorem okX12_own : yok yX12_own 3 := by decide +kernel
abbrev cX11_rivalry : ByteArray := prog_1_method_14_code
def yX11_rivalry : MethodName := ⟨RX11, "rivalry", "(I)Z"⟩
theorem okX11_rivalry : yok yX11_rivalry 1 := by decide +kernel
abbrev cX12_rivalry : ByteArray := prog_14_method_84_code
def yX12_rivalry : MethodName := ⟨RX12, "rivalry", "(I)Z"⟩
theorem okX12_rivalry : yok yX12_rivalry 1 := by decide +kernel
abbrev cX11_dip : ByteArray := prog_1_method_8_code
def yX11_dip : MethodName := ⟨RX11, "dip", "(IIII)Z"⟩
theorem okX11_dip : yok yX11_dip 4 := by decide +kernel
abbrev cX12_dip : ByteArray := prog_14_method_46_code
def yX12_dip : MethodName := ⟨RX12, "dip", "(IIII)Z"⟩
theorem okX12_dip : yok yX12_dip 4 := by decide +kernel
abbrev cX11_remain : ByteArray := prog_1_method_9_code
def yX11_remain : MethodName := ⟨RX11, "remain", "(IIZ)Z"⟩
theorem okX11_remain : yok yX11_remain 3 := by decide +kernel
abbrev cX12_remain : ByteArray := prog_14_method_47_code
def yX12_remain : MethodName := ⟨RX12, "remain", "(IIZ)Z"⟩
theorem okX12_remain : yok yX12_remain 3 := by decide +kernel
abbrev cX11_withdraw : ByteArray := prog_1_method_10_code
def yX11_withdraw : MethodName := ⟨RX11, "withdraw", "(I)Z"⟩
theorem okX11_withdraw : yok yX11_withdraw 1 := by decide +kernel
abbrev cX12_withdraw : ByteArray := prog_14_method_48_code
def yX12_withdraw : MethodName := ⟨RX12, "withdraw", "(I)Z"⟩
theorem okX12_withdraw : yok yX12_withdraw 1 := by decide +kernel
theorem kw_472 : Cond.fieldLink "LandSurvey" 102 "LandSurvey" "sightCount" "I" ∈ uu := uu_in (i := 472) (by decide +kernel) (by decide +kernel)
theorem kw_152 : Cond.initialized "LandSurveyModel" ∈ uu := uu_in (i := 152) (by decide +kernel) (by decide +kernel)
theorem kw_1894 : Cond.code yX12_within prog_14_method_36_code 3 (some .boolean) ∈ uu := uu_in (i := 1894) (by decide +kernel) (by decide +kernel)
theorem kw_1892 : Cond.methodLink "LandSurveyModel" 415 yX12_within ∈ uu := uu_in (i := 1892) (by decide +kernel) (by decide +kernel)
theorem kw_1893 : Cond.static yX12_within ∈ uu := uu_in (i := 1893) (by decide +kernel) (by decide +kernel)
theorem kw_480 : Cond.fieldLink "LandSurvey" 305 "LandSurvey" "sheetCount" "I" ∈ uu := uu_in (i := 480) (by decide +kernel) (by decide +kernel)
theorem kw_1550 : Cond.fieldLink "LandSurveyModel" 423 "LandSurveyModel" "sights" "I" ∈ uu := uu_in (i := 1550) (by decide +kernel) (by decide +kernel)
theorem kw_468 : Cond.fieldLink "LandSurvey" 78 "LandSurvey" "now" "I" ∈ uu := uu_in (i := 468) (by decide +kernel) (by decide +kernel)
theorem kw_1510 : Cond.fieldLink "LandSurveyModel" 1 "LandSurveyModel" "thrown" "I" ∈ uu := uu_in (i := 1510) (by decide +kernel) (by decide +kernel)
theorem kw_1543 : Cond.fieldLink "LandSurveyModel" 342 "LandSurveyModel" "now" "I" ∈ uu := uu_in (i := 1543) (by decide +kernel) (by decide +kernel)
theorem kw_1545 : Cond.fieldLink "LandSurveyModel" 290 "LandSurveyModel" "isChanged" "Z" ∈ uu := uu_in (i := 1545) (by decide +kernel) (by decide +kernel)
theorem kw_469 : Cond.fieldLink "LandSurvey" 9 "LandSurvey" "viewTold" "I" ∈ uu := uu_in (i := 469) (by decide +kernel) (by decide +kernel)
theorem kw_483 : Cond.fieldLink "LandSurvey" 81 "LandSurvey" "settled" "Z" ∈ uu := uu_in (i := 483) (by decide +kernel) (by decide +kernel)
theorem kw_1544 : Cond.fieldLink "LandSurveyModel" 287 "LandSurveyModel" "viewed" "I" ∈ uu := uu_in (i := 1544) (by decide +kernel) (by decide +kernel)
theorem kw_144 : Cond.initialized "LandSurvey" ∈ uu := uu_in (i := 144) (by decide +kernel) (by decide +kernel)
theorem kw_540 : Cond.code yX11_cellAt prog_1_method_38_code 2 (some .int) ∈ uu := uu_in (i := 540) (by decide +kernel) (by decide +kernel)
theorem kw_538 : Cond.methodLink "LandSurvey" 85 yX11_cellAt ∈ uu := uu_in (i := 538) (by decide +kernel) (by decide +kernel)
theorem kw_539 : Cond.static yX11_cellAt ∈ uu := uu_in (i := 539) (by decide +kernel) (by decide +kernel)
theorem kw_470 : Cond.fieldLink "LandSurvey" 16 "LandSurvey" "land" "LLandSurvey$Land;" ∈ uu := uu_in (i := 470) (by decide +kernel) (by decide +kernel)
theorem kw_194 : Cond.fieldLink "LandSurvey" 96 "LandSurvey$Land" "turned" "[Z" ∈ uu := uu_in (i := 194) (by decide +kernel) (by decide +kernel)
theorem kw_1905 : Cond.code yX12_isCell prog_14_method_37_code 2 (some .boolean) ∈ uu := uu_in (i := 1905) (by decide +kernel) (by decide +kernel)
theorem kw_1903 : Cond.methodLink "LandSurveyModel" 419 yX12_isCell ∈ uu := uu_in (i := 1903) (by decide +kernel) (by decide +kernel)
theorem kw_1904 : Cond.static yX12_isCell ∈ uu := uu_in (i := 1904) (by decide +kernel) (by decide +kernel)
theorem kw_1548 : Cond.fieldLink "LandSurveyModel" 167 "LandSurveyModel" "isTurned" "[Z" ∈ uu := uu_in (i := 1548) (by decide +kernel) (by decide +kernel)
theorem kw_196 : Cond.fieldLink "LandSurvey" 99 "LandSurvey$Land" "owner" "[I" ∈ uu := uu_in (i := 196) (by decide +kernel) (by decide +kernel)
theorem kw_1549 : Cond.fieldLink "LandSurveyModel" 170 "LandSurveyModel" "owners" "[I" ∈ uu := uu_in (i := 1549) (by decide +kernel) (by decide +kernel)
theorem kw_478 : Cond.fieldLink "LandSurvey" 163 "LandSurvey" "margin" "I" ∈ uu := uu_in (i := 478) (by decide +kernel) (by decide +kernel)
theorem kw_1589 : Cond.fieldLink "LandSurveyModel" 549 "LandSurveyModel" "rivals" "I" ∈ uu := uu_in (i := 1589) (by decide +kernel) (by decide +kernel)
theorem kw_643 : Cond.code yX11_isSight prog_1_method_40_code 2 (some .boolean) ∈ uu := uu_in (i := 643) (by decide +kernel) (by decide +kernel)
theorem kw_640 : Cond.methodLink "LandSurvey" 108 yX11_isSight ∈ uu := uu_in (i := 640) (by decide +kernel) (by decide +kernel)
theorem kw_642 : Cond.instanceMethod yX11_isSight ∈ uu := uu_in (i := 642) (by decide +kernel) (by decide +kernel)
theorem kw_0 : Cond.selects "LandSurvey" yX11_isSight yX11_isSight ∈ uu := uu_in (i := 0) (by decide +kernel) (by decide +kernel)
theorem kw_1925 : Cond.code yX12_isSight prog_14_method_45_code 2 (some .boolean) ∈ uu := uu_in (i := 1925) (by decide +kernel) (by decide +kernel)
theorem kw_1922 : Cond.methodLink "LandSurveyModel" 426 yX12_isSight ∈ uu := uu_in (i := 1922) (by decide +kernel) (by decide +kernel)
theorem kw_1924 : Cond.instanceMethod yX12_isSight ∈ uu := uu_in (i := 1924) (by decide +kernel) (by decide +kernel)
theorem kw_88 : Cond.selects "LandSurveyModel" yX12_isSight yX12_isSight ∈ uu := uu_in (i := 88) (by decide +kernel) (by decide +kernel)
theorem dX11_cellAt_0 : decode cX11_cellAt 0 = .ok (.iload_n 0, 1) := by decide +kernel
theorem dX11_cellAt_1 : decode cX11_cellAt 1 = .ok (.ifCond .lt 19, 3) := by decide +kernel
theorem dX11_cellAt_20 : decode cX11_cellAt 20 = .ok (.iconst (-1), 1) := by decide +kernel
theorem dX11_cellAt_21 : decode cX11_cellAt 21 = .ok (.ireturn, 1) := by decide +kernel
theorem dX11_cellAt_4 : decode cX11_cellAt 4 = .ok (.iload_n 0, 1) := by decide +kernel
theorem dX11_cellAt_5 : decode cX11_cellAt 5 = .ok (.bipush 12, 2) := by decide +kernel
theorem dX11_cellAt_7 : decode cX11_cellAt 7 = .ok (.if_icmp .ge 13, 3) := by decide +kernel
theorem dX11_cellAt_10 : decode cX11_cellAt 10 = .ok (.iload_n 1, 1) := by decide +kernel
theorem dX11_cellAt_11 : decode cX11_cellAt 11 = .ok (.ifCond .lt 9, 3) := by decide +kernel
theorem dX11_cellAt_14 : decode cX11_cellAt 14 = .ok (.iload_n 1, 1) := by decide +kernel
theorem dX11_cellAt_15 : decode cX11_cellAt 15 = .ok (.bipush 8, 2) := by decide +kernel
theorem dX11_cellAt_17 : decode cX11_cellAt 17 = .ok (.if_icmp .lt 5, 3) := by decide +kernel
theorem dX11_cellAt_22 : decode cX11_cellAt 22 = .ok (.bipush 12, 2) := by decide +kernel
theorem dX11_cellAt_24 : decode cX11_cellAt 24 = .ok (.iload_n 1, 1) := by decide +kernel
theorem dX11_cellAt_25 : decode cX11_cellAt 25 = .ok (.imul, 1) := by decide +kernel
theorem dX11_cellAt_26 : decode cX11_cellAt 26 = .ok (.iload_n 0, 1) := by decide +kernel
theorem dX11_cellAt_27 : decode cX11_cellAt 27 = .ok (.iadd, 1) := by decide +kernel
theorem dX11_cellAt_28 : decode cX11_cellAt 28 = .ok (.ireturn, 1) := by decide +kernel
theorem dX11_isSight_0 : decode cX11_isSight 0 = .ok (.iload_n 1, 1) := by decide +kernel
theorem dX11_isSight_1 : decode cX11_isSight 1 = .ok (.ifCond .lt 15, 3) := by decide +kernel
theorem dX11_isSight_16 : decode cX11_isSight 16 = .ok (.iconst 0, 1) := by decide +kernel
theorem dX11_isSight_17 : decode cX11_isSight 17 = .ok (.ireturn, 1) := by decide +kernel
theorem dX11_isSight_4 : decode cX11_isSight 4 = .ok (.iload_n 1, 1) := by decide +kernel
theorem dX11_isSight_5 : decode cX11_isSight 5 = .ok (.aload_n 0, 1) := by decide +kernel
theorem dX11_isSight_6 : decode cX11_isSight 6 = .ok (.getfield 102, 3) := by decide +kernel
theorem dX11_isSight_9 : decode cX11_isSight 9 = .ok (.if_icmp .ge 7, 3) := by decide +kernel
theorem dX12_within_0 : decode cX12_within 0 = .ok (.iload_n 0, 1) := by decide +kernel
theorem dX12_within_1 : decode cX12_within 1 = .ok (.iload_n 1, 1) := by decide +kernel
theorem dX12_within_2 : decode cX12_within 2 = .ok (.if_icmp .lt 12, 3) := by decide +kernel
theorem dX12_within_14 : decode cX12_within 14 = .ok (.iconst 0, 1) := by decide +kernel
theorem dX12_within_15 : decode cX12_within 15 = .ok (.ireturn, 1) := by decide +kernel
theorem dX12_within_5 : decode cX12_within 5 = .ok (.iload_n 0, 1) := by decide +kernel
theorem dX12_within_6 : decode cX12_within 6 = .ok (.iload_n 2, 1) := by decide +kernel
theorem dX12_within_7 : decode cX12_within 7 = .ok (.if_icmp .gt 7, 3) := by decide +kernel
theorem dX12_within_10 : decode cX12_within 10 = .ok (.iconst 1, 1) := by decide +kernel
theorem dX12_within_11 : decode cX12_within 11 = .ok (.goto 4, 3) := by decide +kernel
theorem dX12_isCell_0 : decode cX12_isCell 0 = .ok (.iload_n 0, 1) := by decide +kernel
theorem dX12_isCell_1 : decode cX12_isCell 1 = .ok (.iconst 0, 1) := by decide +kernel
theorem dX12_isCell_2 : decode cX12_isCell 2 = .ok (.bipush 11, 2) := by decide +kernel
theorem dX12_isCell_4 : decode cX12_isCell 4 = .ok (.invokestatic 415, 3) := by decide +kernel
theorem dX12_isCell_7 : decode cX12_isCell 7 = .ok (.ifCond .eq 17, 3) := by decide +kernel
theorem dX12_isCell_10 : decode cX12_isCell 10 = .ok (.iload_n 1, 1) := by decide +kernel
theorem dX12_isCell_11 : decode cX12_isCell 11 = .ok (.iconst 0, 1) := by decide +kernel
theorem dX12_isCell_12 : decode cX12_isCell 12 = .ok (.bipush 7, 2) := by decide +kernel
theorem dX12_isCell_14 : decode cX12_isCell 14 = .ok (.invokestatic 415, 3) := by decide +kernel
theorem dX12_isCell_17 : decode cX12_isCell 17 = .ok (.ifCond .eq 7, 3) := by decide +kernel
theorem dX12_isCell_20 : decode cX12_isCell 20 = .ok (.iconst 1, 1) := by decide +kernel
theorem dX12_isCell_21 : decode cX12_isCell 21 = .ok (.goto 4, 3) := by decide +kernel
theorem dX12_isCell_25 : decode cX12_isCell 25 = .ok (.ireturn, 1) := by decide +kernel
theorem dX12_isCell_24 : decode cX12_isCell 24 = .ok (.iconst 0, 1) := by decide +kernel
theorem dX11_isSheet_0 : decode cX11_isSheet 0 = .ok (.iload_n 1, 1) := by decide +kernel
theorem dX11_isSheet_1 : decode cX11_isSheet 1 = .ok (.ifCond .lt 15, 3) := by decide +kernel
theorem dX11_isSheet_16 : decode cX11_isSheet 16 = .ok (.iconst 0, 1) := by decide +kernel
theorem dX11_isSheet_17 : decode cX11_isSheet 17 = .ok (.ireturn, 1) := by decide +kernel
theorem dX11_isSheet_4 : decode cX11_isSheet 4 = .ok (.iload_n 1, 1) := by decide +kernel
theorem dX11_isSheet_5 : decode cX11_isSheet 5 = .ok (.aload_n 0, 1) := by decide +kernel
theorem dX11_isSheet_6 : decode cX11_isSheet 6 = .ok (.getfield 305, 3) := by decide +kernel
theorem dX11_isSheet_9 : decode cX11_isSheet 9 = .ok (.if_icmp .ge 7, 3) := by decide +kernel
theorem dX11_isHand_0 : decode cX11_isHand 0 = .ok (.iload_n 0, 1) := by decide +kernel
theorem dX11_isHand_1 : decode cX11_isHand 1 = .ok (.ifCond .lt 13, 3) := by decide +kernel
theorem dX11_isHand_14 : decode cX11_isHand 14 = .ok (.iconst 0, 1) := by decide +kernel
theorem dX11_isHand_15 : decode cX11_isHand 15 = .ok (.ireturn, 1) := by decide +kernel
theorem dX11_isHand_4 : decode cX11_isHand 4 = .ok (.iload_n 0, 1) := by decide +kernel
theorem dX11_isHand_5 : decode cX11_isHand 5 = .ok (.bipush 6, 2) := by decide +kernel
theorem dX11_isHand_7 : decode cX11_isHand 7 = .ok (.if_icmp .ge 7, 3) := by decide +kernel
theorem dX11_isHand_10 : decode cX11_isHand 10 = .ok (.iconst 1, 1) := by decide +kernel
theorem dX11_isHand_11 : decode cX11_isHand 11 = .ok (.goto 4, 3) := by decide +kernel
theorem dX12_isSight_0 : decode cX12_isSight 0 = .ok (.iload_n 1, 1) := by decide +kernel
theorem dX12_isSight_1 : decode cX12_isSight 1 = .ok (.ifCond .lt 15, 3) := by decide +kernel
theorem dX12_isSight_16 : decode cX12_isSight 16 = .ok (.iconst 0, 1) := by decide +kernel
theorem dX12_isSight_17 : decode cX12_isSight 17 = .ok (.ireturn, 1) := by decide +kernel
theorem dX12_isSight_4 : decode cX12_isSight 4 = .ok (.iload_n 1, 1) := by decide +kernel
theorem dX12_isSight_5 : decode cX12_isSight 5 = .ok (.aload_n 0, 1) := by decide +kernel
theorem dX12_isSight_6 : decode cX12_isSight 6 = .ok (.getfield 423, 3) := by decide +kernel
theorem dX12_isSight_9 : decode cX12_isSight 9 = .ok (.if_icmp .ge 7, 3) := by decide +kernel
theorem dX11_days_0 : decode cX11_days 0 = .ok (.iload_n 1, 1) := by decide +kernel
theorem dX11_days_1 : decode cX11_days 1 = .ok (.ifCond .lt 22, 3) := by decide +kernel
theorem dX11_days_23 : decode cX11_days 23 = .ok (.iconst (-1), 1) := by decide +kernel
theorem dX11_days_24 : decode cX11_days 24 = .ok (.ireturn, 1) := by decide +kernel
theorem dX11_days_4 : decode cX11_days 4 = .ok (.iload_n 1, 1) := by decide +kernel
theorem dX11_days_5 : decode cX11_days 5 = .ok (.sipush 1000, 3) := by decide +kernel
theorem dX11_days_8 : decode cX11_days 8 = .ok (.if_icmp .gt 15, 3) := by decide +kernel
theorem dX11_days_11 : decode cX11_days 11 = .ok (.aload_n 0, 1) := by decide +kernel
theorem dX11_days_12 : decode cX11_days 12 = .ok (.getfield 78, 3) := by decide +kernel
theorem dX11_days_15 : decode cX11_days 15 = .ok (.iload_n 1, 1) := by decide +kernel
theorem dX11_days_16 : decode cX11_days 16 = .ok (.iadd, 1) := by decide +kernel
theorem dX11_days_17 : decode cX11_days 17 = .ok (.sipush 9999, 3) := by decide +kernel
theorem dX11_days_20 : decode cX11_days 20 = .ok (.if_icmp .le 5, 3) := by decide +kernel
theorem dX11_days_25 : decode cX11_days 25 = .ok (.aload_n 0, 1) := by decide +kernel
theorem dX11_days_26 : decode cX11_days 26 = .ok (.dup, 1) := by decide +kernel
theorem dX11_days_27 : decode cX11_days 27 = .ok (.getfield 78, 3) := by decide +kernel
theorem dX11_days_30 : decode cX11_days 30 = .ok (.iload_n 1, 1) := by decide +kernel
theorem dX11_days_31 : decode cX11_days 31 = .ok (.iadd, 1) := by decide +kernel
theorem dX11_days_32 : decode cX11_days 32 = .ok (.putfield 78, 3) := by decide +kernel
theorem dX11_days_35 : decode cX11_days 35 = .ok (.aload_n 0, 1) := by decide +kernel
theorem dX11_days_36 : decode cX11_days 36 = .ok (.getfield 78, 3) := by decide +kernel
theorem dX11_days_39 : decode cX11_days 39 = .ok (.ireturn, 1) := by decide +kernel
theorem dX12_days_0 : decode cX12_days 0 = .ok (.aload_n 0, 1) := by decide +kernel
theorem dX12_days_1 : decode cX12_days 1 = .ok (.iconst 0, 1) := by decide +kernel
theorem dX12_days_2 : decode cX12_days 2 = .ok (.putfield 1, 3) := by decide +kernel
theorem dX12_days_5 : decode cX12_days 5 = .ok (.iload_n 1, 1) := by decide +kernel
theorem dX12_days_6 : decode cX12_days 6 = .ok (.iconst 0, 1) := by decide +kernel
theorem dX12_days_7 : decode cX12_days 7 = .ok (.sipush 1000, 3) := by decide +kernel
theorem dX12_days_10 : decode cX12_days 10 = .ok (.invokestatic 415, 3) := by decide +kernel
theorem dX12_days_13 : decode cX12_days 13 = .ok (.ifCond .eq 15, 3) := by decide +kernel
theorem dX12_days_16 : decode cX12_days 16 = .ok (.aload_n 0, 1) := by decide +kernel
theorem dX12_days_17 : decode cX12_days 17 = .ok (.getfield 342, 3) := by decide +kernel
theorem dX12_days_20 : decode cX12_days 20 = .ok (.iload_n 1, 1) := by decide +kernel
theorem dX12_days_21 : decode cX12_days 21 = .ok (.iadd, 1) := by decide +kernel
theorem dX12_days_22 : decode cX12_days 22 = .ok (.sipush 9999, 3) := by decide +kernel
theorem dX12_days_25 : decode cX12_days 25 = .ok (.if_icmp .le 5, 3) := by decide +kernel
theorem dX12_days_30 : decode cX12_days 30 = .ok (.aload_n 0, 1) := by decide +kernel
theorem dX12_days_31 : decode cX12_days 31 = .ok (.dup, 1) := by decide +kernel
theorem dX12_days_32 : decode cX12_days 32 = .ok (.getfield 342, 3) := by decide +kernel
theorem dX12_days_35 : decode cX12_days 35 = .ok (.iload_n 1, 1) := by decide +kernel
theorem dX12_days_36 : decode cX12_days 36 = .ok (.iadd, 1) := by decide +kernel
theorem dX12_days_37 : decode cX12_days 37 = .ok (.putfield 342, 3) := by decide +kernel
theorem dX12_days_40 : decode cX12_days 40 = .ok (.aload_n 0, 1) := by decide +kernel
theorem dX12_days_41 : decode cX12_days 41 = .ok (.iconst 1, 1) := by decide +kernel
theorem dX12_days_42 : decode cX12_days 42 = .ok (.putfield 290, 3) := by decide +kernel
theorem dX12_days_45 : decode cX12_days 45 = .ok (.aload_n 0, 1) := by decide +kernel
theorem dX12_days_46 : decode cX12_days 46 = .ok (.getfield 342, 3) := by decide +kernel
theorem dX12_days_49 : decode cX12_days 49 = .ok (.ireturn, 1) := by decide +kernel
theorem dX12_days_28 : decode cX12_days 28 = .ok (.iconst (-1), 1) := by decide +kernel
theorem dX12_days_29 : decode cX12_days 29 = .ok (.ireturn, 1) := by decide +kernel
theorem dX11_view_0 : decode cX11_view 0 = .ok (.iload_n 1, 1) := by decide +kernel
theorem dX11_view_1 : decode cX11_view 1 = .ok (.ifCond .lt 11, 3) := by decide +kernel
theorem dX11_view_12 : decode cX11_view 12 = .ok (.iconst 0, 1) := by decide +kernel
theorem dX11_view_13 : decode cX11_view 13 = .ok (.ireturn, 1) := by decide +kernel
theorem dX11_view_4 : decode cX11_view 4 = .ok (.iload_n 1, 1) := by decide +kernel
theorem dX11_view_5 : decode cX11_view 5 = .ok (.aload_n 0, 1) := by decide +kernel
theorem dX11_view_6 : decode cX11_view 6 = .ok (.getfield 78, 3) := by decide +kernel
theorem dX11_view_9 : decode cX11_view 9 = .ok (.if_icmp .le 5, 3) := by decide +kernel
theorem dX11_view_14 : decode cX11_view 14 = .ok (.aload_n 0, 1) := by decide +kernel
theorem dX11_view_15 : decode cX11_view 15 = .ok (.iload_n 1, 1) := by decide +kernel
theorem dX11_view_16 : decode cX11_view 16 = .ok (.aload_n 0, 1) := by decide +kernel
theorem dX11_view_17 : decode cX11_view 17 = .ok (.getfield 78, 3) := by decide +kernel
theorem dX11_view_20 : decode cX11_view 20 = .ok (.if_icmp .ne 7, 3) := by decide +kernel
theorem dX11_view_27 : decode cX11_view 27 = .ok (.iload_n 1, 1) := by decide +kernel
theorem dX11_view_28 : decode cX11_view 28 = .ok (.putfield 9, 3) := by decide +kernel
theorem dX11_view_31 : decode cX11_view 31 = .ok (.aload_n 0, 1) := by decide +kernel
theorem dX11_view_32 : decode cX11_view 32 = .ok (.iconst 0, 1) := by decide +kernel
theorem dX11_view_33 : decode cX11_view 33 = .ok (.putfield 81, 3) := by decide +kernel
theorem dX11_view_36 : decode cX11_view 36 = .ok (.iconst 1, 1) := by decide +kernel
theorem dX11_view_37 : decode cX11_view 37 = .ok (.ireturn, 1) := by decide +kernel
theorem dX11_view_23 : decode cX11_view 23 = .ok (.iconst (-1), 1) := by decide +kernel
theorem dX11_view_24 : decode cX11_view 24 = .ok (.goto 4, 3) := by decide +kernel
theorem dX12_view_0 : decode cX12_view 0 = .ok (.aload_n 0, 1) := by decide +kernel
theorem dX12_view_1 : decode cX12_view 1 = .ok (.iconst 0, 1) := by decide +kernel
theorem dX12_view_2 : decode cX12_view 2 = .ok (.putfield 1, 3) := by decide +kernel
theorem dX12_view_5 : decode cX12_view 5 = .ok (.iload_n 1, 1) := by decide +kernel
theorem dX12_view_6 : decode cX12_view 6 = .ok (.iconst 0, 1) := by decide +kernel
theorem dX12_view_7 : decode cX12_view 7 = .ok (.aload_n 0, 1) := by decide +kernel
theorem dX12_view_8 : decode cX12_view 8 = .ok (.getfield 342, 3) := by decide +kernel
theorem dX12_view_11 : decode cX12_view 11 = .ok (.invokestatic 415, 3) := by decide +kernel
theorem dX12_view_14 : decode cX12_view 14 = .ok (.ifCond .ne 5, 3) := by decide +kernel
theorem dX12_view_19 : decode cX12_view 19 = .ok (.aload_n 0, 1) := by decide +kernel
theorem dX12_view_20 : decode cX12_view 20 = .ok (.iload_n 1, 1) := by decide +kernel
theorem dX12_view_21 : decode cX12_view 21 = .ok (.aload_n 0, 1) := by decide +kernel
theorem dX12_view_22 : decode cX12_view 22 = .ok (.getfield 342, 3) := by decide +kernel
theorem dX12_view_25 : decode cX12_view 25 = .ok (.if_icmp .ne 7, 3) := by decide +kernel
theorem dX12_view_32 : decode cX12_view 32 = .ok (.iload_n 1, 1) := by decide +kernel
theorem dX12_view_33 : decode cX12_view 33 = .ok (.putfield 287, 3) := by decide +kernel
theorem dX12_view_36 : decode cX12_view 36 = .ok (.aload_n 0, 1) := by decide +kernel
theorem dX12_view_37 : decode cX12_view 37 = .ok (.iconst 1, 1) := by decide +kernel
theorem dX12_view_38 : decode cX12_view 38 = .ok (.putfield 290, 3) := by decide +kernel
theorem dX12_view_41 : decode cX12_view 41 = .ok (.iconst 1, 1) := by decide +kernel
theorem dX12_view_42 : decode cX12_view 42 = .ok (.ireturn, 1) := by decide +kernel
theorem dX12_view_28 : decode cX12_view 28 = .ok (.iconst (-1), 1) := by decide +kernel
theorem dX12_view_29 : decode cX12_view 29 = .ok (.goto 4, 3) := by decide +kernel
theorem dX12_view_17 : decode cX12_view 17 = .ok (.iconst 0, 1) := by decide +kernel
theorem dX12_view_18 : decode cX12_view 18 = .ok (.ireturn, 1) := by decide +kernel
theorem dX11_fold_0 : decode cX11_fold 0 = .ok (.iload_n 1, 1) := by decide +kernel
theorem dX11_fold_1 : decode cX11_fold 1 = .ok (.iload_n 2, 1) := by decide +kernel
theorem dX11_fold_2 : decode cX11_fold 2 = .ok (.invokestatic 85, 3) := by decide +kernel
theorem dX11_fold_5 : decode cX11_fold 5 = .ok (.istore 4, 2) := by decide +kernel
theorem dX11_fold_7 : decode cX11_fold 7 = .ok (.iload 4, 2) := by decide +kernel
theorem dX11_fold_9 : decode cX11_fold 9 = .ok (.iconst (-1), 1) := by decide +kernel
theorem dX11_fold_10 : decode cX11_fold 10 = .ok (.if_icmp .ne 5, 3) := by decide +kernel
theorem dX11_fold_13 : decode cX11_fold 13 = .ok (.iconst 0, 1) := by decide +kernel
theorem dX11_fold_14 : decode cX11_fold 14 = .ok (.ireturn, 1) := by decide +kernel
theorem dX11_fold_15 : decode cX11_fold 15 = .ok (.aload_n 0, 1) := by decide +kernel
theorem dX11_fold_16 : decode cX11_fold 16 = .ok (.getfield 16, 3) := by decide +kernel
theorem dX11_fold_19 : decode cX11_fold 19 = .ok (.getfield 96, 3) := by decide +kernel
theorem dX11_fold_22 : decode cX11_fold 22 = .ok (.iload 4, 2) := by decide +kernel
theorem dX11_fold_24 : decode cX11_fold 24 = .ok (.iload_n 3, 1) := by decide +kernel
theorem dX11_fold_25 : decode cX11_fold 25 = .ok (.bastore, 1) := by decide +kernel
theorem dX11_fold_26 : decode cX11_fold 26 = .ok (.aload_n 0, 1) := by decide +kernel
theorem dX11_fold_27 : decode cX11_fold 27 = .ok (.iconst 0, 1) := by decide +kernel
theorem dX11_fold_28 : decode cX11_fold 28 = .ok (.putfield 81, 3) := by decide +kernel
theorem dX11_fold_31 : decode cX11_fold 31 = .ok (.iconst 1, 1) := by decide +kernel
theorem dX11_fold_32 : decode cX11_fold 32 = .ok (.ireturn, 1) := by decide +kernel
theorem dX12_fold_0 : decode cX12_fold 0 = .ok (.aload_n 0, 1) := by decide +kernel
theorem dX12_fold_1 : decode cX12_fold 1 = .ok (.iconst 0, 1) := by decide +kernel
theorem dX12_fold_2 : decode cX12_fold 2 = .ok (.putfield 1, 3) := by decide +kernel
theorem dX12_fold_5 : decode cX12_fold 5 = .ok (.iload_n 1, 1) := by decide +kernel
theorem dX12_fold_6 : decode cX12_fold 6 = .ok (.iload_n 2, 1) := by decide +kernel
theorem dX12_fold_7 : decode cX12_fold 7 = .ok (.invokestatic 419, 3) := by decide +kernel
theorem dX12_fold_10 : decode cX12_fold 10 = .ok (.ifCond .ne 5, 3) := by decide +kernel
theorem dX12_fold_15 : decode cX12_fold 15 = .ok (.aload_n 0, 1) := by decide +kernel
theorem dX12_fold_16 : decode cX12_fold 16 = .ok (.getfield 167, 3) := by decide +kernel
theorem dX12_fold_19 : decode cX12_fold 19 = .ok (.bipush 12, 2) := by decide +kernel
theorem dX12_fold_21 : decode cX12_fold 21 = .ok (.iload_n 2, 1) := by decide +kernel
theorem dX12_fold_22 : decode cX12_fold 22 = .ok (.imul, 1) := by decide +kernel
theorem dX12_fold_23 : decode cX12_fold 23 = .ok (.iload_n 1, 1) := by decide +kernel
theorem dX12_fold_24 : decode cX12_fold 24 = .ok (.iadd, 1) := by decide +kernel
theorem dX12_fold_25 : decode cX12_fold 25 = .ok (.iload_n 3, 1) := by decide +kernel
theorem dX12_fold_26 : decode cX12_fold 26 = .ok (.bastore, 1) := by decide +kernel
theorem dX12_fold_27 : decode cX12_fold 27 = .ok (.aload_n 0, 1) := by decide +kernel
theorem dX12_fold_28 : decode cX12_fold 28 = .ok (.iconst 1, 1) := by decide +kernel
theorem dX12_fold_29 : decode cX12_fold 29 = .ok (.putfield 290, 3) := by decide +kernel
theorem dX12_fold_32 : decode cX12_fold 32 = .ok (.iconst 1, 1) := by decide +kernel
theorem dX12_fold_33 : decode cX12_fold 33 = .ok (.ireturn, 1) := by decide +kernel
theorem dX12_fold_13 : decode cX12_fold 13 = .ok (.iconst 0, 1) := by decide +kernel
theorem dX12_fold_14 : decode cX12_fold 14 = .ok (.ireturn, 1) := by decide +kernel
theorem dX11_own_0 : decode cX11_own 0 = .ok (.iload_n 1, 1) := by decide +kernel
theorem dX11_own_1 : decode cX11_own 1 = .ok (.iload_n 2, 1) := by decide +kernel
theorem dX11_own_2 : decode cX11_own 2 = .ok (.invokestatic 85, 3) := by decide +kernel
theorem dX11_own_5 : decode cX11_own 5 = .ok (.istore 4, 2) := by decide +kernel
theorem dX11_own_7 : decode cX11_own 7 = .ok (.iload 4, 2) := by decide +kernel
theorem dX11_own_9 : decode cX11_own 9 = .ok (.iconst (-1), 1) := by decide +kernel
theorem dX11_own_10 : decode cX11_own 10 = .ok (.if_icmp .eq 13, 3) := by decide +kernel
theorem dX11_own_23 : decode cX11_own 23 = .ok (.iconst 0, 1) := by decide +kernel
theorem dX11_own_24 : decode cX11_own 24 = .ok (.ireturn, 1) := by decide +kernel
theorem dX11_own_13 : decode cX11_own 13 = .ok (.iload_n 3, 1) := by decide +kernel
theorem dX11_own_14 : decode cX11_own 14 = .ok (.iconst (-1), 1) := by decide +kernel
theorem dX11_own_15 : decode cX11_own 15 = .ok (.if_icmp .lt 8, 3) := by decide +kernel
theorem dX11_own_18 : decode cX11_own 18 = .ok (.iload_n 3, 1) := by decide +kernel
theorem dX11_own_19 : decode cX11_own 19 = .ok (.iconst 4, 1) := by decide +kernel
theorem dX11_own_20 : decode cX11_own 20 = .ok (.if_icmp .lt 5, 3) := by decide +kernel
theorem dX11_own_25 : decode cX11_own 25 = .ok (.aload_n 0, 1) := by decide +kernel
theorem dX11_own_26 : decode cX11_own 26 = .ok (.getfield 16, 3) := by decide +kernel
theorem dX11_own_29 : decode cX11_own 29 = .ok (.getfield 99, 3) := by decide +kernel
theorem dX11_own_32 : decode cX11_own 32 = .ok (.iload 4, 2) := by decide +kernel
theorem dX11_own_34 : decode cX11_own 34 = .ok (.iload_n 3, 1) := by decide +kernel
theorem dX11_own_35 : decode cX11_own 35 = .ok (.iastore, 1) := by decide +kernel
theorem dX11_own_36 : decode cX11_own 36 = .ok (.iconst 1, 1) := by decide +kernel
theorem dX11_own_37 : decode cX11_own 37 = .ok (.ireturn, 1) := by decide +kernel
theorem dX12_own_0 : decode cX12_own 0 = .ok (.aload_n 0, 1) := by decide +kernel
theorem dX12_own_1 : decode cX12_own 1 = .ok (.iconst 0, 1) := by decide +kernel
theorem dX12_own_2 : decode cX12_own 2 = .ok (.putfield 1, 3) := by decide +kernel
theorem dX12_own_5 : decode cX12_own 5 = .ok (.iload_n 1, 1) := by decide +kernel
theorem dX12_own_6 : decode cX12_own 6 = .ok (.iload_n 2, 1) := by decide +kernel
theorem dX12_own_7 : decode cX12_own 7 = .ok (.invokestatic 419, 3) := by decide +kernel
theorem dX12_own_10 : decode cX12_own 10 = .ok (.ifCond .eq 12, 3) := by decide +kernel
theorem dX12_own_13 : decode cX12_own 13 = .ok (.iload_n 3, 1) := by decide +kernel
theorem dX12_own_14 : decode cX12_own 14 = .ok (.iconst (-1), 1) := by decide +kernel
theorem dX12_own_15 : decode cX12_own 15 = .ok (.iconst 3, 1) := by decide +kernel
theorem dX12_own_16 : decode cX12_own 16 = .ok (.invokestatic 415, 3) := by decide +kernel
theorem dX12_own_19 : decode cX12_own 19 = .ok (.ifCond .ne 5, 3) := by decide +kernel
theorem dX12_own_24 : decode cX12_own 24 = .ok (.aload_n 0, 1) := by decide +kernel
theorem dX12_own_25 : decode cX12_own 25 = .ok (.getfield 170, 3) := by decide +kernel
theorem dX12_own_28 : decode cX12_own 28 = .ok (.bipush 12, 2) := by decide +kernel
theorem dX12_own_30 : decode cX12_own 30 = .ok (.iload_n 2, 1) := by decide +kernel
theorem dX12_own_31 : decode cX12_own 31 = .ok (.imul, 1) := by decide +kernel
theorem dX12_own_32 : decode cX12_own 32 = .ok (.iload_n 1, 1) := by decide +kernel
theorem dX12_own_33 : decode cX12_own 33 = .ok (.iadd, 1) := by decide +kernel
theorem dX12_own_34 : decode cX12_own 34 = .ok (.iload_n 3, 1) := by decide +kernel
theorem dX12_own_35 : decode cX12_own 35 = .ok (.iastore, 1) := by decide +kernel
theorem dX12_own_36 : decode cX12_own 36 = .ok (.iconst 1, 1) := by decide +kernel
theorem dX12_own_37 : decode cX12_own 37 = .ok (.ireturn, 1) := by decide +kernel
theorem dX12_own_22 : decode cX12_own 22 = .ok (.iconst 0, 1) := by decide +kernel
theorem dX12_own_23 : decode cX12_own 23 = .ok (.ireturn, 1) := by decide +kernel
theorem dX11_rivalry_0 : decode cX11_rivalry 0 = .ok (.iload_n 1, 1) := by decide +kernel
theorem dX11_rivalry_1 : decode cX11_rivalry 1 = .ok (.ifCond .lt 10, 3) := by decide +kernel
theorem dX11_rivalry_11 : decode cX11_rivalry 11 = .ok (.iconst 0, 1) := by decide +kernel
theorem dX11_rivalry_12 : decode cX11_rivalry 12 = .ok (.ireturn, 1) := by decide +kernel
theorem dX11_rivalry_4 : decode cX11_rivalry 4 = .ok (.iload_n 1, 1) := by decide +kernel
theorem dX11_rivalry_5 : decode cX11_rivalry 5 = .ok (.sipush 999, 3) := by decide +kernel
theorem dX11_rivalry_8 : decode cX11_rivalry 8 = .ok (.if_icmp .le 5, 3) := by decide +kernel
theorem dX11_rivalry_13 : decode cX11_rivalry 13 = .ok (.aload_n 0, 1) := by decide +kernel
theorem dX11_rivalry_14 : decode cX11_rivalry 14 = .ok (.iload_n 1, 1) := by decide +kernel
theorem dX11_rivalry_15 : decode cX11_rivalry 15 = .ok (.putfield 163, 3) := by decide +kernel
theorem dX11_rivalry_18 : decode cX11_rivalry 18 = .ok (.iconst 1, 1) := by decide +kernel
theorem dX11_rivalry_19 : decode cX11_rivalry 19 = .ok (.ireturn, 1) := by decide +kernel
theorem dX12_rivalry_0 : decode cX12_rivalry 0 = .ok (.aload_n 0, 1) := by decide +kernel
theorem dX12_rivalry_1 : decode cX12_rivalry 1 = .ok (.iconst 0, 1) := by decide +kernel
theorem dX12_rivalry_2 : decode cX12_rivalry 2 = .ok (.putfield 1, 3) := by decide +kernel
theorem dX12_rivalry_5 : decode cX12_rivalry 5 = .ok (.iload_n 1, 1) := by decide +kernel
theorem dX12_rivalry_6 : decode cX12_rivalry 6 = .ok (.iconst 0, 1) := by decide +kernel
theorem dX12_rivalry_7 : decode cX12_rivalry 7 = .ok (.sipush 999, 3) := by decide +kernel
theorem dX12_rivalry_10 : decode cX12_rivalry 10 = .ok (.invokestatic 415, 3) := by decide +kernel
theorem dX12_rivalry_13 : decode cX12_rivalry 13 = .ok (.ifCond .ne 5, 3) := by decide +kernel
theorem dX12_rivalry_18 : decode cX12_rivalry 18 = .ok (.aload_n 0, 1) := by decide +kernel
theorem dX12_rivalry_19 : decode cX12_rivalry 19 = .ok (.iload_n 1, 1) := by decide +kernel
theorem dX12_rivalry_20 : decode cX12_rivalry 20 = .ok (.putfield 549, 3) := by decide +kernel
theorem dX12_rivalry_23 : decode cX12_rivalry 23 = .ok (.aload_n 0, 1) := by decide +kernel
theorem dX12_rivalry_24 : decode cX12_rivalry 24 = .ok (.iconst 1, 1) := by decide +kernel
theorem dX12_rivalry_25 : decode cX12_rivalry 25 = .ok (.putfield 290, 3) := by decide +kernel
theorem dX12_rivalry_28 : decode cX12_rivalry 28 = .ok (.iconst 1, 1) := by decide +kernel
theorem dX12_rivalry_29 : decode cX12_rivalry 29 = .ok (.ireturn, 1) := by decide +kernel
theorem dX12_rivalry_16 : decode cX12_rivalry 16 = .ok (.iconst 0, 1) := by decide +kernel
theorem dX12_rivalry_17 : decode cX12_rivalry 17 = .ok (.ireturn, 1) := by decide +kernel
theorem dX11_dip_0 : decode cX11_dip 0 = .ok (.aload_n 0, 1) := by decide +kernel
theorem dX11_dip_1 : decode cX11_dip 1 = .ok (.iload_n 1, 1) := by decide +kernel
theorem dX11_dip_2 : decode cX11_dip 2 = .ok (.invokevirtual 108, 3) := by decide +kernel
theorem dX11_dip_5 : decode cX11_dip 5 = .ok (.ifCond .eq 16, 3) := by decide +kernel
theorem dX11_dip_21 : decode cX11_dip 21 = .ok (.iconst 0, 1) := by decide +kernel
theorem dX11_dip_22 : decode cX11_dip 22 = .ok (.ireturn, 1) := by decide +kernel
theorem dX12_dip_0 : decode cX12_dip 0 = .ok (.aload_n 0, 1) := by decide +kernel
theorem dX12_dip_1 : decode cX12_dip 1 = .ok (.iconst 0, 1) := by decide +kernel
theorem dX12_dip_2 : decode cX12_dip 2 = .ok (.putfield 1, 3) := by decide +kernel
theorem dX12_dip_5 : decode cX12_dip 5 = .ok (.aload_n 0, 1) := by decide +kernel
theorem dX12_dip_6 : decode cX12_dip 6 = .ok (.iload_n 1, 1) := by decide +kernel
theorem dX12_dip_7 : decode cX12_dip 7 = .ok (.invokevirtual 426, 3) := by decide +kernel
theorem dX12_dip_10 : decode cX12_dip 10 = .ok (.ifCond .eq 43, 3) := by decide +kernel
theorem dX12_dip_53 : decode cX12_dip 53 = .ok (.iconst 0, 1) := by decide +kernel
theorem dX12_dip_54 : decode cX12_dip 54 = .ok (.ireturn, 1) := by decide +kernel
theorem dX11_remain_0 : decode cX11_remain 0 = .ok (.aload_n 0, 1) := by decide +kernel
theorem dX11_remain_1 : decode cX11_remain 1 = .ok (.iload_n 1, 1) := by decide +kernel
theorem dX11_remain_2 : decode cX11_remain 2 = .ok (.invokevirtual 108, 3) := by decide +kernel
theorem dX11_remain_5 : decode cX11_remain 5 = .ok (.ifCond .eq 26, 3) := by decide +kernel
theorem dX11_remain_31 : decode cX11_remain 31 = .ok (.iconst 0, 1) := by decide +kernel
theorem dX11_remain_32 : decode cX11_remain 32 = .ok (.ireturn, 1) := by decide +kernel
theorem dX12_remain_0 : decode cX12_remain 0 = .ok (.aload_n 0, 1) := by decide +kernel
theorem dX12_remain_1 : decode cX12_remain 1 = .ok (.iconst 0, 1) := by decide +kernel
theorem dX12_remain_2 : decode cX12_remain 2 = .ok (.putfield 1, 3) := by decide +kernel
theorem dX12_remain_5 : decode cX12_remain 5 = .ok (.aload_n 0, 1) := by decide +kernel
theorem dX12_remain_6 : decode cX12_remain 6 = .ok (.iload_n 1, 1) := by decide +kernel
theorem dX12_remain_7 : decode cX12_remain 7 = .ok (.invokevirtual 426, 3) := by decide +kernel
theorem dX12_remain_10 : decode cX12_remain 10 = .ok (.ifCond .eq 22, 3) := by decide +kernel
theorem dX12_remain_32 : decode cX12_remain 32 = .ok (.iconst 0, 1) := by decide +kernel
theorem dX12_remain_33 : decode cX12_remain 33 = .ok (.ireturn, 1) := by decide +kernel
theorem dX11_withdraw_0 : decode cX11_withdraw 0 = .ok (.aload_n 0, 1) := by decide +kernel
theorem dX11_withdraw_1 : decode cX11_withdraw 1 = .ok (.iload_n 1, 1) := by decide +kernel
theorem dX11_withdraw_2 : decode cX11_withdraw 2 = .ok (.invokevirtual 108, 3) := by decide +kernel
theorem dX11_withdraw_5 : decode cX11_withdraw 5 = .ok (.ifCond .eq 16, 3) := by decide +kernel
theorem dX11_withdraw_21 : decode cX11_withdraw 21 = .ok (.iconst 0, 1) := by decide +kernel
theorem dX11_withdraw_22 : decode cX11_withdraw 22 = .ok (.ireturn, 1) := by decide +kernel
theorem dX12_withdraw_0 : decode cX12_withdraw 0 = .ok (.aload_n 0, 1) := by decide +kernel
theorem dX12_withdraw_1 : decode cX12_withdraw 1 = .ok (.iconst 0, 1) := by decide +kernel
theorem dX12_withdraw_2 : decode cX12_withdraw 2 = .ok (.putfield 1, 3) := by decide +kernel
theorem dX12_withdraw_5 : decode cX12_withdraw 5 = .ok (.aload_n 0, 1) := by decide +kernel
theorem dX12_withdraw_6 : decode cX12_withdraw 6 = .ok (.iload_n 1, 1) := by decide +kernel
theorem dX12_withdraw_7 : decode cX12_withdraw 7 = .ok (.invokevirtual 426, 3) := by decide +kernel
theorem dX12_withdraw_10 : decode cX12_withdraw 10 = .ok (.ifCond .eq 12, 3) := by decide +kernel
theorem dX12_withdraw_22 : decode cX12_withdraw 22 = .ok (.iconst 0, 1) := by decide +kernel
theorem dX12_withdraw_23 : decode cX12_withdraw 23 = .ok (.ireturn, 1) := by decide +kernel
abbrev mO (q : Nat → Nat) (m_thrown : Int32) (m_taped : Int32) (m_size : Int32) (m_at : Int32) (m_fault : Int32) (m_books : Int32) (m_codes : Int32) (m_now : Int32) (m_viewed : Int32) (m_isChanged : Int32) (m_sights : Int32) (m_breaks : Int32) (m_bounds : Int32) (m_ring : Int64) (m_best : Int32) (m_keptMany : Int32) (m_rivals : Int32) (m_sheets : Int32) (m_places : Int32) : List Value := [.int m_thrown, .ref (q 1), .int m_taped, .int m_size, .ref (q 4), .ref (q 5), .ref (q 6), .int m_at, .int m_fault, .ref (q 9), .int m_books, .ref (q 11), .ref (q 12), .ref (q 13), .ref (q 14), .ref (q 15), .ref (q 16), .ref (q 17), .ref (q 18), .ref (q 19), .ref (q 20), .ref (q 21), .ref (q 22), .ref (q 23), .ref (q 24), .ref (q 25), .ref (q 26), .ref (q 27), .int m_codes, .ref (q 29), .ref (q 30), .ref (q 31), .ref (q 32), .int m_now, .int m_viewed, .int m_isChanged, .ref (q 36), .ref (q 37), .ref (q 38), .ref (q 39), .int m_sights, .ref (q 41), .ref (q 42), .ref (q 43), .ref (q 44), .ref (q 45), .ref (q 46), .ref (q 47), .ref (q 48), .ref (q 49), .ref (q 50), .ref (q 51), .ref (q 52), .ref (q 53), .ref (q 54), .ref (q 55), .ref (q 56), .int m_breaks, .ref (q 58), .ref (q 59), .ref (q 60), .ref (q 61), .int m_bounds, .ref (q 63), .ref (q 64), .ref (q 65), .ref (q 66), .ref (q 67), .ref (q 68), .long m_ring, .ref (q 70), .ref (q 71), .ref (q 72), .ref (q 73), .ref (q 74), .ref (q 75), .ref (q 76), .int m_best, .int m_keptMany, .int m_rivals, .int m_sheets, .ref (q 81), .ref (q 82), .int m_places, .ref (q 84), .ref (q 85), .ref (q 86)]
set_option maxHeartbeats 4000000 in
set_option maxRecDepth 100000 in
theorem kX11_cellAt (l : Launch) (D : va_G) (cy : Nat → ClassId) (p0 : Int32) (p1 : Int32) (z0 : Int) (h0 : p0.toInt = z0) (z1 : Int) (h1 : p1.toInt = z1) : RI l D cy yX11_cellAt cX11_cellAt 2 (some .int) 0 0 [.int p0, .int p1] [] (fun v : Int32 => (v = (-1) ∧ ¬ (0 ≤ z0 ∧ z0 ≤ 11 ∧ 0 ≤ z1 ∧ z1 ≤ 7)) ∨ (∃ cx : Nat, ∃ cl : Nat, v = (nI (12 * cl + cx)) ∧ cx < 12 ∧ cl < 8 ∧ z0 = (cx : Int) ∧ z1 = (cl : Int))) := by
  refine metr_go (by decide) (Nat.le_of_ble_eq_true rfl) (fun p e s m below meth c ls S hr hlk hP hK hl => ?_)
  have hl : lv_has ls 2 [(0, .int p0), (1, .int p1)] := hl
  refine lv_iload_n S.1 S.2.1 dX11_cellAt_0 rfl (lv_at hl 0 rfl) ?_
  refine r_if_lt S z0 h0 dX11_cellAt_1 (tgt := 20) (by decide) (fun e_1_1 => ?_) (fun e_1_1 => ?_)
  · refine lv_iconst (v := (-1)) S.1 S.2.1 dX11_cellAt_20 (by decide) ?_
    exact ri_ret S hr hlk rfl (Or.inl ⟨rfl, (by omega)⟩) dX11_cellAt_21
  · refine lv_iload_n S.1 S.2.1 dX11_cellAt_4 rfl (lv_at hl 0 rfl) ?_
    refine lv_bipush (v := 12) S.1 S.2.1 dX11_cellAt_5 (by decide) ?_
    refine r_icmp_ge S z0 12 h0 rfl dX11_cellAt_7 (tgt := 20) (by decide) (fun e_7_2 => ?_) (fun e_7_2 => ?_)
    · refine lv_iconst (v := (-1)) S.1 S.2.1 dX11_cellAt_20 (by decide) ?_
      exact ri_ret S hr hlk rfl (Or.inl ⟨rfl, (by omega)⟩) dX11_cellAt_21
    · refine lv_iload_n S.1 S.2.1 dX11_cellAt_10 rfl (lv_at hl 1 rfl) ?_
      refine r_if_lt S z1 h1 dX11_cellAt_11 (tgt := 20) (by decide) (fun e_11_3 => ?_) (fun e_11_3 => ?_)
      · refine lv_iconst (v := (-1)) S.1 S.2.1 dX11_cellAt_20 (by decide) ?_
        exact ri_ret S hr hlk rfl (Or.inl ⟨rfl, (by omega)⟩) dX11_cellAt_21
      · refine lv_iload_n S.1 S.2.1 dX11_cellAt_14 rfl (lv_at hl 1 rfl) ?_
        refine lv_bipush (v := 8) S.1 S.2.1 dX11_cellAt_15 (by decide) ?_
        refine r_icmp_lt S z1 8 h1 rfl dX11_cellAt_17 (tgt := 22) (by decide) (fun e_17_4 => ?_) (fun e_17_4 => ?_)
        · obtain ⟨cx, hcx, qcx, zcx⟩ := i_nat 12 h0 (by omega) (by omega)
          have hl : lv_has ls 2 [(0, .int (nI cx)), (1, .int p1)] := by rw [← qcx]; exact hl
          obtain ⟨cl, hcl, qcl, zcl⟩ := i_nat 8 h1 (by omega) (by omega)
          have hl : lv_has ls 2 [(0, .int (nI cx)), (1, .int (nI cl))] := by rw [← qcl]; exact hl
          refine lv_bipush (v := 12) S.1 S.2.1 dX11_cellAt_22 (by decide) ?_
          refine lv_iload_n S.1 S.2.1 dX11_cellAt_24 rfl (lv_at hl 1 rfl) ?_
          refine r_imul S dX11_cellAt_25 (v := (nI (12 * cl))) (pk_mul (12) (cl)) ?_
          refine lv_iload_n S.1 S.2.1 dX11_cellAt_26 rfl (lv_at hl 0 rfl) ?_
          refine r_iadd S dX11_cellAt_27 (v := (nI ((12 * cl) + cx))) (nI_add ((12 * cl)) (cx)) ?_
          exact ri_ret S hr hlk rfl (Or.inr (⟨cx, cl, rfl, (by omega), (by omega), (by omega), (by omega)⟩)) dX11_cellAt_28
        · refine lv_iconst (v := (-1)) S.1 S.2.1 dX11_cellAt_20 (by decide) ?_
          exact ri_ret S hr hlk rfl (Or.inl ⟨rfl, (by omega)⟩) dX11_cellAt_21
set_option maxHeartbeats 4000000 in
set_option maxRecDepth 100000 in
theorem kX11_isSight (l : Launch) (D : va_G) (cy : Nat → ClassId) (x : Nat → Nat) (p0 : Int32) (z0 : Int) (h0 : p0.toInt = z0) : RI l D cy yX11_isSight cX11_isSight 2 (some .boolean) 0 0 [.ref (x 0), .int p0] [((x 0), .inr (10, [.int 0, .int (-1), .ref (x 1), .ref (x 9), .int 0, .ref (x 10), .ref (x 13), .ref (x 16), .ref (x 29), .int 0, .int 0, .ref (x 30), .int 0, .ref (x 31), .ref (x 42), .int 0, .int 0, .null, .ref (x 43)]))] (fun v : Int32 => v = 0) := by
  refine metr_go (by decide) (Nat.le_of_ble_eq_true rfl) (fun p e s m below meth c ls S hr hlk hP hK hl => ?_)
  have hl : lv_has ls 2 [(0, .ref (x 0)), (1, .int p0)] := hl
  refine lv_iload_n S.1 S.2.1 dX11_isSight_0 rfl (lv_at hl 1 rfl) ?_
  refine r_if_lt S z0 h0 dX11_isSight_1 (tgt := 16) (by decide) (fun e_1_1 => ?_) (fun e_1_1 => ?_)
  · refine lv_iconst (v := 0) S.1 S.2.1 dX11_isSight_16 (by decide) ?_
    exact ri_ret S hr hlk (by decide) (rfl) dX11_isSight_17
  · refine lv_iload_n S.1 S.2.1 dX11_isSight_4 rfl (lv_at hl 1 rfl) ?_
    refine lv_aload_n S.1 S.2.1 dX11_isSight_5 rfl (lv_at hl 0 rfl) ?_
    refine r_get S hK hP 0 10 rfl rfl inX11 4 (by decide) kw_472 (v := .int 0) rfl dX11_isSight_6 ?_
    refine r_icmp_ge S z0 0 h0 rfl dX11_isSight_9 (tgt := 16) (by decide) (fun _ => ?_) (fun c => absurd c (by omega))
    refine lv_iconst (v := 0) S.1 S.2.1 dX11_isSight_16 (by decide) ?_
    exact ri_ret S hr hlk (by decide) (rfl) dX11_isSight_17
set_option maxHeartbeats 4000000 in
set_option maxRecDepth 100000 in
theorem kX12_within (l : Launch) (D : va_G) (cy : Nat → ClassId) (p0 : Int32) (p1 : Int32) (p2 : Int32) (z0 : Int) (h0 : p0.toInt = z0) (z1 : Int) (h1 : p1.toInt = z1) (z2 : Int) (h2 : p2.toInt = z2) : RI l D cy yX12_within cX12_within 3 (some .boolean) 0 0 [.int p0, .int p1, .int p2] [] (fun v : Int32 => (v = 1 ∧ (z1 ≤ z0 ∧ z0 ≤ z2)) ∨ (v = 0 ∧ ¬ (z1 ≤ z0 ∧ z0 ≤ z2))) := by
  refine metr_go (by decide) (Nat.le_of_ble_eq_true rfl) (fun p e s m below meth c ls S hr hlk hP hK hl => ?_)
  have hl : lv_has ls 3 [(0, .int p0), (1, .int p1), (2, .int p2)] := hl
  refine lv_iload_n S.1 S.2.1 dX12_within_0 rfl (lv_at hl 0 rfl) ?_
  refine lv_iload_n S.1 S.2.1 dX12_within_1 rfl (lv_at hl 1 rfl) ?_
  refine r_icmp_lt S z0 z1 h0 h1 dX12_within_2 (tgt := 14) (by decide) (fun e_2_1 => ?_) (fun e_2_1 => ?_)
  · refine lv_iconst (v := 0) S.1 S.2.1 dX12_within_14 (by decide) ?_
    exact ri_ret S hr hlk (by decide) (Or.inr (⟨rfl, (by omega)⟩)) dX12_within_15
  · refine lv_iload_n S.1 S.2.1 dX12_within_5 rfl (lv_at hl 0 rfl) ?_
    refine lv_iload_n S.1 S.2.1 dX12_within_6 rfl (lv_at hl 2 rfl) ?_
    refine r_icmp_gt S z0 z2 h0 h2 dX12_within_7 (tgt := 14) (by decide) (fun e_7_2 => ?_) (fun e_7_2 => ?_)
    · refine lv_iconst (v := 0) S.1 S.2.1 dX12_within_14 (by decide) ?_
      exact ri_ret S hr hlk (by decide) (Or.inr (⟨rfl, (by omega)⟩)) dX12_within_15
    · refine lv_iconst (v := 1) S.1 S.2.1 dX12_within_10 (by decide) ?_
      refine lv_goto (tgt := 15) S.1 S.2.1 dX12_within_11 (by decide) ?_
      exact ri_ret S hr hlk (by decide) (Or.inl ⟨rfl, (by omega)⟩) dX12_within_15
set_option maxHeartbeats 4000000 in
set_option maxRecDepth 100000 in
theorem kX12_isCell (l : Launch) (D : va_G) (cy : Nat → ClassId) (p0 : Int32) (p1 : Int32) (z0 : Int) (h0 : p0.toInt = z0) (z1 : Int) (h1 : p1.toInt = z1) : RI l D cy yX12_isCell cX12_isCell 2 (some .boolean) 1 22 [.int p0, .int p1] [] (fun v : Int32 => (v = 1 ∧ (0 ≤ z0 ∧ z0 ≤ 11 ∧ 0 ≤ z1 ∧ z1 ≤ 7)) ∨ (v = 0 ∧ ¬ (0 ≤ z0 ∧ z0 ≤ 11 ∧ 0 ≤ z1 ∧ z1 ≤ 7))) := by
  refine metr_go (by decide) (Nat.le_of_ble_eq_true rfl) (fun p e s m below meth c ls S hr hlk hP hK hl => ?_)
  have hl : lv_has ls 2 [(0, .int p0), (1, .int p1)] := hl
  refine lv_iload_n S.1 S.2.1 dX12_isCell_0 rfl (lv_at hl 0 rfl) ?_
  refine lv_iconst (v := 0) S.1 S.2.1 dX12_isCell_1 (by decide) ?_
  refine lv_bipush (v := 11) S.1 S.2.1 dX12_isCell_2 (by decide) ?_
  refine call_ri (runS_R (wc := []) (As := [.int p0, .int 0, .int 11]) (rest := []) S (kX12_within l D cy p0 0 11 z0 h0 0 rfl 11 rfl) hK hP [] rfl kw_1892 kw_1893 kw_152 kw_1894 okX12_within rfl (by decide) hl.1 rfl (Nat.le_of_ble_eq_true rfl) dX12_isCell_4 (by decide)) (fun v4 w4 => ?_)
  rcases w4 with ⟨rfl, w4_0_0⟩ | ⟨rfl, w4_1_0⟩
  · refine r_if_eq S 1 rfl dX12_isCell_7 (tgt := 24) (by decide) (fun c => absurd c (by decide)) (fun _ => ?_)
    refine lv_iload_n S.1 S.2.1 dX12_isCell_10 rfl (lv_at hl 1 rfl) ?_
    refine lv_iconst (v := 0) S.1 S.2.1 dX12_isCell_11 (by decide) ?_
    refine lv_bipush (v := 7) S.1 S.2.1 dX12_isCell_12 (by decide) ?_
    refine call_ri (runS_R (wc := []) (As := [.int p1, .int 0, .int 7]) (rest := []) S (kX12_within l D cy p1 0 7 z1 h1 0 rfl 7 rfl) hK hP [] rfl kw_1892 kw_1893 kw_152 kw_1894 okX12_within rfl (by decide) hl.1 rfl (Nat.le_of_ble_eq_true rfl) dX12_isCell_14 (by decide)) (fun v14 w14 => ?_)
    rcases w14 with ⟨rfl, w14_0_0⟩ | ⟨rfl, w14_1_0⟩
    · refine r_if_eq S 1 rfl dX12_isCell_17 (tgt := 24) (by decide) (fun c => absurd c (by decide)) (fun _ => ?_)
      refine lv_iconst (v := 1) S.1 S.2.1 dX12_isCell_20 (by decide) ?_
      refine lv_goto (tgt := 25) S.1 S.2.1 dX12_isCell_21 (by decide) ?_
      exact ri_ret S hr hlk (by decide) (Or.inl ⟨rfl, (by omega)⟩) dX12_isCell_25
    · refine r_if_eq S 0 rfl dX12_isCell_17 (tgt := 24) (by decide) (fun _ => ?_) (fun c => absurd c (by decide))
      refine lv_iconst (v := 0) S.1 S.2.1 dX12_isCell_24 (by decide) ?_
      exact ri_ret S hr hlk (by decide) (Or.inr (⟨rfl, (by omega)⟩)) dX12_isCell_25
  · refine r_if_eq S 0 rfl dX12_isCell_7 (tgt := 24) (by decide) (fun _ => ?_) (fun c => absurd c (by decide))
    refine lv_iconst (v := 0) S.1 S.2.1 dX12_isCell_24 (by decide) ?_
    exact ri_ret S hr hlk (by decide) (Or.inr (⟨rfl, (by omega)⟩)) dX12_isCell_25
set_option maxHeartbeats 4000000 in
set_option maxRecDepth 100000 in
theorem kX11_isSheet (l : Launch) (D : va_G) (cy : Nat → ClassId) (x : Nat → Nat) (p0 : Int32) (z0 : Int) (h0 : p0.toInt = z0) : RI l D cy yX11_isSheet cX11_isSheet 2 (some .boolean) 0 0 [.ref (x 0), .int p0] [((x 0), .inr (10, [.int 0, .int (-1), .ref (x 1), .ref (x 9), .int 0, .ref (x 10), .ref (x 13), .ref (x 16), .ref (x 29), .int 0, .int 0, .ref (x 30), .int 0, .ref (x 31), .ref (x 42), .int 0, .int 0, .null, .ref (x 43)]))] (fun v : Int32 => v = 0) := by
  refine metr_go (by decide) (Nat.le_of_ble_eq_true rfl) (fun p e s m below meth c ls S hr hlk hP hK hl => ?_)
  have hl : lv_has ls 2 [(0, .ref (x 0)), (1, .int p0)] := hl
  refine lv_iload_n S.1 S.2.1 dX11_isSheet_0 rfl (lv_at hl 1 rfl) ?_
  refine r_if_lt S z0 h0 dX11_isSheet_1 (tgt := 16) (by decide) (fun e_1_1 => ?_) (fun e_1_1 => ?_)
  · refine lv_iconst (v := 0) S.1 S.2.1 dX11_isSheet_16 (by decide) ?_
    exact ri_ret S hr hlk (by decide) (rfl) dX11_isSheet_17
  · refine lv_iload_n S.1 S.2.1 dX11_isSheet_4 rfl (lv_at hl 1 rfl) ?_
    refine lv_aload_n S.1 S.2.1 dX11_isSheet_5 rfl (lv_at hl 0 rfl) ?_
    refine r_get S hK hP 0 10 rfl rfl inX11 12 (by decide) kw_480 (v := .int 0) rfl dX11_isSheet_6 ?_
    refine r_icmp_ge S z0 0 h0 rfl dX11_isSheet_9 (tgt := 16) (by decide) (fun _ => ?_) (fun c => absurd c (by omega))
    refine lv_iconst (v := 0) S.1 S.2.1 dX11_isSheet_16 (by decide) ?_
    exact ri_ret S hr hlk (by decide) (rfl) dX11_isSheet_17
set_option maxHeartbeats 4000000 in
set_option maxRecDepth 100000 in
theorem kX11_isHand (l : Launch) (D : va_G) (cy : Nat → ClassId) (p0 : Int32) (z0 : Int) (h0 : p0.toInt = z0) : RI l D cy yX11_isHand cX11_isHand 1 (some .boolean) 0 0 [.int p0] [] (fun v : Int32 => (v = 1 ∧ (0 ≤ z0 ∧ z0 ≤ 5)) ∨ (v = 0 ∧ ¬ (0 ≤ z0 ∧ z0 ≤ 5))) := by
  refine metr_go (by decide) (Nat.le_of_ble_eq_true rfl) (fun p e s m below meth c ls S hr hlk hP hK hl => ?_)
  have hl : lv_has ls 1 [(0, .int p0)] := hl
  refine lv_iload_n S.1 S.2.1 dX11_isHand_0 rfl (lv_at hl 0 rfl) ?_
  refine r_if_lt S z0 h0 dX11_isHand_1 (tgt := 14) (by decide) (fun e_1_1 => ?_) (fun e_1_1 => ?_)
  · refine lv_iconst (v := 0) S.1 S.2.1 dX11_isHand_14 (by decide) ?_
    exact ri_ret S hr hlk (by decide) (Or.inr (⟨rfl, (by omega)⟩)) dX11_isHand_15
  · refine lv_iload_n S.1 S.2.1 dX11_isHand_4 rfl (lv_at hl 0 rfl) ?_
    refine lv_bipush (v := 6) S.1 S.2.1 dX11_isHand_5 (by decide) ?_
    refine r_icmp_ge S z0 6 h0 rfl dX11_isHand_7 (tgt := 14) (by decide) (fun e_7_2 => ?_) (fun e_7_2 => ?_)
    · refine lv_iconst (v := 0) S.1 S.2.1 dX11_isHand_14 (by decide) ?_
      exact ri_ret S hr hlk (by decide) (Or.inr (⟨rfl, (by omega)⟩)) dX11_isHand_15
    · refine lv_iconst (v := 1) S.1 S.2.1 dX11_isHand_10 (by decide) ?_
      refine lv_goto (tgt := 15) S.1 S.2.1 dX11_isHand_11 (by decide) ?_
      exact ri_ret S hr hlk (by decide) (Or.inl ⟨rfl, (by omega)⟩) dX11_isHand_15
set_option maxHeartbeats 4000000 in
set_option maxRecDepth 100000 in
theorem kX12_isSight (l : Launch) (D : va_G) (cy : Nat → ClassId) (q : Nat → Nat) (p0 : Int32) (z0 : Int) (h0 : p0.toInt = z0) : RI l D cy yX12_isSight cX12_isSight 2 (some .boolean) 0 0 [.ref (q 0), .int p0] [((q 0), .inr (11, (mO q 0 0 0 0 0 0 0 0 (-1) 1 0 0 0 0 0 0 0 0 0)))] (fun v : Int32 => v = 0) := by
  refine metr_go (by decide) (Nat.le_of_ble_eq_true rfl) (fun p e s m below meth c ls S hr hlk hP hK hl => ?_)
  have hl : lv_has ls 2 [(0, .ref (q 0)), (1, .int p0)] := hl
  refine lv_iload_n S.1 S.2.1 dX12_isSight_0 rfl (lv_at hl 1 rfl) ?_
  refine r_if_lt S z0 h0 dX12_isSight_1 (tgt := 16) (by decide) (fun e_1_1 => ?_) (fun e_1_1 => ?_)
  · refine lv_iconst (v := 0) S.1 S.2.1 dX12_isSight_16 (by decide) ?_
    exact ri_ret S hr hlk (by decide) (rfl) dX12_isSight_17
  · refine lv_iload_n S.1 S.2.1 dX12_isSight_4 rfl (lv_at hl 1 rfl) ?_
    refine lv_aload_n S.1 S.2.1 dX12_isSight_5 rfl (lv_at hl 0 rfl) ?_
    refine r_get S hK hP 0 11 rfl rfl inX12 40 (by decide) kw_1550 (v := .int 0) rfl dX12_isSight_6 ?_
    refine r_icmp_ge S z0 0 h0 rfl dX12_isSight_9 (tgt := 16) (by decide) (fun _ => ?_) (fun c => absurd c (by omega))
    refine lv_iconst (v := 0) S.1 S.2.1 dX12_isSight_16 (by decide) ?_
    exact ri_ret S hr hlk (by decide) (rfl) dX12_isSight_17
set_option maxHeartbeats 4000000 in
set_option maxRecDepth 100000 in
theorem kX11_days (l : Launch) (D : va_G) (cy : Nat → ClassId) (x : Nat → Nat) (p0 : Int32) (z0 : Int) (h0 : p0.toInt = z0) : CI l D cy yX11_days cX11_days 2 (some .int) 0 0 0 0 [.ref (x 0), .int p0] [((x 0), .inr (10, [.int 0, .int (-1), .ref (x 1), .ref (x 9), .int 0, .ref (x 10), .ref (x 13), .ref (x 16), .ref (x 29), .int 0, .int 0, .ref (x 30), .int 0, .ref (x 31), .ref (x 42), .int 0, .int 0, .null, .ref (x 43)]))] (fun (v : Int32) (u : Unit) => (v = p0 ∧ (0 ≤ z0 ∧ z0 ≤ 1000)) ∨ (v = (-1) ∧ ¬ (0 ≤ z0 ∧ z0 ≤ 1000))) (fun (u : Unit) => []) := by
  refine ci_go (by decide) (Nat.le_of_ble_eq_true rfl) (fun p e s m below meth c ls A hA S hr hlk hnm hP hK hD hl => ?_)
  have hS : va_S A s.heap s.heap [] := va_S.rf
  have hl : lv_has ls 2 [(0, .ref (x 0)), (1, .int p0)] := hl
  refine lv_iload_n S.1 S.2.1 dX11_days_0 rfl (lv_at hl 1 rfl) ?_
  refine r_if_lt S z0 h0 dX11_days_1 (tgt := 23) (by decide) (fun e_1_1 => ?_) (fun e_1_1 => ?_)
  · refine lv_iconst (v := (-1)) S.1 S.2.1 dX11_days_23 (by decide) ?_
    exact ci_ret (u := ()) S hr hlk rfl hK (hP.sub [] rfl) (hD.sub [] (by decide) rfl) hS (Or.inr (⟨rfl, (by omega)⟩)) (by decide) (by decide) dX11_days_24
  · refine lv_iload_n S.1 S.2.1 dX11_days_4 rfl (lv_at hl 1 rfl) ?_
    refine lv_sipush (v := 1000) S.1 S.2.1 dX11_days_5 (by decide) ?_
    refine r_icmp_gt S z0 1000 h0 rfl dX11_days_8 (tgt := 23) (by decide) (fun e_8_2 => ?_) (fun e_8_2 => ?_)
    · refine lv_iconst (v := (-1)) S.1 S.2.1 dX11_days_23 (by decide) ?_
      exact ci_ret (u := ()) S hr hlk rfl hK (hP.sub [] rfl) (hD.sub [] (by decide) rfl) hS (Or.inr (⟨rfl, (by omega)⟩)) (by decide) (by decide) dX11_days_24
    · refine lv_aload_n S.1 S.2.1 dX11_days_11 rfl (lv_at hl 0 rfl) ?_
      refine r_get S hK hP 0 10 rfl rfl inX11 0 (by decide) kw_468 (v := .int 0) rfl dX11_days_12 ?_
      refine lv_iload_n S.1 S.2.1 dX11_days_15 rfl (lv_at hl 1 rfl) ?_
      refine r_iadd S dX11_days_16 (v := p0) (Int32.zero_add _) ?_
      refine lv_sipush (v := 9999) S.1 S.2.1 dX11_days_17 (by decide) ?_
      refine r_icmp_le S z0 9999 h0 rfl dX11_days_20 (tgt := 25) (by decide) (fun e_20_3 => ?_) (fun e_20_3 => ?_)
      · refine lv_aload_n S.1 S.2.1 dX11_days_25 rfl (lv_at hl 0 rfl) ?_
        refine lv_dup S.1 S.2.1 dX11_days_26 rfl ?_
        refine r_get S hK hP 0 10 rfl rfl inX11 0 (by decide) kw_468 (v := .int 0) rfl dX11_days_27 ?_
        refine lv_iload_n S.1 S.2.1 dX11_days_30 rfl (lv_at hl 1 rfl) ?_
        refine r_iadd S dX11_days_31 (v := p0) (Int32.zero_add _) ?_
        refine r_put S hK hP hD hS 0 10 rfl rfl inX11 0 (by decide) tyX11 tyX11_ok nmX11 kw_468 (v := .int p0) rfl rfl rfl (Nat.le_of_ble_eq_true rfl) dX11_days_32 (fun H locs hP hD hS => ?_)
        have hP : va_P D vwCl [((x 0), .inr (10, [.int p0, .int (-1), .ref (x 1), .ref (x 9), .int 0, .ref (x 10), .ref (x 13), .ref (x 16), .ref (x 29), .int 0, .int 0, .ref (x 30), .int 0, .ref (x 31), .ref (x 42), .int 0, .int 0, .null, .ref (x 43)]))] H := hP
        have hD : va_D A [((x 0), .inr (10, [.int p0, .int (-1), .ref (x 1), .ref (x 9), .int 0, .ref (x 10), .ref (x 13), .ref (x 16), .ref (x 29), .int 0, .int 0, .ref (x 30), .int 0, .ref (x 31), .ref (x 42), .int 0, .int 0, .null, .ref (x 43)]))] := hD
        refine lv_aload_n S.1 S.2.1 dX11_days_35 rfl (lv_at hl 0 rfl) ?_
        refine r_get S hK hP 0 10 rfl rfl inX11 0 (by decide) kw_468 (v := .int p0) rfl dX11_days_36 ?_
        exact ci_ret (u := ()) S hr hlk rfl hK (hP.sub [] rfl) (hD.sub [] (by decide) rfl) hS (Or.inl ⟨rfl, (by omega)⟩) (by decide) (by decide) dX11_days_39
      · refine lv_iconst (v := (-1)) S.1 S.2.1 dX11_days_23 (by decide) ?_
        exact ci_ret (u := ()) S hr hlk rfl hK (hP.sub [] rfl) (hD.sub [] (by decide) rfl) hS (Or.inr (⟨rfl, (by omega)⟩)) (by decide) (by decide) dX11_days_24
set_option maxHeartbeats 4000000 in
set_option maxRecDepth 100000 in
theorem kX12_days (l : Launch) (D : va_G) (cy : Nat → ClassId) (q : Nat → Nat) (p0 : Int32) (z0 : Int) (h0 : p0.toInt = z0) : CI l D cy yX12_days cX12_days 2 (some .int) 1 22 0 0 [.ref (q 0), .int p0] [((q 0), .inr (11, (mO q 0 0 0 0 0 0 0 0 (-1) 1 0 0 0 0 0 0 0 0 0)))] (fun (v : Int32) (u : Unit) => (v = p0 ∧ (0 ≤ z0 ∧ z0 ≤ 1000)) ∨ (v = (-1) ∧ ¬ (0 ≤ z0 ∧ z0 ≤ 1000))) (fun (u : Unit) => []) := by
  refine ci_go (by decide) (Nat.le_of_ble_eq_true rfl) (fun p e s m below meth c ls A hA S hr hlk hnm hP hK hD hl => ?_)
  have hS : va_S A s.heap s.heap [] := va_S.rf
  have hl : lv_has ls 2 [(0, .ref (q 0)), (1, .int p0)] := hl
  refine lv_aload_n S.1 S.2.1 dX12_days_0 rfl (lv_at hl 0 rfl) ?_
  refine lv_iconst (v := 0) S.1 S.2.1 dX12_days_1 (by decide) ?_
  refine r_put S hK hP hD hS 0 11 rfl rfl inX12 0 (by decide) tyX12 tyX12_ok nmX12 kw_1510 (v := .int 0) rfl rfl rfl (Nat.le_of_ble_eq_true rfl) dX12_days_2 (fun H locs hP hD hS => ?_)
  have hP : va_P D vwCl [((q 0), .inr (11, (mO q 0 0 0 0 0 0 0 0 (-1) 1 0 0 0 0 0 0 0 0 0)))] H := hP
  have hD : va_D A [((q 0), .inr (11, (mO q 0 0 0 0 0 0 0 0 (-1) 1 0 0 0 0 0 0 0 0 0)))] := hD
  refine lv_iload_n S.1 S.2.1 dX12_days_5 rfl (lv_at hl 1 rfl) ?_
  refine lv_iconst (v := 0) S.1 S.2.1 dX12_days_6 (by decide) ?_
  refine lv_sipush (v := 1000) S.1 S.2.1 dX12_days_7 (by decide) ?_
  refine call_ri (runS_R (wc := []) (As := [.int p0, .int 0, .int 1000]) (rest := []) S (kX12_within l D cy p0 0 1000 z0 h0 0 rfl 1000 rfl) hK hP [] rfl kw_1892 kw_1893 kw_152 kw_1894 okX12_within rfl (by decide) hl.1 rfl (Nat.le_of_ble_eq_true rfl) dX12_days_10 (by decide)) (fun v10 w10 => ?_)
  rcases w10 with ⟨rfl, w10_0_0⟩ | ⟨rfl, w10_1_0⟩
  · refine r_if_eq S 1 rfl dX12_days_13 (tgt := 28) (by decide) (fun c => absurd c (by decide)) (fun _ => ?_)
    refine lv_aload_n S.1 S.2.1 dX12_days_16 rfl (lv_at hl 0 rfl) ?_
    refine r_get S hK hP 0 11 rfl rfl inX12 33 (by decide) kw_1543 (v := .int 0) rfl dX12_days_17 ?_
    refine lv_iload_n S.1 S.2.1 dX12_days_20 rfl (lv_at hl 1 rfl) ?_
    refine r_iadd S dX12_days_21 (v := p0) (Int32.zero_add _) ?_
    refine lv_sipush (v := 9999) S.1 S.2.1 dX12_days_22 (by decide) ?_
    refine r_icmp_le S z0 9999 h0 rfl dX12_days_25 (tgt := 30) (by decide) (fun e_25_1 => ?_) (fun e_25_1 => ?_)
    · refine lv_aload_n S.1 S.2.1 dX12_days_30 rfl (lv_at hl 0 rfl) ?_
      refine lv_dup S.1 S.2.1 dX12_days_31 rfl ?_
      refine r_get S hK hP 0 11 rfl rfl inX12 33 (by decide) kw_1543 (v := .int 0) rfl dX12_days_32 ?_
      refine lv_iload_n S.1 S.2.1 dX12_days_35 rfl (lv_at hl 1 rfl) ?_
      refine r_iadd S dX12_days_36 (v := p0) (Int32.zero_add _) ?_
      refine r_put S hK hP hD hS 0 11 rfl rfl inX12 33 (by decide) tyX12 tyX12_ok nmX12 kw_1543 (v := .int p0) rfl rfl rfl (Nat.le_of_ble_eq_true rfl) dX12_days_37 (fun H locs hP hD hS => ?_)
      have hP : va_P D vwCl [((q 0), .inr (11, (mO q 0 0 0 0 0 0 0 p0 (-1) 1 0 0 0 0 0 0 0 0 0)))] H := hP
      have hD : va_D A [((q 0), .inr (11, (mO q 0 0 0 0 0 0 0 p0 (-1) 1 0 0 0 0 0 0 0 0 0)))] := hD
      refine lv_aload_n S.1 S.2.1 dX12_days_40 rfl (lv_at hl 0 rfl) ?_
      refine lv_iconst (v := 1) S.1 S.2.1 dX12_days_41 (by decide) ?_
      refine r_put S hK hP hD hS 0 11 rfl rfl inX12 35 (by decide) tyX12 tyX12_ok nmX12 kw_1545 (v := .int 1) rfl (by decide) (by decide) (Nat.le_of_ble_eq_true rfl) dX12_days_42 (fun H locs hP hD hS => ?_)
      have hP : va_P D vwCl [((q 0), .inr (11, (mO q 0 0 0 0 0 0 0 p0 (-1) 1 0 0 0 0 0 0 0 0 0)))] H := hP
      have hD : va_D A [((q 0), .inr (11, (mO q 0 0 0 0 0 0 0 p0 (-1) 1 0 0 0 0 0 0 0 0 0)))] := hD
      refine lv_aload_n S.1 S.2.1 dX12_days_45 rfl (lv_at hl 0 rfl) ?_
      refine r_get S hK hP 0 11 rfl rfl inX12 33 (by decide) kw_1543 (v := .int p0) rfl dX12_days_46 ?_
      exact ci_ret (u := ()) S hr hlk rfl hK (hP.sub [] rfl) (hD.sub [] (by decide) rfl) hS (Or.inl ⟨rfl, (by omega)⟩) (by decide) (by decide) dX12_days_49
    · refine lv_iconst (v := (-1)) S.1 S.2.1 dX12_days_28 (by decide) ?_
      exact ci_ret (u := ()) S hr hlk rfl hK (hP.sub [] rfl) (hD.sub [] (by decide) rfl) hS (Or.inr (⟨rfl, (by omega)⟩)) (by decide) (by decide) dX12_days_29
  · refine r_if_eq S 0 rfl dX12_days_13 (tgt := 28) (by decide) (fun _ => ?_) (fun c => absurd c (by decide))
    refine lv_iconst (v := (-1)) S.1 S.2.1 dX12_days_28 (by decide) ?_
    exact ci_ret (u := ()) S hr hlk rfl hK (hP.sub [] rfl) (hD.sub [] (by decide) rfl) hS (Or.inr (⟨rfl, (by omega)⟩)) (by decide) (by decide) dX12_days_29
set_option maxHeartbeats 4000000 in
set_option maxRecDepth 100000 in
theorem kX11_view (l : Launch) (D : va_G) (cy : Nat → ClassId) (x : Nat → Nat) (p0 : Int32) (z0 : Int) (h0 : p0.toInt = z0) : CI l D cy yX11_view cX11_view 2 (some .boolean) 0 0 0 0 [.ref (x 0), .int p0] [((x 0), .inr (10, [.int 0, .int (-1), .ref (x 1), .ref (x 9), .int 0, .ref (x 10), .ref (x 13), .ref (x 16), .ref (x 29), .int 0, .int 0, .ref (x 30), .int 0, .ref (x 31), .ref (x 42), .int 0, .int 0, .null, .ref (x 43)]))] (fun (v : Int32) (u : Unit) => (v = 1 ∧ (0 ≤ z0 ∧ z0 ≤ 0)) ∨ (v = 0 ∧ ¬ (0 ≤ z0 ∧ z0 ≤ 0))) (fun (u : Unit) => []) := by
  refine ci_go (by decide) (Nat.le_of_ble_eq_true rfl) (fun p e s m below meth c ls A hA S hr hlk hnm hP hK hD hl => ?_)
  have hS : va_S A s.heap s.heap [] := va_S.rf
  have hl : lv_has ls 2 [(0, .ref (x 0)), (1, .int p0)] := hl
  refine lv_iload_n S.1 S.2.1 dX11_view_0 rfl (lv_at hl 1 rfl) ?_
  refine r_if_lt S z0 h0 dX11_view_1 (tgt := 12) (by decide) (fun e_1_1 => ?_) (fun e_1_1 => ?_)
  · refine lv_iconst (v := 0) S.1 S.2.1 dX11_view_12 (by decide) ?_
    exact ci_ret (u := ()) S hr hlk (by decide) hK (hP.sub [] rfl) (hD.sub [] (by decide) rfl) hS (Or.inr (⟨rfl, (by omega)⟩)) (by decide) (by decide) dX11_view_13
  · refine lv_iload_n S.1 S.2.1 dX11_view_4 rfl (lv_at hl 1 rfl) ?_
    refine lv_aload_n S.1 S.2.1 dX11_view_5 rfl (lv_at hl 0 rfl) ?_
    refine r_get S hK hP 0 10 rfl rfl inX11 0 (by decide) kw_468 (v := .int 0) rfl dX11_view_6 ?_
    refine r_icmp_le S z0 0 h0 rfl dX11_view_9 (tgt := 14) (by decide) (fun e_9_2 => ?_) (fun e_9_2 => ?_)
    · refine lv_aload_n S.1 S.2.1 dX11_view_14 rfl (lv_at hl 0 rfl) ?_
      refine lv_iload_n S.1 S.2.1 dX11_view_15 rfl (lv_at hl 1 rfl) ?_
      refine lv_aload_n S.1 S.2.1 dX11_view_16 rfl (lv_at hl 0 rfl) ?_
      refine r_get S hK hP 0 10 rfl rfl inX11 0 (by decide) kw_468 (v := .int 0) rfl dX11_view_17 ?_
      refine r_icmp_ne S z0 0 h0 rfl dX11_view_20 (tgt := 27) (by decide) (fun e_20_3 => ?_) (fun e_20_3 => ?_)
      · refine lv_iload_n S.1 S.2.1 dX11_view_27 rfl (lv_at hl 1 rfl) ?_
        refine r_put S hK hP hD hS 0 10 rfl rfl inX11 1 (by decide) tyX11 tyX11_ok nmX11 kw_469 (v := .int p0) rfl rfl rfl (Nat.le_of_ble_eq_true rfl) dX11_view_28 (fun H locs hP hD hS => ?_)
        have hP : va_P D vwCl [((x 0), .inr (10, [.int 0, .int p0, .ref (x 1), .ref (x 9), .int 0, .ref (x 10), .ref (x 13), .ref (x 16), .ref (x 29), .int 0, .int 0, .ref (x 30), .int 0, .ref (x 31), .ref (x 42), .int 0, .int 0, .null, .ref (x 43)]))] H := hP
        have hD : va_D A [((x 0), .inr (10, [.int 0, .int p0, .ref (x 1), .ref (x 9), .int 0, .ref (x 10), .ref (x 13), .ref (x 16), .ref (x 29), .int 0, .int 0, .ref (x 30), .int 0, .ref (x 31), .ref (x 42), .int 0, .int 0, .null, .ref (x 43)]))] := hD
        refine lv_aload_n S.1 S.2.1 dX11_view_31 rfl (lv_at hl 0 rfl) ?_
        refine lv_iconst (v := 0) S.1 S.2.1 dX11_view_32 (by decide) ?_
        refine r_put S hK hP hD hS 0 10 rfl rfl inX11 15 (by decide) tyX11 tyX11_ok nmX11 kw_483 (v := .int 0) rfl (by decide) (by decide) (Nat.le_of_ble_eq_true rfl) dX11_view_33 (fun H locs hP hD hS => ?_)
        have hP : va_P D vwCl [((x 0), .inr (10, [.int 0, .int p0, .ref (x 1), .ref (x 9), .int 0, .ref (x 10), .ref (x 13), .ref (x 16), .ref (x 29), .int 0, .int 0, .ref (x 30), .int 0, .ref (x 31), .ref (x 42), .int 0, .int 0, .null, .ref (x 43)]))] H := hP
        have hD : va_D A [((x 0), .inr (10, [.int 0, .int p0, .ref (x 1), .ref (x 9), .int 0, .ref (x 10), .ref (x 13), .ref (x 16), .ref (x 29), .int 0, .int 0, .ref (x 30), .int 0, .ref (x 31), .ref (x 42), .int 0, .int 0, .null, .ref (x 43)]))] := hD
        refine lv_iconst (v := 1) S.1 S.2.1 dX11_view_36 (by decide) ?_
        exact ci_ret (u := ()) S hr hlk (by decide) hK (hP.sub [] rfl) (hD.sub [] (by decide) rfl) hS (Or.inl ⟨rfl, (by omega)⟩) (by decide) (by decide) dX11_view_37
      · refine lv_iconst (v := (-1)) S.1 S.2.1 dX11_view_23 (by decide) ?_
        refine lv_goto (tgt := 28) S.1 S.2.1 dX11_view_24 (by decide) ?_
        refine r_put S hK hP hD hS 0 10 rfl rfl inX11 1 (by decide) tyX11 tyX11_ok nmX11 kw_469 (v := .int (-1)) rfl rfl rfl (Nat.le_of_ble_eq_true rfl) dX11_view_28 (fun H locs hP hD hS => ?_)
        have hP : va_P D vwCl [((x 0), .inr (10, [.int 0, .int (-1), .ref (x 1), .ref (x 9), .int 0, .ref (x 10), .ref (x 13), .ref (x 16), .ref (x 29), .int 0, .int 0, .ref (x 30), .int 0, .ref (x 31), .ref (x 42), .int 0, .int 0, .null, .ref (x 43)]))] H := hP
        have hD : va_D A [((x 0), .inr (10, [.int 0, .int (-1), .ref (x 1), .ref (x 9), .int 0, .ref (x 10), .ref (x 13), .ref (x 16), .ref (x 29), .int 0, .int 0, .ref (x 30), .int 0, .ref (x 31), .ref (x 42), .int 0, .int 0, .null, .ref (x 43)]))] := hD
        refine lv_aload_n S.1 S.2.1 dX11_view_31 rfl (lv_at hl 0 rfl) ?_
        refine lv_iconst (v := 0) S.1 S.2.1 dX11_view_32 (by decide) ?_
        refine r_put S hK hP hD hS 0 10 rfl rfl inX11 15 (by decide) tyX11 tyX11_ok nmX11 kw_483 (v := .int 0) rfl (by decide) (by decide) (Nat.le_of_ble_eq_true rfl) dX11_view_33 (fun H locs hP hD hS => ?_)
        have hP : va_P D vwCl [((x 0), .inr (10, [.int 0, .int (-1), .ref (x 1), .ref (x 9), .int 0, .ref (x 10), .ref (x 13), .ref (x 16), .ref (x 29), .int 0, .int 0, .ref (x 30), .int 0, .ref (x 31), .ref (x 42), .int 0, .int 0, .null, .ref (x 43)]))] H := hP
        have hD : va_D A [((x 0), .inr (10, [.int 0, .int (-1), .ref (x 1), .ref (x 9), .int 0, .ref (x 10), .ref (x 13), .ref (x 16), .ref (x 29), .int 0, .int 0, .ref (x 30), .int 0, .ref (x 31), .ref (x 42), .int 0, .int 0, .null, .ref (x 43)]))] := hD
        refine lv_iconst (v := 1) S.1 S.2.1 dX11_view_36 (by decide) ?_
        exact ci_ret (u := ()) S hr hlk (by decide) hK (hP.sub [] rfl) (hD.sub [] (by decide) rfl) hS (Or.inl ⟨rfl, (by omega)⟩) (by decide) (by decide) dX11_view_37
    · refine lv_iconst (v := 0) S.1 S.2.1 dX11_view_12 (by decide) ?_
      exact ci_ret (u := ()) S hr hlk (by decide) hK (hP.sub [] rfl) (hD.sub [] (by decide) rfl) hS (Or.inr (⟨rfl, (by omega)⟩)) (by decide) (by decide) dX11_view_13
set_option maxHeartbeats 4000000 in
set_option maxRecDepth 100000 in
theorem kX12_view (l : Launch) (D : va_G) (cy : Nat → ClassId) (q : Nat → Nat) (p0 : Int32) (z0 : Int) (h0 : p0.toInt = z0) : CI l D cy yX12_view cX12_view 2 (some .boolean) 1 22 0 0 [.ref (q 0), .int p0] [((q 0), .inr (11, (mO q 0 0 0 0 0 0 0 0 (-1) 1 0 0 0 0 0 0 0 0 0)))] (fun (v : Int32) (u : Unit) => (v = 1 ∧ (0 ≤ z0 ∧ z0 ≤ 0)) ∨ (v = 0 ∧ ¬ (0 ≤ z0 ∧ z0 ≤ 0))) (fun (u : Unit) => []) := by
  refine ci_go (by decide) (Nat.le_of_ble_eq_true rfl) (fun p e s m below meth c ls A hA S hr hlk hnm hP hK hD hl => ?_)
  have hS : va_S A s.heap s.heap [] := va_S.rf
  have hl : lv_has ls 2 [(0, .ref (q 0)), (1, .int p0)] := hl
  refine lv_aload_n S.1 S.2.1 dX12_view_0 rfl (lv_at hl 0 rfl) ?_
  refine lv_iconst (v := 0) S.1 S.2.1 dX12_view_1 (by decide) ?_
  refine r_put S hK hP hD hS 0 11 rfl rfl inX12 0 (by decide) tyX12 tyX12_ok nmX12 kw_1510 (v := .int 0) rfl rfl rfl (Nat.le_of_ble_eq_true rfl) dX12_view_2 (fun H locs hP hD hS => ?_)
  have hP : va_P D vwCl [((q 0), .inr (11, (mO q 0 0 0 0 0 0 0 0 (-1) 1 0 0 0 0 0 0 0 0 0)))] H := hP
  have hD : va_D A [((q 0), .inr (11, (mO q 0 0 0 0 0 0 0 0 (-1) 1 0 0 0 0 0 0 0 0 0)))] := hD
  refine lv_iload_n S.1 S.2.1 dX12_view_5 rfl (lv_at hl 1 rfl) ?_
  refine lv_iconst (v := 0) S.1 S.2.1 dX12_view_6 (by decide) ?_
  refine lv_aload_n S.1 S.2.1 dX12_view_7 rfl (lv_at hl 0 rfl) ?_
  refine r_get S hK hP 0 11 rfl rfl inX12 33 (by decide) kw_1543 (v := .int 0) rfl dX12_view_8 ?_
  refine call_ri (runS_R (wc := []) (As := [.int p0, .int 0, .int 0]) (rest := []) S (kX12_within l D cy p0 0 0 z0 h0 0 rfl 0 rfl) hK hP [] rfl kw_1892 kw_1893 kw_152 kw_1894 okX12_within rfl (by decide) hl.1 rfl (Nat.le_of_ble_eq_true rfl) dX12_view_11 (by decide)) (fun v11 w11 => ?_)
  rcases w11 with ⟨rfl, w11_0_0⟩ | ⟨rfl, w11_1_0⟩
  · refine r_if_ne S 1 rfl dX12_view_14 (tgt := 19) (by decide) (fun _ => ?_) (fun c => absurd c (by decide))
    refine lv_aload_n S.1 S.2.1 dX12_view_19 rfl (lv_at hl 0 rfl) ?_
    refine lv_iload_n S.1 S.2.1 dX12_view_20 rfl (lv_at hl 1 rfl) ?_
    refine lv_aload_n S.1 S.2.1 dX12_view_21 rfl (lv_at hl 0 rfl) ?_
    refine r_get S hK hP 0 11 rfl rfl inX12 33 (by decide) kw_1543 (v := .int 0) rfl dX12_view_22 ?_
    refine r_icmp_ne S z0 0 h0 rfl dX12_view_25 (tgt := 32) (by decide) (fun e_25_1 => ?_) (fun e_25_1 => ?_)
    · refine lv_iload_n S.1 S.2.1 dX12_view_32 rfl (lv_at hl 1 rfl) ?_
      refine r_put S hK hP hD hS 0 11 rfl rfl inX12 34 (by decide) tyX12 tyX12_ok nmX12 kw_1544 (v := .int p0) rfl rfl rfl (Nat.le_of_ble_eq_true rfl) dX12_view_33 (fun H locs hP hD hS => ?_)
      have hP : va_P D vwCl [((q 0), .inr (11, (mO q 0 0 0 0 0 0 0 0 p0 1 0 0 0 0 0 0 0 0 0)))] H := hP
      have hD : va_D A [((q 0), .inr (11, (mO q 0 0 0 0 0 0 0 0 p0 1 0 0 0 0 0 0 0 0 0)))] := hD
      refine lv_aload_n S.1 S.2.1 dX12_view_36 rfl (lv_at hl 0 rfl) ?_
      refine lv_iconst (v := 1) S.1 S.2.1 dX12_view_37 (by decide) ?_
      refine r_put S hK hP hD hS 0 11 rfl rfl inX12 35 (by decide) tyX12 tyX12_ok nmX12 kw_1545 (v := .int 1) rfl (by decide) (by decide) (Nat.le_of_ble_eq_true rfl) dX12_view_38 (fun H locs hP hD hS => ?_)
      have hP : va_P D vwCl [((q 0), .inr (11, (mO q 0 0 0 0 0 0 0 0 p0 1 0 0 0 0 0 0 0 0 0)))] H := hP
      have hD : va_D A [((q 0), .inr (11, (mO q 0 0 0 0 0 0 0 0 p0 1 0 0 0 0 0 0 0 0 0)))] := hD
      refine lv_iconst (v := 1) S.1 S.2.1 dX12_view_41 (by decide) ?_
      exact ci_ret (u := ()) S hr hlk (by decide) hK (hP.sub [] rfl) (hD.sub [] (by decide) rfl) hS (Or.inl ⟨rfl, (by omega)⟩) (by decide) (by decide) dX12_view_42
    · refine lv_iconst (v := (-1)) S.1 S.2.1 dX12_view_28 (by decide) ?_
      refine lv_goto (tgt := 33) S.1 S.2.1 dX12_view_29 (by decide) ?_
      refine r_put S hK hP hD hS 0 11 rfl rfl inX12 34 (by decide) tyX12 tyX12_ok nmX12 kw_1544 (v := .int (-1)) rfl rfl rfl (Nat.le_of_ble_eq_true rfl) dX12_view_33 (fun H locs hP hD hS => ?_)
      have hP : va_P D vwCl [((q 0), .inr (11, (mO q 0 0 0 0 0 0 0 0 (-1) 1 0 0 0 0 0 0 0 0 0)))] H := hP
      have hD : va_D A [((q 0), .inr (11, (mO q 0 0 0 0 0 0 0 0 (-1) 1 0 0 0 0 0 0 0 0 0)))] := hD
      refine lv_aload_n S.1 S.2.1 dX12_view_36 rfl (lv_at hl 0 rfl) ?_
      refine lv_iconst (v := 1) S.1 S.2.1 dX12_view_37 (by decide) ?_
      refine r_put S hK hP hD hS 0 11 rfl rfl inX12 35 (by decide) tyX12 tyX12_ok nmX12 kw_1545 (v := .int 1) rfl (by decide) (by decide) (Nat.le_of_ble_eq_true rfl) dX12_view_38 (fun H locs hP hD hS => ?_)
      have hP : va_P D vwCl [((q 0), .inr (11, (mO q 0 0 0 0 0 0 0 0 (-1) 1 0 0 0 0 0 0 0 0 0)))] H := hP
      have hD : va_D A [((q 0), .inr (11, (mO q 0 0 0 0 0 0 0 0 (-1) 1 0 0 0 0 0 0 0 0 0)))] := hD
      refine lv_iconst (v := 1) S.1 S.2.1 dX12_view_41 (by decide) ?_
      exact ci_ret (u := ()) S hr hlk (by decide) hK (hP.sub [] rfl) (hD.sub [] (by decide) rfl) hS (Or.inl ⟨rfl, (by omega)⟩) (by decide) (by decide) dX12_view_42
  · refine r_if_ne S 0 rfl dX12_view_14 (tgt := 19) (by decide) (fun c => absurd c (by decide)) (fun _ => ?_)
    refine lv_iconst (v := 0) S.1 S.2.1 dX12_view_17 (by decide) ?_
    exact ci_ret (u := ()) S hr hlk (by decide) hK (hP.sub [] rfl) (hD.sub [] (by decide) rfl) hS (Or.inr (⟨rfl, (by omega)⟩)) (by decide) (by decide) dX12_view_18
set_option maxHeartbeats 4000000 in
set_option maxRecDepth 100000 in
theorem kX11_fold (l : Launch) (D : va_G) (cy : Nat → ClassId) (x : Nat → Nat) (p0 : Int32) (p1 : Int32) (p2 : Int32) (z0 : Int) (h0 : p0.toInt = z0) (z1 : Int) (h1 : p1.toInt = z1) (z2 : Int) (h2 : p2.toInt = z2) : CI l D cy yX11_fold cX11_fold 5 (some .boolean) 1 21 0 0 [.ref (x 0), .int p0, .int p1, .int p2] [((x 0), .inr (10, [.int 0, .int (-1), .ref (x 1), .ref (x 9), .int 0, .ref (x 10), .ref (x 13), .ref (x 16), .ref (x 29), .int 0, .int 0, .ref (x 30), .int 0, .ref (x 31), .ref (x 42), .int 0, .int 0, .null, .ref (x 43)])), ((x 1), .inr (2, [.ref (x 2), .ref (x 3), .ref (x 4), .ref (x 5), .ref (x 6), .int 0, .ref (x 7), .ref (x 8), .int 0])), ((x 4), .inl (cy 1, 96, .inl (fun _ => 0)))] (fun (v : Int32) (u : Unit) => (v = 1 ∧ (0 ≤ z0 ∧ z0 ≤ 11 ∧ 0 ≤ z1 ∧ z1 ≤ 7)) ∨ (v = 0 ∧ ¬ (0 ≤ z0 ∧ z0 ≤ 11 ∧ 0 ≤ z1 ∧ z1 ≤ 7))) (fun (u : Unit) => []) := by
  refine ci_go (by decide) (Nat.le_of_ble_eq_true rfl) (fun p e s m below meth c ls A hA S hr hlk hnm hP hK hD hl => ?_)
  have hS : va_S A s.heap s.heap [] := va_S.rf
  have hl : lv_has ls 5 [(0, .ref (x 0)), (1, .int p0), (2, .int p1), (3, .int p2)] := hl
  refine lv_iload_n S.1 S.2.1 dX11_fold_0 rfl (lv_at hl 1 rfl) ?_
  refine lv_iload_n S.1 S.2.1 dX11_fold_1 rfl (lv_at hl 2 rfl) ?_
  refine call_ri (runS_R (wc := []) (As := [.int p0, .int p1]) (rest := []) S (kX11_cellAt l D cy p0 p1 z0 h0 z1 h1) hK hP [] rfl kw_538 kw_539 kw_144 kw_540 okX11_cellAt rfl (by decide) hl.1 rfl (Nat.le_of_ble_eq_true rfl) dX11_fold_2 (by decide)) (fun v2 w2 => ?_)
  rcases w2 with ⟨rfl, w2_0_0⟩ | ⟨cx_2, cl_2, rfl, w2_1_0, w2_1_1, w2_1_2, w2_1_3⟩
  · refine lv_istore (lv' := [(4, .int (-1)), (0, .ref (x 0)), (1, .int p0), (2, .int p1), (3, .int p2)]) S.1 S.2.1 dX11_fold_5 hl (by decide) rfl (fun ls hl => ?_)
    refine lv_iload S.1 S.2.1 dX11_fold_7 (lv_at hl 0 rfl) ?_
    refine lv_iconst (v := (-1)) S.1 S.2.1 dX11_fold_9 (by decide) ?_
    refine r_icmp_ne S (-1) (-1) rfl rfl dX11_fold_10 (tgt := 15) (by decide) (fun c => absurd c (by decide)) (fun _ => ?_)
    refine lv_iconst (v := 0) S.1 S.2.1 dX11_fold_13 (by decide) ?_
    exact ci_ret (u := ()) S hr hlk (by decide) hK (hP.sub [] rfl) (hD.sub [] (by decide) rfl) hS (Or.inr (⟨rfl, (by omega)⟩)) (by decide) (by decide) dX11_fold_14
  · refine lv_istore (lv' := [(4, .int (nI (12 * cl_2 + cx_2))), (0, .ref (x 0)), (1, .int p0), (2, .int p1), (3, .int p2)]) S.1 S.2.1 dX11_fold_5 hl (by decide) rfl (fun ls hl => ?_)
    refine lv_iload S.1 S.2.1 dX11_fold_7 (lv_at hl 0 rfl) ?_
    refine lv_iconst (v := (-1)) S.1 S.2.1 dX11_fold_9 (by decide) ?_
    refine r_icmp_ne S ((12 * cl_2 + cx_2 : Nat) : Int) (-1) (nI_toInt (by omega)) rfl dX11_fold_10 (tgt := 15) (by decide) (fun _ => ?_) (fun c => absurd c (by omega))
    refine lv_aload_n S.1 S.2.1 dX11_fold_15 rfl (lv_at hl 1 rfl) ?_
    refine r_get S hK hP 0 10 rfl rfl inX11 2 (by decide) kw_470 (v := .ref (x 1)) rfl dX11_fold_16 ?_
    refine r_get S hK hP 1 2 rfl rfl inX2 2 (by decide) kw_194 (v := .ref (x 4)) rfl dX11_fold_19 ?_
    refine lv_iload S.1 S.2.1 dX11_fold_22 (lv_at hl 0 rfl) ?_
    refine lv_iload_n S.1 S.2.1 dX11_fold_24 rfl (lv_at hl 4 rfl) ?_
    refine r_zast S hK hP hD hS 2 1 rfl rfl ((12 * cl_2 + cx_2)) rfl (by omega) (by decide) dX11_fold_25 (fun H locs hP hD hS => ?_)
    have hP : va_P D vwCl [((x 0), .inr (10, [.int 0, .int (-1), .ref (x 1), .ref (x 9), .int 0, .ref (x 10), .ref (x 13), .ref (x 16), .ref (x 29), .int 0, .int 0, .ref (x 30), .int 0, .ref (x 31), .ref (x 42), .int 0, .int 0, .null, .ref (x 43)])), ((x 1), .inr (2, [.ref (x 2), .ref (x 3), .ref (x 4), .ref (x 5), .ref (x 6), .int 0, .ref (x 7), .ref (x 8), .int 0])), ((x 4), .inl (cy 1, 96, .inl (upd (fun _ => 0) ((12 * cl_2 + cx_2)) (vp_nar .boolean p2))))] H := hP
    have hD : va_D A [((x 0), .inr (10, [.int 0, .int (-1), .ref (x 1), .ref (x 9), .int 0, .ref (x 10), .ref (x 13), .ref (x 16), .ref (x 29), .int 0, .int 0, .ref (x 30), .int 0, .ref (x 31), .ref (x 42), .int 0, .int 0, .null, .ref (x 43)])), ((x 1), .inr (2, [.ref (x 2), .ref (x 3), .ref (x 4), .ref (x 5), .ref (x 6), .int 0, .ref (x 7), .ref (x 8), .int 0])), ((x 4), .inl (cy 1, 96, .inl (upd (fun _ => 0) ((12 * cl_2 + cx_2)) (vp_nar .boolean p2))))] := hD
    refine lv_aload_n S.1 S.2.1 dX11_fold_26 rfl (lv_at hl 1 rfl) ?_
    refine lv_iconst (v := 0) S.1 S.2.1 dX11_fold_27 (by decide) ?_
    refine r_put S hK hP hD hS 0 10 rfl rfl inX11 15 (by decide) tyX11 tyX11_ok nmX11 kw_483 (v := .int 0) rfl (by decide) (by decide) (Nat.le_of_ble_eq_true rfl) dX11_fold_28 (fun H locs hP hD hS => ?_)
    have hP : va_P D vwCl [((x 0), .inr (10, [.int 0, .int (-1), .ref (x 1), .ref (x 9), .int 0, .ref (x 10), .ref (x 13), .ref (x 16), .ref (x 29), .int 0, .int 0, .ref (x 30), .int 0, .ref (x 31), .ref (x 42), .int 0, .int 0, .null, .ref (x 43)])), ((x 1), .inr (2, [.ref (x 2), .ref (x 3), .ref (x 4), .ref (x 5), .ref (x 6), .int 0, .ref (x 7), .ref (x 8), .int 0])), ((x 4), .inl (cy 1, 96, .inl (upd (fun _ => 0) ((12 * cl_2 + cx_2)) (vp_nar .boolean p2))))] H := hP
    have hD : va_D A [((x 0), .inr (10, [.int 0, .int (-1), .ref (x 1), .ref (x 9), .int 0, .ref (x 10), .ref (x 13), .ref (x 16), .ref (x 29), .int 0, .int 0, .ref (x 30), .int 0, .ref (x 31), .ref (x 42), .int 0, .int 0, .null, .ref (x 43)])), ((x 1), .inr (2, [.ref (x 2), .ref (x 3), .ref (x 4), .ref (x 5), .ref (x 6), .int 0, .ref (x 7), .ref (x 8), .int 0])), ((x 4), .inl (cy 1, 96, .inl (upd (fun _ => 0) ((12 * cl_2 + cx_2)) (vp_nar .boolean p2))))] := hD
    refine lv_iconst (v := 1) S.1 S.2.1 dX11_fold_31 (by decide) ?_
    exact ci_ret (u := ()) S hr hlk (by decide) hK (hP.sub [] rfl) (hD.sub [] (by decide) rfl) hS (Or.inl ⟨rfl, (by omega)⟩) (by decide) (by decide) dX11_fold_32
set_option maxHeartbeats 4000000 in
set_option maxRecDepth 100000 in
theorem kX12_fold (l : Launch) (D : va_G) (cy : Nat → ClassId) (q : Nat → Nat) (p0 : Int32) (p1 : Int32) (p2 : Int32) (z0 : Int) (h0 : p0.toInt = z0) (z1 : Int) (h1 : p1.toInt = z1) (z2 : Int) (h2 : p2.toInt = z2) : CI l D cy yX12_fold cX12_fold 4 (some .boolean) 2 43 0 0 [.ref (q 0), .int p0, .int p1, .int p2] [((q 0), .inr (11, (mO q 0 0 0 0 0 0 0 0 (-1) 1 0 0 0 0 0 0 0 0 0))), ((q 38), .inl (cy 1, 96, .inl (fun _ => 0)))] (fun (v : Int32) (u : Unit) => (v = 1 ∧ (0 ≤ z0 ∧ z0 ≤ 11 ∧ 0 ≤ z1 ∧ z1 ≤ 7)) ∨ (v = 0 ∧ ¬ (0 ≤ z0 ∧ z0 ≤ 11 ∧ 0 ≤ z1 ∧ z1 ≤ 7))) (fun (u : Unit) => []) := by
  refine ci_go (by decide) (Nat.le_of_ble_eq_true rfl) (fun p e s m below meth c ls A hA S hr hlk hnm hP hK hD hl => ?_)
  have hS : va_S A s.heap s.heap [] := va_S.rf
  have hl : lv_has ls 4 [(0, .ref (q 0)), (1, .int p0), (2, .int p1), (3, .int p2)] := hl
  refine lv_aload_n S.1 S.2.1 dX12_fold_0 rfl (lv_at hl 0 rfl) ?_
  refine lv_iconst (v := 0) S.1 S.2.1 dX12_fold_1 (by decide) ?_
  refine r_put S hK hP hD hS 0 11 rfl rfl inX12 0 (by decide) tyX12 tyX12_ok nmX12 kw_1510 (v := .int 0) rfl rfl rfl (Nat.le_of_ble_eq_true rfl) dX12_fold_2 (fun H locs hP hD hS => ?_)
  have hP : va_P D vwCl [((q 0), .inr (11, (mO q 0 0 0 0 0 0 0 0 (-1) 1 0 0 0 0 0 0 0 0 0))), ((q 38), .inl (cy 1, 96, .inl (fun _ => 0)))] H := hP
  have hD : va_D A [((q 0), .inr (11, (mO q 0 0 0 0 0 0 0 0 (-1) 1 0 0 0 0 0 0 0 0 0))), ((q 38), .inl (cy 1, 96, .inl (fun _ => 0)))] := hD
  refine lv_iload_n S.1 S.2.1 dX12_fold_5 rfl (lv_at hl 1 rfl) ?_
  refine lv_iload_n S.1 S.2.1 dX12_fold_6 rfl (lv_at hl 2 rfl) ?_
  refine call_ri (runS_R (wc := []) (As := [.int p0, .int p1]) (rest := []) S (kX12_isCell l D cy p0 p1 z0 h0 z1 h1) hK hP [] rfl kw_1903 kw_1904 kw_152 kw_1905 okX12_isCell rfl (by decide) hl.1 rfl (Nat.le_of_ble_eq_true rfl) dX12_fold_7 (by decide)) (fun v7 w7 => ?_)
  rcases w7 with ⟨rfl, w7_0_0⟩ | ⟨rfl, w7_1_0⟩
  · refine r_if_ne S 1 rfl dX12_fold_10 (tgt := 15) (by decide) (fun _ => ?_) (fun c => absurd c (by decide))
    refine lv_aload_n S.1 S.2.1 dX12_fold_15 rfl (lv_at hl 0 rfl) ?_
    refine r_get S hK hP 0 11 rfl rfl inX12 38 (by decide) kw_1548 (v := .ref (q 38)) rfl dX12_fold_16 ?_
    refine lv_bipush (v := 12) S.1 S.2.1 dX12_fold_19 (by decide) ?_
    refine lv_iload_n S.1 S.2.1 dX12_fold_21 rfl (lv_at hl 2 rfl) ?_
    refine r_imul S dX12_fold_22 (v := (12 * p1)) rfl ?_
    refine lv_iload_n S.1 S.2.1 dX12_fold_23 rfl (lv_at hl 1 rfl) ?_
    refine r_iadd S dX12_fold_24 (v := ((12 * p1) + p0)) rfl ?_
    refine lv_iload_n S.1 S.2.1 dX12_fold_25 rfl (lv_at hl 3 rfl) ?_
    obtain ⟨j26_1, hj26_1, qj26_1, zj26_1⟩ := i_nat 96 (zadd (x := (12 * p1)) (y := p0) (X := (12 * z1)) (Y := z0) (zmul (x := 12) (y := p1) (X := 12) (Y := z1) rfl h1 (by omega) (by omega)) h0 (by omega) (by omega)) (by omega) (by omega)
    refine r_zast S hK hP hD hS 1 1 rfl rfl (j26_1) qj26_1 hj26_1 (by decide) dX12_fold_26 (fun H locs hP hD hS => ?_)
    have hP : va_P D vwCl [((q 0), .inr (11, (mO q 0 0 0 0 0 0 0 0 (-1) 1 0 0 0 0 0 0 0 0 0))), ((q 38), .inl (cy 1, 96, .inl (upd (fun _ => 0) (j26_1) (vp_nar .boolean p2))))] H := hP
    have hD : va_D A [((q 0), .inr (11, (mO q 0 0 0 0 0 0 0 0 (-1) 1 0 0 0 0 0 0 0 0 0))), ((q 38), .inl (cy 1, 96, .inl (upd (fun _ => 0) (j26_1) (vp_nar .boolean p2))))] := hD
    refine lv_aload_n S.1 S.2.1 dX12_fold_27 rfl (lv_at hl 0 rfl) ?_
    refine lv_iconst (v := 1) S.1 S.2.1 dX12_fold_28 (by decide) ?_
    refine r_put S hK hP hD hS 0 11 rfl rfl inX12 35 (by decide) tyX12 tyX12_ok nmX12 kw_1545 (v := .int 1) rfl (by decide) (by decide) (Nat.le_of_ble_eq_true rfl) dX12_fold_29 (fun H locs hP hD hS => ?_)
    have hP : va_P D vwCl [((q 0), .inr (11, (mO q 0 0 0 0 0 0 0 0 (-1) 1 0 0 0 0 0 0 0 0 0))), ((q 38), .inl (cy 1, 96, .inl (upd (fun _ => 0) (j26_1) (vp_nar .boolean p2))))] H := hP
    have hD : va_D A [((q 0), .inr (11, (mO q 0 0 0 0 0 0 0 0 (-1) 1 0 0 0 0 0 0 0 0 0))), ((q 38), .inl (cy 1, 96, .inl (upd (fun _ => 0) (j26_1) (vp_nar .boolean p2))))] := hD
    refine lv_iconst (v := 1) S.1 S.2.1 dX12_fold_32 (by decide) ?_
    exact ci_ret (u := ()) S hr hlk (by decide) hK (hP.sub [] rfl) (hD.sub [] (by decide) rfl) hS (Or.inl ⟨rfl, (by omega)⟩) (by decide) (by decide) dX12_fold_33
  · refine r_if_ne S 0 rfl dX12_fold_10 (tgt := 15) (by decide) (fun c => absurd c (by decide)) (fun _ => ?_)
    refine lv_iconst (v := 0) S.1 S.2.1 dX12_fold_13 (by decide) ?_
    exact ci_ret (u := ()) S hr hlk (by decide) hK (hP.sub [] rfl) (hD.sub [] (by decide) rfl) hS (Or.inr (⟨rfl, (by omega)⟩)) (by decide) (by decide) dX12_fold_14
set_option maxHeartbeats 4000000 in
set_option maxRecDepth 100000 in
theorem kX11_own (l : Launch) (D : va_G) (cy : Nat → ClassId) (x : Nat → Nat) (p0 : Int32) (p1 : Int32) (p2 : Int32) (z0 : Int) (h0 : p0.toInt = z0) (z1 : Int) (h1 : p1.toInt = z1) (z2 : Int) (h2 : p2.toInt = z2) : CI l D cy yX11_own cX11_own 5 (some .boolean) 1 21 0 0 [.ref (x 0), .int p0, .int p1, .int p2] [((x 0), .inr (10, [.int 0, .int (-1), .ref (x 1), .ref (x 9), .int 0, .ref (x 10), .ref (x 13), .ref (x 16), .ref (x 29), .int 0, .int 0, .ref (x 30), .int 0, .ref (x 31), .ref (x 42), .int 0, .int 0, .null, .ref (x 43)])), ((x 1), .inr (2, [.ref (x 2), .ref (x 3), .ref (x 4), .ref (x 5), .ref (x 6), .int 0, .ref (x 7), .ref (x 8), .int 0])), ((x 5), .inl (cy 0, 96, .inl (fun _ => (-1))))] (fun (v : Int32) (u : Unit) => (v = 1 ∧ (0 ≤ z0 ∧ z0 ≤ 11 ∧ 0 ≤ z1 ∧ z1 ≤ 7 ∧ -1 ≤ z2 ∧ z2 ≤ 3)) ∨ (v = 0 ∧ ¬ (0 ≤ z0 ∧ z0 ≤ 11 ∧ 0 ≤ z1 ∧ z1 ≤ 7 ∧ -1 ≤ z2 ∧ z2 ≤ 3))) (fun (u : Unit) => []) := by
  refine ci_go (by decide) (Nat.le_of_ble_eq_true rfl) (fun p e s m below meth c ls A hA S hr hlk hnm hP hK hD hl => ?_)
  have hS : va_S A s.heap s.heap [] := va_S.rf
  have hl : lv_has ls 5 [(0, .ref (x 0)), (1, .int p0), (2, .int p1), (3, .int p2)] := hl
  refine lv_iload_n S.1 S.2.1 dX11_own_0 rfl (lv_at hl 1 rfl) ?_
  refine lv_iload_n S.1 S.2.1 dX11_own_1 rfl (lv_at hl 2 rfl) ?_
  refine call_ri (runS_R (wc := []) (As := [.int p0, .int p1]) (rest := []) S (kX11_cellAt l D cy p0 p1 z0 h0 z1 h1) hK hP [] rfl kw_538 kw_539 kw_144 kw_540 okX11_cellAt rfl (by decide) hl.1 rfl (Nat.le_of_ble_eq_true rfl) dX11_own_2 (by decide)) (fun v2 w2 => ?_)
  rcases w2 with ⟨rfl, w2_0_0⟩ | ⟨cx_2, cl_2, rfl, w2_1_0, w2_1_1, w2_1_2, w2_1_3⟩
  · refine lv_istore (lv' := [(4, .int (-1)), (0, .ref (x 0)), (1, .int p0), (2, .int p1), (3, .int p2)]) S.1 S.2.1 dX11_own_5 hl (by decide) rfl (fun ls hl => ?_)
    refine lv_iload S.1 S.2.1 dX11_own_7 (lv_at hl 0 rfl) ?_
    refine lv_iconst (v := (-1)) S.1 S.2.1 dX11_own_9 (by decide) ?_
    refine r_icmp_eq S (-1) (-1) rfl rfl dX11_own_10 (tgt := 23) (by decide) (fun _ => ?_) (fun c => absurd c (by decide))
    refine lv_iconst (v := 0) S.1 S.2.1 dX11_own_23 (by decide) ?_
    exact ci_ret (u := ()) S hr hlk (by decide) hK (hP.sub [] rfl) (hD.sub [] (by decide) rfl) hS (Or.inr (⟨rfl, (by omega)⟩)) (by decide) (by decide) dX11_own_24
  · refine lv_istore (lv' := [(4, .int (nI (12 * cl_2 + cx_2))), (0, .ref (x 0)), (1, .int p0), (2, .int p1), (3, .int p2)]) S.1 S.2.1 dX11_own_5 hl (by decide) rfl (fun ls hl => ?_)
    refine lv_iload S.1 S.2.1 dX11_own_7 (lv_at hl 0 rfl) ?_
    refine lv_iconst (v := (-1)) S.1 S.2.1 dX11_own_9 (by decide) ?_
    refine r_icmp_eq S ((12 * cl_2 + cx_2 : Nat) : Int) (-1) (nI_toInt (by omega)) rfl dX11_own_10 (tgt := 23) (by decide) (fun c => absurd c (by omega)) (fun _ => ?_)
    refine lv_iload_n S.1 S.2.1 dX11_own_13 rfl (lv_at hl 4 rfl) ?_
    refine lv_iconst (v := (-1)) S.1 S.2.1 dX11_own_14 (by decide) ?_
    refine r_icmp_lt S z2 (-1) h2 rfl dX11_own_15 (tgt := 23) (by decide) (fun e_15_1 => ?_) (fun e_15_1 => ?_)
    · refine lv_iconst (v := 0) S.1 S.2.1 dX11_own_23 (by decide) ?_
      exact ci_ret (u := ()) S hr hlk (by decide) hK (hP.sub [] rfl) (hD.sub [] (by decide) rfl) hS (Or.inr (⟨rfl, (by omega)⟩)) (by decide) (by decide) dX11_own_24
    · refine lv_iload_n S.1 S.2.1 dX11_own_18 rfl (lv_at hl 4 rfl) ?_
      refine lv_iconst (v := 4) S.1 S.2.1 dX11_own_19 (by decide) ?_
      refine r_icmp_lt S z2 4 h2 rfl dX11_own_20 (tgt := 25) (by decide) (fun e_20_2 => ?_) (fun e_20_2 => ?_)
      · refine lv_aload_n S.1 S.2.1 dX11_own_25 rfl (lv_at hl 1 rfl) ?_
        refine r_get S hK hP 0 10 rfl rfl inX11 2 (by decide) kw_470 (v := .ref (x 1)) rfl dX11_own_26 ?_
        refine r_get S hK hP 1 2 rfl rfl inX2 3 (by decide) kw_196 (v := .ref (x 5)) rfl dX11_own_29 ?_
        refine lv_iload S.1 S.2.1 dX11_own_32 (lv_at hl 0 rfl) ?_
        refine lv_iload_n S.1 S.2.1 dX11_own_34 rfl (lv_at hl 4 rfl) ?_
        refine r_iast S hK hP hD hS 2 0 rfl rfl ((12 * cl_2 + cx_2)) rfl (by omega) (by decide) dX11_own_35 (fun H locs hP hD hS => ?_)
        have hP : va_P D vwCl [((x 0), .inr (10, [.int 0, .int (-1), .ref (x 1), .ref (x 9), .int 0, .ref (x 10), .ref (x 13), .ref (x 16), .ref (x 29), .int 0, .int 0, .ref (x 30), .int 0, .ref (x 31), .ref (x 42), .int 0, .int 0, .null, .ref (x 43)])), ((x 1), .inr (2, [.ref (x 2), .ref (x 3), .ref (x 4), .ref (x 5), .ref (x 6), .int 0, .ref (x 7), .ref (x 8), .int 0])), ((x 5), .inl (cy 0, 96, .inl (upd (fun _ => (-1)) ((12 * cl_2 + cx_2)) p2)))] H := hP
        have hD : va_D A [((x 0), .inr (10, [.int 0, .int (-1), .ref (x 1), .ref (x 9), .int 0, .ref (x 10), .ref (x 13), .ref (x 16), .ref (x 29), .int 0, .int 0, .ref (x 30), .int 0, .ref (x 31), .ref (x 42), .int 0, .int 0, .null, .ref (x 43)])), ((x 1), .inr (2, [.ref (x 2), .ref (x 3), .ref (x 4), .ref (x 5), .ref (x 6), .int 0, .ref (x 7), .ref (x 8), .int 0])), ((x 5), .inl (cy 0, 96, .inl (upd (fun _ => (-1)) ((12 * cl_2 + cx_2)) p2)))] := hD
        refine lv_iconst (v := 1) S.1 S.2.1 dX11_own_36 (by decide) ?_
        exact ci_ret (u := ()) S hr hlk (by decide) hK (hP.sub [] rfl) (hD.sub [] (by decide) rfl) hS (Or.inl ⟨rfl, (by omega)⟩) (by decide) (by decide) dX11_own_37
      · refine lv_iconst (v := 0) S.1 S.2.1 dX11_own_23 (by decide) ?_
        exact ci_ret (u := ()) S hr hlk (by decide) hK (hP.sub [] rfl) (hD.sub [] (by decide) rfl) hS (Or.inr (⟨rfl, (by omega)⟩)) (by decide) (by decide) dX11_own_24
set_option maxHeartbeats 4000000 in
set_option maxRecDepth 100000 in
theorem kX12_own (l : Launch) (D : va_G) (cy : Nat → ClassId) (q : Nat → Nat) (p0 : Int32) (p1 : Int32) (p2 : Int32) (z0 : Int) (h0 : p0.toInt = z0) (z1 : Int) (h1 : p1.toInt = z1) (z2 : Int) (h2 : p2.toInt = z2) : CI l D cy yX12_own cX12_own 4 (some .boolean) 2 43 0 0 [.ref (q 0), .int p0, .int p1, .int p2] [((q 0), .inr (11, (mO q 0 0 0 0 0 0 0 0 (-1) 1 0 0 0 0 0 0 0 0 0))), ((q 39), .inl (cy 0, 96, .inl (fun _ => (-1))))] (fun (v : Int32) (u : Unit) => (v = 1 ∧ (0 ≤ z0 ∧ z0 ≤ 11 ∧ 0 ≤ z1 ∧ z1 ≤ 7 ∧ -1 ≤ z2 ∧ z2 ≤ 3)) ∨ (v = 0 ∧ ¬ (0 ≤ z0 ∧ z0 ≤ 11 ∧ 0 ≤ z1 ∧ z1 ≤ 7 ∧ -1 ≤ z2 ∧ z2 ≤ 3))) (fun (u : Unit) => []) := by
  refine ci_go (by decide) (Nat.le_of_ble_eq_true rfl) (fun p e s m below meth c ls A hA S hr hlk hnm hP hK hD hl => ?_)
  have hS : va_S A s.heap s.heap [] := va_S.rf
  have hl : lv_has ls 4 [(0, .ref (q 0)), (1, .int p0), (2, .int p1), (3, .int p2)] := hl
  refine lv_aload_n S.1 S.2.1 dX12_own_0 rfl (lv_at hl 0 rfl) ?_
  refine lv_iconst (v := 0) S.1 S.2.1 dX12_own_1 (by decide) ?_
  refine r_put S hK hP hD hS 0 11 rfl rfl inX12 0 (by decide) tyX12 tyX12_ok nmX12 kw_1510 (v := .int 0) rfl rfl rfl (Nat.le_of_ble_eq_true rfl) dX12_own_2 (fun H locs hP hD hS => ?_)
  have hP : va_P D vwCl [((q 0), .inr (11, (mO q 0 0 0 0 0 0 0 0 (-1) 1 0 0 0 0 0 0 0 0 0))), ((q 39), .inl (cy 0, 96, .inl (fun _ => (-1))))] H := hP
  have hD : va_D A [((q 0), .inr (11, (mO q 0 0 0 0 0 0 0 0 (-1) 1 0 0 0 0 0 0 0 0 0))), ((q 39), .inl (cy 0, 96, .inl (fun _ => (-1))))] := hD
  refine lv_iload_n S.1 S.2.1 dX12_own_5 rfl (lv_at hl 1 rfl) ?_
  refine lv_iload_n S.1 S.2.1 dX12_own_6 rfl (lv_at hl 2 rfl) ?_
  refine call_ri (runS_R (wc := []) (As := [.int p0, .int p1]) (rest := []) S (kX12_isCell l D cy p0 p1 z0 h0 z1 h1) hK hP [] rfl kw_1903 kw_1904 kw_152 kw_1905 okX12_isCell rfl (by decide) hl.1 rfl (Nat.le_of_ble_eq_true rfl) dX12_own_7 (by decide)) (fun v7 w7 => ?_)
  rcases w7 with ⟨rfl, w7_0_0⟩ | ⟨rfl, w7_1_0⟩
  · refine r_if_eq S 1 rfl dX12_own_10 (tgt := 22) (by decide) (fun c => absurd c (by decide)) (fun _ => ?_)
    refine lv_iload_n S.1 S.2.1 dX12_own_13 rfl (lv_at hl 3 rfl) ?_
    refine lv_iconst (v := (-1)) S.1 S.2.1 dX12_own_14 (by decide) ?_
    refine lv_iconst (v := 3) S.1 S.2.1 dX12_own_15 (by decide) ?_
    refine call_ri (runS_R (wc := []) (As := [.int p2, .int (-1), .int 3]) (rest := []) S (kX12_within l D cy p2 (-1) 3 z2 h2 (-1) rfl 3 rfl) hK hP [] rfl kw_1892 kw_1893 kw_152 kw_1894 okX12_within rfl (by decide) hl.1 rfl (Nat.le_of_ble_eq_true rfl) dX12_own_16 (by decide)) (fun v16 w16 => ?_)
    rcases w16 with ⟨rfl, w16_0_0⟩ | ⟨rfl, w16_1_0⟩
    · refine r_if_ne S 1 rfl dX12_own_19 (tgt := 24) (by decide) (fun _ => ?_) (fun c => absurd c (by decide))
      refine lv_aload_n S.1 S.2.1 dX12_own_24 rfl (lv_at hl 0 rfl) ?_
      refine r_get S hK hP 0 11 rfl rfl inX12 39 (by decide) kw_1549 (v := .ref (q 39)) rfl dX12_own_25 ?_
      refine lv_bipush (v := 12) S.1 S.2.1 dX12_own_28 (by decide) ?_
      refine lv_iload_n S.1 S.2.1 dX12_own_30 rfl (lv_at hl 2 rfl) ?_
      refine r_imul S dX12_own_31 (v := (12 * p1)) rfl ?_
      refine lv_iload_n S.1 S.2.1 dX12_own_32 rfl (lv_at hl 1 rfl) ?_
      refine r_iadd S dX12_own_33 (v := ((12 * p1) + p0)) rfl ?_
      refine lv_iload_n S.1 S.2.1 dX12_own_34 rfl (lv_at hl 3 rfl) ?_
      obtain ⟨j35_1, hj35_1, qj35_1, zj35_1⟩ := i_nat 96 (zadd (x := (12 * p1)) (y := p0) (X := (12 * z1)) (Y := z0) (zmul (x := 12) (y := p1) (X := 12) (Y := z1) rfl h1 (by omega) (by omega)) h0 (by omega) (by omega)) (by omega) (by omega)
      refine r_iast S hK hP hD hS 1 0 rfl rfl (j35_1) qj35_1 hj35_1 (by decide) dX12_own_35 (fun H locs hP hD hS => ?_)
      have hP : va_P D vwCl [((q 0), .inr (11, (mO q 0 0 0 0 0 0 0 0 (-1) 1 0 0 0 0 0 0 0 0 0))), ((q 39), .inl (cy 0, 96, .inl (upd (fun _ => (-1)) (j35_1) p2)))] H := hP
      have hD : va_D A [((q 0), .inr (11, (mO q 0 0 0 0 0 0 0 0 (-1) 1 0 0 0 0 0 0 0 0 0))), ((q 39), .inl (cy 0, 96, .inl (upd (fun _ => (-1)) (j35_1) p2)))] := hD
      refine lv_iconst (v := 1) S.1 S.2.1 dX12_own_36 (by decide) ?_
      exact ci_ret (u := ()) S hr hlk (by decide) hK (hP.sub [] rfl) (hD.sub [] (by decide) rfl) hS (Or.inl ⟨rfl, (by omega)⟩) (by decide) (by decide) dX12_own_37
    · refine r_if_ne S 0 rfl dX12_own_19 (tgt := 24) (by decide) (fun c => absurd c (by decide)) (fun _ => ?_)
      refine lv_iconst (v := 0) S.1 S.2.1 dX12_own_22 (by decide) ?_
      exact ci_ret (u := ()) S hr hlk (by decide) hK (hP.sub [] rfl) (hD.sub [] (by decide) rfl) hS (Or.inr (⟨rfl, (by omega)⟩)) (by decide) (by decide) dX12_own_23
  · refine r_if_eq S 0 rfl dX12_own_10 (tgt := 22) (by decide) (fun _ => ?_) (fun c => absurd c (by decide))
    refine lv_iconst (v := 0) S.1 S.2.1 dX12_own_22 (by decide) ?_
    exact ci_ret (u := ()) S hr hlk (by decide) hK (hP.sub [] rfl) (hD.sub [] (by decide) rfl) hS (Or.inr (⟨rfl, (by omega)⟩)) (by decide) (by decide) dX12_own_23
set_option maxHeartbeats 4000000 in
set_option maxRecDepth 100000 in
theorem kX11_rivalry (l : Launch) (D : va_G) (cy : Nat → ClassId) (x : Nat → Nat) (p0 : Int32) (z0 : Int) (h0 : p0.toInt = z0) : CI l D cy yX11_rivalry cX11_rivalry 2 (some .boolean) 0 0 0 0 [.ref (x 0), .int p0] [((x 0), .inr (10, [.int 0, .int (-1), .ref (x 1), .ref (x 9), .int 0, .ref (x 10), .ref (x 13), .ref (x 16), .ref (x 29), .int 0, .int 0, .ref (x 30), .int 0, .ref (x 31), .ref (x 42), .int 0, .int 0, .null, .ref (x 43)]))] (fun (v : Int32) (u : Unit) => (v = 1 ∧ (0 ≤ z0 ∧ z0 ≤ 999)) ∨ (v = 0 ∧ ¬ (0 ≤ z0 ∧ z0 ≤ 999))) (fun (u : Unit) => []) := by
  refine ci_go (by decide) (Nat.le_of_ble_eq_true rfl) (fun p e s m below meth c ls A hA S hr hlk hnm hP hK hD hl => ?_)
  have hS : va_S A s.heap s.heap [] := va_S.rf
  have hl : lv_has ls 2 [(0, .ref (x 0)), (1, .int p0)] := hl
  refine lv_iload_n S.1 S.2.1 dX11_rivalry_0 rfl (lv_at hl 1 rfl) ?_
  refine r_if_lt S z0 h0 dX11_rivalry_1 (tgt := 11) (by decide) (fun e_1_1 => ?_) (fun e_1_1 => ?_)
  · refine lv_iconst (v := 0) S.1 S.2.1 dX11_rivalry_11 (by decide) ?_
    exact ci_ret (u := ()) S hr hlk (by decide) hK (hP.sub [] rfl) (hD.sub [] (by decide) rfl) hS (Or.inr (⟨rfl, (by omega)⟩)) (by decide) (by decide) dX11_rivalry_12
  · refine lv_iload_n S.1 S.2.1 dX11_rivalry_4 rfl (lv_at hl 1 rfl) ?_
    refine lv_sipush (v := 999) S.1 S.2.1 dX11_rivalry_5 (by decide) ?_
    refine r_icmp_le S z0 999 h0 rfl dX11_rivalry_8 (tgt := 13) (by decide) (fun e_8_2 => ?_) (fun e_8_2 => ?_)
    · refine lv_aload_n S.1 S.2.1 dX11_rivalry_13 rfl (lv_at hl 0 rfl) ?_
      refine lv_iload_n S.1 S.2.1 dX11_rivalry_14 rfl (lv_at hl 1 rfl) ?_
      refine r_put S hK hP hD hS 0 10 rfl rfl inX11 10 (by decide) tyX11 tyX11_ok nmX11 kw_478 (v := .int p0) rfl rfl rfl (Nat.le_of_ble_eq_true rfl) dX11_rivalry_15 (fun H locs hP hD hS => ?_)
      have hP : va_P D vwCl [((x 0), .inr (10, [.int 0, .int (-1), .ref (x 1), .ref (x 9), .int 0, .ref (x 10), .ref (x 13), .ref (x 16), .ref (x 29), .int 0, .int p0, .ref (x 30), .int 0, .ref (x 31), .ref (x 42), .int 0, .int 0, .null, .ref (x 43)]))] H := hP
      have hD : va_D A [((x 0), .inr (10, [.int 0, .int (-1), .ref (x 1), .ref (x 9), .int 0, .ref (x 10), .ref (x 13), .ref (x 16), .ref (x 29), .int 0, .int p0, .ref (x 30), .int 0, .ref (x 31), .ref (x 42), .int 0, .int 0, .null, .ref (x 43)]))] := hD
      refine lv_iconst (v := 1) S.1 S.2.1 dX11_rivalry_18 (by decide) ?_
      exact ci_ret (u := ()) S hr hlk (by decide) hK (hP.sub [] rfl) (hD.sub [] (by decide) rfl) hS (Or.inl ⟨rfl, (by omega)⟩) (by decide) (by decide) dX11_rivalry_19
    · refine lv_iconst (v := 0) S.1 S.2.1 dX11_rivalry_11 (by decide) ?_
      exact ci_ret (u := ()) S hr hlk (by decide) hK (hP.sub [] rfl) (hD.sub [] (by decide) rfl) hS (Or.inr (⟨rfl, (by omega)⟩)) (by decide) (by decide) dX11_rivalry_12
set_option maxHeartbeats 4000000 in
set_option maxRecDepth 100000 in
theorem kX12_rivalry (l : Launch) (D : va_G) (cy : Nat → ClassId) (q : Nat → Nat) (p0 : Int32) (z0 : Int) (h0 : p0.toInt = z0) : CI l D cy yX12_rivalry cX12_rivalry 2 (some .boolean) 1 22 0 0 [.ref (q 0), .int p0] [((q 0), .inr (11, (mO q 0 0 0 0 0 0 0 0 (-1) 1 0 0 0 0 0 0 0 0 0)))] (fun (v : Int32) (u : Unit) => (v = 1 ∧ (0 ≤ z0 ∧ z0 ≤ 999)) ∨ (v = 0 ∧ ¬ (0 ≤ z0 ∧ z0 ≤ 999))) (fun (u : Unit) => []) := by
  refine ci_go (by decide) (Nat.le_of_ble_eq_true rfl) (fun p e s m below meth c ls A hA S hr hlk hnm hP hK hD hl => ?_)
  have hS : va_S A s.heap s.heap [] := va_S.rf
  have hl : lv_has ls 2 [(0, .ref (q 0)), (1, .int p0)] := hl
  refine lv_aload_n S.1 S.2.1 dX12_rivalry_0 rfl (lv_at hl 0 rfl) ?_
  refine lv_iconst (v := 0) S.1 S.2.1 dX12_rivalry_1 (by decide) ?_
  refine r_put S hK hP hD hS 0 11 rfl rfl inX12 0 (by decide) tyX12 tyX12_ok nmX12 kw_1510 (v := .int 0) rfl rfl rfl (Nat.le_of_ble_eq_true rfl) dX12_rivalry_2 (fun H locs hP hD hS => ?_)
  have hP : va_P D vwCl [((q 0), .inr (11, (mO q 0 0 0 0 0 0 0 0 (-1) 1 0 0 0 0 0 0 0 0 0)))] H := hP
  have hD : va_D A [((q 0), .inr (11, (mO q 0 0 0 0 0 0 0 0 (-1) 1 0 0 0 0 0 0 0 0 0)))] := hD
  refine lv_iload_n S.1 S.2.1 dX12_rivalry_5 rfl (lv_at hl 1 rfl) ?_
  refine lv_iconst (v := 0) S.1 S.2.1 dX12_rivalry_6 (by decide) ?_
  refine lv_sipush (v := 999) S.1 S.2.1 dX12_rivalry_7 (by decide) ?_
  refine call_ri (runS_R (wc := []) (As := [.int p0, .int 0, .int 999]) (rest := []) S (kX12_within l D cy p0 0 999 z0 h0 0 rfl 999 rfl) hK hP [] rfl kw_1892 kw_1893 kw_152 kw_1894 okX12_within rfl (by decide) hl.1 rfl (Nat.le_of_ble_eq_true rfl) dX12_rivalry_10 (by decide)) (fun v10 w10 => ?_)
  rcases w10 with ⟨rfl, w10_0_0⟩ | ⟨rfl, w10_1_0⟩
  · refine r_if_ne S 1 rfl dX12_rivalry_13 (tgt := 18) (by decide) (fun _ => ?_) (fun c => absurd c (by decide))
    refine lv_aload_n S.1 S.2.1 dX12_rivalry_18 rfl (lv_at hl 0 rfl) ?_
    refine lv_iload_n S.1 S.2.1 dX12_rivalry_19 rfl (lv_at hl 1 rfl) ?_
    refine r_put S hK hP hD hS 0 11 rfl rfl inX12 79 (by decide) tyX12 tyX12_ok nmX12 kw_1589 (v := .int p0) rfl rfl rfl (Nat.le_of_ble_eq_true rfl) dX12_rivalry_20 (fun H locs hP hD hS => ?_)
    have hP : va_P D vwCl [((q 0), .inr (11, (mO q 0 0 0 0 0 0 0 0 (-1) 1 0 0 0 0 0 0 p0 0 0)))] H := hP
    have hD : va_D A [((q 0), .inr (11, (mO q 0 0 0 0 0 0 0 0 (-1) 1 0 0 0 0 0 0 p0 0 0)))] := hD
    refine lv_aload_n S.1 S.2.1 dX12_rivalry_23 rfl (lv_at hl 0 rfl) ?_
    refine lv_iconst (v := 1) S.1 S.2.1 dX12_rivalry_24 (by decide) ?_
    refine r_put S hK hP hD hS 0 11 rfl rfl inX12 35 (by decide) tyX12 tyX12_ok nmX12 kw_1545 (v := .int 1) rfl (by decide) (by decide) (Nat.le_of_ble_eq_true rfl) dX12_rivalry_25 (fun H locs hP hD hS => ?_)
    have hP : va_P D vwCl [((q 0), .inr (11, (mO q 0 0 0 0 0 0 0 0 (-1) 1 0 0 0 0 0 0 p0 0 0)))] H := hP
    have hD : va_D A [((q 0), .inr (11, (mO q 0 0 0 0 0 0 0 0 (-1) 1 0 0 0 0 0 0 p0 0 0)))] := hD
    refine lv_iconst (v := 1) S.1 S.2.1 dX12_rivalry_28 (by decide) ?_
    exact ci_ret (u := ()) S hr hlk (by decide) hK (hP.sub [] rfl) (hD.sub [] (by decide) rfl) hS (Or.inl ⟨rfl, (by omega)⟩) (by decide) (by decide) dX12_rivalry_29
  · refine r_if_ne S 0 rfl dX12_rivalry_13 (tgt := 18) (by decide) (fun c => absurd c (by decide)) (fun _ => ?_)
    refine lv_iconst (v := 0) S.1 S.2.1 dX12_rivalry_16 (by decide) ?_
    exact ci_ret (u := ()) S hr hlk (by decide) hK (hP.sub [] rfl) (hD.sub [] (by decide) rfl) hS (Or.inr (⟨rfl, (by omega)⟩)) (by decide) (by decide) dX12_rivalry_17
set_option maxHeartbeats 4000000 in
set_option maxRecDepth 100000 in
theorem kX11_dip (l : Launch) (D : va_G) (cy : Nat → ClassId) (x : Nat → Nat) (p0 : Int32) (p1 : Int32) (p2 : Int32) (p3 : Int32) (z0 : Int) (h0 : p0.toInt = z0) (z1 : Int) (h1 : p1.toInt = z1) (z2 : Int) (h2 : p2.toInt = z2) (z3 : Int) (h3 : p3.toInt = z3) : CI l D cy yX11_dip cX11_dip 5 (some .boolean) 1 21 0 0 [.ref (x 0), .int p0, .int p1, .int p2, .int p3] [((x 0), .inr (10, [.int 0, .int (-1), .ref (x 1), .ref (x 9), .int 0, .ref (x 10), .ref (x 13), .ref (x 16), .ref (x 29), .int 0, .int 0, .ref (x 30), .int 0, .ref (x 31), .ref (x 42), .int 0, .int 0, .null, .ref (x 43)]))] (fun (v : Int32) (u : Unit) => v = 0) (fun (u : Unit) => []) := by
  refine ci_go (by decide) (Nat.le_of_ble_eq_true rfl) (fun p e s m below meth c ls A hA S hr hlk hnm hP hK hD hl => ?_)
  have hS : va_S A s.heap s.heap [] := va_S.rf
  have hl : lv_has ls 5 [(0, .ref (x 0)), (1, .int p0), (2, .int p1), (3, .int p2), (4, .int p3)] := hl
  refine lv_aload_n S.1 S.2.1 dX11_dip_0 rfl (lv_at hl 0 rfl) ?_
  refine lv_iload_n S.1 S.2.1 dX11_dip_1 rfl (lv_at hl 1 rfl) ?_
  refine call_ri (runV_R (wc := [((x 0), .inr (10, [.int 0, .int (-1), .ref (x 1), .ref (x 9), .int 0, .ref (x 10), .ref (x 13), .ref (x 16), .ref (x 29), .int 0, .int 0, .ref (x 30), .int 0, .ref (x 31), .ref (x 42), .int 0, .int 0, .null, .ref (x 43)]))]) (As := [.int p0]) (rest := []) S (kX11_isSight l D cy x p0 z0 h0) hK hP [0] rfl 0 10 rfl rfl kw_640 kw_642 kw_0 kw_144 kw_643 okX11_isSight rfl (by decide) hl.1 rfl (Nat.le_of_ble_eq_true rfl) dX11_dip_2 (by decide)) (fun v2 w2 => ?_)
  subst w2
  refine r_if_eq S 0 rfl dX11_dip_5 (tgt := 21) (by decide) (fun _ => ?_) (fun c => absurd c (by decide))
  refine lv_iconst (v := 0) S.1 S.2.1 dX11_dip_21 (by decide) ?_
  exact ci_ret (u := ()) S hr hlk (by decide) hK (hP.sub [] rfl) (hD.sub [] (by decide) rfl) hS (rfl) (by decide) (by decide) dX11_dip_22
set_option maxHeartbeats 4000000 in
set_option maxRecDepth 100000 in
theorem kX12_dip (l : Launch) (D : va_G) (cy : Nat → ClassId) (q : Nat → Nat) (p0 : Int32) (p1 : Int32) (p2 : Int32) (p3 : Int32) (z0 : Int) (h0 : p0.toInt = z0) (z1 : Int) (h1 : p1.toInt = z1) (z2 : Int) (h2 : p2.toInt = z2) (z3 : Int) (h3 : p3.toInt = z3) : CI l D cy yX12_dip cX12_dip 5 (some .boolean) 1 21 0 0 [.ref (q 0), .int p0, .int p1, .int p2, .int p3] [((q 0), .inr (11, (mO q 0 0 0 0 0 0 0 0 (-1) 1 0 0 0 0 0 0 0 0 0)))] (fun (v : Int32) (u : Unit) => v = 0) (fun (u : Unit) => []) := by
  refine ci_go (by decide) (Nat.le_of_ble_eq_true rfl) (fun p e s m below meth c ls A hA S hr hlk hnm hP hK hD hl => ?_)
  have hS : va_S A s.heap s.heap [] := va_S.rf
  have hl : lv_has ls 5 [(0, .ref (q 0)), (1, .int p0), (2, .int p1), (3, .int p2), (4, .int p3)] := hl
  refine lv_aload_n S.1 S.2.1 dX12_dip_0 rfl (lv_at hl 0 rfl) ?_
  refine lv_iconst (v := 0) S.1 S.2.1 dX12_dip_1 (by decide) ?_
  refine r_put S hK hP hD hS 0 11 rfl rfl inX12 0 (by decide) tyX12 tyX12_ok nmX12 kw_1510 (v := .int 0) rfl rfl rfl (Nat.le_of_ble_eq_true rfl) dX12_dip_2 (fun H locs hP hD hS => ?_)
  have hP : va_P D vwCl [((q 0), .inr (11, (mO q 0 0 0 0 0 0 0 0 (-1) 1 0 0 0 0 0 0 0 0 0)))] H := hP
  have hD : va_D A [((q 0), .inr (11, (mO q 0 0 0 0 0 0 0 0 (-1) 1 0 0 0 0 0 0 0 0 0)))] := hD
  refine lv_aload_n S.1 S.2.1 dX12_dip_5 rfl (lv_at hl 0 rfl) ?_
  refine lv_iload_n S.1 S.2.1 dX12_dip_6 rfl (lv_at hl 1 rfl) ?_
  refine call_ri (runV_R (wc := [((q 0), .inr (11, (mO q 0 0 0 0 0 0 0 0 (-1) 1 0 0 0 0 0 0 0 0 0)))]) (As := [.int p0]) (rest := []) S (kX12_isSight l D cy q p0 z0 h0) hK hP [0] rfl 0 11 rfl rfl kw_1922 kw_1924 kw_88 kw_152 kw_1925 okX12_isSight rfl (by decide) hl.1 rfl (Nat.le_of_ble_eq_true rfl) dX12_dip_7 (by decide)) (fun v7 w7 => ?_)
  subst w7
  refine r_if_eq S 0 rfl dX12_dip_10 (tgt := 53) (by decide) (fun _ => ?_) (fun c => absurd c (by decide))
  refine lv_iconst (v := 0) S.1 S.2.1 dX12_dip_53 (by decide) ?_
  exact ci_ret (u := ()) S hr hlk (by decide) hK (hP.sub [] rfl) (hD.sub [] (by decide) rfl) hS (rfl) (by decide) (by decide) dX12_dip_54
set_option maxHeartbeats 4000000 in
set_option maxRecDepth 100000 in
theorem kX11_remain (l : Launch) (D : va_G) (cy : Nat → ClassId) (x : Nat → Nat) (p0 : Int32) (p1 : Int32) (p2 : Int32) (z0 : Int) (h0 : p0.toInt = z0) (z1 : Int) (h1 : p1.toInt = z1) (z2 : Int) (h2 : p2.toInt = z2) : CI l D cy yX11_remain cX11_remain 4 (some .boolean) 1 21 0 0 [.ref (x 0), .int p0, .int p1, .int p2] [((x 0), .inr (10, [.int 0, .int (-1), .ref (x 1), .ref (x 9), .int 0, .ref (x 10), .ref (x 13), .ref (x 16), .ref (x 29), .int 0, .int 0, .ref (x 30), .int 0, .ref (x 31), .ref (x 42), .int 0, .int 0, .null, .ref (x 43)]))] (fun (v : Int32) (u : Unit) => v = 0) (fun (u : Unit) => []) := by
  refine ci_go (by decide) (Nat.le_of_ble_eq_true rfl) (fun p e s m below meth c ls A hA S hr hlk hnm hP hK hD hl => ?_)
  have hS : va_S A s.heap s.heap [] := va_S.rf
  have hl : lv_has ls 4 [(0, .ref (x 0)), (1, .int p0), (2, .int p1), (3, .int p2)] := hl
  refine lv_aload_n S.1 S.2.1 dX11_remain_0 rfl (lv_at hl 0 rfl) ?_
  refine lv_iload_n S.1 S.2.1 dX11_remain_1 rfl (lv_at hl 1 rfl) ?_
  refine call_ri (runV_R (wc := [((x 0), .inr (10, [.int 0, .int (-1), .ref (x 1), .ref (x 9), .int 0, .ref (x 10), .ref (x 13), .ref (x 16), .ref (x 29), .int 0, .int 0, .ref (x 30), .int 0, .ref (x 31), .ref (x 42), .int 0, .int 0, .null, .ref (x 43)]))]) (As := [.int p0]) (rest := []) S (kX11_isSight l D cy x p0 z0 h0) hK hP [0] rfl 0 10 rfl rfl kw_640 kw_642 kw_0 kw_144 kw_643 okX11_isSight rfl (by decide) hl.1 rfl (Nat.le_of_ble_eq_true rfl) dX11_remain_2 (by decide)) (fun v2 w2 => ?_)
  subst w2
  refine r_if_eq S 0 rfl dX11_remain_5 (tgt := 31) (by decide) (fun _ => ?_) (fun c => absurd c (by decide))
  refine lv_iconst (v := 0) S.1 S.2.1 dX11_remain_31 (by decide) ?_
  exact ci_ret (u := ()) S hr hlk (by decide) hK (hP.sub [] rfl) (hD.sub [] (by decide) rfl) hS (rfl) (by decide) (by decide) dX11_remain_32
set_option maxHeartbeats 4000000 in
set_option maxRecDepth 100000 in
theorem kX12_remain (l : Launch) (D : va_G) (cy : Nat → ClassId) (q : Nat → Nat) (p0 : Int32) (p1 : Int32) (p2 : Int32) (z0 : Int) (h0 : p0.toInt = z0) (z1 : Int) (h1 : p1.toInt = z1) (z2 : Int) (h2 : p2.toInt = z2) : CI l D cy yX12_remain cX12_remain 4 (some .boolean) 1 21 0 0 [.ref (q 0), .int p0, .int p1, .int p2] [((q 0), .inr (11, (mO q 0 0 0 0 0 0 0 0 (-1) 1 0 0 0 0 0 0 0 0 0)))] (fun (v : Int32) (u : Unit) => v = 0) (fun (u : Unit) => []) := by
  refine ci_go (by decide) (Nat.le_of_ble_eq_true rfl) (fun p e s m below meth c ls A hA S hr hlk hnm hP hK hD hl => ?_)
  have hS : va_S A s.heap s.heap [] := va_S.rf
  have hl : lv_has ls 4 [(0, .ref (q 0)), (1, .int p0), (2, .int p1), (3, .int p2)] := hl
  refine lv_aload_n S.1 S.2.1 dX12_remain_0 rfl (lv_at hl 0 rfl) ?_
  refine lv_iconst (v := 0) S.1 S.2.1 dX12_remain_1 (by decide) ?_
  refine r_put S hK hP hD hS 0 11 rfl rfl inX12 0 (by decide) tyX12 tyX12_ok nmX12 kw_1510 (v := .int 0) rfl rfl rfl (Nat.le_of_ble_eq_true rfl) dX12_remain_2 (fun H locs hP hD hS => ?_)
  have hP : va_P D vwCl [((q 0), .inr (11, (mO q 0 0 0 0 0 0 0 0 (-1) 1 0 0 0 0 0 0 0 0 0)))] H := hP
  have hD : va_D A [((q 0), .inr (11, (mO q 0 0 0 0 0 0 0 0 (-1) 1 0 0 0 0 0 0 0 0 0)))] := hD
  refine lv_aload_n S.1 S.2.1 dX12_remain_5 rfl (lv_at hl 0 rfl) ?_
  refine lv_iload_n S.1 S.2.1 dX12_remain_6 rfl (lv_at hl 1 rfl) ?_
  refine call_ri (runV_R (wc := [((q 0), .inr (11, (mO q 0 0 0 0 0 0 0 0 (-1) 1 0 0 0 0 0 0 0 0 0)))]) (As := [.int p0]) (rest := []) S (kX12_isSight l D cy q p0 z0 h0) hK hP [0] rfl 0 11 rfl rfl kw_1922 kw_1924 kw_88 kw_152 kw_1925 okX12_isSight rfl (by decide) hl.1 rfl (Nat.le_of_ble_eq_true rfl) dX12_remain_7 (by decide)) (fun v7 w7 => ?_)
  subst w7
  refine r_if_eq S 0 rfl dX12_remain_10 (tgt := 32) (by decide) (fun _ => ?_) (fun c => absurd c (by decide))
  refine lv_iconst (v := 0) S.1 S.2.1 dX12_remain_32 (by decide) ?_
  exact ci_ret (u := ()) S hr hlk (by decide) hK (hP.sub [] rfl) (hD.sub [] (by decide) rfl) hS (rfl) (by decide) (by decide) dX12_remain_33
set_option maxHeartbeats 4000000 in
set_option maxRecDepth 100000 in
theorem kX11_withdraw (l : Launch) (D : va_G) (cy : Nat → ClassId) (x : Nat → Nat) (p0 : Int32) (z0 : Int) (h0 : p0.toInt = z0) : CI l D cy yX11_withdraw cX11_withdraw 2 (some .boolean) 1 21 0 0 [.ref (x 0), .int p0] [((x 0), .inr (10, [.int 0, .int (-1), .ref (x 1), .ref (x 9), .int 0, .ref (x 10), .ref (x 13), .ref (x 16), .ref (x 29), .int 0, .int 0, .ref (x 30), .int 0, .ref (x 31), .ref (x 42), .int 0, .int 0, .null, .ref (x 43)]))] (fun (v : Int32) (u : Unit) => v = 0) (fun (u : Unit) => []) := by
  refine ci_go (by decide) (Nat.le_of_ble_eq_true rfl) (fun p e s m below meth c ls A hA S hr hlk hnm hP hK hD hl => ?_)
  have hS : va_S A s.heap s.heap [] := va_S.rf
  have hl : lv_has ls 2 [(0, .ref (x 0)), (1, .int p0)] := hl
  refine lv_aload_n S.1 S.2.1 dX11_withdraw_0 rfl (lv_at hl 0 rfl) ?_
  refine lv_iload_n S.1 S.2.1 dX11_withdraw_1 rfl (lv_at hl 1 rfl) ?_
  refine call_ri (runV_R (wc := [((x 0), .inr (10, [.int 0, .int (-1), .ref (x 1), .ref (x 9), .int 0, .ref (x 10), .ref (x 13), .ref (x 16), .ref (x 29), .int 0, .int 0, .ref (x 30), .int 0, .ref (x 31), .ref (x 42), .int 0, .int 0, .null, .ref (x 43)]))]) (As := [.int p0]) (rest := []) S (kX11_isSight l D cy x p0 z0 h0) hK hP [0] rfl 0 10 rfl rfl kw_640 kw_642 kw_0 kw_144 kw_643 okX11_isSight rfl (by decide) hl.1 rfl (Nat.le_of_ble_eq_true rfl) dX11_withdraw_2 (by decide)) (fun v2 w2 => ?_)
  subst w2
  refine r_if_eq S 0 rfl dX11_withdraw_5 (tgt := 21) (by decide) (fun _ => ?_) (fun c => absurd c (by decide))
  refine lv_iconst (v := 0) S.1 S.2.1 dX11_withdraw_21 (by decide) ?_
  exact ci_ret (u := ()) S hr hlk (by decide) hK (hP.sub [] rfl) (hD.sub [] (by decide) rfl) hS (rfl) (by decide) (by decide) dX11_withdraw_22
set_option maxHeartbeats 4000000 in
set_option maxRecDepth 100000 in
theorem kX12_withdraw (l : Launch) (D : va_G) (cy : Nat → ClassId) (q : Nat → Nat) (p0 : Int32) (z0 : Int) (h0 : p0.toInt = z0) : CI l D cy yX12_withdraw cX12_withdraw 2 (some .boolean) 1 21 0 0 [.ref (q 0), .int p0] [((q 0), .inr (11, (mO q 0 0 0 0 0 0 0 0 (-1) 1 0 0 0 0 0 0 0 0 0)))] (fun (v : Int32) (u : Unit) => v = 0) (fun (u : Unit) => []) := by
  refine ci_go (by decide) (Nat.le_of_ble_eq_true rfl) (fun p e s m below meth c ls A hA S hr hlk hnm hP hK hD hl => ?_)
  have hS : va_S A s.heap s.heap [] := va_S.rf
  have hl : lv_has ls 2 [(0, .ref (q 0)), (1, .int p0)] := hl
  refine lv_aload_n S.1 S.2.1 dX12_withdraw_0 rfl (lv_at hl 0 rfl) ?_
  refine lv_iconst (v := 0) S.1 S.2.1 dX12_withdraw_1 (by decide) ?_
  refine r_put S hK hP hD hS 0 11 rfl rfl inX12 0 (by decide) tyX12 tyX12_ok nmX12 kw_1510 (v := .int 0) rfl rfl rfl (Nat.le_of_ble_eq_true rfl) dX12_withdraw_2 (fun H locs hP hD hS => ?_)
  have hP : va_P D vwCl [((q 0), .inr (11, (mO q 0 0 0 0 0 0 0 0 (-1) 1 0 0 0 0 0 0 0 0 0)))] H := hP
  have hD : va_D A [((q 0), .inr (11, (mO q 0 0 0 0 0 0 0 0 (-1) 1 0 0 0 0 0 0 0 0 0)))] := hD
  refine lv_aload_n S.1 S.2.1 dX12_withdraw_5 rfl (lv_at hl 0 rfl) ?_
  refine lv_iload_n S.1 S.2.1 dX12_withdraw_6 rfl (lv_at hl 1 rfl) ?_
  refine call_ri (runV_R (wc := [((q 0), .inr (11, (mO q 0 0 0 0 0 0 0 0 (-1) 1 0 0 0 0 0 0 0 0 0)))]) (As := [.int p0]) (rest := []) S (kX12_isSight l D cy q p0 z0 h0) hK hP [0] rfl 0 11 rfl rfl kw_1922 kw_1924 kw_88 kw_152 kw_1925 okX12_isSight rfl (by decide) hl.1 rfl (Nat.le_of_ble_eq_true rfl) dX12_withdraw_7 (by decide)) (fun v7 w7 => ?_)
  subst w7
  refine r_if_eq S 0 rfl dX12_withdraw_10 (tgt := 22) (by decide) (fun _ => ?_) (fun c => absurd c (by decide))
  refine lv_iconst (v := 0) S.1 S.2.1 dX12_withdraw_22 (by decide) ?_
  exact ci_ret (u := ()) S hr hlk (by decide) hK (hP.sub [] rfl) (hD.sub [] (by decide) rfl) hS (rfl) (by decide) (by decide) dX12_withdraw_23
