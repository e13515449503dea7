abbrev cX12_cost : ByteArray := prog_14_method_86_code
def yX12_cost : MethodName := ⟨RX12, "cost", "(I)I"⟩
theorem okX12_cost : yok yX12_cost 1 := by decide +kernel
abbrev cX12_doubted : ByteArray := prog_14_method_87_code
def yX12_doubted : MethodName := ⟨RX12, "doubted", "(II)I"⟩
theorem okX12_doubted : yok yX12_doubted 2 := by decide +kernel
abbrev cX12_best : ByteArray := prog_14_method_89_code
def yX12_best : MethodName := ⟨RX12, "best", "(I)I"⟩
theorem okX12_best : yok yX12_best 1 := by decide +kernel
abbrev cX12_kept : ByteArray := prog_14_method_90_code
def yX12_kept : MethodName := ⟨RX12, "kept", "(I)I"⟩
theorem okX12_kept : yok yX12_kept 1 := by decide +kernel
abbrev cX12_lies : ByteArray := prog_14_method_95_code
def yX12_lies : MethodName := ⟨RX12, "lies", "(III)I"⟩
theorem okX12_lies : yok yX12_lies 3 := by decide +kernel
abbrev cX12_line : ByteArray := prog_14_method_97_code
def yX12_line : MethodName := ⟨RX12, "line", "(III)I"⟩
theorem okX12_line : yok yX12_line 3 := by decide +kernel
abbrev cX12_water : ByteArray := prog_14_method_106_code
def yX12_water : MethodName := ⟨RX12, "water", "(III)I"⟩
theorem okX12_water : yok yX12_water 3 := by decide +kernel
abbrev cX12_seam : ByteArray := prog_14_method_107_code
def yX12_seam : MethodName := ⟨RX12, "seam", "(III)I"⟩
theorem okX12_seam : yok yX12_seam 3 := by decide +kernel
abbrev cX12_sheet : ByteArray := prog_14_method_108_code
def yX12_sheet : MethodName := ⟨RX12, "sheet", "(IIII)I"⟩
theorem okX12_sheet : yok yX12_sheet 4 := by decide +kernel
abbrev cX12_stale : ByteArray := prog_14_method_112_code
def yX12_stale : MethodName := ⟨RX12, "stale", "(I)I"⟩
theorem okX12_stale : yok yX12_stale 1 := by decide +kernel
abbrev cX12_doubles : ByteArray := prog_14_method_114_code
def yX12_doubles : MethodName := ⟨RX12, "doubles", "(III)I"⟩
theorem okX12_doubles : yok yX12_doubles 3 := by decide +kernel
abbrev cX12_doubt : ByteArray := prog_14_method_121_code
def yX12_doubt : MethodName := ⟨RX12, "doubt", "()I"⟩
theorem okX12_doubt : yok yX12_doubt 0 := by decide +kernel
abbrev cX12_left : ByteArray := prog_14_method_125_code
def yX12_left : MethodName := ⟨RX12, "left", "(I)I"⟩
theorem okX12_left : yok yX12_left 1 := by decide +kernel
abbrev cX12_next : ByteArray := prog_14_method_126_code
def yX12_next : MethodName := ⟨RX12, "next", "()I"⟩
theorem okX12_next : yok yX12_next 0 := by decide +kernel
abbrev cX12_count : ByteArray := prog_14_method_129_code
def yX12_count : MethodName := ⟨RX12, "count", "(I)I"⟩
theorem okX12_count : yok yX12_count 1 := by decide +kernel
abbrev cX12_cutAll : ByteArray := prog_14_method_9_code
def yX12_cutAll : MethodName := ⟨RX12, "cutAll", "()V"⟩
theorem okX12_cutAll : yok yX12_cutAll 0 := by decide +kernel
abbrev cX12_begins : ByteArray := prog_14_method_19_code
def yX12_begins : MethodName := ⟨RX12, "begins", "()V"⟩
theorem okX12_begins : yok yX12_begins 0 := by decide +kernel
abbrev cX12_keeps : ByteArray := prog_14_method_20_code
def yX12_keeps : MethodName := ⟨RX12, "keeps", "(I)V"⟩
theorem okX12_keeps : yok yX12_keeps 1 := by decide +kernel
abbrev cX12_rules : ByteArray := prog_14_method_18_code
def yX12_rules : MethodName := ⟨RX12, "rules", "()I"⟩
theorem okX12_rules : yok yX12_rules 0 := by decide +kernel
abbrev cX12_fault : ByteArray := prog_14_method_65_code
def yX12_fault : MethodName := ⟨RX12, "fault", "(IIZIIII)I"⟩
theorem okX12_fault : yok yX12_fault 7 := by decide +kernel
theorem kw_2095 : Cond.code yX12_isSet prog_14_method_83_code 2 (some .boolean) ∈ uu := uu_in (i := 2095) (by decide +kernel) (by decide +kernel)
theorem kw_2092 : Cond.methodLink "LandSurveyModel" 563 yX12_isSet ∈ uu := uu_in (i := 2092) (by decide +kernel) (by decide +kernel)
theorem kw_2094 : Cond.instanceMethod yX12_isSet ∈ uu := uu_in (i := 2094) (by decide +kernel) (by decide +kernel)
theorem kw_122 : Cond.selects "LandSurveyModel" yX12_isSet yX12_isSet ∈ uu := uu_in (i := 122) (by decide +kernel) (by decide +kernel)
theorem kw_2107 : Cond.code yX12_bitsOf prog_14_method_88_code 5 (some .int) ∈ uu := uu_in (i := 2107) (by decide +kernel) (by decide +kernel)
theorem kw_2104 : Cond.methodLink "LandSurveyModel" 566 yX12_bitsOf ∈ uu := uu_in (i := 2104) (by decide +kernel) (by decide +kernel)
theorem kw_2106 : Cond.instanceMethod yX12_bitsOf ∈ uu := uu_in (i := 2106) (by decide +kernel) (by decide +kernel)
theorem kw_123 : Cond.selects "LandSurveyModel" yX12_bitsOf yX12_bitsOf ∈ uu := uu_in (i := 123) (by decide +kernel) (by decide +kernel)
theorem kw_2062 : Cond.code yX12_neighbour prog_14_method_68_code 4 (some .int) ∈ uu := uu_in (i := 2062) (by decide +kernel) (by decide +kernel)
theorem kw_2060 : Cond.methodLink "LandSurveyModel" 491 yX12_neighbour ∈ uu := uu_in (i := 2060) (by decide +kernel) (by decide +kernel)
theorem kw_2061 : Cond.static yX12_neighbour ∈ uu := uu_in (i := 2061) (by decide +kernel) (by decide +kernel)
theorem kw_1541 : Cond.fieldLink "LandSurveyModel" 155 "LandSurveyModel" "known" "[I" ∈ uu := uu_in (i := 1541) (by decide +kernel) (by decide +kernel)
theorem kw_1985 : Cond.code yX12_lineOf prog_14_method_52_code 4 (some .int) ∈ uu := uu_in (i := 1985) (by decide +kernel) (by decide +kernel)
theorem kw_1982 : Cond.methodLink "LandSurveyModel" 441 yX12_lineOf ∈ uu := uu_in (i := 1982) (by decide +kernel) (by decide +kernel)
theorem kw_1984 : Cond.instanceMethod yX12_lineOf ∈ uu := uu_in (i := 1984) (by decide +kernel) (by decide +kernel)
theorem kw_98 : Cond.selects "LandSurveyModel" yX12_lineOf yX12_lineOf ∈ uu := uu_in (i := 98) (by decide +kernel) (by decide +kernel)
theorem kw_2146 : Cond.code yX12_areKnown prog_14_method_98_code 3 (some .boolean) ∈ uu := uu_in (i := 2146) (by decide +kernel) (by decide +kernel)
theorem kw_2143 : Cond.methodLink "LandSurveyModel" 588 yX12_areKnown ∈ uu := uu_in (i := 2143) (by decide +kernel) (by decide +kernel)
theorem kw_2145 : Cond.instanceMethod yX12_areKnown ∈ uu := uu_in (i := 2145) (by decide +kernel) (by decide +kernel)
theorem kw_127 : Cond.selects "LandSurveyModel" yX12_areKnown yX12_areKnown ∈ uu := uu_in (i := 127) (by decide +kernel) (by decide +kernel)
theorem kw_1591 : Cond.fieldLink "LandSurveyModel" 272 "LandSurveyModel" "sheetBits" "[I" ∈ uu := uu_in (i := 1591) (by decide +kernel) (by decide +kernel)
theorem kw_2231 : Cond.code yX12_isBestKnown prog_14_method_119_code 1 (some .boolean) ∈ uu := uu_in (i := 2231) (by decide +kernel) (by decide +kernel)
theorem kw_2228 : Cond.methodLink "LandSurveyModel" 618 yX12_isBestKnown ∈ uu := uu_in (i := 2228) (by decide +kernel) (by decide +kernel)
theorem kw_2230 : Cond.instanceMethod yX12_isBestKnown ∈ uu := uu_in (i := 2230) (by decide +kernel) (by decide +kernel)
theorem kw_137 : Cond.selects "LandSurveyModel" yX12_isBestKnown yX12_isBestKnown ∈ uu := uu_in (i := 137) (by decide +kernel) (by decide +kernel)
theorem kw_1961 : Cond.code yX12_viewDay prog_14_method_40_code 1 (some .int) ∈ uu := uu_in (i := 1961) (by decide +kernel) (by decide +kernel)
theorem kw_1958 : Cond.methodLink "LandSurveyModel" 429 yX12_viewDay ∈ uu := uu_in (i := 1958) (by decide +kernel) (by decide +kernel)
theorem kw_1960 : Cond.instanceMethod yX12_viewDay ∈ uu := uu_in (i := 1960) (by decide +kernel) (by decide +kernel)
theorem kw_92 : Cond.selects "LandSurveyModel" yX12_viewDay yX12_viewDay ∈ uu := uu_in (i := 92) (by decide +kernel) (by decide +kernel)
theorem kw_2262 : Cond.code yX12_sightsThat prog_14_method_127_code 4 (some .int) ∈ uu := uu_in (i := 2262) (by decide +kernel) (by decide +kernel)
theorem kw_2259 : Cond.methodLink "LandSurveyModel" 633 yX12_sightsThat ∈ uu := uu_in (i := 2259) (by decide +kernel) (by decide +kernel)
theorem kw_2261 : Cond.instanceMethod yX12_sightsThat ∈ uu := uu_in (i := 2261) (by decide +kernel) (by decide +kernel)
theorem kw_141 : Cond.selects "LandSurveyModel" yX12_sightsThat yX12_sightsThat ∈ uu := uu_in (i := 141) (by decide +kernel) (by decide +kernel)
theorem kw_2266 : Cond.code yX12_cellsOfOne prog_14_method_128_code 3 (some .int) ∈ uu := uu_in (i := 2266) (by decide +kernel) (by decide +kernel)
theorem kw_2263 : Cond.methodLink "LandSurveyModel" 636 yX12_cellsOfOne ∈ uu := uu_in (i := 2263) (by decide +kernel) (by decide +kernel)
theorem kw_2265 : Cond.instanceMethod yX12_cellsOfOne ∈ uu := uu_in (i := 2265) (by decide +kernel) (by decide +kernel)
theorem kw_142 : Cond.selects "LandSurveyModel" yX12_cellsOfOne yX12_cellsOfOne ∈ uu := uu_in (i := 142) (by decide +kernel) (by decide +kernel)
theorem kw_1513 : Cond.fieldLink "LandSurveyModel" 298 "LandSurveyModel" "size" "I" ∈ uu := uu_in (i := 1513) (by decide +kernel) (by decide +kernel)
theorem kw_1514 : Cond.fieldLink "LandSurveyModel" 24 "LandSurveyModel" "sort" "[I" ∈ uu := uu_in (i := 1514) (by decide +kernel) (by decide +kernel)
theorem kw_1515 : Cond.fieldLink "LandSurveyModel" 27 "LandSurveyModel" "place" "[I" ∈ uu := uu_in (i := 1515) (by decide +kernel) (by decide +kernel)
theorem kw_1517 : Cond.fieldLink "LandSurveyModel" 317 "LandSurveyModel" "at" "I" ∈ uu := uu_in (i := 1517) (by decide +kernel) (by decide +kernel)
theorem kw_1518 : Cond.fieldLink "LandSurveyModel" 320 "LandSurveyModel" "fault" "I" ∈ uu := uu_in (i := 1518) (by decide +kernel) (by decide +kernel)
theorem kw_1522 : Cond.fieldLink "LandSurveyModel" 100 "LandSurveyModel" "rocks" "[I" ∈ uu := uu_in (i := 1522) (by decide +kernel) (by decide +kernel)
theorem kw_1528 : Cond.fieldLink "LandSurveyModel" 119 "LandSurveyModel" "isSteepTold" "[Z" ∈ uu := uu_in (i := 1528) (by decide +kernel) (by decide +kernel)
theorem kw_1529 : Cond.fieldLink "LandSurveyModel" 122 "LandSurveyModel" "steep" "[I" ∈ uu := uu_in (i := 1529) (by decide +kernel) (by decide +kernel)
theorem kw_1530 : Cond.fieldLink "LandSurveyModel" 125 "LandSurveyModel" "isDriftTold" "[Z" ∈ uu := uu_in (i := 1530) (by decide +kernel) (by decide +kernel)
theorem kw_1531 : Cond.fieldLink "LandSurveyModel" 128 "LandSurveyModel" "drift" "[I" ∈ uu := uu_in (i := 1531) (by decide +kernel) (by decide +kernel)
theorem kw_1534 : Cond.fieldLink "LandSurveyModel" 137 "LandSurveyModel" "lines" "[I" ∈ uu := uu_in (i := 1534) (by decide +kernel) (by decide +kernel)
theorem kw_1538 : Cond.fieldLink "LandSurveyModel" 336 "LandSurveyModel" "codes" "I" ∈ uu := uu_in (i := 1538) (by decide +kernel) (by decide +kernel)
theorem kw_1532 : Cond.fieldLink "LandSurveyModel" 131 "LandSurveyModel" "remainFrom" "[I" ∈ uu := uu_in (i := 1532) (by decide +kernel) (by decide +kernel)
theorem kw_1526 : Cond.fieldLink "LandSurveyModel" 112 "LandSurveyModel" "isHolding" "[Z" ∈ uu := uu_in (i := 1526) (by decide +kernel) (by decide +kernel)
theorem kw_1527 : Cond.fieldLink "LandSurveyModel" 116 "LandSurveyModel" "isTight" "[Z" ∈ uu := uu_in (i := 1527) (by decide +kernel) (by decide +kernel)
theorem kw_1521 : Cond.fieldLink "LandSurveyModel" 97 "LandSurveyModel" "bookOn" "[I" ∈ uu := uu_in (i := 1521) (by decide +kernel) (by decide +kernel)
theorem kw_1535 : Cond.fieldLink "LandSurveyModel" 140 "LandSurveyModel" "lineKind" "[I" ∈ uu := uu_in (i := 1535) (by decide +kernel) (by decide +kernel)
theorem kw_1536 : Cond.fieldLink "LandSurveyModel" 143 "LandSurveyModel" "lineN" "[I" ∈ uu := uu_in (i := 1536) (by decide +kernel) (by decide +kernel)
theorem kw_1537 : Cond.fieldLink "LandSurveyModel" 146 "LandSurveyModel" "lineAt" "[I" ∈ uu := uu_in (i := 1537) (by decide +kernel) (by decide +kernel)
theorem kw_1524 : Cond.fieldLink "LandSurveyModel" 106 "LandSurveyModel" "thin" "[I" ∈ uu := uu_in (i := 1524) (by decide +kernel) (by decide +kernel)
theorem kw_1525 : Cond.fieldLink "LandSurveyModel" 109 "LandSurveyModel" "thick" "[I" ∈ uu := uu_in (i := 1525) (by decide +kernel) (by decide +kernel)
theorem kw_1533 : Cond.fieldLink "LandSurveyModel" 134 "LandSurveyModel" "remainTo" "[I" ∈ uu := uu_in (i := 1533) (by decide +kernel) (by decide +kernel)
theorem kw_1779 : Cond.code yX12_cutAll prog_14_method_9_code 7 none ∈ uu := uu_in (i := 1779) (by decide +kernel) (by decide +kernel)
theorem kw_1776 : Cond.methodLink "LandSurveyModel" 345 yX12_cutAll ∈ uu := uu_in (i := 1776) (by decide +kernel) (by decide +kernel)
theorem kw_1778 : Cond.instanceMethod yX12_cutAll ∈ uu := uu_in (i := 1778) (by decide +kernel) (by decide +kernel)
theorem kw_64 : Cond.selects "LandSurveyModel" yX12_cutAll yX12_cutAll ∈ uu := uu_in (i := 64) (by decide +kernel) (by decide +kernel)
theorem kw_1798 : Cond.code yX12_begins prog_14_method_19_code 2 none ∈ uu := uu_in (i := 1798) (by decide +kernel) (by decide +kernel)
theorem kw_1795 : Cond.methodLink "LandSurveyModel" 348 yX12_begins ∈ uu := uu_in (i := 1795) (by decide +kernel) (by decide +kernel)
theorem kw_1797 : Cond.instanceMethod yX12_begins ∈ uu := uu_in (i := 1797) (by decide +kernel) (by decide +kernel)
theorem kw_65 : Cond.selects "LandSurveyModel" yX12_begins yX12_begins ∈ uu := uu_in (i := 65) (by decide +kernel) (by decide +kernel)
theorem kw_1887 : Cond.code yX12_keeps prog_14_method_20_code 3 none ∈ uu := uu_in (i := 1887) (by decide +kernel) (by decide +kernel)
theorem kw_1884 : Cond.methodLink "LandSurveyModel" 354 yX12_keeps ∈ uu := uu_in (i := 1884) (by decide +kernel) (by decide +kernel)
theorem kw_1886 : Cond.instanceMethod yX12_keeps ∈ uu := uu_in (i := 1886) (by decide +kernel) (by decide +kernel)
theorem kw_87 : Cond.selects "LandSurveyModel" yX12_keeps yX12_keeps ∈ uu := uu_in (i := 87) (by decide +kernel) (by decide +kernel)
theorem kw_1569 : Cond.fieldLink "LandSurveyModel" 224 "LandSurveyModel" "throwLow" "[I" ∈ uu := uu_in (i := 1569) (by decide +kernel) (by decide +kernel)
theorem kw_1570 : Cond.fieldLink "LandSurveyModel" 227 "LandSurveyModel" "throwHigh" "[I" ∈ uu := uu_in (i := 1570) (by decide +kernel) (by decide +kernel)
theorem kw_1571 : Cond.fieldLink "LandSurveyModel" 230 "LandSurveyModel" "breakCost" "[I" ∈ uu := uu_in (i := 1571) (by decide +kernel) (by decide +kernel)
theorem kw_1568 : Cond.fieldLink "LandSurveyModel" 221 "LandSurveyModel" "isBreakSide" "[Z" ∈ uu := uu_in (i := 1568) (by decide +kernel) (by decide +kernel)
theorem dX12_cost_0 : decode cX12_cost 0 = .ok (.aload_n 0, 1) := by decide +kernel
theorem dX12_cost_1 : decode cX12_cost 1 = .ok (.iconst 0, 1) := by decide +kernel
theorem dX12_cost_2 : decode cX12_cost 2 = .ok (.putfield 1, 3) := by decide +kernel
theorem dX12_cost_5 : decode cX12_cost 5 = .ok (.aload_n 0, 1) := by decide +kernel
theorem dX12_cost_6 : decode cX12_cost 6 = .ok (.invokevirtual 557, 3) := by decide +kernel
theorem dX12_cost_9 : decode cX12_cost 9 = .ok (.aload_n 0, 1) := by decide +kernel
theorem dX12_cost_10 : decode cX12_cost 10 = .ok (.iload_n 1, 1) := by decide +kernel
theorem dX12_cost_11 : decode cX12_cost 11 = .ok (.invokevirtual 563, 3) := by decide +kernel
theorem dX12_cost_14 : decode cX12_cost 14 = .ok (.ifCond .eq 21, 3) := by decide +kernel
theorem dX12_cost_17 : decode cX12_cost 17 = .ok (.aload_n 0, 1) := by decide +kernel
theorem dX12_cost_18 : decode cX12_cost 18 = .ok (.getfield 251, 3) := by decide +kernel
theorem dX12_cost_21 : decode cX12_cost 21 = .ok (.iload_n 1, 1) := by decide +kernel
theorem dX12_cost_22 : decode cX12_cost 22 = .ok (.baload, 1) := by decide +kernel
theorem dX12_cost_23 : decode cX12_cost 23 = .ok (.ifCond .eq 12, 3) := by decide +kernel
theorem dX12_cost_26 : decode cX12_cost 26 = .ok (.aload_n 0, 1) := by decide +kernel
theorem dX12_cost_27 : decode cX12_cost 27 = .ok (.getfield 254, 3) := by decide +kernel
theorem dX12_cost_30 : decode cX12_cost 30 = .ok (.iload_n 1, 1) := by decide +kernel
theorem dX12_cost_31 : decode cX12_cost 31 = .ok (.iaload, 1) := by decide +kernel
theorem dX12_cost_32 : decode cX12_cost 32 = .ok (.goto 4, 3) := by decide +kernel
theorem dX12_cost_36 : decode cX12_cost 36 = .ok (.ireturn, 1) := by decide +kernel
theorem dX12_cost_35 : decode cX12_cost 35 = .ok (.iconst (-1), 1) := by decide +kernel
theorem dX12_doubted_0 : decode cX12_doubted 0 = .ok (.aload_n 0, 1) := by decide +kernel
theorem dX12_doubted_1 : decode cX12_doubted 1 = .ok (.iconst 0, 1) := by decide +kernel
theorem dX12_doubted_2 : decode cX12_doubted 2 = .ok (.putfield 1, 3) := by decide +kernel
theorem dX12_doubted_5 : decode cX12_doubted 5 = .ok (.aload_n 0, 1) := by decide +kernel
theorem dX12_doubted_6 : decode cX12_doubted 6 = .ok (.invokevirtual 557, 3) := by decide +kernel
theorem dX12_doubted_9 : decode cX12_doubted 9 = .ok (.iload_n 2, 1) := by decide +kernel
theorem dX12_doubted_10 : decode cX12_doubted 10 = .ok (.istore_n 3, 1) := by decide +kernel
theorem dX12_doubted_11 : decode cX12_doubted 11 = .ok (.iconst 0, 1) := by decide +kernel
theorem dX12_doubted_12 : decode cX12_doubted 12 = .ok (.istore 4, 2) := by decide +kernel
theorem dX12_doubted_14 : decode cX12_doubted 14 = .ok (.iload 4, 2) := by decide +kernel
theorem dX12_doubted_16 : decode cX12_doubted 16 = .ok (.aload_n 0, 1) := by decide +kernel
theorem dX12_doubted_17 : decode cX12_doubted 17 = .ok (.getfield 423, 3) := by decide +kernel
theorem dX12_doubted_20 : decode cX12_doubted 20 = .ok (.if_icmp .ge 54, 3) := by decide +kernel
theorem dX12_doubted_74 : decode cX12_doubted 74 = .ok (.iconst (-1), 1) := by decide +kernel
theorem dX12_doubted_75 : decode cX12_doubted 75 = .ok (.ireturn, 1) := by decide +kernel
theorem dX12_best_0 : decode cX12_best 0 = .ok (.aload_n 0, 1) := by decide +kernel
theorem dX12_best_1 : decode cX12_best 1 = .ok (.iconst 0, 1) := by decide +kernel
theorem dX12_best_2 : decode cX12_best 2 = .ok (.putfield 1, 3) := by decide +kernel
theorem dX12_best_5 : decode cX12_best 5 = .ok (.aload_n 0, 1) := by decide +kernel
theorem dX12_best_6 : decode cX12_best 6 = .ok (.invokevirtual 557, 3) := by decide +kernel
theorem dX12_best_9 : decode cX12_best 9 = .ok (.iload_n 1, 1) := by decide +kernel
theorem dX12_best_10 : decode cX12_best 10 = .ok (.iconst 3, 1) := by decide +kernel
theorem dX12_best_11 : decode cX12_best 11 = .ok (.if_icmp .ne 8, 3) := by decide +kernel
theorem dX12_best_19 : decode cX12_best 19 = .ok (.aload_n 0, 1) := by decide +kernel
theorem dX12_best_20 : decode cX12_best 20 = .ok (.getfield 537, 3) := by decide +kernel
theorem dX12_best_23 : decode cX12_best 23 = .ok (.ifCond .lt 12, 3) := by decide +kernel
theorem dX12_best_26 : decode cX12_best 26 = .ok (.iload_n 1, 1) := by decide +kernel
theorem dX12_best_27 : decode cX12_best 27 = .ok (.ifCond .lt 8, 3) := by decide +kernel
theorem dX12_best_35 : decode cX12_best 35 = .ok (.iconst (-1), 1) := by decide +kernel
theorem dX12_best_36 : decode cX12_best 36 = .ok (.goto 44, 3) := by decide +kernel
theorem dX12_best_80 : decode cX12_best 80 = .ok (.ireturn, 1) := by decide +kernel
theorem dX12_best_30 : decode cX12_best 30 = .ok (.iload_n 1, 1) := by decide +kernel
theorem dX12_best_31 : decode cX12_best 31 = .ok (.iconst 3, 1) := by decide +kernel
theorem dX12_best_32 : decode cX12_best 32 = .ok (.if_icmp .le 7, 3) := by decide +kernel
theorem dX12_best_39 : decode cX12_best 39 = .ok (.iload_n 1, 1) := by decide +kernel
theorem dX12_best_40 : decode cX12_best 40 = .ok (.ifCond .ne 10, 3) := by decide +kernel
theorem dX12_best_50 : decode cX12_best 50 = .ok (.iload_n 1, 1) := by decide +kernel
theorem dX12_best_51 : decode cX12_best 51 = .ok (.iconst 1, 1) := by decide +kernel
theorem dX12_best_52 : decode cX12_best 52 = .ok (.if_icmp .ne 15, 3) := by decide +kernel
theorem dX12_best_67 : decode cX12_best 67 = .ok (.aload_n 0, 1) := by decide +kernel
theorem dX12_best_68 : decode cX12_best 68 = .ok (.aload_n 0, 1) := by decide +kernel
theorem dX12_best_69 : decode cX12_best 69 = .ok (.getfield 257, 3) := by decide +kernel
theorem dX12_best_72 : decode cX12_best 72 = .ok (.aload_n 0, 1) := by decide +kernel
theorem dX12_best_73 : decode cX12_best 73 = .ok (.getfield 537, 3) := by decide +kernel
theorem dX12_best_76 : decode cX12_best 76 = .ok (.laload, 1) := by decide +kernel
theorem dX12_best_77 : decode cX12_best 77 = .ok (.invokevirtual 566, 3) := by decide +kernel
theorem dX12_best_55 : decode cX12_best 55 = .ok (.aload_n 0, 1) := by decide +kernel
theorem dX12_best_56 : decode cX12_best 56 = .ok (.getfield 254, 3) := by decide +kernel
theorem dX12_best_59 : decode cX12_best 59 = .ok (.aload_n 0, 1) := by decide +kernel
theorem dX12_best_60 : decode cX12_best 60 = .ok (.getfield 537, 3) := by decide +kernel
theorem dX12_best_63 : decode cX12_best 63 = .ok (.iaload, 1) := by decide +kernel
theorem dX12_best_64 : decode cX12_best 64 = .ok (.goto 16, 3) := by decide +kernel
theorem dX12_best_43 : decode cX12_best 43 = .ok (.aload_n 0, 1) := by decide +kernel
theorem dX12_best_44 : decode cX12_best 44 = .ok (.getfield 537, 3) := by decide +kernel
theorem dX12_best_47 : decode cX12_best 47 = .ok (.goto 33, 3) := by decide +kernel
theorem dX12_best_14 : decode cX12_best 14 = .ok (.aload_n 0, 1) := by decide +kernel
theorem dX12_best_15 : decode cX12_best 15 = .ok (.getfield 546, 3) := by decide +kernel
theorem dX12_best_18 : decode cX12_best 18 = .ok (.ireturn, 1) := by decide +kernel
theorem dX12_kept_0 : decode cX12_kept 0 = .ok (.aload_n 0, 1) := by decide +kernel
theorem dX12_kept_1 : decode cX12_kept 1 = .ok (.iconst 0, 1) := by decide +kernel
theorem dX12_kept_2 : decode cX12_kept 2 = .ok (.putfield 1, 3) := by decide +kernel
theorem dX12_kept_5 : decode cX12_kept 5 = .ok (.aload_n 0, 1) := by decide +kernel
theorem dX12_kept_6 : decode cX12_kept 6 = .ok (.invokevirtual 557, 3) := by decide +kernel
theorem dX12_kept_9 : decode cX12_kept 9 = .ok (.aload_n 0, 1) := by decide +kernel
theorem dX12_kept_10 : decode cX12_kept 10 = .ok (.iload_n 1, 1) := by decide +kernel
theorem dX12_kept_11 : decode cX12_kept 11 = .ok (.invokevirtual 563, 3) := by decide +kernel
theorem dX12_kept_14 : decode cX12_kept 14 = .ok (.ifCond .ne 7, 3) := by decide +kernel
theorem dX12_kept_21 : decode cX12_kept 21 = .ok (.aload_n 0, 1) := by decide +kernel
theorem dX12_kept_22 : decode cX12_kept 22 = .ok (.getfield 260, 3) := by decide +kernel
theorem dX12_kept_25 : decode cX12_kept 25 = .ok (.iload_n 1, 1) := by decide +kernel
theorem dX12_kept_26 : decode cX12_kept 26 = .ok (.baload, 1) := by decide +kernel
theorem dX12_kept_27 : decode cX12_kept 27 = .ok (.ifCond .eq 7, 3) := by decide +kernel
theorem dX12_kept_30 : decode cX12_kept 30 = .ok (.iconst 1, 1) := by decide +kernel
theorem dX12_kept_31 : decode cX12_kept 31 = .ok (.goto 4, 3) := by decide +kernel
theorem dX12_kept_35 : decode cX12_kept 35 = .ok (.ireturn, 1) := by decide +kernel
theorem dX12_kept_17 : decode cX12_kept 17 = .ok (.iconst (-1), 1) := by decide +kernel
theorem dX12_kept_18 : decode cX12_kept 18 = .ok (.goto 17, 3) := by decide +kernel
theorem dX12_lies_0 : decode cX12_lies 0 = .ok (.aload_n 0, 1) := by decide +kernel
theorem dX12_lies_1 : decode cX12_lies 1 = .ok (.iconst 0, 1) := by decide +kernel
theorem dX12_lies_2 : decode cX12_lies 2 = .ok (.putfield 1, 3) := by decide +kernel
theorem dX12_lies_5 : decode cX12_lies 5 = .ok (.iload_n 1, 1) := by decide +kernel
theorem dX12_lies_6 : decode cX12_lies 6 = .ok (.iload_n 2, 1) := by decide +kernel
theorem dX12_lies_7 : decode cX12_lies 7 = .ok (.invokestatic 419, 3) := by decide +kernel
theorem dX12_lies_10 : decode cX12_lies 10 = .ok (.ifCond .eq 14, 3) := by decide +kernel
theorem dX12_lies_13 : decode cX12_lies 13 = .ok (.iload_n 3, 1) := by decide +kernel
theorem dX12_lies_14 : decode cX12_lies 14 = .ok (.iconst 0, 1) := by decide +kernel
theorem dX12_lies_15 : decode cX12_lies 15 = .ok (.sipush 2000, 3) := by decide +kernel
theorem dX12_lies_18 : decode cX12_lies 18 = .ok (.invokestatic 415, 3) := by decide +kernel
theorem dX12_lies_21 : decode cX12_lies 21 = .ok (.ifCond .ne 5, 3) := by decide +kernel
theorem dX12_lies_26 : decode cX12_lies 26 = .ok (.aload_n 0, 1) := by decide +kernel
theorem dX12_lies_27 : decode cX12_lies 27 = .ok (.invokevirtual 557, 3) := by decide +kernel
theorem dX12_lies_30 : decode cX12_lies 30 = .ok (.aload_n 0, 1) := by decide +kernel
theorem dX12_lies_31 : decode cX12_lies 31 = .ok (.getfield 546, 3) := by decide +kernel
theorem dX12_lies_34 : decode cX12_lies 34 = .ok (.ifCond .ne 7, 3) := by decide +kernel
theorem dX12_lies_41 : decode cX12_lies 41 = .ok (.aload_n 0, 1) := by decide +kernel
theorem dX12_lies_42 : decode cX12_lies 42 = .ok (.bipush 12, 2) := by decide +kernel
theorem dX12_lies_44 : decode cX12_lies 44 = .ok (.iload_n 2, 1) := by decide +kernel
theorem dX12_lies_45 : decode cX12_lies 45 = .ok (.imul, 1) := by decide +kernel
theorem dX12_lies_46 : decode cX12_lies 46 = .ok (.iload_n 1, 1) := by decide +kernel
theorem dX12_lies_47 : decode cX12_lies 47 = .ok (.iadd, 1) := by decide +kernel
theorem dX12_lies_48 : decode cX12_lies 48 = .ok (.iload_n 3, 1) := by decide +kernel
theorem dX12_lies_49 : decode cX12_lies 49 = .ok (.invokevirtual 575, 3) := by decide +kernel
theorem dX12_lies_52 : decode cX12_lies 52 = .ok (.ireturn, 1) := by decide +kernel
theorem dX12_lies_24 : decode cX12_lies 24 = .ok (.iconst (-1), 1) := by decide +kernel
theorem dX12_lies_25 : decode cX12_lies 25 = .ok (.ireturn, 1) := by decide +kernel
theorem dX12_line_0 : decode cX12_line 0 = .ok (.aload_n 0, 1) := by decide +kernel
theorem dX12_line_1 : decode cX12_line 1 = .ok (.iconst 0, 1) := by decide +kernel
theorem dX12_line_2 : decode cX12_line 2 = .ok (.putfield 1, 3) := by decide +kernel
theorem dX12_line_5 : decode cX12_line 5 = .ok (.iload_n 1, 1) := by decide +kernel
theorem dX12_line_6 : decode cX12_line 6 = .ok (.iload_n 2, 1) := by decide +kernel
theorem dX12_line_7 : decode cX12_line 7 = .ok (.invokestatic 419, 3) := by decide +kernel
theorem dX12_line_10 : decode cX12_line 10 = .ok (.ifCond .eq 25, 3) := by decide +kernel
theorem dX12_line_13 : decode cX12_line 13 = .ok (.iload_n 3, 1) := by decide +kernel
theorem dX12_line_14 : decode cX12_line 14 = .ok (.iconst 0, 1) := by decide +kernel
theorem dX12_line_15 : decode cX12_line 15 = .ok (.iconst 3, 1) := by decide +kernel
theorem dX12_line_16 : decode cX12_line 16 = .ok (.invokestatic 415, 3) := by decide +kernel
theorem dX12_line_19 : decode cX12_line 19 = .ok (.ifCond .eq 16, 3) := by decide +kernel
theorem dX12_line_22 : decode cX12_line 22 = .ok (.bipush 12, 2) := by decide +kernel
theorem dX12_line_24 : decode cX12_line 24 = .ok (.iload_n 2, 1) := by decide +kernel
theorem dX12_line_25 : decode cX12_line 25 = .ok (.imul, 1) := by decide +kernel
theorem dX12_line_26 : decode cX12_line 26 = .ok (.iload_n 1, 1) := by decide +kernel
theorem dX12_line_27 : decode cX12_line 27 = .ok (.iadd, 1) := by decide +kernel
theorem dX12_line_28 : decode cX12_line 28 = .ok (.iload_n 3, 1) := by decide +kernel
theorem dX12_line_29 : decode cX12_line 29 = .ok (.invokestatic 491, 3) := by decide +kernel
theorem dX12_line_32 : decode cX12_line 32 = .ok (.ifCond .ge 5, 3) := by decide +kernel
theorem dX12_line_35 : decode cX12_line 35 = .ok (.iconst (-1), 1) := by decide +kernel
theorem dX12_line_36 : decode cX12_line 36 = .ok (.ireturn, 1) := by decide +kernel
theorem dX12_line_37 : decode cX12_line 37 = .ok (.aload_n 0, 1) := by decide +kernel
theorem dX12_line_38 : decode cX12_line 38 = .ok (.invokevirtual 557, 3) := by decide +kernel
theorem dX12_line_41 : decode cX12_line 41 = .ok (.aload_n 0, 1) := by decide +kernel
theorem dX12_line_42 : decode cX12_line 42 = .ok (.getfield 546, 3) := by decide +kernel
theorem dX12_line_45 : decode cX12_line 45 = .ok (.ifCond .ne 5, 3) := by decide +kernel
theorem dX12_line_50 : decode cX12_line 50 = .ok (.iconst 0, 1) := by decide +kernel
theorem dX12_line_51 : decode cX12_line 51 = .ok (.istore 4, 2) := by decide +kernel
theorem dX12_line_53 : decode cX12_line 53 = .ok (.iconst 0, 1) := by decide +kernel
theorem dX12_line_54 : decode cX12_line 54 = .ok (.istore 5, 2) := by decide +kernel
theorem dX12_line_56 : decode cX12_line 56 = .ok (.iconst 0, 1) := by decide +kernel
theorem dX12_line_57 : decode cX12_line 57 = .ok (.istore 6, 2) := by decide +kernel
theorem dX12_line_59 : decode cX12_line 59 = .ok (.iconst 0, 1) := by decide +kernel
theorem dX12_line_60 : decode cX12_line 60 = .ok (.istore 7, 2) := by decide +kernel
theorem dX12_line_62 : decode cX12_line 62 = .ok (.iload 7, 2) := by decide +kernel
theorem dX12_line_64 : decode cX12_line 64 = .ok (.iconst 1, 1) := by decide +kernel
theorem dX12_line_65 : decode cX12_line 65 = .ok (.aload_n 0, 1) := by decide +kernel
theorem dX12_line_66 : decode cX12_line 66 = .ok (.getfield 477, 3) := by decide +kernel
theorem dX12_line_69 : decode cX12_line 69 = .ok (.ishl, 1) := by decide +kernel
theorem dX12_line_70 : decode cX12_line 70 = .ok (.if_icmp .ge 129, 3) := by decide +kernel
theorem dX12_line_73 : decode cX12_line 73 = .ok (.aload_n 0, 1) := by decide +kernel
theorem dX12_line_74 : decode cX12_line 74 = .ok (.getfield 260, 3) := by decide +kernel
theorem dX12_line_77 : decode cX12_line 77 = .ok (.iload 7, 2) := by decide +kernel
theorem dX12_line_79 : decode cX12_line 79 = .ok (.baload, 1) := by decide +kernel
theorem dX12_line_80 : decode cX12_line 80 = .ok (.ifCond .eq 113, 3) := by decide +kernel
theorem dX12_line_83 : decode cX12_line 83 = .ok (.aload_n 0, 1) := by decide +kernel
theorem dX12_line_84 : decode cX12_line 84 = .ok (.iload 7, 2) := by decide +kernel
theorem dX12_line_86 : decode cX12_line 86 = .ok (.bipush 12, 2) := by decide +kernel
theorem dX12_line_88 : decode cX12_line 88 = .ok (.iload_n 2, 1) := by decide +kernel
theorem dX12_line_89 : decode cX12_line 89 = .ok (.imul, 1) := by decide +kernel
theorem dX12_line_90 : decode cX12_line 90 = .ok (.iload_n 1, 1) := by decide +kernel
theorem dX12_line_91 : decode cX12_line 91 = .ok (.iadd, 1) := by decide +kernel
theorem dX12_line_92 : decode cX12_line 92 = .ok (.iconst 0, 1) := by decide +kernel
theorem dX12_line_93 : decode cX12_line 93 = .ok (.invokevirtual 572, 3) := by decide +kernel
theorem dX12_line_96 : decode cX12_line 96 = .ok (.istore 8, 2) := by decide +kernel
theorem dX12_line_98 : decode cX12_line 98 = .ok (.aload_n 0, 1) := by decide +kernel
theorem dX12_line_99 : decode cX12_line 99 = .ok (.iload 7, 2) := by decide +kernel
theorem dX12_line_101 : decode cX12_line 101 = .ok (.bipush 12, 2) := by decide +kernel
theorem dX12_line_103 : decode cX12_line 103 = .ok (.iload_n 2, 1) := by decide +kernel
theorem dX12_line_104 : decode cX12_line 104 = .ok (.imul, 1) := by decide +kernel
theorem dX12_line_105 : decode cX12_line 105 = .ok (.iload_n 1, 1) := by decide +kernel
theorem dX12_line_106 : decode cX12_line 106 = .ok (.iadd, 1) := by decide +kernel
theorem dX12_line_107 : decode cX12_line 107 = .ok (.iload_n 3, 1) := by decide +kernel
theorem dX12_line_108 : decode cX12_line 108 = .ok (.invokestatic 491, 3) := by decide +kernel
theorem dX12_line_111 : decode cX12_line 111 = .ok (.iconst 0, 1) := by decide +kernel
theorem dX12_line_112 : decode cX12_line 112 = .ok (.invokevirtual 572, 3) := by decide +kernel
theorem dX12_line_115 : decode cX12_line 115 = .ok (.istore 9, 2) := by decide +kernel
theorem dX12_line_117 : decode cX12_line 117 = .ok (.iload 4, 2) := by decide +kernel
theorem dX12_line_119 : decode cX12_line 119 = .ok (.iload 8, 2) := by decide +kernel
theorem dX12_line_121 : decode cX12_line 121 = .ok (.invokestatic 578, 3) := by decide +kernel
theorem dX12_line_124 : decode cX12_line 124 = .ok (.ifCond .eq 22, 3) := by decide +kernel
theorem dX12_line_146 : decode cX12_line 146 = .ok (.iconst 0, 1) := by decide +kernel
theorem dX12_line_147 : decode cX12_line 147 = .ok (.iadd, 1) := by decide +kernel
theorem dX12_line_148 : decode cX12_line 148 = .ok (.istore 4, 2) := by decide +kernel
theorem dX12_line_150 : decode cX12_line 150 = .ok (.iload 5, 2) := by decide +kernel
theorem dX12_line_152 : decode cX12_line 152 = .ok (.iload 8, 2) := by decide +kernel
theorem dX12_line_154 : decode cX12_line 154 = .ok (.iload 9, 2) := by decide +kernel
theorem dX12_line_156 : decode cX12_line 156 = .ok (.iand, 1) := by decide +kernel
theorem dX12_line_157 : decode cX12_line 157 = .ok (.ifCond .ne 7, 3) := by decide +kernel
theorem dX12_line_164 : decode cX12_line 164 = .ok (.iconst 0, 1) := by decide +kernel
theorem dX12_line_165 : decode cX12_line 165 = .ok (.iadd, 1) := by decide +kernel
theorem dX12_line_166 : decode cX12_line 166 = .ok (.istore 5, 2) := by decide +kernel
theorem dX12_line_168 : decode cX12_line 168 = .ok (.iload 6, 2) := by decide +kernel
theorem dX12_line_170 : decode cX12_line 170 = .ok (.iload 8, 2) := by decide +kernel
theorem dX12_line_172 : decode cX12_line 172 = .ok (.invokestatic 578, 3) := by decide +kernel
theorem dX12_line_175 : decode cX12_line 175 = .ok (.ifCond .eq 14, 3) := by decide +kernel
theorem dX12_line_189 : decode cX12_line 189 = .ok (.iconst 0, 1) := by decide +kernel
theorem dX12_line_190 : decode cX12_line 190 = .ok (.iadd, 1) := by decide +kernel
theorem dX12_line_191 : decode cX12_line 191 = .ok (.istore 6, 2) := by decide +kernel
theorem dX12_line_193 : decode cX12_line 193 = .ok (.iinc 7 1, 3) := by decide +kernel
theorem dX12_line_196 : decode cX12_line 196 = .ok (.goto (-134), 3) := by decide +kernel
theorem dX12_line_199 : decode cX12_line 199 = .ok (.iconst 0, 1) := by decide +kernel
theorem dX12_line_200 : decode cX12_line 200 = .ok (.istore 7, 2) := by decide +kernel
theorem dX12_line_202 : decode cX12_line 202 = .ok (.iload 7, 2) := by decide +kernel
theorem dX12_line_204 : decode cX12_line 204 = .ok (.bipush 12, 2) := by decide +kernel
theorem dX12_line_206 : decode cX12_line 206 = .ok (.if_icmp .ge 17, 3) := by decide +kernel
theorem dX12_line_223 : decode cX12_line 223 = .ok (.aload_n 0, 1) := by decide +kernel
theorem dX12_line_224 : decode cX12_line 224 = .ok (.getfield 155, 3) := by decide +kernel
theorem dX12_line_227 : decode cX12_line 227 = .ok (.bipush 8, 2) := by decide +kernel
theorem dX12_line_229 : decode cX12_line 229 = .ok (.sipush 1000, 3) := by decide +kernel
theorem dX12_line_232 : decode cX12_line 232 = .ok (.iload 4, 2) := by decide +kernel
theorem dX12_line_234 : decode cX12_line 234 = .ok (.imul, 1) := by decide +kernel
theorem dX12_line_235 : decode cX12_line 235 = .ok (.aload_n 0, 1) := by decide +kernel
theorem dX12_line_236 : decode cX12_line 236 = .ok (.getfield 546, 3) := by decide +kernel
theorem dX12_line_239 : decode cX12_line 239 = .ok (.idiv, 1) := by decide +kernel
theorem dX12_line_240 : decode cX12_line 240 = .ok (.iastore, 1) := by decide +kernel
theorem dX12_line_241 : decode cX12_line 241 = .ok (.aload_n 0, 1) := by decide +kernel
theorem dX12_line_242 : decode cX12_line 242 = .ok (.getfield 155, 3) := by decide +kernel
theorem dX12_line_245 : decode cX12_line 245 = .ok (.bipush 9, 2) := by decide +kernel
theorem dX12_line_247 : decode cX12_line 247 = .ok (.sipush 1000, 3) := by decide +kernel
theorem dX12_line_250 : decode cX12_line 250 = .ok (.iload 5, 2) := by decide +kernel
theorem dX12_line_252 : decode cX12_line 252 = .ok (.imul, 1) := by decide +kernel
theorem dX12_line_253 : decode cX12_line 253 = .ok (.aload_n 0, 1) := by decide +kernel
theorem dX12_line_254 : decode cX12_line 254 = .ok (.getfield 546, 3) := by decide +kernel
theorem dX12_line_257 : decode cX12_line 257 = .ok (.idiv, 1) := by decide +kernel
theorem dX12_line_258 : decode cX12_line 258 = .ok (.iastore, 1) := by decide +kernel
theorem dX12_line_259 : decode cX12_line 259 = .ok (.aload_n 0, 1) := by decide +kernel
theorem dX12_line_260 : decode cX12_line 260 = .ok (.getfield 155, 3) := by decide +kernel
theorem dX12_line_263 : decode cX12_line 263 = .ok (.bipush 10, 2) := by decide +kernel
theorem dX12_line_265 : decode cX12_line 265 = .ok (.sipush 1000, 3) := by decide +kernel
theorem dX12_line_268 : decode cX12_line 268 = .ok (.iload 6, 2) := by decide +kernel
theorem dX12_line_270 : decode cX12_line 270 = .ok (.imul, 1) := by decide +kernel
theorem dX12_line_271 : decode cX12_line 271 = .ok (.aload_n 0, 1) := by decide +kernel
theorem dX12_line_272 : decode cX12_line 272 = .ok (.getfield 546, 3) := by decide +kernel
theorem dX12_line_275 : decode cX12_line 275 = .ok (.idiv, 1) := by decide +kernel
theorem dX12_line_276 : decode cX12_line 276 = .ok (.iastore, 1) := by decide +kernel
theorem dX12_line_277 : decode cX12_line 277 = .ok (.aload_n 0, 1) := by decide +kernel
theorem dX12_line_278 : decode cX12_line 278 = .ok (.getfield 155, 3) := by decide +kernel
theorem dX12_line_281 : decode cX12_line 281 = .ok (.bipush 11, 2) := by decide +kernel
theorem dX12_line_283 : decode cX12_line 283 = .ok (.aload_n 0, 1) := by decide +kernel
theorem dX12_line_284 : decode cX12_line 284 = .ok (.getfield 546, 3) := by decide +kernel
theorem dX12_line_287 : decode cX12_line 287 = .ok (.iastore, 1) := by decide +kernel
theorem dX12_line_288 : decode cX12_line 288 = .ok (.aload_n 0, 1) := by decide +kernel
theorem dX12_line_289 : decode cX12_line 289 = .ok (.iconst 3, 1) := by decide +kernel
theorem dX12_line_290 : decode cX12_line 290 = .ok (.invokevirtual 441, 3) := by decide +kernel
theorem dX12_line_293 : decode cX12_line 293 = .ok (.istore 7, 2) := by decide +kernel
theorem dX12_line_295 : decode cX12_line 295 = .ok (.iload 7, 2) := by decide +kernel
theorem dX12_line_297 : decode cX12_line 297 = .ok (.ifCond .lt 21, 3) := by decide +kernel
theorem dX12_line_318 : decode cX12_line 318 = .ok (.aload_n 0, 1) := by decide +kernel
theorem dX12_line_319 : decode cX12_line 319 = .ok (.getfield 155, 3) := by decide +kernel
theorem dX12_line_322 : decode cX12_line 322 = .ok (.bipush 8, 2) := by decide +kernel
theorem dX12_line_324 : decode cX12_line 324 = .ok (.iaload, 1) := by decide +kernel
theorem dX12_line_325 : decode cX12_line 325 = .ok (.sipush 1000, 3) := by decide +kernel
theorem dX12_line_328 : decode cX12_line 328 = .ok (.if_icmp .ne 7, 3) := by decide +kernel
theorem dX12_line_335 : decode cX12_line 335 = .ok (.aload_n 0, 1) := by decide +kernel
theorem dX12_line_336 : decode cX12_line 336 = .ok (.getfield 155, 3) := by decide +kernel
theorem dX12_line_339 : decode cX12_line 339 = .ok (.bipush 9, 2) := by decide +kernel
theorem dX12_line_341 : decode cX12_line 341 = .ok (.iaload, 1) := by decide +kernel
theorem dX12_line_342 : decode cX12_line 342 = .ok (.sipush 1000, 3) := by decide +kernel
theorem dX12_line_345 : decode cX12_line 345 = .ok (.if_icmp .ne 7, 3) := by decide +kernel
theorem dX12_line_352 : decode cX12_line 352 = .ok (.aload_n 0, 1) := by decide +kernel
theorem dX12_line_353 : decode cX12_line 353 = .ok (.getfield 155, 3) := by decide +kernel
theorem dX12_line_356 : decode cX12_line 356 = .ok (.bipush 10, 2) := by decide +kernel
theorem dX12_line_358 : decode cX12_line 358 = .ok (.iaload, 1) := by decide +kernel
theorem dX12_line_359 : decode cX12_line 359 = .ok (.sipush 1000, 3) := by decide +kernel
theorem dX12_line_362 : decode cX12_line 362 = .ok (.if_icmp .ne 7, 3) := by decide +kernel
theorem dX12_line_369 : decode cX12_line 369 = .ok (.iconst 1, 1) := by decide +kernel
theorem dX12_line_370 : decode cX12_line 370 = .ok (.ireturn, 1) := by decide +kernel
theorem dX12_line_209 : decode cX12_line 209 = .ok (.aload_n 0, 1) := by decide +kernel
theorem dX12_line_210 : decode cX12_line 210 = .ok (.getfield 155, 3) := by decide +kernel
theorem dX12_line_213 : decode cX12_line 213 = .ok (.iload 7, 2) := by decide +kernel
theorem dX12_line_215 : decode cX12_line 215 = .ok (.iconst 0, 1) := by decide +kernel
theorem dX12_line_216 : decode cX12_line 216 = .ok (.iastore, 1) := by decide +kernel
theorem dX12_line_217 : decode cX12_line 217 = .ok (.iinc 7 1, 3) := by decide +kernel
theorem dX12_line_220 : decode cX12_line 220 = .ok (.goto (-18), 3) := by decide +kernel
theorem dX12_water_0 : decode cX12_water 0 = .ok (.aload_n 0, 1) := by decide +kernel
theorem dX12_water_1 : decode cX12_water 1 = .ok (.iconst 0, 1) := by decide +kernel
theorem dX12_water_2 : decode cX12_water 2 = .ok (.putfield 1, 3) := by decide +kernel
theorem dX12_water_5 : decode cX12_water 5 = .ok (.iload_n 1, 1) := by decide +kernel
theorem dX12_water_6 : decode cX12_water 6 = .ok (.iload_n 2, 1) := by decide +kernel
theorem dX12_water_7 : decode cX12_water 7 = .ok (.invokestatic 419, 3) := by decide +kernel
theorem dX12_water_10 : decode cX12_water 10 = .ok (.ifCond .eq 12, 3) := by decide +kernel
theorem dX12_water_13 : decode cX12_water 13 = .ok (.iload_n 3, 1) := by decide +kernel
theorem dX12_water_14 : decode cX12_water 14 = .ok (.iconst 0, 1) := by decide +kernel
theorem dX12_water_15 : decode cX12_water 15 = .ok (.iconst 1, 1) := by decide +kernel
theorem dX12_water_16 : decode cX12_water 16 = .ok (.invokestatic 415, 3) := by decide +kernel
theorem dX12_water_19 : decode cX12_water 19 = .ok (.ifCond .ne 5, 3) := by decide +kernel
theorem dX12_water_24 : decode cX12_water 24 = .ok (.aload_n 0, 1) := by decide +kernel
theorem dX12_water_25 : decode cX12_water 25 = .ok (.invokevirtual 557, 3) := by decide +kernel
theorem dX12_water_28 : decode cX12_water 28 = .ok (.aload_n 0, 1) := by decide +kernel
theorem dX12_water_29 : decode cX12_water 29 = .ok (.invokevirtual 588, 3) := by decide +kernel
theorem dX12_water_32 : decode cX12_water 32 = .ok (.ifCond .ne 5, 3) := by decide +kernel
theorem dX12_water_35 : decode cX12_water 35 = .ok (.iconst (-1), 1) := by decide +kernel
theorem dX12_water_36 : decode cX12_water 36 = .ok (.ireturn, 1) := by decide +kernel
theorem dX12_water_22 : decode cX12_water 22 = .ok (.iconst (-1), 1) := by decide +kernel
theorem dX12_water_23 : decode cX12_water 23 = .ok (.ireturn, 1) := by decide +kernel
theorem dX12_seam_0 : decode cX12_seam 0 = .ok (.aload_n 0, 1) := by decide +kernel
theorem dX12_seam_1 : decode cX12_seam 1 = .ok (.iconst 0, 1) := by decide +kernel
theorem dX12_seam_2 : decode cX12_seam 2 = .ok (.putfield 1, 3) := by decide +kernel
theorem dX12_seam_5 : decode cX12_seam 5 = .ok (.iload_n 1, 1) := by decide +kernel
theorem dX12_seam_6 : decode cX12_seam 6 = .ok (.iconst 0, 1) := by decide +kernel
theorem dX12_seam_7 : decode cX12_seam 7 = .ok (.aload_n 0, 1) := by decide +kernel
theorem dX12_seam_8 : decode cX12_seam 8 = .ok (.invokevirtual 453, 3) := by decide +kernel
theorem dX12_seam_11 : decode cX12_seam 11 = .ok (.iconst 1, 1) := by decide +kernel
theorem dX12_seam_12 : decode cX12_seam 12 = .ok (.isub, 1) := by decide +kernel
theorem dX12_seam_13 : decode cX12_seam 13 = .ok (.invokestatic 415, 3) := by decide +kernel
theorem dX12_seam_16 : decode cX12_seam 16 = .ok (.ifCond .eq 21, 3) := by decide +kernel
theorem dX12_seam_19 : decode cX12_seam 19 = .ok (.iload_n 2, 1) := by decide +kernel
theorem dX12_seam_20 : decode cX12_seam 20 = .ok (.iconst 0, 1) := by decide +kernel
theorem dX12_seam_21 : decode cX12_seam 21 = .ok (.iconst 3, 1) := by decide +kernel
theorem dX12_seam_22 : decode cX12_seam 22 = .ok (.invokestatic 415, 3) := by decide +kernel
theorem dX12_seam_25 : decode cX12_seam 25 = .ok (.ifCond .eq 12, 3) := by decide +kernel
theorem dX12_seam_28 : decode cX12_seam 28 = .ok (.iload_n 3, 1) := by decide +kernel
theorem dX12_seam_29 : decode cX12_seam 29 = .ok (.iconst 0, 1) := by decide +kernel
theorem dX12_seam_30 : decode cX12_seam 30 = .ok (.iconst 1, 1) := by decide +kernel
theorem dX12_seam_31 : decode cX12_seam 31 = .ok (.invokestatic 415, 3) := by decide +kernel
theorem dX12_seam_34 : decode cX12_seam 34 = .ok (.ifCond .ne 5, 3) := by decide +kernel
theorem dX12_seam_39 : decode cX12_seam 39 = .ok (.aload_n 0, 1) := by decide +kernel
theorem dX12_seam_40 : decode cX12_seam 40 = .ok (.invokevirtual 557, 3) := by decide +kernel
theorem dX12_seam_43 : decode cX12_seam 43 = .ok (.aload_n 0, 1) := by decide +kernel
theorem dX12_seam_44 : decode cX12_seam 44 = .ok (.invokevirtual 588, 3) := by decide +kernel
theorem dX12_seam_47 : decode cX12_seam 47 = .ok (.ifCond .ne 5, 3) := by decide +kernel
theorem dX12_seam_50 : decode cX12_seam 50 = .ok (.iconst (-1), 1) := by decide +kernel
theorem dX12_seam_51 : decode cX12_seam 51 = .ok (.ireturn, 1) := by decide +kernel
theorem dX12_seam_37 : decode cX12_seam 37 = .ok (.iconst (-1), 1) := by decide +kernel
theorem dX12_seam_38 : decode cX12_seam 38 = .ok (.ireturn, 1) := by decide +kernel
theorem dX12_sheet_0 : decode cX12_sheet 0 = .ok (.aload_n 0, 1) := by decide +kernel
theorem dX12_sheet_1 : decode cX12_sheet 1 = .ok (.iconst 0, 1) := by decide +kernel
theorem dX12_sheet_2 : decode cX12_sheet 2 = .ok (.putfield 1, 3) := by decide +kernel
theorem dX12_sheet_5 : decode cX12_sheet 5 = .ok (.iload_n 1, 1) := by decide +kernel
theorem dX12_sheet_6 : decode cX12_sheet 6 = .ok (.iload_n 2, 1) := by decide +kernel
theorem dX12_sheet_7 : decode cX12_sheet 7 = .ok (.invokestatic 419, 3) := by decide +kernel
theorem dX12_sheet_10 : decode cX12_sheet 10 = .ok (.ifCond .eq 32, 3) := by decide +kernel
theorem dX12_sheet_13 : decode cX12_sheet 13 = .ok (.iload_n 3, 1) := by decide +kernel
theorem dX12_sheet_14 : decode cX12_sheet 14 = .ok (.iload 4, 2) := by decide +kernel
theorem dX12_sheet_16 : decode cX12_sheet 16 = .ok (.invokestatic 419, 3) := by decide +kernel
theorem dX12_sheet_19 : decode cX12_sheet 19 = .ok (.ifCond .eq 23, 3) := by decide +kernel
theorem dX12_sheet_22 : decode cX12_sheet 22 = .ok (.iload_n 1, 1) := by decide +kernel
theorem dX12_sheet_23 : decode cX12_sheet 23 = .ok (.iload_n 3, 1) := by decide +kernel
theorem dX12_sheet_24 : decode cX12_sheet 24 = .ok (.if_icmp .gt 18, 3) := by decide +kernel
theorem dX12_sheet_42 : decode cX12_sheet 42 = .ok (.iconst (-1), 1) := by decide +kernel
theorem dX12_sheet_43 : decode cX12_sheet 43 = .ok (.ireturn, 1) := by decide +kernel
theorem dX12_sheet_27 : decode cX12_sheet 27 = .ok (.iload_n 2, 1) := by decide +kernel
theorem dX12_sheet_28 : decode cX12_sheet 28 = .ok (.iload 4, 2) := by decide +kernel
theorem dX12_sheet_30 : decode cX12_sheet 30 = .ok (.if_icmp .gt 12, 3) := by decide +kernel
theorem dX12_sheet_33 : decode cX12_sheet 33 = .ok (.aload_n 0, 1) := by decide +kernel
theorem dX12_sheet_34 : decode cX12_sheet 34 = .ok (.getfield 603, 3) := by decide +kernel
theorem dX12_sheet_37 : decode cX12_sheet 37 = .ok (.bipush 10, 2) := by decide +kernel
theorem dX12_sheet_39 : decode cX12_sheet 39 = .ok (.if_icmp .ne 5, 3) := by decide +kernel
theorem dX12_sheet_44 : decode cX12_sheet 44 = .ok (.aload_n 0, 1) := by decide +kernel
theorem dX12_sheet_45 : decode cX12_sheet 45 = .ok (.invokevirtual 557, 3) := by decide +kernel
theorem dX12_sheet_48 : decode cX12_sheet 48 = .ok (.aload_n 0, 1) := by decide +kernel
theorem dX12_sheet_49 : decode cX12_sheet 49 = .ok (.getfield 546, 3) := by decide +kernel
theorem dX12_sheet_52 : decode cX12_sheet 52 = .ok (.ifCond .ne 5, 3) := by decide +kernel
theorem dX12_sheet_57 : decode cX12_sheet 57 = .ok (.iconst 0, 1) := by decide +kernel
theorem dX12_sheet_58 : decode cX12_sheet 58 = .ok (.istore 5, 2) := by decide +kernel
theorem dX12_sheet_60 : decode cX12_sheet 60 = .ok (.iload 5, 2) := by decide +kernel
theorem dX12_sheet_62 : decode cX12_sheet 62 = .ok (.bipush 96, 2) := by decide +kernel
theorem dX12_sheet_64 : decode cX12_sheet 64 = .ok (.if_icmp .ge 74, 3) := by decide +kernel
theorem dX12_sheet_138 : decode cX12_sheet 138 = .ok (.aload_n 0, 1) := by decide +kernel
theorem dX12_sheet_139 : decode cX12_sheet 139 = .ok (.dup, 1) := by decide +kernel
theorem dX12_sheet_140 : decode cX12_sheet 140 = .ok (.getfield 603, 3) := by decide +kernel
theorem dX12_sheet_143 : decode cX12_sheet 143 = .ok (.iconst 1, 1) := by decide +kernel
theorem dX12_sheet_144 : decode cX12_sheet 144 = .ok (.iadd, 1) := by decide +kernel
theorem dX12_sheet_145 : decode cX12_sheet 145 = .ok (.putfield 603, 3) := by decide +kernel
theorem dX12_sheet_148 : decode cX12_sheet 148 = .ok (.aload_n 0, 1) := by decide +kernel
theorem dX12_sheet_149 : decode cX12_sheet 149 = .ok (.getfield 603, 3) := by decide +kernel
theorem dX12_sheet_152 : decode cX12_sheet 152 = .ok (.iconst 1, 1) := by decide +kernel
theorem dX12_sheet_153 : decode cX12_sheet 153 = .ok (.isub, 1) := by decide +kernel
theorem dX12_sheet_154 : decode cX12_sheet 154 = .ok (.ireturn, 1) := by decide +kernel
theorem dX12_sheet_67 : decode cX12_sheet 67 = .ok (.iload 5, 2) := by decide +kernel
theorem dX12_sheet_69 : decode cX12_sheet 69 = .ok (.bipush 12, 2) := by decide +kernel
theorem dX12_sheet_71 : decode cX12_sheet 71 = .ok (.irem, 1) := by decide +kernel
theorem dX12_sheet_72 : decode cX12_sheet 72 = .ok (.iload_n 1, 1) := by decide +kernel
theorem dX12_sheet_73 : decode cX12_sheet 73 = .ok (.iload_n 3, 1) := by decide +kernel
theorem dX12_sheet_74 : decode cX12_sheet 74 = .ok (.invokestatic 415, 3) := by decide +kernel
theorem dX12_sheet_77 : decode cX12_sheet 77 = .ok (.ifCond .eq 21, 3) := by decide +kernel
theorem dX12_sheet_80 : decode cX12_sheet 80 = .ok (.iload 5, 2) := by decide +kernel
theorem dX12_sheet_82 : decode cX12_sheet 82 = .ok (.bipush 12, 2) := by decide +kernel
theorem dX12_sheet_84 : decode cX12_sheet 84 = .ok (.idiv, 1) := by decide +kernel
theorem dX12_sheet_85 : decode cX12_sheet 85 = .ok (.iload_n 2, 1) := by decide +kernel
theorem dX12_sheet_86 : decode cX12_sheet 86 = .ok (.iload 4, 2) := by decide +kernel
theorem dX12_sheet_88 : decode cX12_sheet 88 = .ok (.invokestatic 415, 3) := by decide +kernel
theorem dX12_sheet_91 : decode cX12_sheet 91 = .ok (.ifCond .eq 7, 3) := by decide +kernel
theorem dX12_sheet_94 : decode cX12_sheet 94 = .ok (.iconst 1, 1) := by decide +kernel
theorem dX12_sheet_95 : decode cX12_sheet 95 = .ok (.goto 4, 3) := by decide +kernel
theorem dX12_sheet_99 : decode cX12_sheet 99 = .ok (.istore 6, 2) := by decide +kernel
theorem dX12_sheet_101 : decode cX12_sheet 101 = .ok (.aload_n 0, 1) := by decide +kernel
theorem dX12_sheet_102 : decode cX12_sheet 102 = .ok (.getfield 272, 3) := by decide +kernel
theorem dX12_sheet_105 : decode cX12_sheet 105 = .ok (.bipush 96, 2) := by decide +kernel
theorem dX12_sheet_107 : decode cX12_sheet 107 = .ok (.aload_n 0, 1) := by decide +kernel
theorem dX12_sheet_108 : decode cX12_sheet 108 = .ok (.getfield 603, 3) := by decide +kernel
theorem dX12_sheet_111 : decode cX12_sheet 111 = .ok (.imul, 1) := by decide +kernel
theorem dX12_sheet_112 : decode cX12_sheet 112 = .ok (.iload 5, 2) := by decide +kernel
theorem dX12_sheet_114 : decode cX12_sheet 114 = .ok (.iadd, 1) := by decide +kernel
theorem dX12_sheet_115 : decode cX12_sheet 115 = .ok (.iload 6, 2) := by decide +kernel
theorem dX12_sheet_117 : decode cX12_sheet 117 = .ok (.ifCond .eq 13, 3) := by decide +kernel
theorem dX12_sheet_120 : decode cX12_sheet 120 = .ok (.aload_n 0, 1) := by decide +kernel
theorem dX12_sheet_121 : decode cX12_sheet 121 = .ok (.iload 5, 2) := by decide +kernel
theorem dX12_sheet_123 : decode cX12_sheet 123 = .ok (.iconst 0, 1) := by decide +kernel
theorem dX12_sheet_124 : decode cX12_sheet 124 = .ok (.invokevirtual 575, 3) := by decide +kernel
theorem dX12_sheet_127 : decode cX12_sheet 127 = .ok (.goto 4, 3) := by decide +kernel
theorem dX12_sheet_131 : decode cX12_sheet 131 = .ok (.iastore, 1) := by decide +kernel
theorem dX12_sheet_132 : decode cX12_sheet 132 = .ok (.iinc 5 1, 3) := by decide +kernel
theorem dX12_sheet_135 : decode cX12_sheet 135 = .ok (.goto (-75), 3) := by decide +kernel
theorem dX12_sheet_98 : decode cX12_sheet 98 = .ok (.iconst 0, 1) := by decide +kernel
theorem dX12_sheet_130 : decode cX12_sheet 130 = .ok (.iconst (-1), 1) := by decide +kernel
theorem dX12_stale_0 : decode cX12_stale 0 = .ok (.aload_n 0, 1) := by decide +kernel
theorem dX12_stale_1 : decode cX12_stale 1 = .ok (.iconst 0, 1) := by decide +kernel
theorem dX12_stale_2 : decode cX12_stale 2 = .ok (.putfield 1, 3) := by decide +kernel
theorem dX12_stale_5 : decode cX12_stale 5 = .ok (.aload_n 0, 1) := by decide +kernel
theorem dX12_stale_6 : decode cX12_stale 6 = .ok (.invokevirtual 557, 3) := by decide +kernel
theorem dX12_stale_9 : decode cX12_stale 9 = .ok (.aload_n 0, 1) := by decide +kernel
theorem dX12_stale_10 : decode cX12_stale 10 = .ok (.iload_n 1, 1) := by decide +kernel
theorem dX12_stale_11 : decode cX12_stale 11 = .ok (.invokevirtual 606, 3) := by decide +kernel
theorem dX12_stale_14 : decode cX12_stale 14 = .ok (.ifCond .eq 10, 3) := by decide +kernel
theorem dX12_stale_24 : decode cX12_stale 24 = .ok (.iconst (-1), 1) := by decide +kernel
theorem dX12_stale_25 : decode cX12_stale 25 = .ok (.ireturn, 1) := by decide +kernel
theorem dX12_doubles_0 : decode cX12_doubles 0 = .ok (.aload_n 0, 1) := by decide +kernel
theorem dX12_doubles_1 : decode cX12_doubles 1 = .ok (.iconst 0, 1) := by decide +kernel
theorem dX12_doubles_2 : decode cX12_doubles 2 = .ok (.putfield 1, 3) := by decide +kernel
theorem dX12_doubles_5 : decode cX12_doubles 5 = .ok (.iload_n 1, 1) := by decide +kernel
theorem dX12_doubles_6 : decode cX12_doubles 6 = .ok (.iconst 0, 1) := by decide +kernel
theorem dX12_doubles_7 : decode cX12_doubles 7 = .ok (.iconst 5, 1) := by decide +kernel
theorem dX12_doubles_8 : decode cX12_doubles 8 = .ok (.invokestatic 415, 3) := by decide +kernel
theorem dX12_doubles_11 : decode cX12_doubles 11 = .ok (.ifCond .eq 26, 3) := by decide +kernel
theorem dX12_doubles_14 : decode cX12_doubles 14 = .ok (.iload_n 2, 1) := by decide +kernel
theorem dX12_doubles_15 : decode cX12_doubles 15 = .ok (.iconst 0, 1) := by decide +kernel
theorem dX12_doubles_16 : decode cX12_doubles 16 = .ok (.iconst 5, 1) := by decide +kernel
theorem dX12_doubles_17 : decode cX12_doubles 17 = .ok (.invokestatic 415, 3) := by decide +kernel
theorem dX12_doubles_20 : decode cX12_doubles 20 = .ok (.ifCond .eq 17, 3) := by decide +kernel
theorem dX12_doubles_23 : decode cX12_doubles 23 = .ok (.iload_n 1, 1) := by decide +kernel
theorem dX12_doubles_24 : decode cX12_doubles 24 = .ok (.iload_n 2, 1) := by decide +kernel
theorem dX12_doubles_25 : decode cX12_doubles 25 = .ok (.if_icmp .eq 12, 3) := by decide +kernel
theorem dX12_doubles_37 : decode cX12_doubles 37 = .ok (.iconst (-1), 1) := by decide +kernel
theorem dX12_doubles_38 : decode cX12_doubles 38 = .ok (.ireturn, 1) := by decide +kernel
theorem dX12_doubles_28 : decode cX12_doubles 28 = .ok (.iload_n 3, 1) := by decide +kernel
theorem dX12_doubles_29 : decode cX12_doubles 29 = .ok (.iconst 0, 1) := by decide +kernel
theorem dX12_doubles_30 : decode cX12_doubles 30 = .ok (.iconst 1, 1) := by decide +kernel
theorem dX12_doubles_31 : decode cX12_doubles 31 = .ok (.invokestatic 415, 3) := by decide +kernel
theorem dX12_doubles_34 : decode cX12_doubles 34 = .ok (.ifCond .ne 5, 3) := by decide +kernel
theorem dX12_doubles_39 : decode cX12_doubles 39 = .ok (.aload_n 0, 1) := by decide +kernel
theorem dX12_doubles_40 : decode cX12_doubles 40 = .ok (.invokevirtual 557, 3) := by decide +kernel
theorem dX12_doubles_43 : decode cX12_doubles 43 = .ok (.iconst 0, 1) := by decide +kernel
theorem dX12_doubles_44 : decode cX12_doubles 44 = .ok (.istore 4, 2) := by decide +kernel
theorem dX12_doubles_46 : decode cX12_doubles 46 = .ok (.iconst 0, 1) := by decide +kernel
theorem dX12_doubles_47 : decode cX12_doubles 47 = .ok (.istore 5, 2) := by decide +kernel
theorem dX12_doubles_49 : decode cX12_doubles 49 = .ok (.iload 5, 2) := by decide +kernel
theorem dX12_doubles_51 : decode cX12_doubles 51 = .ok (.aload_n 0, 1) := by decide +kernel
theorem dX12_doubles_52 : decode cX12_doubles 52 = .ok (.getfield 423, 3) := by decide +kernel
theorem dX12_doubles_55 : decode cX12_doubles 55 = .ok (.if_icmp .ge 89, 3) := by decide +kernel
theorem dX12_doubles_144 : decode cX12_doubles 144 = .ok (.iload 4, 2) := by decide +kernel
theorem dX12_doubles_146 : decode cX12_doubles 146 = .ok (.ireturn, 1) := by decide +kernel
theorem dX12_doubt_0 : decode cX12_doubt 0 = .ok (.aload_n 0, 1) := by decide +kernel
theorem dX12_doubt_1 : decode cX12_doubt 1 = .ok (.iconst 0, 1) := by decide +kernel
theorem dX12_doubt_2 : decode cX12_doubt 2 = .ok (.putfield 1, 3) := by decide +kernel
theorem dX12_doubt_5 : decode cX12_doubt 5 = .ok (.aload_n 0, 1) := by decide +kernel
theorem dX12_doubt_6 : decode cX12_doubt 6 = .ok (.invokevirtual 618, 3) := by decide +kernel
theorem dX12_doubt_9 : decode cX12_doubt 9 = .ok (.ifCond .eq 10, 3) := by decide +kernel
theorem dX12_doubt_19 : decode cX12_doubt 19 = .ok (.iconst (-1), 1) := by decide +kernel
theorem dX12_doubt_20 : decode cX12_doubt 20 = .ok (.ireturn, 1) := by decide +kernel
theorem dX12_left_0 : decode cX12_left 0 = .ok (.aload_n 0, 1) := by decide +kernel
theorem dX12_left_1 : decode cX12_left 1 = .ok (.iconst 0, 1) := by decide +kernel
theorem dX12_left_2 : decode cX12_left 2 = .ok (.putfield 1, 3) := by decide +kernel
theorem dX12_left_5 : decode cX12_left 5 = .ok (.iload_n 1, 1) := by decide +kernel
theorem dX12_left_6 : decode cX12_left 6 = .ok (.ifCond .lt 26, 3) := by decide +kernel
theorem dX12_left_32 : decode cX12_left 32 = .ok (.iconst (-1), 1) := by decide +kernel
theorem dX12_left_33 : decode cX12_left 33 = .ok (.ireturn, 1) := by decide +kernel
theorem dX12_left_9 : decode cX12_left 9 = .ok (.iload_n 1, 1) := by decide +kernel
theorem dX12_left_10 : decode cX12_left 10 = .ok (.aload_n 0, 1) := by decide +kernel
theorem dX12_left_11 : decode cX12_left 11 = .ok (.getfield 615, 3) := by decide +kernel
theorem dX12_left_14 : decode cX12_left 14 = .ok (.if_icmp .ge 18, 3) := by decide +kernel
theorem dX12_next_0 : decode cX12_next 0 = .ok (.aload_n 0, 1) := by decide +kernel
theorem dX12_next_1 : decode cX12_next 1 = .ok (.iconst 0, 1) := by decide +kernel
theorem dX12_next_2 : decode cX12_next 2 = .ok (.putfield 1, 3) := by decide +kernel
theorem dX12_next_5 : decode cX12_next 5 = .ok (.aload_n 0, 1) := by decide +kernel
theorem dX12_next_6 : decode cX12_next 6 = .ok (.invokevirtual 618, 3) := by decide +kernel
theorem dX12_next_9 : decode cX12_next 9 = .ok (.ifCond .ne 5, 3) := by decide +kernel
theorem dX12_next_12 : decode cX12_next 12 = .ok (.iconst (-1), 1) := by decide +kernel
theorem dX12_next_13 : decode cX12_next 13 = .ok (.ireturn, 1) := by decide +kernel
theorem dX12_count_0 : decode cX12_count 0 = .ok (.aload_n 0, 1) := by decide +kernel
theorem dX12_count_1 : decode cX12_count 1 = .ok (.iconst 0, 1) := by decide +kernel
theorem dX12_count_2 : decode cX12_count 2 = .ok (.putfield 1, 3) := by decide +kernel
theorem dX12_count_5 : decode cX12_count 5 = .ok (.aload_n 0, 1) := by decide +kernel
theorem dX12_count_6 : decode cX12_count 6 = .ok (.invokevirtual 557, 3) := by decide +kernel
theorem dX12_count_9 : decode cX12_count 9 = .ok (.iload_n 1, 1) := by decide +kernel
theorem dX12_count_10 : decode cX12_count 10 = .ok (.tableswitch 127 0 12 #[66, 71, 76, 81, 87, 92, 97, 81, 102, 107, 112, 117, 122], 66) := by decide +kernel
theorem dX12_count_76 : decode cX12_count 76 = .ok (.aload_n 0, 1) := by decide +kernel
theorem dX12_count_77 : decode cX12_count 77 = .ok (.getfield 342, 3) := by decide +kernel
theorem dX12_count_80 : decode cX12_count 80 = .ok (.ireturn, 1) := by decide +kernel
theorem dX12_count_81 : decode cX12_count 81 = .ok (.aload_n 0, 1) := by decide +kernel
theorem dX12_count_82 : decode cX12_count 82 = .ok (.invokevirtual 429, 3) := by decide +kernel
theorem dX12_count_85 : decode cX12_count 85 = .ok (.ireturn, 1) := by decide +kernel
theorem dX12_count_86 : decode cX12_count 86 = .ok (.aload_n 0, 1) := by decide +kernel
theorem dX12_count_87 : decode cX12_count 87 = .ok (.getfield 423, 3) := by decide +kernel
theorem dX12_count_90 : decode cX12_count 90 = .ok (.ireturn, 1) := by decide +kernel
theorem dX12_count_91 : decode cX12_count 91 = .ok (.aload_n 0, 1) := by decide +kernel
theorem dX12_count_92 : decode cX12_count 92 = .ok (.iload_n 1, 1) := by decide +kernel
theorem dX12_count_93 : decode cX12_count 93 = .ok (.invokevirtual 633, 3) := by decide +kernel
theorem dX12_count_96 : decode cX12_count 96 = .ok (.ireturn, 1) := by decide +kernel
theorem dX12_count_97 : decode cX12_count 97 = .ok (.aload_n 0, 1) := by decide +kernel
theorem dX12_count_98 : decode cX12_count 98 = .ok (.invokevirtual 453, 3) := by decide +kernel
theorem dX12_count_101 : decode cX12_count 101 = .ok (.ireturn, 1) := by decide +kernel
theorem dX12_count_102 : decode cX12_count 102 = .ok (.aload_n 0, 1) := by decide +kernel
theorem dX12_count_103 : decode cX12_count 103 = .ok (.getfield 477, 3) := by decide +kernel
theorem dX12_count_106 : decode cX12_count 106 = .ok (.ireturn, 1) := by decide +kernel
theorem dX12_count_107 : decode cX12_count 107 = .ok (.aload_n 0, 1) := by decide +kernel
theorem dX12_count_108 : decode cX12_count 108 = .ok (.getfield 603, 3) := by decide +kernel
theorem dX12_count_111 : decode cX12_count 111 = .ok (.ireturn, 1) := by decide +kernel
theorem dX12_count_112 : decode cX12_count 112 = .ok (.aload_n 0, 1) := by decide +kernel
theorem dX12_count_113 : decode cX12_count 113 = .ok (.getfield 339, 3) := by decide +kernel
theorem dX12_count_116 : decode cX12_count 116 = .ok (.ireturn, 1) := by decide +kernel
theorem dX12_count_117 : decode cX12_count 117 = .ok (.aload_n 0, 1) := by decide +kernel
theorem dX12_count_118 : decode cX12_count 118 = .ok (.getfield 11, 3) := by decide +kernel
theorem dX12_count_121 : decode cX12_count 121 = .ok (.ireturn, 1) := by decide +kernel
theorem dX12_count_122 : decode cX12_count 122 = .ok (.aload_n 0, 1) := by decide +kernel
theorem dX12_count_123 : decode cX12_count 123 = .ok (.invokevirtual 636, 3) := by decide +kernel
theorem dX12_count_126 : decode cX12_count 126 = .ok (.ireturn, 1) := by decide +kernel
theorem dX12_count_127 : decode cX12_count 127 = .ok (.aload_n 0, 1) := by decide +kernel
theorem dX12_count_128 : decode cX12_count 128 = .ok (.invokevirtual 612, 3) := by decide +kernel
theorem dX12_count_131 : decode cX12_count 131 = .ok (.ireturn, 1) := by decide +kernel
theorem dX12_count_132 : decode cX12_count 132 = .ok (.aload_n 0, 1) := by decide +kernel
theorem dX12_count_133 : decode cX12_count 133 = .ok (.getfield 615, 3) := by decide +kernel
theorem dX12_count_136 : decode cX12_count 136 = .ok (.ireturn, 1) := by decide +kernel
theorem dX12_count_137 : decode cX12_count 137 = .ok (.iconst (-1), 1) := by decide +kernel
theorem dX12_count_138 : decode cX12_count 138 = .ok (.ireturn, 1) := by decide +kernel
theorem dX12_cutAll_0 : decode cX12_cutAll 0 = .ok (.aload_n 0, 1) := by decide +kernel
theorem dX12_cutAll_1 : decode cX12_cutAll 1 = .ok (.aload_n 0, 1) := by decide +kernel
theorem dX12_cutAll_2 : decode cX12_cutAll 2 = .ok (.getfield 11, 3) := by decide +kernel
theorem dX12_cutAll_5 : decode cX12_cutAll 5 = .ok (.putfield 298, 3) := by decide +kernel
theorem dX12_cutAll_8 : decode cX12_cutAll 8 = .ok (.aload_n 0, 1) := by decide +kernel
theorem dX12_cutAll_9 : decode cX12_cutAll 9 = .ok (.iconst 0, 1) := by decide +kernel
theorem dX12_cutAll_10 : decode cX12_cutAll 10 = .ok (.putfield 11, 3) := by decide +kernel
theorem dX12_cutAll_13 : decode cX12_cutAll 13 = .ok (.iconst 0, 1) := by decide +kernel
theorem dX12_cutAll_14 : decode cX12_cutAll 14 = .ok (.istore_n 1, 1) := by decide +kernel
theorem dX12_cutAll_15 : decode cX12_cutAll 15 = .ok (.iconst 0, 1) := by decide +kernel
theorem dX12_cutAll_16 : decode cX12_cutAll 16 = .ok (.istore_n 2, 1) := by decide +kernel
theorem dX12_cutAll_17 : decode cX12_cutAll 17 = .ok (.iload_n 2, 1) := by decide +kernel
theorem dX12_cutAll_18 : decode cX12_cutAll 18 = .ok (.aload_n 0, 1) := by decide +kernel
theorem dX12_cutAll_19 : decode cX12_cutAll 19 = .ok (.getfield 298, 3) := by decide +kernel
theorem dX12_cutAll_22 : decode cX12_cutAll 22 = .ok (.if_icmp .ge 257, 3) := by decide +kernel
theorem dX12_cutAll_279 : decode cX12_cutAll 279 = .ok (.aload_n 0, 1) := by decide +kernel
theorem dX12_cutAll_280 : decode cX12_cutAll 280 = .ok (.getfield 24, 3) := by decide +kernel
theorem dX12_cutAll_283 : decode cX12_cutAll 283 = .ok (.iload_n 1, 1) := by decide +kernel
theorem dX12_cutAll_284 : decode cX12_cutAll 284 = .ok (.iconst 0, 1) := by decide +kernel
theorem dX12_cutAll_285 : decode cX12_cutAll 285 = .ok (.iastore, 1) := by decide +kernel
theorem dX12_cutAll_286 : decode cX12_cutAll 286 = .ok (.aload_n 0, 1) := by decide +kernel
theorem dX12_cutAll_287 : decode cX12_cutAll 287 = .ok (.getfield 27, 3) := by decide +kernel
theorem dX12_cutAll_290 : decode cX12_cutAll 290 = .ok (.iload_n 1, 1) := by decide +kernel
theorem dX12_cutAll_291 : decode cX12_cutAll 291 = .ok (.aload_n 0, 1) := by decide +kernel
theorem dX12_cutAll_292 : decode cX12_cutAll 292 = .ok (.getfield 298, 3) := by decide +kernel
theorem dX12_cutAll_295 : decode cX12_cutAll 295 = .ok (.iastore, 1) := by decide +kernel
theorem dX12_cutAll_296 : decode cX12_cutAll 296 = .ok (.aload_n 0, 1) := by decide +kernel
theorem dX12_cutAll_297 : decode cX12_cutAll 297 = .ok (.iconst 0, 1) := by decide +kernel
theorem dX12_cutAll_298 : decode cX12_cutAll 298 = .ok (.putfield 317, 3) := by decide +kernel
theorem dX12_cutAll_301 : decode cX12_cutAll 301 = .ok (.aload_n 0, 1) := by decide +kernel
theorem dX12_cutAll_302 : decode cX12_cutAll 302 = .ok (.iconst 0, 1) := by decide +kernel
theorem dX12_cutAll_303 : decode cX12_cutAll 303 = .ok (.putfield 320, 3) := by decide +kernel
theorem dX12_cutAll_306 : decode cX12_cutAll 306 = .ok (.return_, 1) := by decide +kernel
theorem dX12_begins_0 : decode cX12_begins 0 = .ok (.aload_n 0, 1) := by decide +kernel
theorem dX12_begins_1 : decode cX12_begins 1 = .ok (.getfield 100, 3) := by decide +kernel
theorem dX12_begins_4 : decode cX12_begins 4 = .ok (.bipush 8, 2) := by decide +kernel
theorem dX12_begins_6 : decode cX12_begins 6 = .ok (.iconst 0, 1) := by decide +kernel
theorem dX12_begins_7 : decode cX12_begins 7 = .ok (.iastore, 1) := by decide +kernel
theorem dX12_begins_8 : decode cX12_begins 8 = .ok (.aload_n 0, 1) := by decide +kernel
theorem dX12_begins_9 : decode cX12_begins 9 = .ok (.getfield 119, 3) := by decide +kernel
theorem dX12_begins_12 : decode cX12_begins 12 = .ok (.bipush 8, 2) := by decide +kernel
theorem dX12_begins_14 : decode cX12_begins 14 = .ok (.iconst 0, 1) := by decide +kernel
theorem dX12_begins_15 : decode cX12_begins 15 = .ok (.bastore, 1) := by decide +kernel
theorem dX12_begins_16 : decode cX12_begins 16 = .ok (.aload_n 0, 1) := by decide +kernel
theorem dX12_begins_17 : decode cX12_begins 17 = .ok (.getfield 122, 3) := by decide +kernel
theorem dX12_begins_20 : decode cX12_begins 20 = .ok (.bipush 8, 2) := by decide +kernel
theorem dX12_begins_22 : decode cX12_begins 22 = .ok (.bipush 10, 2) := by decide +kernel
theorem dX12_begins_24 : decode cX12_begins 24 = .ok (.iastore, 1) := by decide +kernel
theorem dX12_begins_25 : decode cX12_begins 25 = .ok (.aload_n 0, 1) := by decide +kernel
theorem dX12_begins_26 : decode cX12_begins 26 = .ok (.getfield 125, 3) := by decide +kernel
theorem dX12_begins_29 : decode cX12_begins 29 = .ok (.bipush 8, 2) := by decide +kernel
theorem dX12_begins_31 : decode cX12_begins 31 = .ok (.iconst 0, 1) := by decide +kernel
theorem dX12_begins_32 : decode cX12_begins 32 = .ok (.bastore, 1) := by decide +kernel
theorem dX12_begins_33 : decode cX12_begins 33 = .ok (.aload_n 0, 1) := by decide +kernel
theorem dX12_begins_34 : decode cX12_begins 34 = .ok (.getfield 128, 3) := by decide +kernel
theorem dX12_begins_37 : decode cX12_begins 37 = .ok (.bipush 8, 2) := by decide +kernel
theorem dX12_begins_39 : decode cX12_begins 39 = .ok (.bipush 20, 2) := by decide +kernel
theorem dX12_begins_41 : decode cX12_begins 41 = .ok (.iastore, 1) := by decide +kernel
theorem dX12_begins_42 : decode cX12_begins 42 = .ok (.aload_n 0, 1) := by decide +kernel
theorem dX12_begins_43 : decode cX12_begins 43 = .ok (.getfield 137, 3) := by decide +kernel
theorem dX12_begins_46 : decode cX12_begins 46 = .ok (.bipush 8, 2) := by decide +kernel
theorem dX12_begins_48 : decode cX12_begins 48 = .ok (.iconst 0, 1) := by decide +kernel
theorem dX12_begins_49 : decode cX12_begins 49 = .ok (.iastore, 1) := by decide +kernel
theorem dX12_begins_50 : decode cX12_begins 50 = .ok (.aload_n 0, 1) := by decide +kernel
theorem dX12_begins_51 : decode cX12_begins 51 = .ok (.iconst 0, 1) := by decide +kernel
theorem dX12_begins_52 : decode cX12_begins 52 = .ok (.putfield 336, 3) := by decide +kernel
theorem dX12_begins_55 : decode cX12_begins 55 = .ok (.bipush 80, 2) := by decide +kernel
theorem dX12_begins_57 : decode cX12_begins 57 = .ok (.istore_n 1, 1) := by decide +kernel
theorem dX12_begins_58 : decode cX12_begins 58 = .ok (.iload_n 1, 1) := by decide +kernel
theorem dX12_begins_59 : decode cX12_begins 59 = .ok (.bipush 90, 2) := by decide +kernel
theorem dX12_begins_61 : decode cX12_begins 61 = .ok (.if_icmp .ge 30, 3) := by decide +kernel
theorem dX12_begins_91 : decode cX12_begins 91 = .ok (.return_, 1) := by decide +kernel
theorem dX12_begins_64 : decode cX12_begins 64 = .ok (.aload_n 0, 1) := by decide +kernel
theorem dX12_begins_65 : decode cX12_begins 65 = .ok (.getfield 131, 3) := by decide +kernel
theorem dX12_begins_68 : decode cX12_begins 68 = .ok (.iload_n 1, 1) := by decide +kernel
theorem dX12_begins_69 : decode cX12_begins 69 = .ok (.iconst (-1), 1) := by decide +kernel
theorem dX12_begins_70 : decode cX12_begins 70 = .ok (.iastore, 1) := by decide +kernel
theorem dX12_begins_71 : decode cX12_begins 71 = .ok (.aload_n 0, 1) := by decide +kernel
theorem dX12_begins_72 : decode cX12_begins 72 = .ok (.getfield 112, 3) := by decide +kernel
theorem dX12_begins_75 : decode cX12_begins 75 = .ok (.iload_n 1, 1) := by decide +kernel
theorem dX12_begins_76 : decode cX12_begins 76 = .ok (.iconst 0, 1) := by decide +kernel
theorem dX12_begins_77 : decode cX12_begins 77 = .ok (.bastore, 1) := by decide +kernel
theorem dX12_begins_78 : decode cX12_begins 78 = .ok (.aload_n 0, 1) := by decide +kernel
theorem dX12_begins_79 : decode cX12_begins 79 = .ok (.getfield 116, 3) := by decide +kernel
theorem dX12_begins_82 : decode cX12_begins 82 = .ok (.iload_n 1, 1) := by decide +kernel
theorem dX12_begins_83 : decode cX12_begins 83 = .ok (.iconst 0, 1) := by decide +kernel
theorem dX12_begins_84 : decode cX12_begins 84 = .ok (.bastore, 1) := by decide +kernel
theorem dX12_begins_85 : decode cX12_begins 85 = .ok (.iinc 1 1, 3) := by decide +kernel
theorem dX12_begins_88 : decode cX12_begins 88 = .ok (.goto (-30), 3) := by decide +kernel
theorem dX12_keeps_0 : decode cX12_keeps 0 = .ok (.aload_n 0, 1) := by decide +kernel
theorem dX12_keeps_1 : decode cX12_keeps 1 = .ok (.getfield 97, 3) := by decide +kernel
theorem dX12_keeps_4 : decode cX12_keeps 4 = .ok (.iload_n 1, 1) := by decide +kernel
theorem dX12_keeps_5 : decode cX12_keeps 5 = .ok (.aload_n 0, 1) := by decide +kernel
theorem dX12_keeps_6 : decode cX12_keeps 6 = .ok (.getfield 342, 3) := by decide +kernel
theorem dX12_keeps_9 : decode cX12_keeps 9 = .ok (.iastore, 1) := by decide +kernel
theorem dX12_keeps_10 : decode cX12_keeps 10 = .ok (.aload_n 0, 1) := by decide +kernel
theorem dX12_keeps_11 : decode cX12_keeps 11 = .ok (.getfield 100, 3) := by decide +kernel
theorem dX12_keeps_14 : decode cX12_keeps 14 = .ok (.iload_n 1, 1) := by decide +kernel
theorem dX12_keeps_15 : decode cX12_keeps 15 = .ok (.aload_n 0, 1) := by decide +kernel
theorem dX12_keeps_16 : decode cX12_keeps 16 = .ok (.getfield 100, 3) := by decide +kernel
theorem dX12_keeps_19 : decode cX12_keeps 19 = .ok (.bipush 8, 2) := by decide +kernel
theorem dX12_keeps_21 : decode cX12_keeps 21 = .ok (.iaload, 1) := by decide +kernel
theorem dX12_keeps_22 : decode cX12_keeps 22 = .ok (.iastore, 1) := by decide +kernel
theorem dX12_keeps_23 : decode cX12_keeps 23 = .ok (.aload_n 0, 1) := by decide +kernel
theorem dX12_keeps_24 : decode cX12_keeps 24 = .ok (.getfield 122, 3) := by decide +kernel
theorem dX12_keeps_27 : decode cX12_keeps 27 = .ok (.iload_n 1, 1) := by decide +kernel
theorem dX12_keeps_28 : decode cX12_keeps 28 = .ok (.aload_n 0, 1) := by decide +kernel
theorem dX12_keeps_29 : decode cX12_keeps 29 = .ok (.getfield 122, 3) := by decide +kernel
theorem dX12_keeps_32 : decode cX12_keeps 32 = .ok (.bipush 8, 2) := by decide +kernel
theorem dX12_keeps_34 : decode cX12_keeps 34 = .ok (.iaload, 1) := by decide +kernel
theorem dX12_keeps_35 : decode cX12_keeps 35 = .ok (.iastore, 1) := by decide +kernel
theorem dX12_keeps_36 : decode cX12_keeps 36 = .ok (.aload_n 0, 1) := by decide +kernel
theorem dX12_keeps_37 : decode cX12_keeps 37 = .ok (.getfield 128, 3) := by decide +kernel
theorem dX12_keeps_40 : decode cX12_keeps 40 = .ok (.iload_n 1, 1) := by decide +kernel
theorem dX12_keeps_41 : decode cX12_keeps 41 = .ok (.aload_n 0, 1) := by decide +kernel
theorem dX12_keeps_42 : decode cX12_keeps 42 = .ok (.getfield 128, 3) := by decide +kernel
theorem dX12_keeps_45 : decode cX12_keeps 45 = .ok (.bipush 8, 2) := by decide +kernel
theorem dX12_keeps_47 : decode cX12_keeps 47 = .ok (.iaload, 1) := by decide +kernel
theorem dX12_keeps_48 : decode cX12_keeps 48 = .ok (.iastore, 1) := by decide +kernel
theorem dX12_keeps_49 : decode cX12_keeps 49 = .ok (.aload_n 0, 1) := by decide +kernel
theorem dX12_keeps_50 : decode cX12_keeps 50 = .ok (.getfield 137, 3) := by decide +kernel
theorem dX12_keeps_53 : decode cX12_keeps 53 = .ok (.iload_n 1, 1) := by decide +kernel
theorem dX12_keeps_54 : decode cX12_keeps 54 = .ok (.aload_n 0, 1) := by decide +kernel
theorem dX12_keeps_55 : decode cX12_keeps 55 = .ok (.getfield 137, 3) := by decide +kernel
theorem dX12_keeps_58 : decode cX12_keeps 58 = .ok (.bipush 8, 2) := by decide +kernel
theorem dX12_keeps_60 : decode cX12_keeps 60 = .ok (.iaload, 1) := by decide +kernel
theorem dX12_keeps_61 : decode cX12_keeps 61 = .ok (.iastore, 1) := by decide +kernel
theorem dX12_keeps_62 : decode cX12_keeps 62 = .ok (.iconst 0, 1) := by decide +kernel
theorem dX12_keeps_63 : decode cX12_keeps 63 = .ok (.istore_n 2, 1) := by decide +kernel
theorem dX12_keeps_64 : decode cX12_keeps 64 = .ok (.iload_n 2, 1) := by decide +kernel
theorem dX12_keeps_65 : decode cX12_keeps 65 = .ok (.bipush 10, 2) := by decide +kernel
theorem dX12_keeps_67 : decode cX12_keeps 67 = .ok (.if_icmp .ge 129, 3) := by decide +kernel
theorem dX12_keeps_196 : decode cX12_keeps 196 = .ok (.iconst 0, 1) := by decide +kernel
theorem dX12_keeps_197 : decode cX12_keeps 197 = .ok (.istore_n 2, 1) := by decide +kernel
theorem dX12_keeps_198 : decode cX12_keeps 198 = .ok (.iload_n 2, 1) := by decide +kernel
theorem dX12_keeps_199 : decode cX12_keeps 199 = .ok (.bipush 24, 2) := by decide +kernel
theorem dX12_keeps_201 : decode cX12_keeps 201 = .ok (.if_icmp .ge 82, 3) := by decide +kernel
theorem dX12_keeps_283 : decode cX12_keeps 283 = .ok (.iconst 0, 1) := by decide +kernel
theorem dX12_keeps_284 : decode cX12_keeps 284 = .ok (.istore_n 2, 1) := by decide +kernel
theorem dX12_keeps_285 : decode cX12_keeps 285 = .ok (.iload_n 2, 1) := by decide +kernel
theorem dX12_keeps_286 : decode cX12_keeps 286 = .ok (.aload_n 0, 1) := by decide +kernel
theorem dX12_keeps_287 : decode cX12_keeps 287 = .ok (.getfield 336, 3) := by decide +kernel
theorem dX12_keeps_290 : decode cX12_keeps 290 = .ok (.if_icmp .ge 53, 3) := by decide +kernel
theorem dX12_keeps_343 : decode cX12_keeps 343 = .ok (.return_, 1) := by decide +kernel
theorem dX12_keeps_204 : decode cX12_keeps 204 = .ok (.aload_n 0, 1) := by decide +kernel
theorem dX12_keeps_205 : decode cX12_keeps 205 = .ok (.getfield 140, 3) := by decide +kernel
theorem dX12_keeps_208 : decode cX12_keeps 208 = .ok (.bipush 24, 2) := by decide +kernel
theorem dX12_keeps_210 : decode cX12_keeps 210 = .ok (.iload_n 1, 1) := by decide +kernel
theorem dX12_keeps_211 : decode cX12_keeps 211 = .ok (.imul, 1) := by decide +kernel
theorem dX12_keeps_212 : decode cX12_keeps 212 = .ok (.iload_n 2, 1) := by decide +kernel
theorem dX12_keeps_213 : decode cX12_keeps 213 = .ok (.iadd, 1) := by decide +kernel
theorem dX12_keeps_214 : decode cX12_keeps 214 = .ok (.aload_n 0, 1) := by decide +kernel
theorem dX12_keeps_215 : decode cX12_keeps 215 = .ok (.getfield 140, 3) := by decide +kernel
theorem dX12_keeps_218 : decode cX12_keeps 218 = .ok (.sipush 192, 3) := by decide +kernel
theorem dX12_keeps_221 : decode cX12_keeps 221 = .ok (.iload_n 2, 1) := by decide +kernel
theorem dX12_keeps_222 : decode cX12_keeps 222 = .ok (.iadd, 1) := by decide +kernel
theorem dX12_keeps_223 : decode cX12_keeps 223 = .ok (.iaload, 1) := by decide +kernel
theorem dX12_keeps_224 : decode cX12_keeps 224 = .ok (.iastore, 1) := by decide +kernel
theorem dX12_keeps_225 : decode cX12_keeps 225 = .ok (.aload_n 0, 1) := by decide +kernel
theorem dX12_keeps_226 : decode cX12_keeps 226 = .ok (.getfield 143, 3) := by decide +kernel
theorem dX12_keeps_229 : decode cX12_keeps 229 = .ok (.bipush 24, 2) := by decide +kernel
theorem dX12_keeps_231 : decode cX12_keeps 231 = .ok (.iload_n 1, 1) := by decide +kernel
theorem dX12_keeps_232 : decode cX12_keeps 232 = .ok (.imul, 1) := by decide +kernel
theorem dX12_keeps_233 : decode cX12_keeps 233 = .ok (.iload_n 2, 1) := by decide +kernel
theorem dX12_keeps_234 : decode cX12_keeps 234 = .ok (.iadd, 1) := by decide +kernel
theorem dX12_keeps_235 : decode cX12_keeps 235 = .ok (.aload_n 0, 1) := by decide +kernel
theorem dX12_keeps_236 : decode cX12_keeps 236 = .ok (.getfield 143, 3) := by decide +kernel
theorem dX12_keeps_239 : decode cX12_keeps 239 = .ok (.sipush 192, 3) := by decide +kernel
theorem dX12_keeps_242 : decode cX12_keeps 242 = .ok (.iload_n 2, 1) := by decide +kernel
theorem dX12_keeps_243 : decode cX12_keeps 243 = .ok (.iadd, 1) := by decide +kernel
theorem dX12_keeps_244 : decode cX12_keeps 244 = .ok (.iaload, 1) := by decide +kernel
theorem dX12_keeps_245 : decode cX12_keeps 245 = .ok (.iastore, 1) := by decide +kernel
theorem dX12_keeps_246 : decode cX12_keeps 246 = .ok (.aload_n 0, 1) := by decide +kernel
theorem dX12_keeps_247 : decode cX12_keeps 247 = .ok (.getfield 146, 3) := by decide +kernel
theorem dX12_keeps_250 : decode cX12_keeps 250 = .ok (.bipush 24, 2) := by decide +kernel
theorem dX12_keeps_252 : decode cX12_keeps 252 = .ok (.iload_n 1, 1) := by decide +kernel
theorem dX12_keeps_253 : decode cX12_keeps 253 = .ok (.imul, 1) := by decide +kernel
theorem dX12_keeps_254 : decode cX12_keeps 254 = .ok (.iload_n 2, 1) := by decide +kernel
theorem dX12_keeps_255 : decode cX12_keeps 255 = .ok (.iadd, 1) := by decide +kernel
theorem dX12_keeps_256 : decode cX12_keeps 256 = .ok (.aload_n 0, 1) := by decide +kernel
theorem dX12_keeps_257 : decode cX12_keeps 257 = .ok (.getfield 146, 3) := by decide +kernel
theorem dX12_keeps_260 : decode cX12_keeps 260 = .ok (.sipush 192, 3) := by decide +kernel
theorem dX12_keeps_263 : decode cX12_keeps 263 = .ok (.iload_n 2, 1) := by decide +kernel
theorem dX12_keeps_264 : decode cX12_keeps 264 = .ok (.iadd, 1) := by decide +kernel
theorem dX12_keeps_265 : decode cX12_keeps 265 = .ok (.iaload, 1) := by decide +kernel
theorem dX12_keeps_266 : decode cX12_keeps 266 = .ok (.sipush 12800, 3) := by decide +kernel
theorem dX12_keeps_269 : decode cX12_keeps 269 = .ok (.isub, 1) := by decide +kernel
theorem dX12_keeps_270 : decode cX12_keeps 270 = .ok (.sipush 1600, 3) := by decide +kernel
theorem dX12_keeps_273 : decode cX12_keeps 273 = .ok (.iload_n 1, 1) := by decide +kernel
theorem dX12_keeps_274 : decode cX12_keeps 274 = .ok (.imul, 1) := by decide +kernel
theorem dX12_keeps_275 : decode cX12_keeps 275 = .ok (.iadd, 1) := by decide +kernel
theorem dX12_keeps_276 : decode cX12_keeps 276 = .ok (.iastore, 1) := by decide +kernel
theorem dX12_keeps_277 : decode cX12_keeps 277 = .ok (.iinc 2 1, 3) := by decide +kernel
theorem dX12_keeps_280 : decode cX12_keeps 280 = .ok (.goto (-82), 3) := by decide +kernel
theorem dX12_keeps_70 : decode cX12_keeps 70 = .ok (.aload_n 0, 1) := by decide +kernel
theorem dX12_keeps_71 : decode cX12_keeps 71 = .ok (.getfield 106, 3) := by decide +kernel
theorem dX12_keeps_74 : decode cX12_keeps 74 = .ok (.bipush 10, 2) := by decide +kernel
theorem dX12_keeps_76 : decode cX12_keeps 76 = .ok (.iload_n 1, 1) := by decide +kernel
theorem dX12_keeps_77 : decode cX12_keeps 77 = .ok (.imul, 1) := by decide +kernel
theorem dX12_keeps_78 : decode cX12_keeps 78 = .ok (.iload_n 2, 1) := by decide +kernel
theorem dX12_keeps_79 : decode cX12_keeps 79 = .ok (.iadd, 1) := by decide +kernel
theorem dX12_keeps_80 : decode cX12_keeps 80 = .ok (.aload_n 0, 1) := by decide +kernel
theorem dX12_keeps_81 : decode cX12_keeps 81 = .ok (.getfield 106, 3) := by decide +kernel
theorem dX12_keeps_84 : decode cX12_keeps 84 = .ok (.bipush 80, 2) := by decide +kernel
theorem dX12_keeps_86 : decode cX12_keeps 86 = .ok (.iload_n 2, 1) := by decide +kernel
theorem dX12_keeps_87 : decode cX12_keeps 87 = .ok (.iadd, 1) := by decide +kernel
theorem dX12_keeps_88 : decode cX12_keeps 88 = .ok (.iaload, 1) := by decide +kernel
theorem dX12_keeps_89 : decode cX12_keeps 89 = .ok (.iastore, 1) := by decide +kernel
theorem dX12_keeps_90 : decode cX12_keeps 90 = .ok (.aload_n 0, 1) := by decide +kernel
theorem dX12_keeps_91 : decode cX12_keeps 91 = .ok (.getfield 109, 3) := by decide +kernel
theorem dX12_keeps_94 : decode cX12_keeps 94 = .ok (.bipush 10, 2) := by decide +kernel
theorem dX12_keeps_96 : decode cX12_keeps 96 = .ok (.iload_n 1, 1) := by decide +kernel
theorem dX12_keeps_97 : decode cX12_keeps 97 = .ok (.imul, 1) := by decide +kernel
theorem dX12_keeps_98 : decode cX12_keeps 98 = .ok (.iload_n 2, 1) := by decide +kernel
theorem dX12_keeps_99 : decode cX12_keeps 99 = .ok (.iadd, 1) := by decide +kernel
theorem dX12_keeps_100 : decode cX12_keeps 100 = .ok (.aload_n 0, 1) := by decide +kernel
theorem dX12_keeps_101 : decode cX12_keeps 101 = .ok (.getfield 109, 3) := by decide +kernel
theorem dX12_keeps_104 : decode cX12_keeps 104 = .ok (.bipush 80, 2) := by decide +kernel
theorem dX12_keeps_106 : decode cX12_keeps 106 = .ok (.iload_n 2, 1) := by decide +kernel
theorem dX12_keeps_107 : decode cX12_keeps 107 = .ok (.iadd, 1) := by decide +kernel
theorem dX12_keeps_108 : decode cX12_keeps 108 = .ok (.iaload, 1) := by decide +kernel
theorem dX12_keeps_109 : decode cX12_keeps 109 = .ok (.iastore, 1) := by decide +kernel
theorem dX12_keeps_110 : decode cX12_keeps 110 = .ok (.aload_n 0, 1) := by decide +kernel
theorem dX12_keeps_111 : decode cX12_keeps 111 = .ok (.getfield 112, 3) := by decide +kernel
theorem dX12_keeps_114 : decode cX12_keeps 114 = .ok (.bipush 10, 2) := by decide +kernel
theorem dX12_keeps_116 : decode cX12_keeps 116 = .ok (.iload_n 1, 1) := by decide +kernel
theorem dX12_keeps_117 : decode cX12_keeps 117 = .ok (.imul, 1) := by decide +kernel
theorem dX12_keeps_118 : decode cX12_keeps 118 = .ok (.iload_n 2, 1) := by decide +kernel
theorem dX12_keeps_119 : decode cX12_keeps 119 = .ok (.iadd, 1) := by decide +kernel
theorem dX12_keeps_120 : decode cX12_keeps 120 = .ok (.aload_n 0, 1) := by decide +kernel
theorem dX12_keeps_121 : decode cX12_keeps 121 = .ok (.getfield 112, 3) := by decide +kernel
theorem dX12_keeps_124 : decode cX12_keeps 124 = .ok (.bipush 80, 2) := by decide +kernel
theorem dX12_keeps_126 : decode cX12_keeps 126 = .ok (.iload_n 2, 1) := by decide +kernel
theorem dX12_keeps_127 : decode cX12_keeps 127 = .ok (.iadd, 1) := by decide +kernel
theorem dX12_keeps_128 : decode cX12_keeps 128 = .ok (.baload, 1) := by decide +kernel
theorem dX12_keeps_129 : decode cX12_keeps 129 = .ok (.bastore, 1) := by decide +kernel
theorem dX12_keeps_130 : decode cX12_keeps 130 = .ok (.aload_n 0, 1) := by decide +kernel
theorem dX12_keeps_131 : decode cX12_keeps 131 = .ok (.getfield 116, 3) := by decide +kernel
theorem dX12_keeps_134 : decode cX12_keeps 134 = .ok (.bipush 10, 2) := by decide +kernel
theorem dX12_keeps_136 : decode cX12_keeps 136 = .ok (.iload_n 1, 1) := by decide +kernel
theorem dX12_keeps_137 : decode cX12_keeps 137 = .ok (.imul, 1) := by decide +kernel
theorem dX12_keeps_138 : decode cX12_keeps 138 = .ok (.iload_n 2, 1) := by decide +kernel
theorem dX12_keeps_139 : decode cX12_keeps 139 = .ok (.iadd, 1) := by decide +kernel
theorem dX12_keeps_140 : decode cX12_keeps 140 = .ok (.aload_n 0, 1) := by decide +kernel
theorem dX12_keeps_141 : decode cX12_keeps 141 = .ok (.getfield 116, 3) := by decide +kernel
theorem dX12_keeps_144 : decode cX12_keeps 144 = .ok (.bipush 80, 2) := by decide +kernel
theorem dX12_keeps_146 : decode cX12_keeps 146 = .ok (.iload_n 2, 1) := by decide +kernel
theorem dX12_keeps_147 : decode cX12_keeps 147 = .ok (.iadd, 1) := by decide +kernel
theorem dX12_keeps_148 : decode cX12_keeps 148 = .ok (.baload, 1) := by decide +kernel
theorem dX12_keeps_149 : decode cX12_keeps 149 = .ok (.bastore, 1) := by decide +kernel
theorem dX12_keeps_150 : decode cX12_keeps 150 = .ok (.aload_n 0, 1) := by decide +kernel
theorem dX12_keeps_151 : decode cX12_keeps 151 = .ok (.getfield 131, 3) := by decide +kernel
theorem dX12_keeps_154 : decode cX12_keeps 154 = .ok (.bipush 10, 2) := by decide +kernel
theorem dX12_keeps_156 : decode cX12_keeps 156 = .ok (.iload_n 1, 1) := by decide +kernel
theorem dX12_keeps_157 : decode cX12_keeps 157 = .ok (.imul, 1) := by decide +kernel
theorem dX12_keeps_158 : decode cX12_keeps 158 = .ok (.iload_n 2, 1) := by decide +kernel
theorem dX12_keeps_159 : decode cX12_keeps 159 = .ok (.iadd, 1) := by decide +kernel
theorem dX12_keeps_160 : decode cX12_keeps 160 = .ok (.aload_n 0, 1) := by decide +kernel
theorem dX12_keeps_161 : decode cX12_keeps 161 = .ok (.getfield 131, 3) := by decide +kernel
theorem dX12_keeps_164 : decode cX12_keeps 164 = .ok (.bipush 80, 2) := by decide +kernel
theorem dX12_keeps_166 : decode cX12_keeps 166 = .ok (.iload_n 2, 1) := by decide +kernel
theorem dX12_keeps_167 : decode cX12_keeps 167 = .ok (.iadd, 1) := by decide +kernel
theorem dX12_keeps_168 : decode cX12_keeps 168 = .ok (.iaload, 1) := by decide +kernel
theorem dX12_keeps_169 : decode cX12_keeps 169 = .ok (.iastore, 1) := by decide +kernel
theorem dX12_keeps_170 : decode cX12_keeps 170 = .ok (.aload_n 0, 1) := by decide +kernel
theorem dX12_keeps_171 : decode cX12_keeps 171 = .ok (.getfield 134, 3) := by decide +kernel
theorem dX12_keeps_174 : decode cX12_keeps 174 = .ok (.bipush 10, 2) := by decide +kernel
theorem dX12_keeps_176 : decode cX12_keeps 176 = .ok (.iload_n 1, 1) := by decide +kernel
theorem dX12_keeps_177 : decode cX12_keeps 177 = .ok (.imul, 1) := by decide +kernel
theorem dX12_keeps_178 : decode cX12_keeps 178 = .ok (.iload_n 2, 1) := by decide +kernel
theorem dX12_keeps_179 : decode cX12_keeps 179 = .ok (.iadd, 1) := by decide +kernel
theorem dX12_keeps_180 : decode cX12_keeps 180 = .ok (.aload_n 0, 1) := by decide +kernel
theorem dX12_keeps_181 : decode cX12_keeps 181 = .ok (.getfield 134, 3) := by decide +kernel
theorem dX12_keeps_184 : decode cX12_keeps 184 = .ok (.bipush 80, 2) := by decide +kernel
theorem dX12_keeps_186 : decode cX12_keeps 186 = .ok (.iload_n 2, 1) := by decide +kernel
theorem dX12_keeps_187 : decode cX12_keeps 187 = .ok (.iadd, 1) := by decide +kernel
theorem dX12_keeps_188 : decode cX12_keeps 188 = .ok (.iaload, 1) := by decide +kernel
theorem dX12_keeps_189 : decode cX12_keeps 189 = .ok (.iastore, 1) := by decide +kernel
theorem dX12_keeps_190 : decode cX12_keeps 190 = .ok (.iinc 2 1, 3) := by decide +kernel
theorem dX12_keeps_193 : decode cX12_keeps 193 = .ok (.goto (-129), 3) := by decide +kernel
theorem dX12_rules_0 : decode cX12_rules 0 = .ok (.aload_n 0, 1) := by decide +kernel
theorem dX12_rules_1 : decode cX12_rules 1 = .ok (.iconst 0, 1) := by decide +kernel
theorem dX12_rules_2 : decode cX12_rules 2 = .ok (.putfield 1, 3) := by decide +kernel
theorem dX12_rules_5 : decode cX12_rules 5 = .ok (.aload_n 0, 1) := by decide +kernel
theorem dX12_rules_6 : decode cX12_rules 6 = .ok (.getfield 339, 3) := by decide +kernel
theorem dX12_rules_9 : decode cX12_rules 9 = .ok (.ifCond .le 25, 3) := by decide +kernel
theorem dX12_rules_34 : decode cX12_rules 34 = .ok (.iconst 0, 1) := by decide +kernel
theorem dX12_rules_35 : decode cX12_rules 35 = .ok (.istore_n 1, 1) := by decide +kernel
theorem dX12_rules_36 : decode cX12_rules 36 = .ok (.aload_n 0, 1) := by decide +kernel
theorem dX12_rules_37 : decode cX12_rules 37 = .ok (.getfield 339, 3) := by decide +kernel
theorem dX12_rules_40 : decode cX12_rules 40 = .ok (.bipush 8, 2) := by decide +kernel
theorem dX12_rules_42 : decode cX12_rules 42 = .ok (.if_icmp .ne 14, 3) := by decide +kernel
theorem dX12_rules_56 : decode cX12_rules 56 = .ok (.aload_n 0, 1) := by decide +kernel
theorem dX12_rules_57 : decode cX12_rules 57 = .ok (.invokevirtual 345, 3) := by decide +kernel
theorem dX12_rules_60 : decode cX12_rules 60 = .ok (.aload_n 0, 1) := by decide +kernel
theorem dX12_rules_61 : decode cX12_rules 61 = .ok (.invokevirtual 348, 3) := by decide +kernel
theorem dX12_rules_64 : decode cX12_rules 64 = .ok (.aload_n 0, 1) := by decide +kernel
theorem dX12_rules_65 : decode cX12_rules 65 = .ok (.getfield 320, 3) := by decide +kernel
theorem dX12_rules_68 : decode cX12_rules 68 = .ok (.ifCond .ne 22, 3) := by decide +kernel
theorem dX12_rules_71 : decode cX12_rules 71 = .ok (.aload_n 0, 1) := by decide +kernel
theorem dX12_rules_72 : decode cX12_rules 72 = .ok (.getfield 24, 3) := by decide +kernel
theorem dX12_rules_75 : decode cX12_rules 75 = .ok (.aload_n 0, 1) := by decide +kernel
theorem dX12_rules_76 : decode cX12_rules 76 = .ok (.getfield 317, 3) := by decide +kernel
theorem dX12_rules_79 : decode cX12_rules 79 = .ok (.iaload, 1) := by decide +kernel
theorem dX12_rules_80 : decode cX12_rules 80 = .ok (.ifCond .eq 10, 3) := by decide +kernel
theorem dX12_rules_90 : decode cX12_rules 90 = .ok (.aload_n 0, 1) := by decide +kernel
theorem dX12_rules_91 : decode cX12_rules 91 = .ok (.getfield 320, 3) := by decide +kernel
theorem dX12_rules_94 : decode cX12_rules 94 = .ok (.ifCond .ne 36, 3) := by decide +kernel
theorem dX12_rules_97 : decode cX12_rules 97 = .ok (.aload_n 0, 1) := by decide +kernel
theorem dX12_rules_98 : decode cX12_rules 98 = .ok (.dup, 1) := by decide +kernel
theorem dX12_rules_99 : decode cX12_rules 99 = .ok (.getfield 339, 3) := by decide +kernel
theorem dX12_rules_102 : decode cX12_rules 102 = .ok (.iload_n 1, 1) := by decide +kernel
theorem dX12_rules_103 : decode cX12_rules 103 = .ok (.ifCond .eq 7, 3) := by decide +kernel
theorem dX12_rules_110 : decode cX12_rules 110 = .ok (.iconst 1, 1) := by decide +kernel
theorem dX12_rules_111 : decode cX12_rules 111 = .ok (.iadd, 1) := by decide +kernel
theorem dX12_rules_112 : decode cX12_rules 112 = .ok (.putfield 339, 3) := by decide +kernel
theorem dX12_rules_115 : decode cX12_rules 115 = .ok (.aload_n 0, 1) := by decide +kernel
theorem dX12_rules_116 : decode cX12_rules 116 = .ok (.aload_n 0, 1) := by decide +kernel
theorem dX12_rules_117 : decode cX12_rules 117 = .ok (.getfield 339, 3) := by decide +kernel
theorem dX12_rules_120 : decode cX12_rules 120 = .ok (.iconst 1, 1) := by decide +kernel
theorem dX12_rules_121 : decode cX12_rules 121 = .ok (.isub, 1) := by decide +kernel
theorem dX12_rules_122 : decode cX12_rules 122 = .ok (.invokevirtual 354, 3) := by decide +kernel
theorem dX12_rules_125 : decode cX12_rules 125 = .ok (.aload_n 0, 1) := by decide +kernel
theorem dX12_rules_126 : decode cX12_rules 126 = .ok (.iconst 1, 1) := by decide +kernel
theorem dX12_rules_127 : decode cX12_rules 127 = .ok (.putfield 290, 3) := by decide +kernel
theorem dX12_rules_130 : decode cX12_rules 130 = .ok (.aload_n 0, 1) := by decide +kernel
theorem dX12_rules_131 : decode cX12_rules 131 = .ok (.getfield 320, 3) := by decide +kernel
theorem dX12_rules_134 : decode cX12_rules 134 = .ok (.ireturn, 1) := by decide +kernel
theorem dX12_fault_0 : decode cX12_fault 0 = .ok (.aload_n 0, 1) := by decide +kernel
theorem dX12_fault_1 : decode cX12_fault 1 = .ok (.iconst 0, 1) := by decide +kernel
theorem dX12_fault_2 : decode cX12_fault 2 = .ok (.putfield 1, 3) := by decide +kernel
theorem dX12_fault_5 : decode cX12_fault 5 = .ok (.iload_n 1, 1) := by decide +kernel
theorem dX12_fault_6 : decode cX12_fault 6 = .ok (.iload_n 2, 1) := by decide +kernel
theorem dX12_fault_7 : decode cX12_fault 7 = .ok (.invokestatic 419, 3) := by decide +kernel
theorem dX12_fault_10 : decode cX12_fault 10 = .ok (.ifCond .eq 72, 3) := by decide +kernel
theorem dX12_fault_13 : decode cX12_fault 13 = .ok (.iload 4, 2) := by decide +kernel
theorem dX12_fault_15 : decode cX12_fault 15 = .ok (.iconst 1, 1) := by decide +kernel
theorem dX12_fault_16 : decode cX12_fault 16 = .ok (.bipush 12, 2) := by decide +kernel
theorem dX12_fault_18 : decode cX12_fault 18 = .ok (.invokestatic 415, 3) := by decide +kernel
theorem dX12_fault_21 : decode cX12_fault 21 = .ok (.ifCond .eq 61, 3) := by decide +kernel
theorem dX12_fault_24 : decode cX12_fault 24 = .ok (.iload 5, 2) := by decide +kernel
theorem dX12_fault_26 : decode cX12_fault 26 = .ok (.sipush (-300), 3) := by decide +kernel
theorem dX12_fault_29 : decode cX12_fault 29 = .ok (.sipush 300, 3) := by decide +kernel
theorem dX12_fault_32 : decode cX12_fault 32 = .ok (.invokestatic 415, 3) := by decide +kernel
theorem dX12_fault_35 : decode cX12_fault 35 = .ok (.ifCond .eq 47, 3) := by decide +kernel
theorem dX12_fault_38 : decode cX12_fault 38 = .ok (.iload 6, 2) := by decide +kernel
theorem dX12_fault_40 : decode cX12_fault 40 = .ok (.sipush (-300), 3) := by decide +kernel
theorem dX12_fault_43 : decode cX12_fault 43 = .ok (.sipush 300, 3) := by decide +kernel
theorem dX12_fault_46 : decode cX12_fault 46 = .ok (.invokestatic 415, 3) := by decide +kernel
theorem dX12_fault_49 : decode cX12_fault 49 = .ok (.ifCond .eq 33, 3) := by decide +kernel
theorem dX12_fault_52 : decode cX12_fault 52 = .ok (.iload 5, 2) := by decide +kernel
theorem dX12_fault_54 : decode cX12_fault 54 = .ok (.iload 6, 2) := by decide +kernel
theorem dX12_fault_56 : decode cX12_fault 56 = .ok (.if_icmp .gt 26, 3) := by decide +kernel
theorem dX12_fault_82 : decode cX12_fault 82 = .ok (.iconst 0, 1) := by decide +kernel
theorem dX12_fault_83 : decode cX12_fault 83 = .ok (.istore 8, 2) := by decide +kernel
theorem dX12_fault_85 : decode cX12_fault 85 = .ok (.iload 8, 2) := by decide +kernel
theorem dX12_fault_87 : decode cX12_fault 87 = .ok (.ifCond .eq 48, 3) := by decide +kernel
theorem dX12_fault_135 : decode cX12_fault 135 = .ok (.iconst 0, 1) := by decide +kernel
theorem dX12_fault_136 : decode cX12_fault 136 = .ok (.istore 8, 2) := by decide +kernel
theorem dX12_fault_138 : decode cX12_fault 138 = .ok (.iload 8, 2) := by decide +kernel
theorem dX12_fault_140 : decode cX12_fault 140 = .ok (.ifCond .ne 5, 3) := by decide +kernel
theorem dX12_fault_143 : decode cX12_fault 143 = .ok (.iconst (-1), 1) := by decide +kernel
theorem dX12_fault_144 : decode cX12_fault 144 = .ok (.ireturn, 1) := by decide +kernel
theorem dX12_fault_59 : decode cX12_fault 59 = .ok (.iload 7, 2) := by decide +kernel
theorem dX12_fault_61 : decode cX12_fault 61 = .ok (.iconst 1, 1) := by decide +kernel
theorem dX12_fault_62 : decode cX12_fault 62 = .ok (.bipush 99, 2) := by decide +kernel
theorem dX12_fault_64 : decode cX12_fault 64 = .ok (.invokestatic 415, 3) := by decide +kernel
theorem dX12_fault_67 : decode cX12_fault 67 = .ok (.ifCond .eq 15, 3) := by decide +kernel
theorem dX12_fault_70 : decode cX12_fault 70 = .ok (.aload_n 0, 1) := by decide +kernel
theorem dX12_fault_71 : decode cX12_fault 71 = .ok (.getfield 477, 3) := by decide +kernel
theorem dX12_fault_74 : decode cX12_fault 74 = .ok (.iconst 4, 1) := by decide +kernel
theorem dX12_fault_75 : decode cX12_fault 75 = .ok (.if_icmp .ge 7, 3) := by decide +kernel
theorem dX12_fault_78 : decode cX12_fault 78 = .ok (.iconst 1, 1) := by decide +kernel
theorem dX12_fault_79 : decode cX12_fault 79 = .ok (.goto 4, 3) := by decide +kernel
theorem dX12_fault_90 : decode cX12_fault 90 = .ok (.iload_n 3, 1) := by decide +kernel
theorem dX12_fault_91 : decode cX12_fault 91 = .ok (.ifCond .eq 23, 3) := by decide +kernel
theorem dX12_fault_114 : decode cX12_fault 114 = .ok (.iload_n 2, 1) := by decide +kernel
theorem dX12_fault_115 : decode cX12_fault 115 = .ok (.iconst 1, 1) := by decide +kernel
theorem dX12_fault_116 : decode cX12_fault 116 = .ok (.iadd, 1) := by decide +kernel
theorem dX12_fault_117 : decode cX12_fault 117 = .ok (.bipush 8, 2) := by decide +kernel
theorem dX12_fault_119 : decode cX12_fault 119 = .ok (.if_icmp .ge 16, 3) := by decide +kernel
theorem dX12_fault_122 : decode cX12_fault 122 = .ok (.iload_n 1, 1) := by decide +kernel
theorem dX12_fault_123 : decode cX12_fault 123 = .ok (.iload 4, 2) := by decide +kernel
theorem dX12_fault_125 : decode cX12_fault 125 = .ok (.iadd, 1) := by decide +kernel
theorem dX12_fault_126 : decode cX12_fault 126 = .ok (.bipush 12, 2) := by decide +kernel
theorem dX12_fault_128 : decode cX12_fault 128 = .ok (.if_icmp .gt 7, 3) := by decide +kernel
theorem dX12_fault_131 : decode cX12_fault 131 = .ok (.iconst 1, 1) := by decide +kernel
theorem dX12_fault_132 : decode cX12_fault 132 = .ok (.goto 4, 3) := by decide +kernel
theorem dX12_fault_145 : decode cX12_fault 145 = .ok (.iconst 0, 1) := by decide +kernel
theorem dX12_fault_146 : decode cX12_fault 146 = .ok (.istore 9, 2) := by decide +kernel
theorem dX12_fault_148 : decode cX12_fault 148 = .ok (.iload 9, 2) := by decide +kernel
theorem dX12_fault_150 : decode cX12_fault 150 = .ok (.sipush 192, 3) := by decide +kernel
theorem dX12_fault_153 : decode cX12_fault 153 = .ok (.if_icmp .ge 26, 3) := by decide +kernel
theorem dX12_fault_179 : decode cX12_fault 179 = .ok (.iconst 0, 1) := by decide +kernel
theorem dX12_fault_180 : decode cX12_fault 180 = .ok (.istore 9, 2) := by decide +kernel
theorem dX12_fault_182 : decode cX12_fault 182 = .ok (.iload 9, 2) := by decide +kernel
theorem dX12_fault_184 : decode cX12_fault 184 = .ok (.iload 4, 2) := by decide +kernel
theorem dX12_fault_186 : decode cX12_fault 186 = .ok (.if_icmp .ge 52, 3) := by decide +kernel
theorem dX12_fault_238 : decode cX12_fault 238 = .ok (.aload_n 0, 1) := by decide +kernel
theorem dX12_fault_239 : decode cX12_fault 239 = .ok (.getfield 224, 3) := by decide +kernel
theorem dX12_fault_242 : decode cX12_fault 242 = .ok (.aload_n 0, 1) := by decide +kernel
theorem dX12_fault_243 : decode cX12_fault 243 = .ok (.getfield 477, 3) := by decide +kernel
theorem dX12_fault_246 : decode cX12_fault 246 = .ok (.iload 5, 2) := by decide +kernel
theorem dX12_fault_248 : decode cX12_fault 248 = .ok (.iastore, 1) := by decide +kernel
theorem dX12_fault_249 : decode cX12_fault 249 = .ok (.aload_n 0, 1) := by decide +kernel
theorem dX12_fault_250 : decode cX12_fault 250 = .ok (.getfield 227, 3) := by decide +kernel
theorem dX12_fault_253 : decode cX12_fault 253 = .ok (.aload_n 0, 1) := by decide +kernel
theorem dX12_fault_254 : decode cX12_fault 254 = .ok (.getfield 477, 3) := by decide +kernel
theorem dX12_fault_257 : decode cX12_fault 257 = .ok (.iload 6, 2) := by decide +kernel
theorem dX12_fault_259 : decode cX12_fault 259 = .ok (.iastore, 1) := by decide +kernel
theorem dX12_fault_260 : decode cX12_fault 260 = .ok (.aload_n 0, 1) := by decide +kernel
theorem dX12_fault_261 : decode cX12_fault 261 = .ok (.getfield 230, 3) := by decide +kernel
theorem dX12_fault_264 : decode cX12_fault 264 = .ok (.aload_n 0, 1) := by decide +kernel
theorem dX12_fault_265 : decode cX12_fault 265 = .ok (.getfield 477, 3) := by decide +kernel
theorem dX12_fault_268 : decode cX12_fault 268 = .ok (.iload 7, 2) := by decide +kernel
theorem dX12_fault_270 : decode cX12_fault 270 = .ok (.iastore, 1) := by decide +kernel
theorem dX12_fault_271 : decode cX12_fault 271 = .ok (.aload_n 0, 1) := by decide +kernel
theorem dX12_fault_272 : decode cX12_fault 272 = .ok (.dup, 1) := by decide +kernel
theorem dX12_fault_273 : decode cX12_fault 273 = .ok (.getfield 477, 3) := by decide +kernel
theorem dX12_fault_276 : decode cX12_fault 276 = .ok (.iconst 1, 1) := by decide +kernel
theorem dX12_fault_277 : decode cX12_fault 277 = .ok (.iadd, 1) := by decide +kernel
theorem dX12_fault_278 : decode cX12_fault 278 = .ok (.putfield 477, 3) := by decide +kernel
theorem dX12_fault_281 : decode cX12_fault 281 = .ok (.aload_n 0, 1) := by decide +kernel
theorem dX12_fault_282 : decode cX12_fault 282 = .ok (.iconst 1, 1) := by decide +kernel
theorem dX12_fault_283 : decode cX12_fault 283 = .ok (.putfield 290, 3) := by decide +kernel
theorem dX12_fault_286 : decode cX12_fault 286 = .ok (.aload_n 0, 1) := by decide +kernel
theorem dX12_fault_287 : decode cX12_fault 287 = .ok (.getfield 477, 3) := by decide +kernel
theorem dX12_fault_290 : decode cX12_fault 290 = .ok (.iconst 1, 1) := by decide +kernel
theorem dX12_fault_291 : decode cX12_fault 291 = .ok (.isub, 1) := by decide +kernel
theorem dX12_fault_292 : decode cX12_fault 292 = .ok (.ireturn, 1) := by decide +kernel
theorem dX12_fault_189 : decode cX12_fault 189 = .ok (.aload_n 0, 1) := by decide +kernel
theorem dX12_fault_190 : decode cX12_fault 190 = .ok (.getfield 221, 3) := by decide +kernel
theorem dX12_fault_193 : decode cX12_fault 193 = .ok (.sipush 192, 3) := by decide +kernel
theorem dX12_fault_196 : decode cX12_fault 196 = .ok (.aload_n 0, 1) := by decide +kernel
theorem dX12_fault_197 : decode cX12_fault 197 = .ok (.getfield 477, 3) := by decide +kernel
theorem dX12_fault_200 : decode cX12_fault 200 = .ok (.imul, 1) := by decide +kernel
theorem dX12_fault_201 : decode cX12_fault 201 = .ok (.iload_n 3, 1) := by decide +kernel
theorem dX12_fault_202 : decode cX12_fault 202 = .ok (.ifCond .eq 15, 3) := by decide +kernel
theorem dX12_fault_217 : decode cX12_fault 217 = .ok (.bipush 96, 2) := by decide +kernel
theorem dX12_fault_219 : decode cX12_fault 219 = .ok (.bipush 12, 2) := by decide +kernel
theorem dX12_fault_221 : decode cX12_fault 221 = .ok (.iload_n 2, 1) := by decide +kernel
theorem dX12_fault_222 : decode cX12_fault 222 = .ok (.imul, 1) := by decide +kernel
theorem dX12_fault_223 : decode cX12_fault 223 = .ok (.iadd, 1) := by decide +kernel
theorem dX12_fault_224 : decode cX12_fault 224 = .ok (.iload_n 1, 1) := by decide +kernel
theorem dX12_fault_225 : decode cX12_fault 225 = .ok (.iadd, 1) := by decide +kernel
theorem dX12_fault_226 : decode cX12_fault 226 = .ok (.iload 9, 2) := by decide +kernel
theorem dX12_fault_228 : decode cX12_fault 228 = .ok (.iadd, 1) := by decide +kernel
theorem dX12_fault_229 : decode cX12_fault 229 = .ok (.iadd, 1) := by decide +kernel
theorem dX12_fault_230 : decode cX12_fault 230 = .ok (.iconst 1, 1) := by decide +kernel
theorem dX12_fault_231 : decode cX12_fault 231 = .ok (.bastore, 1) := by decide +kernel
theorem dX12_fault_232 : decode cX12_fault 232 = .ok (.iinc 9 1, 3) := by decide +kernel
theorem dX12_fault_235 : decode cX12_fault 235 = .ok (.goto (-53), 3) := by decide +kernel
theorem dX12_fault_205 : decode cX12_fault 205 = .ok (.bipush 12, 2) := by decide +kernel
theorem dX12_fault_207 : decode cX12_fault 207 = .ok (.iload_n 2, 1) := by decide +kernel
theorem dX12_fault_208 : decode cX12_fault 208 = .ok (.iload 9, 2) := by decide +kernel
theorem dX12_fault_210 : decode cX12_fault 210 = .ok (.iadd, 1) := by decide +kernel
theorem dX12_fault_211 : decode cX12_fault 211 = .ok (.imul, 1) := by decide +kernel
theorem dX12_fault_212 : decode cX12_fault 212 = .ok (.iload_n 1, 1) := by decide +kernel
theorem dX12_fault_213 : decode cX12_fault 213 = .ok (.iadd, 1) := by decide +kernel
theorem dX12_fault_214 : decode cX12_fault 214 = .ok (.goto 15, 3) := by decide +kernel
theorem dX12_fault_156 : decode cX12_fault 156 = .ok (.aload_n 0, 1) := by decide +kernel
theorem dX12_fault_157 : decode cX12_fault 157 = .ok (.getfield 221, 3) := by decide +kernel
theorem dX12_fault_160 : decode cX12_fault 160 = .ok (.sipush 192, 3) := by decide +kernel
theorem dX12_fault_163 : decode cX12_fault 163 = .ok (.aload_n 0, 1) := by decide +kernel
theorem dX12_fault_164 : decode cX12_fault 164 = .ok (.getfield 477, 3) := by decide +kernel
theorem dX12_fault_167 : decode cX12_fault 167 = .ok (.imul, 1) := by decide +kernel
theorem dX12_fault_168 : decode cX12_fault 168 = .ok (.iload 9, 2) := by decide +kernel
theorem dX12_fault_170 : decode cX12_fault 170 = .ok (.iadd, 1) := by decide +kernel
theorem dX12_fault_171 : decode cX12_fault 171 = .ok (.iconst 0, 1) := by decide +kernel
theorem dX12_fault_172 : decode cX12_fault 172 = .ok (.bastore, 1) := by decide +kernel
theorem dX12_fault_173 : decode cX12_fault 173 = .ok (.iinc 9 1, 3) := by decide +kernel
theorem dX12_fault_176 : decode cX12_fault 176 = .ok (.goto (-28), 3) := by decide +kernel
theorem dX12_fault_94 : decode cX12_fault 94 = .ok (.iload_n 1, 1) := by decide +kernel
theorem dX12_fault_95 : decode cX12_fault 95 = .ok (.iconst 1, 1) := by decide +kernel
theorem dX12_fault_96 : decode cX12_fault 96 = .ok (.iadd, 1) := by decide +kernel
theorem dX12_fault_97 : decode cX12_fault 97 = .ok (.bipush 12, 2) := by decide +kernel
theorem dX12_fault_99 : decode cX12_fault 99 = .ok (.if_icmp .ge 36, 3) := by decide +kernel
theorem dX12_fault_102 : decode cX12_fault 102 = .ok (.iload_n 2, 1) := by decide +kernel
theorem dX12_fault_103 : decode cX12_fault 103 = .ok (.iload 4, 2) := by decide +kernel
theorem dX12_fault_105 : decode cX12_fault 105 = .ok (.iadd, 1) := by decide +kernel
theorem dX12_fault_106 : decode cX12_fault 106 = .ok (.bipush 8, 2) := by decide +kernel
theorem dX12_fault_108 : decode cX12_fault 108 = .ok (.if_icmp .gt 27, 3) := by decide +kernel
theorem dX12_fault_111 : decode cX12_fault 111 = .ok (.goto 20, 3) := by decide +kernel
set_option maxHeartbeats 4000000 in
set_option maxRecDepth 100000 in
theorem kX12_cost (l : Launch) (D : va_G) (cy : Nat → ClassId) (q : Nat → Nat) (p0 : Int32) (z0 : Int) (h0 : p0.toInt = z0) : CI l D cy yX12_cost cX12_cost 2 (some .int) 6 152 0 0 [.ref (q 0), .int p0] [((q 0), .inr (11, (mO q 0 0 0 0 0 0 0 0 (-1) 1 0 0 0 0 0 0 0 0 0))), ((q 63), .inl (cy 0, 600, .inl (fun _ => 0))), ((q 64), .inl (cy 0, 600, .inl (fun _ => 0))), ((q 65), .inl (cy 0, 600, .inl (fun _ => 0))), ((q 66), .inl (cy 0, 600, .inl (fun _ => 0))), ((q 67), .inl (cy 0, 97, .inl (fun _ => 0))), ((q 68), .inl (cy 0, 97, .inl (fun _ => 0))), ((q 70), .inl (cy 1, 16, .inl (fun _ => 0))), ((q 71), .inl (cy 0, 16, .inl (fun _ => 0))), ((q 72), .inl (cy 2, 16, .inr (.inl (fun _ => 0)))), ((q 73), .inl (cy 1, 16, .inl (fun _ => 0))), ((q 74), .inl (cy 1, 16, .inl (fun _ => 0)))] (fun (v : Int32) (u : Unit) => (v = 0 ∧ (z0 = 0)) ∨ (v = (-1) ∧ ¬ (z0 = 0))) (fun (u : Unit) => []) := by
  refine ci_go (by decide) (Nat.le_of_ble_eq_true rfl) (fun p e s m below meth c ls A hA S hr hlk hnm hP hK hD hl => ?_)
  have hS : va_S A s.heap s.heap [] := va_S.rf
  have hl : lv_has ls 2 [(0, .ref (q 0)), (1, .int p0)] := hl
  by_cases hz0 : z0 = 0
  · have e0 : p0 = 0 := Int32.toInt_inj.mp (by rw [h0, hz0]; rfl)
    subst e0
    have hl : lv_has ls 2 [(0, .ref (q 0)), (1, .int 0)] := hl
    refine lv_aload_n S.1 S.2.1 dX12_cost_0 rfl (lv_at hl 0 rfl) ?_
    refine lv_iconst (v := 0) S.1 S.2.1 dX12_cost_1 (by decide) ?_
    refine r_put S hK hP hD hS 0 11 rfl rfl inX12 0 (by decide) tyX12 tyX12_ok nmX12 kw_1510 (v := .int 0) rfl rfl rfl (Nat.le_of_ble_eq_true rfl) dX12_cost_2 (fun H locs hP hD hS => ?_)
    have hP : va_P D vwCl [((q 0), .inr (11, (mO q 0 0 0 0 0 0 0 0 (-1) 1 0 0 0 0 0 0 0 0 0))), ((q 63), .inl (cy 0, 600, .inl (fun _ => 0))), ((q 64), .inl (cy 0, 600, .inl (fun _ => 0))), ((q 65), .inl (cy 0, 600, .inl (fun _ => 0))), ((q 66), .inl (cy 0, 600, .inl (fun _ => 0))), ((q 67), .inl (cy 0, 97, .inl (fun _ => 0))), ((q 68), .inl (cy 0, 97, .inl (fun _ => 0))), ((q 70), .inl (cy 1, 16, .inl (fun _ => 0))), ((q 71), .inl (cy 0, 16, .inl (fun _ => 0))), ((q 72), .inl (cy 2, 16, .inr (.inl (fun _ => 0)))), ((q 73), .inl (cy 1, 16, .inl (fun _ => 0))), ((q 74), .inl (cy 1, 16, .inl (fun _ => 0)))] H := hP
    have hD : va_D A [((q 0), .inr (11, (mO q 0 0 0 0 0 0 0 0 (-1) 1 0 0 0 0 0 0 0 0 0))), ((q 63), .inl (cy 0, 600, .inl (fun _ => 0))), ((q 64), .inl (cy 0, 600, .inl (fun _ => 0))), ((q 65), .inl (cy 0, 600, .inl (fun _ => 0))), ((q 66), .inl (cy 0, 600, .inl (fun _ => 0))), ((q 67), .inl (cy 0, 97, .inl (fun _ => 0))), ((q 68), .inl (cy 0, 97, .inl (fun _ => 0))), ((q 70), .inl (cy 1, 16, .inl (fun _ => 0))), ((q 71), .inl (cy 0, 16, .inl (fun _ => 0))), ((q 72), .inl (cy 2, 16, .inr (.inl (fun _ => 0)))), ((q 73), .inl (cy 1, 16, .inl (fun _ => 0))), ((q 74), .inl (cy 1, 16, .inl (fun _ => 0)))] := hD
    refine lv_aload_n S.1 S.2.1 dX12_cost_5 rfl (lv_at hl 0 rfl) ?_
    refine call_v (wr := []) (runV_C (wc := [((q 0), .inr (11, (mO q 0 0 0 0 0 0 0 0 (-1) 1 0 0 0 0 0 0 0 0 0))), ((q 63), .inl (cy 0, 600, .inl (fun _ => 0))), ((q 64), .inl (cy 0, 600, .inl (fun _ => 0))), ((q 65), .inl (cy 0, 600, .inl (fun _ => 0))), ((q 66), .inl (cy 0, 600, .inl (fun _ => 0))), ((q 67), .inl (cy 0, 97, .inl (fun _ => 0))), ((q 68), .inl (cy 0, 97, .inl (fun _ => 0))), ((q 70), .inl (cy 1, 16, .inl (fun _ => 0))), ((q 71), .inl (cy 0, 16, .inl (fun _ => 0))), ((q 72), .inl (cy 2, 16, .inr (.inl (fun _ => 0)))), ((q 73), .inl (cy 1, 16, .inl (fun _ => 0))), ((q 74), .inl (cy 1, 16, .inl (fun _ => 0)))]) (As := []) (rest := []) S (kX12_findGrounds l D cy q 0) hK hP hD [0, 1, 2, 3, 4, 5, 6, 7, 8, 9, 10, 11] (by decide) rfl 0 11 rfl rfl kw_1946 kw_1948 kw_89 kw_152 kw_1949 okX12_findGrounds rfl (by decide) hl.1 rfl (Nat.le_of_ble_eq_true rfl) dX12_cost_6 (by decide)) hP hD hS hA [0, 1, 2, 3, 4, 5, 6, 7, 8, 9, 10, 11] [] rfl rfl (by decide) (by decide) (fun u6 H locs w6 hP hD hS => ?_)
    obtain ⟨bn_6, gd_6, cs_6, db_6, kp_6, kn_6⟩ := u6
    have hP : va_P D vwCl [((q 0), .inr (11, (mO q 0 0 0 0 0 0 0 0 (-1) 0 0 0 bn_6 0 0 1 0 0 0))), ((q 70), .inl (cy 1, 16, .inl gd_6)), ((q 71), .inl (cy 0, 16, .inl cs_6)), ((q 72), .inl (cy 2, 16, .inr (.inl db_6))), ((q 73), .inl (cy 1, 16, .inl kp_6)), ((q 74), .inl (cy 1, 16, .inl kn_6))] H := hP
    have hD : va_D A [((q 0), .inr (11, (mO q 0 0 0 0 0 0 0 0 (-1) 0 0 0 bn_6 0 0 1 0 0 0))), ((q 70), .inl (cy 1, 16, .inl gd_6)), ((q 71), .inl (cy 0, 16, .inl cs_6)), ((q 72), .inl (cy 2, 16, .inr (.inl db_6))), ((q 73), .inl (cy 1, 16, .inl kp_6)), ((q 74), .inl (cy 1, 16, .inl kn_6))] := hD
    obtain ⟨hgd, hcs, hdb, hkp, hkn⟩ := w6
    refine lv_aload_n S.1 S.2.1 dX12_cost_9 rfl (lv_at hl 0 rfl) ?_
    refine lv_iload_n S.1 S.2.1 dX12_cost_10 rfl (lv_at hl 1 rfl) ?_
    refine call_ri (runV_R (wc := [((q 0), .inr (11, (mO q 0 0 0 0 0 0 0 0 (-1) 0 0 0 bn_6 0 0 1 0 0 0)))]) (As := [.int 0]) (rest := []) S (kX12_isSet_a l D cy q 0 0 bn_6 0 1) hK hP [0] rfl 0 11 rfl rfl kw_2092 kw_2094 kw_122 kw_152 kw_2095 okX12_isSet rfl (by decide) hl.1 rfl (Nat.le_of_ble_eq_true rfl) dX12_cost_11 (by decide)) (fun v11 w11 => ?_)
    subst w11
    refine r_if_eq S 1 rfl dX12_cost_14 (tgt := 35) (by decide) (fun c => absurd c (by decide)) (fun _ => ?_)
    refine lv_aload_n S.1 S.2.1 dX12_cost_17 rfl (lv_at hl 0 rfl) ?_
    refine r_get S hK hP 0 11 rfl rfl inX12 70 (by decide) kw_1580 (v := .ref (q 70)) rfl dX12_cost_18 ?_
    refine lv_iload_n S.1 S.2.1 dX12_cost_21 rfl (lv_at hl 1 rfl) ?_
    refine r_zald S hK hP 1 1 rfl rfl (0) rfl (by decide) (by decide) (v := 1) hgd dX12_cost_22 ?_
    refine r_if_eq S 1 rfl dX12_cost_23 (tgt := 35) (by decide) (fun c => absurd c (by decide)) (fun _ => ?_)
    refine lv_aload_n S.1 S.2.1 dX12_cost_26 rfl (lv_at hl 0 rfl) ?_
    refine r_get S hK hP 0 11 rfl rfl inX12 71 (by decide) kw_1581 (v := .ref (q 71)) rfl dX12_cost_27 ?_
    refine lv_iload_n S.1 S.2.1 dX12_cost_30 rfl (lv_at hl 1 rfl) ?_
    refine r_iald S hK hP 2 0 rfl rfl (0) rfl (by decide) (by decide) (v := 0) hcs dX12_cost_31 ?_
    refine lv_goto (tgt := 36) S.1 S.2.1 dX12_cost_32 (by decide) ?_
    exact ci_ret (u := ()) S hr hlk rfl hK (hP.sub [] rfl) (hD.sub [] (by decide) rfl) hS (Or.inl ⟨rfl, (by omega)⟩) (by decide) (by decide) dX12_cost_36
  · refine lv_aload_n S.1 S.2.1 dX12_cost_0 rfl (lv_at hl 0 rfl) ?_
    refine lv_iconst (v := 0) S.1 S.2.1 dX12_cost_1 (by decide) ?_
    refine r_put S hK hP hD hS 0 11 rfl rfl inX12 0 (by decide) tyX12 tyX12_ok nmX12 kw_1510 (v := .int 0) rfl rfl rfl (Nat.le_of_ble_eq_true rfl) dX12_cost_2 (fun H locs hP hD hS => ?_)
    have hP : va_P D vwCl [((q 0), .inr (11, (mO q 0 0 0 0 0 0 0 0 (-1) 1 0 0 0 0 0 0 0 0 0))), ((q 63), .inl (cy 0, 600, .inl (fun _ => 0))), ((q 64), .inl (cy 0, 600, .inl (fun _ => 0))), ((q 65), .inl (cy 0, 600, .inl (fun _ => 0))), ((q 66), .inl (cy 0, 600, .inl (fun _ => 0))), ((q 67), .inl (cy 0, 97, .inl (fun _ => 0))), ((q 68), .inl (cy 0, 97, .inl (fun _ => 0))), ((q 70), .inl (cy 1, 16, .inl (fun _ => 0))), ((q 71), .inl (cy 0, 16, .inl (fun _ => 0))), ((q 72), .inl (cy 2, 16, .inr (.inl (fun _ => 0)))), ((q 73), .inl (cy 1, 16, .inl (fun _ => 0))), ((q 74), .inl (cy 1, 16, .inl (fun _ => 0)))] H := hP
    have hD : va_D A [((q 0), .inr (11, (mO q 0 0 0 0 0 0 0 0 (-1) 1 0 0 0 0 0 0 0 0 0))), ((q 63), .inl (cy 0, 600, .inl (fun _ => 0))), ((q 64), .inl (cy 0, 600, .inl (fun _ => 0))), ((q 65), .inl (cy 0, 600, .inl (fun _ => 0))), ((q 66), .inl (cy 0, 600, .inl (fun _ => 0))), ((q 67), .inl (cy 0, 97, .inl (fun _ => 0))), ((q 68), .inl (cy 0, 97, .inl (fun _ => 0))), ((q 70), .inl (cy 1, 16, .inl (fun _ => 0))), ((q 71), .inl (cy 0, 16, .inl (fun _ => 0))), ((q 72), .inl (cy 2, 16, .inr (.inl (fun _ => 0)))), ((q 73), .inl (cy 1, 16, .inl (fun _ => 0))), ((q 74), .inl (cy 1, 16, .inl (fun _ => 0)))] := hD
    refine lv_aload_n S.1 S.2.1 dX12_cost_5 rfl (lv_at hl 0 rfl) ?_
    refine call_v (wr := []) (runV_C (wc := [((q 0), .inr (11, (mO q 0 0 0 0 0 0 0 0 (-1) 1 0 0 0 0 0 0 0 0 0))), ((q 63), .inl (cy 0, 600, .inl (fun _ => 0))), ((q 64), .inl (cy 0, 600, .inl (fun _ => 0))), ((q 65), .inl (cy 0, 600, .inl (fun _ => 0))), ((q 66), .inl (cy 0, 600, .inl (fun _ => 0))), ((q 67), .inl (cy 0, 97, .inl (fun _ => 0))), ((q 68), .inl (cy 0, 97, .inl (fun _ => 0))), ((q 70), .inl (cy 1, 16, .inl (fun _ => 0))), ((q 71), .inl (cy 0, 16, .inl (fun _ => 0))), ((q 72), .inl (cy 2, 16, .inr (.inl (fun _ => 0)))), ((q 73), .inl (cy 1, 16, .inl (fun _ => 0))), ((q 74), .inl (cy 1, 16, .inl (fun _ => 0)))]) (As := []) (rest := []) S (kX12_findGrounds l D cy q 0) hK hP hD [0, 1, 2, 3, 4, 5, 6, 7, 8, 9, 10, 11] (by decide) rfl 0 11 rfl rfl kw_1946 kw_1948 kw_89 kw_152 kw_1949 okX12_findGrounds rfl (by decide) hl.1 rfl (Nat.le_of_ble_eq_true rfl) dX12_cost_6 (by decide)) hP hD hS hA [0, 1, 2, 3, 4, 5, 6, 7, 8, 9, 10, 11] [] rfl rfl (by decide) (by decide) (fun u6 H locs w6 hP hD hS => ?_)
    obtain ⟨bn_6, gd_6, cs_6, db_6, kp_6, kn_6⟩ := u6
    have hP : va_P D vwCl [((q 0), .inr (11, (mO q 0 0 0 0 0 0 0 0 (-1) 0 0 0 bn_6 0 0 1 0 0 0))), ((q 70), .inl (cy 1, 16, .inl gd_6)), ((q 71), .inl (cy 0, 16, .inl cs_6)), ((q 72), .inl (cy 2, 16, .inr (.inl db_6))), ((q 73), .inl (cy 1, 16, .inl kp_6)), ((q 74), .inl (cy 1, 16, .inl kn_6))] H := hP
    have hD : va_D A [((q 0), .inr (11, (mO q 0 0 0 0 0 0 0 0 (-1) 0 0 0 bn_6 0 0 1 0 0 0))), ((q 70), .inl (cy 1, 16, .inl gd_6)), ((q 71), .inl (cy 0, 16, .inl cs_6)), ((q 72), .inl (cy 2, 16, .inr (.inl db_6))), ((q 73), .inl (cy 1, 16, .inl kp_6)), ((q 74), .inl (cy 1, 16, .inl kn_6))] := hD
    obtain ⟨hgd, hcs, hdb, hkp, hkn⟩ := w6
    refine lv_aload_n S.1 S.2.1 dX12_cost_9 rfl (lv_at hl 0 rfl) ?_
    refine lv_iload_n S.1 S.2.1 dX12_cost_10 rfl (lv_at hl 1 rfl) ?_
    refine call_ri (runV_R (wc := [((q 0), .inr (11, (mO q 0 0 0 0 0 0 0 0 (-1) 0 0 0 bn_6 0 0 1 0 0 0)))]) (As := [.int p0]) (rest := []) S (kX12_isSet_b l D cy q 0 0 bn_6 0 1 p0 z0 h0 (by omega)) hK hP [0] rfl 0 11 rfl rfl kw_2092 kw_2094 kw_122 kw_152 kw_2095 okX12_isSet rfl (by decide) hl.1 rfl (Nat.le_of_ble_eq_true rfl) dX12_cost_11 (by decide)) (fun v11 w11 => ?_)
    subst w11
    refine r_if_eq S 0 rfl dX12_cost_14 (tgt := 35) (by decide) (fun _ => ?_) (fun c => absurd c (by decide))
    refine lv_iconst (v := (-1)) S.1 S.2.1 dX12_cost_35 (by decide) ?_
    exact ci_ret (u := ()) S hr hlk rfl hK (hP.sub [] rfl) (hD.sub [] (by decide) rfl) hS (Or.inr (⟨rfl, (by omega)⟩)) (by decide) (by decide) dX12_cost_36
set_option maxHeartbeats 4000000 in
set_option maxRecDepth 100000 in
theorem kX12_doubted (l : Launch) (D : va_G) (cy : Nat → ClassId) (q : Nat → Nat) (p0 : Int32) (p1 : Int32) (z0 : Int) (h0 : p0.toInt = z0) (z1 : Int) (h1 : p1.toInt = z1) : CI l D cy yX12_doubted cX12_doubted 5 (some .int) 6 152 0 0 [.ref (q 0), .int p0, .int p1] [((q 0), .inr (11, (mO q 0 0 0 0 0 0 0 0 (-1) 1 0 0 0 0 0 0 0 0 0))), ((q 63), .inl (cy 0, 600, .inl (fun _ => 0))), ((q 64), .inl (cy 0, 600, .inl (fun _ => 0))), ((q 65), .inl (cy 0, 600, .inl (fun _ => 0))), ((q 66), .inl (cy 0, 600, .inl (fun _ => 0))), ((q 67), .inl (cy 0, 97, .inl (fun _ => 0))), ((q 68), .inl (cy 0, 97, .inl (fun _ => 0))), ((q 70), .inl (cy 1, 16, .inl (fun _ => 0))), ((q 71), .inl (cy 0, 16, .inl (fun _ => 0))), ((q 72), .inl (cy 2, 16, .inr (.inl (fun _ => 0)))), ((q 73), .inl (cy 1, 16, .inl (fun _ => 0))), ((q 74), .inl (cy 1, 16, .inl (fun _ => 0)))] (fun (v : Int32) (u : Unit) => v = (-1)) (fun (u : Unit) => []) := by
  refine ci_go (by decide) (Nat.le_of_ble_eq_true rfl) (fun p e s m below meth c ls A hA S hr hlk hnm hP hK hD hl => ?_)
  have hS : va_S A s.heap s.heap [] := va_S.rf
  have hl : lv_has ls 5 [(0, .ref (q 0)), (1, .int p0), (2, .int p1)] := hl
  by_cases hz0 : z0 = 0
  · have e0 : p0 = 0 := Int32.toInt_inj.mp (by rw [h0, hz0]; rfl)
    subst e0
    have hl : lv_has ls 5 [(0, .ref (q 0)), (1, .int 0), (2, .int p1)] := hl
    refine lv_aload_n S.1 S.2.1 dX12_doubted_0 rfl (lv_at hl 0 rfl) ?_
    refine lv_iconst (v := 0) S.1 S.2.1 dX12_doubted_1 (by decide) ?_
    refine r_put S hK hP hD hS 0 11 rfl rfl inX12 0 (by decide) tyX12 tyX12_ok nmX12 kw_1510 (v := .int 0) rfl rfl rfl (Nat.le_of_ble_eq_true rfl) dX12_doubted_2 (fun H locs hP hD hS => ?_)
    have hP : va_P D vwCl [((q 0), .inr (11, (mO q 0 0 0 0 0 0 0 0 (-1) 1 0 0 0 0 0 0 0 0 0))), ((q 63), .inl (cy 0, 600, .inl (fun _ => 0))), ((q 64), .inl (cy 0, 600, .inl (fun _ => 0))), ((q 65), .inl (cy 0, 600, .inl (fun _ => 0))), ((q 66), .inl (cy 0, 600, .inl (fun _ => 0))), ((q 67), .inl (cy 0, 97, .inl (fun _ => 0))), ((q 68), .inl (cy 0, 97, .inl (fun _ => 0))), ((q 70), .inl (cy 1, 16, .inl (fun _ => 0))), ((q 71), .inl (cy 0, 16, .inl (fun _ => 0))), ((q 72), .inl (cy 2, 16, .inr (.inl (fun _ => 0)))), ((q 73), .inl (cy 1, 16, .inl (fun _ => 0))), ((q 74), .inl (cy 1, 16, .inl (fun _ => 0)))] H := hP
    have hD : va_D A [((q 0), .inr (11, (mO q 0 0 0 0 0 0 0 0 (-1) 1 0 0 0 0 0 0 0 0 0))), ((q 63), .inl (cy 0, 600, .inl (fun _ => 0))), ((q 64), .inl (cy 0, 600, .inl (fun _ => 0))), ((q 65), .inl (cy 0, 600, .inl (fun _ => 0))), ((q 66), .inl (cy 0, 600, .inl (fun _ => 0))), ((q 67), .inl (cy 0, 97, .inl (fun _ => 0))), ((q 68), .inl (cy 0, 97, .inl (fun _ => 0))), ((q 70), .inl (cy 1, 16, .inl (fun _ => 0))), ((q 71), .inl (cy 0, 16, .inl (fun _ => 0))), ((q 72), .inl (cy 2, 16, .inr (.inl (fun _ => 0)))), ((q 73), .inl (cy 1, 16, .inl (fun _ => 0))), ((q 74), .inl (cy 1, 16, .inl (fun _ => 0)))] := hD
    refine lv_aload_n S.1 S.2.1 dX12_doubted_5 rfl (lv_at hl 0 rfl) ?_
    refine call_v (wr := []) (runV_C (wc := [((q 0), .inr (11, (mO q 0 0 0 0 0 0 0 0 (-1) 1 0 0 0 0 0 0 0 0 0))), ((q 63), .inl (cy 0, 600, .inl (fun _ => 0))), ((q 64), .inl (cy 0, 600, .inl (fun _ => 0))), ((q 65), .inl (cy 0, 600, .inl (fun _ => 0))), ((q 66), .inl (cy 0, 600, .inl (fun _ => 0))), ((q 67), .inl (cy 0, 97, .inl (fun _ => 0))), ((q 68), .inl (cy 0, 97, .inl (fun _ => 0))), ((q 70), .inl (cy 1, 16, .inl (fun _ => 0))), ((q 71), .inl (cy 0, 16, .inl (fun _ => 0))), ((q 72), .inl (cy 2, 16, .inr (.inl (fun _ => 0)))), ((q 73), .inl (cy 1, 16, .inl (fun _ => 0))), ((q 74), .inl (cy 1, 16, .inl (fun _ => 0)))]) (As := []) (rest := []) S (kX12_findGrounds l D cy q 0) hK hP hD [0, 1, 2, 3, 4, 5, 6, 7, 8, 9, 10, 11] (by decide) rfl 0 11 rfl rfl kw_1946 kw_1948 kw_89 kw_152 kw_1949 okX12_findGrounds rfl (by decide) hl.1 rfl (Nat.le_of_ble_eq_true rfl) dX12_doubted_6 (by decide)) hP hD hS hA [0, 1, 2, 3, 4, 5, 6, 7, 8, 9, 10, 11] [] rfl rfl (by decide) (by decide) (fun u6 H locs w6 hP hD hS => ?_)
    obtain ⟨bn_6, gd_6, cs_6, db_6, kp_6, kn_6⟩ := u6
    have hP : va_P D vwCl [((q 0), .inr (11, (mO q 0 0 0 0 0 0 0 0 (-1) 0 0 0 bn_6 0 0 1 0 0 0))), ((q 70), .inl (cy 1, 16, .inl gd_6)), ((q 71), .inl (cy 0, 16, .inl cs_6)), ((q 72), .inl (cy 2, 16, .inr (.inl db_6))), ((q 73), .inl (cy 1, 16, .inl kp_6)), ((q 74), .inl (cy 1, 16, .inl kn_6))] H := hP
    have hD : va_D A [((q 0), .inr (11, (mO q 0 0 0 0 0 0 0 0 (-1) 0 0 0 bn_6 0 0 1 0 0 0))), ((q 70), .inl (cy 1, 16, .inl gd_6)), ((q 71), .inl (cy 0, 16, .inl cs_6)), ((q 72), .inl (cy 2, 16, .inr (.inl db_6))), ((q 73), .inl (cy 1, 16, .inl kp_6)), ((q 74), .inl (cy 1, 16, .inl kn_6))] := hD
    obtain ⟨hgd, hcs, hdb, hkp, hkn⟩ := w6
    refine lv_iload_n S.1 S.2.1 dX12_doubted_9 rfl (lv_at hl 2 rfl) ?_
    refine lv_istore_n (lv' := [(3, .int p1), (0, .ref (q 0)), (1, .int 0), (2, .int p1)]) S.1 S.2.1 dX12_doubted_10 rfl hl (by decide) rfl (fun ls hl => ?_)
    refine lv_iconst (v := 0) S.1 S.2.1 dX12_doubted_11 (by decide) ?_
    refine lv_istore (lv' := [(4, .int 0), (3, .int p1), (0, .ref (q 0)), (1, .int 0), (2, .int p1)]) S.1 S.2.1 dX12_doubted_12 hl (by decide) rfl (fun ls hl => ?_)
    refine lv_iload S.1 S.2.1 dX12_doubted_14 (lv_at hl 0 rfl) ?_
    refine lv_aload_n S.1 S.2.1 dX12_doubted_16 rfl (lv_at hl 2 rfl) ?_
    refine r_get S hK hP 0 11 rfl rfl inX12 40 (by decide) kw_1550 (v := .int 0) rfl dX12_doubted_17 ?_
    refine r_icmp_ge S 0 0 rfl rfl dX12_doubted_20 (tgt := 74) (by decide) (fun _ => ?_) (fun c => absurd c (by decide))
    refine lv_iconst (v := (-1)) S.1 S.2.1 dX12_doubted_74 (by decide) ?_
    exact ci_ret (u := ()) S hr hlk rfl hK (hP.sub [] rfl) (hD.sub [] (by decide) rfl) hS (rfl) (by decide) (by decide) dX12_doubted_75
  · refine lv_aload_n S.1 S.2.1 dX12_doubted_0 rfl (lv_at hl 0 rfl) ?_
    refine lv_iconst (v := 0) S.1 S.2.1 dX12_doubted_1 (by decide) ?_
    refine r_put S hK hP hD hS 0 11 rfl rfl inX12 0 (by decide) tyX12 tyX12_ok nmX12 kw_1510 (v := .int 0) rfl rfl rfl (Nat.le_of_ble_eq_true rfl) dX12_doubted_2 (fun H locs hP hD hS => ?_)
    have hP : va_P D vwCl [((q 0), .inr (11, (mO q 0 0 0 0 0 0 0 0 (-1) 1 0 0 0 0 0 0 0 0 0))), ((q 63), .inl (cy 0, 600, .inl (fun _ => 0))), ((q 64), .inl (cy 0, 600, .inl (fun _ => 0))), ((q 65), .inl (cy 0, 600, .inl (fun _ => 0))), ((q 66), .inl (cy 0, 600, .inl (fun _ => 0))), ((q 67), .inl (cy 0, 97, .inl (fun _ => 0))), ((q 68), .inl (cy 0, 97, .inl (fun _ => 0))), ((q 70), .inl (cy 1, 16, .inl (fun _ => 0))), ((q 71), .inl (cy 0, 16, .inl (fun _ => 0))), ((q 72), .inl (cy 2, 16, .inr (.inl (fun _ => 0)))), ((q 73), .inl (cy 1, 16, .inl (fun _ => 0))), ((q 74), .inl (cy 1, 16, .inl (fun _ => 0)))] H := hP
    have hD : va_D A [((q 0), .inr (11, (mO q 0 0 0 0 0 0 0 0 (-1) 1 0 0 0 0 0 0 0 0 0))), ((q 63), .inl (cy 0, 600, .inl (fun _ => 0))), ((q 64), .inl (cy 0, 600, .inl (fun _ => 0))), ((q 65), .inl (cy 0, 600, .inl (fun _ => 0))), ((q 66), .inl (cy 0, 600, .inl (fun _ => 0))), ((q 67), .inl (cy 0, 97, .inl (fun _ => 0))), ((q 68), .inl (cy 0, 97, .inl (fun _ => 0))), ((q 70), .inl (cy 1, 16, .inl (fun _ => 0))), ((q 71), .inl (cy 0, 16, .inl (fun _ => 0))), ((q 72), .inl (cy 2, 16, .inr (.inl (fun _ => 0)))), ((q 73), .inl (cy 1, 16, .inl (fun _ => 0))), ((q 74), .inl (cy 1, 16, .inl (fun _ => 0)))] := hD
    refine lv_aload_n S.1 S.2.1 dX12_doubted_5 rfl (lv_at hl 0 rfl) ?_
    refine call_v (wr := []) (runV_C (wc := [((q 0), .inr (11, (mO q 0 0 0 0 0 0 0 0 (-1) 1 0 0 0 0 0 0 0 0 0))), ((q 63), .inl (cy 0, 600, .inl (fun _ => 0))), ((q 64), .inl (cy 0, 600, .inl (fun _ => 0))), ((q 65), .inl (cy 0, 600, .inl (fun _ => 0))), ((q 66), .inl (cy 0, 600, .inl (fun _ => 0))), ((q 67), .inl (cy 0, 97, .inl (fun _ => 0))), ((q 68), .inl (cy 0, 97, .inl (fun _ => 0))), ((q 70), .inl (cy 1, 16, .inl (fun _ => 0))), ((q 71), .inl (cy 0, 16, .inl (fun _ => 0))), ((q 72), .inl (cy 2, 16, .inr (.inl (fun _ => 0)))), ((q 73), .inl (cy 1, 16, .inl (fun _ => 0))), ((q 74), .inl (cy 1, 16, .inl (fun _ => 0)))]) (As := []) (rest := []) S (kX12_findGrounds l D cy q 0) hK hP hD [0, 1, 2, 3, 4, 5, 6, 7, 8, 9, 10, 11] (by decide) rfl 0 11 rfl rfl kw_1946 kw_1948 kw_89 kw_152 kw_1949 okX12_findGrounds rfl (by decide) hl.1 rfl (Nat.le_of_ble_eq_true rfl) dX12_doubted_6 (by decide)) hP hD hS hA [0, 1, 2, 3, 4, 5, 6, 7, 8, 9, 10, 11] [] rfl rfl (by decide) (by decide) (fun u6 H locs w6 hP hD hS => ?_)
    obtain ⟨bn_6, gd_6, cs_6, db_6, kp_6, kn_6⟩ := u6
    have hP : va_P D vwCl [((q 0), .inr (11, (mO q 0 0 0 0 0 0 0 0 (-1) 0 0 0 bn_6 0 0 1 0 0 0))), ((q 70), .inl (cy 1, 16, .inl gd_6)), ((q 71), .inl (cy 0, 16, .inl cs_6)), ((q 72), .inl (cy 2, 16, .inr (.inl db_6))), ((q 73), .inl (cy 1, 16, .inl kp_6)), ((q 74), .inl (cy 1, 16, .inl kn_6))] H := hP
    have hD : va_D A [((q 0), .inr (11, (mO q 0 0 0 0 0 0 0 0 (-1) 0 0 0 bn_6 0 0 1 0 0 0))), ((q 70), .inl (cy 1, 16, .inl gd_6)), ((q 71), .inl (cy 0, 16, .inl cs_6)), ((q 72), .inl (cy 2, 16, .inr (.inl db_6))), ((q 73), .inl (cy 1, 16, .inl kp_6)), ((q 74), .inl (cy 1, 16, .inl kn_6))] := hD
    obtain ⟨hgd, hcs, hdb, hkp, hkn⟩ := w6
    refine lv_iload_n S.1 S.2.1 dX12_doubted_9 rfl (lv_at hl 2 rfl) ?_
    refine lv_istore_n (lv' := [(3, .int p1), (0, .ref (q 0)), (1, .int p0), (2, .int p1)]) S.1 S.2.1 dX12_doubted_10 rfl hl (by decide) rfl (fun ls hl => ?_)
    refine lv_iconst (v := 0) S.1 S.2.1 dX12_doubted_11 (by decide) ?_
    refine lv_istore (lv' := [(4, .int 0), (3, .int p1), (0, .ref (q 0)), (1, .int p0), (2, .int p1)]) S.1 S.2.1 dX12_doubted_12 hl (by decide) rfl (fun ls hl => ?_)
    refine lv_iload S.1 S.2.1 dX12_doubted_14 (lv_at hl 0 rfl) ?_
    refine lv_aload_n S.1 S.2.1 dX12_doubted_16 rfl (lv_at hl 2 rfl) ?_
    refine r_get S hK hP 0 11 rfl rfl inX12 40 (by decide) kw_1550 (v := .int 0) rfl dX12_doubted_17 ?_
    refine r_icmp_ge S 0 0 rfl rfl dX12_doubted_20 (tgt := 74) (by decide) (fun _ => ?_) (fun c => absurd c (by decide))
    refine lv_iconst (v := (-1)) S.1 S.2.1 dX12_doubted_74 (by decide) ?_
    exact ci_ret (u := ()) S hr hlk rfl hK (hP.sub [] rfl) (hD.sub [] (by decide) rfl) hS (rfl) (by decide) (by decide) dX12_doubted_75
set_option maxHeartbeats 4000000 in
set_option maxRecDepth 100000 in
theorem kX12_best (l : Launch) (D : va_G) (cy : Nat → ClassId) (q : Nat → Nat) (p0 : Int32) (z0 : Int) (h0 : p0.toInt = z0) : CI l D cy yX12_best cX12_best 2 (some .int) 6 152 0 0 [.ref (q 0), .int p0] [((q 0), .inr (11, (mO q 0 0 0 0 0 0 0 0 (-1) 1 0 0 0 0 0 0 0 0 0))), ((q 63), .inl (cy 0, 600, .inl (fun _ => 0))), ((q 64), .inl (cy 0, 600, .inl (fun _ => 0))), ((q 65), .inl (cy 0, 600, .inl (fun _ => 0))), ((q 66), .inl (cy 0, 600, .inl (fun _ => 0))), ((q 67), .inl (cy 0, 97, .inl (fun _ => 0))), ((q 68), .inl (cy 0, 97, .inl (fun _ => 0))), ((q 70), .inl (cy 1, 16, .inl (fun _ => 0))), ((q 71), .inl (cy 0, 16, .inl (fun _ => 0))), ((q 72), .inl (cy 2, 16, .inr (.inl (fun _ => 0)))), ((q 73), .inl (cy 1, 16, .inl (fun _ => 0))), ((q 74), .inl (cy 1, 16, .inl (fun _ => 0)))] (fun (v : Int32) (u : Unit) => (v = 1 ∧ z0 = 3) ∨ (v = 0 ∧ 0 ≤ z0 ∧ z0 ≤ 2) ∨ (v = (-1) ∧ ¬ (0 ≤ z0 ∧ z0 ≤ 3))) (fun (u : Unit) => []) := by
  refine ci_go (by decide) (Nat.le_of_ble_eq_true rfl) (fun p e s m below meth c ls A hA S hr hlk hnm hP hK hD hl => ?_)
  have hS : va_S A s.heap s.heap [] := va_S.rf
  have hl : lv_has ls 2 [(0, .ref (q 0)), (1, .int p0)] := hl
  refine lv_aload_n S.1 S.2.1 dX12_best_0 rfl (lv_at hl 0 rfl) ?_
  refine lv_iconst (v := 0) S.1 S.2.1 dX12_best_1 (by decide) ?_
  refine r_put S hK hP hD hS 0 11 rfl rfl inX12 0 (by decide) tyX12 tyX12_ok nmX12 kw_1510 (v := .int 0) rfl rfl rfl (Nat.le_of_ble_eq_true rfl) dX12_best_2 (fun H locs hP hD hS => ?_)
  have hP : va_P D vwCl [((q 0), .inr (11, (mO q 0 0 0 0 0 0 0 0 (-1) 1 0 0 0 0 0 0 0 0 0))), ((q 63), .inl (cy 0, 600, .inl (fun _ => 0))), ((q 64), .inl (cy 0, 600, .inl (fun _ => 0))), ((q 65), .inl (cy 0, 600, .inl (fun _ => 0))), ((q 66), .inl (cy 0, 600, .inl (fun _ => 0))), ((q 67), .inl (cy 0, 97, .inl (fun _ => 0))), ((q 68), .inl (cy 0, 97, .inl (fun _ => 0))), ((q 70), .inl (cy 1, 16, .inl (fun _ => 0))), ((q 71), .inl (cy 0, 16, .inl (fun _ => 0))), ((q 72), .inl (cy 2, 16, .inr (.inl (fun _ => 0)))), ((q 73), .inl (cy 1, 16, .inl (fun _ => 0))), ((q 74), .inl (cy 1, 16, .inl (fun _ => 0)))] H := hP
  have hD : va_D A [((q 0), .inr (11, (mO q 0 0 0 0 0 0 0 0 (-1) 1 0 0 0 0 0 0 0 0 0))), ((q 63), .inl (cy 0, 600, .inl (fun _ => 0))), ((q 64), .inl (cy 0, 600, .inl (fun _ => 0))), ((q 65), .inl (cy 0, 600, .inl (fun _ => 0))), ((q 66), .inl (cy 0, 600, .inl (fun _ => 0))), ((q 67), .inl (cy 0, 97, .inl (fun _ => 0))), ((q 68), .inl (cy 0, 97, .inl (fun _ => 0))), ((q 70), .inl (cy 1, 16, .inl (fun _ => 0))), ((q 71), .inl (cy 0, 16, .inl (fun _ => 0))), ((q 72), .inl (cy 2, 16, .inr (.inl (fun _ => 0)))), ((q 73), .inl (cy 1, 16, .inl (fun _ => 0))), ((q 74), .inl (cy 1, 16, .inl (fun _ => 0)))] := hD
  refine lv_aload_n S.1 S.2.1 dX12_best_5 rfl (lv_at hl 0 rfl) ?_
  refine call_v (wr := []) (runV_C (wc := [((q 0), .inr (11, (mO q 0 0 0 0 0 0 0 0 (-1) 1 0 0 0 0 0 0 0 0 0))), ((q 63), .inl (cy 0, 600, .inl (fun _ => 0))), ((q 64), .inl (cy 0, 600, .inl (fun _ => 0))), ((q 65), .inl (cy 0, 600, .inl (fun _ => 0))), ((q 66), .inl (cy 0, 600, .inl (fun _ => 0))), ((q 67), .inl (cy 0, 97, .inl (fun _ => 0))), ((q 68), .inl (cy 0, 97, .inl (fun _ => 0))), ((q 70), .inl (cy 1, 16, .inl (fun _ => 0))), ((q 71), .inl (cy 0, 16, .inl (fun _ => 0))), ((q 72), .inl (cy 2, 16, .inr (.inl (fun _ => 0)))), ((q 73), .inl (cy 1, 16, .inl (fun _ => 0))), ((q 74), .inl (cy 1, 16, .inl (fun _ => 0)))]) (As := []) (rest := []) S (kX12_findGrounds l D cy q 0) hK hP hD [0, 1, 2, 3, 4, 5, 6, 7, 8, 9, 10, 11] (by decide) rfl 0 11 rfl rfl kw_1946 kw_1948 kw_89 kw_152 kw_1949 okX12_findGrounds rfl (by decide) hl.1 rfl (Nat.le_of_ble_eq_true rfl) dX12_best_6 (by decide)) hP hD hS hA [0, 1, 2, 3, 4, 5, 6, 7, 8, 9, 10, 11] [] rfl rfl (by decide) (by decide) (fun u6 H locs w6 hP hD hS => ?_)
  obtain ⟨bn_6, gd_6, cs_6, db_6, kp_6, kn_6⟩ := u6
  have hP : va_P D vwCl [((q 0), .inr (11, (mO q 0 0 0 0 0 0 0 0 (-1) 0 0 0 bn_6 0 0 1 0 0 0))), ((q 70), .inl (cy 1, 16, .inl gd_6)), ((q 71), .inl (cy 0, 16, .inl cs_6)), ((q 72), .inl (cy 2, 16, .inr (.inl db_6))), ((q 73), .inl (cy 1, 16, .inl kp_6)), ((q 74), .inl (cy 1, 16, .inl kn_6))] H := hP
  have hD : va_D A [((q 0), .inr (11, (mO q 0 0 0 0 0 0 0 0 (-1) 0 0 0 bn_6 0 0 1 0 0 0))), ((q 70), .inl (cy 1, 16, .inl gd_6)), ((q 71), .inl (cy 0, 16, .inl cs_6)), ((q 72), .inl (cy 2, 16, .inr (.inl db_6))), ((q 73), .inl (cy 1, 16, .inl kp_6)), ((q 74), .inl (cy 1, 16, .inl kn_6))] := hD
  obtain ⟨hgd, hcs, hdb, hkp, hkn⟩ := w6
  refine lv_iload_n S.1 S.2.1 dX12_best_9 rfl (lv_at hl 1 rfl) ?_
  refine lv_iconst (v := 3) S.1 S.2.1 dX12_best_10 (by decide) ?_
  refine r_icmp_ne S z0 3 h0 rfl dX12_best_11 (tgt := 19) (by decide) (fun e_11_1 => ?_) (fun e_11_1 => ?_)
  · refine lv_aload_n S.1 S.2.1 dX12_best_19 rfl (lv_at hl 0 rfl) ?_
    refine r_get S hK hP 0 11 rfl rfl inX12 77 (by decide) kw_1587 (v := .int 0) rfl dX12_best_20 ?_
    refine r_if_lt S 0 rfl dX12_best_23 (tgt := 35) (by decide) (fun c => absurd c (by decide)) (fun _ => ?_)
    refine lv_iload_n S.1 S.2.1 dX12_best_26 rfl (lv_at hl 1 rfl) ?_
    refine r_if_lt S z0 h0 dX12_best_27 (tgt := 35) (by decide) (fun e_27_2 => ?_) (fun e_27_2 => ?_)
    · refine lv_iconst (v := (-1)) S.1 S.2.1 dX12_best_35 (by decide) ?_
      refine lv_goto (tgt := 80) S.1 S.2.1 dX12_best_36 (by decide) ?_
      exact ci_ret (u := ()) S hr hlk rfl hK (hP.sub [] rfl) (hD.sub [] (by decide) rfl) hS (Or.inr (Or.inr (⟨rfl, (by omega)⟩))) (by decide) (by decide) dX12_best_80
    · refine lv_iload_n S.1 S.2.1 dX12_best_30 rfl (lv_at hl 1 rfl) ?_
      refine lv_iconst (v := 3) S.1 S.2.1 dX12_best_31 (by decide) ?_
      refine r_icmp_le S z0 3 h0 rfl dX12_best_32 (tgt := 39) (by decide) (fun e_32_3 => ?_) (fun e_32_3 => ?_)
      · refine lv_iload_n S.1 S.2.1 dX12_best_39 rfl (lv_at hl 1 rfl) ?_
        refine r_if_ne S z0 h0 dX12_best_40 (tgt := 50) (by decide) (fun e_40_4 => ?_) (fun e_40_4 => ?_)
        · refine lv_iload_n S.1 S.2.1 dX12_best_50 rfl (lv_at hl 1 rfl) ?_
          refine lv_iconst (v := 1) S.1 S.2.1 dX12_best_51 (by decide) ?_
          refine r_icmp_ne S z0 1 h0 rfl dX12_best_52 (tgt := 67) (by decide) (fun e_52_5 => ?_) (fun e_52_5 => ?_)
          · refine lv_aload_n S.1 S.2.1 dX12_best_67 rfl (lv_at hl 0 rfl) ?_
            refine lv_aload_n S.1 S.2.1 dX12_best_68 rfl (lv_at hl 0 rfl) ?_
            refine r_get S hK hP 0 11 rfl rfl inX12 72 (by decide) kw_1582 (v := .ref (q 72)) rfl dX12_best_69 ?_
            refine lv_aload_n S.1 S.2.1 dX12_best_72 rfl (lv_at hl 0 rfl) ?_
            refine r_get S hK hP 0 11 rfl rfl inX12 77 (by decide) kw_1587 (v := .int 0) rfl dX12_best_73 ?_
            refine r_lald S hK hP 3 2 rfl rfl (0) rfl (by decide) (by decide) (v := 0) hdb dX12_best_76 ?_
            refine call_ri (runV_R (wc := [((q 0), .inr (11, (mO q 0 0 0 0 0 0 0 0 (-1) 0 0 0 bn_6 0 0 1 0 0 0)))]) (As := [.long 0]) (rest := []) S (kX12_bitsOf l D cy q 0 0 bn_6 0 1) hK hP [0] rfl 0 11 rfl rfl kw_2104 kw_2106 kw_123 kw_152 kw_2107 okX12_bitsOf rfl (by decide) hl.1 rfl (Nat.le_of_ble_eq_true rfl) dX12_best_77 (by decide)) (fun v77 w77 => ?_)
            subst w77
            exact ci_ret (u := ()) S hr hlk rfl hK (hP.sub [] rfl) (hD.sub [] (by decide) rfl) hS (Or.inr (Or.inl ⟨rfl, (by omega)⟩)) (by decide) (by decide) dX12_best_80
          · refine lv_aload_n S.1 S.2.1 dX12_best_55 rfl (lv_at hl 0 rfl) ?_
            refine r_get S hK hP 0 11 rfl rfl inX12 71 (by decide) kw_1581 (v := .ref (q 71)) rfl dX12_best_56 ?_
            refine lv_aload_n S.1 S.2.1 dX12_best_59 rfl (lv_at hl 0 rfl) ?_
            refine r_get S hK hP 0 11 rfl rfl inX12 77 (by decide) kw_1587 (v := .int 0) rfl dX12_best_60 ?_
            refine r_iald S hK hP 2 0 rfl rfl (0) rfl (by decide) (by decide) (v := 0) hcs dX12_best_63 ?_
            refine lv_goto (tgt := 80) S.1 S.2.1 dX12_best_64 (by decide) ?_
            exact ci_ret (u := ()) S hr hlk rfl hK (hP.sub [] rfl) (hD.sub [] (by decide) rfl) hS (Or.inr (Or.inl ⟨rfl, (by omega)⟩)) (by decide) (by decide) dX12_best_80
        · refine lv_aload_n S.1 S.2.1 dX12_best_43 rfl (lv_at hl 0 rfl) ?_
          refine r_get S hK hP 0 11 rfl rfl inX12 77 (by decide) kw_1587 (v := .int 0) rfl dX12_best_44 ?_
          refine lv_goto (tgt := 80) S.1 S.2.1 dX12_best_47 (by decide) ?_
          exact ci_ret (u := ()) S hr hlk rfl hK (hP.sub [] rfl) (hD.sub [] (by decide) rfl) hS (Or.inr (Or.inl ⟨rfl, (by omega)⟩)) (by decide) (by decide) dX12_best_80
      · refine lv_iconst (v := (-1)) S.1 S.2.1 dX12_best_35 (by decide) ?_
        refine lv_goto (tgt := 80) S.1 S.2.1 dX12_best_36 (by decide) ?_
        exact ci_ret (u := ()) S hr hlk rfl hK (hP.sub [] rfl) (hD.sub [] (by decide) rfl) hS (Or.inr (Or.inr (⟨rfl, (by omega)⟩))) (by decide) (by decide) dX12_best_80
  · refine lv_aload_n S.1 S.2.1 dX12_best_14 rfl (lv_at hl 0 rfl) ?_
    refine r_get S hK hP 0 11 rfl rfl inX12 78 (by decide) kw_1588 (v := .int 1) rfl dX12_best_15 ?_
    exact ci_ret (u := ()) S hr hlk rfl hK (hP.sub [] rfl) (hD.sub [] (by decide) rfl) hS (Or.inl ⟨rfl, (by omega)⟩) (by decide) (by decide) dX12_best_18
set_option maxHeartbeats 4000000 in
set_option maxRecDepth 100000 in
theorem kX12_kept (l : Launch) (D : va_G) (cy : Nat → ClassId) (q : Nat → Nat) (p0 : Int32) (z0 : Int) (h0 : p0.toInt = z0) : CI l D cy yX12_kept cX12_kept 2 (some .int) 6 152 0 0 [.ref (q 0), .int p0] [((q 0), .inr (11, (mO q 0 0 0 0 0 0 0 0 (-1) 1 0 0 0 0 0 0 0 0 0))), ((q 63), .inl (cy 0, 600, .inl (fun _ => 0))), ((q 64), .inl (cy 0, 600, .inl (fun _ => 0))), ((q 65), .inl (cy 0, 600, .inl (fun _ => 0))), ((q 66), .inl (cy 0, 600, .inl (fun _ => 0))), ((q 67), .inl (cy 0, 97, .inl (fun _ => 0))), ((q 68), .inl (cy 0, 97, .inl (fun _ => 0))), ((q 70), .inl (cy 1, 16, .inl (fun _ => 0))), ((q 71), .inl (cy 0, 16, .inl (fun _ => 0))), ((q 72), .inl (cy 2, 16, .inr (.inl (fun _ => 0)))), ((q 73), .inl (cy 1, 16, .inl (fun _ => 0))), ((q 74), .inl (cy 1, 16, .inl (fun _ => 0)))] (fun (v : Int32) (u : Unit) => (v = 1 ∧ (z0 = 0)) ∨ (v = (-1) ∧ ¬ (z0 = 0))) (fun (u : Unit) => []) := by
  refine ci_go (by decide) (Nat.le_of_ble_eq_true rfl) (fun p e s m below meth c ls A hA S hr hlk hnm hP hK hD hl => ?_)
  have hS : va_S A s.heap s.heap [] := va_S.rf
  have hl : lv_has ls 2 [(0, .ref (q 0)), (1, .int p0)] := hl
  by_cases hz0 : z0 = 0
  · have e0 : p0 = 0 := Int32.toInt_inj.mp (by rw [h0, hz0]; rfl)
    subst e0
    have hl : lv_has ls 2 [(0, .ref (q 0)), (1, .int 0)] := hl
    refine lv_aload_n S.1 S.2.1 dX12_kept_0 rfl (lv_at hl 0 rfl) ?_
    refine lv_iconst (v := 0) S.1 S.2.1 dX12_kept_1 (by decide) ?_
    refine r_put S hK hP hD hS 0 11 rfl rfl inX12 0 (by decide) tyX12 tyX12_ok nmX12 kw_1510 (v := .int 0) rfl rfl rfl (Nat.le_of_ble_eq_true rfl) dX12_kept_2 (fun H locs hP hD hS => ?_)
    have hP : va_P D vwCl [((q 0), .inr (11, (mO q 0 0 0 0 0 0 0 0 (-1) 1 0 0 0 0 0 0 0 0 0))), ((q 63), .inl (cy 0, 600, .inl (fun _ => 0))), ((q 64), .inl (cy 0, 600, .inl (fun _ => 0))), ((q 65), .inl (cy 0, 600, .inl (fun _ => 0))), ((q 66), .inl (cy 0, 600, .inl (fun _ => 0))), ((q 67), .inl (cy 0, 97, .inl (fun _ => 0))), ((q 68), .inl (cy 0, 97, .inl (fun _ => 0))), ((q 70), .inl (cy 1, 16, .inl (fun _ => 0))), ((q 71), .inl (cy 0, 16, .inl (fun _ => 0))), ((q 72), .inl (cy 2, 16, .inr (.inl (fun _ => 0)))), ((q 73), .inl (cy 1, 16, .inl (fun _ => 0))), ((q 74), .inl (cy 1, 16, .inl (fun _ => 0)))] H := hP
    have hD : va_D A [((q 0), .inr (11, (mO q 0 0 0 0 0 0 0 0 (-1) 1 0 0 0 0 0 0 0 0 0))), ((q 63), .inl (cy 0, 600, .inl (fun _ => 0))), ((q 64), .inl (cy 0, 600, .inl (fun _ => 0))), ((q 65), .inl (cy 0, 600, .inl (fun _ => 0))), ((q 66), .inl (cy 0, 600, .inl (fun _ => 0))), ((q 67), .inl (cy 0, 97, .inl (fun _ => 0))), ((q 68), .inl (cy 0, 97, .inl (fun _ => 0))), ((q 70), .inl (cy 1, 16, .inl (fun _ => 0))), ((q 71), .inl (cy 0, 16, .inl (fun _ => 0))), ((q 72), .inl (cy 2, 16, .inr (.inl (fun _ => 0)))), ((q 73), .inl (cy 1, 16, .inl (fun _ => 0))), ((q 74), .inl (cy 1, 16, .inl (fun _ => 0)))] := hD
    refine lv_aload_n S.1 S.2.1 dX12_kept_5 rfl (lv_at hl 0 rfl) ?_
    refine call_v (wr := []) (runV_C (wc := [((q 0), .inr (11, (mO q 0 0 0 0 0 0 0 0 (-1) 1 0 0 0 0 0 0 0 0 0))), ((q 63), .inl (cy 0, 600, .inl (fun _ => 0))), ((q 64), .inl (cy 0, 600, .inl (fun _ => 0))), ((q 65), .inl (cy 0, 600, .inl (fun _ => 0))), ((q 66), .inl (cy 0, 600, .inl (fun _ => 0))), ((q 67), .inl (cy 0, 97, .inl (fun _ => 0))), ((q 68), .inl (cy 0, 97, .inl (fun _ => 0))), ((q 70), .inl (cy 1, 16, .inl (fun _ => 0))), ((q 71), .inl (cy 0, 16, .inl (fun _ => 0))), ((q 72), .inl (cy 2, 16, .inr (.inl (fun _ => 0)))), ((q 73), .inl (cy 1, 16, .inl (fun _ => 0))), ((q 74), .inl (cy 1, 16, .inl (fun _ => 0)))]) (As := []) (rest := []) S (kX12_findGrounds l D cy q 0) hK hP hD [0, 1, 2, 3, 4, 5, 6, 7, 8, 9, 10, 11] (by decide) rfl 0 11 rfl rfl kw_1946 kw_1948 kw_89 kw_152 kw_1949 okX12_findGrounds rfl (by decide) hl.1 rfl (Nat.le_of_ble_eq_true rfl) dX12_kept_6 (by decide)) hP hD hS hA [0, 1, 2, 3, 4, 5, 6, 7, 8, 9, 10, 11] [] rfl rfl (by decide) (by decide) (fun u6 H locs w6 hP hD hS => ?_)
    obtain ⟨bn_6, gd_6, cs_6, db_6, kp_6, kn_6⟩ := u6
    have hP : va_P D vwCl [((q 0), .inr (11, (mO q 0 0 0 0 0 0 0 0 (-1) 0 0 0 bn_6 0 0 1 0 0 0))), ((q 70), .inl (cy 1, 16, .inl gd_6)), ((q 71), .inl (cy 0, 16, .inl cs_6)), ((q 72), .inl (cy 2, 16, .inr (.inl db_6))), ((q 73), .inl (cy 1, 16, .inl kp_6)), ((q 74), .inl (cy 1, 16, .inl kn_6))] H := hP
    have hD : va_D A [((q 0), .inr (11, (mO q 0 0 0 0 0 0 0 0 (-1) 0 0 0 bn_6 0 0 1 0 0 0))), ((q 70), .inl (cy 1, 16, .inl gd_6)), ((q 71), .inl (cy 0, 16, .inl cs_6)), ((q 72), .inl (cy 2, 16, .inr (.inl db_6))), ((q 73), .inl (cy 1, 16, .inl kp_6)), ((q 74), .inl (cy 1, 16, .inl kn_6))] := hD
    obtain ⟨hgd, hcs, hdb, hkp, hkn⟩ := w6
    refine lv_aload_n S.1 S.2.1 dX12_kept_9 rfl (lv_at hl 0 rfl) ?_
    refine lv_iload_n S.1 S.2.1 dX12_kept_10 rfl (lv_at hl 1 rfl) ?_
    refine call_ri (runV_R (wc := [((q 0), .inr (11, (mO q 0 0 0 0 0 0 0 0 (-1) 0 0 0 bn_6 0 0 1 0 0 0)))]) (As := [.int 0]) (rest := []) S (kX12_isSet_a l D cy q 0 0 bn_6 0 1) hK hP [0] rfl 0 11 rfl rfl kw_2092 kw_2094 kw_122 kw_152 kw_2095 okX12_isSet rfl (by decide) hl.1 rfl (Nat.le_of_ble_eq_true rfl) dX12_kept_11 (by decide)) (fun v11 w11 => ?_)
    subst w11
    refine r_if_ne S 1 rfl dX12_kept_14 (tgt := 21) (by decide) (fun _ => ?_) (fun c => absurd c (by decide))
    refine lv_aload_n S.1 S.2.1 dX12_kept_21 rfl (lv_at hl 0 rfl) ?_
    refine r_get S hK hP 0 11 rfl rfl inX12 73 (by decide) kw_1583 (v := .ref (q 73)) rfl dX12_kept_22 ?_
    refine lv_iload_n S.1 S.2.1 dX12_kept_25 rfl (lv_at hl 1 rfl) ?_
    refine r_zald S hK hP 4 1 rfl rfl (0) rfl (by decide) (by decide) (v := 1) hkp dX12_kept_26 ?_
    refine r_if_eq S 1 rfl dX12_kept_27 (tgt := 34) (by decide) (fun c => absurd c (by decide)) (fun _ => ?_)
    refine lv_iconst (v := 1) S.1 S.2.1 dX12_kept_30 (by decide) ?_
    refine lv_goto (tgt := 35) S.1 S.2.1 dX12_kept_31 (by decide) ?_
    exact ci_ret (u := ()) S hr hlk rfl hK (hP.sub [] rfl) (hD.sub [] (by decide) rfl) hS (Or.inl ⟨rfl, (by omega)⟩) (by decide) (by decide) dX12_kept_35
  · refine lv_aload_n S.1 S.2.1 dX12_kept_0 rfl (lv_at hl 0 rfl) ?_
    refine lv_iconst (v := 0) S.1 S.2.1 dX12_kept_1 (by decide) ?_
    refine r_put S hK hP hD hS 0 11 rfl rfl inX12 0 (by decide) tyX12 tyX12_ok nmX12 kw_1510 (v := .int 0) rfl rfl rfl (Nat.le_of_ble_eq_true rfl) dX12_kept_2 (fun H locs hP hD hS => ?_)
    have hP : va_P D vwCl [((q 0), .inr (11, (mO q 0 0 0 0 0 0 0 0 (-1) 1 0 0 0 0 0 0 0 0 0))), ((q 63), .inl (cy 0, 600, .inl (fun _ => 0))), ((q 64), .inl (cy 0, 600, .inl (fun _ => 0))), ((q 65), .inl (cy 0, 600, .inl (fun _ => 0))), ((q 66), .inl (cy 0, 600, .inl (fun _ => 0))), ((q 67), .inl (cy 0, 97, .inl (fun _ => 0))), ((q 68), .inl (cy 0, 97, .inl (fun _ => 0))), ((q 70), .inl (cy 1, 16, .inl (fun _ => 0))), ((q 71), .inl (cy 0, 16, .inl (fun _ => 0))), ((q 72), .inl (cy 2, 16, .inr (.inl (fun _ => 0)))), ((q 73), .inl (cy 1, 16, .inl (fun _ => 0))), ((q 74), .inl (cy 1, 16, .inl (fun _ => 0)))] H := hP
    have hD : va_D A [((q 0), .inr (11, (mO q 0 0 0 0 0 0 0 0 (-1) 1 0 0 0 0 0 0 0 0 0))), ((q 63), .inl (cy 0, 600, .inl (fun _ => 0))), ((q 64), .inl (cy 0, 600, .inl (fun _ => 0))), ((q 65), .inl (cy 0, 600, .inl (fun _ => 0))), ((q 66), .inl (cy 0, 600, .inl (fun _ => 0))), ((q 67), .inl (cy 0, 97, .inl (fun _ => 0))), ((q 68), .inl (cy 0, 97, .inl (fun _ => 0))), ((q 70), .inl (cy 1, 16, .inl (fun _ => 0))), ((q 71), .inl (cy 0, 16, .inl (fun _ => 0))), ((q 72), .inl (cy 2, 16, .inr (.inl (fun _ => 0)))), ((q 73), .inl (cy 1, 16, .inl (fun _ => 0))), ((q 74), .inl (cy 1, 16, .inl (fun _ => 0)))] := hD
    refine lv_aload_n S.1 S.2.1 dX12_kept_5 rfl (lv_at hl 0 rfl) ?_
    refine call_v (wr := []) (runV_C (wc := [((q 0), .inr (11, (mO q 0 0 0 0 0 0 0 0 (-1) 1 0 0 0 0 0 0 0 0 0))), ((q 63), .inl (cy 0, 600, .inl (fun _ => 0))), ((q 64), .inl (cy 0, 600, .inl (fun _ => 0))), ((q 65), .inl (cy 0, 600, .inl (fun _ => 0))), ((q 66), .inl (cy 0, 600, .inl (fun _ => 0))), ((q 67), .inl (cy 0, 97, .inl (fun _ => 0))), ((q 68), .inl (cy 0, 97, .inl (fun _ => 0))), ((q 70), .inl (cy 1, 16, .inl (fun _ => 0))), ((q 71), .inl (cy 0, 16, .inl (fun _ => 0))), ((q 72), .inl (cy 2, 16, .inr (.inl (fun _ => 0)))), ((q 73), .inl (cy 1, 16, .inl (fun _ => 0))), ((q 74), .inl (cy 1, 16, .inl (fun _ => 0)))]) (As := []) (rest := []) S (kX12_findGrounds l D cy q 0) hK hP hD [0, 1, 2, 3, 4, 5, 6, 7, 8, 9, 10, 11] (by decide) rfl 0 11 rfl rfl kw_1946 kw_1948 kw_89 kw_152 kw_1949 okX12_findGrounds rfl (by decide) hl.1 rfl (Nat.le_of_ble_eq_true rfl) dX12_kept_6 (by decide)) hP hD hS hA [0, 1, 2, 3, 4, 5, 6, 7, 8, 9, 10, 11] [] rfl rfl (by decide) (by decide) (fun u6 H locs w6 hP hD hS => ?_)
    obtain ⟨bn_6, gd_6, cs_6, db_6, kp_6, kn_6⟩ := u6
    have hP : va_P D vwCl [((q 0), .inr (11, (mO q 0 0 0 0 0 0 0 0 (-1) 0 0 0 bn_6 0 0 1 0 0 0))), ((q 70), .inl (cy 1, 16, .inl gd_6)), ((q 71), .inl (cy 0, 16, .inl cs_6)), ((q 72), .inl (cy 2, 16, .inr (.inl db_6))), ((q 73), .inl (cy 1, 16, .inl kp_6)), ((q 74), .inl (cy 1, 16, .inl kn_6))] H := hP
    have hD : va_D A [((q 0), .inr (11, (mO q 0 0 0 0 0 0 0 0 (-1) 0 0 0 bn_6 0 0 1 0 0 0))), ((q 70), .inl (cy 1, 16, .inl gd_6)), ((q 71), .inl (cy 0, 16, .inl cs_6)), ((q 72), .inl (cy 2, 16, .inr (.inl db_6))), ((q 73), .inl (cy 1, 16, .inl kp_6)), ((q 74), .inl (cy 1, 16, .inl kn_6))] := hD
    obtain ⟨hgd, hcs, hdb, hkp, hkn⟩ := w6
    refine lv_aload_n S.1 S.2.1 dX12_kept_9 rfl (lv_at hl 0 rfl) ?_
    refine lv_iload_n S.1 S.2.1 dX12_kept_10 rfl (lv_at hl 1 rfl) ?_
    refine call_ri (runV_R (wc := [((q 0), .inr (11, (mO q 0 0 0 0 0 0 0 0 (-1) 0 0 0 bn_6 0 0 1 0 0 0)))]) (As := [.int p0]) (rest := []) S (kX12_isSet_b l D cy q 0 0 bn_6 0 1 p0 z0 h0 (by omega)) hK hP [0] rfl 0 11 rfl rfl kw_2092 kw_2094 kw_122 kw_152 kw_2095 okX12_isSet rfl (by decide) hl.1 rfl (Nat.le_of_ble_eq_true rfl) dX12_kept_11 (by decide)) (fun v11 w11 => ?_)
    subst w11
    refine r_if_ne S 0 rfl dX12_kept_14 (tgt := 21) (by decide) (fun c => absurd c (by decide)) (fun _ => ?_)
    refine lv_iconst (v := (-1)) S.1 S.2.1 dX12_kept_17 (by decide) ?_
    refine lv_goto (tgt := 35) S.1 S.2.1 dX12_kept_18 (by decide) ?_
    exact ci_ret (u := ()) S hr hlk rfl hK (hP.sub [] rfl) (hD.sub [] (by decide) rfl) hS (Or.inr (⟨rfl, (by omega)⟩)) (by decide) (by decide) dX12_kept_35
set_option maxHeartbeats 4000000 in
set_option maxRecDepth 100000 in
theorem kX12_lies (l : Launch) (D : va_G) (cy : Nat → ClassId) (q : Nat → Nat) (p0 : Int32) (p1 : Int32) (p2 : Int32) (z0 : Int) (h0 : p0.toInt = z0) (z1 : Int) (h1 : p1.toInt = z1) (z2 : Int) (h2 : p2.toInt = z2) : CI l D cy yX12_lies cX12_lies 4 (some .int) 6 152 0 0 [.ref (q 0), .int p0, .int p1, .int p2] [((q 0), .inr (11, (mO q 0 0 0 0 0 0 0 0 (-1) 1 0 0 0 0 0 0 0 0 0))), ((q 63), .inl (cy 0, 600, .inl (fun _ => 0))), ((q 64), .inl (cy 0, 600, .inl (fun _ => 0))), ((q 65), .inl (cy 0, 600, .inl (fun _ => 0))), ((q 66), .inl (cy 0, 600, .inl (fun _ => 0))), ((q 67), .inl (cy 0, 97, .inl (fun _ => 0))), ((q 68), .inl (cy 0, 97, .inl (fun _ => 0))), ((q 70), .inl (cy 1, 16, .inl (fun _ => 0))), ((q 71), .inl (cy 0, 16, .inl (fun _ => 0))), ((q 72), .inl (cy 2, 16, .inr (.inl (fun _ => 0)))), ((q 73), .inl (cy 1, 16, .inl (fun _ => 0))), ((q 74), .inl (cy 1, 16, .inl (fun _ => 0)))] (fun (v : Int32) (u : Unit) => (v = 3072 ∧ (0 ≤ z0 ∧ z0 ≤ 11 ∧ 0 ≤ z1 ∧ z1 ≤ 7 ∧ 0 ≤ z2 ∧ z2 ≤ 2000)) ∨ (v = (-1) ∧ ¬ (0 ≤ z0 ∧ z0 ≤ 11 ∧ 0 ≤ z1 ∧ z1 ≤ 7 ∧ 0 ≤ z2 ∧ z2 ≤ 2000))) (fun (u : Unit) => []) := by
  refine ci_go (by decide) (Nat.le_of_ble_eq_true rfl) (fun p e s m below meth c ls A hA S hr hlk hnm hP hK hD hl => ?_)
  have hS : va_S A s.heap s.heap [] := va_S.rf
  have hl : lv_has ls 4 [(0, .ref (q 0)), (1, .int p0), (2, .int p1), (3, .int p2)] := hl
  refine lv_aload_n S.1 S.2.1 dX12_lies_0 rfl (lv_at hl 0 rfl) ?_
  refine lv_iconst (v := 0) S.1 S.2.1 dX12_lies_1 (by decide) ?_
  refine r_put S hK hP hD hS 0 11 rfl rfl inX12 0 (by decide) tyX12 tyX12_ok nmX12 kw_1510 (v := .int 0) rfl rfl rfl (Nat.le_of_ble_eq_true rfl) dX12_lies_2 (fun H locs hP hD hS => ?_)
  have hP : va_P D vwCl [((q 0), .inr (11, (mO q 0 0 0 0 0 0 0 0 (-1) 1 0 0 0 0 0 0 0 0 0))), ((q 63), .inl (cy 0, 600, .inl (fun _ => 0))), ((q 64), .inl (cy 0, 600, .inl (fun _ => 0))), ((q 65), .inl (cy 0, 600, .inl (fun _ => 0))), ((q 66), .inl (cy 0, 600, .inl (fun _ => 0))), ((q 67), .inl (cy 0, 97, .inl (fun _ => 0))), ((q 68), .inl (cy 0, 97, .inl (fun _ => 0))), ((q 70), .inl (cy 1, 16, .inl (fun _ => 0))), ((q 71), .inl (cy 0, 16, .inl (fun _ => 0))), ((q 72), .inl (cy 2, 16, .inr (.inl (fun _ => 0)))), ((q 73), .inl (cy 1, 16, .inl (fun _ => 0))), ((q 74), .inl (cy 1, 16, .inl (fun _ => 0)))] H := hP
  have hD : va_D A [((q 0), .inr (11, (mO q 0 0 0 0 0 0 0 0 (-1) 1 0 0 0 0 0 0 0 0 0))), ((q 63), .inl (cy 0, 600, .inl (fun _ => 0))), ((q 64), .inl (cy 0, 600, .inl (fun _ => 0))), ((q 65), .inl (cy 0, 600, .inl (fun _ => 0))), ((q 66), .inl (cy 0, 600, .inl (fun _ => 0))), ((q 67), .inl (cy 0, 97, .inl (fun _ => 0))), ((q 68), .inl (cy 0, 97, .inl (fun _ => 0))), ((q 70), .inl (cy 1, 16, .inl (fun _ => 0))), ((q 71), .inl (cy 0, 16, .inl (fun _ => 0))), ((q 72), .inl (cy 2, 16, .inr (.inl (fun _ => 0)))), ((q 73), .inl (cy 1, 16, .inl (fun _ => 0))), ((q 74), .inl (cy 1, 16, .inl (fun _ => 0)))] := hD
  refine lv_iload_n S.1 S.2.1 dX12_lies_5 rfl (lv_at hl 1 rfl) ?_
  refine lv_iload_n S.1 S.2.1 dX12_lies_6 rfl (lv_at hl 2 rfl) ?_
  refine call_ri (runS_R (wc := []) (As := [.int p0, .int p1]) (rest := []) S (kX12_isCell l D cy p0 p1 z0 h0 z1 h1) hK hP [] rfl kw_1903 kw_1904 kw_152 kw_1905 okX12_isCell rfl (by decide) hl.1 rfl (Nat.le_of_ble_eq_true rfl) dX12_lies_7 (by decide)) (fun v7 w7 => ?_)
  rcases w7 with ⟨rfl, w7_0_0⟩ | ⟨rfl, w7_1_0⟩
  · refine r_if_eq S 1 rfl dX12_lies_10 (tgt := 24) (by decide) (fun c => absurd c (by decide)) (fun _ => ?_)
    refine lv_iload_n S.1 S.2.1 dX12_lies_13 rfl (lv_at hl 3 rfl) ?_
    refine lv_iconst (v := 0) S.1 S.2.1 dX12_lies_14 (by decide) ?_
    refine lv_sipush (v := 2000) S.1 S.2.1 dX12_lies_15 (by decide) ?_
    refine call_ri (runS_R (wc := []) (As := [.int p2, .int 0, .int 2000]) (rest := []) S (kX12_within l D cy p2 0 2000 z2 h2 0 rfl 2000 rfl) hK hP [] rfl kw_1892 kw_1893 kw_152 kw_1894 okX12_within rfl (by decide) hl.1 rfl (Nat.le_of_ble_eq_true rfl) dX12_lies_18 (by decide)) (fun v18 w18 => ?_)
    rcases w18 with ⟨rfl, w18_0_0⟩ | ⟨rfl, w18_1_0⟩
    · refine r_if_ne S 1 rfl dX12_lies_21 (tgt := 26) (by decide) (fun _ => ?_) (fun c => absurd c (by decide))
      refine lv_aload_n S.1 S.2.1 dX12_lies_26 rfl (lv_at hl 0 rfl) ?_
      refine call_v (wr := []) (runV_C (wc := [((q 0), .inr (11, (mO q 0 0 0 0 0 0 0 0 (-1) 1 0 0 0 0 0 0 0 0 0))), ((q 63), .inl (cy 0, 600, .inl (fun _ => 0))), ((q 64), .inl (cy 0, 600, .inl (fun _ => 0))), ((q 65), .inl (cy 0, 600, .inl (fun _ => 0))), ((q 66), .inl (cy 0, 600, .inl (fun _ => 0))), ((q 67), .inl (cy 0, 97, .inl (fun _ => 0))), ((q 68), .inl (cy 0, 97, .inl (fun _ => 0))), ((q 70), .inl (cy 1, 16, .inl (fun _ => 0))), ((q 71), .inl (cy 0, 16, .inl (fun _ => 0))), ((q 72), .inl (cy 2, 16, .inr (.inl (fun _ => 0)))), ((q 73), .inl (cy 1, 16, .inl (fun _ => 0))), ((q 74), .inl (cy 1, 16, .inl (fun _ => 0)))]) (As := []) (rest := []) S (kX12_findGrounds l D cy q 0) hK hP hD [0, 1, 2, 3, 4, 5, 6, 7, 8, 9, 10, 11] (by decide) rfl 0 11 rfl rfl kw_1946 kw_1948 kw_89 kw_152 kw_1949 okX12_findGrounds rfl (by decide) hl.1 rfl (Nat.le_of_ble_eq_true rfl) dX12_lies_27 (by decide)) hP hD hS hA [0, 1, 2, 3, 4, 5, 6, 7, 8, 9, 10, 11] [] rfl rfl (by decide) (by decide) (fun u27 H locs w27 hP hD hS => ?_)
      obtain ⟨bn_27, gd_27, cs_27, db_27, kp_27, kn_27⟩ := u27
      have hP : va_P D vwCl [((q 0), .inr (11, (mO q 0 0 0 0 0 0 0 0 (-1) 0 0 0 bn_27 0 0 1 0 0 0))), ((q 70), .inl (cy 1, 16, .inl gd_27)), ((q 71), .inl (cy 0, 16, .inl cs_27)), ((q 72), .inl (cy 2, 16, .inr (.inl db_27))), ((q 73), .inl (cy 1, 16, .inl kp_27)), ((q 74), .inl (cy 1, 16, .inl kn_27))] H := hP
      have hD : va_D A [((q 0), .inr (11, (mO q 0 0 0 0 0 0 0 0 (-1) 0 0 0 bn_27 0 0 1 0 0 0))), ((q 70), .inl (cy 1, 16, .inl gd_27)), ((q 71), .inl (cy 0, 16, .inl cs_27)), ((q 72), .inl (cy 2, 16, .inr (.inl db_27))), ((q 73), .inl (cy 1, 16, .inl kp_27)), ((q 74), .inl (cy 1, 16, .inl kn_27))] := hD
      obtain ⟨hgd, hcs, hdb, hkp, hkn⟩ := w27
      refine lv_aload_n S.1 S.2.1 dX12_lies_30 rfl (lv_at hl 0 rfl) ?_
      refine r_get S hK hP 0 11 rfl rfl inX12 78 (by decide) kw_1588 (v := .int 1) rfl dX12_lies_31 ?_
      refine r_if_ne S 1 rfl dX12_lies_34 (tgt := 41) (by decide) (fun _ => ?_) (fun c => absurd c (by decide))
      refine lv_aload_n S.1 S.2.1 dX12_lies_41 rfl (lv_at hl 0 rfl) ?_
      refine lv_bipush (v := 12) S.1 S.2.1 dX12_lies_42 (by decide) ?_
      refine lv_iload_n S.1 S.2.1 dX12_lies_44 rfl (lv_at hl 2 rfl) ?_
      refine r_imul S dX12_lies_45 (v := (12 * p1)) rfl ?_
      refine lv_iload_n S.1 S.2.1 dX12_lies_46 rfl (lv_at hl 1 rfl) ?_
      refine r_iadd S dX12_lies_47 (v := ((12 * p1) + p0)) rfl ?_
      refine lv_iload_n S.1 S.2.1 dX12_lies_48 rfl (lv_at hl 3 rfl) ?_
      refine call_ri (runV_R (wc := [((q 0), .inr (11, (mO q 0 0 0 0 0 0 0 0 (-1) 0 0 0 bn_27 0 0 1 0 0 0))), ((q 73), .inl (cy 1, 16, .inl kp_27)), ((q 74), .inl (cy 1, 16, .inl kn_27))]) (As := [.int ((12 * p1) + p0), .int p2]) (rest := []) S (kX12_mayLieAll l D cy q 0 0 bn_27 0 1 kp_27 kn_27 ((12 * p1) + p0) p2 ((12 * z1) + z0) (zadd (x := (12 * p1)) (y := p0) (X := (12 * z1)) (Y := z0) (zmul (x := 12) (y := p1) (X := 12) (Y := z1) rfl h1 (by omega) (by omega)) h0 (by omega) (by omega)) z2 h2 hkp hkn) hK hP [0, 4, 5] rfl 0 11 rfl rfl kw_2120 kw_2122 kw_124 kw_152 kw_2123 okX12_mayLieAll rfl (by decide) hl.1 rfl (Nat.le_of_ble_eq_true rfl) dX12_lies_49 (by decide)) (fun v49 w49 => ?_)
      subst w49
      exact ci_ret (u := ()) S hr hlk rfl hK (hP.sub [] rfl) (hD.sub [] (by decide) rfl) hS (Or.inl ⟨rfl, (by omega)⟩) (by decide) (by decide) dX12_lies_52
    · refine r_if_ne S 0 rfl dX12_lies_21 (tgt := 26) (by decide) (fun c => absurd c (by decide)) (fun _ => ?_)
      refine lv_iconst (v := (-1)) S.1 S.2.1 dX12_lies_24 (by decide) ?_
      exact ci_ret (u := ()) S hr hlk rfl hK (hP.sub [] rfl) (hD.sub [] (by decide) rfl) hS (Or.inr (⟨rfl, (by omega)⟩)) (by decide) (by decide) dX12_lies_25
  · refine r_if_eq S 0 rfl dX12_lies_10 (tgt := 24) (by decide) (fun _ => ?_) (fun c => absurd c (by decide))
    refine lv_iconst (v := (-1)) S.1 S.2.1 dX12_lies_24 (by decide) ?_
    exact ci_ret (u := ()) S hr hlk rfl hK (hP.sub [] rfl) (hD.sub [] (by decide) rfl) hS (Or.inr (⟨rfl, (by omega)⟩)) (by decide) (by decide) dX12_lies_25
set_option maxHeartbeats 4000000 in
set_option maxRecDepth 100000 in
theorem kX12_line (l : Launch) (D : va_G) (cy : Nat → ClassId) (q : Nat → Nat) (p0 : Int32) (p1 : Int32) (p2 : Int32) (z0 : Int) (h0 : p0.toInt = z0) (z1 : Int) (h1 : p1.toInt = z1) (z2 : Int) (h2 : p2.toInt = z2) : CI l D cy yX12_line cX12_line 10 (some .int) 6 152 0 0 [.ref (q 0), .int p0, .int p1, .int p2] [((q 0), .inr (11, (mO q 0 0 0 0 0 0 0 0 (-1) 1 0 0 0 0 0 0 0 0 0))), ((q 63), .inl (cy 0, 600, .inl (fun _ => 0))), ((q 64), .inl (cy 0, 600, .inl (fun _ => 0))), ((q 65), .inl (cy 0, 600, .inl (fun _ => 0))), ((q 66), .inl (cy 0, 600, .inl (fun _ => 0))), ((q 67), .inl (cy 0, 97, .inl (fun _ => 0))), ((q 68), .inl (cy 0, 97, .inl (fun _ => 0))), ((q 70), .inl (cy 1, 16, .inl (fun _ => 0))), ((q 71), .inl (cy 0, 16, .inl (fun _ => 0))), ((q 72), .inl (cy 2, 16, .inr (.inl (fun _ => 0)))), ((q 73), .inl (cy 1, 16, .inl (fun _ => 0))), ((q 74), .inl (cy 1, 16, .inl (fun _ => 0))), ((q 31), .inl (cy 0, 12, .inl (fun _ => 0)))] (fun (v : Int32) (u : Unit) => (v = 1 ∧ ((0 ≤ z0 ∧ z0 ≤ 11 ∧ 0 ≤ z1 ∧ z1 ≤ 7 ∧ ((z2 = 0 ∧ 0 < z0) ∨ (z2 = 1 ∧ z0 < 11) ∨ (z2 = 2 ∧ 0 < z1) ∨ (z2 = 3 ∧ z1 < 7))))) ∨ (v = (-1) ∧ (¬ (0 ≤ z0 ∧ z0 ≤ 11 ∧ 0 ≤ z1 ∧ z1 ≤ 7 ∧ ((z2 = 0 ∧ 0 < z0) ∨ (z2 = 1 ∧ z0 < 11) ∨ (z2 = 2 ∧ 0 < z1) ∨ (z2 = 3 ∧ z1 < 7)))))) (fun (u : Unit) => []) := by
  refine ci_go (by decide) (Nat.le_of_ble_eq_true rfl) (fun p e s m below meth c ls A hA S hr hlk hnm hP hK hD hl => ?_)
  have hS : va_S A s.heap s.heap [] := va_S.rf
  have hl : lv_has ls 10 [(0, .ref (q 0)), (1, .int p0), (2, .int p1), (3, .int p2)] := hl
  refine lv_aload_n S.1 S.2.1 dX12_line_0 rfl (lv_at hl 0 rfl) ?_
  refine lv_iconst (v := 0) S.1 S.2.1 dX12_line_1 (by decide) ?_
  refine r_put S hK hP hD hS 0 11 rfl rfl inX12 0 (by decide) tyX12 tyX12_ok nmX12 kw_1510 (v := .int 0) rfl rfl rfl (Nat.le_of_ble_eq_true rfl) dX12_line_2 (fun H locs hP hD hS => ?_)
  have hP : va_P D vwCl [((q 0), .inr (11, (mO q 0 0 0 0 0 0 0 0 (-1) 1 0 0 0 0 0 0 0 0 0))), ((q 63), .inl (cy 0, 600, .inl (fun _ => 0))), ((q 64), .inl (cy 0, 600, .inl (fun _ => 0))), ((q 65), .inl (cy 0, 600, .inl (fun _ => 0))), ((q 66), .inl (cy 0, 600, .inl (fun _ => 0))), ((q 67), .inl (cy 0, 97, .inl (fun _ => 0))), ((q 68), .inl (cy 0, 97, .inl (fun _ => 0))), ((q 70), .inl (cy 1, 16, .inl (fun _ => 0))), ((q 71), .inl (cy 0, 16, .inl (fun _ => 0))), ((q 72), .inl (cy 2, 16, .inr (.inl (fun _ => 0)))), ((q 73), .inl (cy 1, 16, .inl (fun _ => 0))), ((q 74), .inl (cy 1, 16, .inl (fun _ => 0))), ((q 31), .inl (cy 0, 12, .inl (fun _ => 0)))] H := hP
  have hD : va_D A [((q 0), .inr (11, (mO q 0 0 0 0 0 0 0 0 (-1) 1 0 0 0 0 0 0 0 0 0))), ((q 63), .inl (cy 0, 600, .inl (fun _ => 0))), ((q 64), .inl (cy 0, 600, .inl (fun _ => 0))), ((q 65), .inl (cy 0, 600, .inl (fun _ => 0))), ((q 66), .inl (cy 0, 600, .inl (fun _ => 0))), ((q 67), .inl (cy 0, 97, .inl (fun _ => 0))), ((q 68), .inl (cy 0, 97, .inl (fun _ => 0))), ((q 70), .inl (cy 1, 16, .inl (fun _ => 0))), ((q 71), .inl (cy 0, 16, .inl (fun _ => 0))), ((q 72), .inl (cy 2, 16, .inr (.inl (fun _ => 0)))), ((q 73), .inl (cy 1, 16, .inl (fun _ => 0))), ((q 74), .inl (cy 1, 16, .inl (fun _ => 0))), ((q 31), .inl (cy 0, 12, .inl (fun _ => 0)))] := hD
  refine lv_iload_n S.1 S.2.1 dX12_line_5 rfl (lv_at hl 1 rfl) ?_
  refine lv_iload_n S.1 S.2.1 dX12_line_6 rfl (lv_at hl 2 rfl) ?_
  refine call_ri (runS_R (wc := []) (As := [.int p0, .int p1]) (rest := []) S (kX12_isCell l D cy p0 p1 z0 h0 z1 h1) hK hP [] rfl kw_1903 kw_1904 kw_152 kw_1905 okX12_isCell rfl (by decide) hl.1 rfl (Nat.le_of_ble_eq_true rfl) dX12_line_7 (by decide)) (fun v7 w7 => ?_)
  rcases w7 with ⟨rfl, w7_0_0⟩ | ⟨rfl, w7_1_0⟩
  · refine r_if_eq S 1 rfl dX12_line_10 (tgt := 35) (by decide) (fun c => absurd c (by decide)) (fun _ => ?_)
    refine lv_iload_n S.1 S.2.1 dX12_line_13 rfl (lv_at hl 3 rfl) ?_
    refine lv_iconst (v := 0) S.1 S.2.1 dX12_line_14 (by decide) ?_
    refine lv_iconst (v := 3) S.1 S.2.1 dX12_line_15 (by decide) ?_
    refine call_ri (runS_R (wc := []) (As := [.int p2, .int 0, .int 3]) (rest := []) S (kX12_within l D cy p2 0 3 z2 h2 0 rfl 3 rfl) hK hP [] rfl kw_1892 kw_1893 kw_152 kw_1894 okX12_within rfl (by decide) hl.1 rfl (Nat.le_of_ble_eq_true rfl) dX12_line_16 (by decide)) (fun v16 w16 => ?_)
    rcases w16 with ⟨rfl, w16_0_0⟩ | ⟨rfl, w16_1_0⟩
    · refine r_if_eq S 1 rfl dX12_line_19 (tgt := 35) (by decide) (fun c => absurd c (by decide)) (fun _ => ?_)
      obtain ⟨cx, hcx, qcx, zcx⟩ := i_nat 12 h0 (by omega) (by omega)
      have hl : lv_has ls 10 [(0, .ref (q 0)), (1, .int (nI cx)), (2, .int p1), (3, .int p2)] := by rw [← qcx]; exact hl
      obtain ⟨cl, hcl, qcl, zcl⟩ := i_nat 8 h1 (by omega) (by omega)
      have hl : lv_has ls 10 [(0, .ref (q 0)), (1, .int (nI cx)), (2, .int (nI cl)), (3, .int p2)] := by rw [← qcl]; exact hl
      refine lv_bipush (v := 12) S.1 S.2.1 dX12_line_22 (by decide) ?_
      refine lv_iload_n S.1 S.2.1 dX12_line_24 rfl (lv_at hl 2 rfl) ?_
      refine r_imul S dX12_line_25 (v := (nI (12 * cl))) (pk_mul (12) (cl)) ?_
      refine lv_iload_n S.1 S.2.1 dX12_line_26 rfl (lv_at hl 1 rfl) ?_
      refine r_iadd S dX12_line_27 (v := (nI ((12 * cl) + cx))) (nI_add ((12 * cl)) (cx)) ?_
      refine lv_iload_n S.1 S.2.1 dX12_line_28 rfl (lv_at hl 3 rfl) ?_
      refine call_ri (runS_R (wc := []) (As := [.int (nI ((12 * cl) + cx)), .int p2]) (rest := []) S (kX12_neighbour l D cy ((12 * cl) + cx) p2 z2 h2 (by omega) (by omega)) hK hP [] rfl kw_2060 kw_2061 kw_152 kw_2062 okX12_neighbour rfl (by decide) hl.1 rfl (Nat.le_of_ble_eq_true rfl) dX12_line_29 (by decide)) (fun v29 w29 => ?_)
      rcases w29 with ⟨rfl, w29_0_0⟩ | ⟨nj_29, rfl, w29_1_0, w29_1_1⟩
      · refine r_if_ge S (-1) rfl dX12_line_32 (tgt := 37) (by decide) (fun c => absurd c (by decide)) (fun _ => ?_)
        refine lv_iconst (v := (-1)) S.1 S.2.1 dX12_line_35 (by decide) ?_
        exact ci_ret (u := ()) S hr hlk rfl hK (hP.sub [] rfl) (hD.sub [] (by decide) rfl) hS (Or.inr (⟨rfl, (by omega)⟩)) (by decide) (by decide) dX12_line_36
      · refine r_if_ge S ((nj_29 : Nat) : Int) (nI_toInt (by omega)) dX12_line_32 (tgt := 37) (by decide) (fun _ => ?_) (fun c => absurd c (by omega))
        refine lv_aload_n S.1 S.2.1 dX12_line_37 rfl (lv_at hl 0 rfl) ?_
        refine call_v (wr := [((q 31), .inl (cy 0, 12, .inl (fun _ => 0)))]) (runV_C (wc := [((q 0), .inr (11, (mO q 0 0 0 0 0 0 0 0 (-1) 1 0 0 0 0 0 0 0 0 0))), ((q 63), .inl (cy 0, 600, .inl (fun _ => 0))), ((q 64), .inl (cy 0, 600, .inl (fun _ => 0))), ((q 65), .inl (cy 0, 600, .inl (fun _ => 0))), ((q 66), .inl (cy 0, 600, .inl (fun _ => 0))), ((q 67), .inl (cy 0, 97, .inl (fun _ => 0))), ((q 68), .inl (cy 0, 97, .inl (fun _ => 0))), ((q 70), .inl (cy 1, 16, .inl (fun _ => 0))), ((q 71), .inl (cy 0, 16, .inl (fun _ => 0))), ((q 72), .inl (cy 2, 16, .inr (.inl (fun _ => 0)))), ((q 73), .inl (cy 1, 16, .inl (fun _ => 0))), ((q 74), .inl (cy 1, 16, .inl (fun _ => 0)))]) (As := []) (rest := []) S (kX12_findGrounds l D cy q 0) hK hP hD [0, 1, 2, 3, 4, 5, 6, 7, 8, 9, 10, 11] (by decide) rfl 0 11 rfl rfl kw_1946 kw_1948 kw_89 kw_152 kw_1949 okX12_findGrounds rfl (by decide) hl.1 rfl (Nat.le_of_ble_eq_true rfl) dX12_line_38 (by decide)) hP hD hS hA [0, 1, 2, 3, 4, 5, 6, 7, 8, 9, 10, 11] [12] rfl rfl (by decide) (by decide) (fun u38 H locs w38 hP hD hS => ?_)
        obtain ⟨bn_38, gd_38, cs_38, db_38, kp_38, kn_38⟩ := u38
        have hP : va_P D vwCl [((q 31), .inl (cy 0, 12, .inl (fun _ => 0))), ((q 0), .inr (11, (mO q 0 0 0 0 0 0 0 0 (-1) 0 0 0 bn_38 0 0 1 0 0 0))), ((q 70), .inl (cy 1, 16, .inl gd_38)), ((q 71), .inl (cy 0, 16, .inl cs_38)), ((q 72), .inl (cy 2, 16, .inr (.inl db_38))), ((q 73), .inl (cy 1, 16, .inl kp_38)), ((q 74), .inl (cy 1, 16, .inl kn_38))] H := hP
        have hD : va_D A [((q 31), .inl (cy 0, 12, .inl (fun _ => 0))), ((q 0), .inr (11, (mO q 0 0 0 0 0 0 0 0 (-1) 0 0 0 bn_38 0 0 1 0 0 0))), ((q 70), .inl (cy 1, 16, .inl gd_38)), ((q 71), .inl (cy 0, 16, .inl cs_38)), ((q 72), .inl (cy 2, 16, .inr (.inl db_38))), ((q 73), .inl (cy 1, 16, .inl kp_38)), ((q 74), .inl (cy 1, 16, .inl kn_38))] := hD
        obtain ⟨hgd, hcs, hdb, hkp, hkn⟩ := w38
        refine lv_aload_n S.1 S.2.1 dX12_line_41 rfl (lv_at hl 0 rfl) ?_
        refine r_get S hK hP 1 11 rfl rfl inX12 78 (by decide) kw_1588 (v := .int 1) rfl dX12_line_42 ?_
        refine r_if_ne S 1 rfl dX12_line_45 (tgt := 50) (by decide) (fun _ => ?_) (fun c => absurd c (by decide))
        refine lv_iconst (v := 0) S.1 S.2.1 dX12_line_50 (by decide) ?_
        refine lv_istore (lv' := [(4, .int 0), (0, .ref (q 0)), (1, .int (nI cx)), (2, .int (nI cl)), (3, .int p2)]) S.1 S.2.1 dX12_line_51 hl (by decide) rfl (fun ls hl => ?_)
        refine lv_iconst (v := 0) S.1 S.2.1 dX12_line_53 (by decide) ?_
        refine lv_istore (lv' := [(5, .int 0), (4, .int 0), (0, .ref (q 0)), (1, .int (nI cx)), (2, .int (nI cl)), (3, .int p2)]) S.1 S.2.1 dX12_line_54 hl (by decide) rfl (fun ls hl => ?_)
        refine lv_iconst (v := 0) S.1 S.2.1 dX12_line_56 (by decide) ?_
        refine lv_istore (lv' := [(6, .int 0), (5, .int 0), (4, .int 0), (0, .ref (q 0)), (1, .int (nI cx)), (2, .int (nI cl)), (3, .int p2)]) S.1 S.2.1 dX12_line_57 hl (by decide) rfl (fun ls hl => ?_)
        refine lv_iconst (v := 0) S.1 S.2.1 dX12_line_59 (by decide) ?_
        refine lv_istore (lv' := [(7, .int 0), (6, .int 0), (5, .int 0), (4, .int 0), (0, .ref (q 0)), (1, .int (nI cx)), (2, .int (nI cl)), (3, .int p2)]) S.1 S.2.1 dX12_line_60 hl (by decide) rfl (fun ls hl => ?_)
        refine lv_iload S.1 S.2.1 dX12_line_62 (lv_at hl 0 rfl) ?_
        refine lv_iconst (v := 1) S.1 S.2.1 dX12_line_64 (by decide) ?_
        refine lv_aload_n S.1 S.2.1 dX12_line_65 rfl (lv_at hl 4 rfl) ?_
        refine r_get S hK hP 1 11 rfl rfl inX12 57 (by decide) kw_1567 (v := .int 0) rfl dX12_line_66 ?_
        refine r_ishl S dX12_line_69 (v := 1) (by decide) ?_
        refine r_icmp_ge S 0 1 rfl rfl dX12_line_70 (tgt := 199) (by decide) (fun c => absurd c (by decide)) (fun _ => ?_)
        refine lv_aload_n S.1 S.2.1 dX12_line_73 rfl (lv_at hl 4 rfl) ?_
        refine r_get S hK hP 1 11 rfl rfl inX12 73 (by decide) kw_1583 (v := .ref (q 73)) rfl dX12_line_74 ?_
        refine lv_iload S.1 S.2.1 dX12_line_77 (lv_at hl 0 rfl) ?_
        refine r_zald S hK hP 5 1 rfl rfl (0) rfl (by decide) (by decide) (v := 1) hkp dX12_line_79 ?_
        refine r_if_eq S 1 rfl dX12_line_80 (tgt := 193) (by decide) (fun c => absurd c (by decide)) (fun _ => ?_)
        refine lv_aload_n S.1 S.2.1 dX12_line_83 rfl (lv_at hl 4 rfl) ?_
        refine lv_iload S.1 S.2.1 dX12_line_84 (lv_at hl 0 rfl) ?_
        refine lv_bipush (v := 12) S.1 S.2.1 dX12_line_86 (by decide) ?_
        refine lv_iload_n S.1 S.2.1 dX12_line_88 rfl (lv_at hl 6 rfl) ?_
        refine r_imul S dX12_line_89 (v := (nI (12 * cl))) (pk_mul (12) (cl)) ?_
        refine lv_iload_n S.1 S.2.1 dX12_line_90 rfl (lv_at hl 5 rfl) ?_
        refine r_iadd S dX12_line_91 (v := (nI ((12 * cl) + cx))) (nI_add ((12 * cl)) (cx)) ?_
        refine lv_iconst (v := 0) S.1 S.2.1 dX12_line_92 (by decide) ?_
        refine call_ri (runV_R (wc := [((q 0), .inr (11, (mO q 0 0 0 0 0 0 0 0 (-1) 0 0 0 bn_38 0 0 1 0 0 0))), ((q 74), .inl (cy 1, 16, .inl kn_38))]) (As := [.int 0, .int (nI ((12 * cl) + cx)), .int 0]) (rest := []) S (kX12_mayLie l D cy q 0 0 bn_38 0 1 kn_38 (nI ((12 * cl) + cx)) 0 (((12 * cl) + cx : Nat) : Int) (nI_toInt (by omega)) 0 rfl hkn) hK hP [1, 6] rfl 0 11 rfl rfl kw_2124 kw_2126 kw_125 kw_152 kw_2127 okX12_mayLie rfl (by decide) hl.1 rfl (Nat.le_of_ble_eq_true rfl) dX12_line_93 (by decide)) (fun v93 w93 => ?_)
        subst w93
        refine lv_istore (lv' := [(8, .int 3072), (7, .int 0), (6, .int 0), (5, .int 0), (4, .int 0), (0, .ref (q 0)), (1, .int (nI cx)), (2, .int (nI cl)), (3, .int p2)]) S.1 S.2.1 dX12_line_96 hl (by decide) rfl (fun ls hl => ?_)
        refine lv_aload_n S.1 S.2.1 dX12_line_98 rfl (lv_at hl 5 rfl) ?_
        refine lv_iload S.1 S.2.1 dX12_line_99 (lv_at hl 1 rfl) ?_
        refine lv_bipush (v := 12) S.1 S.2.1 dX12_line_101 (by decide) ?_
        refine lv_iload_n S.1 S.2.1 dX12_line_103 rfl (lv_at hl 7 rfl) ?_
        refine r_imul S dX12_line_104 (v := (nI (12 * cl))) (pk_mul (12) (cl)) ?_
        refine lv_iload_n S.1 S.2.1 dX12_line_105 rfl (lv_at hl 6 rfl) ?_
        refine r_iadd S dX12_line_106 (v := (nI ((12 * cl) + cx))) (nI_add ((12 * cl)) (cx)) ?_
        refine lv_iload_n S.1 S.2.1 dX12_line_107 rfl (lv_at hl 8 rfl) ?_
        refine call_ri (runS_R (wc := []) (As := [.int (nI ((12 * cl) + cx)), .int p2]) (rest := [.int 0, .ref (q 0)]) S (kX12_neighbour l D cy ((12 * cl) + cx) p2 z2 h2 (by omega) (by omega)) hK hP [] rfl kw_2060 kw_2061 kw_152 kw_2062 okX12_neighbour rfl (by decide) hl.1 rfl (Nat.le_of_ble_eq_true rfl) dX12_line_108 (by decide)) (fun v108 w108 => ?_)
        rcases w108 with ⟨rfl, w108_0_0⟩ | ⟨nj_108, rfl, w108_1_0, w108_1_1⟩
        · refine lv_iconst (v := 0) S.1 S.2.1 dX12_line_111 (by decide) ?_
          refine call_ri (runV_R (wc := [((q 0), .inr (11, (mO q 0 0 0 0 0 0 0 0 (-1) 0 0 0 bn_38 0 0 1 0 0 0))), ((q 74), .inl (cy 1, 16, .inl kn_38))]) (As := [.int 0, .int (-1), .int 0]) (rest := []) S (kX12_mayLie l D cy q 0 0 bn_38 0 1 kn_38 (-1) 0 (-1) rfl 0 rfl hkn) hK hP [1, 6] rfl 0 11 rfl rfl kw_2124 kw_2126 kw_125 kw_152 kw_2127 okX12_mayLie rfl (by decide) hl.1 rfl (Nat.le_of_ble_eq_true rfl) dX12_line_112 (by decide)) (fun v112 w112 => ?_)
          subst w112
          refine lv_istore (lv' := [(9, .int 3072), (8, .int 3072), (7, .int 0), (6, .int 0), (5, .int 0), (4, .int 0), (0, .ref (q 0)), (1, .int (nI cx)), (2, .int (nI cl)), (3, .int p2)]) S.1 S.2.1 dX12_line_115 hl (by decide) rfl (fun ls hl => ?_)
          refine lv_iload S.1 S.2.1 dX12_line_117 (lv_at hl 5 rfl) ?_
          refine lv_iload S.1 S.2.1 dX12_line_119 (lv_at hl 1 rfl) ?_
          refine call_ri (runS_R (wc := []) (As := [.int 3072]) (rest := [.int 0]) S (kX12_isOne l D cy) hK hP [] rfl kw_2136 kw_2137 kw_152 kw_2138 okX12_isOne rfl (by decide) hl.1 rfl (Nat.le_of_ble_eq_true rfl) dX12_line_121 (by decide)) (fun v121 w121 => ?_)
          subst w121
          refine r_if_eq S 0 rfl dX12_line_124 (tgt := 146) (by decide) (fun _ => ?_) (fun c => absurd c (by decide))
          refine lv_iconst (v := 0) S.1 S.2.1 dX12_line_146 (by decide) ?_
          refine r_iadd S dX12_line_147 (v := 0) (by decide) ?_
          refine lv_istore (lv' := [(4, .int 0), (9, .int 3072), (8, .int 3072), (7, .int 0), (6, .int 0), (5, .int 0), (0, .ref (q 0)), (1, .int (nI cx)), (2, .int (nI cl)), (3, .int p2)]) S.1 S.2.1 dX12_line_148 hl (by decide) rfl (fun ls hl => ?_)
          refine lv_iload S.1 S.2.1 dX12_line_150 (lv_at hl 5 rfl) ?_
          refine lv_iload S.1 S.2.1 dX12_line_152 (lv_at hl 2 rfl) ?_
          refine lv_iload S.1 S.2.1 dX12_line_154 (lv_at hl 1 rfl) ?_
          refine r_iand S dX12_line_156 (v := 3072) (by decide) ?_
          refine r_if_ne S 3072 rfl dX12_line_157 (tgt := 164) (by decide) (fun _ => ?_) (fun c => absurd c (by decide))
          refine lv_iconst (v := 0) S.1 S.2.1 dX12_line_164 (by decide) ?_
          refine r_iadd S dX12_line_165 (v := 0) (by decide) ?_
          refine lv_istore (lv' := [(5, .int 0), (4, .int 0), (9, .int 3072), (8, .int 3072), (7, .int 0), (6, .int 0), (0, .ref (q 0)), (1, .int (nI cx)), (2, .int (nI cl)), (3, .int p2)]) S.1 S.2.1 dX12_line_166 hl (by decide) rfl (fun ls hl => ?_)
          refine lv_iload S.1 S.2.1 dX12_line_168 (lv_at hl 5 rfl) ?_
          refine lv_iload S.1 S.2.1 dX12_line_170 (lv_at hl 3 rfl) ?_
          refine call_ri (runS_R (wc := []) (As := [.int 3072]) (rest := [.int 0]) S (kX12_isOne l D cy) hK hP [] rfl kw_2136 kw_2137 kw_152 kw_2138 okX12_isOne rfl (by decide) hl.1 rfl (Nat.le_of_ble_eq_true rfl) dX12_line_172 (by decide)) (fun v172 w172 => ?_)
          subst w172
          refine r_if_eq S 0 rfl dX12_line_175 (tgt := 189) (by decide) (fun _ => ?_) (fun c => absurd c (by decide))
          refine lv_iconst (v := 0) S.1 S.2.1 dX12_line_189 (by decide) ?_
          refine r_iadd S dX12_line_190 (v := 0) (by decide) ?_
          refine lv_istore (lv' := [(6, .int 0), (5, .int 0), (4, .int 0), (9, .int 3072), (8, .int 3072), (7, .int 0), (0, .ref (q 0)), (1, .int (nI cx)), (2, .int (nI cl)), (3, .int p2)]) S.1 S.2.1 dX12_line_191 hl (by decide) rfl (fun ls hl => ?_)
          refine lv_iinc (v := 1) (lv' := [(7, .int 1), (6, .int 0), (5, .int 0), (4, .int 0), (9, .int 3072), (8, .int 3072), (0, .ref (q 0)), (1, .int (nI cx)), (2, .int (nI cl)), (3, .int p2)]) S.1 S.2.1 dX12_line_193 hl (k := 5) rfl (by decide) (by decide) rfl (fun ls hl => ?_)
          refine lv_goto (tgt := 62) S.1 S.2.1 dX12_line_196 (by decide) ?_
          refine lv_iload S.1 S.2.1 dX12_line_62 (lv_at hl 0 rfl) ?_
          refine lv_iconst (v := 1) S.1 S.2.1 dX12_line_64 (by decide) ?_
          refine lv_aload_n S.1 S.2.1 dX12_line_65 rfl (lv_at hl 6 rfl) ?_
          refine r_get S hK hP 1 11 rfl rfl inX12 57 (by decide) kw_1567 (v := .int 0) rfl dX12_line_66 ?_
          refine r_ishl S dX12_line_69 (v := 1) (by decide) ?_
          refine r_icmp_ge S 1 1 rfl rfl dX12_line_70 (tgt := 199) (by decide) (fun _ => ?_) (fun c => absurd c (by decide))
          refine lv_iconst (v := 0) S.1 S.2.1 dX12_line_199 (by decide) ?_
          refine lv_istore (lv' := [(7, .int 0), (6, .int 0), (5, .int 0), (4, .int 0), (9, .int 3072), (8, .int 3072), (0, .ref (q 0)), (1, .int (nI cx)), (2, .int (nI cl)), (3, .int p2)]) S.1 S.2.1 dX12_line_200 hl (by decide) rfl (fun ls hl => ?_)
          refine loopN (σ := (Nat → Int32)) 202 12 (fun k xs9 => [((q 31), .inl (cy 0, 12, .inl (xs9))), ((q 0), .inr (11, (mO q 0 0 0 0 0 0 0 0 (-1) 0 0 0 bn_38 0 0 1 0 0 0))), ((q 70), .inl (cy 1, 16, .inl gd_38)), ((q 71), .inl (cy 0, 16, .inl cs_38)), ((q 72), .inl (cy 2, 16, .inr (.inl db_38))), ((q 73), .inl (cy 1, 16, .inl kp_38)), ((q 74), .inl (cy 1, 16, .inl kn_38))]) (fun k xs9 => [(7, .int (nI (k))), (6, .int 0), (5, .int 0), (4, .int 0), (9, .int 3072), (8, .int 3072), (0, .ref (q 0)), (1, .int (nI cx)), (2, .int (nI cl)), (3, .int p2)]) (fun k xs9 => True) (fun xs9 hJ H locs ls hP hD hS hl => ?_) (fun k xs9 hk hJ H locs ls hP hD hS hl ih => ?_) (fun _ => 0) trivial (hP.sub [0, 1, 2, 3, 4, 5, 6] rfl) (hD.sub [0, 1, 2, 3, 4, 5, 6] (by decide) rfl) hS (lv_sub hl [0, 1, 2, 3, 4, 5, 6, 7, 8, 9] rfl)
          · obtain ⟨g9, rfl⟩ : ∃ z, z = xs9 := ⟨_, rfl⟩
            have hP : va_P D vwCl [((q 31), .inl (cy 0, 12, .inl g9)), ((q 0), .inr (11, (mO q 0 0 0 0 0 0 0 0 (-1) 0 0 0 bn_38 0 0 1 0 0 0))), ((q 70), .inl (cy 1, 16, .inl gd_38)), ((q 71), .inl (cy 0, 16, .inl cs_38)), ((q 72), .inl (cy 2, 16, .inr (.inl db_38))), ((q 73), .inl (cy 1, 16, .inl kp_38)), ((q 74), .inl (cy 1, 16, .inl kn_38))] H := hP
            have hD : va_D A [((q 31), .inl (cy 0, 12, .inl g9)), ((q 0), .inr (11, (mO q 0 0 0 0 0 0 0 0 (-1) 0 0 0 bn_38 0 0 1 0 0 0))), ((q 70), .inl (cy 1, 16, .inl gd_38)), ((q 71), .inl (cy 0, 16, .inl cs_38)), ((q 72), .inl (cy 2, 16, .inr (.inl db_38))), ((q 73), .inl (cy 1, 16, .inl kp_38)), ((q 74), .inl (cy 1, 16, .inl kn_38))] := hD
            have hl : lv_has ls 10 [(7, .int 12), (6, .int 0), (5, .int 0), (4, .int 0), (9, .int 3072), (8, .int 3072), (0, .ref (q 0)), (1, .int (nI cx)), (2, .int (nI cl)), (3, .int p2)] := hl
            refine lv_iload S.1 S.2.1 dX12_line_202 (lv_at hl 0 rfl) ?_
            refine lv_bipush (v := 12) S.1 S.2.1 dX12_line_204 (by decide) ?_
            refine r_icmp_ge S 12 12 rfl rfl dX12_line_206 (tgt := 223) (by decide) (fun _ => ?_) (fun c => absurd c (by decide))
            refine lv_aload_n S.1 S.2.1 dX12_line_223 rfl (lv_at hl 6 rfl) ?_
            refine r_get S hK hP 1 11 rfl rfl inX12 31 (by decide) kw_1541 (v := .ref (q 31)) rfl dX12_line_224 ?_
            refine lv_bipush (v := 8) S.1 S.2.1 dX12_line_227 (by decide) ?_
            refine lv_sipush (v := 1000) S.1 S.2.1 dX12_line_229 (by decide) ?_
            refine lv_iload S.1 S.2.1 dX12_line_232 (lv_at hl 3 rfl) ?_
            refine r_imul S dX12_line_234 (v := 0) (by decide) ?_
            refine lv_aload_n S.1 S.2.1 dX12_line_235 rfl (lv_at hl 6 rfl) ?_
            refine r_get S hK hP 1 11 rfl rfl inX12 78 (by decide) kw_1588 (v := .int 1) rfl dX12_line_236 ?_
            refine r_idiv S dX12_line_239 (by decide) (v := 0) (by decide) ?_
            refine r_iast S hK hP hD hS 0 0 rfl rfl (8) rfl (by decide) (by decide) dX12_line_240 (fun H locs hP hD hS => ?_)
            have hP : va_P D vwCl [((q 31), .inl (cy 0, 12, .inl (upd g9 (8) 0))), ((q 0), .inr (11, (mO q 0 0 0 0 0 0 0 0 (-1) 0 0 0 bn_38 0 0 1 0 0 0))), ((q 70), .inl (cy 1, 16, .inl gd_38)), ((q 71), .inl (cy 0, 16, .inl cs_38)), ((q 72), .inl (cy 2, 16, .inr (.inl db_38))), ((q 73), .inl (cy 1, 16, .inl kp_38)), ((q 74), .inl (cy 1, 16, .inl kn_38))] H := hP
            have hD : va_D A [((q 31), .inl (cy 0, 12, .inl (upd g9 (8) 0))), ((q 0), .inr (11, (mO q 0 0 0 0 0 0 0 0 (-1) 0 0 0 bn_38 0 0 1 0 0 0))), ((q 70), .inl (cy 1, 16, .inl gd_38)), ((q 71), .inl (cy 0, 16, .inl cs_38)), ((q 72), .inl (cy 2, 16, .inr (.inl db_38))), ((q 73), .inl (cy 1, 16, .inl kp_38)), ((q 74), .inl (cy 1, 16, .inl kn_38))] := hD
            refine lv_aload_n S.1 S.2.1 dX12_line_241 rfl (lv_at hl 6 rfl) ?_
            refine r_get S hK hP 1 11 rfl rfl inX12 31 (by decide) kw_1541 (v := .ref (q 31)) rfl dX12_line_242 ?_
            refine lv_bipush (v := 9) S.1 S.2.1 dX12_line_245 (by decide) ?_
            refine lv_sipush (v := 1000) S.1 S.2.1 dX12_line_247 (by decide) ?_
            refine lv_iload S.1 S.2.1 dX12_line_250 (lv_at hl 2 rfl) ?_
            refine r_imul S dX12_line_252 (v := 0) (by decide) ?_
            refine lv_aload_n S.1 S.2.1 dX12_line_253 rfl (lv_at hl 6 rfl) ?_
            refine r_get S hK hP 1 11 rfl rfl inX12 78 (by decide) kw_1588 (v := .int 1) rfl dX12_line_254 ?_
            refine r_idiv S dX12_line_257 (by decide) (v := 0) (by decide) ?_
            refine r_iast S hK hP hD hS 0 0 rfl rfl (9) rfl (by decide) (by decide) dX12_line_258 (fun H locs hP hD hS => ?_)
            have hP : va_P D vwCl [((q 31), .inl (cy 0, 12, .inl (upd (upd g9 (8) 0) (9) 0))), ((q 0), .inr (11, (mO q 0 0 0 0 0 0 0 0 (-1) 0 0 0 bn_38 0 0 1 0 0 0))), ((q 70), .inl (cy 1, 16, .inl gd_38)), ((q 71), .inl (cy 0, 16, .inl cs_38)), ((q 72), .inl (cy 2, 16, .inr (.inl db_38))), ((q 73), .inl (cy 1, 16, .inl kp_38)), ((q 74), .inl (cy 1, 16, .inl kn_38))] H := hP
            have hD : va_D A [((q 31), .inl (cy 0, 12, .inl (upd (upd g9 (8) 0) (9) 0))), ((q 0), .inr (11, (mO q 0 0 0 0 0 0 0 0 (-1) 0 0 0 bn_38 0 0 1 0 0 0))), ((q 70), .inl (cy 1, 16, .inl gd_38)), ((q 71), .inl (cy 0, 16, .inl cs_38)), ((q 72), .inl (cy 2, 16, .inr (.inl db_38))), ((q 73), .inl (cy 1, 16, .inl kp_38)), ((q 74), .inl (cy 1, 16, .inl kn_38))] := hD
            refine lv_aload_n S.1 S.2.1 dX12_line_259 rfl (lv_at hl 6 rfl) ?_
            refine r_get S hK hP 1 11 rfl rfl inX12 31 (by decide) kw_1541 (v := .ref (q 31)) rfl dX12_line_260 ?_
            refine lv_bipush (v := 10) S.1 S.2.1 dX12_line_263 (by decide) ?_
            refine lv_sipush (v := 1000) S.1 S.2.1 dX12_line_265 (by decide) ?_
            refine lv_iload S.1 S.2.1 dX12_line_268 (lv_at hl 1 rfl) ?_
            refine r_imul S dX12_line_270 (v := 0) (by decide) ?_
            refine lv_aload_n S.1 S.2.1 dX12_line_271 rfl (lv_at hl 6 rfl) ?_
            refine r_get S hK hP 1 11 rfl rfl inX12 78 (by decide) kw_1588 (v := .int 1) rfl dX12_line_272 ?_
            refine r_idiv S dX12_line_275 (by decide) (v := 0) (by decide) ?_
            refine r_iast S hK hP hD hS 0 0 rfl rfl (10) rfl (by decide) (by decide) dX12_line_276 (fun H locs hP hD hS => ?_)
            have hP : va_P D vwCl [((q 31), .inl (cy 0, 12, .inl (upd (upd (upd g9 (8) 0) (9) 0) (10) 0))), ((q 0), .inr (11, (mO q 0 0 0 0 0 0 0 0 (-1) 0 0 0 bn_38 0 0 1 0 0 0))), ((q 70), .inl (cy 1, 16, .inl gd_38)), ((q 71), .inl (cy 0, 16, .inl cs_38)), ((q 72), .inl (cy 2, 16, .inr (.inl db_38))), ((q 73), .inl (cy 1, 16, .inl kp_38)), ((q 74), .inl (cy 1, 16, .inl kn_38))] H := hP
            have hD : va_D A [((q 31), .inl (cy 0, 12, .inl (upd (upd (upd g9 (8) 0) (9) 0) (10) 0))), ((q 0), .inr (11, (mO q 0 0 0 0 0 0 0 0 (-1) 0 0 0 bn_38 0 0 1 0 0 0))), ((q 70), .inl (cy 1, 16, .inl gd_38)), ((q 71), .inl (cy 0, 16, .inl cs_38)), ((q 72), .inl (cy 2, 16, .inr (.inl db_38))), ((q 73), .inl (cy 1, 16, .inl kp_38)), ((q 74), .inl (cy 1, 16, .inl kn_38))] := hD
            refine lv_aload_n S.1 S.2.1 dX12_line_277 rfl (lv_at hl 6 rfl) ?_
            refine r_get S hK hP 1 11 rfl rfl inX12 31 (by decide) kw_1541 (v := .ref (q 31)) rfl dX12_line_278 ?_
            refine lv_bipush (v := 11) S.1 S.2.1 dX12_line_281 (by decide) ?_
            refine lv_aload_n S.1 S.2.1 dX12_line_283 rfl (lv_at hl 6 rfl) ?_
            refine r_get S hK hP 1 11 rfl rfl inX12 78 (by decide) kw_1588 (v := .int 1) rfl dX12_line_284 ?_
            refine r_iast S hK hP hD hS 0 0 rfl rfl (11) rfl (by decide) (by decide) dX12_line_287 (fun H locs hP hD hS => ?_)
            have hP : va_P D vwCl [((q 31), .inl (cy 0, 12, .inl (upd (upd (upd (upd g9 (8) 0) (9) 0) (10) 0) (11) 1))), ((q 0), .inr (11, (mO q 0 0 0 0 0 0 0 0 (-1) 0 0 0 bn_38 0 0 1 0 0 0))), ((q 70), .inl (cy 1, 16, .inl gd_38)), ((q 71), .inl (cy 0, 16, .inl cs_38)), ((q 72), .inl (cy 2, 16, .inr (.inl db_38))), ((q 73), .inl (cy 1, 16, .inl kp_38)), ((q 74), .inl (cy 1, 16, .inl kn_38))] H := hP
            have hD : va_D A [((q 31), .inl (cy 0, 12, .inl (upd (upd (upd (upd g9 (8) 0) (9) 0) (10) 0) (11) 1))), ((q 0), .inr (11, (mO q 0 0 0 0 0 0 0 0 (-1) 0 0 0 bn_38 0 0 1 0 0 0))), ((q 70), .inl (cy 1, 16, .inl gd_38)), ((q 71), .inl (cy 0, 16, .inl cs_38)), ((q 72), .inl (cy 2, 16, .inr (.inl db_38))), ((q 73), .inl (cy 1, 16, .inl kp_38)), ((q 74), .inl (cy 1, 16, .inl kn_38))] := hD
            refine lv_aload_n S.1 S.2.1 dX12_line_288 rfl (lv_at hl 6 rfl) ?_
            refine lv_iconst (v := 3) S.1 S.2.1 dX12_line_289 (by decide) ?_
            refine call_ri (runV_R (wc := [((q 0), .inr (11, (mO q 0 0 0 0 0 0 0 0 (-1) 0 0 0 bn_38 0 0 1 0 0 0)))]) (As := [.int 3]) (rest := []) S (kX12_lineOf l D cy q 0 0 bn_38 0 1) hK hP [1] rfl 0 11 rfl rfl kw_1982 kw_1984 kw_98 kw_152 kw_1985 okX12_lineOf rfl (by decide) hl.1 rfl (Nat.le_of_ble_eq_true rfl) dX12_line_290 (by decide)) (fun v290 w290 => ?_)
            subst w290
            refine lv_istore (lv' := [(7, .int (-1)), (6, .int 0), (5, .int 0), (4, .int 0), (9, .int 3072), (8, .int 3072), (0, .ref (q 0)), (1, .int (nI cx)), (2, .int (nI cl)), (3, .int p2)]) S.1 S.2.1 dX12_line_293 hl (by decide) rfl (fun ls hl => ?_)
            refine lv_iload S.1 S.2.1 dX12_line_295 (lv_at hl 0 rfl) ?_
            refine r_if_lt S (-1) rfl dX12_line_297 (tgt := 318) (by decide) (fun _ => ?_) (fun c => absurd c (by decide))
            refine lv_aload_n S.1 S.2.1 dX12_line_318 rfl (lv_at hl 6 rfl) ?_
            refine r_get S hK hP 1 11 rfl rfl inX12 31 (by decide) kw_1541 (v := .ref (q 31)) rfl dX12_line_319 ?_
            refine lv_bipush (v := 8) S.1 S.2.1 dX12_line_322 (by decide) ?_
            refine r_iald S hK hP 0 0 rfl rfl (8) rfl (by decide) (by decide) (v := 0) rfl dX12_line_324 ?_
            refine lv_sipush (v := 1000) S.1 S.2.1 dX12_line_325 (by decide) ?_
            refine r_icmp_ne S 0 1000 rfl rfl dX12_line_328 (tgt := 335) (by decide) (fun _ => ?_) (fun c => absurd c (by decide))
            refine lv_aload_n S.1 S.2.1 dX12_line_335 rfl (lv_at hl 6 rfl) ?_
            refine r_get S hK hP 1 11 rfl rfl inX12 31 (by decide) kw_1541 (v := .ref (q 31)) rfl dX12_line_336 ?_
            refine lv_bipush (v := 9) S.1 S.2.1 dX12_line_339 (by decide) ?_
            refine r_iald S hK hP 0 0 rfl rfl (9) rfl (by decide) (by decide) (v := 0) rfl dX12_line_341 ?_
            refine lv_sipush (v := 1000) S.1 S.2.1 dX12_line_342 (by decide) ?_
            refine r_icmp_ne S 0 1000 rfl rfl dX12_line_345 (tgt := 352) (by decide) (fun _ => ?_) (fun c => absurd c (by decide))
            refine lv_aload_n S.1 S.2.1 dX12_line_352 rfl (lv_at hl 6 rfl) ?_
            refine r_get S hK hP 1 11 rfl rfl inX12 31 (by decide) kw_1541 (v := .ref (q 31)) rfl dX12_line_353 ?_
            refine lv_bipush (v := 10) S.1 S.2.1 dX12_line_356 (by decide) ?_
            refine r_iald S hK hP 0 0 rfl rfl (10) rfl (by decide) (by decide) (v := 0) rfl dX12_line_358 ?_
            refine lv_sipush (v := 1000) S.1 S.2.1 dX12_line_359 (by decide) ?_
            refine r_icmp_ne S 0 1000 rfl rfl dX12_line_362 (tgt := 369) (by decide) (fun _ => ?_) (fun c => absurd c (by decide))
            refine lv_iconst (v := 1) S.1 S.2.1 dX12_line_369 (by decide) ?_
            exact ci_ret (u := ()) S hr hlk rfl hK (hP.sub [] rfl) (hD.sub [] (by decide) rfl) hS (Or.inl ⟨rfl, (by omega)⟩) (by decide) (by decide) dX12_line_370
          · obtain ⟨g9, rfl⟩ : ∃ z, z = xs9 := ⟨_, rfl⟩
            have hP : va_P D vwCl [((q 31), .inl (cy 0, 12, .inl g9)), ((q 0), .inr (11, (mO q 0 0 0 0 0 0 0 0 (-1) 0 0 0 bn_38 0 0 1 0 0 0))), ((q 70), .inl (cy 1, 16, .inl gd_38)), ((q 71), .inl (cy 0, 16, .inl cs_38)), ((q 72), .inl (cy 2, 16, .inr (.inl db_38))), ((q 73), .inl (cy 1, 16, .inl kp_38)), ((q 74), .inl (cy 1, 16, .inl kn_38))] H := hP
            have hD : va_D A [((q 31), .inl (cy 0, 12, .inl g9)), ((q 0), .inr (11, (mO q 0 0 0 0 0 0 0 0 (-1) 0 0 0 bn_38 0 0 1 0 0 0))), ((q 70), .inl (cy 1, 16, .inl gd_38)), ((q 71), .inl (cy 0, 16, .inl cs_38)), ((q 72), .inl (cy 2, 16, .inr (.inl db_38))), ((q 73), .inl (cy 1, 16, .inl kp_38)), ((q 74), .inl (cy 1, 16, .inl kn_38))] := hD
            have hl : lv_has ls 10 [(7, .int (nI (k))), (6, .int 0), (5, .int 0), (4, .int 0), (9, .int 3072), (8, .int 3072), (0, .ref (q 0)), (1, .int (nI cx)), (2, .int (nI cl)), (3, .int p2)] := hl
            refine lv_iload S.1 S.2.1 dX12_line_202 (lv_at hl 0 rfl) ?_
            refine lv_bipush (v := 12) S.1 S.2.1 dX12_line_204 (by decide) ?_
            refine r_icmp_ge S ((k : Nat) : Int) 12 (nI_toInt (by omega)) rfl dX12_line_206 (tgt := 223) (by decide) (fun c => absurd c (by omega)) (fun _ => ?_)
            refine lv_aload_n S.1 S.2.1 dX12_line_209 rfl (lv_at hl 6 rfl) ?_
            refine r_get S hK hP 1 11 rfl rfl inX12 31 (by decide) kw_1541 (v := .ref (q 31)) rfl dX12_line_210 ?_
            refine lv_iload S.1 S.2.1 dX12_line_213 (lv_at hl 0 rfl) ?_
            refine lv_iconst (v := 0) S.1 S.2.1 dX12_line_215 (by decide) ?_
            refine r_iast S hK hP hD hS 0 0 rfl rfl ((k)) rfl (by omega) (by decide) dX12_line_216 (fun H locs hP hD hS => ?_)
            have hP : va_P D vwCl [((q 31), .inl (cy 0, 12, .inl (upd g9 ((k)) 0))), ((q 0), .inr (11, (mO q 0 0 0 0 0 0 0 0 (-1) 0 0 0 bn_38 0 0 1 0 0 0))), ((q 70), .inl (cy 1, 16, .inl gd_38)), ((q 71), .inl (cy 0, 16, .inl cs_38)), ((q 72), .inl (cy 2, 16, .inr (.inl db_38))), ((q 73), .inl (cy 1, 16, .inl kp_38)), ((q 74), .inl (cy 1, 16, .inl kn_38))] H := hP
            have hD : va_D A [((q 31), .inl (cy 0, 12, .inl (upd g9 ((k)) 0))), ((q 0), .inr (11, (mO q 0 0 0 0 0 0 0 0 (-1) 0 0 0 bn_38 0 0 1 0 0 0))), ((q 70), .inl (cy 1, 16, .inl gd_38)), ((q 71), .inl (cy 0, 16, .inl cs_38)), ((q 72), .inl (cy 2, 16, .inr (.inl db_38))), ((q 73), .inl (cy 1, 16, .inl kp_38)), ((q 74), .inl (cy 1, 16, .inl kn_38))] := hD
            refine lv_iinc (v := (nI ((k) + 1))) (lv' := [(7, .int (nI ((k) + 1))), (6, .int 0), (5, .int 0), (4, .int 0), (9, .int 3072), (8, .int 3072), (0, .ref (q 0)), (1, .int (nI cx)), (2, .int (nI cl)), (3, .int p2)]) S.1 S.2.1 dX12_line_217 hl (k := 0) rfl (nI_1 (k)) (by decide) rfl (fun ls hl => ?_)
            refine lv_goto (tgt := 202) S.1 S.2.1 dX12_line_220 (by decide) ?_
            exact ih (upd g9 ((k)) 0) _ _ _ trivial (hP.sub [0, 1, 2, 3, 4, 5, 6] rfl) (hD.sub [0, 1, 2, 3, 4, 5, 6] (by decide) rfl) hS (lv_sub hl [0, 1, 2, 3, 4, 5, 6, 7, 8, 9] rfl)
        · refine lv_iconst (v := 0) S.1 S.2.1 dX12_line_111 (by decide) ?_
          refine call_ri (runV_R (wc := [((q 0), .inr (11, (mO q 0 0 0 0 0 0 0 0 (-1) 0 0 0 bn_38 0 0 1 0 0 0))), ((q 74), .inl (cy 1, 16, .inl kn_38))]) (As := [.int 0, .int (nI (nj_108)), .int 0]) (rest := []) S (kX12_mayLie l D cy q 0 0 bn_38 0 1 kn_38 (nI (nj_108)) 0 ((nj_108 : Nat) : Int) (nI_toInt (by omega)) 0 rfl hkn) hK hP [1, 6] rfl 0 11 rfl rfl kw_2124 kw_2126 kw_125 kw_152 kw_2127 okX12_mayLie rfl (by decide) hl.1 rfl (Nat.le_of_ble_eq_true rfl) dX12_line_112 (by decide)) (fun v112 w112 => ?_)
          subst w112
          refine lv_istore (lv' := [(9, .int 3072), (8, .int 3072), (7, .int 0), (6, .int 0), (5, .int 0), (4, .int 0), (0, .ref (q 0)), (1, .int (nI cx)), (2, .int (nI cl)), (3, .int p2)]) S.1 S.2.1 dX12_line_115 hl (by decide) rfl (fun ls hl => ?_)
          refine lv_iload S.1 S.2.1 dX12_line_117 (lv_at hl 5 rfl) ?_
          refine lv_iload S.1 S.2.1 dX12_line_119 (lv_at hl 1 rfl) ?_
          refine call_ri (runS_R (wc := []) (As := [.int 3072]) (rest := [.int 0]) S (kX12_isOne l D cy) hK hP [] rfl kw_2136 kw_2137 kw_152 kw_2138 okX12_isOne rfl (by decide) hl.1 rfl (Nat.le_of_ble_eq_true rfl) dX12_line_121 (by decide)) (fun v121 w121 => ?_)
          subst w121
          refine r_if_eq S 0 rfl dX12_line_124 (tgt := 146) (by decide) (fun _ => ?_) (fun c => absurd c (by decide))
          refine lv_iconst (v := 0) S.1 S.2.1 dX12_line_146 (by decide) ?_
          refine r_iadd S dX12_line_147 (v := 0) (by decide) ?_
          refine lv_istore (lv' := [(4, .int 0), (9, .int 3072), (8, .int 3072), (7, .int 0), (6, .int 0), (5, .int 0), (0, .ref (q 0)), (1, .int (nI cx)), (2, .int (nI cl)), (3, .int p2)]) S.1 S.2.1 dX12_line_148 hl (by decide) rfl (fun ls hl => ?_)
          refine lv_iload S.1 S.2.1 dX12_line_150 (lv_at hl 5 rfl) ?_
          refine lv_iload S.1 S.2.1 dX12_line_152 (lv_at hl 2 rfl) ?_
          refine lv_iload S.1 S.2.1 dX12_line_154 (lv_at hl 1 rfl) ?_
          refine r_iand S dX12_line_156 (v := 3072) (by decide) ?_
          refine r_if_ne S 3072 rfl dX12_line_157 (tgt := 164) (by decide) (fun _ => ?_) (fun c => absurd c (by decide))
          refine lv_iconst (v := 0) S.1 S.2.1 dX12_line_164 (by decide) ?_
          refine r_iadd S dX12_line_165 (v := 0) (by decide) ?_
          refine lv_istore (lv' := [(5, .int 0), (4, .int 0), (9, .int 3072), (8, .int 3072), (7, .int 0), (6, .int 0), (0, .ref (q 0)), (1, .int (nI cx)), (2, .int (nI cl)), (3, .int p2)]) S.1 S.2.1 dX12_line_166 hl (by decide) rfl (fun ls hl => ?_)
          refine lv_iload S.1 S.2.1 dX12_line_168 (lv_at hl 5 rfl) ?_
          refine lv_iload S.1 S.2.1 dX12_line_170 (lv_at hl 3 rfl) ?_
          refine call_ri (runS_R (wc := []) (As := [.int 3072]) (rest := [.int 0]) S (kX12_isOne l D cy) hK hP [] rfl kw_2136 kw_2137 kw_152 kw_2138 okX12_isOne rfl (by decide) hl.1 rfl (Nat.le_of_ble_eq_true rfl) dX12_line_172 (by decide)) (fun v172 w172 => ?_)
          subst w172
          refine r_if_eq S 0 rfl dX12_line_175 (tgt := 189) (by decide) (fun _ => ?_) (fun c => absurd c (by decide))
          refine lv_iconst (v := 0) S.1 S.2.1 dX12_line_189 (by decide) ?_
          refine r_iadd S dX12_line_190 (v := 0) (by decide) ?_
          refine lv_istore (lv' := [(6, .int 0), (5, .int 0), (4, .int 0), (9, .int 3072), (8, .int 3072), (7, .int 0), (0, .ref (q 0)), (1, .int (nI cx)), (2, .int (nI cl)), (3, .int p2)]) S.1 S.2.1 dX12_line_191 hl (by decide) rfl (fun ls hl => ?_)
          refine lv_iinc (v := 1) (lv' := [(7, .int 1), (6, .int 0), (5, .int 0), (4, .int 0), (9, .int 3072), (8, .int 3072), (0, .ref (q 0)), (1, .int (nI cx)), (2, .int (nI cl)), (3, .int p2)]) S.1 S.2.1 dX12_line_193 hl (k := 5) rfl (by decide) (by decide) rfl (fun ls hl => ?_)
          refine lv_goto (tgt := 62) S.1 S.2.1 dX12_line_196 (by decide) ?_
          refine lv_iload S.1 S.2.1 dX12_line_62 (lv_at hl 0 rfl) ?_
          refine lv_iconst (v := 1) S.1 S.2.1 dX12_line_64 (by decide) ?_
          refine lv_aload_n S.1 S.2.1 dX12_line_65 rfl (lv_at hl 6 rfl) ?_
          refine r_get S hK hP 1 11 rfl rfl inX12 57 (by decide) kw_1567 (v := .int 0) rfl dX12_line_66 ?_
          refine r_ishl S dX12_line_69 (v := 1) (by decide) ?_
          refine r_icmp_ge S 1 1 rfl rfl dX12_line_70 (tgt := 199) (by decide) (fun _ => ?_) (fun c => absurd c (by decide))
          refine lv_iconst (v := 0) S.1 S.2.1 dX12_line_199 (by decide) ?_
          refine lv_istore (lv' := [(7, .int 0), (6, .int 0), (5, .int 0), (4, .int 0), (9, .int 3072), (8, .int 3072), (0, .ref (q 0)), (1, .int (nI cx)), (2, .int (nI cl)), (3, .int p2)]) S.1 S.2.1 dX12_line_200 hl (by decide) rfl (fun ls hl => ?_)
          refine loopN (σ := (Nat → Int32)) 202 12 (fun k xs9 => [((q 31), .inl (cy 0, 12, .inl (xs9))), ((q 0), .inr (11, (mO q 0 0 0 0 0 0 0 0 (-1) 0 0 0 bn_38 0 0 1 0 0 0))), ((q 70), .inl (cy 1, 16, .inl gd_38)), ((q 71), .inl (cy 0, 16, .inl cs_38)), ((q 72), .inl (cy 2, 16, .inr (.inl db_38))), ((q 73), .inl (cy 1, 16, .inl kp_38)), ((q 74), .inl (cy 1, 16, .inl kn_38))]) (fun k xs9 => [(7, .int (nI (k))), (6, .int 0), (5, .int 0), (4, .int 0), (9, .int 3072), (8, .int 3072), (0, .ref (q 0)), (1, .int (nI cx)), (2, .int (nI cl)), (3, .int p2)]) (fun k xs9 => True) (fun xs9 hJ H locs ls hP hD hS hl => ?_) (fun k xs9 hk hJ H locs ls hP hD hS hl ih => ?_) (fun _ => 0) trivial (hP.sub [0, 1, 2, 3, 4, 5, 6] rfl) (hD.sub [0, 1, 2, 3, 4, 5, 6] (by decide) rfl) hS (lv_sub hl [0, 1, 2, 3, 4, 5, 6, 7, 8, 9] rfl)
          · obtain ⟨g9, rfl⟩ : ∃ z, z = xs9 := ⟨_, rfl⟩
            have hP : va_P D vwCl [((q 31), .inl (cy 0, 12, .inl g9)), ((q 0), .inr (11, (mO q 0 0 0 0 0 0 0 0 (-1) 0 0 0 bn_38 0 0 1 0 0 0))), ((q 70), .inl (cy 1, 16, .inl gd_38)), ((q 71), .inl (cy 0, 16, .inl cs_38)), ((q 72), .inl (cy 2, 16, .inr (.inl db_38))), ((q 73), .inl (cy 1, 16, .inl kp_38)), ((q 74), .inl (cy 1, 16, .inl kn_38))] H := hP
            have hD : va_D A [((q 31), .inl (cy 0, 12, .inl g9)), ((q 0), .inr (11, (mO q 0 0 0 0 0 0 0 0 (-1) 0 0 0 bn_38 0 0 1 0 0 0))), ((q 70), .inl (cy 1, 16, .inl gd_38)), ((q 71), .inl (cy 0, 16, .inl cs_38)), ((q 72), .inl (cy 2, 16, .inr (.inl db_38))), ((q 73), .inl (cy 1, 16, .inl kp_38)), ((q 74), .inl (cy 1, 16, .inl kn_38))] := hD
            have hl : lv_has ls 10 [(7, .int 12), (6, .int 0), (5, .int 0), (4, .int 0), (9, .int 3072), (8, .int 3072), (0, .ref (q 0)), (1, .int (nI cx)), (2, .int (nI cl)), (3, .int p2)] := hl
            refine lv_iload S.1 S.2.1 dX12_line_202 (lv_at hl 0 rfl) ?_
            refine lv_bipush (v := 12) S.1 S.2.1 dX12_line_204 (by decide) ?_
            refine r_icmp_ge S 12 12 rfl rfl dX12_line_206 (tgt := 223) (by decide) (fun _ => ?_) (fun c => absurd c (by decide))
            refine lv_aload_n S.1 S.2.1 dX12_line_223 rfl (lv_at hl 6 rfl) ?_
            refine r_get S hK hP 1 11 rfl rfl inX12 31 (by decide) kw_1541 (v := .ref (q 31)) rfl dX12_line_224 ?_
            refine lv_bipush (v := 8) S.1 S.2.1 dX12_line_227 (by decide) ?_
            refine lv_sipush (v := 1000) S.1 S.2.1 dX12_line_229 (by decide) ?_
            refine lv_iload S.1 S.2.1 dX12_line_232 (lv_at hl 3 rfl) ?_
            refine r_imul S dX12_line_234 (v := 0) (by decide) ?_
            refine lv_aload_n S.1 S.2.1 dX12_line_235 rfl (lv_at hl 6 rfl) ?_
            refine r_get S hK hP 1 11 rfl rfl inX12 78 (by decide) kw_1588 (v := .int 1) rfl dX12_line_236 ?_
            refine r_idiv S dX12_line_239 (by decide) (v := 0) (by decide) ?_
            refine r_iast S hK hP hD hS 0 0 rfl rfl (8) rfl (by decide) (by decide) dX12_line_240 (fun H locs hP hD hS => ?_)
            have hP : va_P D vwCl [((q 31), .inl (cy 0, 12, .inl (upd g9 (8) 0))), ((q 0), .inr (11, (mO q 0 0 0 0 0 0 0 0 (-1) 0 0 0 bn_38 0 0 1 0 0 0))), ((q 70), .inl (cy 1, 16, .inl gd_38)), ((q 71), .inl (cy 0, 16, .inl cs_38)), ((q 72), .inl (cy 2, 16, .inr (.inl db_38))), ((q 73), .inl (cy 1, 16, .inl kp_38)), ((q 74), .inl (cy 1, 16, .inl kn_38))] H := hP
            have hD : va_D A [((q 31), .inl (cy 0, 12, .inl (upd g9 (8) 0))), ((q 0), .inr (11, (mO q 0 0 0 0 0 0 0 0 (-1) 0 0 0 bn_38 0 0 1 0 0 0))), ((q 70), .inl (cy 1, 16, .inl gd_38)), ((q 71), .inl (cy 0, 16, .inl cs_38)), ((q 72), .inl (cy 2, 16, .inr (.inl db_38))), ((q 73), .inl (cy 1, 16, .inl kp_38)), ((q 74), .inl (cy 1, 16, .inl kn_38))] := hD
            refine lv_aload_n S.1 S.2.1 dX12_line_241 rfl (lv_at hl 6 rfl) ?_
            refine r_get S hK hP 1 11 rfl rfl inX12 31 (by decide) kw_1541 (v := .ref (q 31)) rfl dX12_line_242 ?_
            refine lv_bipush (v := 9) S.1 S.2.1 dX12_line_245 (by decide) ?_
            refine lv_sipush (v := 1000) S.1 S.2.1 dX12_line_247 (by decide) ?_
            refine lv_iload S.1 S.2.1 dX12_line_250 (lv_at hl 2 rfl) ?_
            refine r_imul S dX12_line_252 (v := 0) (by decide) ?_
            refine lv_aload_n S.1 S.2.1 dX12_line_253 rfl (lv_at hl 6 rfl) ?_
            refine r_get S hK hP 1 11 rfl rfl inX12 78 (by decide) kw_1588 (v := .int 1) rfl dX12_line_254 ?_
            refine r_idiv S dX12_line_257 (by decide) (v := 0) (by decide) ?_
            refine r_iast S hK hP hD hS 0 0 rfl rfl (9) rfl (by decide) (by decide) dX12_line_258 (fun H locs hP hD hS => ?_)
            have hP : va_P D vwCl [((q 31), .inl (cy 0, 12, .inl (upd (upd g9 (8) 0) (9) 0))), ((q 0), .inr (11, (mO q 0 0 0 0 0 0 0 0 (-1) 0 0 0 bn_38 0 0 1 0 0 0))), ((q 70), .inl (cy 1, 16, .inl gd_38)), ((q 71), .inl (cy 0, 16, .inl cs_38)), ((q 72), .inl (cy 2, 16, .inr (.inl db_38))), ((q 73), .inl (cy 1, 16, .inl kp_38)), ((q 74), .inl (cy 1, 16, .inl kn_38))] H := hP
            have hD : va_D A [((q 31), .inl (cy 0, 12, .inl (upd (upd g9 (8) 0) (9) 0))), ((q 0), .inr (11, (mO q 0 0 0 0 0 0 0 0 (-1) 0 0 0 bn_38 0 0 1 0 0 0))), ((q 70), .inl (cy 1, 16, .inl gd_38)), ((q 71), .inl (cy 0, 16, .inl cs_38)), ((q 72), .inl (cy 2, 16, .inr (.inl db_38))), ((q 73), .inl (cy 1, 16, .inl kp_38)), ((q 74), .inl (cy 1, 16, .inl kn_38))] := hD
            refine lv_aload_n S.1 S.2.1 dX12_line_259 rfl (lv_at hl 6 rfl) ?_
            refine r_get S hK hP 1 11 rfl rfl inX12 31 (by decide) kw_1541 (v := .ref (q 31)) rfl dX12_line_260 ?_
            refine lv_bipush (v := 10) S.1 S.2.1 dX12_line_263 (by decide) ?_
            refine lv_sipush (v := 1000) S.1 S.2.1 dX12_line_265 (by decide) ?_
            refine lv_iload S.1 S.2.1 dX12_line_268 (lv_at hl 1 rfl) ?_
            refine r_imul S dX12_line_270 (v := 0) (by decide) ?_
            refine lv_aload_n S.1 S.2.1 dX12_line_271 rfl (lv_at hl 6 rfl) ?_
            refine r_get S hK hP 1 11 rfl rfl inX12 78 (by decide) kw_1588 (v := .int 1) rfl dX12_line_272 ?_
            refine r_idiv S dX12_line_275 (by decide) (v := 0) (by decide) ?_
            refine r_iast S hK hP hD hS 0 0 rfl rfl (10) rfl (by decide) (by decide) dX12_line_276 (fun H locs hP hD hS => ?_)
            have hP : va_P D vwCl [((q 31), .inl (cy 0, 12, .inl (upd (upd (upd g9 (8) 0) (9) 0) (10) 0))), ((q 0), .inr (11, (mO q 0 0 0 0 0 0 0 0 (-1) 0 0 0 bn_38 0 0 1 0 0 0))), ((q 70), .inl (cy 1, 16, .inl gd_38)), ((q 71), .inl (cy 0, 16, .inl cs_38)), ((q 72), .inl (cy 2, 16, .inr (.inl db_38))), ((q 73), .inl (cy 1, 16, .inl kp_38)), ((q 74), .inl (cy 1, 16, .inl kn_38))] H := hP
            have hD : va_D A [((q 31), .inl (cy 0, 12, .inl (upd (upd (upd g9 (8) 0) (9) 0) (10) 0))), ((q 0), .inr (11, (mO q 0 0 0 0 0 0 0 0 (-1) 0 0 0 bn_38 0 0 1 0 0 0))), ((q 70), .inl (cy 1, 16, .inl gd_38)), ((q 71), .inl (cy 0, 16, .inl cs_38)), ((q 72), .inl (cy 2, 16, .inr (.inl db_38))), ((q 73), .inl (cy 1, 16, .inl kp_38)), ((q 74), .inl (cy 1, 16, .inl kn_38))] := hD
            refine lv_aload_n S.1 S.2.1 dX12_line_277 rfl (lv_at hl 6 rfl) ?_
            refine r_get S hK hP 1 11 rfl rfl inX12 31 (by decide) kw_1541 (v := .ref (q 31)) rfl dX12_line_278 ?_
            refine lv_bipush (v := 11) S.1 S.2.1 dX12_line_281 (by decide) ?_
            refine lv_aload_n S.1 S.2.1 dX12_line_283 rfl (lv_at hl 6 rfl) ?_
            refine r_get S hK hP 1 11 rfl rfl inX12 78 (by decide) kw_1588 (v := .int 1) rfl dX12_line_284 ?_
            refine r_iast S hK hP hD hS 0 0 rfl rfl (11) rfl (by decide) (by decide) dX12_line_287 (fun H locs hP hD hS => ?_)
            have hP : va_P D vwCl [((q 31), .inl (cy 0, 12, .inl (upd (upd (upd (upd g9 (8) 0) (9) 0) (10) 0) (11) 1))), ((q 0), .inr (11, (mO q 0 0 0 0 0 0 0 0 (-1) 0 0 0 bn_38 0 0 1 0 0 0))), ((q 70), .inl (cy 1, 16, .inl gd_38)), ((q 71), .inl (cy 0, 16, .inl cs_38)), ((q 72), .inl (cy 2, 16, .inr (.inl db_38))), ((q 73), .inl (cy 1, 16, .inl kp_38)), ((q 74), .inl (cy 1, 16, .inl kn_38))] H := hP
            have hD : va_D A [((q 31), .inl (cy 0, 12, .inl (upd (upd (upd (upd g9 (8) 0) (9) 0) (10) 0) (11) 1))), ((q 0), .inr (11, (mO q 0 0 0 0 0 0 0 0 (-1) 0 0 0 bn_38 0 0 1 0 0 0))), ((q 70), .inl (cy 1, 16, .inl gd_38)), ((q 71), .inl (cy 0, 16, .inl cs_38)), ((q 72), .inl (cy 2, 16, .inr (.inl db_38))), ((q 73), .inl (cy 1, 16, .inl kp_38)), ((q 74), .inl (cy 1, 16, .inl kn_38))] := hD
            refine lv_aload_n S.1 S.2.1 dX12_line_288 rfl (lv_at hl 6 rfl) ?_
            refine lv_iconst (v := 3) S.1 S.2.1 dX12_line_289 (by decide) ?_
            refine call_ri (runV_R (wc := [((q 0), .inr (11, (mO q 0 0 0 0 0 0 0 0 (-1) 0 0 0 bn_38 0 0 1 0 0 0)))]) (As := [.int 3]) (rest := []) S (kX12_lineOf l D cy q 0 0 bn_38 0 1) hK hP [1] rfl 0 11 rfl rfl kw_1982 kw_1984 kw_98 kw_152 kw_1985 okX12_lineOf rfl (by decide) hl.1 rfl (Nat.le_of_ble_eq_true rfl) dX12_line_290 (by decide)) (fun v290 w290 => ?_)
            subst w290
            refine lv_istore (lv' := [(7, .int (-1)), (6, .int 0), (5, .int 0), (4, .int 0), (9, .int 3072), (8, .int 3072), (0, .ref (q 0)), (1, .int (nI cx)), (2, .int (nI cl)), (3, .int p2)]) S.1 S.2.1 dX12_line_293 hl (by decide) rfl (fun ls hl => ?_)
            refine lv_iload S.1 S.2.1 dX12_line_295 (lv_at hl 0 rfl) ?_
            refine r_if_lt S (-1) rfl dX12_line_297 (tgt := 318) (by decide) (fun _ => ?_) (fun c => absurd c (by decide))
            refine lv_aload_n S.1 S.2.1 dX12_line_318 rfl (lv_at hl 6 rfl) ?_
            refine r_get S hK hP 1 11 rfl rfl inX12 31 (by decide) kw_1541 (v := .ref (q 31)) rfl dX12_line_319 ?_
            refine lv_bipush (v := 8) S.1 S.2.1 dX12_line_322 (by decide) ?_
            refine r_iald S hK hP 0 0 rfl rfl (8) rfl (by decide) (by decide) (v := 0) rfl dX12_line_324 ?_
            refine lv_sipush (v := 1000) S.1 S.2.1 dX12_line_325 (by decide) ?_
            refine r_icmp_ne S 0 1000 rfl rfl dX12_line_328 (tgt := 335) (by decide) (fun _ => ?_) (fun c => absurd c (by decide))
            refine lv_aload_n S.1 S.2.1 dX12_line_335 rfl (lv_at hl 6 rfl) ?_
            refine r_get S hK hP 1 11 rfl rfl inX12 31 (by decide) kw_1541 (v := .ref (q 31)) rfl dX12_line_336 ?_
            refine lv_bipush (v := 9) S.1 S.2.1 dX12_line_339 (by decide) ?_
            refine r_iald S hK hP 0 0 rfl rfl (9) rfl (by decide) (by decide) (v := 0) rfl dX12_line_341 ?_
            refine lv_sipush (v := 1000) S.1 S.2.1 dX12_line_342 (by decide) ?_
            refine r_icmp_ne S 0 1000 rfl rfl dX12_line_345 (tgt := 352) (by decide) (fun _ => ?_) (fun c => absurd c (by decide))
            refine lv_aload_n S.1 S.2.1 dX12_line_352 rfl (lv_at hl 6 rfl) ?_
            refine r_get S hK hP 1 11 rfl rfl inX12 31 (by decide) kw_1541 (v := .ref (q 31)) rfl dX12_line_353 ?_
            refine lv_bipush (v := 10) S.1 S.2.1 dX12_line_356 (by decide) ?_
            refine r_iald S hK hP 0 0 rfl rfl (10) rfl (by decide) (by decide) (v := 0) rfl dX12_line_358 ?_
            refine lv_sipush (v := 1000) S.1 S.2.1 dX12_line_359 (by decide) ?_
            refine r_icmp_ne S 0 1000 rfl rfl dX12_line_362 (tgt := 369) (by decide) (fun _ => ?_) (fun c => absurd c (by decide))
            refine lv_iconst (v := 1) S.1 S.2.1 dX12_line_369 (by decide) ?_
            exact ci_ret (u := ()) S hr hlk rfl hK (hP.sub [] rfl) (hD.sub [] (by decide) rfl) hS (Or.inl ⟨rfl, (by omega)⟩) (by decide) (by decide) dX12_line_370
          · obtain ⟨g9, rfl⟩ : ∃ z, z = xs9 := ⟨_, rfl⟩
            have hP : va_P D vwCl [((q 31), .inl (cy 0, 12, .inl g9)), ((q 0), .inr (11, (mO q 0 0 0 0 0 0 0 0 (-1) 0 0 0 bn_38 0 0 1 0 0 0))), ((q 70), .inl (cy 1, 16, .inl gd_38)), ((q 71), .inl (cy 0, 16, .inl cs_38)), ((q 72), .inl (cy 2, 16, .inr (.inl db_38))), ((q 73), .inl (cy 1, 16, .inl kp_38)), ((q 74), .inl (cy 1, 16, .inl kn_38))] H := hP
            have hD : va_D A [((q 31), .inl (cy 0, 12, .inl g9)), ((q 0), .inr (11, (mO q 0 0 0 0 0 0 0 0 (-1) 0 0 0 bn_38 0 0 1 0 0 0))), ((q 70), .inl (cy 1, 16, .inl gd_38)), ((q 71), .inl (cy 0, 16, .inl cs_38)), ((q 72), .inl (cy 2, 16, .inr (.inl db_38))), ((q 73), .inl (cy 1, 16, .inl kp_38)), ((q 74), .inl (cy 1, 16, .inl kn_38))] := hD
            have hl : lv_has ls 10 [(7, .int (nI (k))), (6, .int 0), (5, .int 0), (4, .int 0), (9, .int 3072), (8, .int 3072), (0, .ref (q 0)), (1, .int (nI cx)), (2, .int (nI cl)), (3, .int p2)] := hl
            refine lv_iload S.1 S.2.1 dX12_line_202 (lv_at hl 0 rfl) ?_
            refine lv_bipush (v := 12) S.1 S.2.1 dX12_line_204 (by decide) ?_
            refine r_icmp_ge S ((k : Nat) : Int) 12 (nI_toInt (by omega)) rfl dX12_line_206 (tgt := 223) (by decide) (fun c => absurd c (by omega)) (fun _ => ?_)
            refine lv_aload_n S.1 S.2.1 dX12_line_209 rfl (lv_at hl 6 rfl) ?_
            refine r_get S hK hP 1 11 rfl rfl inX12 31 (by decide) kw_1541 (v := .ref (q 31)) rfl dX12_line_210 ?_
            refine lv_iload S.1 S.2.1 dX12_line_213 (lv_at hl 0 rfl) ?_
            refine lv_iconst (v := 0) S.1 S.2.1 dX12_line_215 (by decide) ?_
            refine r_iast S hK hP hD hS 0 0 rfl rfl ((k)) rfl (by omega) (by decide) dX12_line_216 (fun H locs hP hD hS => ?_)
            have hP : va_P D vwCl [((q 31), .inl (cy 0, 12, .inl (upd g9 ((k)) 0))), ((q 0), .inr (11, (mO q 0 0 0 0 0 0 0 0 (-1) 0 0 0 bn_38 0 0 1 0 0 0))), ((q 70), .inl (cy 1, 16, .inl gd_38)), ((q 71), .inl (cy 0, 16, .inl cs_38)), ((q 72), .inl (cy 2, 16, .inr (.inl db_38))), ((q 73), .inl (cy 1, 16, .inl kp_38)), ((q 74), .inl (cy 1, 16, .inl kn_38))] H := hP
            have hD : va_D A [((q 31), .inl (cy 0, 12, .inl (upd g9 ((k)) 0))), ((q 0), .inr (11, (mO q 0 0 0 0 0 0 0 0 (-1) 0 0 0 bn_38 0 0 1 0 0 0))), ((q 70), .inl (cy 1, 16, .inl gd_38)), ((q 71), .inl (cy 0, 16, .inl cs_38)), ((q 72), .inl (cy 2, 16, .inr (.inl db_38))), ((q 73), .inl (cy 1, 16, .inl kp_38)), ((q 74), .inl (cy 1, 16, .inl kn_38))] := hD
            refine lv_iinc (v := (nI ((k) + 1))) (lv' := [(7, .int (nI ((k) + 1))), (6, .int 0), (5, .int 0), (4, .int 0), (9, .int 3072), (8, .int 3072), (0, .ref (q 0)), (1, .int (nI cx)), (2, .int (nI cl)), (3, .int p2)]) S.1 S.2.1 dX12_line_217 hl (k := 0) rfl (nI_1 (k)) (by decide) rfl (fun ls hl => ?_)
            refine lv_goto (tgt := 202) S.1 S.2.1 dX12_line_220 (by decide) ?_
            exact ih (upd g9 ((k)) 0) _ _ _ trivial (hP.sub [0, 1, 2, 3, 4, 5, 6] rfl) (hD.sub [0, 1, 2, 3, 4, 5, 6] (by decide) rfl) hS (lv_sub hl [0, 1, 2, 3, 4, 5, 6, 7, 8, 9] rfl)
    · refine r_if_eq S 0 rfl dX12_line_19 (tgt := 35) (by decide) (fun _ => ?_) (fun c => absurd c (by decide))
      refine lv_iconst (v := (-1)) S.1 S.2.1 dX12_line_35 (by decide) ?_
      exact ci_ret (u := ()) S hr hlk rfl hK (hP.sub [] rfl) (hD.sub [] (by decide) rfl) hS (Or.inr (⟨rfl, (by omega)⟩)) (by decide) (by decide) dX12_line_36
  · refine r_if_eq S 0 rfl dX12_line_10 (tgt := 35) (by decide) (fun _ => ?_) (fun c => absurd c (by decide))
    refine lv_iconst (v := (-1)) S.1 S.2.1 dX12_line_35 (by decide) ?_
    exact ci_ret (u := ()) S hr hlk rfl hK (hP.sub [] rfl) (hD.sub [] (by decide) rfl) hS (Or.inr (⟨rfl, (by omega)⟩)) (by decide) (by decide) dX12_line_36
set_option maxHeartbeats 4000000 in
set_option maxRecDepth 100000 in
theorem kX12_water (l : Launch) (D : va_G) (cy : Nat → ClassId) (q : Nat → Nat) (p0 : Int32) (p1 : Int32) (p2 : Int32) (z0 : Int) (h0 : p0.toInt = z0) (z1 : Int) (h1 : p1.toInt = z1) (z2 : Int) (h2 : p2.toInt = z2) : CI l D cy yX12_water cX12_water 10 (some .int) 6 152 0 0 [.ref (q 0), .int p0, .int p1, .int p2] [((q 0), .inr (11, (mO q 0 0 0 0 0 0 0 0 (-1) 1 0 0 0 0 0 0 0 0 0))), ((q 63), .inl (cy 0, 600, .inl (fun _ => 0))), ((q 64), .inl (cy 0, 600, .inl (fun _ => 0))), ((q 65), .inl (cy 0, 600, .inl (fun _ => 0))), ((q 66), .inl (cy 0, 600, .inl (fun _ => 0))), ((q 67), .inl (cy 0, 97, .inl (fun _ => 0))), ((q 68), .inl (cy 0, 97, .inl (fun _ => 0))), ((q 70), .inl (cy 1, 16, .inl (fun _ => 0))), ((q 71), .inl (cy 0, 16, .inl (fun _ => 0))), ((q 72), .inl (cy 2, 16, .inr (.inl (fun _ => 0)))), ((q 73), .inl (cy 1, 16, .inl (fun _ => 0))), ((q 74), .inl (cy 1, 16, .inl (fun _ => 0)))] (fun (v : Int32) (u : Unit) => v = (-1)) (fun (u : Unit) => []) := by
  refine ci_go (by decide) (Nat.le_of_ble_eq_true rfl) (fun p e s m below meth c ls A hA S hr hlk hnm hP hK hD hl => ?_)
  have hS : va_S A s.heap s.heap [] := va_S.rf
  have hl : lv_has ls 10 [(0, .ref (q 0)), (1, .int p0), (2, .int p1), (3, .int p2)] := hl
  refine lv_aload_n S.1 S.2.1 dX12_water_0 rfl (lv_at hl 0 rfl) ?_
  refine lv_iconst (v := 0) S.1 S.2.1 dX12_water_1 (by decide) ?_
  refine r_put S hK hP hD hS 0 11 rfl rfl inX12 0 (by decide) tyX12 tyX12_ok nmX12 kw_1510 (v := .int 0) rfl rfl rfl (Nat.le_of_ble_eq_true rfl) dX12_water_2 (fun H locs hP hD hS => ?_)
  have hP : va_P D vwCl [((q 0), .inr (11, (mO q 0 0 0 0 0 0 0 0 (-1) 1 0 0 0 0 0 0 0 0 0))), ((q 63), .inl (cy 0, 600, .inl (fun _ => 0))), ((q 64), .inl (cy 0, 600, .inl (fun _ => 0))), ((q 65), .inl (cy 0, 600, .inl (fun _ => 0))), ((q 66), .inl (cy 0, 600, .inl (fun _ => 0))), ((q 67), .inl (cy 0, 97, .inl (fun _ => 0))), ((q 68), .inl (cy 0, 97, .inl (fun _ => 0))), ((q 70), .inl (cy 1, 16, .inl (fun _ => 0))), ((q 71), .inl (cy 0, 16, .inl (fun _ => 0))), ((q 72), .inl (cy 2, 16, .inr (.inl (fun _ => 0)))), ((q 73), .inl (cy 1, 16, .inl (fun _ => 0))), ((q 74), .inl (cy 1, 16, .inl (fun _ => 0)))] H := hP
  have hD : va_D A [((q 0), .inr (11, (mO q 0 0 0 0 0 0 0 0 (-1) 1 0 0 0 0 0 0 0 0 0))), ((q 63), .inl (cy 0, 600, .inl (fun _ => 0))), ((q 64), .inl (cy 0, 600, .inl (fun _ => 0))), ((q 65), .inl (cy 0, 600, .inl (fun _ => 0))), ((q 66), .inl (cy 0, 600, .inl (fun _ => 0))), ((q 67), .inl (cy 0, 97, .inl (fun _ => 0))), ((q 68), .inl (cy 0, 97, .inl (fun _ => 0))), ((q 70), .inl (cy 1, 16, .inl (fun _ => 0))), ((q 71), .inl (cy 0, 16, .inl (fun _ => 0))), ((q 72), .inl (cy 2, 16, .inr (.inl (fun _ => 0)))), ((q 73), .inl (cy 1, 16, .inl (fun _ => 0))), ((q 74), .inl (cy 1, 16, .inl (fun _ => 0)))] := hD
  refine lv_iload_n S.1 S.2.1 dX12_water_5 rfl (lv_at hl 1 rfl) ?_
  refine lv_iload_n S.1 S.2.1 dX12_water_6 rfl (lv_at hl 2 rfl) ?_
  refine call_ri (runS_R (wc := []) (As := [.int p0, .int p1]) (rest := []) S (kX12_isCell l D cy p0 p1 z0 h0 z1 h1) hK hP [] rfl kw_1903 kw_1904 kw_152 kw_1905 okX12_isCell rfl (by decide) hl.1 rfl (Nat.le_of_ble_eq_true rfl) dX12_water_7 (by decide)) (fun v7 w7 => ?_)
  rcases w7 with ⟨rfl, w7_0_0⟩ | ⟨rfl, w7_1_0⟩
  · refine r_if_eq S 1 rfl dX12_water_10 (tgt := 22) (by decide) (fun c => absurd c (by decide)) (fun _ => ?_)
    refine lv_iload_n S.1 S.2.1 dX12_water_13 rfl (lv_at hl 3 rfl) ?_
    refine lv_iconst (v := 0) S.1 S.2.1 dX12_water_14 (by decide) ?_
    refine lv_iconst (v := 1) S.1 S.2.1 dX12_water_15 (by decide) ?_
    refine call_ri (runS_R (wc := []) (As := [.int p2, .int 0, .int 1]) (rest := []) S (kX12_within l D cy p2 0 1 z2 h2 0 rfl 1 rfl) hK hP [] rfl kw_1892 kw_1893 kw_152 kw_1894 okX12_within rfl (by decide) hl.1 rfl (Nat.le_of_ble_eq_true rfl) dX12_water_16 (by decide)) (fun v16 w16 => ?_)
    rcases w16 with ⟨rfl, w16_0_0⟩ | ⟨rfl, w16_1_0⟩
    · refine r_if_ne S 1 rfl dX12_water_19 (tgt := 24) (by decide) (fun _ => ?_) (fun c => absurd c (by decide))
      refine lv_aload_n S.1 S.2.1 dX12_water_24 rfl (lv_at hl 0 rfl) ?_
      refine call_v (wr := []) (runV_C (wc := [((q 0), .inr (11, (mO q 0 0 0 0 0 0 0 0 (-1) 1 0 0 0 0 0 0 0 0 0))), ((q 63), .inl (cy 0, 600, .inl (fun _ => 0))), ((q 64), .inl (cy 0, 600, .inl (fun _ => 0))), ((q 65), .inl (cy 0, 600, .inl (fun _ => 0))), ((q 66), .inl (cy 0, 600, .inl (fun _ => 0))), ((q 67), .inl (cy 0, 97, .inl (fun _ => 0))), ((q 68), .inl (cy 0, 97, .inl (fun _ => 0))), ((q 70), .inl (cy 1, 16, .inl (fun _ => 0))), ((q 71), .inl (cy 0, 16, .inl (fun _ => 0))), ((q 72), .inl (cy 2, 16, .inr (.inl (fun _ => 0)))), ((q 73), .inl (cy 1, 16, .inl (fun _ => 0))), ((q 74), .inl (cy 1, 16, .inl (fun _ => 0)))]) (As := []) (rest := []) S (kX12_findGrounds l D cy q 0) hK hP hD [0, 1, 2, 3, 4, 5, 6, 7, 8, 9, 10, 11] (by decide) rfl 0 11 rfl rfl kw_1946 kw_1948 kw_89 kw_152 kw_1949 okX12_findGrounds rfl (by decide) hl.1 rfl (Nat.le_of_ble_eq_true rfl) dX12_water_25 (by decide)) hP hD hS hA [0, 1, 2, 3, 4, 5, 6, 7, 8, 9, 10, 11] [] rfl rfl (by decide) (by decide) (fun u25 H locs w25 hP hD hS => ?_)
      obtain ⟨bn_25, gd_25, cs_25, db_25, kp_25, kn_25⟩ := u25
      have hP : va_P D vwCl [((q 0), .inr (11, (mO q 0 0 0 0 0 0 0 0 (-1) 0 0 0 bn_25 0 0 1 0 0 0))), ((q 70), .inl (cy 1, 16, .inl gd_25)), ((q 71), .inl (cy 0, 16, .inl cs_25)), ((q 72), .inl (cy 2, 16, .inr (.inl db_25))), ((q 73), .inl (cy 1, 16, .inl kp_25)), ((q 74), .inl (cy 1, 16, .inl kn_25))] H := hP
      have hD : va_D A [((q 0), .inr (11, (mO q 0 0 0 0 0 0 0 0 (-1) 0 0 0 bn_25 0 0 1 0 0 0))), ((q 70), .inl (cy 1, 16, .inl gd_25)), ((q 71), .inl (cy 0, 16, .inl cs_25)), ((q 72), .inl (cy 2, 16, .inr (.inl db_25))), ((q 73), .inl (cy 1, 16, .inl kp_25)), ((q 74), .inl (cy 1, 16, .inl kn_25))] := hD
      obtain ⟨hgd, hcs, hdb, hkp, hkn⟩ := w25
      refine lv_aload_n S.1 S.2.1 dX12_water_28 rfl (lv_at hl 0 rfl) ?_
      refine call_ri (runV_R (wc := [((q 0), .inr (11, (mO q 0 0 0 0 0 0 0 0 (-1) 0 0 0 bn_25 0 0 1 0 0 0))), ((q 73), .inl (cy 1, 16, .inl kp_25)), ((q 74), .inl (cy 1, 16, .inl kn_25))]) (As := []) (rest := []) S (kX12_areKnown l D cy q 0 bn_25 kp_25 kn_25 hkp hkn) hK hP [0, 4, 5] rfl 0 11 rfl rfl kw_2143 kw_2145 kw_127 kw_152 kw_2146 okX12_areKnown rfl (by decide) hl.1 rfl (Nat.le_of_ble_eq_true rfl) dX12_water_29 (by decide)) (fun v29 w29 => ?_)
      subst w29
      refine r_if_ne S 0 rfl dX12_water_32 (tgt := 37) (by decide) (fun c => absurd c (by decide)) (fun _ => ?_)
      refine lv_iconst (v := (-1)) S.1 S.2.1 dX12_water_35 (by decide) ?_
      exact ci_ret (u := ()) S hr hlk rfl hK (hP.sub [] rfl) (hD.sub [] (by decide) rfl) hS (rfl) (by decide) (by decide) dX12_water_36
    · refine r_if_ne S 0 rfl dX12_water_19 (tgt := 24) (by decide) (fun c => absurd c (by decide)) (fun _ => ?_)
      refine lv_iconst (v := (-1)) S.1 S.2.1 dX12_water_22 (by decide) ?_
      exact ci_ret (u := ()) S hr hlk rfl hK (hP.sub [] rfl) (hD.sub [] (by decide) rfl) hS (rfl) (by decide) (by decide) dX12_water_23
  · refine r_if_eq S 0 rfl dX12_water_10 (tgt := 22) (by decide) (fun _ => ?_) (fun c => absurd c (by decide))
    refine lv_iconst (v := (-1)) S.1 S.2.1 dX12_water_22 (by decide) ?_
    exact ci_ret (u := ()) S hr hlk rfl hK (hP.sub [] rfl) (hD.sub [] (by decide) rfl) hS (rfl) (by decide) (by decide) dX12_water_23
set_option maxHeartbeats 4000000 in
set_option maxRecDepth 100000 in
theorem kX12_seam (l : Launch) (D : va_G) (cy : Nat → ClassId) (q : Nat → Nat) (p0 : Int32) (p1 : Int32) (p2 : Int32) (z0 : Int) (h0 : p0.toInt = z0) (z1 : Int) (h1 : p1.toInt = z1) (z2 : Int) (h2 : p2.toInt = z2) : CI l D cy yX12_seam cX12_seam 6 (some .int) 6 152 0 0 [.ref (q 0), .int p0, .int p1, .int p2] [((q 0), .inr (11, (mO q 0 0 0 0 0 0 0 0 (-1) 1 0 0 0 0 0 0 0 0 0))), ((q 63), .inl (cy 0, 600, .inl (fun _ => 0))), ((q 64), .inl (cy 0, 600, .inl (fun _ => 0))), ((q 65), .inl (cy 0, 600, .inl (fun _ => 0))), ((q 66), .inl (cy 0, 600, .inl (fun _ => 0))), ((q 67), .inl (cy 0, 97, .inl (fun _ => 0))), ((q 68), .inl (cy 0, 97, .inl (fun _ => 0))), ((q 70), .inl (cy 1, 16, .inl (fun _ => 0))), ((q 71), .inl (cy 0, 16, .inl (fun _ => 0))), ((q 72), .inl (cy 2, 16, .inr (.inl (fun _ => 0)))), ((q 73), .inl (cy 1, 16, .inl (fun _ => 0))), ((q 74), .inl (cy 1, 16, .inl (fun _ => 0)))] (fun (v : Int32) (u : Unit) => v = (-1)) (fun (u : Unit) => []) := by
  refine ci_go (by decide) (Nat.le_of_ble_eq_true rfl) (fun p e s m below meth c ls A hA S hr hlk hnm hP hK hD hl => ?_)
  have hS : va_S A s.heap s.heap [] := va_S.rf
  have hl : lv_has ls 6 [(0, .ref (q 0)), (1, .int p0), (2, .int p1), (3, .int p2)] := hl
  refine lv_aload_n S.1 S.2.1 dX12_seam_0 rfl (lv_at hl 0 rfl) ?_
  refine lv_iconst (v := 0) S.1 S.2.1 dX12_seam_1 (by decide) ?_
  refine r_put S hK hP hD hS 0 11 rfl rfl inX12 0 (by decide) tyX12 tyX12_ok nmX12 kw_1510 (v := .int 0) rfl rfl rfl (Nat.le_of_ble_eq_true rfl) dX12_seam_2 (fun H locs hP hD hS => ?_)
  have hP : va_P D vwCl [((q 0), .inr (11, (mO q 0 0 0 0 0 0 0 0 (-1) 1 0 0 0 0 0 0 0 0 0))), ((q 63), .inl (cy 0, 600, .inl (fun _ => 0))), ((q 64), .inl (cy 0, 600, .inl (fun _ => 0))), ((q 65), .inl (cy 0, 600, .inl (fun _ => 0))), ((q 66), .inl (cy 0, 600, .inl (fun _ => 0))), ((q 67), .inl (cy 0, 97, .inl (fun _ => 0))), ((q 68), .inl (cy 0, 97, .inl (fun _ => 0))), ((q 70), .inl (cy 1, 16, .inl (fun _ => 0))), ((q 71), .inl (cy 0, 16, .inl (fun _ => 0))), ((q 72), .inl (cy 2, 16, .inr (.inl (fun _ => 0)))), ((q 73), .inl (cy 1, 16, .inl (fun _ => 0))), ((q 74), .inl (cy 1, 16, .inl (fun _ => 0)))] H := hP
  have hD : va_D A [((q 0), .inr (11, (mO q 0 0 0 0 0 0 0 0 (-1) 1 0 0 0 0 0 0 0 0 0))), ((q 63), .inl (cy 0, 600, .inl (fun _ => 0))), ((q 64), .inl (cy 0, 600, .inl (fun _ => 0))), ((q 65), .inl (cy 0, 600, .inl (fun _ => 0))), ((q 66), .inl (cy 0, 600, .inl (fun _ => 0))), ((q 67), .inl (cy 0, 97, .inl (fun _ => 0))), ((q 68), .inl (cy 0, 97, .inl (fun _ => 0))), ((q 70), .inl (cy 1, 16, .inl (fun _ => 0))), ((q 71), .inl (cy 0, 16, .inl (fun _ => 0))), ((q 72), .inl (cy 2, 16, .inr (.inl (fun _ => 0)))), ((q 73), .inl (cy 1, 16, .inl (fun _ => 0))), ((q 74), .inl (cy 1, 16, .inl (fun _ => 0)))] := hD
  refine lv_iload_n S.1 S.2.1 dX12_seam_5 rfl (lv_at hl 1 rfl) ?_
  refine lv_iconst (v := 0) S.1 S.2.1 dX12_seam_6 (by decide) ?_
  refine lv_aload_n S.1 S.2.1 dX12_seam_7 rfl (lv_at hl 0 rfl) ?_
  refine call_ri (runV_R (wc := [((q 0), .inr (11, (mO q 0 0 0 0 0 0 0 0 (-1) 1 0 0 0 0 0 0 0 0 0)))]) (As := []) (rest := [.int 0, .int p0]) S (kX12_rocksNow l D cy q 0 1 0 0 0) hK hP [0] rfl 0 11 rfl rfl kw_1997 kw_1999 kw_101 kw_152 kw_2000 okX12_rocksNow rfl (by decide) hl.1 rfl (Nat.le_of_ble_eq_true rfl) dX12_seam_8 (by decide)) (fun v8 w8 => ?_)
  subst w8
  refine lv_iconst (v := 1) S.1 S.2.1 dX12_seam_11 (by decide) ?_
  refine r_isub S dX12_seam_12 (v := (-1)) (by decide) ?_
  refine call_ri (runS_R (wc := []) (As := [.int p0, .int 0, .int (-1)]) (rest := []) S (kX12_within l D cy p0 0 (-1) z0 h0 0 rfl (-1) rfl) hK hP [] rfl kw_1892 kw_1893 kw_152 kw_1894 okX12_within rfl (by decide) hl.1 rfl (Nat.le_of_ble_eq_true rfl) dX12_seam_13 (by decide)) (fun v13 w13 => ?_)
  rcases w13 with ⟨rfl, w13_0_0⟩ | ⟨rfl, w13_1_0⟩
  · refine r_if_eq S 1 rfl dX12_seam_16 (tgt := 37) (by decide) (fun c => absurd c (by decide)) (fun _ => ?_)
    refine lv_iload_n S.1 S.2.1 dX12_seam_19 rfl (lv_at hl 2 rfl) ?_
    refine lv_iconst (v := 0) S.1 S.2.1 dX12_seam_20 (by decide) ?_
    refine lv_iconst (v := 3) S.1 S.2.1 dX12_seam_21 (by decide) ?_
    refine call_ri (runS_R (wc := []) (As := [.int p1, .int 0, .int 3]) (rest := []) S (kX12_within l D cy p1 0 3 z1 h1 0 rfl 3 rfl) hK hP [] rfl kw_1892 kw_1893 kw_152 kw_1894 okX12_within rfl (by decide) hl.1 rfl (Nat.le_of_ble_eq_true rfl) dX12_seam_22 (by decide)) (fun v22 w22 => ?_)
    rcases w22 with ⟨rfl, w22_0_0⟩ | ⟨rfl, w22_1_0⟩
    · refine r_if_eq S 1 rfl dX12_seam_25 (tgt := 37) (by decide) (fun c => absurd c (by decide)) (fun _ => ?_)
      refine lv_iload_n S.1 S.2.1 dX12_seam_28 rfl (lv_at hl 3 rfl) ?_
      refine lv_iconst (v := 0) S.1 S.2.1 dX12_seam_29 (by decide) ?_
      refine lv_iconst (v := 1) S.1 S.2.1 dX12_seam_30 (by decide) ?_
      refine call_ri (runS_R (wc := []) (As := [.int p2, .int 0, .int 1]) (rest := []) S (kX12_within l D cy p2 0 1 z2 h2 0 rfl 1 rfl) hK hP [] rfl kw_1892 kw_1893 kw_152 kw_1894 okX12_within rfl (by decide) hl.1 rfl (Nat.le_of_ble_eq_true rfl) dX12_seam_31 (by decide)) (fun v31 w31 => ?_)
      rcases w31 with ⟨rfl, w31_0_0⟩ | ⟨rfl, w31_1_0⟩
      · refine r_if_ne S 1 rfl dX12_seam_34 (tgt := 39) (by decide) (fun _ => ?_) (fun c => absurd c (by decide))
        refine lv_aload_n S.1 S.2.1 dX12_seam_39 rfl (lv_at hl 0 rfl) ?_
        refine call_v (wr := []) (runV_C (wc := [((q 0), .inr (11, (mO q 0 0 0 0 0 0 0 0 (-1) 1 0 0 0 0 0 0 0 0 0))), ((q 63), .inl (cy 0, 600, .inl (fun _ => 0))), ((q 64), .inl (cy 0, 600, .inl (fun _ => 0))), ((q 65), .inl (cy 0, 600, .inl (fun _ => 0))), ((q 66), .inl (cy 0, 600, .inl (fun _ => 0))), ((q 67), .inl (cy 0, 97, .inl (fun _ => 0))), ((q 68), .inl (cy 0, 97, .inl (fun _ => 0))), ((q 70), .inl (cy 1, 16, .inl (fun _ => 0))), ((q 71), .inl (cy 0, 16, .inl (fun _ => 0))), ((q 72), .inl (cy 2, 16, .inr (.inl (fun _ => 0)))), ((q 73), .inl (cy 1, 16, .inl (fun _ => 0))), ((q 74), .inl (cy 1, 16, .inl (fun _ => 0)))]) (As := []) (rest := []) S (kX12_findGrounds l D cy q 0) hK hP hD [0, 1, 2, 3, 4, 5, 6, 7, 8, 9, 10, 11] (by decide) rfl 0 11 rfl rfl kw_1946 kw_1948 kw_89 kw_152 kw_1949 okX12_findGrounds rfl (by decide) hl.1 rfl (Nat.le_of_ble_eq_true rfl) dX12_seam_40 (by decide)) hP hD hS hA [0, 1, 2, 3, 4, 5, 6, 7, 8, 9, 10, 11] [] rfl rfl (by decide) (by decide) (fun u40 H locs w40 hP hD hS => ?_)
        obtain ⟨bn_40, gd_40, cs_40, db_40, kp_40, kn_40⟩ := u40
        have hP : va_P D vwCl [((q 0), .inr (11, (mO q 0 0 0 0 0 0 0 0 (-1) 0 0 0 bn_40 0 0 1 0 0 0))), ((q 70), .inl (cy 1, 16, .inl gd_40)), ((q 71), .inl (cy 0, 16, .inl cs_40)), ((q 72), .inl (cy 2, 16, .inr (.inl db_40))), ((q 73), .inl (cy 1, 16, .inl kp_40)), ((q 74), .inl (cy 1, 16, .inl kn_40))] H := hP
        have hD : va_D A [((q 0), .inr (11, (mO q 0 0 0 0 0 0 0 0 (-1) 0 0 0 bn_40 0 0 1 0 0 0))), ((q 70), .inl (cy 1, 16, .inl gd_40)), ((q 71), .inl (cy 0, 16, .inl cs_40)), ((q 72), .inl (cy 2, 16, .inr (.inl db_40))), ((q 73), .inl (cy 1, 16, .inl kp_40)), ((q 74), .inl (cy 1, 16, .inl kn_40))] := hD
        obtain ⟨hgd, hcs, hdb, hkp, hkn⟩ := w40
        refine lv_aload_n S.1 S.2.1 dX12_seam_43 rfl (lv_at hl 0 rfl) ?_
        refine call_ri (runV_R (wc := [((q 0), .inr (11, (mO q 0 0 0 0 0 0 0 0 (-1) 0 0 0 bn_40 0 0 1 0 0 0))), ((q 73), .inl (cy 1, 16, .inl kp_40)), ((q 74), .inl (cy 1, 16, .inl kn_40))]) (As := []) (rest := []) S (kX12_areKnown l D cy q 0 bn_40 kp_40 kn_40 hkp hkn) hK hP [0, 4, 5] rfl 0 11 rfl rfl kw_2143 kw_2145 kw_127 kw_152 kw_2146 okX12_areKnown rfl (by decide) hl.1 rfl (Nat.le_of_ble_eq_true rfl) dX12_seam_44 (by decide)) (fun v44 w44 => ?_)
        subst w44
        refine r_if_ne S 0 rfl dX12_seam_47 (tgt := 52) (by decide) (fun c => absurd c (by decide)) (fun _ => ?_)
        refine lv_iconst (v := (-1)) S.1 S.2.1 dX12_seam_50 (by decide) ?_
        exact ci_ret (u := ()) S hr hlk rfl hK (hP.sub [] rfl) (hD.sub [] (by decide) rfl) hS (rfl) (by decide) (by decide) dX12_seam_51
      · refine r_if_ne S 0 rfl dX12_seam_34 (tgt := 39) (by decide) (fun c => absurd c (by decide)) (fun _ => ?_)
        refine lv_iconst (v := (-1)) S.1 S.2.1 dX12_seam_37 (by decide) ?_
        exact ci_ret (u := ()) S hr hlk rfl hK (hP.sub [] rfl) (hD.sub [] (by decide) rfl) hS (rfl) (by decide) (by decide) dX12_seam_38
    · refine r_if_eq S 0 rfl dX12_seam_25 (tgt := 37) (by decide) (fun _ => ?_) (fun c => absurd c (by decide))
      refine lv_iconst (v := (-1)) S.1 S.2.1 dX12_seam_37 (by decide) ?_
      exact ci_ret (u := ()) S hr hlk rfl hK (hP.sub [] rfl) (hD.sub [] (by decide) rfl) hS (rfl) (by decide) (by decide) dX12_seam_38
  · refine r_if_eq S 0 rfl dX12_seam_16 (tgt := 37) (by decide) (fun _ => ?_) (fun c => absurd c (by decide))
    refine lv_iconst (v := (-1)) S.1 S.2.1 dX12_seam_37 (by decide) ?_
    exact ci_ret (u := ()) S hr hlk rfl hK (hP.sub [] rfl) (hD.sub [] (by decide) rfl) hS (rfl) (by decide) (by decide) dX12_seam_38
set_option maxHeartbeats 4000000 in
set_option maxRecDepth 100000 in
theorem kX12_sheet (l : Launch) (D : va_G) (cy : Nat → ClassId) (q : Nat → Nat) (p0 : Int32) (p1 : Int32) (p2 : Int32) (p3 : Int32) (z0 : Int) (h0 : p0.toInt = z0) (z1 : Int) (h1 : p1.toInt = z1) (z2 : Int) (h2 : p2.toInt = z2) (z3 : Int) (h3 : p3.toInt = z3) : CI l D cy yX12_sheet cX12_sheet 7 (some .int) 6 152 0 0 [.ref (q 0), .int p0, .int p1, .int p2, .int p3] [((q 0), .inr (11, (mO q 0 0 0 0 0 0 0 0 (-1) 1 0 0 0 0 0 0 0 0 0))), ((q 63), .inl (cy 0, 600, .inl (fun _ => 0))), ((q 64), .inl (cy 0, 600, .inl (fun _ => 0))), ((q 65), .inl (cy 0, 600, .inl (fun _ => 0))), ((q 66), .inl (cy 0, 600, .inl (fun _ => 0))), ((q 67), .inl (cy 0, 97, .inl (fun _ => 0))), ((q 68), .inl (cy 0, 97, .inl (fun _ => 0))), ((q 70), .inl (cy 1, 16, .inl (fun _ => 0))), ((q 71), .inl (cy 0, 16, .inl (fun _ => 0))), ((q 72), .inl (cy 2, 16, .inr (.inl (fun _ => 0)))), ((q 73), .inl (cy 1, 16, .inl (fun _ => 0))), ((q 74), .inl (cy 1, 16, .inl (fun _ => 0))), ((q 81), .inl (cy 0, 960, .inl (fun _ => 0)))] (fun (v : Int32) (u : Unit) => (v = 0 ∧ (0 ≤ z0 ∧ z0 ≤ 11 ∧ 0 ≤ z1 ∧ z1 ≤ 7 ∧ 0 ≤ z2 ∧ z2 ≤ 11 ∧ 0 ≤ z3 ∧ z3 ≤ 7 ∧ z0 ≤ z2 ∧ z1 ≤ z3)) ∨ (v = (-1) ∧ ¬ (0 ≤ z0 ∧ z0 ≤ 11 ∧ 0 ≤ z1 ∧ z1 ≤ 7 ∧ 0 ≤ z2 ∧ z2 ≤ 11 ∧ 0 ≤ z3 ∧ z3 ≤ 7 ∧ z0 ≤ z2 ∧ z1 ≤ z3))) (fun (u : Unit) => []) := by
  refine ci_go (by decide) (Nat.le_of_ble_eq_true rfl) (fun p e s m below meth c ls A hA S hr hlk hnm hP hK hD hl => ?_)
  have hS : va_S A s.heap s.heap [] := va_S.rf
  have hl : lv_has ls 7 [(0, .ref (q 0)), (1, .int p0), (2, .int p1), (3, .int p2), (4, .int p3)] := hl
  refine lv_aload_n S.1 S.2.1 dX12_sheet_0 rfl (lv_at hl 0 rfl) ?_
  refine lv_iconst (v := 0) S.1 S.2.1 dX12_sheet_1 (by decide) ?_
  refine r_put S hK hP hD hS 0 11 rfl rfl inX12 0 (by decide) tyX12 tyX12_ok nmX12 kw_1510 (v := .int 0) rfl rfl rfl (Nat.le_of_ble_eq_true rfl) dX12_sheet_2 (fun H locs hP hD hS => ?_)
  have hP : va_P D vwCl [((q 0), .inr (11, (mO q 0 0 0 0 0 0 0 0 (-1) 1 0 0 0 0 0 0 0 0 0))), ((q 63), .inl (cy 0, 600, .inl (fun _ => 0))), ((q 64), .inl (cy 0, 600, .inl (fun _ => 0))), ((q 65), .inl (cy 0, 600, .inl (fun _ => 0))), ((q 66), .inl (cy 0, 600, .inl (fun _ => 0))), ((q 67), .inl (cy 0, 97, .inl (fun _ => 0))), ((q 68), .inl (cy 0, 97, .inl (fun _ => 0))), ((q 70), .inl (cy 1, 16, .inl (fun _ => 0))), ((q 71), .inl (cy 0, 16, .inl (fun _ => 0))), ((q 72), .inl (cy 2, 16, .inr (.inl (fun _ => 0)))), ((q 73), .inl (cy 1, 16, .inl (fun _ => 0))), ((q 74), .inl (cy 1, 16, .inl (fun _ => 0))), ((q 81), .inl (cy 0, 960, .inl (fun _ => 0)))] H := hP
  have hD : va_D A [((q 0), .inr (11, (mO q 0 0 0 0 0 0 0 0 (-1) 1 0 0 0 0 0 0 0 0 0))), ((q 63), .inl (cy 0, 600, .inl (fun _ => 0))), ((q 64), .inl (cy 0, 600, .inl (fun _ => 0))), ((q 65), .inl (cy 0, 600, .inl (fun _ => 0))), ((q 66), .inl (cy 0, 600, .inl (fun _ => 0))), ((q 67), .inl (cy 0, 97, .inl (fun _ => 0))), ((q 68), .inl (cy 0, 97, .inl (fun _ => 0))), ((q 70), .inl (cy 1, 16, .inl (fun _ => 0))), ((q 71), .inl (cy 0, 16, .inl (fun _ => 0))), ((q 72), .inl (cy 2, 16, .inr (.inl (fun _ => 0)))), ((q 73), .inl (cy 1, 16, .inl (fun _ => 0))), ((q 74), .inl (cy 1, 16, .inl (fun _ => 0))), ((q 81), .inl (cy 0, 960, .inl (fun _ => 0)))] := hD
  refine lv_iload_n S.1 S.2.1 dX12_sheet_5 rfl (lv_at hl 1 rfl) ?_
  refine lv_iload_n S.1 S.2.1 dX12_sheet_6 rfl (lv_at hl 2 rfl) ?_
  refine call_ri (runS_R (wc := []) (As := [.int p0, .int p1]) (rest := []) S (kX12_isCell l D cy p0 p1 z0 h0 z1 h1) hK hP [] rfl kw_1903 kw_1904 kw_152 kw_1905 okX12_isCell rfl (by decide) hl.1 rfl (Nat.le_of_ble_eq_true rfl) dX12_sheet_7 (by decide)) (fun v7 w7 => ?_)
  rcases w7 with ⟨rfl, w7_0_0⟩ | ⟨rfl, w7_1_0⟩
  · refine r_if_eq S 1 rfl dX12_sheet_10 (tgt := 42) (by decide) (fun c => absurd c (by decide)) (fun _ => ?_)
    refine lv_iload_n S.1 S.2.1 dX12_sheet_13 rfl (lv_at hl 3 rfl) ?_
    refine lv_iload S.1 S.2.1 dX12_sheet_14 (lv_at hl 4 rfl) ?_
    refine call_ri (runS_R (wc := []) (As := [.int p2, .int p3]) (rest := []) S (kX12_isCell l D cy p2 p3 z2 h2 z3 h3) hK hP [] rfl kw_1903 kw_1904 kw_152 kw_1905 okX12_isCell rfl (by decide) hl.1 rfl (Nat.le_of_ble_eq_true rfl) dX12_sheet_16 (by decide)) (fun v16 w16 => ?_)
    rcases w16 with ⟨rfl, w16_0_0⟩ | ⟨rfl, w16_1_0⟩
    · refine r_if_eq S 1 rfl dX12_sheet_19 (tgt := 42) (by decide) (fun c => absurd c (by decide)) (fun _ => ?_)
      refine lv_iload_n S.1 S.2.1 dX12_sheet_22 rfl (lv_at hl 1 rfl) ?_
      refine lv_iload_n S.1 S.2.1 dX12_sheet_23 rfl (lv_at hl 3 rfl) ?_
      refine r_icmp_gt S z0 z2 h0 h2 dX12_sheet_24 (tgt := 42) (by decide) (fun e_24_1 => ?_) (fun e_24_1 => ?_)
      · refine lv_iconst (v := (-1)) S.1 S.2.1 dX12_sheet_42 (by decide) ?_
        exact ci_ret (u := ()) S hr hlk rfl hK (hP.sub [] rfl) (hD.sub [] (by decide) rfl) hS (Or.inr (⟨rfl, (by omega)⟩)) (by decide) (by decide) dX12_sheet_43
      · refine lv_iload_n S.1 S.2.1 dX12_sheet_27 rfl (lv_at hl 2 rfl) ?_
        refine lv_iload S.1 S.2.1 dX12_sheet_28 (lv_at hl 4 rfl) ?_
        refine r_icmp_gt S z1 z3 h1 h3 dX12_sheet_30 (tgt := 42) (by decide) (fun e_30_2 => ?_) (fun e_30_2 => ?_)
        · refine lv_iconst (v := (-1)) S.1 S.2.1 dX12_sheet_42 (by decide) ?_
          exact ci_ret (u := ()) S hr hlk rfl hK (hP.sub [] rfl) (hD.sub [] (by decide) rfl) hS (Or.inr (⟨rfl, (by omega)⟩)) (by decide) (by decide) dX12_sheet_43
        · refine lv_aload_n S.1 S.2.1 dX12_sheet_33 rfl (lv_at hl 0 rfl) ?_
          refine r_get S hK hP 0 11 rfl rfl inX12 80 (by decide) kw_1590 (v := .int 0) rfl dX12_sheet_34 ?_
          refine lv_bipush (v := 10) S.1 S.2.1 dX12_sheet_37 (by decide) ?_
          refine r_icmp_ne S 0 10 rfl rfl dX12_sheet_39 (tgt := 44) (by decide) (fun _ => ?_) (fun c => absurd c (by decide))
          refine lv_aload_n S.1 S.2.1 dX12_sheet_44 rfl (lv_at hl 0 rfl) ?_
          refine call_v (wr := [((q 81), .inl (cy 0, 960, .inl (fun _ => 0)))]) (runV_C (wc := [((q 0), .inr (11, (mO q 0 0 0 0 0 0 0 0 (-1) 1 0 0 0 0 0 0 0 0 0))), ((q 63), .inl (cy 0, 600, .inl (fun _ => 0))), ((q 64), .inl (cy 0, 600, .inl (fun _ => 0))), ((q 65), .inl (cy 0, 600, .inl (fun _ => 0))), ((q 66), .inl (cy 0, 600, .inl (fun _ => 0))), ((q 67), .inl (cy 0, 97, .inl (fun _ => 0))), ((q 68), .inl (cy 0, 97, .inl (fun _ => 0))), ((q 70), .inl (cy 1, 16, .inl (fun _ => 0))), ((q 71), .inl (cy 0, 16, .inl (fun _ => 0))), ((q 72), .inl (cy 2, 16, .inr (.inl (fun _ => 0)))), ((q 73), .inl (cy 1, 16, .inl (fun _ => 0))), ((q 74), .inl (cy 1, 16, .inl (fun _ => 0)))]) (As := []) (rest := []) S (kX12_findGrounds l D cy q 0) hK hP hD [0, 1, 2, 3, 4, 5, 6, 7, 8, 9, 10, 11] (by decide) rfl 0 11 rfl rfl kw_1946 kw_1948 kw_89 kw_152 kw_1949 okX12_findGrounds rfl (by decide) hl.1 rfl (Nat.le_of_ble_eq_true rfl) dX12_sheet_45 (by decide)) hP hD hS hA [0, 1, 2, 3, 4, 5, 6, 7, 8, 9, 10, 11] [12] rfl rfl (by decide) (by decide) (fun u45 H locs w45 hP hD hS => ?_)
          obtain ⟨bn_45, gd_45, cs_45, db_45, kp_45, kn_45⟩ := u45
          have hP : va_P D vwCl [((q 81), .inl (cy 0, 960, .inl (fun _ => 0))), ((q 0), .inr (11, (mO q 0 0 0 0 0 0 0 0 (-1) 0 0 0 bn_45 0 0 1 0 0 0))), ((q 70), .inl (cy 1, 16, .inl gd_45)), ((q 71), .inl (cy 0, 16, .inl cs_45)), ((q 72), .inl (cy 2, 16, .inr (.inl db_45))), ((q 73), .inl (cy 1, 16, .inl kp_45)), ((q 74), .inl (cy 1, 16, .inl kn_45))] H := hP
          have hD : va_D A [((q 81), .inl (cy 0, 960, .inl (fun _ => 0))), ((q 0), .inr (11, (mO q 0 0 0 0 0 0 0 0 (-1) 0 0 0 bn_45 0 0 1 0 0 0))), ((q 70), .inl (cy 1, 16, .inl gd_45)), ((q 71), .inl (cy 0, 16, .inl cs_45)), ((q 72), .inl (cy 2, 16, .inr (.inl db_45))), ((q 73), .inl (cy 1, 16, .inl kp_45)), ((q 74), .inl (cy 1, 16, .inl kn_45))] := hD
          obtain ⟨hgd, hcs, hdb, hkp, hkn⟩ := w45
          refine lv_aload_n S.1 S.2.1 dX12_sheet_48 rfl (lv_at hl 0 rfl) ?_
          refine r_get S hK hP 1 11 rfl rfl inX12 78 (by decide) kw_1588 (v := .int 1) rfl dX12_sheet_49 ?_
          refine r_if_ne S 1 rfl dX12_sheet_52 (tgt := 57) (by decide) (fun _ => ?_) (fun c => absurd c (by decide))
          refine lv_iconst (v := 0) S.1 S.2.1 dX12_sheet_57 (by decide) ?_
          refine lv_istore (lv' := [(5, .int 0), (0, .ref (q 0)), (1, .int p0), (2, .int p1), (3, .int p2), (4, .int p3)]) S.1 S.2.1 dX12_sheet_58 hl (by decide) rfl (fun ls hl => ?_)
          refine loopN (σ := (Nat → Int32)) 60 96 (fun k xs9 => [((q 81), .inl (cy 0, 960, .inl (xs9))), ((q 0), .inr (11, (mO q 0 0 0 0 0 0 0 0 (-1) 0 0 0 bn_45 0 0 1 0 0 0))), ((q 70), .inl (cy 1, 16, .inl gd_45)), ((q 71), .inl (cy 0, 16, .inl cs_45)), ((q 72), .inl (cy 2, 16, .inr (.inl db_45))), ((q 73), .inl (cy 1, 16, .inl kp_45)), ((q 74), .inl (cy 1, 16, .inl kn_45))]) (fun k xs9 => [(5, .int (nI (k))), (0, .ref (q 0)), (1, .int p0), (2, .int p1), (3, .int p2), (4, .int p3)]) (fun k xs9 => True) (fun xs9 hJ H locs ls hP hD hS hl => ?_) (fun k xs9 hk hJ H locs ls hP hD hS hl ih => ?_) (fun _ => 0) trivial (hP.sub [0, 1, 2, 3, 4, 5, 6] rfl) (hD.sub [0, 1, 2, 3, 4, 5, 6] (by decide) rfl) hS (lv_sub hl [0, 1, 2, 3, 4, 5] rfl)
          · obtain ⟨g9, rfl⟩ : ∃ z, z = xs9 := ⟨_, rfl⟩
            have hP : va_P D vwCl [((q 81), .inl (cy 0, 960, .inl g9)), ((q 0), .inr (11, (mO q 0 0 0 0 0 0 0 0 (-1) 0 0 0 bn_45 0 0 1 0 0 0))), ((q 70), .inl (cy 1, 16, .inl gd_45)), ((q 71), .inl (cy 0, 16, .inl cs_45)), ((q 72), .inl (cy 2, 16, .inr (.inl db_45))), ((q 73), .inl (cy 1, 16, .inl kp_45)), ((q 74), .inl (cy 1, 16, .inl kn_45))] H := hP
            have hD : va_D A [((q 81), .inl (cy 0, 960, .inl g9)), ((q 0), .inr (11, (mO q 0 0 0 0 0 0 0 0 (-1) 0 0 0 bn_45 0 0 1 0 0 0))), ((q 70), .inl (cy 1, 16, .inl gd_45)), ((q 71), .inl (cy 0, 16, .inl cs_45)), ((q 72), .inl (cy 2, 16, .inr (.inl db_45))), ((q 73), .inl (cy 1, 16, .inl kp_45)), ((q 74), .inl (cy 1, 16, .inl kn_45))] := hD
            have hl : lv_has ls 7 [(5, .int 96), (0, .ref (q 0)), (1, .int p0), (2, .int p1), (3, .int p2), (4, .int p3)] := hl
            refine lv_iload S.1 S.2.1 dX12_sheet_60 (lv_at hl 0 rfl) ?_
            refine lv_bipush (v := 96) S.1 S.2.1 dX12_sheet_62 (by decide) ?_
            refine r_icmp_ge S 96 96 rfl rfl dX12_sheet_64 (tgt := 138) (by decide) (fun _ => ?_) (fun c => absurd c (by decide))
            refine lv_aload_n S.1 S.2.1 dX12_sheet_138 rfl (lv_at hl 1 rfl) ?_
            refine lv_dup S.1 S.2.1 dX12_sheet_139 rfl ?_
            refine r_get S hK hP 1 11 rfl rfl inX12 80 (by decide) kw_1590 (v := .int 0) rfl dX12_sheet_140 ?_
            refine lv_iconst (v := 1) S.1 S.2.1 dX12_sheet_143 (by decide) ?_
            refine r_iadd S dX12_sheet_144 (v := 1) (by decide) ?_
            refine r_put S hK hP hD hS 1 11 rfl rfl inX12 80 (by decide) tyX12 tyX12_ok nmX12 kw_1590 (v := .int 1) rfl rfl rfl (Nat.le_of_ble_eq_true rfl) dX12_sheet_145 (fun H locs hP hD hS => ?_)
            have hP : va_P D vwCl [((q 81), .inl (cy 0, 960, .inl g9)), ((q 0), .inr (11, (mO q 0 0 0 0 0 0 0 0 (-1) 0 0 0 bn_45 0 0 1 0 1 0))), ((q 70), .inl (cy 1, 16, .inl gd_45)), ((q 71), .inl (cy 0, 16, .inl cs_45)), ((q 72), .inl (cy 2, 16, .inr (.inl db_45))), ((q 73), .inl (cy 1, 16, .inl kp_45)), ((q 74), .inl (cy 1, 16, .inl kn_45))] H := hP
            have hD : va_D A [((q 81), .inl (cy 0, 960, .inl g9)), ((q 0), .inr (11, (mO q 0 0 0 0 0 0 0 0 (-1) 0 0 0 bn_45 0 0 1 0 1 0))), ((q 70), .inl (cy 1, 16, .inl gd_45)), ((q 71), .inl (cy 0, 16, .inl cs_45)), ((q 72), .inl (cy 2, 16, .inr (.inl db_45))), ((q 73), .inl (cy 1, 16, .inl kp_45)), ((q 74), .inl (cy 1, 16, .inl kn_45))] := hD
            refine lv_aload_n S.1 S.2.1 dX12_sheet_148 rfl (lv_at hl 1 rfl) ?_
            refine r_get S hK hP 1 11 rfl rfl inX12 80 (by decide) kw_1590 (v := .int 1) rfl dX12_sheet_149 ?_
            refine lv_iconst (v := 1) S.1 S.2.1 dX12_sheet_152 (by decide) ?_
            refine r_isub S dX12_sheet_153 (v := 0) (by decide) ?_
            exact ci_ret (u := ()) S hr hlk rfl hK (hP.sub [] rfl) (hD.sub [] (by decide) rfl) hS (Or.inl ⟨rfl, (by omega)⟩) (by decide) (by decide) dX12_sheet_154
          · obtain ⟨g9, rfl⟩ : ∃ z, z = xs9 := ⟨_, rfl⟩
            have hP : va_P D vwCl [((q 81), .inl (cy 0, 960, .inl g9)), ((q 0), .inr (11, (mO q 0 0 0 0 0 0 0 0 (-1) 0 0 0 bn_45 0 0 1 0 0 0))), ((q 70), .inl (cy 1, 16, .inl gd_45)), ((q 71), .inl (cy 0, 16, .inl cs_45)), ((q 72), .inl (cy 2, 16, .inr (.inl db_45))), ((q 73), .inl (cy 1, 16, .inl kp_45)), ((q 74), .inl (cy 1, 16, .inl kn_45))] H := hP
            have hD : va_D A [((q 81), .inl (cy 0, 960, .inl g9)), ((q 0), .inr (11, (mO q 0 0 0 0 0 0 0 0 (-1) 0 0 0 bn_45 0 0 1 0 0 0))), ((q 70), .inl (cy 1, 16, .inl gd_45)), ((q 71), .inl (cy 0, 16, .inl cs_45)), ((q 72), .inl (cy 2, 16, .inr (.inl db_45))), ((q 73), .inl (cy 1, 16, .inl kp_45)), ((q 74), .inl (cy 1, 16, .inl kn_45))] := hD
            have hl : lv_has ls 7 [(5, .int (nI (k))), (0, .ref (q 0)), (1, .int p0), (2, .int p1), (3, .int p2), (4, .int p3)] := hl
            refine lv_iload S.1 S.2.1 dX12_sheet_60 (lv_at hl 0 rfl) ?_
            refine lv_bipush (v := 96) S.1 S.2.1 dX12_sheet_62 (by decide) ?_
            refine r_icmp_ge S ((k : Nat) : Int) 96 (nI_toInt (by omega)) rfl dX12_sheet_64 (tgt := 138) (by decide) (fun c => absurd c (by omega)) (fun _ => ?_)
            refine lv_iload S.1 S.2.1 dX12_sheet_67 (lv_at hl 0 rfl) ?_
            refine lv_bipush (v := 12) S.1 S.2.1 dX12_sheet_69 (by decide) ?_
            refine r_irem S dX12_sheet_71 (by decide) (v := (nI ((k) % 12))) (pk_rem (a := (k)) (d := 12) (by omega) (by omega) (by omega)) ?_
            refine lv_iload_n S.1 S.2.1 dX12_sheet_72 rfl (lv_at hl 2 rfl) ?_
            refine lv_iload_n S.1 S.2.1 dX12_sheet_73 rfl (lv_at hl 4 rfl) ?_
            refine call_ri (runS_R (wc := []) (As := [.int (nI ((k) % 12)), .int p0, .int p2]) (rest := []) S (kX12_within l D cy (nI ((k) % 12)) p0 p2 (((k) % 12 : Nat) : Int) (nI_toInt (by omega)) z0 h0 z2 h2) hK hP [] rfl kw_1892 kw_1893 kw_152 kw_1894 okX12_within rfl (by decide) hl.1 rfl (Nat.le_of_ble_eq_true rfl) dX12_sheet_74 (by decide)) (fun v74 w74 => ?_)
            rcases w74 with ⟨rfl, w74_0_0⟩ | ⟨rfl, w74_1_0⟩
            · refine r_if_eq S 1 rfl dX12_sheet_77 (tgt := 98) (by decide) (fun c => absurd c (by decide)) (fun _ => ?_)
              refine lv_iload S.1 S.2.1 dX12_sheet_80 (lv_at hl 0 rfl) ?_
              refine lv_bipush (v := 12) S.1 S.2.1 dX12_sheet_82 (by decide) ?_
              refine r_idiv S dX12_sheet_84 (by decide) (v := (nI ((k) / 12))) (pk_div (a := (k)) (d := 12) (by omega) (by omega) (by omega)) ?_
              refine lv_iload_n S.1 S.2.1 dX12_sheet_85 rfl (lv_at hl 3 rfl) ?_
              refine lv_iload S.1 S.2.1 dX12_sheet_86 (lv_at hl 5 rfl) ?_
              refine call_ri (runS_R (wc := []) (As := [.int (nI ((k) / 12)), .int p1, .int p3]) (rest := []) S (kX12_within l D cy (nI ((k) / 12)) p1 p3 (((k) / 12 : Nat) : Int) (nI_toInt (by omega)) z1 h1 z3 h3) hK hP [] rfl kw_1892 kw_1893 kw_152 kw_1894 okX12_within rfl (by decide) hl.1 rfl (Nat.le_of_ble_eq_true rfl) dX12_sheet_88 (by decide)) (fun v88 w88 => ?_)
              rcases w88 with ⟨rfl, w88_0_0⟩ | ⟨rfl, w88_1_0⟩
              · refine r_if_eq S 1 rfl dX12_sheet_91 (tgt := 98) (by decide) (fun c => absurd c (by decide)) (fun _ => ?_)
                refine lv_iconst (v := 1) S.1 S.2.1 dX12_sheet_94 (by decide) ?_
                refine lv_goto (tgt := 99) S.1 S.2.1 dX12_sheet_95 (by decide) ?_
                refine lv_istore (lv' := [(6, .int 1), (5, .int (nI (k))), (0, .ref (q 0)), (1, .int p0), (2, .int p1), (3, .int p2), (4, .int p3)]) S.1 S.2.1 dX12_sheet_99 hl (by decide) rfl (fun ls hl => ?_)
                refine lv_aload_n S.1 S.2.1 dX12_sheet_101 rfl (lv_at hl 2 rfl) ?_
                refine r_get S hK hP 1 11 rfl rfl inX12 81 (by decide) kw_1591 (v := .ref (q 81)) rfl dX12_sheet_102 ?_
                refine lv_bipush (v := 96) S.1 S.2.1 dX12_sheet_105 (by decide) ?_
                refine lv_aload_n S.1 S.2.1 dX12_sheet_107 rfl (lv_at hl 2 rfl) ?_
                refine r_get S hK hP 1 11 rfl rfl inX12 80 (by decide) kw_1590 (v := .int 0) rfl dX12_sheet_108 ?_
                refine r_imul S dX12_sheet_111 (v := 0) (by decide) ?_
                refine lv_iload S.1 S.2.1 dX12_sheet_112 (lv_at hl 1 rfl) ?_
                refine r_iadd S dX12_sheet_114 (v := (nI (0 + (k)))) (nI_add (0) ((k))) ?_
                refine lv_iload S.1 S.2.1 dX12_sheet_115 (lv_at hl 0 rfl) ?_
                refine r_if_eq S 1 rfl dX12_sheet_117 (tgt := 130) (by decide) (fun c => absurd c (by decide)) (fun _ => ?_)
                refine lv_aload_n S.1 S.2.1 dX12_sheet_120 rfl (lv_at hl 2 rfl) ?_
                refine lv_iload S.1 S.2.1 dX12_sheet_121 (lv_at hl 1 rfl) ?_
                refine lv_iconst (v := 0) S.1 S.2.1 dX12_sheet_123 (by decide) ?_
                refine call_ri (runV_R (wc := [((q 0), .inr (11, (mO q 0 0 0 0 0 0 0 0 (-1) 0 0 0 bn_45 0 0 1 0 0 0))), ((q 73), .inl (cy 1, 16, .inl kp_45)), ((q 74), .inl (cy 1, 16, .inl kn_45))]) (As := [.int (nI (k)), .int 0]) (rest := [.int (nI (0 + (k))), .ref (q 81)]) S (kX12_mayLieAll l D cy q 0 0 bn_45 0 1 kp_45 kn_45 (nI (k)) 0 ((k : Nat) : Int) (nI_toInt (by omega)) 0 rfl hkp hkn) hK hP [1, 5, 6] rfl 0 11 rfl rfl kw_2120 kw_2122 kw_124 kw_152 kw_2123 okX12_mayLieAll rfl (by decide) hl.1 rfl (Nat.le_of_ble_eq_true rfl) dX12_sheet_124 (by decide)) (fun v124 w124 => ?_)
                subst w124
                refine lv_goto (tgt := 131) S.1 S.2.1 dX12_sheet_127 (by decide) ?_
                refine r_iast S hK hP hD hS 0 0 rfl rfl ((0 + (k))) rfl (by omega) (by decide) dX12_sheet_131 (fun H locs hP hD hS => ?_)
                have hP : va_P D vwCl [((q 81), .inl (cy 0, 960, .inl (upd g9 ((0 + (k))) 3072))), ((q 0), .inr (11, (mO q 0 0 0 0 0 0 0 0 (-1) 0 0 0 bn_45 0 0 1 0 0 0))), ((q 70), .inl (cy 1, 16, .inl gd_45)), ((q 71), .inl (cy 0, 16, .inl cs_45)), ((q 72), .inl (cy 2, 16, .inr (.inl db_45))), ((q 73), .inl (cy 1, 16, .inl kp_45)), ((q 74), .inl (cy 1, 16, .inl kn_45))] H := hP
                have hD : va_D A [((q 81), .inl (cy 0, 960, .inl (upd g9 ((0 + (k))) 3072))), ((q 0), .inr (11, (mO q 0 0 0 0 0 0 0 0 (-1) 0 0 0 bn_45 0 0 1 0 0 0))), ((q 70), .inl (cy 1, 16, .inl gd_45)), ((q 71), .inl (cy 0, 16, .inl cs_45)), ((q 72), .inl (cy 2, 16, .inr (.inl db_45))), ((q 73), .inl (cy 1, 16, .inl kp_45)), ((q 74), .inl (cy 1, 16, .inl kn_45))] := hD
                refine lv_iinc (v := (nI ((k) + 1))) (lv' := [(5, .int (nI ((k) + 1))), (6, .int 1), (0, .ref (q 0)), (1, .int p0), (2, .int p1), (3, .int p2), (4, .int p3)]) S.1 S.2.1 dX12_sheet_132 hl (k := 1) rfl (nI_1 (k)) (by decide) rfl (fun ls hl => ?_)
                refine lv_goto (tgt := 60) S.1 S.2.1 dX12_sheet_135 (by decide) ?_
                exact ih (upd g9 ((0 + (k))) 3072) _ _ _ trivial (hP.sub [0, 1, 2, 3, 4, 5, 6] rfl) (hD.sub [0, 1, 2, 3, 4, 5, 6] (by decide) rfl) hS (lv_sub hl [0, 2, 3, 4, 5, 6] rfl)
              · refine r_if_eq S 0 rfl dX12_sheet_91 (tgt := 98) (by decide) (fun _ => ?_) (fun c => absurd c (by decide))
                refine lv_iconst (v := 0) S.1 S.2.1 dX12_sheet_98 (by decide) ?_
                refine lv_istore (lv' := [(6, .int 0), (5, .int (nI (k))), (0, .ref (q 0)), (1, .int p0), (2, .int p1), (3, .int p2), (4, .int p3)]) S.1 S.2.1 dX12_sheet_99 hl (by decide) rfl (fun ls hl => ?_)
                refine lv_aload_n S.1 S.2.1 dX12_sheet_101 rfl (lv_at hl 2 rfl) ?_
                refine r_get S hK hP 1 11 rfl rfl inX12 81 (by decide) kw_1591 (v := .ref (q 81)) rfl dX12_sheet_102 ?_
                refine lv_bipush (v := 96) S.1 S.2.1 dX12_sheet_105 (by decide) ?_
                refine lv_aload_n S.1 S.2.1 dX12_sheet_107 rfl (lv_at hl 2 rfl) ?_
                refine r_get S hK hP 1 11 rfl rfl inX12 80 (by decide) kw_1590 (v := .int 0) rfl dX12_sheet_108 ?_
                refine r_imul S dX12_sheet_111 (v := 0) (by decide) ?_
                refine lv_iload S.1 S.2.1 dX12_sheet_112 (lv_at hl 1 rfl) ?_
                refine r_iadd S dX12_sheet_114 (v := (nI (0 + (k)))) (nI_add (0) ((k))) ?_
                refine lv_iload S.1 S.2.1 dX12_sheet_115 (lv_at hl 0 rfl) ?_
                refine r_if_eq S 0 rfl dX12_sheet_117 (tgt := 130) (by decide) (fun _ => ?_) (fun c => absurd c (by decide))
                refine lv_iconst (v := (-1)) S.1 S.2.1 dX12_sheet_130 (by decide) ?_
                refine r_iast S hK hP hD hS 0 0 rfl rfl ((0 + (k))) rfl (by omega) (by decide) dX12_sheet_131 (fun H locs hP hD hS => ?_)
                have hP : va_P D vwCl [((q 81), .inl (cy 0, 960, .inl (upd g9 ((0 + (k))) (-1)))), ((q 0), .inr (11, (mO q 0 0 0 0 0 0 0 0 (-1) 0 0 0 bn_45 0 0 1 0 0 0))), ((q 70), .inl (cy 1, 16, .inl gd_45)), ((q 71), .inl (cy 0, 16, .inl cs_45)), ((q 72), .inl (cy 2, 16, .inr (.inl db_45))), ((q 73), .inl (cy 1, 16, .inl kp_45)), ((q 74), .inl (cy 1, 16, .inl kn_45))] H := hP
                have hD : va_D A [((q 81), .inl (cy 0, 960, .inl (upd g9 ((0 + (k))) (-1)))), ((q 0), .inr (11, (mO q 0 0 0 0 0 0 0 0 (-1) 0 0 0 bn_45 0 0 1 0 0 0))), ((q 70), .inl (cy 1, 16, .inl gd_45)), ((q 71), .inl (cy 0, 16, .inl cs_45)), ((q 72), .inl (cy 2, 16, .inr (.inl db_45))), ((q 73), .inl (cy 1, 16, .inl kp_45)), ((q 74), .inl (cy 1, 16, .inl kn_45))] := hD
                refine lv_iinc (v := (nI ((k) + 1))) (lv' := [(5, .int (nI ((k) + 1))), (6, .int 0), (0, .ref (q 0)), (1, .int p0), (2, .int p1), (3, .int p2), (4, .int p3)]) S.1 S.2.1 dX12_sheet_132 hl (k := 1) rfl (nI_1 (k)) (by decide) rfl (fun ls hl => ?_)
                refine lv_goto (tgt := 60) S.1 S.2.1 dX12_sheet_135 (by decide) ?_
                exact ih (upd g9 ((0 + (k))) (-1)) _ _ _ trivial (hP.sub [0, 1, 2, 3, 4, 5, 6] rfl) (hD.sub [0, 1, 2, 3, 4, 5, 6] (by decide) rfl) hS (lv_sub hl [0, 2, 3, 4, 5, 6] rfl)
            · refine r_if_eq S 0 rfl dX12_sheet_77 (tgt := 98) (by decide) (fun _ => ?_) (fun c => absurd c (by decide))
              refine lv_iconst (v := 0) S.1 S.2.1 dX12_sheet_98 (by decide) ?_
              refine lv_istore (lv' := [(6, .int 0), (5, .int (nI (k))), (0, .ref (q 0)), (1, .int p0), (2, .int p1), (3, .int p2), (4, .int p3)]) S.1 S.2.1 dX12_sheet_99 hl (by decide) rfl (fun ls hl => ?_)
              refine lv_aload_n S.1 S.2.1 dX12_sheet_101 rfl (lv_at hl 2 rfl) ?_
              refine r_get S hK hP 1 11 rfl rfl inX12 81 (by decide) kw_1591 (v := .ref (q 81)) rfl dX12_sheet_102 ?_
              refine lv_bipush (v := 96) S.1 S.2.1 dX12_sheet_105 (by decide) ?_
              refine lv_aload_n S.1 S.2.1 dX12_sheet_107 rfl (lv_at hl 2 rfl) ?_
              refine r_get S hK hP 1 11 rfl rfl inX12 80 (by decide) kw_1590 (v := .int 0) rfl dX12_sheet_108 ?_
              refine r_imul S dX12_sheet_111 (v := 0) (by decide) ?_
              refine lv_iload S.1 S.2.1 dX12_sheet_112 (lv_at hl 1 rfl) ?_
              refine r_iadd S dX12_sheet_114 (v := (nI (0 + (k)))) (nI_add (0) ((k))) ?_
              refine lv_iload S.1 S.2.1 dX12_sheet_115 (lv_at hl 0 rfl) ?_
              refine r_if_eq S 0 rfl dX12_sheet_117 (tgt := 130) (by decide) (fun _ => ?_) (fun c => absurd c (by decide))
              refine lv_iconst (v := (-1)) S.1 S.2.1 dX12_sheet_130 (by decide) ?_
              refine r_iast S hK hP hD hS 0 0 rfl rfl ((0 + (k))) rfl (by omega) (by decide) dX12_sheet_131 (fun H locs hP hD hS => ?_)
              have hP : va_P D vwCl [((q 81), .inl (cy 0, 960, .inl (upd g9 ((0 + (k))) (-1)))), ((q 0), .inr (11, (mO q 0 0 0 0 0 0 0 0 (-1) 0 0 0 bn_45 0 0 1 0 0 0))), ((q 70), .inl (cy 1, 16, .inl gd_45)), ((q 71), .inl (cy 0, 16, .inl cs_45)), ((q 72), .inl (cy 2, 16, .inr (.inl db_45))), ((q 73), .inl (cy 1, 16, .inl kp_45)), ((q 74), .inl (cy 1, 16, .inl kn_45))] H := hP
              have hD : va_D A [((q 81), .inl (cy 0, 960, .inl (upd g9 ((0 + (k))) (-1)))), ((q 0), .inr (11, (mO q 0 0 0 0 0 0 0 0 (-1) 0 0 0 bn_45 0 0 1 0 0 0))), ((q 70), .inl (cy 1, 16, .inl gd_45)), ((q 71), .inl (cy 0, 16, .inl cs_45)), ((q 72), .inl (cy 2, 16, .inr (.inl db_45))), ((q 73), .inl (cy 1, 16, .inl kp_45)), ((q 74), .inl (cy 1, 16, .inl kn_45))] := hD
              refine lv_iinc (v := (nI ((k) + 1))) (lv' := [(5, .int (nI ((k) + 1))), (6, .int 0), (0, .ref (q 0)), (1, .int p0), (2, .int p1), (3, .int p2), (4, .int p3)]) S.1 S.2.1 dX12_sheet_132 hl (k := 1) rfl (nI_1 (k)) (by decide) rfl (fun ls hl => ?_)
              refine lv_goto (tgt := 60) S.1 S.2.1 dX12_sheet_135 (by decide) ?_
              exact ih (upd g9 ((0 + (k))) (-1)) _ _ _ trivial (hP.sub [0, 1, 2, 3, 4, 5, 6] rfl) (hD.sub [0, 1, 2, 3, 4, 5, 6] (by decide) rfl) hS (lv_sub hl [0, 2, 3, 4, 5, 6] rfl)
    · refine r_if_eq S 0 rfl dX12_sheet_19 (tgt := 42) (by decide) (fun _ => ?_) (fun c => absurd c (by decide))
      refine lv_iconst (v := (-1)) S.1 S.2.1 dX12_sheet_42 (by decide) ?_
      exact ci_ret (u := ()) S hr hlk rfl hK (hP.sub [] rfl) (hD.sub [] (by decide) rfl) hS (Or.inr (⟨rfl, (by omega)⟩)) (by decide) (by decide) dX12_sheet_43
  · refine r_if_eq S 0 rfl dX12_sheet_10 (tgt := 42) (by decide) (fun _ => ?_) (fun c => absurd c (by decide))
    refine lv_iconst (v := (-1)) S.1 S.2.1 dX12_sheet_42 (by decide) ?_
    exact ci_ret (u := ()) S hr hlk rfl hK (hP.sub [] rfl) (hD.sub [] (by decide) rfl) hS (Or.inr (⟨rfl, (by omega)⟩)) (by decide) (by decide) dX12_sheet_43
set_option maxHeartbeats 4000000 in
set_option maxRecDepth 100000 in
theorem kX12_stale (l : Launch) (D : va_G) (cy : Nat → ClassId) (q : Nat → Nat) (p0 : Int32) (z0 : Int) (h0 : p0.toInt = z0) : CI l D cy yX12_stale cX12_stale 5 (some .int) 6 152 0 0 [.ref (q 0), .int p0] [((q 0), .inr (11, (mO q 0 0 0 0 0 0 0 0 (-1) 1 0 0 0 0 0 0 0 0 0))), ((q 63), .inl (cy 0, 600, .inl (fun _ => 0))), ((q 64), .inl (cy 0, 600, .inl (fun _ => 0))), ((q 65), .inl (cy 0, 600, .inl (fun _ => 0))), ((q 66), .inl (cy 0, 600, .inl (fun _ => 0))), ((q 67), .inl (cy 0, 97, .inl (fun _ => 0))), ((q 68), .inl (cy 0, 97, .inl (fun _ => 0))), ((q 70), .inl (cy 1, 16, .inl (fun _ => 0))), ((q 71), .inl (cy 0, 16, .inl (fun _ => 0))), ((q 72), .inl (cy 2, 16, .inr (.inl (fun _ => 0)))), ((q 73), .inl (cy 1, 16, .inl (fun _ => 0))), ((q 74), .inl (cy 1, 16, .inl (fun _ => 0)))] (fun (v : Int32) (u : Unit) => v = (-1)) (fun (u : Unit) => []) := by
  refine ci_go (by decide) (Nat.le_of_ble_eq_true rfl) (fun p e s m below meth c ls A hA S hr hlk hnm hP hK hD hl => ?_)
  have hS : va_S A s.heap s.heap [] := va_S.rf
  have hl : lv_has ls 5 [(0, .ref (q 0)), (1, .int p0)] := hl
  refine lv_aload_n S.1 S.2.1 dX12_stale_0 rfl (lv_at hl 0 rfl) ?_
  refine lv_iconst (v := 0) S.1 S.2.1 dX12_stale_1 (by decide) ?_
  refine r_put S hK hP hD hS 0 11 rfl rfl inX12 0 (by decide) tyX12 tyX12_ok nmX12 kw_1510 (v := .int 0) rfl rfl rfl (Nat.le_of_ble_eq_true rfl) dX12_stale_2 (fun H locs hP hD hS => ?_)
  have hP : va_P D vwCl [((q 0), .inr (11, (mO q 0 0 0 0 0 0 0 0 (-1) 1 0 0 0 0 0 0 0 0 0))), ((q 63), .inl (cy 0, 600, .inl (fun _ => 0))), ((q 64), .inl (cy 0, 600, .inl (fun _ => 0))), ((q 65), .inl (cy 0, 600, .inl (fun _ => 0))), ((q 66), .inl (cy 0, 600, .inl (fun _ => 0))), ((q 67), .inl (cy 0, 97, .inl (fun _ => 0))), ((q 68), .inl (cy 0, 97, .inl (fun _ => 0))), ((q 70), .inl (cy 1, 16, .inl (fun _ => 0))), ((q 71), .inl (cy 0, 16, .inl (fun _ => 0))), ((q 72), .inl (cy 2, 16, .inr (.inl (fun _ => 0)))), ((q 73), .inl (cy 1, 16, .inl (fun _ => 0))), ((q 74), .inl (cy 1, 16, .inl (fun _ => 0)))] H := hP
  have hD : va_D A [((q 0), .inr (11, (mO q 0 0 0 0 0 0 0 0 (-1) 1 0 0 0 0 0 0 0 0 0))), ((q 63), .inl (cy 0, 600, .inl (fun _ => 0))), ((q 64), .inl (cy 0, 600, .inl (fun _ => 0))), ((q 65), .inl (cy 0, 600, .inl (fun _ => 0))), ((q 66), .inl (cy 0, 600, .inl (fun _ => 0))), ((q 67), .inl (cy 0, 97, .inl (fun _ => 0))), ((q 68), .inl (cy 0, 97, .inl (fun _ => 0))), ((q 70), .inl (cy 1, 16, .inl (fun _ => 0))), ((q 71), .inl (cy 0, 16, .inl (fun _ => 0))), ((q 72), .inl (cy 2, 16, .inr (.inl (fun _ => 0)))), ((q 73), .inl (cy 1, 16, .inl (fun _ => 0))), ((q 74), .inl (cy 1, 16, .inl (fun _ => 0)))] := hD
  refine lv_aload_n S.1 S.2.1 dX12_stale_5 rfl (lv_at hl 0 rfl) ?_
  refine call_v (wr := []) (runV_C (wc := [((q 0), .inr (11, (mO q 0 0 0 0 0 0 0 0 (-1) 1 0 0 0 0 0 0 0 0 0))), ((q 63), .inl (cy 0, 600, .inl (fun _ => 0))), ((q 64), .inl (cy 0, 600, .inl (fun _ => 0))), ((q 65), .inl (cy 0, 600, .inl (fun _ => 0))), ((q 66), .inl (cy 0, 600, .inl (fun _ => 0))), ((q 67), .inl (cy 0, 97, .inl (fun _ => 0))), ((q 68), .inl (cy 0, 97, .inl (fun _ => 0))), ((q 70), .inl (cy 1, 16, .inl (fun _ => 0))), ((q 71), .inl (cy 0, 16, .inl (fun _ => 0))), ((q 72), .inl (cy 2, 16, .inr (.inl (fun _ => 0)))), ((q 73), .inl (cy 1, 16, .inl (fun _ => 0))), ((q 74), .inl (cy 1, 16, .inl (fun _ => 0)))]) (As := []) (rest := []) S (kX12_findGrounds l D cy q 0) hK hP hD [0, 1, 2, 3, 4, 5, 6, 7, 8, 9, 10, 11] (by decide) rfl 0 11 rfl rfl kw_1946 kw_1948 kw_89 kw_152 kw_1949 okX12_findGrounds rfl (by decide) hl.1 rfl (Nat.le_of_ble_eq_true rfl) dX12_stale_6 (by decide)) hP hD hS hA [0, 1, 2, 3, 4, 5, 6, 7, 8, 9, 10, 11] [] rfl rfl (by decide) (by decide) (fun u6 H locs w6 hP hD hS => ?_)
  obtain ⟨bn_6, gd_6, cs_6, db_6, kp_6, kn_6⟩ := u6
  have hP : va_P D vwCl [((q 0), .inr (11, (mO q 0 0 0 0 0 0 0 0 (-1) 0 0 0 bn_6 0 0 1 0 0 0))), ((q 70), .inl (cy 1, 16, .inl gd_6)), ((q 71), .inl (cy 0, 16, .inl cs_6)), ((q 72), .inl (cy 2, 16, .inr (.inl db_6))), ((q 73), .inl (cy 1, 16, .inl kp_6)), ((q 74), .inl (cy 1, 16, .inl kn_6))] H := hP
  have hD : va_D A [((q 0), .inr (11, (mO q 0 0 0 0 0 0 0 0 (-1) 0 0 0 bn_6 0 0 1 0 0 0))), ((q 70), .inl (cy 1, 16, .inl gd_6)), ((q 71), .inl (cy 0, 16, .inl cs_6)), ((q 72), .inl (cy 2, 16, .inr (.inl db_6))), ((q 73), .inl (cy 1, 16, .inl kp_6)), ((q 74), .inl (cy 1, 16, .inl kn_6))] := hD
  obtain ⟨hgd, hcs, hdb, hkp, hkn⟩ := w6
  refine lv_aload_n S.1 S.2.1 dX12_stale_9 rfl (lv_at hl 0 rfl) ?_
  refine lv_iload_n S.1 S.2.1 dX12_stale_10 rfl (lv_at hl 1 rfl) ?_
  refine call_ri (runV_R (wc := [((q 0), .inr (11, (mO q 0 0 0 0 0 0 0 0 (-1) 0 0 0 bn_6 0 0 1 0 0 0)))]) (As := [.int p0]) (rest := []) S (kX12_isSheet_b l D cy q 0 0 bn_6 0 1 p0 z0 h0) hK hP [0] rfl 0 11 rfl rfl kw_2188 kw_2190 kw_134 kw_152 kw_2191 okX12_isSheet rfl (by decide) hl.1 rfl (Nat.le_of_ble_eq_true rfl) dX12_stale_11 (by decide)) (fun v11 w11 => ?_)
  subst w11
  refine r_if_eq S 0 rfl dX12_stale_14 (tgt := 24) (by decide) (fun _ => ?_) (fun c => absurd c (by decide))
  refine lv_iconst (v := (-1)) S.1 S.2.1 dX12_stale_24 (by decide) ?_
  exact ci_ret (u := ()) S hr hlk rfl hK (hP.sub [] rfl) (hD.sub [] (by decide) rfl) hS (rfl) (by decide) (by decide) dX12_stale_25
set_option maxHeartbeats 4000000 in
set_option maxRecDepth 100000 in
theorem kX12_doubles (l : Launch) (D : va_G) (cy : Nat → ClassId) (q : Nat → Nat) (p0 : Int32) (p1 : Int32) (p2 : Int32) (z0 : Int) (h0 : p0.toInt = z0) (z1 : Int) (h1 : p1.toInt = z1) (z2 : Int) (h2 : p2.toInt = z2) : CI l D cy yX12_doubles cX12_doubles 7 (some .int) 6 152 0 0 [.ref (q 0), .int p0, .int p1, .int p2] [((q 0), .inr (11, (mO q 0 0 0 0 0 0 0 0 (-1) 1 0 0 0 0 0 0 0 0 0))), ((q 63), .inl (cy 0, 600, .inl (fun _ => 0))), ((q 64), .inl (cy 0, 600, .inl (fun _ => 0))), ((q 65), .inl (cy 0, 600, .inl (fun _ => 0))), ((q 66), .inl (cy 0, 600, .inl (fun _ => 0))), ((q 67), .inl (cy 0, 97, .inl (fun _ => 0))), ((q 68), .inl (cy 0, 97, .inl (fun _ => 0))), ((q 70), .inl (cy 1, 16, .inl (fun _ => 0))), ((q 71), .inl (cy 0, 16, .inl (fun _ => 0))), ((q 72), .inl (cy 2, 16, .inr (.inl (fun _ => 0)))), ((q 73), .inl (cy 1, 16, .inl (fun _ => 0))), ((q 74), .inl (cy 1, 16, .inl (fun _ => 0)))] (fun (v : Int32) (u : Unit) => (v = 0 ∧ (0 ≤ z0 ∧ z0 ≤ 5 ∧ 0 ≤ z1 ∧ z1 ≤ 5 ∧ ¬ z0 = z1 ∧ 0 ≤ z2 ∧ z2 ≤ 1)) ∨ (v = (-1) ∧ ¬ (0 ≤ z0 ∧ z0 ≤ 5 ∧ 0 ≤ z1 ∧ z1 ≤ 5 ∧ ¬ z0 = z1 ∧ 0 ≤ z2 ∧ z2 ≤ 1))) (fun (u : Unit) => []) := by
  refine ci_go (by decide) (Nat.le_of_ble_eq_true rfl) (fun p e s m below meth c ls A hA S hr hlk hnm hP hK hD hl => ?_)
  have hS : va_S A s.heap s.heap [] := va_S.rf
  have hl : lv_has ls 7 [(0, .ref (q 0)), (1, .int p0), (2, .int p1), (3, .int p2)] := hl
  refine lv_aload_n S.1 S.2.1 dX12_doubles_0 rfl (lv_at hl 0 rfl) ?_
  refine lv_iconst (v := 0) S.1 S.2.1 dX12_doubles_1 (by decide) ?_
  refine r_put S hK hP hD hS 0 11 rfl rfl inX12 0 (by decide) tyX12 tyX12_ok nmX12 kw_1510 (v := .int 0) rfl rfl rfl (Nat.le_of_ble_eq_true rfl) dX12_doubles_2 (fun H locs hP hD hS => ?_)
  have hP : va_P D vwCl [((q 0), .inr (11, (mO q 0 0 0 0 0 0 0 0 (-1) 1 0 0 0 0 0 0 0 0 0))), ((q 63), .inl (cy 0, 600, .inl (fun _ => 0))), ((q 64), .inl (cy 0, 600, .inl (fun _ => 0))), ((q 65), .inl (cy 0, 600, .inl (fun _ => 0))), ((q 66), .inl (cy 0, 600, .inl (fun _ => 0))), ((q 67), .inl (cy 0, 97, .inl (fun _ => 0))), ((q 68), .inl (cy 0, 97, .inl (fun _ => 0))), ((q 70), .inl (cy 1, 16, .inl (fun _ => 0))), ((q 71), .inl (cy 0, 16, .inl (fun _ => 0))), ((q 72), .inl (cy 2, 16, .inr (.inl (fun _ => 0)))), ((q 73), .inl (cy 1, 16, .inl (fun _ => 0))), ((q 74), .inl (cy 1, 16, .inl (fun _ => 0)))] H := hP
  have hD : va_D A [((q 0), .inr (11, (mO q 0 0 0 0 0 0 0 0 (-1) 1 0 0 0 0 0 0 0 0 0))), ((q 63), .inl (cy 0, 600, .inl (fun _ => 0))), ((q 64), .inl (cy 0, 600, .inl (fun _ => 0))), ((q 65), .inl (cy 0, 600, .inl (fun _ => 0))), ((q 66), .inl (cy 0, 600, .inl (fun _ => 0))), ((q 67), .inl (cy 0, 97, .inl (fun _ => 0))), ((q 68), .inl (cy 0, 97, .inl (fun _ => 0))), ((q 70), .inl (cy 1, 16, .inl (fun _ => 0))), ((q 71), .inl (cy 0, 16, .inl (fun _ => 0))), ((q 72), .inl (cy 2, 16, .inr (.inl (fun _ => 0)))), ((q 73), .inl (cy 1, 16, .inl (fun _ => 0))), ((q 74), .inl (cy 1, 16, .inl (fun _ => 0)))] := hD
  refine lv_iload_n S.1 S.2.1 dX12_doubles_5 rfl (lv_at hl 1 rfl) ?_
  refine lv_iconst (v := 0) S.1 S.2.1 dX12_doubles_6 (by decide) ?_
  refine lv_iconst (v := 5) S.1 S.2.1 dX12_doubles_7 (by decide) ?_
  refine call_ri (runS_R (wc := []) (As := [.int p0, .int 0, .int 5]) (rest := []) S (kX12_within l D cy p0 0 5 z0 h0 0 rfl 5 rfl) hK hP [] rfl kw_1892 kw_1893 kw_152 kw_1894 okX12_within rfl (by decide) hl.1 rfl (Nat.le_of_ble_eq_true rfl) dX12_doubles_8 (by decide)) (fun v8 w8 => ?_)
  rcases w8 with ⟨rfl, w8_0_0⟩ | ⟨rfl, w8_1_0⟩
  · refine r_if_eq S 1 rfl dX12_doubles_11 (tgt := 37) (by decide) (fun c => absurd c (by decide)) (fun _ => ?_)
    refine lv_iload_n S.1 S.2.1 dX12_doubles_14 rfl (lv_at hl 2 rfl) ?_
    refine lv_iconst (v := 0) S.1 S.2.1 dX12_doubles_15 (by decide) ?_
    refine lv_iconst (v := 5) S.1 S.2.1 dX12_doubles_16 (by decide) ?_
    refine call_ri (runS_R (wc := []) (As := [.int p1, .int 0, .int 5]) (rest := []) S (kX12_within l D cy p1 0 5 z1 h1 0 rfl 5 rfl) hK hP [] rfl kw_1892 kw_1893 kw_152 kw_1894 okX12_within rfl (by decide) hl.1 rfl (Nat.le_of_ble_eq_true rfl) dX12_doubles_17 (by decide)) (fun v17 w17 => ?_)
    rcases w17 with ⟨rfl, w17_0_0⟩ | ⟨rfl, w17_1_0⟩
    · refine r_if_eq S 1 rfl dX12_doubles_20 (tgt := 37) (by decide) (fun c => absurd c (by decide)) (fun _ => ?_)
      refine lv_iload_n S.1 S.2.1 dX12_doubles_23 rfl (lv_at hl 1 rfl) ?_
      refine lv_iload_n S.1 S.2.1 dX12_doubles_24 rfl (lv_at hl 2 rfl) ?_
      refine r_icmp_eq S z0 z1 h0 h1 dX12_doubles_25 (tgt := 37) (by decide) (fun e_25_1 => ?_) (fun e_25_1 => ?_)
      · refine lv_iconst (v := (-1)) S.1 S.2.1 dX12_doubles_37 (by decide) ?_
        exact ci_ret (u := ()) S hr hlk rfl hK (hP.sub [] rfl) (hD.sub [] (by decide) rfl) hS (Or.inr (⟨rfl, (by omega)⟩)) (by decide) (by decide) dX12_doubles_38
      · refine lv_iload_n S.1 S.2.1 dX12_doubles_28 rfl (lv_at hl 3 rfl) ?_
        refine lv_iconst (v := 0) S.1 S.2.1 dX12_doubles_29 (by decide) ?_
        refine lv_iconst (v := 1) S.1 S.2.1 dX12_doubles_30 (by decide) ?_
        refine call_ri (runS_R (wc := []) (As := [.int p2, .int 0, .int 1]) (rest := []) S (kX12_within l D cy p2 0 1 z2 h2 0 rfl 1 rfl) hK hP [] rfl kw_1892 kw_1893 kw_152 kw_1894 okX12_within rfl (by decide) hl.1 rfl (Nat.le_of_ble_eq_true rfl) dX12_doubles_31 (by decide)) (fun v31 w31 => ?_)
        rcases w31 with ⟨rfl, w31_0_0⟩ | ⟨rfl, w31_1_0⟩
        · refine r_if_ne S 1 rfl dX12_doubles_34 (tgt := 39) (by decide) (fun _ => ?_) (fun c => absurd c (by decide))
          refine lv_aload_n S.1 S.2.1 dX12_doubles_39 rfl (lv_at hl 0 rfl) ?_
          refine call_v (wr := []) (runV_C (wc := [((q 0), .inr (11, (mO q 0 0 0 0 0 0 0 0 (-1) 1 0 0 0 0 0 0 0 0 0))), ((q 63), .inl (cy 0, 600, .inl (fun _ => 0))), ((q 64), .inl (cy 0, 600, .inl (fun _ => 0))), ((q 65), .inl (cy 0, 600, .inl (fun _ => 0))), ((q 66), .inl (cy 0, 600, .inl (fun _ => 0))), ((q 67), .inl (cy 0, 97, .inl (fun _ => 0))), ((q 68), .inl (cy 0, 97, .inl (fun _ => 0))), ((q 70), .inl (cy 1, 16, .inl (fun _ => 0))), ((q 71), .inl (cy 0, 16, .inl (fun _ => 0))), ((q 72), .inl (cy 2, 16, .inr (.inl (fun _ => 0)))), ((q 73), .inl (cy 1, 16, .inl (fun _ => 0))), ((q 74), .inl (cy 1, 16, .inl (fun _ => 0)))]) (As := []) (rest := []) S (kX12_findGrounds l D cy q 0) hK hP hD [0, 1, 2, 3, 4, 5, 6, 7, 8, 9, 10, 11] (by decide) rfl 0 11 rfl rfl kw_1946 kw_1948 kw_89 kw_152 kw_1949 okX12_findGrounds rfl (by decide) hl.1 rfl (Nat.le_of_ble_eq_true rfl) dX12_doubles_40 (by decide)) hP hD hS hA [0, 1, 2, 3, 4, 5, 6, 7, 8, 9, 10, 11] [] rfl rfl (by decide) (by decide) (fun u40 H locs w40 hP hD hS => ?_)
          obtain ⟨bn_40, gd_40, cs_40, db_40, kp_40, kn_40⟩ := u40
          have hP : va_P D vwCl [((q 0), .inr (11, (mO q 0 0 0 0 0 0 0 0 (-1) 0 0 0 bn_40 0 0 1 0 0 0))), ((q 70), .inl (cy 1, 16, .inl gd_40)), ((q 71), .inl (cy 0, 16, .inl cs_40)), ((q 72), .inl (cy 2, 16, .inr (.inl db_40))), ((q 73), .inl (cy 1, 16, .inl kp_40)), ((q 74), .inl (cy 1, 16, .inl kn_40))] H := hP
          have hD : va_D A [((q 0), .inr (11, (mO q 0 0 0 0 0 0 0 0 (-1) 0 0 0 bn_40 0 0 1 0 0 0))), ((q 70), .inl (cy 1, 16, .inl gd_40)), ((q 71), .inl (cy 0, 16, .inl cs_40)), ((q 72), .inl (cy 2, 16, .inr (.inl db_40))), ((q 73), .inl (cy 1, 16, .inl kp_40)), ((q 74), .inl (cy 1, 16, .inl kn_40))] := hD
          obtain ⟨hgd, hcs, hdb, hkp, hkn⟩ := w40
          refine lv_iconst (v := 0) S.1 S.2.1 dX12_doubles_43 (by decide) ?_
          refine lv_istore (lv' := [(4, .int 0), (0, .ref (q 0)), (1, .int p0), (2, .int p1), (3, .int p2)]) S.1 S.2.1 dX12_doubles_44 hl (by decide) rfl (fun ls hl => ?_)
          refine lv_iconst (v := 0) S.1 S.2.1 dX12_doubles_46 (by decide) ?_
          refine lv_istore (lv' := [(5, .int 0), (4, .int 0), (0, .ref (q 0)), (1, .int p0), (2, .int p1), (3, .int p2)]) S.1 S.2.1 dX12_doubles_47 hl (by decide) rfl (fun ls hl => ?_)
          refine lv_iload S.1 S.2.1 dX12_doubles_49 (lv_at hl 0 rfl) ?_
          refine lv_aload_n S.1 S.2.1 dX12_doubles_51 rfl (lv_at hl 2 rfl) ?_
          refine r_get S hK hP 0 11 rfl rfl inX12 40 (by decide) kw_1550 (v := .int 0) rfl dX12_doubles_52 ?_
          refine r_icmp_ge S 0 0 rfl rfl dX12_doubles_55 (tgt := 144) (by decide) (fun _ => ?_) (fun c => absurd c (by decide))
          refine lv_iload S.1 S.2.1 dX12_doubles_144 (lv_at hl 1 rfl) ?_
          exact ci_ret (u := ()) S hr hlk rfl hK (hP.sub [] rfl) (hD.sub [] (by decide) rfl) hS (Or.inl ⟨rfl, (by omega)⟩) (by decide) (by decide) dX12_doubles_146
        · refine r_if_ne S 0 rfl dX12_doubles_34 (tgt := 39) (by decide) (fun c => absurd c (by decide)) (fun _ => ?_)
          refine lv_iconst (v := (-1)) S.1 S.2.1 dX12_doubles_37 (by decide) ?_
          exact ci_ret (u := ()) S hr hlk rfl hK (hP.sub [] rfl) (hD.sub [] (by decide) rfl) hS (Or.inr (⟨rfl, (by omega)⟩)) (by decide) (by decide) dX12_doubles_38
    · refine r_if_eq S 0 rfl dX12_doubles_20 (tgt := 37) (by decide) (fun _ => ?_) (fun c => absurd c (by decide))
      refine lv_iconst (v := (-1)) S.1 S.2.1 dX12_doubles_37 (by decide) ?_
      exact ci_ret (u := ()) S hr hlk rfl hK (hP.sub [] rfl) (hD.sub [] (by decide) rfl) hS (Or.inr (⟨rfl, (by omega)⟩)) (by decide) (by decide) dX12_doubles_38
  · refine r_if_eq S 0 rfl dX12_doubles_11 (tgt := 37) (by decide) (fun _ => ?_) (fun c => absurd c (by decide))
    refine lv_iconst (v := (-1)) S.1 S.2.1 dX12_doubles_37 (by decide) ?_
    exact ci_ret (u := ()) S hr hlk rfl hK (hP.sub [] rfl) (hD.sub [] (by decide) rfl) hS (Or.inr (⟨rfl, (by omega)⟩)) (by decide) (by decide) dX12_doubles_38
set_option maxHeartbeats 4000000 in
set_option maxRecDepth 100000 in
theorem kX12_doubt (l : Launch) (D : va_G) (cy : Nat → ClassId) (q : Nat → Nat) : CI l D cy yX12_doubt cX12_doubt 1 (some .int) 7 172 0 0 [.ref (q 0)] [((q 0), .inr (11, (mO q 0 0 0 0 0 0 0 0 (-1) 1 0 0 0 0 0 0 0 0 0))), ((q 63), .inl (cy 0, 600, .inl (fun _ => 0))), ((q 64), .inl (cy 0, 600, .inl (fun _ => 0))), ((q 65), .inl (cy 0, 600, .inl (fun _ => 0))), ((q 66), .inl (cy 0, 600, .inl (fun _ => 0))), ((q 67), .inl (cy 0, 97, .inl (fun _ => 0))), ((q 68), .inl (cy 0, 97, .inl (fun _ => 0))), ((q 70), .inl (cy 1, 16, .inl (fun _ => 0))), ((q 71), .inl (cy 0, 16, .inl (fun _ => 0))), ((q 72), .inl (cy 2, 16, .inr (.inl (fun _ => 0)))), ((q 73), .inl (cy 1, 16, .inl (fun _ => 0))), ((q 74), .inl (cy 1, 16, .inl (fun _ => 0)))] (fun (v : Int32) (u : Unit) => v = (-1)) (fun (u : Unit) => []) := by
  refine ci_go (by decide) (Nat.le_of_ble_eq_true rfl) (fun p e s m below meth c ls A hA S hr hlk hnm hP hK hD hl => ?_)
  have hS : va_S A s.heap s.heap [] := va_S.rf
  have hl : lv_has ls 1 [(0, .ref (q 0))] := hl
  refine lv_aload_n S.1 S.2.1 dX12_doubt_0 rfl (lv_at hl 0 rfl) ?_
  refine lv_iconst (v := 0) S.1 S.2.1 dX12_doubt_1 (by decide) ?_
  refine r_put S hK hP hD hS 0 11 rfl rfl inX12 0 (by decide) tyX12 tyX12_ok nmX12 kw_1510 (v := .int 0) rfl rfl rfl (Nat.le_of_ble_eq_true rfl) dX12_doubt_2 (fun H locs hP hD hS => ?_)
  have hP : va_P D vwCl [((q 0), .inr (11, (mO q 0 0 0 0 0 0 0 0 (-1) 1 0 0 0 0 0 0 0 0 0))), ((q 63), .inl (cy 0, 600, .inl (fun _ => 0))), ((q 64), .inl (cy 0, 600, .inl (fun _ => 0))), ((q 65), .inl (cy 0, 600, .inl (fun _ => 0))), ((q 66), .inl (cy 0, 600, .inl (fun _ => 0))), ((q 67), .inl (cy 0, 97, .inl (fun _ => 0))), ((q 68), .inl (cy 0, 97, .inl (fun _ => 0))), ((q 70), .inl (cy 1, 16, .inl (fun _ => 0))), ((q 71), .inl (cy 0, 16, .inl (fun _ => 0))), ((q 72), .inl (cy 2, 16, .inr (.inl (fun _ => 0)))), ((q 73), .inl (cy 1, 16, .inl (fun _ => 0))), ((q 74), .inl (cy 1, 16, .inl (fun _ => 0)))] H := hP
  have hD : va_D A [((q 0), .inr (11, (mO q 0 0 0 0 0 0 0 0 (-1) 1 0 0 0 0 0 0 0 0 0))), ((q 63), .inl (cy 0, 600, .inl (fun _ => 0))), ((q 64), .inl (cy 0, 600, .inl (fun _ => 0))), ((q 65), .inl (cy 0, 600, .inl (fun _ => 0))), ((q 66), .inl (cy 0, 600, .inl (fun _ => 0))), ((q 67), .inl (cy 0, 97, .inl (fun _ => 0))), ((q 68), .inl (cy 0, 97, .inl (fun _ => 0))), ((q 70), .inl (cy 1, 16, .inl (fun _ => 0))), ((q 71), .inl (cy 0, 16, .inl (fun _ => 0))), ((q 72), .inl (cy 2, 16, .inr (.inl (fun _ => 0)))), ((q 73), .inl (cy 1, 16, .inl (fun _ => 0))), ((q 74), .inl (cy 1, 16, .inl (fun _ => 0)))] := hD
  refine lv_aload_n S.1 S.2.1 dX12_doubt_5 rfl (lv_at hl 0 rfl) ?_
  refine call_i (wr := []) (runV_C (wc := [((q 0), .inr (11, (mO q 0 0 0 0 0 0 0 0 (-1) 1 0 0 0 0 0 0 0 0 0))), ((q 63), .inl (cy 0, 600, .inl (fun _ => 0))), ((q 64), .inl (cy 0, 600, .inl (fun _ => 0))), ((q 65), .inl (cy 0, 600, .inl (fun _ => 0))), ((q 66), .inl (cy 0, 600, .inl (fun _ => 0))), ((q 67), .inl (cy 0, 97, .inl (fun _ => 0))), ((q 68), .inl (cy 0, 97, .inl (fun _ => 0))), ((q 70), .inl (cy 1, 16, .inl (fun _ => 0))), ((q 71), .inl (cy 0, 16, .inl (fun _ => 0))), ((q 72), .inl (cy 2, 16, .inr (.inl (fun _ => 0)))), ((q 73), .inl (cy 1, 16, .inl (fun _ => 0))), ((q 74), .inl (cy 1, 16, .inl (fun _ => 0)))]) (As := []) (rest := []) S (kX12_isBestKnown l D cy q 0) hK hP hD [0, 1, 2, 3, 4, 5, 6, 7, 8, 9, 10, 11] (by decide) rfl 0 11 rfl rfl kw_2228 kw_2230 kw_137 kw_152 kw_2231 okX12_isBestKnown rfl (by decide) hl.1 rfl (Nat.le_of_ble_eq_true rfl) dX12_doubt_6 (by decide)) hP hD hS hA [0, 1, 2, 3, 4, 5, 6, 7, 8, 9, 10, 11] [] rfl rfl (by decide) (by decide) (fun v6 u6 H locs w6 hP hD hS => ?_)
  have hP : va_P D vwCl [] H := hP
  have hD : va_D A [] := hD
  subst w6
  refine r_if_eq S 0 rfl dX12_doubt_9 (tgt := 19) (by decide) (fun _ => ?_) (fun c => absurd c (by decide))
  refine lv_iconst (v := (-1)) S.1 S.2.1 dX12_doubt_19 (by decide) ?_
  exact ci_ret (u := ()) S hr hlk rfl hK (hP.sub [] rfl) (hD.sub [] (by decide) rfl) hS (rfl) (by decide) (by decide) dX12_doubt_20
set_option maxHeartbeats 4000000 in
set_option maxRecDepth 100000 in
theorem kX12_left (l : Launch) (D : va_G) (cy : Nat → ClassId) (q : Nat → Nat) (p0 : Int32) (z0 : Int) (h0 : p0.toInt = z0) : CI l D cy yX12_left cX12_left 2 (some .int) 0 0 0 0 [.ref (q 0), .int p0] [((q 0), .inr (11, (mO q 0 0 0 0 0 0 0 0 (-1) 1 0 0 0 0 0 0 0 0 0)))] (fun (v : Int32) (u : Unit) => v = (-1)) (fun (u : Unit) => []) := by
  refine ci_go (by decide) (Nat.le_of_ble_eq_true rfl) (fun p e s m below meth c ls A hA S hr hlk hnm hP hK hD hl => ?_)
  have hS : va_S A s.heap s.heap [] := va_S.rf
  have hl : lv_has ls 2 [(0, .ref (q 0)), (1, .int p0)] := hl
  refine lv_aload_n S.1 S.2.1 dX12_left_0 rfl (lv_at hl 0 rfl) ?_
  refine lv_iconst (v := 0) S.1 S.2.1 dX12_left_1 (by decide) ?_
  refine r_put S hK hP hD hS 0 11 rfl rfl inX12 0 (by decide) tyX12 tyX12_ok nmX12 kw_1510 (v := .int 0) rfl rfl rfl (Nat.le_of_ble_eq_true rfl) dX12_left_2 (fun H locs hP hD hS => ?_)
  have hP : va_P D vwCl [((q 0), .inr (11, (mO q 0 0 0 0 0 0 0 0 (-1) 1 0 0 0 0 0 0 0 0 0)))] H := hP
  have hD : va_D A [((q 0), .inr (11, (mO q 0 0 0 0 0 0 0 0 (-1) 1 0 0 0 0 0 0 0 0 0)))] := hD
  refine lv_iload_n S.1 S.2.1 dX12_left_5 rfl (lv_at hl 1 rfl) ?_
  refine r_if_lt S z0 h0 dX12_left_6 (tgt := 32) (by decide) (fun e_6_1 => ?_) (fun e_6_1 => ?_)
  · refine lv_iconst (v := (-1)) S.1 S.2.1 dX12_left_32 (by decide) ?_
    exact ci_ret (u := ()) S hr hlk rfl hK (hP.sub [] rfl) (hD.sub [] (by decide) rfl) hS (rfl) (by decide) (by decide) dX12_left_33
  · refine lv_iload_n S.1 S.2.1 dX12_left_9 rfl (lv_at hl 1 rfl) ?_
    refine lv_aload_n S.1 S.2.1 dX12_left_10 rfl (lv_at hl 0 rfl) ?_
    refine r_get S hK hP 0 11 rfl rfl inX12 83 (by decide) kw_1593 (v := .int 0) rfl dX12_left_11 ?_
    refine r_icmp_ge S z0 0 h0 rfl dX12_left_14 (tgt := 32) (by decide) (fun _ => ?_) (fun c => absurd c (by omega))
    refine lv_iconst (v := (-1)) S.1 S.2.1 dX12_left_32 (by decide) ?_
    exact ci_ret (u := ()) S hr hlk rfl hK (hP.sub [] rfl) (hD.sub [] (by decide) rfl) hS (rfl) (by decide) (by decide) dX12_left_33
set_option maxHeartbeats 4000000 in
set_option maxRecDepth 100000 in
theorem kX12_next (l : Launch) (D : va_G) (cy : Nat → ClassId) (q : Nat → Nat) : CI l D cy yX12_next cX12_next 6 (some .int) 7 172 0 0 [.ref (q 0)] [((q 0), .inr (11, (mO q 0 0 0 0 0 0 0 0 (-1) 1 0 0 0 0 0 0 0 0 0))), ((q 63), .inl (cy 0, 600, .inl (fun _ => 0))), ((q 64), .inl (cy 0, 600, .inl (fun _ => 0))), ((q 65), .inl (cy 0, 600, .inl (fun _ => 0))), ((q 66), .inl (cy 0, 600, .inl (fun _ => 0))), ((q 67), .inl (cy 0, 97, .inl (fun _ => 0))), ((q 68), .inl (cy 0, 97, .inl (fun _ => 0))), ((q 70), .inl (cy 1, 16, .inl (fun _ => 0))), ((q 71), .inl (cy 0, 16, .inl (fun _ => 0))), ((q 72), .inl (cy 2, 16, .inr (.inl (fun _ => 0)))), ((q 73), .inl (cy 1, 16, .inl (fun _ => 0))), ((q 74), .inl (cy 1, 16, .inl (fun _ => 0)))] (fun (v : Int32) (u : Unit) => v = (-1)) (fun (u : Unit) => []) := by
  refine ci_go (by decide) (Nat.le_of_ble_eq_true rfl) (fun p e s m below meth c ls A hA S hr hlk hnm hP hK hD hl => ?_)
  have hS : va_S A s.heap s.heap [] := va_S.rf
  have hl : lv_has ls 6 [(0, .ref (q 0))] := hl
  refine lv_aload_n S.1 S.2.1 dX12_next_0 rfl (lv_at hl 0 rfl) ?_
  refine lv_iconst (v := 0) S.1 S.2.1 dX12_next_1 (by decide) ?_
  refine r_put S hK hP hD hS 0 11 rfl rfl inX12 0 (by decide) tyX12 tyX12_ok nmX12 kw_1510 (v := .int 0) rfl rfl rfl (Nat.le_of_ble_eq_true rfl) dX12_next_2 (fun H locs hP hD hS => ?_)
  have hP : va_P D vwCl [((q 0), .inr (11, (mO q 0 0 0 0 0 0 0 0 (-1) 1 0 0 0 0 0 0 0 0 0))), ((q 63), .inl (cy 0, 600, .inl (fun _ => 0))), ((q 64), .inl (cy 0, 600, .inl (fun _ => 0))), ((q 65), .inl (cy 0, 600, .inl (fun _ => 0))), ((q 66), .inl (cy 0, 600, .inl (fun _ => 0))), ((q 67), .inl (cy 0, 97, .inl (fun _ => 0))), ((q 68), .inl (cy 0, 97, .inl (fun _ => 0))), ((q 70), .inl (cy 1, 16, .inl (fun _ => 0))), ((q 71), .inl (cy 0, 16, .inl (fun _ => 0))), ((q 72), .inl (cy 2, 16, .inr (.inl (fun _ => 0)))), ((q 73), .inl (cy 1, 16, .inl (fun _ => 0))), ((q 74), .inl (cy 1, 16, .inl (fun _ => 0)))] H := hP
  have hD : va_D A [((q 0), .inr (11, (mO q 0 0 0 0 0 0 0 0 (-1) 1 0 0 0 0 0 0 0 0 0))), ((q 63), .inl (cy 0, 600, .inl (fun _ => 0))), ((q 64), .inl (cy 0, 600, .inl (fun _ => 0))), ((q 65), .inl (cy 0, 600, .inl (fun _ => 0))), ((q 66), .inl (cy 0, 600, .inl (fun _ => 0))), ((q 67), .inl (cy 0, 97, .inl (fun _ => 0))), ((q 68), .inl (cy 0, 97, .inl (fun _ => 0))), ((q 70), .inl (cy 1, 16, .inl (fun _ => 0))), ((q 71), .inl (cy 0, 16, .inl (fun _ => 0))), ((q 72), .inl (cy 2, 16, .inr (.inl (fun _ => 0)))), ((q 73), .inl (cy 1, 16, .inl (fun _ => 0))), ((q 74), .inl (cy 1, 16, .inl (fun _ => 0)))] := hD
  refine lv_aload_n S.1 S.2.1 dX12_next_5 rfl (lv_at hl 0 rfl) ?_
  refine call_i (wr := []) (runV_C (wc := [((q 0), .inr (11, (mO q 0 0 0 0 0 0 0 0 (-1) 1 0 0 0 0 0 0 0 0 0))), ((q 63), .inl (cy 0, 600, .inl (fun _ => 0))), ((q 64), .inl (cy 0, 600, .inl (fun _ => 0))), ((q 65), .inl (cy 0, 600, .inl (fun _ => 0))), ((q 66), .inl (cy 0, 600, .inl (fun _ => 0))), ((q 67), .inl (cy 0, 97, .inl (fun _ => 0))), ((q 68), .inl (cy 0, 97, .inl (fun _ => 0))), ((q 70), .inl (cy 1, 16, .inl (fun _ => 0))), ((q 71), .inl (cy 0, 16, .inl (fun _ => 0))), ((q 72), .inl (cy 2, 16, .inr (.inl (fun _ => 0)))), ((q 73), .inl (cy 1, 16, .inl (fun _ => 0))), ((q 74), .inl (cy 1, 16, .inl (fun _ => 0)))]) (As := []) (rest := []) S (kX12_isBestKnown l D cy q 0) hK hP hD [0, 1, 2, 3, 4, 5, 6, 7, 8, 9, 10, 11] (by decide) rfl 0 11 rfl rfl kw_2228 kw_2230 kw_137 kw_152 kw_2231 okX12_isBestKnown rfl (by decide) hl.1 rfl (Nat.le_of_ble_eq_true rfl) dX12_next_6 (by decide)) hP hD hS hA [0, 1, 2, 3, 4, 5, 6, 7, 8, 9, 10, 11] [] rfl rfl (by decide) (by decide) (fun v6 u6 H locs w6 hP hD hS => ?_)
  have hP : va_P D vwCl [] H := hP
  have hD : va_D A [] := hD
  subst w6
  refine r_if_ne S 0 rfl dX12_next_9 (tgt := 14) (by decide) (fun c => absurd c (by decide)) (fun _ => ?_)
  refine lv_iconst (v := (-1)) S.1 S.2.1 dX12_next_12 (by decide) ?_
  exact ci_ret (u := ()) S hr hlk rfl hK (hP.sub [] rfl) (hD.sub [] (by decide) rfl) hS (rfl) (by decide) (by decide) dX12_next_13
set_option maxHeartbeats 4000000 in
set_option maxRecDepth 100000 in
theorem kX12_count (l : Launch) (D : va_G) (cy : Nat → ClassId) (q : Nat → Nat) (p0 : Int32) (z0 : Int) (h0 : p0.toInt = z0) : CI l D cy yX12_count cX12_count 2 (some .int) 6 152 0 0 [.ref (q 0), .int p0] [((q 0), .inr (11, (mO q 0 0 0 0 0 0 0 0 (-1) 1 0 0 0 0 0 0 0 0 0))), ((q 63), .inl (cy 0, 600, .inl (fun _ => 0))), ((q 64), .inl (cy 0, 600, .inl (fun _ => 0))), ((q 65), .inl (cy 0, 600, .inl (fun _ => 0))), ((q 66), .inl (cy 0, 600, .inl (fun _ => 0))), ((q 67), .inl (cy 0, 97, .inl (fun _ => 0))), ((q 68), .inl (cy 0, 97, .inl (fun _ => 0))), ((q 70), .inl (cy 1, 16, .inl (fun _ => 0))), ((q 71), .inl (cy 0, 16, .inl (fun _ => 0))), ((q 72), .inl (cy 2, 16, .inr (.inl (fun _ => 0)))), ((q 73), .inl (cy 1, 16, .inl (fun _ => 0))), ((q 74), .inl (cy 1, 16, .inl (fun _ => 0))), ((q 82), .inl (cy 1, 96, .inl (fun _ => 0)))] (fun (v : Int32) (u : Unit) => (v = 0 ∧ (0 ≤ z0 ∧ z0 ≤ 12)) ∨ (v = (-1) ∧ ¬ (0 ≤ z0 ∧ z0 ≤ 12))) (fun (u : Unit) => []) := by
  refine ci_go (by decide) (Nat.le_of_ble_eq_true rfl) (fun p e s m below meth c ls A hA S hr hlk hnm hP hK hD hl => ?_)
  have hS : va_S A s.heap s.heap [] := va_S.rf
  have hl : lv_has ls 2 [(0, .ref (q 0)), (1, .int p0)] := hl
  refine lv_aload_n S.1 S.2.1 dX12_count_0 rfl (lv_at hl 0 rfl) ?_
  refine lv_iconst (v := 0) S.1 S.2.1 dX12_count_1 (by decide) ?_
  refine r_put S hK hP hD hS 0 11 rfl rfl inX12 0 (by decide) tyX12 tyX12_ok nmX12 kw_1510 (v := .int 0) rfl rfl rfl (Nat.le_of_ble_eq_true rfl) dX12_count_2 (fun H locs hP hD hS => ?_)
  have hP : va_P D vwCl [((q 0), .inr (11, (mO q 0 0 0 0 0 0 0 0 (-1) 1 0 0 0 0 0 0 0 0 0))), ((q 63), .inl (cy 0, 600, .inl (fun _ => 0))), ((q 64), .inl (cy 0, 600, .inl (fun _ => 0))), ((q 65), .inl (cy 0, 600, .inl (fun _ => 0))), ((q 66), .inl (cy 0, 600, .inl (fun _ => 0))), ((q 67), .inl (cy 0, 97, .inl (fun _ => 0))), ((q 68), .inl (cy 0, 97, .inl (fun _ => 0))), ((q 70), .inl (cy 1, 16, .inl (fun _ => 0))), ((q 71), .inl (cy 0, 16, .inl (fun _ => 0))), ((q 72), .inl (cy 2, 16, .inr (.inl (fun _ => 0)))), ((q 73), .inl (cy 1, 16, .inl (fun _ => 0))), ((q 74), .inl (cy 1, 16, .inl (fun _ => 0))), ((q 82), .inl (cy 1, 96, .inl (fun _ => 0)))] H := hP
  have hD : va_D A [((q 0), .inr (11, (mO q 0 0 0 0 0 0 0 0 (-1) 1 0 0 0 0 0 0 0 0 0))), ((q 63), .inl (cy 0, 600, .inl (fun _ => 0))), ((q 64), .inl (cy 0, 600, .inl (fun _ => 0))), ((q 65), .inl (cy 0, 600, .inl (fun _ => 0))), ((q 66), .inl (cy 0, 600, .inl (fun _ => 0))), ((q 67), .inl (cy 0, 97, .inl (fun _ => 0))), ((q 68), .inl (cy 0, 97, .inl (fun _ => 0))), ((q 70), .inl (cy 1, 16, .inl (fun _ => 0))), ((q 71), .inl (cy 0, 16, .inl (fun _ => 0))), ((q 72), .inl (cy 2, 16, .inr (.inl (fun _ => 0)))), ((q 73), .inl (cy 1, 16, .inl (fun _ => 0))), ((q 74), .inl (cy 1, 16, .inl (fun _ => 0))), ((q 82), .inl (cy 1, 96, .inl (fun _ => 0)))] := hD
  refine lv_aload_n S.1 S.2.1 dX12_count_5 rfl (lv_at hl 0 rfl) ?_
  refine call_v (wr := [((q 82), .inl (cy 1, 96, .inl (fun _ => 0)))]) (runV_C (wc := [((q 0), .inr (11, (mO q 0 0 0 0 0 0 0 0 (-1) 1 0 0 0 0 0 0 0 0 0))), ((q 63), .inl (cy 0, 600, .inl (fun _ => 0))), ((q 64), .inl (cy 0, 600, .inl (fun _ => 0))), ((q 65), .inl (cy 0, 600, .inl (fun _ => 0))), ((q 66), .inl (cy 0, 600, .inl (fun _ => 0))), ((q 67), .inl (cy 0, 97, .inl (fun _ => 0))), ((q 68), .inl (cy 0, 97, .inl (fun _ => 0))), ((q 70), .inl (cy 1, 16, .inl (fun _ => 0))), ((q 71), .inl (cy 0, 16, .inl (fun _ => 0))), ((q 72), .inl (cy 2, 16, .inr (.inl (fun _ => 0)))), ((q 73), .inl (cy 1, 16, .inl (fun _ => 0))), ((q 74), .inl (cy 1, 16, .inl (fun _ => 0)))]) (As := []) (rest := []) S (kX12_findGrounds l D cy q 0) hK hP hD [0, 1, 2, 3, 4, 5, 6, 7, 8, 9, 10, 11] (by decide) rfl 0 11 rfl rfl kw_1946 kw_1948 kw_89 kw_152 kw_1949 okX12_findGrounds rfl (by decide) hl.1 rfl (Nat.le_of_ble_eq_true rfl) dX12_count_6 (by decide)) hP hD hS hA [0, 1, 2, 3, 4, 5, 6, 7, 8, 9, 10, 11] [12] rfl rfl (by decide) (by decide) (fun u6 H locs w6 hP hD hS => ?_)
  obtain ⟨bn_6, gd_6, cs_6, db_6, kp_6, kn_6⟩ := u6
  have hP : va_P D vwCl [((q 82), .inl (cy 1, 96, .inl (fun _ => 0))), ((q 0), .inr (11, (mO q 0 0 0 0 0 0 0 0 (-1) 0 0 0 bn_6 0 0 1 0 0 0))), ((q 70), .inl (cy 1, 16, .inl gd_6)), ((q 71), .inl (cy 0, 16, .inl cs_6)), ((q 72), .inl (cy 2, 16, .inr (.inl db_6))), ((q 73), .inl (cy 1, 16, .inl kp_6)), ((q 74), .inl (cy 1, 16, .inl kn_6))] H := hP
  have hD : va_D A [((q 82), .inl (cy 1, 96, .inl (fun _ => 0))), ((q 0), .inr (11, (mO q 0 0 0 0 0 0 0 0 (-1) 0 0 0 bn_6 0 0 1 0 0 0))), ((q 70), .inl (cy 1, 16, .inl gd_6)), ((q 71), .inl (cy 0, 16, .inl cs_6)), ((q 72), .inl (cy 2, 16, .inr (.inl db_6))), ((q 73), .inl (cy 1, 16, .inl kp_6)), ((q 74), .inl (cy 1, 16, .inl kn_6))] := hD
  obtain ⟨hgd, hcs, hdb, hkp, hkn⟩ := w6
  refine lv_iload_n S.1 S.2.1 dX12_count_9 rfl (lv_at hl 1 rfl) ?_
  by_cases e_10_1 : z0 = 0
  · have hz : (p0).toInt = 0 := (h0).trans e_10_1
    refine lv_tableIn (tgt := 76) S.1 S.2.1 dX12_count_10 (by rw [hz]; decide) (by rw [hz]; decide) (off := 66) (by rw [hz]; decide) (by decide) ?_
    refine lv_aload_n S.1 S.2.1 dX12_count_76 rfl (lv_at hl 0 rfl) ?_
    refine r_get S hK hP 1 11 rfl rfl inX12 33 (by decide) kw_1543 (v := .int 0) rfl dX12_count_77 ?_
    exact ci_ret (u := ()) S hr hlk rfl hK (hP.sub [] rfl) (hD.sub [] (by decide) rfl) hS (Or.inl ⟨rfl, (by omega)⟩) (by decide) (by decide) dX12_count_80
  · by_cases e_10_2 : z0 = 1
    · have hz : (p0).toInt = 1 := (h0).trans e_10_2
      refine lv_tableIn (tgt := 81) S.1 S.2.1 dX12_count_10 (by rw [hz]; decide) (by rw [hz]; decide) (off := 71) (by rw [hz]; decide) (by decide) ?_
      refine lv_aload_n S.1 S.2.1 dX12_count_81 rfl (lv_at hl 0 rfl) ?_
      refine call_ri (runV_R (wc := [((q 0), .inr (11, (mO q 0 0 0 0 0 0 0 0 (-1) 0 0 0 bn_6 0 0 1 0 0 0)))]) (As := []) (rest := []) S (kX12_viewDay l D cy q 0 0 bn_6 0 1) hK hP [1] rfl 0 11 rfl rfl kw_1958 kw_1960 kw_92 kw_152 kw_1961 okX12_viewDay rfl (by decide) hl.1 rfl (Nat.le_of_ble_eq_true rfl) dX12_count_82 (by decide)) (fun v82 w82 => ?_)
      subst w82
      exact ci_ret (u := ()) S hr hlk rfl hK (hP.sub [] rfl) (hD.sub [] (by decide) rfl) hS (Or.inl ⟨rfl, (by omega)⟩) (by decide) (by decide) dX12_count_85
    · by_cases e_10_3 : z0 = 2
      · have hz : (p0).toInt = 2 := (h0).trans e_10_3
        refine lv_tableIn (tgt := 86) S.1 S.2.1 dX12_count_10 (by rw [hz]; decide) (by rw [hz]; decide) (off := 76) (by rw [hz]; decide) (by decide) ?_
        refine lv_aload_n S.1 S.2.1 dX12_count_86 rfl (lv_at hl 0 rfl) ?_
        refine r_get S hK hP 1 11 rfl rfl inX12 40 (by decide) kw_1550 (v := .int 0) rfl dX12_count_87 ?_
        exact ci_ret (u := ()) S hr hlk rfl hK (hP.sub [] rfl) (hD.sub [] (by decide) rfl) hS (Or.inl ⟨rfl, (by omega)⟩) (by decide) (by decide) dX12_count_90
      · by_cases e_10_4 : z0 = 3
        · have hz : (p0).toInt = 3 := (h0).trans e_10_4
          refine lv_tableIn (tgt := 91) S.1 S.2.1 dX12_count_10 (by rw [hz]; decide) (by rw [hz]; decide) (off := 81) (by rw [hz]; decide) (by decide) ?_
          refine lv_aload_n S.1 S.2.1 dX12_count_91 rfl (lv_at hl 0 rfl) ?_
          refine lv_iload_n S.1 S.2.1 dX12_count_92 rfl (lv_at hl 1 rfl) ?_
          refine call_ri (runV_R (wc := [((q 0), .inr (11, (mO q 0 0 0 0 0 0 0 0 (-1) 0 0 0 bn_6 0 0 1 0 0 0)))]) (As := [.int p0]) (rest := []) S (kX12_sightsThat l D cy q 0 0 bn_6 0 1 p0 z0 h0) hK hP [1] rfl 0 11 rfl rfl kw_2259 kw_2261 kw_141 kw_152 kw_2262 okX12_sightsThat rfl (by decide) hl.1 rfl (Nat.le_of_ble_eq_true rfl) dX12_count_93 (by decide)) (fun v93 w93 => ?_)
          subst w93
          exact ci_ret (u := ()) S hr hlk rfl hK (hP.sub [] rfl) (hD.sub [] (by decide) rfl) hS (Or.inl ⟨rfl, (by omega)⟩) (by decide) (by decide) dX12_count_96
        · by_cases e_10_5 : z0 = 4
          · have hz : (p0).toInt = 4 := (h0).trans e_10_5
            refine lv_tableIn (tgt := 97) S.1 S.2.1 dX12_count_10 (by rw [hz]; decide) (by rw [hz]; decide) (off := 87) (by rw [hz]; decide) (by decide) ?_
            refine lv_aload_n S.1 S.2.1 dX12_count_97 rfl (lv_at hl 0 rfl) ?_
            refine call_ri (runV_R (wc := [((q 0), .inr (11, (mO q 0 0 0 0 0 0 0 0 (-1) 0 0 0 bn_6 0 0 1 0 0 0)))]) (As := []) (rest := []) S (kX12_rocksNow l D cy q 0 0 bn_6 0 1) hK hP [1] rfl 0 11 rfl rfl kw_1997 kw_1999 kw_101 kw_152 kw_2000 okX12_rocksNow rfl (by decide) hl.1 rfl (Nat.le_of_ble_eq_true rfl) dX12_count_98 (by decide)) (fun v98 w98 => ?_)
            subst w98
            exact ci_ret (u := ()) S hr hlk rfl hK (hP.sub [] rfl) (hD.sub [] (by decide) rfl) hS (Or.inl ⟨rfl, (by omega)⟩) (by decide) (by decide) dX12_count_101
          · by_cases e_10_6 : z0 = 5
            · have hz : (p0).toInt = 5 := (h0).trans e_10_6
              refine lv_tableIn (tgt := 102) S.1 S.2.1 dX12_count_10 (by rw [hz]; decide) (by rw [hz]; decide) (off := 92) (by rw [hz]; decide) (by decide) ?_
              refine lv_aload_n S.1 S.2.1 dX12_count_102 rfl (lv_at hl 0 rfl) ?_
              refine r_get S hK hP 1 11 rfl rfl inX12 57 (by decide) kw_1567 (v := .int 0) rfl dX12_count_103 ?_
              exact ci_ret (u := ()) S hr hlk rfl hK (hP.sub [] rfl) (hD.sub [] (by decide) rfl) hS (Or.inl ⟨rfl, (by omega)⟩) (by decide) (by decide) dX12_count_106
            · by_cases e_10_7 : z0 = 6
              · have hz : (p0).toInt = 6 := (h0).trans e_10_7
                refine lv_tableIn (tgt := 107) S.1 S.2.1 dX12_count_10 (by rw [hz]; decide) (by rw [hz]; decide) (off := 97) (by rw [hz]; decide) (by decide) ?_
                refine lv_aload_n S.1 S.2.1 dX12_count_107 rfl (lv_at hl 0 rfl) ?_
                refine r_get S hK hP 1 11 rfl rfl inX12 80 (by decide) kw_1590 (v := .int 0) rfl dX12_count_108 ?_
                exact ci_ret (u := ()) S hr hlk rfl hK (hP.sub [] rfl) (hD.sub [] (by decide) rfl) hS (Or.inl ⟨rfl, (by omega)⟩) (by decide) (by decide) dX12_count_111
              · by_cases e_10_8 : z0 = 7
                · have hz : (p0).toInt = 7 := (h0).trans e_10_8
                  refine lv_tableIn (tgt := 91) S.1 S.2.1 dX12_count_10 (by rw [hz]; decide) (by rw [hz]; decide) (off := 81) (by rw [hz]; decide) (by decide) ?_
                  refine lv_aload_n S.1 S.2.1 dX12_count_91 rfl (lv_at hl 0 rfl) ?_
                  refine lv_iload_n S.1 S.2.1 dX12_count_92 rfl (lv_at hl 1 rfl) ?_
                  refine call_ri (runV_R (wc := [((q 0), .inr (11, (mO q 0 0 0 0 0 0 0 0 (-1) 0 0 0 bn_6 0 0 1 0 0 0)))]) (As := [.int p0]) (rest := []) S (kX12_sightsThat l D cy q 0 0 bn_6 0 1 p0 z0 h0) hK hP [1] rfl 0 11 rfl rfl kw_2259 kw_2261 kw_141 kw_152 kw_2262 okX12_sightsThat rfl (by decide) hl.1 rfl (Nat.le_of_ble_eq_true rfl) dX12_count_93 (by decide)) (fun v93 w93 => ?_)
                  subst w93
                  exact ci_ret (u := ()) S hr hlk rfl hK (hP.sub [] rfl) (hD.sub [] (by decide) rfl) hS (Or.inl ⟨rfl, (by omega)⟩) (by decide) (by decide) dX12_count_96
                · by_cases e_10_9 : z0 = 8
                  · have hz : (p0).toInt = 8 := (h0).trans e_10_9
                    refine lv_tableIn (tgt := 112) S.1 S.2.1 dX12_count_10 (by rw [hz]; decide) (by rw [hz]; decide) (off := 102) (by rw [hz]; decide) (by decide) ?_
                    refine lv_aload_n S.1 S.2.1 dX12_count_112 rfl (lv_at hl 0 rfl) ?_
                    refine r_get S hK hP 1 11 rfl rfl inX12 10 (by decide) kw_1520 (v := .int 0) rfl dX12_count_113 ?_
                    exact ci_ret (u := ()) S hr hlk rfl hK (hP.sub [] rfl) (hD.sub [] (by decide) rfl) hS (Or.inl ⟨rfl, (by omega)⟩) (by decide) (by decide) dX12_count_116
                  · by_cases e_10_10 : z0 = 9
                    · have hz : (p0).toInt = 9 := (h0).trans e_10_10
                      refine lv_tableIn (tgt := 117) S.1 S.2.1 dX12_count_10 (by rw [hz]; decide) (by rw [hz]; decide) (off := 107) (by rw [hz]; decide) (by decide) ?_
                      refine lv_aload_n S.1 S.2.1 dX12_count_117 rfl (lv_at hl 0 rfl) ?_
                      refine r_get S hK hP 1 11 rfl rfl inX12 2 (by decide) kw_1512 (v := .int 0) rfl dX12_count_118 ?_
                      exact ci_ret (u := ()) S hr hlk rfl hK (hP.sub [] rfl) (hD.sub [] (by decide) rfl) hS (Or.inl ⟨rfl, (by omega)⟩) (by decide) (by decide) dX12_count_121
                    · by_cases e_10_11 : z0 = 10
                      · have hz : (p0).toInt = 10 := (h0).trans e_10_11
                        refine lv_tableIn (tgt := 122) S.1 S.2.1 dX12_count_10 (by rw [hz]; decide) (by rw [hz]; decide) (off := 112) (by rw [hz]; decide) (by decide) ?_
                        refine lv_aload_n S.1 S.2.1 dX12_count_122 rfl (lv_at hl 0 rfl) ?_
                        refine call_ri (runV_R (wc := [((q 0), .inr (11, (mO q 0 0 0 0 0 0 0 0 (-1) 0 0 0 bn_6 0 0 1 0 0 0))), ((q 73), .inl (cy 1, 16, .inl kp_6)), ((q 74), .inl (cy 1, 16, .inl kn_6))]) (As := []) (rest := []) S (kX12_cellsOfOne l D cy q 0 bn_6 kp_6 kn_6 hkp hkn) hK hP [1, 5, 6] rfl 0 11 rfl rfl kw_2263 kw_2265 kw_142 kw_152 kw_2266 okX12_cellsOfOne rfl (by decide) hl.1 rfl (Nat.le_of_ble_eq_true rfl) dX12_count_123 (by decide)) (fun v123 w123 => ?_)
                        subst w123
                        exact ci_ret (u := ()) S hr hlk rfl hK (hP.sub [] rfl) (hD.sub [] (by decide) rfl) hS (Or.inl ⟨rfl, (by omega)⟩) (by decide) (by decide) dX12_count_126
                      · by_cases e_10_12 : z0 = 11
                        · have hz : (p0).toInt = 11 := (h0).trans e_10_12
                          refine lv_tableIn (tgt := 127) S.1 S.2.1 dX12_count_10 (by rw [hz]; decide) (by rw [hz]; decide) (off := 117) (by rw [hz]; decide) (by decide) ?_
                          refine lv_aload_n S.1 S.2.1 dX12_count_127 rfl (lv_at hl 0 rfl) ?_
                          refine call_ri (runV_R (wc := [((q 0), .inr (11, (mO q 0 0 0 0 0 0 0 0 (-1) 0 0 0 bn_6 0 0 1 0 0 0))), ((q 82), .inl (cy 1, 96, .inl (fun _ => 0)))]) (As := []) (rest := []) S (kX12_asked_b l D cy q 0 0 bn_6 0 1) hK hP [1, 0] rfl 0 11 rfl rfl kw_2216 kw_2218 kw_136 kw_152 kw_2219 okX12_asked rfl (by decide) hl.1 rfl (Nat.le_of_ble_eq_true rfl) dX12_count_128 (by decide)) (fun v128 w128 => ?_)
                          subst w128
                          exact ci_ret (u := ()) S hr hlk rfl hK (hP.sub [] rfl) (hD.sub [] (by decide) rfl) hS (Or.inl ⟨rfl, (by omega)⟩) (by decide) (by decide) dX12_count_131
                        · by_cases e_10_13 : z0 = 12
                          · have hz : (p0).toInt = 12 := (h0).trans e_10_13
                            refine lv_tableIn (tgt := 132) S.1 S.2.1 dX12_count_10 (by rw [hz]; decide) (by rw [hz]; decide) (off := 122) (by rw [hz]; decide) (by decide) ?_
                            refine lv_aload_n S.1 S.2.1 dX12_count_132 rfl (lv_at hl 0 rfl) ?_
                            refine r_get S hK hP 1 11 rfl rfl inX12 83 (by decide) kw_1593 (v := .int 0) rfl dX12_count_133 ?_
                            exact ci_ret (u := ()) S hr hlk rfl hK (hP.sub [] rfl) (hD.sub [] (by decide) rfl) hS (Or.inl ⟨rfl, (by omega)⟩) (by decide) (by decide) dX12_count_136
                          · have hz : (p0).toInt = z0 := h0
                            refine lv_tableOut (tgt := 137) S.1 S.2.1 dX12_count_10 (by rw [hz]; omega) (by decide) ?_
                            refine lv_iconst (v := (-1)) S.1 S.2.1 dX12_count_137 (by decide) ?_
                            exact ci_ret (u := ()) S hr hlk rfl hK (hP.sub [] rfl) (hD.sub [] (by decide) rfl) hS (Or.inr (⟨rfl, (by omega)⟩)) (by decide) (by decide) dX12_count_138
set_option maxHeartbeats 4000000 in
set_option maxRecDepth 100000 in
theorem kX12_cutAll (l : Launch) (D : va_G) (cy : Nat → ClassId) (q : Nat → Nat) : CV l D cy yX12_cutAll cX12_cutAll 7 none 0 0 0 0 [.ref (q 0)] [((q 0), .inr (11, (mO q 0 0 0 0 0 0 0 0 (-1) 1 0 0 0 0 0 0 0 0 0))), ((q 4), .inl (cy 0, 1502, .inl (fun _ => 0))), ((q 5), .inl (cy 0, 1502, .inl (fun _ => 0)))] (fun (u : (Nat → Int32)) => (u) 0 = 0) (fun (u : (Nat → Int32)) => [((q 0), .inr (11, (mO q 0 0 0 0 0 0 0 0 (-1) 1 0 0 0 0 0 0 0 0 0))), ((q 4), .inl (cy 0, 1502, .inl (u)))]) := by
  refine cv_go (by decide) (Nat.le_of_ble_eq_true rfl) (fun p e s m below meth c ls A hA S hr hlk hnm hP hK hD hl => ?_)
  have hS : va_S A s.heap s.heap [] := va_S.rf
  have hl : lv_has ls 7 [(0, .ref (q 0))] := hl
  refine lv_aload_n S.1 S.2.1 dX12_cutAll_0 rfl (lv_at hl 0 rfl) ?_
  refine lv_aload_n S.1 S.2.1 dX12_cutAll_1 rfl (lv_at hl 0 rfl) ?_
  refine r_get S hK hP 0 11 rfl rfl inX12 2 (by decide) kw_1512 (v := .int 0) rfl dX12_cutAll_2 ?_
  refine r_put S hK hP hD hS 0 11 rfl rfl inX12 3 (by decide) tyX12 tyX12_ok nmX12 kw_1513 (v := .int 0) rfl rfl rfl (Nat.le_of_ble_eq_true rfl) dX12_cutAll_5 (fun H locs hP hD hS => ?_)
  have hP : va_P D vwCl [((q 0), .inr (11, (mO q 0 0 0 0 0 0 0 0 (-1) 1 0 0 0 0 0 0 0 0 0))), ((q 4), .inl (cy 0, 1502, .inl (fun _ => 0))), ((q 5), .inl (cy 0, 1502, .inl (fun _ => 0)))] H := hP
  have hD : va_D A [((q 0), .inr (11, (mO q 0 0 0 0 0 0 0 0 (-1) 1 0 0 0 0 0 0 0 0 0))), ((q 4), .inl (cy 0, 1502, .inl (fun _ => 0))), ((q 5), .inl (cy 0, 1502, .inl (fun _ => 0)))] := hD
  refine lv_aload_n S.1 S.2.1 dX12_cutAll_8 rfl (lv_at hl 0 rfl) ?_
  refine lv_iconst (v := 0) S.1 S.2.1 dX12_cutAll_9 (by decide) ?_
  refine r_put S hK hP hD hS 0 11 rfl rfl inX12 2 (by decide) tyX12 tyX12_ok nmX12 kw_1512 (v := .int 0) rfl rfl rfl (Nat.le_of_ble_eq_true rfl) dX12_cutAll_10 (fun H locs hP hD hS => ?_)
  have hP : va_P D vwCl [((q 0), .inr (11, (mO q 0 0 0 0 0 0 0 0 (-1) 1 0 0 0 0 0 0 0 0 0))), ((q 4), .inl (cy 0, 1502, .inl (fun _ => 0))), ((q 5), .inl (cy 0, 1502, .inl (fun _ => 0)))] H := hP
  have hD : va_D A [((q 0), .inr (11, (mO q 0 0 0 0 0 0 0 0 (-1) 1 0 0 0 0 0 0 0 0 0))), ((q 4), .inl (cy 0, 1502, .inl (fun _ => 0))), ((q 5), .inl (cy 0, 1502, .inl (fun _ => 0)))] := hD
  refine lv_iconst (v := 0) S.1 S.2.1 dX12_cutAll_13 (by decide) ?_
  refine lv_istore_n (lv' := [(1, .int 0), (0, .ref (q 0))]) S.1 S.2.1 dX12_cutAll_14 rfl hl (by decide) rfl (fun ls hl => ?_)
  refine lv_iconst (v := 0) S.1 S.2.1 dX12_cutAll_15 (by decide) ?_
  refine lv_istore_n (lv' := [(2, .int 0), (1, .int 0), (0, .ref (q 0))]) S.1 S.2.1 dX12_cutAll_16 rfl hl (by decide) rfl (fun ls hl => ?_)
  refine lv_iload_n S.1 S.2.1 dX12_cutAll_17 rfl (lv_at hl 0 rfl) ?_
  refine lv_aload_n S.1 S.2.1 dX12_cutAll_18 rfl (lv_at hl 2 rfl) ?_
  refine r_get S hK hP 0 11 rfl rfl inX12 3 (by decide) kw_1513 (v := .int 0) rfl dX12_cutAll_19 ?_
  refine r_icmp_ge S 0 0 rfl rfl dX12_cutAll_22 (tgt := 279) (by decide) (fun _ => ?_) (fun c => absurd c (by decide))
  refine lv_aload_n S.1 S.2.1 dX12_cutAll_279 rfl (lv_at hl 2 rfl) ?_
  refine r_get S hK hP 0 11 rfl rfl inX12 4 (by decide) kw_1514 (v := .ref (q 4)) rfl dX12_cutAll_280 ?_
  refine lv_iload_n S.1 S.2.1 dX12_cutAll_283 rfl (lv_at hl 1 rfl) ?_
  refine lv_iconst (v := 0) S.1 S.2.1 dX12_cutAll_284 (by decide) ?_
  refine r_iast S hK hP hD hS 1 0 rfl rfl (0) rfl (by decide) (by decide) dX12_cutAll_285 (fun H locs hP hD hS => ?_)
  have hP : va_P D vwCl [((q 0), .inr (11, (mO q 0 0 0 0 0 0 0 0 (-1) 1 0 0 0 0 0 0 0 0 0))), ((q 4), .inl (cy 0, 1502, .inl (upd (fun _ => 0) (0) 0))), ((q 5), .inl (cy 0, 1502, .inl (fun _ => 0)))] H := hP
  have hD : va_D A [((q 0), .inr (11, (mO q 0 0 0 0 0 0 0 0 (-1) 1 0 0 0 0 0 0 0 0 0))), ((q 4), .inl (cy 0, 1502, .inl (upd (fun _ => 0) (0) 0))), ((q 5), .inl (cy 0, 1502, .inl (fun _ => 0)))] := hD
  refine lv_aload_n S.1 S.2.1 dX12_cutAll_286 rfl (lv_at hl 2 rfl) ?_
  refine r_get S hK hP 0 11 rfl rfl inX12 5 (by decide) kw_1515 (v := .ref (q 5)) rfl dX12_cutAll_287 ?_
  refine lv_iload_n S.1 S.2.1 dX12_cutAll_290 rfl (lv_at hl 1 rfl) ?_
  refine lv_aload_n S.1 S.2.1 dX12_cutAll_291 rfl (lv_at hl 2 rfl) ?_
  refine r_get S hK hP 0 11 rfl rfl inX12 3 (by decide) kw_1513 (v := .int 0) rfl dX12_cutAll_292 ?_
  refine r_iast S hK hP hD hS 2 0 rfl rfl (0) rfl (by decide) (by decide) dX12_cutAll_295 (fun H locs hP hD hS => ?_)
  have hP : va_P D vwCl [((q 0), .inr (11, (mO q 0 0 0 0 0 0 0 0 (-1) 1 0 0 0 0 0 0 0 0 0))), ((q 4), .inl (cy 0, 1502, .inl (upd (fun _ => 0) (0) 0))), ((q 5), .inl (cy 0, 1502, .inl (upd (fun _ => 0) (0) 0)))] H := hP
  have hD : va_D A [((q 0), .inr (11, (mO q 0 0 0 0 0 0 0 0 (-1) 1 0 0 0 0 0 0 0 0 0))), ((q 4), .inl (cy 0, 1502, .inl (upd (fun _ => 0) (0) 0))), ((q 5), .inl (cy 0, 1502, .inl (upd (fun _ => 0) (0) 0)))] := hD
  refine lv_aload_n S.1 S.2.1 dX12_cutAll_296 rfl (lv_at hl 2 rfl) ?_
  refine lv_iconst (v := 0) S.1 S.2.1 dX12_cutAll_297 (by decide) ?_
  refine r_put S hK hP hD hS 0 11 rfl rfl inX12 7 (by decide) tyX12 tyX12_ok nmX12 kw_1517 (v := .int 0) rfl rfl rfl (Nat.le_of_ble_eq_true rfl) dX12_cutAll_298 (fun H locs hP hD hS => ?_)
  have hP : va_P D vwCl [((q 0), .inr (11, (mO q 0 0 0 0 0 0 0 0 (-1) 1 0 0 0 0 0 0 0 0 0))), ((q 4), .inl (cy 0, 1502, .inl (upd (fun _ => 0) (0) 0))), ((q 5), .inl (cy 0, 1502, .inl (upd (fun _ => 0) (0) 0)))] H := hP
  have hD : va_D A [((q 0), .inr (11, (mO q 0 0 0 0 0 0 0 0 (-1) 1 0 0 0 0 0 0 0 0 0))), ((q 4), .inl (cy 0, 1502, .inl (upd (fun _ => 0) (0) 0))), ((q 5), .inl (cy 0, 1502, .inl (upd (fun _ => 0) (0) 0)))] := hD
  refine lv_aload_n S.1 S.2.1 dX12_cutAll_301 rfl (lv_at hl 2 rfl) ?_
  refine lv_iconst (v := 0) S.1 S.2.1 dX12_cutAll_302 (by decide) ?_
  refine r_put S hK hP hD hS 0 11 rfl rfl inX12 8 (by decide) tyX12 tyX12_ok nmX12 kw_1518 (v := .int 0) rfl rfl rfl (Nat.le_of_ble_eq_true rfl) dX12_cutAll_303 (fun H locs hP hD hS => ?_)
  have hP : va_P D vwCl [((q 0), .inr (11, (mO q 0 0 0 0 0 0 0 0 (-1) 1 0 0 0 0 0 0 0 0 0))), ((q 4), .inl (cy 0, 1502, .inl (upd (fun _ => 0) (0) 0))), ((q 5), .inl (cy 0, 1502, .inl (upd (fun _ => 0) (0) 0)))] H := hP
  have hD : va_D A [((q 0), .inr (11, (mO q 0 0 0 0 0 0 0 0 (-1) 1 0 0 0 0 0 0 0 0 0))), ((q 4), .inl (cy 0, 1502, .inl (upd (fun _ => 0) (0) 0))), ((q 5), .inl (cy 0, 1502, .inl (upd (fun _ => 0) (0) 0)))] := hD
  exact cv_ret (u := (upd (fun _ => 0) (0) 0)) S hr hlk hK (hP.sub [0, 1] rfl) (hD.sub [0, 1] (by decide) rfl) hS (rfl) (by decide) (by decide) dX12_cutAll_306
set_option maxHeartbeats 4000000 in
set_option maxRecDepth 100000 in
theorem kX12_begins (l : Launch) (D : va_G) (cy : Nat → ClassId) (q : Nat → Nat) : CV l D cy yX12_begins cX12_begins 2 none 0 0 0 0 [.ref (q 0)] [((q 0), .inr (11, (mO q 0 0 0 0 0 0 0 0 (-1) 1 0 0 0 0 0 0 0 0 0))), ((q 12), .inl (cy 0, 9, .inl (fun _ => 0))), ((q 18), .inl (cy 1, 9, .inl (fun _ => 0))), ((q 19), .inl (cy 0, 9, .inl (fun _ => 0))), ((q 20), .inl (cy 1, 9, .inl (fun _ => 0))), ((q 21), .inl (cy 0, 9, .inl (fun _ => 0))), ((q 24), .inl (cy 0, 9, .inl (fun _ => 0))), ((q 22), .inl (cy 0, 90, .inl (fun _ => 0))), ((q 16), .inl (cy 1, 90, .inl (fun _ => 0))), ((q 17), .inl (cy 1, 90, .inl (fun _ => 0)))] (fun (u : (Nat → Int32) × (Nat → Int32) × (Nat → Int32) × (Nat → Int32) × (Nat → Int32) × (Nat → Int32) × (Nat → Int32) × (Nat → Int32) × (Nat → Int32)) => True) (fun (u : (Nat → Int32) × (Nat → Int32) × (Nat → Int32) × (Nat → Int32) × (Nat → Int32) × (Nat → Int32) × (Nat → Int32) × (Nat → Int32) × (Nat → Int32)) => [((q 0), .inr (11, (mO q 0 0 0 0 0 0 0 0 (-1) 1 0 0 0 0 0 0 0 0 0))), ((q 12), .inl (cy 0, 9, .inl (u.1))), ((q 18), .inl (cy 1, 9, .inl (u.2.1))), ((q 19), .inl (cy 0, 9, .inl (u.2.2.1))), ((q 20), .inl (cy 1, 9, .inl (u.2.2.2.1))), ((q 21), .inl (cy 0, 9, .inl (u.2.2.2.2.1))), ((q 24), .inl (cy 0, 9, .inl (u.2.2.2.2.2.1))), ((q 22), .inl (cy 0, 90, .inl (u.2.2.2.2.2.2.1))), ((q 16), .inl (cy 1, 90, .inl (u.2.2.2.2.2.2.2.1))), ((q 17), .inl (cy 1, 90, .inl (u.2.2.2.2.2.2.2.2)))]) := by
  refine cv_go (by decide) (Nat.le_of_ble_eq_true rfl) (fun p e s m below meth c ls A hA S hr hlk hnm hP hK hD hl => ?_)
  have hS : va_S A s.heap s.heap [] := va_S.rf
  have hl : lv_has ls 2 [(0, .ref (q 0))] := hl
  refine lv_aload_n S.1 S.2.1 dX12_begins_0 rfl (lv_at hl 0 rfl) ?_
  refine r_get S hK hP 0 11 rfl rfl inX12 12 (by decide) kw_1522 (v := .ref (q 12)) rfl dX12_begins_1 ?_
  refine lv_bipush (v := 8) S.1 S.2.1 dX12_begins_4 (by decide) ?_
  refine lv_iconst (v := 0) S.1 S.2.1 dX12_begins_6 (by decide) ?_
  refine r_iast S hK hP hD hS 1 0 rfl rfl (8) rfl (by decide) (by decide) dX12_begins_7 (fun H locs hP hD hS => ?_)
  have hP : va_P D vwCl [((q 0), .inr (11, (mO q 0 0 0 0 0 0 0 0 (-1) 1 0 0 0 0 0 0 0 0 0))), ((q 12), .inl (cy 0, 9, .inl (upd (fun _ => 0) (8) 0))), ((q 18), .inl (cy 1, 9, .inl (fun _ => 0))), ((q 19), .inl (cy 0, 9, .inl (fun _ => 0))), ((q 20), .inl (cy 1, 9, .inl (fun _ => 0))), ((q 21), .inl (cy 0, 9, .inl (fun _ => 0))), ((q 24), .inl (cy 0, 9, .inl (fun _ => 0))), ((q 22), .inl (cy 0, 90, .inl (fun _ => 0))), ((q 16), .inl (cy 1, 90, .inl (fun _ => 0))), ((q 17), .inl (cy 1, 90, .inl (fun _ => 0)))] H := hP
  have hD : va_D A [((q 0), .inr (11, (mO q 0 0 0 0 0 0 0 0 (-1) 1 0 0 0 0 0 0 0 0 0))), ((q 12), .inl (cy 0, 9, .inl (upd (fun _ => 0) (8) 0))), ((q 18), .inl (cy 1, 9, .inl (fun _ => 0))), ((q 19), .inl (cy 0, 9, .inl (fun _ => 0))), ((q 20), .inl (cy 1, 9, .inl (fun _ => 0))), ((q 21), .inl (cy 0, 9, .inl (fun _ => 0))), ((q 24), .inl (cy 0, 9, .inl (fun _ => 0))), ((q 22), .inl (cy 0, 90, .inl (fun _ => 0))), ((q 16), .inl (cy 1, 90, .inl (fun _ => 0))), ((q 17), .inl (cy 1, 90, .inl (fun _ => 0)))] := hD
  refine lv_aload_n S.1 S.2.1 dX12_begins_8 rfl (lv_at hl 0 rfl) ?_
  refine r_get S hK hP 0 11 rfl rfl inX12 18 (by decide) kw_1528 (v := .ref (q 18)) rfl dX12_begins_9 ?_
  refine lv_bipush (v := 8) S.1 S.2.1 dX12_begins_12 (by decide) ?_
  refine lv_iconst (v := 0) S.1 S.2.1 dX12_begins_14 (by decide) ?_
  refine r_zast S hK hP hD hS 2 1 rfl rfl (8) rfl (by decide) (by decide) dX12_begins_15 (fun H locs hP hD hS => ?_)
  have hP : va_P D vwCl [((q 0), .inr (11, (mO q 0 0 0 0 0 0 0 0 (-1) 1 0 0 0 0 0 0 0 0 0))), ((q 12), .inl (cy 0, 9, .inl (upd (fun _ => 0) (8) 0))), ((q 18), .inl (cy 1, 9, .inl (upd (fun _ => 0) (8) (vp_nar .boolean 0)))), ((q 19), .inl (cy 0, 9, .inl (fun _ => 0))), ((q 20), .inl (cy 1, 9, .inl (fun _ => 0))), ((q 21), .inl (cy 0, 9, .inl (fun _ => 0))), ((q 24), .inl (cy 0, 9, .inl (fun _ => 0))), ((q 22), .inl (cy 0, 90, .inl (fun _ => 0))), ((q 16), .inl (cy 1, 90, .inl (fun _ => 0))), ((q 17), .inl (cy 1, 90, .inl (fun _ => 0)))] H := hP
  have hD : va_D A [((q 0), .inr (11, (mO q 0 0 0 0 0 0 0 0 (-1) 1 0 0 0 0 0 0 0 0 0))), ((q 12), .inl (cy 0, 9, .inl (upd (fun _ => 0) (8) 0))), ((q 18), .inl (cy 1, 9, .inl (upd (fun _ => 0) (8) (vp_nar .boolean 0)))), ((q 19), .inl (cy 0, 9, .inl (fun _ => 0))), ((q 20), .inl (cy 1, 9, .inl (fun _ => 0))), ((q 21), .inl (cy 0, 9, .inl (fun _ => 0))), ((q 24), .inl (cy 0, 9, .inl (fun _ => 0))), ((q 22), .inl (cy 0, 90, .inl (fun _ => 0))), ((q 16), .inl (cy 1, 90, .inl (fun _ => 0))), ((q 17), .inl (cy 1, 90, .inl (fun _ => 0)))] := hD
  refine lv_aload_n S.1 S.2.1 dX12_begins_16 rfl (lv_at hl 0 rfl) ?_
  refine r_get S hK hP 0 11 rfl rfl inX12 19 (by decide) kw_1529 (v := .ref (q 19)) rfl dX12_begins_17 ?_
  refine lv_bipush (v := 8) S.1 S.2.1 dX12_begins_20 (by decide) ?_
  refine lv_bipush (v := 10) S.1 S.2.1 dX12_begins_22 (by decide) ?_
  refine r_iast S hK hP hD hS 3 0 rfl rfl (8) rfl (by decide) (by decide) dX12_begins_24 (fun H locs hP hD hS => ?_)
  have hP : va_P D vwCl [((q 0), .inr (11, (mO q 0 0 0 0 0 0 0 0 (-1) 1 0 0 0 0 0 0 0 0 0))), ((q 12), .inl (cy 0, 9, .inl (upd (fun _ => 0) (8) 0))), ((q 18), .inl (cy 1, 9, .inl (upd (fun _ => 0) (8) (vp_nar .boolean 0)))), ((q 19), .inl (cy 0, 9, .inl (upd (fun _ => 0) (8) 10))), ((q 20), .inl (cy 1, 9, .inl (fun _ => 0))), ((q 21), .inl (cy 0, 9, .inl (fun _ => 0))), ((q 24), .inl (cy 0, 9, .inl (fun _ => 0))), ((q 22), .inl (cy 0, 90, .inl (fun _ => 0))), ((q 16), .inl (cy 1, 90, .inl (fun _ => 0))), ((q 17), .inl (cy 1, 90, .inl (fun _ => 0)))] H := hP
  have hD : va_D A [((q 0), .inr (11, (mO q 0 0 0 0 0 0 0 0 (-1) 1 0 0 0 0 0 0 0 0 0))), ((q 12), .inl (cy 0, 9, .inl (upd (fun _ => 0) (8) 0))), ((q 18), .inl (cy 1, 9, .inl (upd (fun _ => 0) (8) (vp_nar .boolean 0)))), ((q 19), .inl (cy 0, 9, .inl (upd (fun _ => 0) (8) 10))), ((q 20), .inl (cy 1, 9, .inl (fun _ => 0))), ((q 21), .inl (cy 0, 9, .inl (fun _ => 0))), ((q 24), .inl (cy 0, 9, .inl (fun _ => 0))), ((q 22), .inl (cy 0, 90, .inl (fun _ => 0))), ((q 16), .inl (cy 1, 90, .inl (fun _ => 0))), ((q 17), .inl (cy 1, 90, .inl (fun _ => 0)))] := hD
  refine lv_aload_n S.1 S.2.1 dX12_begins_25 rfl (lv_at hl 0 rfl) ?_
  refine r_get S hK hP 0 11 rfl rfl inX12 20 (by decide) kw_1530 (v := .ref (q 20)) rfl dX12_begins_26 ?_
  refine lv_bipush (v := 8) S.1 S.2.1 dX12_begins_29 (by decide) ?_
  refine lv_iconst (v := 0) S.1 S.2.1 dX12_begins_31 (by decide) ?_
  refine r_zast S hK hP hD hS 4 1 rfl rfl (8) rfl (by decide) (by decide) dX12_begins_32 (fun H locs hP hD hS => ?_)
  have hP : va_P D vwCl [((q 0), .inr (11, (mO q 0 0 0 0 0 0 0 0 (-1) 1 0 0 0 0 0 0 0 0 0))), ((q 12), .inl (cy 0, 9, .inl (upd (fun _ => 0) (8) 0))), ((q 18), .inl (cy 1, 9, .inl (upd (fun _ => 0) (8) (vp_nar .boolean 0)))), ((q 19), .inl (cy 0, 9, .inl (upd (fun _ => 0) (8) 10))), ((q 20), .inl (cy 1, 9, .inl (upd (fun _ => 0) (8) (vp_nar .boolean 0)))), ((q 21), .inl (cy 0, 9, .inl (fun _ => 0))), ((q 24), .inl (cy 0, 9, .inl (fun _ => 0))), ((q 22), .inl (cy 0, 90, .inl (fun _ => 0))), ((q 16), .inl (cy 1, 90, .inl (fun _ => 0))), ((q 17), .inl (cy 1, 90, .inl (fun _ => 0)))] H := hP
  have hD : va_D A [((q 0), .inr (11, (mO q 0 0 0 0 0 0 0 0 (-1) 1 0 0 0 0 0 0 0 0 0))), ((q 12), .inl (cy 0, 9, .inl (upd (fun _ => 0) (8) 0))), ((q 18), .inl (cy 1, 9, .inl (upd (fun _ => 0) (8) (vp_nar .boolean 0)))), ((q 19), .inl (cy 0, 9, .inl (upd (fun _ => 0) (8) 10))), ((q 20), .inl (cy 1, 9, .inl (upd (fun _ => 0) (8) (vp_nar .boolean 0)))), ((q 21), .inl (cy 0, 9, .inl (fun _ => 0))), ((q 24), .inl (cy 0, 9, .inl (fun _ => 0))), ((q 22), .inl (cy 0, 90, .inl (fun _ => 0))), ((q 16), .inl (cy 1, 90, .inl (fun _ => 0))), ((q 17), .inl (cy 1, 90, .inl (fun _ => 0)))] := hD
  refine lv_aload_n S.1 S.2.1 dX12_begins_33 rfl (lv_at hl 0 rfl) ?_
  refine r_get S hK hP 0 11 rfl rfl inX12 21 (by decide) kw_1531 (v := .ref (q 21)) rfl dX12_begins_34 ?_
  refine lv_bipush (v := 8) S.1 S.2.1 dX12_begins_37 (by decide) ?_
  refine lv_bipush (v := 20) S.1 S.2.1 dX12_begins_39 (by decide) ?_
  refine r_iast S hK hP hD hS 5 0 rfl rfl (8) rfl (by decide) (by decide) dX12_begins_41 (fun H locs hP hD hS => ?_)
  have hP : va_P D vwCl [((q 0), .inr (11, (mO q 0 0 0 0 0 0 0 0 (-1) 1 0 0 0 0 0 0 0 0 0))), ((q 12), .inl (cy 0, 9, .inl (upd (fun _ => 0) (8) 0))), ((q 18), .inl (cy 1, 9, .inl (upd (fun _ => 0) (8) (vp_nar .boolean 0)))), ((q 19), .inl (cy 0, 9, .inl (upd (fun _ => 0) (8) 10))), ((q 20), .inl (cy 1, 9, .inl (upd (fun _ => 0) (8) (vp_nar .boolean 0)))), ((q 21), .inl (cy 0, 9, .inl (upd (fun _ => 0) (8) 20))), ((q 24), .inl (cy 0, 9, .inl (fun _ => 0))), ((q 22), .inl (cy 0, 90, .inl (fun _ => 0))), ((q 16), .inl (cy 1, 90, .inl (fun _ => 0))), ((q 17), .inl (cy 1, 90, .inl (fun _ => 0)))] H := hP
  have hD : va_D A [((q 0), .inr (11, (mO q 0 0 0 0 0 0 0 0 (-1) 1 0 0 0 0 0 0 0 0 0))), ((q 12), .inl (cy 0, 9, .inl (upd (fun _ => 0) (8) 0))), ((q 18), .inl (cy 1, 9, .inl (upd (fun _ => 0) (8) (vp_nar .boolean 0)))), ((q 19), .inl (cy 0, 9, .inl (upd (fun _ => 0) (8) 10))), ((q 20), .inl (cy 1, 9, .inl (upd (fun _ => 0) (8) (vp_nar .boolean 0)))), ((q 21), .inl (cy 0, 9, .inl (upd (fun _ => 0) (8) 20))), ((q 24), .inl (cy 0, 9, .inl (fun _ => 0))), ((q 22), .inl (cy 0, 90, .inl (fun _ => 0))), ((q 16), .inl (cy 1, 90, .inl (fun _ => 0))), ((q 17), .inl (cy 1, 90, .inl (fun _ => 0)))] := hD
  refine lv_aload_n S.1 S.2.1 dX12_begins_42 rfl (lv_at hl 0 rfl) ?_
  refine r_get S hK hP 0 11 rfl rfl inX12 24 (by decide) kw_1534 (v := .ref (q 24)) rfl dX12_begins_43 ?_
  refine lv_bipush (v := 8) S.1 S.2.1 dX12_begins_46 (by decide) ?_
  refine lv_iconst (v := 0) S.1 S.2.1 dX12_begins_48 (by decide) ?_
  refine r_iast S hK hP hD hS 6 0 rfl rfl (8) rfl (by decide) (by decide) dX12_begins_49 (fun H locs hP hD hS => ?_)
  have hP : va_P D vwCl [((q 0), .inr (11, (mO q 0 0 0 0 0 0 0 0 (-1) 1 0 0 0 0 0 0 0 0 0))), ((q 12), .inl (cy 0, 9, .inl (upd (fun _ => 0) (8) 0))), ((q 18), .inl (cy 1, 9, .inl (upd (fun _ => 0) (8) (vp_nar .boolean 0)))), ((q 19), .inl (cy 0, 9, .inl (upd (fun _ => 0) (8) 10))), ((q 20), .inl (cy 1, 9, .inl (upd (fun _ => 0) (8) (vp_nar .boolean 0)))), ((q 21), .inl (cy 0, 9, .inl (upd (fun _ => 0) (8) 20))), ((q 24), .inl (cy 0, 9, .inl (upd (fun _ => 0) (8) 0))), ((q 22), .inl (cy 0, 90, .inl (fun _ => 0))), ((q 16), .inl (cy 1, 90, .inl (fun _ => 0))), ((q 17), .inl (cy 1, 90, .inl (fun _ => 0)))] H := hP
  have hD : va_D A [((q 0), .inr (11, (mO q 0 0 0 0 0 0 0 0 (-1) 1 0 0 0 0 0 0 0 0 0))), ((q 12), .inl (cy 0, 9, .inl (upd (fun _ => 0) (8) 0))), ((q 18), .inl (cy 1, 9, .inl (upd (fun _ => 0) (8) (vp_nar .boolean 0)))), ((q 19), .inl (cy 0, 9, .inl (upd (fun _ => 0) (8) 10))), ((q 20), .inl (cy 1, 9, .inl (upd (fun _ => 0) (8) (vp_nar .boolean 0)))), ((q 21), .inl (cy 0, 9, .inl (upd (fun _ => 0) (8) 20))), ((q 24), .inl (cy 0, 9, .inl (upd (fun _ => 0) (8) 0))), ((q 22), .inl (cy 0, 90, .inl (fun _ => 0))), ((q 16), .inl (cy 1, 90, .inl (fun _ => 0))), ((q 17), .inl (cy 1, 90, .inl (fun _ => 0)))] := hD
  refine lv_aload_n S.1 S.2.1 dX12_begins_50 rfl (lv_at hl 0 rfl) ?_
  refine lv_iconst (v := 0) S.1 S.2.1 dX12_begins_51 (by decide) ?_
  refine r_put S hK hP hD hS 0 11 rfl rfl inX12 28 (by decide) tyX12 tyX12_ok nmX12 kw_1538 (v := .int 0) rfl rfl rfl (Nat.le_of_ble_eq_true rfl) dX12_begins_52 (fun H locs hP hD hS => ?_)
  have hP : va_P D vwCl [((q 0), .inr (11, (mO q 0 0 0 0 0 0 0 0 (-1) 1 0 0 0 0 0 0 0 0 0))), ((q 12), .inl (cy 0, 9, .inl (upd (fun _ => 0) (8) 0))), ((q 18), .inl (cy 1, 9, .inl (upd (fun _ => 0) (8) (vp_nar .boolean 0)))), ((q 19), .inl (cy 0, 9, .inl (upd (fun _ => 0) (8) 10))), ((q 20), .inl (cy 1, 9, .inl (upd (fun _ => 0) (8) (vp_nar .boolean 0)))), ((q 21), .inl (cy 0, 9, .inl (upd (fun _ => 0) (8) 20))), ((q 24), .inl (cy 0, 9, .inl (upd (fun _ => 0) (8) 0))), ((q 22), .inl (cy 0, 90, .inl (fun _ => 0))), ((q 16), .inl (cy 1, 90, .inl (fun _ => 0))), ((q 17), .inl (cy 1, 90, .inl (fun _ => 0)))] H := hP
  have hD : va_D A [((q 0), .inr (11, (mO q 0 0 0 0 0 0 0 0 (-1) 1 0 0 0 0 0 0 0 0 0))), ((q 12), .inl (cy 0, 9, .inl (upd (fun _ => 0) (8) 0))), ((q 18), .inl (cy 1, 9, .inl (upd (fun _ => 0) (8) (vp_nar .boolean 0)))), ((q 19), .inl (cy 0, 9, .inl (upd (fun _ => 0) (8) 10))), ((q 20), .inl (cy 1, 9, .inl (upd (fun _ => 0) (8) (vp_nar .boolean 0)))), ((q 21), .inl (cy 0, 9, .inl (upd (fun _ => 0) (8) 20))), ((q 24), .inl (cy 0, 9, .inl (upd (fun _ => 0) (8) 0))), ((q 22), .inl (cy 0, 90, .inl (fun _ => 0))), ((q 16), .inl (cy 1, 90, .inl (fun _ => 0))), ((q 17), .inl (cy 1, 90, .inl (fun _ => 0)))] := hD
  refine lv_bipush (v := 80) S.1 S.2.1 dX12_begins_55 (by decide) ?_
  refine lv_istore_n (lv' := [(1, .int 80), (0, .ref (q 0))]) S.1 S.2.1 dX12_begins_57 rfl hl (by decide) rfl (fun ls hl => ?_)
  refine loopN (σ := (Nat → Int32) × (Nat → Int32) × (Nat → Int32)) 58 10 (fun k xs9 => [((q 0), .inr (11, (mO q 0 0 0 0 0 0 0 0 (-1) 1 0 0 0 0 0 0 0 0 0))), ((q 12), .inl (cy 0, 9, .inl (upd (fun _ => 0) (8) 0))), ((q 18), .inl (cy 1, 9, .inl (upd (fun _ => 0) (8) (vp_nar .boolean 0)))), ((q 19), .inl (cy 0, 9, .inl (upd (fun _ => 0) (8) 10))), ((q 20), .inl (cy 1, 9, .inl (upd (fun _ => 0) (8) (vp_nar .boolean 0)))), ((q 21), .inl (cy 0, 9, .inl (upd (fun _ => 0) (8) 20))), ((q 24), .inl (cy 0, 9, .inl (upd (fun _ => 0) (8) 0))), ((q 22), .inl (cy 0, 90, .inl (xs9.1))), ((q 16), .inl (cy 1, 90, .inl (xs9.2.1))), ((q 17), .inl (cy 1, 90, .inl (xs9.2.2)))]) (fun k xs9 => [(1, .int (nI (80 + k))), (0, .ref (q 0))]) (fun k xs9 => True) (fun xs9 hJ H locs ls hP hD hS hl => ?_) (fun k xs9 hk hJ H locs ls hP hD hS hl ih => ?_) ((fun _ => 0), (fun _ => 0), (fun _ => 0)) trivial (hP.sub [0, 1, 2, 3, 4, 5, 6, 7, 8, 9] rfl) (hD.sub [0, 1, 2, 3, 4, 5, 6, 7, 8, 9] (by decide) rfl) hS (lv_sub hl [0, 1] rfl)
  · obtain ⟨r1, r2, r3⟩ := xs9
    have hP : va_P D vwCl [((q 0), .inr (11, (mO q 0 0 0 0 0 0 0 0 (-1) 1 0 0 0 0 0 0 0 0 0))), ((q 12), .inl (cy 0, 9, .inl (upd (fun _ => 0) (8) 0))), ((q 18), .inl (cy 1, 9, .inl (upd (fun _ => 0) (8) (vp_nar .boolean 0)))), ((q 19), .inl (cy 0, 9, .inl (upd (fun _ => 0) (8) 10))), ((q 20), .inl (cy 1, 9, .inl (upd (fun _ => 0) (8) (vp_nar .boolean 0)))), ((q 21), .inl (cy 0, 9, .inl (upd (fun _ => 0) (8) 20))), ((q 24), .inl (cy 0, 9, .inl (upd (fun _ => 0) (8) 0))), ((q 22), .inl (cy 0, 90, .inl r1)), ((q 16), .inl (cy 1, 90, .inl r2)), ((q 17), .inl (cy 1, 90, .inl r3))] H := hP
    have hD : va_D A [((q 0), .inr (11, (mO q 0 0 0 0 0 0 0 0 (-1) 1 0 0 0 0 0 0 0 0 0))), ((q 12), .inl (cy 0, 9, .inl (upd (fun _ => 0) (8) 0))), ((q 18), .inl (cy 1, 9, .inl (upd (fun _ => 0) (8) (vp_nar .boolean 0)))), ((q 19), .inl (cy 0, 9, .inl (upd (fun _ => 0) (8) 10))), ((q 20), .inl (cy 1, 9, .inl (upd (fun _ => 0) (8) (vp_nar .boolean 0)))), ((q 21), .inl (cy 0, 9, .inl (upd (fun _ => 0) (8) 20))), ((q 24), .inl (cy 0, 9, .inl (upd (fun _ => 0) (8) 0))), ((q 22), .inl (cy 0, 90, .inl r1)), ((q 16), .inl (cy 1, 90, .inl r2)), ((q 17), .inl (cy 1, 90, .inl r3))] := hD
    have hl : lv_has ls 2 [(1, .int 90), (0, .ref (q 0))] := hl
    refine lv_iload_n S.1 S.2.1 dX12_begins_58 rfl (lv_at hl 0 rfl) ?_
    refine lv_bipush (v := 90) S.1 S.2.1 dX12_begins_59 (by decide) ?_
    refine r_icmp_ge S 90 90 rfl rfl dX12_begins_61 (tgt := 91) (by decide) (fun _ => ?_) (fun c => absurd c (by decide))
    exact cv_ret (u := ((upd (fun _ => 0) (8) 0), (upd (fun _ => 0) (8) (vp_nar .boolean 0)), (upd (fun _ => 0) (8) 10), (upd (fun _ => 0) (8) (vp_nar .boolean 0)), (upd (fun _ => 0) (8) 20), (upd (fun _ => 0) (8) 0), r1, r2, r3)) S hr hlk hK (hP.sub [0, 1, 2, 3, 4, 5, 6, 7, 8, 9] rfl) (hD.sub [0, 1, 2, 3, 4, 5, 6, 7, 8, 9] (by decide) rfl) hS (trivial) (by decide) (by decide) dX12_begins_91
  · obtain ⟨r1, r2, r3⟩ := xs9
    have hP : va_P D vwCl [((q 0), .inr (11, (mO q 0 0 0 0 0 0 0 0 (-1) 1 0 0 0 0 0 0 0 0 0))), ((q 12), .inl (cy 0, 9, .inl (upd (fun _ => 0) (8) 0))), ((q 18), .inl (cy 1, 9, .inl (upd (fun _ => 0) (8) (vp_nar .boolean 0)))), ((q 19), .inl (cy 0, 9, .inl (upd (fun _ => 0) (8) 10))), ((q 20), .inl (cy 1, 9, .inl (upd (fun _ => 0) (8) (vp_nar .boolean 0)))), ((q 21), .inl (cy 0, 9, .inl (upd (fun _ => 0) (8) 20))), ((q 24), .inl (cy 0, 9, .inl (upd (fun _ => 0) (8) 0))), ((q 22), .inl (cy 0, 90, .inl r1)), ((q 16), .inl (cy 1, 90, .inl r2)), ((q 17), .inl (cy 1, 90, .inl r3))] H := hP
    have hD : va_D A [((q 0), .inr (11, (mO q 0 0 0 0 0 0 0 0 (-1) 1 0 0 0 0 0 0 0 0 0))), ((q 12), .inl (cy 0, 9, .inl (upd (fun _ => 0) (8) 0))), ((q 18), .inl (cy 1, 9, .inl (upd (fun _ => 0) (8) (vp_nar .boolean 0)))), ((q 19), .inl (cy 0, 9, .inl (upd (fun _ => 0) (8) 10))), ((q 20), .inl (cy 1, 9, .inl (upd (fun _ => 0) (8) (vp_nar .boolean 0)))), ((q 21), .inl (cy 0, 9, .inl (upd (fun _ => 0) (8) 20))), ((q 24), .inl (cy 0, 9, .inl (upd (fun _ => 0) (8) 0))), ((q 22), .inl (cy 0, 90, .inl r1)), ((q 16), .inl (cy 1, 90, .inl r2)), ((q 17), .inl (cy 1, 90, .inl r3))] := hD
    have hl : lv_has ls 2 [(1, .int (nI (80 + k))), (0, .ref (q 0))] := hl
    refine lv_iload_n S.1 S.2.1 dX12_begins_58 rfl (lv_at hl 0 rfl) ?_
    refine lv_bipush (v := 90) S.1 S.2.1 dX12_begins_59 (by decide) ?_
    refine r_icmp_ge S ((80 + k : Nat) : Int) 90 (nI_toInt (by omega)) rfl dX12_begins_61 (tgt := 91) (by decide) (fun c => absurd c (by omega)) (fun _ => ?_)
    refine lv_aload_n S.1 S.2.1 dX12_begins_64 rfl (lv_at hl 1 rfl) ?_
    refine r_get S hK hP 0 11 rfl rfl inX12 22 (by decide) kw_1532 (v := .ref (q 22)) rfl dX12_begins_65 ?_
    refine lv_iload_n S.1 S.2.1 dX12_begins_68 rfl (lv_at hl 0 rfl) ?_
    refine lv_iconst (v := (-1)) S.1 S.2.1 dX12_begins_69 (by decide) ?_
    refine r_iast S hK hP hD hS 7 0 rfl rfl ((80 + k)) rfl (by omega) (by decide) dX12_begins_70 (fun H locs hP hD hS => ?_)
    have hP : va_P D vwCl [((q 0), .inr (11, (mO q 0 0 0 0 0 0 0 0 (-1) 1 0 0 0 0 0 0 0 0 0))), ((q 12), .inl (cy 0, 9, .inl (upd (fun _ => 0) (8) 0))), ((q 18), .inl (cy 1, 9, .inl (upd (fun _ => 0) (8) (vp_nar .boolean 0)))), ((q 19), .inl (cy 0, 9, .inl (upd (fun _ => 0) (8) 10))), ((q 20), .inl (cy 1, 9, .inl (upd (fun _ => 0) (8) (vp_nar .boolean 0)))), ((q 21), .inl (cy 0, 9, .inl (upd (fun _ => 0) (8) 20))), ((q 24), .inl (cy 0, 9, .inl (upd (fun _ => 0) (8) 0))), ((q 22), .inl (cy 0, 90, .inl (upd r1 ((80 + k)) (-1)))), ((q 16), .inl (cy 1, 90, .inl r2)), ((q 17), .inl (cy 1, 90, .inl r3))] H := hP
    have hD : va_D A [((q 0), .inr (11, (mO q 0 0 0 0 0 0 0 0 (-1) 1 0 0 0 0 0 0 0 0 0))), ((q 12), .inl (cy 0, 9, .inl (upd (fun _ => 0) (8) 0))), ((q 18), .inl (cy 1, 9, .inl (upd (fun _ => 0) (8) (vp_nar .boolean 0)))), ((q 19), .inl (cy 0, 9, .inl (upd (fun _ => 0) (8) 10))), ((q 20), .inl (cy 1, 9, .inl (upd (fun _ => 0) (8) (vp_nar .boolean 0)))), ((q 21), .inl (cy 0, 9, .inl (upd (fun _ => 0) (8) 20))), ((q 24), .inl (cy 0, 9, .inl (upd (fun _ => 0) (8) 0))), ((q 22), .inl (cy 0, 90, .inl (upd r1 ((80 + k)) (-1)))), ((q 16), .inl (cy 1, 90, .inl r2)), ((q 17), .inl (cy 1, 90, .inl r3))] := hD
    refine lv_aload_n S.1 S.2.1 dX12_begins_71 rfl (lv_at hl 1 rfl) ?_
    refine r_get S hK hP 0 11 rfl rfl inX12 16 (by decide) kw_1526 (v := .ref (q 16)) rfl dX12_begins_72 ?_
    refine lv_iload_n S.1 S.2.1 dX12_begins_75 rfl (lv_at hl 0 rfl) ?_
    refine lv_iconst (v := 0) S.1 S.2.1 dX12_begins_76 (by decide) ?_
    refine r_zast S hK hP hD hS 8 1 rfl rfl ((80 + k)) rfl (by omega) (by decide) dX12_begins_77 (fun H locs hP hD hS => ?_)
    have hP : va_P D vwCl [((q 0), .inr (11, (mO q 0 0 0 0 0 0 0 0 (-1) 1 0 0 0 0 0 0 0 0 0))), ((q 12), .inl (cy 0, 9, .inl (upd (fun _ => 0) (8) 0))), ((q 18), .inl (cy 1, 9, .inl (upd (fun _ => 0) (8) (vp_nar .boolean 0)))), ((q 19), .inl (cy 0, 9, .inl (upd (fun _ => 0) (8) 10))), ((q 20), .inl (cy 1, 9, .inl (upd (fun _ => 0) (8) (vp_nar .boolean 0)))), ((q 21), .inl (cy 0, 9, .inl (upd (fun _ => 0) (8) 20))), ((q 24), .inl (cy 0, 9, .inl (upd (fun _ => 0) (8) 0))), ((q 22), .inl (cy 0, 90, .inl (upd r1 ((80 + k)) (-1)))), ((q 16), .inl (cy 1, 90, .inl (upd r2 ((80 + k)) (vp_nar .boolean 0)))), ((q 17), .inl (cy 1, 90, .inl r3))] H := hP
    have hD : va_D A [((q 0), .inr (11, (mO q 0 0 0 0 0 0 0 0 (-1) 1 0 0 0 0 0 0 0 0 0))), ((q 12), .inl (cy 0, 9, .inl (upd (fun _ => 0) (8) 0))), ((q 18), .inl (cy 1, 9, .inl (upd (fun _ => 0) (8) (vp_nar .boolean 0)))), ((q 19), .inl (cy 0, 9, .inl (upd (fun _ => 0) (8) 10))), ((q 20), .inl (cy 1, 9, .inl (upd (fun _ => 0) (8) (vp_nar .boolean 0)))), ((q 21), .inl (cy 0, 9, .inl (upd (fun _ => 0) (8) 20))), ((q 24), .inl (cy 0, 9, .inl (upd (fun _ => 0) (8) 0))), ((q 22), .inl (cy 0, 90, .inl (upd r1 ((80 + k)) (-1)))), ((q 16), .inl (cy 1, 90, .inl (upd r2 ((80 + k)) (vp_nar .boolean 0)))), ((q 17), .inl (cy 1, 90, .inl r3))] := hD
    refine lv_aload_n S.1 S.2.1 dX12_begins_78 rfl (lv_at hl 1 rfl) ?_
    refine r_get S hK hP 0 11 rfl rfl inX12 17 (by decide) kw_1527 (v := .ref (q 17)) rfl dX12_begins_79 ?_
    refine lv_iload_n S.1 S.2.1 dX12_begins_82 rfl (lv_at hl 0 rfl) ?_
    refine lv_iconst (v := 0) S.1 S.2.1 dX12_begins_83 (by decide) ?_
    refine r_zast S hK hP hD hS 9 1 rfl rfl ((80 + k)) rfl (by omega) (by decide) dX12_begins_84 (fun H locs hP hD hS => ?_)
    have hP : va_P D vwCl [((q 0), .inr (11, (mO q 0 0 0 0 0 0 0 0 (-1) 1 0 0 0 0 0 0 0 0 0))), ((q 12), .inl (cy 0, 9, .inl (upd (fun _ => 0) (8) 0))), ((q 18), .inl (cy 1, 9, .inl (upd (fun _ => 0) (8) (vp_nar .boolean 0)))), ((q 19), .inl (cy 0, 9, .inl (upd (fun _ => 0) (8) 10))), ((q 20), .inl (cy 1, 9, .inl (upd (fun _ => 0) (8) (vp_nar .boolean 0)))), ((q 21), .inl (cy 0, 9, .inl (upd (fun _ => 0) (8) 20))), ((q 24), .inl (cy 0, 9, .inl (upd (fun _ => 0) (8) 0))), ((q 22), .inl (cy 0, 90, .inl (upd r1 ((80 + k)) (-1)))), ((q 16), .inl (cy 1, 90, .inl (upd r2 ((80 + k)) (vp_nar .boolean 0)))), ((q 17), .inl (cy 1, 90, .inl (upd r3 ((80 + k)) (vp_nar .boolean 0))))] H := hP
    have hD : va_D A [((q 0), .inr (11, (mO q 0 0 0 0 0 0 0 0 (-1) 1 0 0 0 0 0 0 0 0 0))), ((q 12), .inl (cy 0, 9, .inl (upd (fun _ => 0) (8) 0))), ((q 18), .inl (cy 1, 9, .inl (upd (fun _ => 0) (8) (vp_nar .boolean 0)))), ((q 19), .inl (cy 0, 9, .inl (upd (fun _ => 0) (8) 10))), ((q 20), .inl (cy 1, 9, .inl (upd (fun _ => 0) (8) (vp_nar .boolean 0)))), ((q 21), .inl (cy 0, 9, .inl (upd (fun _ => 0) (8) 20))), ((q 24), .inl (cy 0, 9, .inl (upd (fun _ => 0) (8) 0))), ((q 22), .inl (cy 0, 90, .inl (upd r1 ((80 + k)) (-1)))), ((q 16), .inl (cy 1, 90, .inl (upd r2 ((80 + k)) (vp_nar .boolean 0)))), ((q 17), .inl (cy 1, 90, .inl (upd r3 ((80 + k)) (vp_nar .boolean 0))))] := hD
    refine lv_iinc (v := (nI ((80 + k) + 1))) (lv' := [(1, .int (nI ((80 + k) + 1))), (0, .ref (q 0))]) S.1 S.2.1 dX12_begins_85 hl (k := 0) rfl (nI_1 (80 + k)) (by decide) rfl (fun ls hl => ?_)
    refine lv_goto (tgt := 58) S.1 S.2.1 dX12_begins_88 (by decide) ?_
    exact ih ((upd r1 ((80 + k)) (-1)), (upd r2 ((80 + k)) (vp_nar .boolean 0)), (upd r3 ((80 + k)) (vp_nar .boolean 0))) _ _ _ trivial (hP.sub [0, 1, 2, 3, 4, 5, 6, 7, 8, 9] rfl) (hD.sub [0, 1, 2, 3, 4, 5, 6, 7, 8, 9] (by decide) rfl) hS (lv_sub hl [0, 1] rfl)
set_option maxHeartbeats 4000000 in
set_option maxRecDepth 100000 in
theorem kX12_keeps (l : Launch) (D : va_G) (cy : Nat → ClassId) (q : Nat → Nat) (b0 : Nat → Int32) (b1 : Nat → Int32) (b2 : Nat → Int32) (b3 : Nat → Int32) (b4 : Nat → Int32) (b5 : Nat → Int32) (b6 : Nat → Int32) (b7 : Nat → Int32) (b8 : Nat → Int32) (b9 : Nat → Int32) (b10 : Nat → Int32) (b11 : Nat → Int32) (b12 : Nat → Int32) (b13 : Nat → Int32) : CV l D cy yX12_keeps cX12_keeps 3 none 0 0 0 0 [.ref (q 0), .int 0] [((q 0), .inr (11, (mO q 0 0 0 0 0 1 0 0 (-1) 1 0 0 0 0 0 0 0 0 0))), ((q 11), .inl (cy 0, 9, .inl b0)), ((q 12), .inl (cy 0, 9, .inl b1)), ((q 19), .inl (cy 0, 9, .inl b2)), ((q 21), .inl (cy 0, 9, .inl b3)), ((q 24), .inl (cy 0, 9, .inl b4)), ((q 14), .inl (cy 0, 90, .inl b5)), ((q 15), .inl (cy 0, 90, .inl b6)), ((q 16), .inl (cy 1, 90, .inl b7)), ((q 17), .inl (cy 1, 90, .inl b8)), ((q 22), .inl (cy 0, 90, .inl b9)), ((q 23), .inl (cy 0, 90, .inl b10)), ((q 25), .inl (cy 0, 216, .inl b11)), ((q 26), .inl (cy 0, 216, .inl b12)), ((q 27), .inl (cy 0, 216, .inl b13))] (fun (u : Unit) => True) (fun (u : Unit) => [((q 0), .inr (11, (mO q 0 0 0 0 0 1 0 0 (-1) 1 0 0 0 0 0 0 0 0 0)))]) := by
  refine cv_go (by decide) (Nat.le_of_ble_eq_true rfl) (fun p e s m below meth c ls A hA S hr hlk hnm hP hK hD hl => ?_)
  have hS : va_S A s.heap s.heap [] := va_S.rf
  have hl : lv_has ls 3 [(0, .ref (q 0)), (1, .int 0)] := hl
  refine lv_aload_n S.1 S.2.1 dX12_keeps_0 rfl (lv_at hl 0 rfl) ?_
  refine r_get S hK hP 0 11 rfl rfl inX12 11 (by decide) kw_1521 (v := .ref (q 11)) rfl dX12_keeps_1 ?_
  refine lv_iload_n S.1 S.2.1 dX12_keeps_4 rfl (lv_at hl 1 rfl) ?_
  refine lv_aload_n S.1 S.2.1 dX12_keeps_5 rfl (lv_at hl 0 rfl) ?_
  refine r_get S hK hP 0 11 rfl rfl inX12 33 (by decide) kw_1543 (v := .int 0) rfl dX12_keeps_6 ?_
  refine r_iast S hK hP hD hS 1 0 rfl rfl (0) rfl (by decide) (by decide) dX12_keeps_9 (fun H locs hP hD hS => ?_)
  have hP : va_P D vwCl [((q 0), .inr (11, (mO q 0 0 0 0 0 1 0 0 (-1) 1 0 0 0 0 0 0 0 0 0))), ((q 11), .inl (cy 0, 9, .inl (upd b0 (0) 0))), ((q 12), .inl (cy 0, 9, .inl b1)), ((q 19), .inl (cy 0, 9, .inl b2)), ((q 21), .inl (cy 0, 9, .inl b3)), ((q 24), .inl (cy 0, 9, .inl b4)), ((q 14), .inl (cy 0, 90, .inl b5)), ((q 15), .inl (cy 0, 90, .inl b6)), ((q 16), .inl (cy 1, 90, .inl b7)), ((q 17), .inl (cy 1, 90, .inl b8)), ((q 22), .inl (cy 0, 90, .inl b9)), ((q 23), .inl (cy 0, 90, .inl b10)), ((q 25), .inl (cy 0, 216, .inl b11)), ((q 26), .inl (cy 0, 216, .inl b12)), ((q 27), .inl (cy 0, 216, .inl b13))] H := hP
  have hD : va_D A [((q 0), .inr (11, (mO q 0 0 0 0 0 1 0 0 (-1) 1 0 0 0 0 0 0 0 0 0))), ((q 11), .inl (cy 0, 9, .inl (upd b0 (0) 0))), ((q 12), .inl (cy 0, 9, .inl b1)), ((q 19), .inl (cy 0, 9, .inl b2)), ((q 21), .inl (cy 0, 9, .inl b3)), ((q 24), .inl (cy 0, 9, .inl b4)), ((q 14), .inl (cy 0, 90, .inl b5)), ((q 15), .inl (cy 0, 90, .inl b6)), ((q 16), .inl (cy 1, 90, .inl b7)), ((q 17), .inl (cy 1, 90, .inl b8)), ((q 22), .inl (cy 0, 90, .inl b9)), ((q 23), .inl (cy 0, 90, .inl b10)), ((q 25), .inl (cy 0, 216, .inl b11)), ((q 26), .inl (cy 0, 216, .inl b12)), ((q 27), .inl (cy 0, 216, .inl b13))] := hD
  refine lv_aload_n S.1 S.2.1 dX12_keeps_10 rfl (lv_at hl 0 rfl) ?_
  refine r_get S hK hP 0 11 rfl rfl inX12 12 (by decide) kw_1522 (v := .ref (q 12)) rfl dX12_keeps_11 ?_
  refine lv_iload_n S.1 S.2.1 dX12_keeps_14 rfl (lv_at hl 1 rfl) ?_
  refine lv_aload_n S.1 S.2.1 dX12_keeps_15 rfl (lv_at hl 0 rfl) ?_
  refine r_get S hK hP 0 11 rfl rfl inX12 12 (by decide) kw_1522 (v := .ref (q 12)) rfl dX12_keeps_16 ?_
  refine lv_bipush (v := 8) S.1 S.2.1 dX12_keeps_19 (by decide) ?_
  refine r_iald S hK hP 2 0 rfl rfl (8) rfl (by decide) (by decide) (v := (b1 (8))) rfl dX12_keeps_21 ?_
  refine r_iast S hK hP hD hS 2 0 rfl rfl (0) rfl (by decide) (by decide) dX12_keeps_22 (fun H locs hP hD hS => ?_)
  have hP : va_P D vwCl [((q 0), .inr (11, (mO q 0 0 0 0 0 1 0 0 (-1) 1 0 0 0 0 0 0 0 0 0))), ((q 11), .inl (cy 0, 9, .inl (upd b0 (0) 0))), ((q 12), .inl (cy 0, 9, .inl (upd b1 (0) (b1 (8))))), ((q 19), .inl (cy 0, 9, .inl b2)), ((q 21), .inl (cy 0, 9, .inl b3)), ((q 24), .inl (cy 0, 9, .inl b4)), ((q 14), .inl (cy 0, 90, .inl b5)), ((q 15), .inl (cy 0, 90, .inl b6)), ((q 16), .inl (cy 1, 90, .inl b7)), ((q 17), .inl (cy 1, 90, .inl b8)), ((q 22), .inl (cy 0, 90, .inl b9)), ((q 23), .inl (cy 0, 90, .inl b10)), ((q 25), .inl (cy 0, 216, .inl b11)), ((q 26), .inl (cy 0, 216, .inl b12)), ((q 27), .inl (cy 0, 216, .inl b13))] H := hP
  have hD : va_D A [((q 0), .inr (11, (mO q 0 0 0 0 0 1 0 0 (-1) 1 0 0 0 0 0 0 0 0 0))), ((q 11), .inl (cy 0, 9, .inl (upd b0 (0) 0))), ((q 12), .inl (cy 0, 9, .inl (upd b1 (0) (b1 (8))))), ((q 19), .inl (cy 0, 9, .inl b2)), ((q 21), .inl (cy 0, 9, .inl b3)), ((q 24), .inl (cy 0, 9, .inl b4)), ((q 14), .inl (cy 0, 90, .inl b5)), ((q 15), .inl (cy 0, 90, .inl b6)), ((q 16), .inl (cy 1, 90, .inl b7)), ((q 17), .inl (cy 1, 90, .inl b8)), ((q 22), .inl (cy 0, 90, .inl b9)), ((q 23), .inl (cy 0, 90, .inl b10)), ((q 25), .inl (cy 0, 216, .inl b11)), ((q 26), .inl (cy 0, 216, .inl b12)), ((q 27), .inl (cy 0, 216, .inl b13))] := hD
  refine lv_aload_n S.1 S.2.1 dX12_keeps_23 rfl (lv_at hl 0 rfl) ?_
  refine r_get S hK hP 0 11 rfl rfl inX12 19 (by decide) kw_1529 (v := .ref (q 19)) rfl dX12_keeps_24 ?_
  refine lv_iload_n S.1 S.2.1 dX12_keeps_27 rfl (lv_at hl 1 rfl) ?_
  refine lv_aload_n S.1 S.2.1 dX12_keeps_28 rfl (lv_at hl 0 rfl) ?_
  refine r_get S hK hP 0 11 rfl rfl inX12 19 (by decide) kw_1529 (v := .ref (q 19)) rfl dX12_keeps_29 ?_
  refine lv_bipush (v := 8) S.1 S.2.1 dX12_keeps_32 (by decide) ?_
  refine r_iald S hK hP 3 0 rfl rfl (8) rfl (by decide) (by decide) (v := (b2 (8))) rfl dX12_keeps_34 ?_
  refine r_iast S hK hP hD hS 3 0 rfl rfl (0) rfl (by decide) (by decide) dX12_keeps_35 (fun H locs hP hD hS => ?_)
  have hP : va_P D vwCl [((q 0), .inr (11, (mO q 0 0 0 0 0 1 0 0 (-1) 1 0 0 0 0 0 0 0 0 0))), ((q 11), .inl (cy 0, 9, .inl (upd b0 (0) 0))), ((q 12), .inl (cy 0, 9, .inl (upd b1 (0) (b1 (8))))), ((q 19), .inl (cy 0, 9, .inl (upd b2 (0) (b2 (8))))), ((q 21), .inl (cy 0, 9, .inl b3)), ((q 24), .inl (cy 0, 9, .inl b4)), ((q 14), .inl (cy 0, 90, .inl b5)), ((q 15), .inl (cy 0, 90, .inl b6)), ((q 16), .inl (cy 1, 90, .inl b7)), ((q 17), .inl (cy 1, 90, .inl b8)), ((q 22), .inl (cy 0, 90, .inl b9)), ((q 23), .inl (cy 0, 90, .inl b10)), ((q 25), .inl (cy 0, 216, .inl b11)), ((q 26), .inl (cy 0, 216, .inl b12)), ((q 27), .inl (cy 0, 216, .inl b13))] H := hP
  have hD : va_D A [((q 0), .inr (11, (mO q 0 0 0 0 0 1 0 0 (-1) 1 0 0 0 0 0 0 0 0 0))), ((q 11), .inl (cy 0, 9, .inl (upd b0 (0) 0))), ((q 12), .inl (cy 0, 9, .inl (upd b1 (0) (b1 (8))))), ((q 19), .inl (cy 0, 9, .inl (upd b2 (0) (b2 (8))))), ((q 21), .inl (cy 0, 9, .inl b3)), ((q 24), .inl (cy 0, 9, .inl b4)), ((q 14), .inl (cy 0, 90, .inl b5)), ((q 15), .inl (cy 0, 90, .inl b6)), ((q 16), .inl (cy 1, 90, .inl b7)), ((q 17), .inl (cy 1, 90, .inl b8)), ((q 22), .inl (cy 0, 90, .inl b9)), ((q 23), .inl (cy 0, 90, .inl b10)), ((q 25), .inl (cy 0, 216, .inl b11)), ((q 26), .inl (cy 0, 216, .inl b12)), ((q 27), .inl (cy 0, 216, .inl b13))] := hD
  refine lv_aload_n S.1 S.2.1 dX12_keeps_36 rfl (lv_at hl 0 rfl) ?_
  refine r_get S hK hP 0 11 rfl rfl inX12 21 (by decide) kw_1531 (v := .ref (q 21)) rfl dX12_keeps_37 ?_
  refine lv_iload_n S.1 S.2.1 dX12_keeps_40 rfl (lv_at hl 1 rfl) ?_
  refine lv_aload_n S.1 S.2.1 dX12_keeps_41 rfl (lv_at hl 0 rfl) ?_
  refine r_get S hK hP 0 11 rfl rfl inX12 21 (by decide) kw_1531 (v := .ref (q 21)) rfl dX12_keeps_42 ?_
  refine lv_bipush (v := 8) S.1 S.2.1 dX12_keeps_45 (by decide) ?_
  refine r_iald S hK hP 4 0 rfl rfl (8) rfl (by decide) (by decide) (v := (b3 (8))) rfl dX12_keeps_47 ?_
  refine r_iast S hK hP hD hS 4 0 rfl rfl (0) rfl (by decide) (by decide) dX12_keeps_48 (fun H locs hP hD hS => ?_)
  have hP : va_P D vwCl [((q 0), .inr (11, (mO q 0 0 0 0 0 1 0 0 (-1) 1 0 0 0 0 0 0 0 0 0))), ((q 11), .inl (cy 0, 9, .inl (upd b0 (0) 0))), ((q 12), .inl (cy 0, 9, .inl (upd b1 (0) (b1 (8))))), ((q 19), .inl (cy 0, 9, .inl (upd b2 (0) (b2 (8))))), ((q 21), .inl (cy 0, 9, .inl (upd b3 (0) (b3 (8))))), ((q 24), .inl (cy 0, 9, .inl b4)), ((q 14), .inl (cy 0, 90, .inl b5)), ((q 15), .inl (cy 0, 90, .inl b6)), ((q 16), .inl (cy 1, 90, .inl b7)), ((q 17), .inl (cy 1, 90, .inl b8)), ((q 22), .inl (cy 0, 90, .inl b9)), ((q 23), .inl (cy 0, 90, .inl b10)), ((q 25), .inl (cy 0, 216, .inl b11)), ((q 26), .inl (cy 0, 216, .inl b12)), ((q 27), .inl (cy 0, 216, .inl b13))] H := hP
  have hD : va_D A [((q 0), .inr (11, (mO q 0 0 0 0 0 1 0 0 (-1) 1 0 0 0 0 0 0 0 0 0))), ((q 11), .inl (cy 0, 9, .inl (upd b0 (0) 0))), ((q 12), .inl (cy 0, 9, .inl (upd b1 (0) (b1 (8))))), ((q 19), .inl (cy 0, 9, .inl (upd b2 (0) (b2 (8))))), ((q 21), .inl (cy 0, 9, .inl (upd b3 (0) (b3 (8))))), ((q 24), .inl (cy 0, 9, .inl b4)), ((q 14), .inl (cy 0, 90, .inl b5)), ((q 15), .inl (cy 0, 90, .inl b6)), ((q 16), .inl (cy 1, 90, .inl b7)), ((q 17), .inl (cy 1, 90, .inl b8)), ((q 22), .inl (cy 0, 90, .inl b9)), ((q 23), .inl (cy 0, 90, .inl b10)), ((q 25), .inl (cy 0, 216, .inl b11)), ((q 26), .inl (cy 0, 216, .inl b12)), ((q 27), .inl (cy 0, 216, .inl b13))] := hD
  refine lv_aload_n S.1 S.2.1 dX12_keeps_49 rfl (lv_at hl 0 rfl) ?_
  refine r_get S hK hP 0 11 rfl rfl inX12 24 (by decide) kw_1534 (v := .ref (q 24)) rfl dX12_keeps_50 ?_
  refine lv_iload_n S.1 S.2.1 dX12_keeps_53 rfl (lv_at hl 1 rfl) ?_
  refine lv_aload_n S.1 S.2.1 dX12_keeps_54 rfl (lv_at hl 0 rfl) ?_
  refine r_get S hK hP 0 11 rfl rfl inX12 24 (by decide) kw_1534 (v := .ref (q 24)) rfl dX12_keeps_55 ?_
  refine lv_bipush (v := 8) S.1 S.2.1 dX12_keeps_58 (by decide) ?_
  refine r_iald S hK hP 5 0 rfl rfl (8) rfl (by decide) (by decide) (v := (b4 (8))) rfl dX12_keeps_60 ?_
  refine r_iast S hK hP hD hS 5 0 rfl rfl (0) rfl (by decide) (by decide) dX12_keeps_61 (fun H locs hP hD hS => ?_)
  have hP : va_P D vwCl [((q 0), .inr (11, (mO q 0 0 0 0 0 1 0 0 (-1) 1 0 0 0 0 0 0 0 0 0))), ((q 11), .inl (cy 0, 9, .inl (upd b0 (0) 0))), ((q 12), .inl (cy 0, 9, .inl (upd b1 (0) (b1 (8))))), ((q 19), .inl (cy 0, 9, .inl (upd b2 (0) (b2 (8))))), ((q 21), .inl (cy 0, 9, .inl (upd b3 (0) (b3 (8))))), ((q 24), .inl (cy 0, 9, .inl (upd b4 (0) (b4 (8))))), ((q 14), .inl (cy 0, 90, .inl b5)), ((q 15), .inl (cy 0, 90, .inl b6)), ((q 16), .inl (cy 1, 90, .inl b7)), ((q 17), .inl (cy 1, 90, .inl b8)), ((q 22), .inl (cy 0, 90, .inl b9)), ((q 23), .inl (cy 0, 90, .inl b10)), ((q 25), .inl (cy 0, 216, .inl b11)), ((q 26), .inl (cy 0, 216, .inl b12)), ((q 27), .inl (cy 0, 216, .inl b13))] H := hP
  have hD : va_D A [((q 0), .inr (11, (mO q 0 0 0 0 0 1 0 0 (-1) 1 0 0 0 0 0 0 0 0 0))), ((q 11), .inl (cy 0, 9, .inl (upd b0 (0) 0))), ((q 12), .inl (cy 0, 9, .inl (upd b1 (0) (b1 (8))))), ((q 19), .inl (cy 0, 9, .inl (upd b2 (0) (b2 (8))))), ((q 21), .inl (cy 0, 9, .inl (upd b3 (0) (b3 (8))))), ((q 24), .inl (cy 0, 9, .inl (upd b4 (0) (b4 (8))))), ((q 14), .inl (cy 0, 90, .inl b5)), ((q 15), .inl (cy 0, 90, .inl b6)), ((q 16), .inl (cy 1, 90, .inl b7)), ((q 17), .inl (cy 1, 90, .inl b8)), ((q 22), .inl (cy 0, 90, .inl b9)), ((q 23), .inl (cy 0, 90, .inl b10)), ((q 25), .inl (cy 0, 216, .inl b11)), ((q 26), .inl (cy 0, 216, .inl b12)), ((q 27), .inl (cy 0, 216, .inl b13))] := hD
  refine lv_iconst (v := 0) S.1 S.2.1 dX12_keeps_62 (by decide) ?_
  refine lv_istore_n (lv' := [(2, .int 0), (0, .ref (q 0)), (1, .int 0)]) S.1 S.2.1 dX12_keeps_63 rfl hl (by decide) rfl (fun ls hl => ?_)
  refine loopN (σ := (Nat → Int32) × (Nat → Int32) × (Nat → Int32) × (Nat → Int32) × (Nat → Int32) × (Nat → Int32)) 64 10 (fun ka xs9 => [((q 0), .inr (11, (mO q 0 0 0 0 0 1 0 0 (-1) 1 0 0 0 0 0 0 0 0 0))), ((q 11), .inl (cy 0, 9, .inl (upd b0 (0) 0))), ((q 12), .inl (cy 0, 9, .inl (upd b1 (0) (b1 (8))))), ((q 19), .inl (cy 0, 9, .inl (upd b2 (0) (b2 (8))))), ((q 21), .inl (cy 0, 9, .inl (upd b3 (0) (b3 (8))))), ((q 24), .inl (cy 0, 9, .inl (upd b4 (0) (b4 (8))))), ((q 14), .inl (cy 0, 90, .inl (xs9.1))), ((q 15), .inl (cy 0, 90, .inl (xs9.2.1))), ((q 16), .inl (cy 1, 90, .inl (xs9.2.2.1))), ((q 17), .inl (cy 1, 90, .inl (xs9.2.2.2.1))), ((q 22), .inl (cy 0, 90, .inl (xs9.2.2.2.2.1))), ((q 23), .inl (cy 0, 90, .inl (xs9.2.2.2.2.2))), ((q 25), .inl (cy 0, 216, .inl b11)), ((q 26), .inl (cy 0, 216, .inl b12)), ((q 27), .inl (cy 0, 216, .inl b13))]) (fun ka xs9 => [(2, .int (nI (ka))), (0, .ref (q 0)), (1, .int 0)]) (fun ka xs9 => True) (fun xs9 hJa H locs ls hP hD hS hl => ?_) (fun ka xs9 hka hJa H locs ls hP hD hS hl iha => ?_) (b5, b6, b7, b8, b9, b10) trivial (hP.sub [0, 1, 2, 3, 4, 5, 6, 7, 8, 9, 10, 11, 12, 13, 14] rfl) (hD.sub [0, 1, 2, 3, 4, 5, 6, 7, 8, 9, 10, 11, 12, 13, 14] (by decide) rfl) hS (lv_sub hl [0, 1, 2] rfl)
  · obtain ⟨r0a, r1a, r2a, r3a, r4a, r5a⟩ := xs9
    have hP : va_P D vwCl [((q 0), .inr (11, (mO q 0 0 0 0 0 1 0 0 (-1) 1 0 0 0 0 0 0 0 0 0))), ((q 11), .inl (cy 0, 9, .inl (upd b0 (0) 0))), ((q 12), .inl (cy 0, 9, .inl (upd b1 (0) (b1 (8))))), ((q 19), .inl (cy 0, 9, .inl (upd b2 (0) (b2 (8))))), ((q 21), .inl (cy 0, 9, .inl (upd b3 (0) (b3 (8))))), ((q 24), .inl (cy 0, 9, .inl (upd b4 (0) (b4 (8))))), ((q 14), .inl (cy 0, 90, .inl r0a)), ((q 15), .inl (cy 0, 90, .inl r1a)), ((q 16), .inl (cy 1, 90, .inl r2a)), ((q 17), .inl (cy 1, 90, .inl r3a)), ((q 22), .inl (cy 0, 90, .inl r4a)), ((q 23), .inl (cy 0, 90, .inl r5a)), ((q 25), .inl (cy 0, 216, .inl b11)), ((q 26), .inl (cy 0, 216, .inl b12)), ((q 27), .inl (cy 0, 216, .inl b13))] H := hP
    have hD : va_D A [((q 0), .inr (11, (mO q 0 0 0 0 0 1 0 0 (-1) 1 0 0 0 0 0 0 0 0 0))), ((q 11), .inl (cy 0, 9, .inl (upd b0 (0) 0))), ((q 12), .inl (cy 0, 9, .inl (upd b1 (0) (b1 (8))))), ((q 19), .inl (cy 0, 9, .inl (upd b2 (0) (b2 (8))))), ((q 21), .inl (cy 0, 9, .inl (upd b3 (0) (b3 (8))))), ((q 24), .inl (cy 0, 9, .inl (upd b4 (0) (b4 (8))))), ((q 14), .inl (cy 0, 90, .inl r0a)), ((q 15), .inl (cy 0, 90, .inl r1a)), ((q 16), .inl (cy 1, 90, .inl r2a)), ((q 17), .inl (cy 1, 90, .inl r3a)), ((q 22), .inl (cy 0, 90, .inl r4a)), ((q 23), .inl (cy 0, 90, .inl r5a)), ((q 25), .inl (cy 0, 216, .inl b11)), ((q 26), .inl (cy 0, 216, .inl b12)), ((q 27), .inl (cy 0, 216, .inl b13))] := hD
    have hl : lv_has ls 3 [(2, .int 10), (0, .ref (q 0)), (1, .int 0)] := hl
    refine lv_iload_n S.1 S.2.1 dX12_keeps_64 rfl (lv_at hl 0 rfl) ?_
    refine lv_bipush (v := 10) S.1 S.2.1 dX12_keeps_65 (by decide) ?_
    refine r_icmp_ge S 10 10 rfl rfl dX12_keeps_67 (tgt := 196) (by decide) (fun _ => ?_) (fun c => absurd c (by decide))
    refine lv_iconst (v := 0) S.1 S.2.1 dX12_keeps_196 (by decide) ?_
    refine lv_istore_n (lv' := [(2, .int 0), (0, .ref (q 0)), (1, .int 0)]) S.1 S.2.1 dX12_keeps_197 rfl hl (by decide) rfl (fun ls hl => ?_)
    refine loopN (σ := (Nat → Int32) × (Nat → Int32) × (Nat → Int32)) 198 24 (fun kb xs9 => [((q 0), .inr (11, (mO q 0 0 0 0 0 1 0 0 (-1) 1 0 0 0 0 0 0 0 0 0))), ((q 11), .inl (cy 0, 9, .inl (upd b0 (0) 0))), ((q 12), .inl (cy 0, 9, .inl (upd b1 (0) (b1 (8))))), ((q 19), .inl (cy 0, 9, .inl (upd b2 (0) (b2 (8))))), ((q 21), .inl (cy 0, 9, .inl (upd b3 (0) (b3 (8))))), ((q 24), .inl (cy 0, 9, .inl (upd b4 (0) (b4 (8))))), ((q 14), .inl (cy 0, 90, .inl r0a)), ((q 15), .inl (cy 0, 90, .inl r1a)), ((q 16), .inl (cy 1, 90, .inl r2a)), ((q 17), .inl (cy 1, 90, .inl r3a)), ((q 22), .inl (cy 0, 90, .inl r4a)), ((q 23), .inl (cy 0, 90, .inl r5a)), ((q 25), .inl (cy 0, 216, .inl (xs9.1))), ((q 26), .inl (cy 0, 216, .inl (xs9.2.1))), ((q 27), .inl (cy 0, 216, .inl (xs9.2.2)))]) (fun kb xs9 => [(2, .int (nI (kb))), (0, .ref (q 0)), (1, .int 0)]) (fun kb xs9 => True) (fun xs9 hJb H locs ls hP hD hS hl => ?_) (fun kb xs9 hkb hJb H locs ls hP hD hS hl ihb => ?_) (b11, b12, b13) trivial (hP.sub [0, 1, 2, 3, 4, 5, 6, 7, 8, 9, 10, 11, 12, 13, 14] rfl) (hD.sub [0, 1, 2, 3, 4, 5, 6, 7, 8, 9, 10, 11, 12, 13, 14] (by decide) rfl) hS (lv_sub hl [0, 1, 2] rfl)
    · obtain ⟨r0b, r1b, r2b⟩ := xs9
      have hP : va_P D vwCl [((q 0), .inr (11, (mO q 0 0 0 0 0 1 0 0 (-1) 1 0 0 0 0 0 0 0 0 0))), ((q 11), .inl (cy 0, 9, .inl (upd b0 (0) 0))), ((q 12), .inl (cy 0, 9, .inl (upd b1 (0) (b1 (8))))), ((q 19), .inl (cy 0, 9, .inl (upd b2 (0) (b2 (8))))), ((q 21), .inl (cy 0, 9, .inl (upd b3 (0) (b3 (8))))), ((q 24), .inl (cy 0, 9, .inl (upd b4 (0) (b4 (8))))), ((q 14), .inl (cy 0, 90, .inl r0a)), ((q 15), .inl (cy 0, 90, .inl r1a)), ((q 16), .inl (cy 1, 90, .inl r2a)), ((q 17), .inl (cy 1, 90, .inl r3a)), ((q 22), .inl (cy 0, 90, .inl r4a)), ((q 23), .inl (cy 0, 90, .inl r5a)), ((q 25), .inl (cy 0, 216, .inl r0b)), ((q 26), .inl (cy 0, 216, .inl r1b)), ((q 27), .inl (cy 0, 216, .inl r2b))] H := hP
      have hD : va_D A [((q 0), .inr (11, (mO q 0 0 0 0 0 1 0 0 (-1) 1 0 0 0 0 0 0 0 0 0))), ((q 11), .inl (cy 0, 9, .inl (upd b0 (0) 0))), ((q 12), .inl (cy 0, 9, .inl (upd b1 (0) (b1 (8))))), ((q 19), .inl (cy 0, 9, .inl (upd b2 (0) (b2 (8))))), ((q 21), .inl (cy 0, 9, .inl (upd b3 (0) (b3 (8))))), ((q 24), .inl (cy 0, 9, .inl (upd b4 (0) (b4 (8))))), ((q 14), .inl (cy 0, 90, .inl r0a)), ((q 15), .inl (cy 0, 90, .inl r1a)), ((q 16), .inl (cy 1, 90, .inl r2a)), ((q 17), .inl (cy 1, 90, .inl r3a)), ((q 22), .inl (cy 0, 90, .inl r4a)), ((q 23), .inl (cy 0, 90, .inl r5a)), ((q 25), .inl (cy 0, 216, .inl r0b)), ((q 26), .inl (cy 0, 216, .inl r1b)), ((q 27), .inl (cy 0, 216, .inl r2b))] := hD
      have hl : lv_has ls 3 [(2, .int 24), (0, .ref (q 0)), (1, .int 0)] := hl
      refine lv_iload_n S.1 S.2.1 dX12_keeps_198 rfl (lv_at hl 0 rfl) ?_
      refine lv_bipush (v := 24) S.1 S.2.1 dX12_keeps_199 (by decide) ?_
      refine r_icmp_ge S 24 24 rfl rfl dX12_keeps_201 (tgt := 283) (by decide) (fun _ => ?_) (fun c => absurd c (by decide))
      refine lv_iconst (v := 0) S.1 S.2.1 dX12_keeps_283 (by decide) ?_
      refine lv_istore_n (lv' := [(2, .int 0), (0, .ref (q 0)), (1, .int 0)]) S.1 S.2.1 dX12_keeps_284 rfl hl (by decide) rfl (fun ls hl => ?_)
      refine lv_iload_n S.1 S.2.1 dX12_keeps_285 rfl (lv_at hl 0 rfl) ?_
      refine lv_aload_n S.1 S.2.1 dX12_keeps_286 rfl (lv_at hl 1 rfl) ?_
      refine r_get S hK hP 0 11 rfl rfl inX12 28 (by decide) kw_1538 (v := .int 0) rfl dX12_keeps_287 ?_
      refine r_icmp_ge S 0 0 rfl rfl dX12_keeps_290 (tgt := 343) (by decide) (fun _ => ?_) (fun c => absurd c (by decide))
      exact cv_ret (u := ()) S hr hlk hK (hP.sub [0] rfl) (hD.sub [0] (by decide) rfl) hS (trivial) (by decide) (by decide) dX12_keeps_343
    · obtain ⟨r0b, r1b, r2b⟩ := xs9
      have hP : va_P D vwCl [((q 0), .inr (11, (mO q 0 0 0 0 0 1 0 0 (-1) 1 0 0 0 0 0 0 0 0 0))), ((q 11), .inl (cy 0, 9, .inl (upd b0 (0) 0))), ((q 12), .inl (cy 0, 9, .inl (upd b1 (0) (b1 (8))))), ((q 19), .inl (cy 0, 9, .inl (upd b2 (0) (b2 (8))))), ((q 21), .inl (cy 0, 9, .inl (upd b3 (0) (b3 (8))))), ((q 24), .inl (cy 0, 9, .inl (upd b4 (0) (b4 (8))))), ((q 14), .inl (cy 0, 90, .inl r0a)), ((q 15), .inl (cy 0, 90, .inl r1a)), ((q 16), .inl (cy 1, 90, .inl r2a)), ((q 17), .inl (cy 1, 90, .inl r3a)), ((q 22), .inl (cy 0, 90, .inl r4a)), ((q 23), .inl (cy 0, 90, .inl r5a)), ((q 25), .inl (cy 0, 216, .inl r0b)), ((q 26), .inl (cy 0, 216, .inl r1b)), ((q 27), .inl (cy 0, 216, .inl r2b))] H := hP
      have hD : va_D A [((q 0), .inr (11, (mO q 0 0 0 0 0 1 0 0 (-1) 1 0 0 0 0 0 0 0 0 0))), ((q 11), .inl (cy 0, 9, .inl (upd b0 (0) 0))), ((q 12), .inl (cy 0, 9, .inl (upd b1 (0) (b1 (8))))), ((q 19), .inl (cy 0, 9, .inl (upd b2 (0) (b2 (8))))), ((q 21), .inl (cy 0, 9, .inl (upd b3 (0) (b3 (8))))), ((q 24), .inl (cy 0, 9, .inl (upd b4 (0) (b4 (8))))), ((q 14), .inl (cy 0, 90, .inl r0a)), ((q 15), .inl (cy 0, 90, .inl r1a)), ((q 16), .inl (cy 1, 90, .inl r2a)), ((q 17), .inl (cy 1, 90, .inl r3a)), ((q 22), .inl (cy 0, 90, .inl r4a)), ((q 23), .inl (cy 0, 90, .inl r5a)), ((q 25), .inl (cy 0, 216, .inl r0b)), ((q 26), .inl (cy 0, 216, .inl r1b)), ((q 27), .inl (cy 0, 216, .inl r2b))] := hD
      have hl : lv_has ls 3 [(2, .int (nI (kb))), (0, .ref (q 0)), (1, .int 0)] := hl
      refine lv_iload_n S.1 S.2.1 dX12_keeps_198 rfl (lv_at hl 0 rfl) ?_
      refine lv_bipush (v := 24) S.1 S.2.1 dX12_keeps_199 (by decide) ?_
      refine r_icmp_ge S ((kb : Nat) : Int) 24 (nI_toInt (by omega)) rfl dX12_keeps_201 (tgt := 283) (by decide) (fun c => absurd c (by omega)) (fun _ => ?_)
      refine lv_aload_n S.1 S.2.1 dX12_keeps_204 rfl (lv_at hl 1 rfl) ?_
      refine r_get S hK hP 0 11 rfl rfl inX12 25 (by decide) kw_1535 (v := .ref (q 25)) rfl dX12_keeps_205 ?_
      refine lv_bipush (v := 24) S.1 S.2.1 dX12_keeps_208 (by decide) ?_
      refine lv_iload_n S.1 S.2.1 dX12_keeps_210 rfl (lv_at hl 2 rfl) ?_
      refine r_imul S dX12_keeps_211 (v := 0) (by decide) ?_
      refine lv_iload_n S.1 S.2.1 dX12_keeps_212 rfl (lv_at hl 0 rfl) ?_
      refine r_iadd S dX12_keeps_213 (v := (nI (0 + (kb)))) (nI_add (0) ((kb))) ?_
      refine lv_aload_n S.1 S.2.1 dX12_keeps_214 rfl (lv_at hl 1 rfl) ?_
      refine r_get S hK hP 0 11 rfl rfl inX12 25 (by decide) kw_1535 (v := .ref (q 25)) rfl dX12_keeps_215 ?_
      refine lv_sipush (v := 192) S.1 S.2.1 dX12_keeps_218 (by decide) ?_
      refine lv_iload_n S.1 S.2.1 dX12_keeps_221 rfl (lv_at hl 0 rfl) ?_
      refine r_iadd S dX12_keeps_222 (v := (nI (192 + (kb)))) (nI_add (192) ((kb))) ?_
      refine r_iald S hK hP 12 0 rfl rfl ((192 + (kb))) rfl (by omega) (by decide) (v := (r0b ((192 + (kb))))) rfl dX12_keeps_223 ?_
      refine r_iast S hK hP hD hS 12 0 rfl rfl ((0 + (kb))) rfl (by omega) (by decide) dX12_keeps_224 (fun H locs hP hD hS => ?_)
      have hP : va_P D vwCl [((q 0), .inr (11, (mO q 0 0 0 0 0 1 0 0 (-1) 1 0 0 0 0 0 0 0 0 0))), ((q 11), .inl (cy 0, 9, .inl (upd b0 (0) 0))), ((q 12), .inl (cy 0, 9, .inl (upd b1 (0) (b1 (8))))), ((q 19), .inl (cy 0, 9, .inl (upd b2 (0) (b2 (8))))), ((q 21), .inl (cy 0, 9, .inl (upd b3 (0) (b3 (8))))), ((q 24), .inl (cy 0, 9, .inl (upd b4 (0) (b4 (8))))), ((q 14), .inl (cy 0, 90, .inl r0a)), ((q 15), .inl (cy 0, 90, .inl r1a)), ((q 16), .inl (cy 1, 90, .inl r2a)), ((q 17), .inl (cy 1, 90, .inl r3a)), ((q 22), .inl (cy 0, 90, .inl r4a)), ((q 23), .inl (cy 0, 90, .inl r5a)), ((q 25), .inl (cy 0, 216, .inl (upd r0b ((0 + (kb))) (r0b ((192 + (kb))))))), ((q 26), .inl (cy 0, 216, .inl r1b)), ((q 27), .inl (cy 0, 216, .inl r2b))] H := hP
      have hD : va_D A [((q 0), .inr (11, (mO q 0 0 0 0 0 1 0 0 (-1) 1 0 0 0 0 0 0 0 0 0))), ((q 11), .inl (cy 0, 9, .inl (upd b0 (0) 0))), ((q 12), .inl (cy 0, 9, .inl (upd b1 (0) (b1 (8))))), ((q 19), .inl (cy 0, 9, .inl (upd b2 (0) (b2 (8))))), ((q 21), .inl (cy 0, 9, .inl (upd b3 (0) (b3 (8))))), ((q 24), .inl (cy 0, 9, .inl (upd b4 (0) (b4 (8))))), ((q 14), .inl (cy 0, 90, .inl r0a)), ((q 15), .inl (cy 0, 90, .inl r1a)), ((q 16), .inl (cy 1, 90, .inl r2a)), ((q 17), .inl (cy 1, 90, .inl r3a)), ((q 22), .inl (cy 0, 90, .inl r4a)), ((q 23), .inl (cy 0, 90, .inl r5a)), ((q 25), .inl (cy 0, 216, .inl (upd r0b ((0 + (kb))) (r0b ((192 + (kb))))))), ((q 26), .inl (cy 0, 216, .inl r1b)), ((q 27), .inl (cy 0, 216, .inl r2b))] := hD
      refine lv_aload_n S.1 S.2.1 dX12_keeps_225 rfl (lv_at hl 1 rfl) ?_
      refine r_get S hK hP 0 11 rfl rfl inX12 26 (by decide) kw_1536 (v := .ref (q 26)) rfl dX12_keeps_226 ?_
      refine lv_bipush (v := 24) S.1 S.2.1 dX12_keeps_229 (by decide) ?_
      refine lv_iload_n S.1 S.2.1 dX12_keeps_231 rfl (lv_at hl 2 rfl) ?_
      refine r_imul S dX12_keeps_232 (v := 0) (by decide) ?_
      refine lv_iload_n S.1 S.2.1 dX12_keeps_233 rfl (lv_at hl 0 rfl) ?_
      refine r_iadd S dX12_keeps_234 (v := (nI (0 + (kb)))) (nI_add (0) ((kb))) ?_
      refine lv_aload_n S.1 S.2.1 dX12_keeps_235 rfl (lv_at hl 1 rfl) ?_
      refine r_get S hK hP 0 11 rfl rfl inX12 26 (by decide) kw_1536 (v := .ref (q 26)) rfl dX12_keeps_236 ?_
      refine lv_sipush (v := 192) S.1 S.2.1 dX12_keeps_239 (by decide) ?_
      refine lv_iload_n S.1 S.2.1 dX12_keeps_242 rfl (lv_at hl 0 rfl) ?_
      refine r_iadd S dX12_keeps_243 (v := (nI (192 + (kb)))) (nI_add (192) ((kb))) ?_
      refine r_iald S hK hP 13 0 rfl rfl ((192 + (kb))) rfl (by omega) (by decide) (v := (r1b ((192 + (kb))))) rfl dX12_keeps_244 ?_
      refine r_iast S hK hP hD hS 13 0 rfl rfl ((0 + (kb))) rfl (by omega) (by decide) dX12_keeps_245 (fun H locs hP hD hS => ?_)
      have hP : va_P D vwCl [((q 0), .inr (11, (mO q 0 0 0 0 0 1 0 0 (-1) 1 0 0 0 0 0 0 0 0 0))), ((q 11), .inl (cy 0, 9, .inl (upd b0 (0) 0))), ((q 12), .inl (cy 0, 9, .inl (upd b1 (0) (b1 (8))))), ((q 19), .inl (cy 0, 9, .inl (upd b2 (0) (b2 (8))))), ((q 21), .inl (cy 0, 9, .inl (upd b3 (0) (b3 (8))))), ((q 24), .inl (cy 0, 9, .inl (upd b4 (0) (b4 (8))))), ((q 14), .inl (cy 0, 90, .inl r0a)), ((q 15), .inl (cy 0, 90, .inl r1a)), ((q 16), .inl (cy 1, 90, .inl r2a)), ((q 17), .inl (cy 1, 90, .inl r3a)), ((q 22), .inl (cy 0, 90, .inl r4a)), ((q 23), .inl (cy 0, 90, .inl r5a)), ((q 25), .inl (cy 0, 216, .inl (upd r0b ((0 + (kb))) (r0b ((192 + (kb))))))), ((q 26), .inl (cy 0, 216, .inl (upd r1b ((0 + (kb))) (r1b ((192 + (kb))))))), ((q 27), .inl (cy 0, 216, .inl r2b))] H := hP
      have hD : va_D A [((q 0), .inr (11, (mO q 0 0 0 0 0 1 0 0 (-1) 1 0 0 0 0 0 0 0 0 0))), ((q 11), .inl (cy 0, 9, .inl (upd b0 (0) 0))), ((q 12), .inl (cy 0, 9, .inl (upd b1 (0) (b1 (8))))), ((q 19), .inl (cy 0, 9, .inl (upd b2 (0) (b2 (8))))), ((q 21), .inl (cy 0, 9, .inl (upd b3 (0) (b3 (8))))), ((q 24), .inl (cy 0, 9, .inl (upd b4 (0) (b4 (8))))), ((q 14), .inl (cy 0, 90, .inl r0a)), ((q 15), .inl (cy 0, 90, .inl r1a)), ((q 16), .inl (cy 1, 90, .inl r2a)), ((q 17), .inl (cy 1, 90, .inl r3a)), ((q 22), .inl (cy 0, 90, .inl r4a)), ((q 23), .inl (cy 0, 90, .inl r5a)), ((q 25), .inl (cy 0, 216, .inl (upd r0b ((0 + (kb))) (r0b ((192 + (kb))))))), ((q 26), .inl (cy 0, 216, .inl (upd r1b ((0 + (kb))) (r1b ((192 + (kb))))))), ((q 27), .inl (cy 0, 216, .inl r2b))] := hD
      refine lv_aload_n S.1 S.2.1 dX12_keeps_246 rfl (lv_at hl 1 rfl) ?_
      refine r_get S hK hP 0 11 rfl rfl inX12 27 (by decide) kw_1537 (v := .ref (q 27)) rfl dX12_keeps_247 ?_
      refine lv_bipush (v := 24) S.1 S.2.1 dX12_keeps_250 (by decide) ?_
      refine lv_iload_n S.1 S.2.1 dX12_keeps_252 rfl (lv_at hl 2 rfl) ?_
      refine r_imul S dX12_keeps_253 (v := 0) (by decide) ?_
      refine lv_iload_n S.1 S.2.1 dX12_keeps_254 rfl (lv_at hl 0 rfl) ?_
      refine r_iadd S dX12_keeps_255 (v := (nI (0 + (kb)))) (nI_add (0) ((kb))) ?_
      refine lv_aload_n S.1 S.2.1 dX12_keeps_256 rfl (lv_at hl 1 rfl) ?_
      refine r_get S hK hP 0 11 rfl rfl inX12 27 (by decide) kw_1537 (v := .ref (q 27)) rfl dX12_keeps_257 ?_
      refine lv_sipush (v := 192) S.1 S.2.1 dX12_keeps_260 (by decide) ?_
      refine lv_iload_n S.1 S.2.1 dX12_keeps_263 rfl (lv_at hl 0 rfl) ?_
      refine r_iadd S dX12_keeps_264 (v := (nI (192 + (kb)))) (nI_add (192) ((kb))) ?_
      refine r_iald S hK hP 14 0 rfl rfl ((192 + (kb))) rfl (by omega) (by decide) (v := (r2b ((192 + (kb))))) rfl dX12_keeps_265 ?_
      refine lv_sipush (v := 12800) S.1 S.2.1 dX12_keeps_266 (by decide) ?_
      refine r_isub S dX12_keeps_269 (v := ((r2b ((192 + (kb)))) - 12800)) rfl ?_
      refine lv_sipush (v := 1600) S.1 S.2.1 dX12_keeps_270 (by decide) ?_
      refine lv_iload_n S.1 S.2.1 dX12_keeps_273 rfl (lv_at hl 2 rfl) ?_
      refine r_imul S dX12_keeps_274 (v := 0) (by decide) ?_
      refine r_iadd S dX12_keeps_275 (v := ((r2b ((192 + (kb)))) - 12800)) (Int32.add_zero _) ?_
      refine r_iast S hK hP hD hS 14 0 rfl rfl ((0 + (kb))) rfl (by omega) (by decide) dX12_keeps_276 (fun H locs hP hD hS => ?_)
      have hP : va_P D vwCl [((q 0), .inr (11, (mO q 0 0 0 0 0 1 0 0 (-1) 1 0 0 0 0 0 0 0 0 0))), ((q 11), .inl (cy 0, 9, .inl (upd b0 (0) 0))), ((q 12), .inl (cy 0, 9, .inl (upd b1 (0) (b1 (8))))), ((q 19), .inl (cy 0, 9, .inl (upd b2 (0) (b2 (8))))), ((q 21), .inl (cy 0, 9, .inl (upd b3 (0) (b3 (8))))), ((q 24), .inl (cy 0, 9, .inl (upd b4 (0) (b4 (8))))), ((q 14), .inl (cy 0, 90, .inl r0a)), ((q 15), .inl (cy 0, 90, .inl r1a)), ((q 16), .inl (cy 1, 90, .inl r2a)), ((q 17), .inl (cy 1, 90, .inl r3a)), ((q 22), .inl (cy 0, 90, .inl r4a)), ((q 23), .inl (cy 0, 90, .inl r5a)), ((q 25), .inl (cy 0, 216, .inl (upd r0b ((0 + (kb))) (r0b ((192 + (kb))))))), ((q 26), .inl (cy 0, 216, .inl (upd r1b ((0 + (kb))) (r1b ((192 + (kb))))))), ((q 27), .inl (cy 0, 216, .inl (upd r2b ((0 + (kb))) ((r2b ((192 + (kb)))) - 12800))))] H := hP
      have hD : va_D A [((q 0), .inr (11, (mO q 0 0 0 0 0 1 0 0 (-1) 1 0 0 0 0 0 0 0 0 0))), ((q 11), .inl (cy 0, 9, .inl (upd b0 (0) 0))), ((q 12), .inl (cy 0, 9, .inl (upd b1 (0) (b1 (8))))), ((q 19), .inl (cy 0, 9, .inl (upd b2 (0) (b2 (8))))), ((q 21), .inl (cy 0, 9, .inl (upd b3 (0) (b3 (8))))), ((q 24), .inl (cy 0, 9, .inl (upd b4 (0) (b4 (8))))), ((q 14), .inl (cy 0, 90, .inl r0a)), ((q 15), .inl (cy 0, 90, .inl r1a)), ((q 16), .inl (cy 1, 90, .inl r2a)), ((q 17), .inl (cy 1, 90, .inl r3a)), ((q 22), .inl (cy 0, 90, .inl r4a)), ((q 23), .inl (cy 0, 90, .inl r5a)), ((q 25), .inl (cy 0, 216, .inl (upd r0b ((0 + (kb))) (r0b ((192 + (kb))))))), ((q 26), .inl (cy 0, 216, .inl (upd r1b ((0 + (kb))) (r1b ((192 + (kb))))))), ((q 27), .inl (cy 0, 216, .inl (upd r2b ((0 + (kb))) ((r2b ((192 + (kb)))) - 12800))))] := hD
      refine lv_iinc (v := (nI ((kb) + 1))) (lv' := [(2, .int (nI ((kb) + 1))), (0, .ref (q 0)), (1, .int 0)]) S.1 S.2.1 dX12_keeps_277 hl (k := 0) rfl (nI_1 (kb)) (by decide) rfl (fun ls hl => ?_)
      refine lv_goto (tgt := 198) S.1 S.2.1 dX12_keeps_280 (by decide) ?_
      exact ihb ((upd r0b ((0 + (kb))) (r0b ((192 + (kb))))), (upd r1b ((0 + (kb))) (r1b ((192 + (kb))))), (upd r2b ((0 + (kb))) ((r2b ((192 + (kb)))) - 12800))) _ _ _ trivial (hP.sub [0, 1, 2, 3, 4, 5, 6, 7, 8, 9, 10, 11, 12, 13, 14] rfl) (hD.sub [0, 1, 2, 3, 4, 5, 6, 7, 8, 9, 10, 11, 12, 13, 14] (by decide) rfl) hS (lv_sub hl [0, 1, 2] rfl)
  · obtain ⟨r0a, r1a, r2a, r3a, r4a, r5a⟩ := xs9
    have hP : va_P D vwCl [((q 0), .inr (11, (mO q 0 0 0 0 0 1 0 0 (-1) 1 0 0 0 0 0 0 0 0 0))), ((q 11), .inl (cy 0, 9, .inl (upd b0 (0) 0))), ((q 12), .inl (cy 0, 9, .inl (upd b1 (0) (b1 (8))))), ((q 19), .inl (cy 0, 9, .inl (upd b2 (0) (b2 (8))))), ((q 21), .inl (cy 0, 9, .inl (upd b3 (0) (b3 (8))))), ((q 24), .inl (cy 0, 9, .inl (upd b4 (0) (b4 (8))))), ((q 14), .inl (cy 0, 90, .inl r0a)), ((q 15), .inl (cy 0, 90, .inl r1a)), ((q 16), .inl (cy 1, 90, .inl r2a)), ((q 17), .inl (cy 1, 90, .inl r3a)), ((q 22), .inl (cy 0, 90, .inl r4a)), ((q 23), .inl (cy 0, 90, .inl r5a)), ((q 25), .inl (cy 0, 216, .inl b11)), ((q 26), .inl (cy 0, 216, .inl b12)), ((q 27), .inl (cy 0, 216, .inl b13))] H := hP
    have hD : va_D A [((q 0), .inr (11, (mO q 0 0 0 0 0 1 0 0 (-1) 1 0 0 0 0 0 0 0 0 0))), ((q 11), .inl (cy 0, 9, .inl (upd b0 (0) 0))), ((q 12), .inl (cy 0, 9, .inl (upd b1 (0) (b1 (8))))), ((q 19), .inl (cy 0, 9, .inl (upd b2 (0) (b2 (8))))), ((q 21), .inl (cy 0, 9, .inl (upd b3 (0) (b3 (8))))), ((q 24), .inl (cy 0, 9, .inl (upd b4 (0) (b4 (8))))), ((q 14), .inl (cy 0, 90, .inl r0a)), ((q 15), .inl (cy 0, 90, .inl r1a)), ((q 16), .inl (cy 1, 90, .inl r2a)), ((q 17), .inl (cy 1, 90, .inl r3a)), ((q 22), .inl (cy 0, 90, .inl r4a)), ((q 23), .inl (cy 0, 90, .inl r5a)), ((q 25), .inl (cy 0, 216, .inl b11)), ((q 26), .inl (cy 0, 216, .inl b12)), ((q 27), .inl (cy 0, 216, .inl b13))] := hD
    have hl : lv_has ls 3 [(2, .int (nI (ka))), (0, .ref (q 0)), (1, .int 0)] := hl
    refine lv_iload_n S.1 S.2.1 dX12_keeps_64 rfl (lv_at hl 0 rfl) ?_
    refine lv_bipush (v := 10) S.1 S.2.1 dX12_keeps_65 (by decide) ?_
    refine r_icmp_ge S ((ka : Nat) : Int) 10 (nI_toInt (by omega)) rfl dX12_keeps_67 (tgt := 196) (by decide) (fun c => absurd c (by omega)) (fun _ => ?_)
    refine lv_aload_n S.1 S.2.1 dX12_keeps_70 rfl (lv_at hl 1 rfl) ?_
    refine r_get S hK hP 0 11 rfl rfl inX12 14 (by decide) kw_1524 (v := .ref (q 14)) rfl dX12_keeps_71 ?_
    refine lv_bipush (v := 10) S.1 S.2.1 dX12_keeps_74 (by decide) ?_
    refine lv_iload_n S.1 S.2.1 dX12_keeps_76 rfl (lv_at hl 2 rfl) ?_
    refine r_imul S dX12_keeps_77 (v := 0) (by decide) ?_
    refine lv_iload_n S.1 S.2.1 dX12_keeps_78 rfl (lv_at hl 0 rfl) ?_
    refine r_iadd S dX12_keeps_79 (v := (nI (0 + (ka)))) (nI_add (0) ((ka))) ?_
    refine lv_aload_n S.1 S.2.1 dX12_keeps_80 rfl (lv_at hl 1 rfl) ?_
    refine r_get S hK hP 0 11 rfl rfl inX12 14 (by decide) kw_1524 (v := .ref (q 14)) rfl dX12_keeps_81 ?_
    refine lv_bipush (v := 80) S.1 S.2.1 dX12_keeps_84 (by decide) ?_
    refine lv_iload_n S.1 S.2.1 dX12_keeps_86 rfl (lv_at hl 0 rfl) ?_
    refine r_iadd S dX12_keeps_87 (v := (nI (80 + (ka)))) (nI_add (80) ((ka))) ?_
    refine r_iald S hK hP 6 0 rfl rfl ((80 + (ka))) rfl (by omega) (by decide) (v := (r0a ((80 + (ka))))) rfl dX12_keeps_88 ?_
    refine r_iast S hK hP hD hS 6 0 rfl rfl ((0 + (ka))) rfl (by omega) (by decide) dX12_keeps_89 (fun H locs hP hD hS => ?_)
    have hP : va_P D vwCl [((q 0), .inr (11, (mO q 0 0 0 0 0 1 0 0 (-1) 1 0 0 0 0 0 0 0 0 0))), ((q 11), .inl (cy 0, 9, .inl (upd b0 (0) 0))), ((q 12), .inl (cy 0, 9, .inl (upd b1 (0) (b1 (8))))), ((q 19), .inl (cy 0, 9, .inl (upd b2 (0) (b2 (8))))), ((q 21), .inl (cy 0, 9, .inl (upd b3 (0) (b3 (8))))), ((q 24), .inl (cy 0, 9, .inl (upd b4 (0) (b4 (8))))), ((q 14), .inl (cy 0, 90, .inl (upd r0a ((0 + (ka))) (r0a ((80 + (ka))))))), ((q 15), .inl (cy 0, 90, .inl r1a)), ((q 16), .inl (cy 1, 90, .inl r2a)), ((q 17), .inl (cy 1, 90, .inl r3a)), ((q 22), .inl (cy 0, 90, .inl r4a)), ((q 23), .inl (cy 0, 90, .inl r5a)), ((q 25), .inl (cy 0, 216, .inl b11)), ((q 26), .inl (cy 0, 216, .inl b12)), ((q 27), .inl (cy 0, 216, .inl b13))] H := hP
    have hD : va_D A [((q 0), .inr (11, (mO q 0 0 0 0 0 1 0 0 (-1) 1 0 0 0 0 0 0 0 0 0))), ((q 11), .inl (cy 0, 9, .inl (upd b0 (0) 0))), ((q 12), .inl (cy 0, 9, .inl (upd b1 (0) (b1 (8))))), ((q 19), .inl (cy 0, 9, .inl (upd b2 (0) (b2 (8))))), ((q 21), .inl (cy 0, 9, .inl (upd b3 (0) (b3 (8))))), ((q 24), .inl (cy 0, 9, .inl (upd b4 (0) (b4 (8))))), ((q 14), .inl (cy 0, 90, .inl (upd r0a ((0 + (ka))) (r0a ((80 + (ka))))))), ((q 15), .inl (cy 0, 90, .inl r1a)), ((q 16), .inl (cy 1, 90, .inl r2a)), ((q 17), .inl (cy 1, 90, .inl r3a)), ((q 22), .inl (cy 0, 90, .inl r4a)), ((q 23), .inl (cy 0, 90, .inl r5a)), ((q 25), .inl (cy 0, 216, .inl b11)), ((q 26), .inl (cy 0, 216, .inl b12)), ((q 27), .inl (cy 0, 216, .inl b13))] := hD
    refine lv_aload_n S.1 S.2.1 dX12_keeps_90 rfl (lv_at hl 1 rfl) ?_
    refine r_get S hK hP 0 11 rfl rfl inX12 15 (by decide) kw_1525 (v := .ref (q 15)) rfl dX12_keeps_91 ?_
    refine lv_bipush (v := 10) S.1 S.2.1 dX12_keeps_94 (by decide) ?_
    refine lv_iload_n S.1 S.2.1 dX12_keeps_96 rfl (lv_at hl 2 rfl) ?_
    refine r_imul S dX12_keeps_97 (v := 0) (by decide) ?_
    refine lv_iload_n S.1 S.2.1 dX12_keeps_98 rfl (lv_at hl 0 rfl) ?_
    refine r_iadd S dX12_keeps_99 (v := (nI (0 + (ka)))) (nI_add (0) ((ka))) ?_
    refine lv_aload_n S.1 S.2.1 dX12_keeps_100 rfl (lv_at hl 1 rfl) ?_
    refine r_get S hK hP 0 11 rfl rfl inX12 15 (by decide) kw_1525 (v := .ref (q 15)) rfl dX12_keeps_101 ?_
    refine lv_bipush (v := 80) S.1 S.2.1 dX12_keeps_104 (by decide) ?_
    refine lv_iload_n S.1 S.2.1 dX12_keeps_106 rfl (lv_at hl 0 rfl) ?_
    refine r_iadd S dX12_keeps_107 (v := (nI (80 + (ka)))) (nI_add (80) ((ka))) ?_
    refine r_iald S hK hP 7 0 rfl rfl ((80 + (ka))) rfl (by omega) (by decide) (v := (r1a ((80 + (ka))))) rfl dX12_keeps_108 ?_
    refine r_iast S hK hP hD hS 7 0 rfl rfl ((0 + (ka))) rfl (by omega) (by decide) dX12_keeps_109 (fun H locs hP hD hS => ?_)
    have hP : va_P D vwCl [((q 0), .inr (11, (mO q 0 0 0 0 0 1 0 0 (-1) 1 0 0 0 0 0 0 0 0 0))), ((q 11), .inl (cy 0, 9, .inl (upd b0 (0) 0))), ((q 12), .inl (cy 0, 9, .inl (upd b1 (0) (b1 (8))))), ((q 19), .inl (cy 0, 9, .inl (upd b2 (0) (b2 (8))))), ((q 21), .inl (cy 0, 9, .inl (upd b3 (0) (b3 (8))))), ((q 24), .inl (cy 0, 9, .inl (upd b4 (0) (b4 (8))))), ((q 14), .inl (cy 0, 90, .inl (upd r0a ((0 + (ka))) (r0a ((80 + (ka))))))), ((q 15), .inl (cy 0, 90, .inl (upd r1a ((0 + (ka))) (r1a ((80 + (ka))))))), ((q 16), .inl (cy 1, 90, .inl r2a)), ((q 17), .inl (cy 1, 90, .inl r3a)), ((q 22), .inl (cy 0, 90, .inl r4a)), ((q 23), .inl (cy 0, 90, .inl r5a)), ((q 25), .inl (cy 0, 216, .inl b11)), ((q 26), .inl (cy 0, 216, .inl b12)), ((q 27), .inl (cy 0, 216, .inl b13))] H := hP
    have hD : va_D A [((q 0), .inr (11, (mO q 0 0 0 0 0 1 0 0 (-1) 1 0 0 0 0 0 0 0 0 0))), ((q 11), .inl (cy 0, 9, .inl (upd b0 (0) 0))), ((q 12), .inl (cy 0, 9, .inl (upd b1 (0) (b1 (8))))), ((q 19), .inl (cy 0, 9, .inl (upd b2 (0) (b2 (8))))), ((q 21), .inl (cy 0, 9, .inl (upd b3 (0) (b3 (8))))), ((q 24), .inl (cy 0, 9, .inl (upd b4 (0) (b4 (8))))), ((q 14), .inl (cy 0, 90, .inl (upd r0a ((0 + (ka))) (r0a ((80 + (ka))))))), ((q 15), .inl (cy 0, 90, .inl (upd r1a ((0 + (ka))) (r1a ((80 + (ka))))))), ((q 16), .inl (cy 1, 90, .inl r2a)), ((q 17), .inl (cy 1, 90, .inl r3a)), ((q 22), .inl (cy 0, 90, .inl r4a)), ((q 23), .inl (cy 0, 90, .inl r5a)), ((q 25), .inl (cy 0, 216, .inl b11)), ((q 26), .inl (cy 0, 216, .inl b12)), ((q 27), .inl (cy 0, 216, .inl b13))] := hD
    refine lv_aload_n S.1 S.2.1 dX12_keeps_110 rfl (lv_at hl 1 rfl) ?_
    refine r_get S hK hP 0 11 rfl rfl inX12 16 (by decide) kw_1526 (v := .ref (q 16)) rfl dX12_keeps_111 ?_
    refine lv_bipush (v := 10) S.1 S.2.1 dX12_keeps_114 (by decide) ?_
    refine lv_iload_n S.1 S.2.1 dX12_keeps_116 rfl (lv_at hl 2 rfl) ?_
    refine r_imul S dX12_keeps_117 (v := 0) (by decide) ?_
    refine lv_iload_n S.1 S.2.1 dX12_keeps_118 rfl (lv_at hl 0 rfl) ?_
    refine r_iadd S dX12_keeps_119 (v := (nI (0 + (ka)))) (nI_add (0) ((ka))) ?_
    refine lv_aload_n S.1 S.2.1 dX12_keeps_120 rfl (lv_at hl 1 rfl) ?_
    refine r_get S hK hP 0 11 rfl rfl inX12 16 (by decide) kw_1526 (v := .ref (q 16)) rfl dX12_keeps_121 ?_
    refine lv_bipush (v := 80) S.1 S.2.1 dX12_keeps_124 (by decide) ?_
    refine lv_iload_n S.1 S.2.1 dX12_keeps_126 rfl (lv_at hl 0 rfl) ?_
    refine r_iadd S dX12_keeps_127 (v := (nI (80 + (ka)))) (nI_add (80) ((ka))) ?_
    refine r_zald S hK hP 8 1 rfl rfl ((80 + (ka))) rfl (by omega) (by decide) (v := (r2a ((80 + (ka))))) rfl dX12_keeps_128 ?_
    refine r_zast S hK hP hD hS 8 1 rfl rfl ((0 + (ka))) rfl (by omega) (by decide) dX12_keeps_129 (fun H locs hP hD hS => ?_)
    have hP : va_P D vwCl [((q 0), .inr (11, (mO q 0 0 0 0 0 1 0 0 (-1) 1 0 0 0 0 0 0 0 0 0))), ((q 11), .inl (cy 0, 9, .inl (upd b0 (0) 0))), ((q 12), .inl (cy 0, 9, .inl (upd b1 (0) (b1 (8))))), ((q 19), .inl (cy 0, 9, .inl (upd b2 (0) (b2 (8))))), ((q 21), .inl (cy 0, 9, .inl (upd b3 (0) (b3 (8))))), ((q 24), .inl (cy 0, 9, .inl (upd b4 (0) (b4 (8))))), ((q 14), .inl (cy 0, 90, .inl (upd r0a ((0 + (ka))) (r0a ((80 + (ka))))))), ((q 15), .inl (cy 0, 90, .inl (upd r1a ((0 + (ka))) (r1a ((80 + (ka))))))), ((q 16), .inl (cy 1, 90, .inl (upd r2a ((0 + (ka))) (vp_nar .boolean (r2a ((80 + (ka)))))))), ((q 17), .inl (cy 1, 90, .inl r3a)), ((q 22), .inl (cy 0, 90, .inl r4a)), ((q 23), .inl (cy 0, 90, .inl r5a)), ((q 25), .inl (cy 0, 216, .inl b11)), ((q 26), .inl (cy 0, 216, .inl b12)), ((q 27), .inl (cy 0, 216, .inl b13))] H := hP
    have hD : va_D A [((q 0), .inr (11, (mO q 0 0 0 0 0 1 0 0 (-1) 1 0 0 0 0 0 0 0 0 0))), ((q 11), .inl (cy 0, 9, .inl (upd b0 (0) 0))), ((q 12), .inl (cy 0, 9, .inl (upd b1 (0) (b1 (8))))), ((q 19), .inl (cy 0, 9, .inl (upd b2 (0) (b2 (8))))), ((q 21), .inl (cy 0, 9, .inl (upd b3 (0) (b3 (8))))), ((q 24), .inl (cy 0, 9, .inl (upd b4 (0) (b4 (8))))), ((q 14), .inl (cy 0, 90, .inl (upd r0a ((0 + (ka))) (r0a ((80 + (ka))))))), ((q 15), .inl (cy 0, 90, .inl (upd r1a ((0 + (ka))) (r1a ((80 + (ka))))))), ((q 16), .inl (cy 1, 90, .inl (upd r2a ((0 + (ka))) (vp_nar .boolean (r2a ((80 + (ka)))))))), ((q 17), .inl (cy 1, 90, .inl r3a)), ((q 22), .inl (cy 0, 90, .inl r4a)), ((q 23), .inl (cy 0, 90, .inl r5a)), ((q 25), .inl (cy 0, 216, .inl b11)), ((q 26), .inl (cy 0, 216, .inl b12)), ((q 27), .inl (cy 0, 216, .inl b13))] := hD
    refine lv_aload_n S.1 S.2.1 dX12_keeps_130 rfl (lv_at hl 1 rfl) ?_
    refine r_get S hK hP 0 11 rfl rfl inX12 17 (by decide) kw_1527 (v := .ref (q 17)) rfl dX12_keeps_131 ?_
    refine lv_bipush (v := 10) S.1 S.2.1 dX12_keeps_134 (by decide) ?_
    refine lv_iload_n S.1 S.2.1 dX12_keeps_136 rfl (lv_at hl 2 rfl) ?_
    refine r_imul S dX12_keeps_137 (v := 0) (by decide) ?_
    refine lv_iload_n S.1 S.2.1 dX12_keeps_138 rfl (lv_at hl 0 rfl) ?_
    refine r_iadd S dX12_keeps_139 (v := (nI (0 + (ka)))) (nI_add (0) ((ka))) ?_
    refine lv_aload_n S.1 S.2.1 dX12_keeps_140 rfl (lv_at hl 1 rfl) ?_
    refine r_get S hK hP 0 11 rfl rfl inX12 17 (by decide) kw_1527 (v := .ref (q 17)) rfl dX12_keeps_141 ?_
    refine lv_bipush (v := 80) S.1 S.2.1 dX12_keeps_144 (by decide) ?_
    refine lv_iload_n S.1 S.2.1 dX12_keeps_146 rfl (lv_at hl 0 rfl) ?_
    refine r_iadd S dX12_keeps_147 (v := (nI (80 + (ka)))) (nI_add (80) ((ka))) ?_
    refine r_zald S hK hP 9 1 rfl rfl ((80 + (ka))) rfl (by omega) (by decide) (v := (r3a ((80 + (ka))))) rfl dX12_keeps_148 ?_
    refine r_zast S hK hP hD hS 9 1 rfl rfl ((0 + (ka))) rfl (by omega) (by decide) dX12_keeps_149 (fun H locs hP hD hS => ?_)
    have hP : va_P D vwCl [((q 0), .inr (11, (mO q 0 0 0 0 0 1 0 0 (-1) 1 0 0 0 0 0 0 0 0 0))), ((q 11), .inl (cy 0, 9, .inl (upd b0 (0) 0))), ((q 12), .inl (cy 0, 9, .inl (upd b1 (0) (b1 (8))))), ((q 19), .inl (cy 0, 9, .inl (upd b2 (0) (b2 (8))))), ((q 21), .inl (cy 0, 9, .inl (upd b3 (0) (b3 (8))))), ((q 24), .inl (cy 0, 9, .inl (upd b4 (0) (b4 (8))))), ((q 14), .inl (cy 0, 90, .inl (upd r0a ((0 + (ka))) (r0a ((80 + (ka))))))), ((q 15), .inl (cy 0, 90, .inl (upd r1a ((0 + (ka))) (r1a ((80 + (ka))))))), ((q 16), .inl (cy 1, 90, .inl (upd r2a ((0 + (ka))) (vp_nar .boolean (r2a ((80 + (ka)))))))), ((q 17), .inl (cy 1, 90, .inl (upd r3a ((0 + (ka))) (vp_nar .boolean (r3a ((80 + (ka)))))))), ((q 22), .inl (cy 0, 90, .inl r4a)), ((q 23), .inl (cy 0, 90, .inl r5a)), ((q 25), .inl (cy 0, 216, .inl b11)), ((q 26), .inl (cy 0, 216, .inl b12)), ((q 27), .inl (cy 0, 216, .inl b13))] H := hP
    have hD : va_D A [((q 0), .inr (11, (mO q 0 0 0 0 0 1 0 0 (-1) 1 0 0 0 0 0 0 0 0 0))), ((q 11), .inl (cy 0, 9, .inl (upd b0 (0) 0))), ((q 12), .inl (cy 0, 9, .inl (upd b1 (0) (b1 (8))))), ((q 19), .inl (cy 0, 9, .inl (upd b2 (0) (b2 (8))))), ((q 21), .inl (cy 0, 9, .inl (upd b3 (0) (b3 (8))))), ((q 24), .inl (cy 0, 9, .inl (upd b4 (0) (b4 (8))))), ((q 14), .inl (cy 0, 90, .inl (upd r0a ((0 + (ka))) (r0a ((80 + (ka))))))), ((q 15), .inl (cy 0, 90, .inl (upd r1a ((0 + (ka))) (r1a ((80 + (ka))))))), ((q 16), .inl (cy 1, 90, .inl (upd r2a ((0 + (ka))) (vp_nar .boolean (r2a ((80 + (ka)))))))), ((q 17), .inl (cy 1, 90, .inl (upd r3a ((0 + (ka))) (vp_nar .boolean (r3a ((80 + (ka)))))))), ((q 22), .inl (cy 0, 90, .inl r4a)), ((q 23), .inl (cy 0, 90, .inl r5a)), ((q 25), .inl (cy 0, 216, .inl b11)), ((q 26), .inl (cy 0, 216, .inl b12)), ((q 27), .inl (cy 0, 216, .inl b13))] := hD
    refine lv_aload_n S.1 S.2.1 dX12_keeps_150 rfl (lv_at hl 1 rfl) ?_
    refine r_get S hK hP 0 11 rfl rfl inX12 22 (by decide) kw_1532 (v := .ref (q 22)) rfl dX12_keeps_151 ?_
    refine lv_bipush (v := 10) S.1 S.2.1 dX12_keeps_154 (by decide) ?_
    refine lv_iload_n S.1 S.2.1 dX12_keeps_156 rfl (lv_at hl 2 rfl) ?_
    refine r_imul S dX12_keeps_157 (v := 0) (by decide) ?_
    refine lv_iload_n S.1 S.2.1 dX12_keeps_158 rfl (lv_at hl 0 rfl) ?_
    refine r_iadd S dX12_keeps_159 (v := (nI (0 + (ka)))) (nI_add (0) ((ka))) ?_
    refine lv_aload_n S.1 S.2.1 dX12_keeps_160 rfl (lv_at hl 1 rfl) ?_
    refine r_get S hK hP 0 11 rfl rfl inX12 22 (by decide) kw_1532 (v := .ref (q 22)) rfl dX12_keeps_161 ?_
    refine lv_bipush (v := 80) S.1 S.2.1 dX12_keeps_164 (by decide) ?_
    refine lv_iload_n S.1 S.2.1 dX12_keeps_166 rfl (lv_at hl 0 rfl) ?_
    refine r_iadd S dX12_keeps_167 (v := (nI (80 + (ka)))) (nI_add (80) ((ka))) ?_
    refine r_iald S hK hP 10 0 rfl rfl ((80 + (ka))) rfl (by omega) (by decide) (v := (r4a ((80 + (ka))))) rfl dX12_keeps_168 ?_
    refine r_iast S hK hP hD hS 10 0 rfl rfl ((0 + (ka))) rfl (by omega) (by decide) dX12_keeps_169 (fun H locs hP hD hS => ?_)
    have hP : va_P D vwCl [((q 0), .inr (11, (mO q 0 0 0 0 0 1 0 0 (-1) 1 0 0 0 0 0 0 0 0 0))), ((q 11), .inl (cy 0, 9, .inl (upd b0 (0) 0))), ((q 12), .inl (cy 0, 9, .inl (upd b1 (0) (b1 (8))))), ((q 19), .inl (cy 0, 9, .inl (upd b2 (0) (b2 (8))))), ((q 21), .inl (cy 0, 9, .inl (upd b3 (0) (b3 (8))))), ((q 24), .inl (cy 0, 9, .inl (upd b4 (0) (b4 (8))))), ((q 14), .inl (cy 0, 90, .inl (upd r0a ((0 + (ka))) (r0a ((80 + (ka))))))), ((q 15), .inl (cy 0, 90, .inl (upd r1a ((0 + (ka))) (r1a ((80 + (ka))))))), ((q 16), .inl (cy 1, 90, .inl (upd r2a ((0 + (ka))) (vp_nar .boolean (r2a ((80 + (ka)))))))), ((q 17), .inl (cy 1, 90, .inl (upd r3a ((0 + (ka))) (vp_nar .boolean (r3a ((80 + (ka)))))))), ((q 22), .inl (cy 0, 90, .inl (upd r4a ((0 + (ka))) (r4a ((80 + (ka))))))), ((q 23), .inl (cy 0, 90, .inl r5a)), ((q 25), .inl (cy 0, 216, .inl b11)), ((q 26), .inl (cy 0, 216, .inl b12)), ((q 27), .inl (cy 0, 216, .inl b13))] H := hP
    have hD : va_D A [((q 0), .inr (11, (mO q 0 0 0 0 0 1 0 0 (-1) 1 0 0 0 0 0 0 0 0 0))), ((q 11), .inl (cy 0, 9, .inl (upd b0 (0) 0))), ((q 12), .inl (cy 0, 9, .inl (upd b1 (0) (b1 (8))))), ((q 19), .inl (cy 0, 9, .inl (upd b2 (0) (b2 (8))))), ((q 21), .inl (cy 0, 9, .inl (upd b3 (0) (b3 (8))))), ((q 24), .inl (cy 0, 9, .inl (upd b4 (0) (b4 (8))))), ((q 14), .inl (cy 0, 90, .inl (upd r0a ((0 + (ka))) (r0a ((80 + (ka))))))), ((q 15), .inl (cy 0, 90, .inl (upd r1a ((0 + (ka))) (r1a ((80 + (ka))))))), ((q 16), .inl (cy 1, 90, .inl (upd r2a ((0 + (ka))) (vp_nar .boolean (r2a ((80 + (ka)))))))), ((q 17), .inl (cy 1, 90, .inl (upd r3a ((0 + (ka))) (vp_nar .boolean (r3a ((80 + (ka)))))))), ((q 22), .inl (cy 0, 90, .inl (upd r4a ((0 + (ka))) (r4a ((80 + (ka))))))), ((q 23), .inl (cy 0, 90, .inl r5a)), ((q 25), .inl (cy 0, 216, .inl b11)), ((q 26), .inl (cy 0, 216, .inl b12)), ((q 27), .inl (cy 0, 216, .inl b13))] := hD
    refine lv_aload_n S.1 S.2.1 dX12_keeps_170 rfl (lv_at hl 1 rfl) ?_
    refine r_get S hK hP 0 11 rfl rfl inX12 23 (by decide) kw_1533 (v := .ref (q 23)) rfl dX12_keeps_171 ?_
    refine lv_bipush (v := 10) S.1 S.2.1 dX12_keeps_174 (by decide) ?_
    refine lv_iload_n S.1 S.2.1 dX12_keeps_176 rfl (lv_at hl 2 rfl) ?_
    refine r_imul S dX12_keeps_177 (v := 0) (by decide) ?_
    refine lv_iload_n S.1 S.2.1 dX12_keeps_178 rfl (lv_at hl 0 rfl) ?_
    refine r_iadd S dX12_keeps_179 (v := (nI (0 + (ka)))) (nI_add (0) ((ka))) ?_
    refine lv_aload_n S.1 S.2.1 dX12_keeps_180 rfl (lv_at hl 1 rfl) ?_
    refine r_get S hK hP 0 11 rfl rfl inX12 23 (by decide) kw_1533 (v := .ref (q 23)) rfl dX12_keeps_181 ?_
    refine lv_bipush (v := 80) S.1 S.2.1 dX12_keeps_184 (by decide) ?_
    refine lv_iload_n S.1 S.2.1 dX12_keeps_186 rfl (lv_at hl 0 rfl) ?_
    refine r_iadd S dX12_keeps_187 (v := (nI (80 + (ka)))) (nI_add (80) ((ka))) ?_
    refine r_iald S hK hP 11 0 rfl rfl ((80 + (ka))) rfl (by omega) (by decide) (v := (r5a ((80 + (ka))))) rfl dX12_keeps_188 ?_
    refine r_iast S hK hP hD hS 11 0 rfl rfl ((0 + (ka))) rfl (by omega) (by decide) dX12_keeps_189 (fun H locs hP hD hS => ?_)
    have hP : va_P D vwCl [((q 0), .inr (11, (mO q 0 0 0 0 0 1 0 0 (-1) 1 0 0 0 0 0 0 0 0 0))), ((q 11), .inl (cy 0, 9, .inl (upd b0 (0) 0))), ((q 12), .inl (cy 0, 9, .inl (upd b1 (0) (b1 (8))))), ((q 19), .inl (cy 0, 9, .inl (upd b2 (0) (b2 (8))))), ((q 21), .inl (cy 0, 9, .inl (upd b3 (0) (b3 (8))))), ((q 24), .inl (cy 0, 9, .inl (upd b4 (0) (b4 (8))))), ((q 14), .inl (cy 0, 90, .inl (upd r0a ((0 + (ka))) (r0a ((80 + (ka))))))), ((q 15), .inl (cy 0, 90, .inl (upd r1a ((0 + (ka))) (r1a ((80 + (ka))))))), ((q 16), .inl (cy 1, 90, .inl (upd r2a ((0 + (ka))) (vp_nar .boolean (r2a ((80 + (ka)))))))), ((q 17), .inl (cy 1, 90, .inl (upd r3a ((0 + (ka))) (vp_nar .boolean (r3a ((80 + (ka)))))))), ((q 22), .inl (cy 0, 90, .inl (upd r4a ((0 + (ka))) (r4a ((80 + (ka))))))), ((q 23), .inl (cy 0, 90, .inl (upd r5a ((0 + (ka))) (r5a ((80 + (ka))))))), ((q 25), .inl (cy 0, 216, .inl b11)), ((q 26), .inl (cy 0, 216, .inl b12)), ((q 27), .inl (cy 0, 216, .inl b13))] H := hP
    have hD : va_D A [((q 0), .inr (11, (mO q 0 0 0 0 0 1 0 0 (-1) 1 0 0 0 0 0 0 0 0 0))), ((q 11), .inl (cy 0, 9, .inl (upd b0 (0) 0))), ((q 12), .inl (cy 0, 9, .inl (upd b1 (0) (b1 (8))))), ((q 19), .inl (cy 0, 9, .inl (upd b2 (0) (b2 (8))))), ((q 21), .inl (cy 0, 9, .inl (upd b3 (0) (b3 (8))))), ((q 24), .inl (cy 0, 9, .inl (upd b4 (0) (b4 (8))))), ((q 14), .inl (cy 0, 90, .inl (upd r0a ((0 + (ka))) (r0a ((80 + (ka))))))), ((q 15), .inl (cy 0, 90, .inl (upd r1a ((0 + (ka))) (r1a ((80 + (ka))))))), ((q 16), .inl (cy 1, 90, .inl (upd r2a ((0 + (ka))) (vp_nar .boolean (r2a ((80 + (ka)))))))), ((q 17), .inl (cy 1, 90, .inl (upd r3a ((0 + (ka))) (vp_nar .boolean (r3a ((80 + (ka)))))))), ((q 22), .inl (cy 0, 90, .inl (upd r4a ((0 + (ka))) (r4a ((80 + (ka))))))), ((q 23), .inl (cy 0, 90, .inl (upd r5a ((0 + (ka))) (r5a ((80 + (ka))))))), ((q 25), .inl (cy 0, 216, .inl b11)), ((q 26), .inl (cy 0, 216, .inl b12)), ((q 27), .inl (cy 0, 216, .inl b13))] := hD
    refine lv_iinc (v := (nI ((ka) + 1))) (lv' := [(2, .int (nI ((ka) + 1))), (0, .ref (q 0)), (1, .int 0)]) S.1 S.2.1 dX12_keeps_190 hl (k := 0) rfl (nI_1 (ka)) (by decide) rfl (fun ls hl => ?_)
    refine lv_goto (tgt := 64) S.1 S.2.1 dX12_keeps_193 (by decide) ?_
    exact iha ((upd r0a ((0 + (ka))) (r0a ((80 + (ka))))), (upd r1a ((0 + (ka))) (r1a ((80 + (ka))))), (upd r2a ((0 + (ka))) (vp_nar .boolean (r2a ((80 + (ka)))))), (upd r3a ((0 + (ka))) (vp_nar .boolean (r3a ((80 + (ka)))))), (upd r4a ((0 + (ka))) (r4a ((80 + (ka))))), (upd r5a ((0 + (ka))) (r5a ((80 + (ka)))))) _ _ _ trivial (hP.sub [0, 1, 2, 3, 4, 5, 6, 7, 8, 9, 10, 11, 12, 13, 14] rfl) (hD.sub [0, 1, 2, 3, 4, 5, 6, 7, 8, 9, 10, 11, 12, 13, 14] (by decide) rfl) hS (lv_sub hl [0, 1, 2] rfl)
set_option maxHeartbeats 4000000 in
set_option maxRecDepth 100000 in
theorem kX12_rules (l : Launch) (D : va_G) (cy : Nat → ClassId) (q : Nat → Nat) : CI l D cy yX12_rules cX12_rules 2 (some .int) 1 26 0 0 [.ref (q 0)] [((q 0), .inr (11, (mO q 0 0 0 0 0 0 0 0 (-1) 1 0 0 0 0 0 0 0 0 0))), ((q 12), .inl (cy 0, 9, .inl (fun _ => 0))), ((q 18), .inl (cy 1, 9, .inl (fun _ => 0))), ((q 19), .inl (cy 0, 9, .inl (fun _ => 0))), ((q 20), .inl (cy 1, 9, .inl (fun _ => 0))), ((q 21), .inl (cy 0, 9, .inl (fun _ => 0))), ((q 24), .inl (cy 0, 9, .inl (fun _ => 0))), ((q 22), .inl (cy 0, 90, .inl (fun _ => 0))), ((q 16), .inl (cy 1, 90, .inl (fun _ => 0))), ((q 17), .inl (cy 1, 90, .inl (fun _ => 0))), ((q 11), .inl (cy 0, 9, .inl (fun _ => 0))), ((q 14), .inl (cy 0, 90, .inl (fun _ => 0))), ((q 15), .inl (cy 0, 90, .inl (fun _ => 0))), ((q 23), .inl (cy 0, 90, .inl (fun _ => 0))), ((q 25), .inl (cy 0, 216, .inl (fun _ => 0))), ((q 26), .inl (cy 0, 216, .inl (fun _ => 0))), ((q 27), .inl (cy 0, 216, .inl (fun _ => 0))), ((q 4), .inl (cy 0, 1502, .inl (fun _ => 0))), ((q 5), .inl (cy 0, 1502, .inl (fun _ => 0)))] (fun (v : Int32) (u : Unit) => v = 0) (fun (u : Unit) => []) := by
  refine ci_go (by decide) (Nat.le_of_ble_eq_true rfl) (fun p e s m below meth c ls A hA S hr hlk hnm hP hK hD hl => ?_)
  have hS : va_S A s.heap s.heap [] := va_S.rf
  have hl : lv_has ls 2 [(0, .ref (q 0))] := hl
  refine lv_aload_n S.1 S.2.1 dX12_rules_0 rfl (lv_at hl 0 rfl) ?_
  refine lv_iconst (v := 0) S.1 S.2.1 dX12_rules_1 (by decide) ?_
  refine r_put S hK hP hD hS 0 11 rfl rfl inX12 0 (by decide) tyX12 tyX12_ok nmX12 kw_1510 (v := .int 0) rfl rfl rfl (Nat.le_of_ble_eq_true rfl) dX12_rules_2 (fun H locs hP hD hS => ?_)
  have hP : va_P D vwCl [((q 0), .inr (11, (mO q 0 0 0 0 0 0 0 0 (-1) 1 0 0 0 0 0 0 0 0 0))), ((q 12), .inl (cy 0, 9, .inl (fun _ => 0))), ((q 18), .inl (cy 1, 9, .inl (fun _ => 0))), ((q 19), .inl (cy 0, 9, .inl (fun _ => 0))), ((q 20), .inl (cy 1, 9, .inl (fun _ => 0))), ((q 21), .inl (cy 0, 9, .inl (fun _ => 0))), ((q 24), .inl (cy 0, 9, .inl (fun _ => 0))), ((q 22), .inl (cy 0, 90, .inl (fun _ => 0))), ((q 16), .inl (cy 1, 90, .inl (fun _ => 0))), ((q 17), .inl (cy 1, 90, .inl (fun _ => 0))), ((q 11), .inl (cy 0, 9, .inl (fun _ => 0))), ((q 14), .inl (cy 0, 90, .inl (fun _ => 0))), ((q 15), .inl (cy 0, 90, .inl (fun _ => 0))), ((q 23), .inl (cy 0, 90, .inl (fun _ => 0))), ((q 25), .inl (cy 0, 216, .inl (fun _ => 0))), ((q 26), .inl (cy 0, 216, .inl (fun _ => 0))), ((q 27), .inl (cy 0, 216, .inl (fun _ => 0))), ((q 4), .inl (cy 0, 1502, .inl (fun _ => 0))), ((q 5), .inl (cy 0, 1502, .inl (fun _ => 0)))] H := hP
  have hD : va_D A [((q 0), .inr (11, (mO q 0 0 0 0 0 0 0 0 (-1) 1 0 0 0 0 0 0 0 0 0))), ((q 12), .inl (cy 0, 9, .inl (fun _ => 0))), ((q 18), .inl (cy 1, 9, .inl (fun _ => 0))), ((q 19), .inl (cy 0, 9, .inl (fun _ => 0))), ((q 20), .inl (cy 1, 9, .inl (fun _ => 0))), ((q 21), .inl (cy 0, 9, .inl (fun _ => 0))), ((q 24), .inl (cy 0, 9, .inl (fun _ => 0))), ((q 22), .inl (cy 0, 90, .inl (fun _ => 0))), ((q 16), .inl (cy 1, 90, .inl (fun _ => 0))), ((q 17), .inl (cy 1, 90, .inl (fun _ => 0))), ((q 11), .inl (cy 0, 9, .inl (fun _ => 0))), ((q 14), .inl (cy 0, 90, .inl (fun _ => 0))), ((q 15), .inl (cy 0, 90, .inl (fun _ => 0))), ((q 23), .inl (cy 0, 90, .inl (fun _ => 0))), ((q 25), .inl (cy 0, 216, .inl (fun _ => 0))), ((q 26), .inl (cy 0, 216, .inl (fun _ => 0))), ((q 27), .inl (cy 0, 216, .inl (fun _ => 0))), ((q 4), .inl (cy 0, 1502, .inl (fun _ => 0))), ((q 5), .inl (cy 0, 1502, .inl (fun _ => 0)))] := hD
  refine lv_aload_n S.1 S.2.1 dX12_rules_5 rfl (lv_at hl 0 rfl) ?_
  refine r_get S hK hP 0 11 rfl rfl inX12 10 (by decide) kw_1520 (v := .int 0) rfl dX12_rules_6 ?_
  refine r_if_le S 0 rfl dX12_rules_9 (tgt := 34) (by decide) (fun _ => ?_) (fun c => absurd c (by decide))
  refine lv_iconst (v := 0) S.1 S.2.1 dX12_rules_34 (by decide) ?_
  refine lv_istore_n (lv' := [(1, .int 0), (0, .ref (q 0))]) S.1 S.2.1 dX12_rules_35 rfl hl (by decide) rfl (fun ls hl => ?_)
  refine lv_aload_n S.1 S.2.1 dX12_rules_36 rfl (lv_at hl 1 rfl) ?_
  refine r_get S hK hP 0 11 rfl rfl inX12 10 (by decide) kw_1520 (v := .int 0) rfl dX12_rules_37 ?_
  refine lv_bipush (v := 8) S.1 S.2.1 dX12_rules_40 (by decide) ?_
  refine r_icmp_ne S 0 8 rfl rfl dX12_rules_42 (tgt := 56) (by decide) (fun _ => ?_) (fun c => absurd c (by decide))
  refine lv_aload_n S.1 S.2.1 dX12_rules_56 rfl (lv_at hl 1 rfl) ?_
  refine call_v (wr := [((q 12), .inl (cy 0, 9, .inl (fun _ => 0))), ((q 18), .inl (cy 1, 9, .inl (fun _ => 0))), ((q 19), .inl (cy 0, 9, .inl (fun _ => 0))), ((q 20), .inl (cy 1, 9, .inl (fun _ => 0))), ((q 21), .inl (cy 0, 9, .inl (fun _ => 0))), ((q 24), .inl (cy 0, 9, .inl (fun _ => 0))), ((q 22), .inl (cy 0, 90, .inl (fun _ => 0))), ((q 16), .inl (cy 1, 90, .inl (fun _ => 0))), ((q 17), .inl (cy 1, 90, .inl (fun _ => 0))), ((q 11), .inl (cy 0, 9, .inl (fun _ => 0))), ((q 14), .inl (cy 0, 90, .inl (fun _ => 0))), ((q 15), .inl (cy 0, 90, .inl (fun _ => 0))), ((q 23), .inl (cy 0, 90, .inl (fun _ => 0))), ((q 25), .inl (cy 0, 216, .inl (fun _ => 0))), ((q 26), .inl (cy 0, 216, .inl (fun _ => 0))), ((q 27), .inl (cy 0, 216, .inl (fun _ => 0)))]) (runV_C (wc := [((q 0), .inr (11, (mO q 0 0 0 0 0 0 0 0 (-1) 1 0 0 0 0 0 0 0 0 0))), ((q 4), .inl (cy 0, 1502, .inl (fun _ => 0))), ((q 5), .inl (cy 0, 1502, .inl (fun _ => 0)))]) (As := []) (rest := []) S (kX12_cutAll l D cy q) hK hP hD [0, 17, 18] (by decide) rfl 0 11 rfl rfl kw_1776 kw_1778 kw_64 kw_152 kw_1779 okX12_cutAll rfl (by decide) hl.1 rfl (Nat.le_of_ble_eq_true rfl) dX12_rules_57 (by decide)) hP hD hS hA [0, 17, 18] [1, 2, 3, 4, 5, 6, 7, 8, 9, 10, 11, 12, 13, 14, 15, 16] rfl rfl (by decide) (by decide) (fun u57 H locs w57 hP hD hS => ?_)
  obtain ⟨sr_57, rfl⟩ : ∃ z, z = u57 := ⟨_, rfl⟩
  have hP : va_P D vwCl [((q 12), .inl (cy 0, 9, .inl (fun _ => 0))), ((q 18), .inl (cy 1, 9, .inl (fun _ => 0))), ((q 19), .inl (cy 0, 9, .inl (fun _ => 0))), ((q 20), .inl (cy 1, 9, .inl (fun _ => 0))), ((q 21), .inl (cy 0, 9, .inl (fun _ => 0))), ((q 24), .inl (cy 0, 9, .inl (fun _ => 0))), ((q 22), .inl (cy 0, 90, .inl (fun _ => 0))), ((q 16), .inl (cy 1, 90, .inl (fun _ => 0))), ((q 17), .inl (cy 1, 90, .inl (fun _ => 0))), ((q 11), .inl (cy 0, 9, .inl (fun _ => 0))), ((q 14), .inl (cy 0, 90, .inl (fun _ => 0))), ((q 15), .inl (cy 0, 90, .inl (fun _ => 0))), ((q 23), .inl (cy 0, 90, .inl (fun _ => 0))), ((q 25), .inl (cy 0, 216, .inl (fun _ => 0))), ((q 26), .inl (cy 0, 216, .inl (fun _ => 0))), ((q 27), .inl (cy 0, 216, .inl (fun _ => 0))), ((q 0), .inr (11, (mO q 0 0 0 0 0 0 0 0 (-1) 1 0 0 0 0 0 0 0 0 0))), ((q 4), .inl (cy 0, 1502, .inl sr_57))] H := hP
  have hD : va_D A [((q 12), .inl (cy 0, 9, .inl (fun _ => 0))), ((q 18), .inl (cy 1, 9, .inl (fun _ => 0))), ((q 19), .inl (cy 0, 9, .inl (fun _ => 0))), ((q 20), .inl (cy 1, 9, .inl (fun _ => 0))), ((q 21), .inl (cy 0, 9, .inl (fun _ => 0))), ((q 24), .inl (cy 0, 9, .inl (fun _ => 0))), ((q 22), .inl (cy 0, 90, .inl (fun _ => 0))), ((q 16), .inl (cy 1, 90, .inl (fun _ => 0))), ((q 17), .inl (cy 1, 90, .inl (fun _ => 0))), ((q 11), .inl (cy 0, 9, .inl (fun _ => 0))), ((q 14), .inl (cy 0, 90, .inl (fun _ => 0))), ((q 15), .inl (cy 0, 90, .inl (fun _ => 0))), ((q 23), .inl (cy 0, 90, .inl (fun _ => 0))), ((q 25), .inl (cy 0, 216, .inl (fun _ => 0))), ((q 26), .inl (cy 0, 216, .inl (fun _ => 0))), ((q 27), .inl (cy 0, 216, .inl (fun _ => 0))), ((q 0), .inr (11, (mO q 0 0 0 0 0 0 0 0 (-1) 1 0 0 0 0 0 0 0 0 0))), ((q 4), .inl (cy 0, 1502, .inl sr_57))] := hD
  have hsr := w57
  refine lv_aload_n S.1 S.2.1 dX12_rules_60 rfl (lv_at hl 1 rfl) ?_
  refine call_v (wr := [((q 11), .inl (cy 0, 9, .inl (fun _ => 0))), ((q 14), .inl (cy 0, 90, .inl (fun _ => 0))), ((q 15), .inl (cy 0, 90, .inl (fun _ => 0))), ((q 23), .inl (cy 0, 90, .inl (fun _ => 0))), ((q 25), .inl (cy 0, 216, .inl (fun _ => 0))), ((q 26), .inl (cy 0, 216, .inl (fun _ => 0))), ((q 27), .inl (cy 0, 216, .inl (fun _ => 0))), ((q 4), .inl (cy 0, 1502, .inl sr_57))]) (runV_C (wc := [((q 0), .inr (11, (mO q 0 0 0 0 0 0 0 0 (-1) 1 0 0 0 0 0 0 0 0 0))), ((q 12), .inl (cy 0, 9, .inl (fun _ => 0))), ((q 18), .inl (cy 1, 9, .inl (fun _ => 0))), ((q 19), .inl (cy 0, 9, .inl (fun _ => 0))), ((q 20), .inl (cy 1, 9, .inl (fun _ => 0))), ((q 21), .inl (cy 0, 9, .inl (fun _ => 0))), ((q 24), .inl (cy 0, 9, .inl (fun _ => 0))), ((q 22), .inl (cy 0, 90, .inl (fun _ => 0))), ((q 16), .inl (cy 1, 90, .inl (fun _ => 0))), ((q 17), .inl (cy 1, 90, .inl (fun _ => 0)))]) (As := []) (rest := []) S (kX12_begins l D cy q) hK hP hD [16, 0, 1, 2, 3, 4, 5, 6, 7, 8] (by decide) rfl 0 11 rfl rfl kw_1795 kw_1797 kw_65 kw_152 kw_1798 okX12_begins rfl (by decide) hl.1 rfl (Nat.le_of_ble_eq_true rfl) dX12_rules_61 (by decide)) hP hD hS hA [16, 0, 1, 2, 3, 4, 5, 6, 7, 8] [9, 10, 11, 12, 13, 14, 15, 17] rfl rfl (by decide) (by decide) (fun u61 H locs w61 hP hD hS => ?_)
  obtain ⟨b0_61, b1_61, b2_61, b3_61, b4_61, b5_61, b6_61, b7_61, b8_61⟩ := u61
  have hP : va_P D vwCl [((q 11), .inl (cy 0, 9, .inl (fun _ => 0))), ((q 14), .inl (cy 0, 90, .inl (fun _ => 0))), ((q 15), .inl (cy 0, 90, .inl (fun _ => 0))), ((q 23), .inl (cy 0, 90, .inl (fun _ => 0))), ((q 25), .inl (cy 0, 216, .inl (fun _ => 0))), ((q 26), .inl (cy 0, 216, .inl (fun _ => 0))), ((q 27), .inl (cy 0, 216, .inl (fun _ => 0))), ((q 4), .inl (cy 0, 1502, .inl sr_57)), ((q 0), .inr (11, (mO q 0 0 0 0 0 0 0 0 (-1) 1 0 0 0 0 0 0 0 0 0))), ((q 12), .inl (cy 0, 9, .inl b0_61)), ((q 18), .inl (cy 1, 9, .inl b1_61)), ((q 19), .inl (cy 0, 9, .inl b2_61)), ((q 20), .inl (cy 1, 9, .inl b3_61)), ((q 21), .inl (cy 0, 9, .inl b4_61)), ((q 24), .inl (cy 0, 9, .inl b5_61)), ((q 22), .inl (cy 0, 90, .inl b6_61)), ((q 16), .inl (cy 1, 90, .inl b7_61)), ((q 17), .inl (cy 1, 90, .inl b8_61))] H := hP
  have hD : va_D A [((q 11), .inl (cy 0, 9, .inl (fun _ => 0))), ((q 14), .inl (cy 0, 90, .inl (fun _ => 0))), ((q 15), .inl (cy 0, 90, .inl (fun _ => 0))), ((q 23), .inl (cy 0, 90, .inl (fun _ => 0))), ((q 25), .inl (cy 0, 216, .inl (fun _ => 0))), ((q 26), .inl (cy 0, 216, .inl (fun _ => 0))), ((q 27), .inl (cy 0, 216, .inl (fun _ => 0))), ((q 4), .inl (cy 0, 1502, .inl sr_57)), ((q 0), .inr (11, (mO q 0 0 0 0 0 0 0 0 (-1) 1 0 0 0 0 0 0 0 0 0))), ((q 12), .inl (cy 0, 9, .inl b0_61)), ((q 18), .inl (cy 1, 9, .inl b1_61)), ((q 19), .inl (cy 0, 9, .inl b2_61)), ((q 20), .inl (cy 1, 9, .inl b3_61)), ((q 21), .inl (cy 0, 9, .inl b4_61)), ((q 24), .inl (cy 0, 9, .inl b5_61)), ((q 22), .inl (cy 0, 90, .inl b6_61)), ((q 16), .inl (cy 1, 90, .inl b7_61)), ((q 17), .inl (cy 1, 90, .inl b8_61))] := hD
  refine lv_aload_n S.1 S.2.1 dX12_rules_64 rfl (lv_at hl 1 rfl) ?_
  refine r_get S hK hP 8 11 rfl rfl inX12 8 (by decide) kw_1518 (v := .int 0) rfl dX12_rules_65 ?_
  refine r_if_ne S 0 rfl dX12_rules_68 (tgt := 90) (by decide) (fun c => absurd c (by decide)) (fun _ => ?_)
  refine lv_aload_n S.1 S.2.1 dX12_rules_71 rfl (lv_at hl 1 rfl) ?_
  refine r_get S hK hP 8 11 rfl rfl inX12 4 (by decide) kw_1514 (v := .ref (q 4)) rfl dX12_rules_72 ?_
  refine lv_aload_n S.1 S.2.1 dX12_rules_75 rfl (lv_at hl 1 rfl) ?_
  refine r_get S hK hP 8 11 rfl rfl inX12 7 (by decide) kw_1517 (v := .int 0) rfl dX12_rules_76 ?_
  refine r_iald S hK hP 7 0 rfl rfl (0) rfl (by decide) (by decide) (v := 0) hsr dX12_rules_79 ?_
  refine r_if_eq S 0 rfl dX12_rules_80 (tgt := 90) (by decide) (fun _ => ?_) (fun c => absurd c (by decide))
  refine lv_aload_n S.1 S.2.1 dX12_rules_90 rfl (lv_at hl 1 rfl) ?_
  refine r_get S hK hP 8 11 rfl rfl inX12 8 (by decide) kw_1518 (v := .int 0) rfl dX12_rules_91 ?_
  refine r_if_ne S 0 rfl dX12_rules_94 (tgt := 130) (by decide) (fun c => absurd c (by decide)) (fun _ => ?_)
  refine lv_aload_n S.1 S.2.1 dX12_rules_97 rfl (lv_at hl 1 rfl) ?_
  refine lv_dup S.1 S.2.1 dX12_rules_98 rfl ?_
  refine r_get S hK hP 8 11 rfl rfl inX12 10 (by decide) kw_1520 (v := .int 0) rfl dX12_rules_99 ?_
  refine lv_iload_n S.1 S.2.1 dX12_rules_102 rfl (lv_at hl 0 rfl) ?_
  refine r_if_eq S 0 rfl dX12_rules_103 (tgt := 110) (by decide) (fun _ => ?_) (fun c => absurd c (by decide))
  refine lv_iconst (v := 1) S.1 S.2.1 dX12_rules_110 (by decide) ?_
  refine r_iadd S dX12_rules_111 (v := 1) (by decide) ?_
  refine r_put S hK hP hD hS 8 11 rfl rfl inX12 10 (by decide) tyX12 tyX12_ok nmX12 kw_1520 (v := .int 1) rfl rfl rfl (Nat.le_of_ble_eq_true rfl) dX12_rules_112 (fun H locs hP hD hS => ?_)
  have hP : va_P D vwCl [((q 11), .inl (cy 0, 9, .inl (fun _ => 0))), ((q 14), .inl (cy 0, 90, .inl (fun _ => 0))), ((q 15), .inl (cy 0, 90, .inl (fun _ => 0))), ((q 23), .inl (cy 0, 90, .inl (fun _ => 0))), ((q 25), .inl (cy 0, 216, .inl (fun _ => 0))), ((q 26), .inl (cy 0, 216, .inl (fun _ => 0))), ((q 27), .inl (cy 0, 216, .inl (fun _ => 0))), ((q 4), .inl (cy 0, 1502, .inl sr_57)), ((q 0), .inr (11, (mO q 0 0 0 0 0 1 0 0 (-1) 1 0 0 0 0 0 0 0 0 0))), ((q 12), .inl (cy 0, 9, .inl b0_61)), ((q 18), .inl (cy 1, 9, .inl b1_61)), ((q 19), .inl (cy 0, 9, .inl b2_61)), ((q 20), .inl (cy 1, 9, .inl b3_61)), ((q 21), .inl (cy 0, 9, .inl b4_61)), ((q 24), .inl (cy 0, 9, .inl b5_61)), ((q 22), .inl (cy 0, 90, .inl b6_61)), ((q 16), .inl (cy 1, 90, .inl b7_61)), ((q 17), .inl (cy 1, 90, .inl b8_61))] H := hP
  have hD : va_D A [((q 11), .inl (cy 0, 9, .inl (fun _ => 0))), ((q 14), .inl (cy 0, 90, .inl (fun _ => 0))), ((q 15), .inl (cy 0, 90, .inl (fun _ => 0))), ((q 23), .inl (cy 0, 90, .inl (fun _ => 0))), ((q 25), .inl (cy 0, 216, .inl (fun _ => 0))), ((q 26), .inl (cy 0, 216, .inl (fun _ => 0))), ((q 27), .inl (cy 0, 216, .inl (fun _ => 0))), ((q 4), .inl (cy 0, 1502, .inl sr_57)), ((q 0), .inr (11, (mO q 0 0 0 0 0 1 0 0 (-1) 1 0 0 0 0 0 0 0 0 0))), ((q 12), .inl (cy 0, 9, .inl b0_61)), ((q 18), .inl (cy 1, 9, .inl b1_61)), ((q 19), .inl (cy 0, 9, .inl b2_61)), ((q 20), .inl (cy 1, 9, .inl b3_61)), ((q 21), .inl (cy 0, 9, .inl b4_61)), ((q 24), .inl (cy 0, 9, .inl b5_61)), ((q 22), .inl (cy 0, 90, .inl b6_61)), ((q 16), .inl (cy 1, 90, .inl b7_61)), ((q 17), .inl (cy 1, 90, .inl b8_61))] := hD
  refine lv_aload_n S.1 S.2.1 dX12_rules_115 rfl (lv_at hl 1 rfl) ?_
  refine lv_aload_n S.1 S.2.1 dX12_rules_116 rfl (lv_at hl 1 rfl) ?_
  refine r_get S hK hP 8 11 rfl rfl inX12 10 (by decide) kw_1520 (v := .int 1) rfl dX12_rules_117 ?_
  refine lv_iconst (v := 1) S.1 S.2.1 dX12_rules_120 (by decide) ?_
  refine r_isub S dX12_rules_121 (v := 0) (by decide) ?_
  refine call_v (wr := [((q 4), .inl (cy 0, 1502, .inl sr_57)), ((q 18), .inl (cy 1, 9, .inl b1_61)), ((q 20), .inl (cy 1, 9, .inl b3_61))]) (runV_C (wc := [((q 0), .inr (11, (mO q 0 0 0 0 0 1 0 0 (-1) 1 0 0 0 0 0 0 0 0 0))), ((q 11), .inl (cy 0, 9, .inl (fun _ => 0))), ((q 12), .inl (cy 0, 9, .inl b0_61)), ((q 19), .inl (cy 0, 9, .inl b2_61)), ((q 21), .inl (cy 0, 9, .inl b4_61)), ((q 24), .inl (cy 0, 9, .inl b5_61)), ((q 14), .inl (cy 0, 90, .inl (fun _ => 0))), ((q 15), .inl (cy 0, 90, .inl (fun _ => 0))), ((q 16), .inl (cy 1, 90, .inl b7_61)), ((q 17), .inl (cy 1, 90, .inl b8_61)), ((q 22), .inl (cy 0, 90, .inl b6_61)), ((q 23), .inl (cy 0, 90, .inl (fun _ => 0))), ((q 25), .inl (cy 0, 216, .inl (fun _ => 0))), ((q 26), .inl (cy 0, 216, .inl (fun _ => 0))), ((q 27), .inl (cy 0, 216, .inl (fun _ => 0)))]) (As := [.int 0]) (rest := []) S (kX12_keeps l D cy q (fun _ => 0) b0_61 b2_61 b4_61 b5_61 (fun _ => 0) (fun _ => 0) b7_61 b8_61 b6_61 (fun _ => 0) (fun _ => 0) (fun _ => 0) (fun _ => 0)) hK hP hD [8, 0, 9, 11, 13, 14, 1, 2, 16, 17, 15, 3, 4, 5, 6] (by decide) rfl 0 11 rfl rfl kw_1884 kw_1886 kw_87 kw_152 kw_1887 okX12_keeps rfl (by decide) hl.1 rfl (Nat.le_of_ble_eq_true rfl) dX12_rules_122 (by decide)) hP hD hS hA [8, 0, 9, 11, 13, 14, 1, 2, 16, 17, 15, 3, 4, 5, 6] [7, 10, 12] rfl rfl (by decide) (by decide) (fun u122 H locs w122 hP hD hS => ?_)
  have hP : va_P D vwCl [((q 4), .inl (cy 0, 1502, .inl sr_57)), ((q 18), .inl (cy 1, 9, .inl b1_61)), ((q 20), .inl (cy 1, 9, .inl b3_61)), ((q 0), .inr (11, (mO q 0 0 0 0 0 1 0 0 (-1) 1 0 0 0 0 0 0 0 0 0)))] H := hP
  have hD : va_D A [((q 4), .inl (cy 0, 1502, .inl sr_57)), ((q 18), .inl (cy 1, 9, .inl b1_61)), ((q 20), .inl (cy 1, 9, .inl b3_61)), ((q 0), .inr (11, (mO q 0 0 0 0 0 1 0 0 (-1) 1 0 0 0 0 0 0 0 0 0)))] := hD
  refine lv_aload_n S.1 S.2.1 dX12_rules_125 rfl (lv_at hl 1 rfl) ?_
  refine lv_iconst (v := 1) S.1 S.2.1 dX12_rules_126 (by decide) ?_
  refine r_put S hK hP hD hS 3 11 rfl rfl inX12 35 (by decide) tyX12 tyX12_ok nmX12 kw_1545 (v := .int 1) rfl (by decide) (by decide) (Nat.le_of_ble_eq_true rfl) dX12_rules_127 (fun H locs hP hD hS => ?_)
  have hP : va_P D vwCl [((q 4), .inl (cy 0, 1502, .inl sr_57)), ((q 18), .inl (cy 1, 9, .inl b1_61)), ((q 20), .inl (cy 1, 9, .inl b3_61)), ((q 0), .inr (11, (mO q 0 0 0 0 0 1 0 0 (-1) 1 0 0 0 0 0 0 0 0 0)))] H := hP
  have hD : va_D A [((q 4), .inl (cy 0, 1502, .inl sr_57)), ((q 18), .inl (cy 1, 9, .inl b1_61)), ((q 20), .inl (cy 1, 9, .inl b3_61)), ((q 0), .inr (11, (mO q 0 0 0 0 0 1 0 0 (-1) 1 0 0 0 0 0 0 0 0 0)))] := hD
  refine lv_aload_n S.1 S.2.1 dX12_rules_130 rfl (lv_at hl 1 rfl) ?_
  refine r_get S hK hP 3 11 rfl rfl inX12 8 (by decide) kw_1518 (v := .int 0) rfl dX12_rules_131 ?_
  exact ci_ret (u := ()) S hr hlk rfl hK (hP.sub [] rfl) (hD.sub [] (by decide) rfl) hS (rfl) (by decide) (by decide) dX12_rules_134
set_option maxHeartbeats 4000000 in
set_option maxRecDepth 100000 in
theorem kX12_fault (l : Launch) (D : va_G) (cy : Nat → ClassId) (q : Nat → Nat) (p0 : Int32) (p1 : Int32) (p2 : Int32) (p3 : Int32) (p4 : Int32) (p5 : Int32) (p6 : Int32) (z0 : Int) (h0 : p0.toInt = z0) (z1 : Int) (h1 : p1.toInt = z1) (z2 : Int) (h2 : p2.toInt = z2) (z3 : Int) (h3 : p3.toInt = z3) (z4 : Int) (h4 : p4.toInt = z4) (z5 : Int) (h5 : p5.toInt = z5) (z6 : Int) (h6 : p6.toInt = z6) : CI l D cy yX12_fault cX12_fault 10 (some .int) 2 43 0 0 [.ref (q 0), .int p0, .int p1, .int p2, .int p3, .int p4, .int p5, .int p6] [((q 0), .inr (11, (mO q 0 0 0 0 0 0 0 0 (-1) 1 0 0 0 0 0 0 0 0 0))), ((q 58), .inl (cy 1, 768, .inl (fun _ => 0))), ((q 59), .inl (cy 0, 4, .inl (fun _ => 0))), ((q 60), .inl (cy 0, 4, .inl (fun _ => 0))), ((q 61), .inl (cy 0, 4, .inl (fun _ => 0)))] (fun (v : Int32) (u : Unit) => (v = 0 ∧ ((0 ≤ z0 ∧ z0 ≤ 11 ∧ 0 ≤ z1 ∧ z1 ≤ 7 ∧ 1 ≤ z3 ∧ z3 ≤ 12 ∧ -300 ≤ z4 ∧ z5 ≤ 300 ∧ z4 ≤ z5 ∧ 1 ≤ z6 ∧ z6 ≤ 99 ∧ (¬ z2 = 0 → z0 + 1 < 12 ∧ z1 + z3 ≤ 8) ∧ (z2 = 0 → z1 + 1 < 8 ∧ z0 + z3 ≤ 12)))) ∨ (v = (-1) ∧ (¬ (0 ≤ z0 ∧ z0 ≤ 11 ∧ 0 ≤ z1 ∧ z1 ≤ 7 ∧ 1 ≤ z3 ∧ z3 ≤ 12 ∧ -300 ≤ z4 ∧ z5 ≤ 300 ∧ z4 ≤ z5 ∧ 1 ≤ z6 ∧ z6 ≤ 99 ∧ (¬ z2 = 0 → z0 + 1 < 12 ∧ z1 + z3 ≤ 8) ∧ (z2 = 0 → z1 + 1 < 8 ∧ z0 + z3 ≤ 12))))) (fun (u : Unit) => []) := by
  refine ci_go (by decide) (Nat.le_of_ble_eq_true rfl) (fun p e s m below meth c ls A hA S hr hlk hnm hP hK hD hl => ?_)
  have hS : va_S A s.heap s.heap [] := va_S.rf
  have hl : lv_has ls 10 [(0, .ref (q 0)), (1, .int p0), (2, .int p1), (3, .int p2), (4, .int p3), (5, .int p4), (6, .int p5), (7, .int p6)] := hl
  refine lv_aload_n S.1 S.2.1 dX12_fault_0 rfl (lv_at hl 0 rfl) ?_
  refine lv_iconst (v := 0) S.1 S.2.1 dX12_fault_1 (by decide) ?_
  refine r_put S hK hP hD hS 0 11 rfl rfl inX12 0 (by decide) tyX12 tyX12_ok nmX12 kw_1510 (v := .int 0) rfl rfl rfl (Nat.le_of_ble_eq_true rfl) dX12_fault_2 (fun H locs hP hD hS => ?_)
  have hP : va_P D vwCl [((q 0), .inr (11, (mO q 0 0 0 0 0 0 0 0 (-1) 1 0 0 0 0 0 0 0 0 0))), ((q 58), .inl (cy 1, 768, .inl (fun _ => 0))), ((q 59), .inl (cy 0, 4, .inl (fun _ => 0))), ((q 60), .inl (cy 0, 4, .inl (fun _ => 0))), ((q 61), .inl (cy 0, 4, .inl (fun _ => 0)))] H := hP
  have hD : va_D A [((q 0), .inr (11, (mO q 0 0 0 0 0 0 0 0 (-1) 1 0 0 0 0 0 0 0 0 0))), ((q 58), .inl (cy 1, 768, .inl (fun _ => 0))), ((q 59), .inl (cy 0, 4, .inl (fun _ => 0))), ((q 60), .inl (cy 0, 4, .inl (fun _ => 0))), ((q 61), .inl (cy 0, 4, .inl (fun _ => 0)))] := hD
  refine lv_iload_n S.1 S.2.1 dX12_fault_5 rfl (lv_at hl 1 rfl) ?_
  refine lv_iload_n S.1 S.2.1 dX12_fault_6 rfl (lv_at hl 2 rfl) ?_
  refine call_ri (runS_R (wc := []) (As := [.int p0, .int p1]) (rest := []) S (kX12_isCell l D cy p0 p1 z0 h0 z1 h1) hK hP [] rfl kw_1903 kw_1904 kw_152 kw_1905 okX12_isCell rfl (by decide) hl.1 rfl (Nat.le_of_ble_eq_true rfl) dX12_fault_7 (by decide)) (fun v7 w7 => ?_)
  rcases w7 with ⟨rfl, w7_0_0⟩ | ⟨rfl, w7_1_0⟩
  · refine r_if_eq S 1 rfl dX12_fault_10 (tgt := 82) (by decide) (fun c => absurd c (by decide)) (fun _ => ?_)
    refine lv_iload S.1 S.2.1 dX12_fault_13 (lv_at hl 4 rfl) ?_
    refine lv_iconst (v := 1) S.1 S.2.1 dX12_fault_15 (by decide) ?_
    refine lv_bipush (v := 12) S.1 S.2.1 dX12_fault_16 (by decide) ?_
    refine call_ri (runS_R (wc := []) (As := [.int p3, .int 1, .int 12]) (rest := []) S (kX12_within l D cy p3 1 12 z3 h3 1 rfl 12 rfl) hK hP [] rfl kw_1892 kw_1893 kw_152 kw_1894 okX12_within rfl (by decide) hl.1 rfl (Nat.le_of_ble_eq_true rfl) dX12_fault_18 (by decide)) (fun v18 w18 => ?_)
    rcases w18 with ⟨rfl, w18_0_0⟩ | ⟨rfl, w18_1_0⟩
    · refine r_if_eq S 1 rfl dX12_fault_21 (tgt := 82) (by decide) (fun c => absurd c (by decide)) (fun _ => ?_)
      refine lv_iload S.1 S.2.1 dX12_fault_24 (lv_at hl 5 rfl) ?_
      refine lv_sipush (v := (-300)) S.1 S.2.1 dX12_fault_26 (by decide) ?_
      refine lv_sipush (v := 300) S.1 S.2.1 dX12_fault_29 (by decide) ?_
      refine call_ri (runS_R (wc := []) (As := [.int p4, .int (-300), .int 300]) (rest := []) S (kX12_within l D cy p4 (-300) 300 z4 h4 (-300) rfl 300 rfl) hK hP [] rfl kw_1892 kw_1893 kw_152 kw_1894 okX12_within rfl (by decide) hl.1 rfl (Nat.le_of_ble_eq_true rfl) dX12_fault_32 (by decide)) (fun v32 w32 => ?_)
      rcases w32 with ⟨rfl, w32_0_0⟩ | ⟨rfl, w32_1_0⟩
      · refine r_if_eq S 1 rfl dX12_fault_35 (tgt := 82) (by decide) (fun c => absurd c (by decide)) (fun _ => ?_)
        refine lv_iload S.1 S.2.1 dX12_fault_38 (lv_at hl 6 rfl) ?_
        refine lv_sipush (v := (-300)) S.1 S.2.1 dX12_fault_40 (by decide) ?_
        refine lv_sipush (v := 300) S.1 S.2.1 dX12_fault_43 (by decide) ?_
        refine call_ri (runS_R (wc := []) (As := [.int p5, .int (-300), .int 300]) (rest := []) S (kX12_within l D cy p5 (-300) 300 z5 h5 (-300) rfl 300 rfl) hK hP [] rfl kw_1892 kw_1893 kw_152 kw_1894 okX12_within rfl (by decide) hl.1 rfl (Nat.le_of_ble_eq_true rfl) dX12_fault_46 (by decide)) (fun v46 w46 => ?_)
        rcases w46 with ⟨rfl, w46_0_0⟩ | ⟨rfl, w46_1_0⟩
        · refine r_if_eq S 1 rfl dX12_fault_49 (tgt := 82) (by decide) (fun c => absurd c (by decide)) (fun _ => ?_)
          refine lv_iload S.1 S.2.1 dX12_fault_52 (lv_at hl 5 rfl) ?_
          refine lv_iload S.1 S.2.1 dX12_fault_54 (lv_at hl 6 rfl) ?_
          refine r_icmp_gt S z4 z5 h4 h5 dX12_fault_56 (tgt := 82) (by decide) (fun e_56_1 => ?_) (fun e_56_1 => ?_)
          · refine lv_iconst (v := 0) S.1 S.2.1 dX12_fault_82 (by decide) ?_
            refine lv_istore (lv' := [(8, .int 0), (0, .ref (q 0)), (1, .int p0), (2, .int p1), (3, .int p2), (4, .int p3), (5, .int p4), (6, .int p5), (7, .int p6)]) S.1 S.2.1 dX12_fault_83 hl (by decide) rfl (fun ls hl => ?_)
            refine lv_iload S.1 S.2.1 dX12_fault_85 (lv_at hl 0 rfl) ?_
            refine r_if_eq S 0 rfl dX12_fault_87 (tgt := 135) (by decide) (fun _ => ?_) (fun c => absurd c (by decide))
            refine lv_iconst (v := 0) S.1 S.2.1 dX12_fault_135 (by decide) ?_
            refine lv_istore (lv' := [(8, .int 0), (0, .ref (q 0)), (1, .int p0), (2, .int p1), (3, .int p2), (4, .int p3), (5, .int p4), (6, .int p5), (7, .int p6)]) S.1 S.2.1 dX12_fault_136 hl (by decide) rfl (fun ls hl => ?_)
            refine lv_iload S.1 S.2.1 dX12_fault_138 (lv_at hl 0 rfl) ?_
            refine r_if_ne S 0 rfl dX12_fault_140 (tgt := 145) (by decide) (fun c => absurd c (by decide)) (fun _ => ?_)
            refine lv_iconst (v := (-1)) S.1 S.2.1 dX12_fault_143 (by decide) ?_
            exact ci_ret (u := ()) S hr hlk rfl hK (hP.sub [] rfl) (hD.sub [] (by decide) rfl) hS (Or.inr (⟨rfl, (by omega)⟩)) (by decide) (by decide) dX12_fault_144
          · refine lv_iload S.1 S.2.1 dX12_fault_59 (lv_at hl 7 rfl) ?_
            refine lv_iconst (v := 1) S.1 S.2.1 dX12_fault_61 (by decide) ?_
            refine lv_bipush (v := 99) S.1 S.2.1 dX12_fault_62 (by decide) ?_
            refine call_ri (runS_R (wc := []) (As := [.int p6, .int 1, .int 99]) (rest := []) S (kX12_within l D cy p6 1 99 z6 h6 1 rfl 99 rfl) hK hP [] rfl kw_1892 kw_1893 kw_152 kw_1894 okX12_within rfl (by decide) hl.1 rfl (Nat.le_of_ble_eq_true rfl) dX12_fault_64 (by decide)) (fun v64 w64 => ?_)
            rcases w64 with ⟨rfl, w64_0_0⟩ | ⟨rfl, w64_1_0⟩
            · refine r_if_eq S 1 rfl dX12_fault_67 (tgt := 82) (by decide) (fun c => absurd c (by decide)) (fun _ => ?_)
              refine lv_aload_n S.1 S.2.1 dX12_fault_70 rfl (lv_at hl 0 rfl) ?_
              refine r_get S hK hP 0 11 rfl rfl inX12 57 (by decide) kw_1567 (v := .int 0) rfl dX12_fault_71 ?_
              refine lv_iconst (v := 4) S.1 S.2.1 dX12_fault_74 (by decide) ?_
              refine r_icmp_ge S 0 4 rfl rfl dX12_fault_75 (tgt := 82) (by decide) (fun c => absurd c (by decide)) (fun _ => ?_)
              refine lv_iconst (v := 1) S.1 S.2.1 dX12_fault_78 (by decide) ?_
              refine lv_goto (tgt := 83) S.1 S.2.1 dX12_fault_79 (by decide) ?_
              refine lv_istore (lv' := [(8, .int 1), (0, .ref (q 0)), (1, .int p0), (2, .int p1), (3, .int p2), (4, .int p3), (5, .int p4), (6, .int p5), (7, .int p6)]) S.1 S.2.1 dX12_fault_83 hl (by decide) rfl (fun ls hl => ?_)
              refine lv_iload S.1 S.2.1 dX12_fault_85 (lv_at hl 0 rfl) ?_
              refine r_if_eq S 1 rfl dX12_fault_87 (tgt := 135) (by decide) (fun c => absurd c (by decide)) (fun _ => ?_)
              refine lv_iload_n S.1 S.2.1 dX12_fault_90 rfl (lv_at hl 4 rfl) ?_
              refine r_if_eq S z2 h2 dX12_fault_91 (tgt := 114) (by decide) (fun e_91_2 => ?_) (fun e_91_2 => ?_)
              · refine lv_iload_n S.1 S.2.1 dX12_fault_114 rfl (lv_at hl 3 rfl) ?_
                refine lv_iconst (v := 1) S.1 S.2.1 dX12_fault_115 (by decide) ?_
                refine r_iadd S dX12_fault_116 (v := (p1 + 1)) rfl ?_
                refine lv_bipush (v := 8) S.1 S.2.1 dX12_fault_117 (by decide) ?_
                refine r_icmp_ge S (z1 + 1) 8 (zadd (x := p1) (y := 1) (X := z1) (Y := 1) h1 rfl (by omega) (by omega)) rfl dX12_fault_119 (tgt := 135) (by decide) (fun e_119_3 => ?_) (fun e_119_3 => ?_)
                · refine lv_iconst (v := 0) S.1 S.2.1 dX12_fault_135 (by decide) ?_
                  refine lv_istore (lv' := [(8, .int 0), (0, .ref (q 0)), (1, .int p0), (2, .int p1), (3, .int p2), (4, .int p3), (5, .int p4), (6, .int p5), (7, .int p6)]) S.1 S.2.1 dX12_fault_136 hl (by decide) rfl (fun ls hl => ?_)
                  refine lv_iload S.1 S.2.1 dX12_fault_138 (lv_at hl 0 rfl) ?_
                  refine r_if_ne S 0 rfl dX12_fault_140 (tgt := 145) (by decide) (fun c => absurd c (by decide)) (fun _ => ?_)
                  refine lv_iconst (v := (-1)) S.1 S.2.1 dX12_fault_143 (by decide) ?_
                  exact ci_ret (u := ()) S hr hlk rfl hK (hP.sub [] rfl) (hD.sub [] (by decide) rfl) hS (Or.inr (⟨rfl, (by omega)⟩)) (by decide) (by decide) dX12_fault_144
                · refine lv_iload_n S.1 S.2.1 dX12_fault_122 rfl (lv_at hl 2 rfl) ?_
                  refine lv_iload S.1 S.2.1 dX12_fault_123 (lv_at hl 5 rfl) ?_
                  refine r_iadd S dX12_fault_125 (v := (p0 + p3)) rfl ?_
                  refine lv_bipush (v := 12) S.1 S.2.1 dX12_fault_126 (by decide) ?_
                  refine r_icmp_gt S (z0 + z3) 12 (zadd (x := p0) (y := p3) (X := z0) (Y := z3) h0 h3 (by omega) (by omega)) rfl dX12_fault_128 (tgt := 135) (by decide) (fun e_128_4 => ?_) (fun e_128_4 => ?_)
                  · refine lv_iconst (v := 0) S.1 S.2.1 dX12_fault_135 (by decide) ?_
                    refine lv_istore (lv' := [(8, .int 0), (0, .ref (q 0)), (1, .int p0), (2, .int p1), (3, .int p2), (4, .int p3), (5, .int p4), (6, .int p5), (7, .int p6)]) S.1 S.2.1 dX12_fault_136 hl (by decide) rfl (fun ls hl => ?_)
                    refine lv_iload S.1 S.2.1 dX12_fault_138 (lv_at hl 0 rfl) ?_
                    refine r_if_ne S 0 rfl dX12_fault_140 (tgt := 145) (by decide) (fun c => absurd c (by decide)) (fun _ => ?_)
                    refine lv_iconst (v := (-1)) S.1 S.2.1 dX12_fault_143 (by decide) ?_
                    exact ci_ret (u := ()) S hr hlk rfl hK (hP.sub [] rfl) (hD.sub [] (by decide) rfl) hS (Or.inr (⟨rfl, (by omega)⟩)) (by decide) (by decide) dX12_fault_144
                  · refine lv_iconst (v := 1) S.1 S.2.1 dX12_fault_131 (by decide) ?_
                    refine lv_goto (tgt := 136) S.1 S.2.1 dX12_fault_132 (by decide) ?_
                    refine lv_istore (lv' := [(8, .int 1), (0, .ref (q 0)), (1, .int p0), (2, .int p1), (3, .int p2), (4, .int p3), (5, .int p4), (6, .int p5), (7, .int p6)]) S.1 S.2.1 dX12_fault_136 hl (by decide) rfl (fun ls hl => ?_)
                    refine lv_iload S.1 S.2.1 dX12_fault_138 (lv_at hl 0 rfl) ?_
                    refine r_if_ne S 1 rfl dX12_fault_140 (tgt := 145) (by decide) (fun _ => ?_) (fun c => absurd c (by decide))
                    obtain ⟨cx, hcx, qcx, zcx⟩ := i_nat 12 h0 (by omega) (by omega)
                    have hl : lv_has ls 10 [(8, .int 1), (0, .ref (q 0)), (1, .int (nI cx)), (2, .int p1), (3, .int p2), (4, .int p3), (5, .int p4), (6, .int p5), (7, .int p6)] := by rw [← qcx]; exact hl
                    obtain ⟨cl, hcl, qcl, zcl⟩ := i_nat 8 h1 (by omega) (by omega)
                    have hl : lv_has ls 10 [(8, .int 1), (0, .ref (q 0)), (1, .int (nI cx)), (2, .int (nI cl)), (3, .int p2), (4, .int p3), (5, .int p4), (6, .int p5), (7, .int p6)] := by rw [← qcl]; exact hl
                    obtain ⟨mn, hmn, qmn, zmn⟩ := i_nat 13 h3 (by omega) (by omega)
                    have hl : lv_has ls 10 [(8, .int 1), (0, .ref (q 0)), (1, .int (nI cx)), (2, .int (nI cl)), (3, .int p2), (4, .int (nI mn)), (5, .int p4), (6, .int p5), (7, .int p6)] := by rw [← qmn]; exact hl
                    refine lv_iconst (v := 0) S.1 S.2.1 dX12_fault_145 (by decide) ?_
                    refine lv_istore (lv' := [(9, .int 0), (8, .int 1), (0, .ref (q 0)), (1, .int (nI cx)), (2, .int (nI cl)), (3, .int p2), (4, .int (nI mn)), (5, .int p4), (6, .int p5), (7, .int p6)]) S.1 S.2.1 dX12_fault_146 hl (by decide) rfl (fun ls hl => ?_)
                    refine loopN (σ := (Nat → Int32)) 148 192 (fun ka xs9 => [((q 0), .inr (11, (mO q 0 0 0 0 0 0 0 0 (-1) 1 0 0 0 0 0 0 0 0 0))), ((q 58), .inl (cy 1, 768, .inl (xs9))), ((q 59), .inl (cy 0, 4, .inl (fun _ => 0))), ((q 60), .inl (cy 0, 4, .inl (fun _ => 0))), ((q 61), .inl (cy 0, 4, .inl (fun _ => 0)))]) (fun ka xs9 => [(9, .int (nI (ka))), (8, .int 1), (0, .ref (q 0)), (1, .int (nI cx)), (2, .int (nI cl)), (3, .int p2), (4, .int (nI mn)), (5, .int p4), (6, .int p5), (7, .int p6)]) (fun ka xs9 => True) (fun xs9 hJa H locs ls hP hD hS hl => ?_) (fun ka xs9 hka hJa H locs ls hP hD hS hl iha => ?_) (fun _ => 0) trivial (hP.sub [0, 1, 2, 3, 4] rfl) (hD.sub [0, 1, 2, 3, 4] (by decide) rfl) hS (lv_sub hl [0, 1, 2, 3, 4, 5, 6, 7, 8, 9] rfl)
                    · obtain ⟨ra, rfl⟩ : ∃ z, z = xs9 := ⟨_, rfl⟩
                      have hP : va_P D vwCl [((q 0), .inr (11, (mO q 0 0 0 0 0 0 0 0 (-1) 1 0 0 0 0 0 0 0 0 0))), ((q 58), .inl (cy 1, 768, .inl ra)), ((q 59), .inl (cy 0, 4, .inl (fun _ => 0))), ((q 60), .inl (cy 0, 4, .inl (fun _ => 0))), ((q 61), .inl (cy 0, 4, .inl (fun _ => 0)))] H := hP
                      have hD : va_D A [((q 0), .inr (11, (mO q 0 0 0 0 0 0 0 0 (-1) 1 0 0 0 0 0 0 0 0 0))), ((q 58), .inl (cy 1, 768, .inl ra)), ((q 59), .inl (cy 0, 4, .inl (fun _ => 0))), ((q 60), .inl (cy 0, 4, .inl (fun _ => 0))), ((q 61), .inl (cy 0, 4, .inl (fun _ => 0)))] := hD
                      have hl : lv_has ls 10 [(9, .int 192), (8, .int 1), (0, .ref (q 0)), (1, .int (nI cx)), (2, .int (nI cl)), (3, .int p2), (4, .int (nI mn)), (5, .int p4), (6, .int p5), (7, .int p6)] := hl
                      refine lv_iload S.1 S.2.1 dX12_fault_148 (lv_at hl 0 rfl) ?_
                      refine lv_sipush (v := 192) S.1 S.2.1 dX12_fault_150 (by decide) ?_
                      refine r_icmp_ge S 192 192 rfl rfl dX12_fault_153 (tgt := 179) (by decide) (fun _ => ?_) (fun c => absurd c (by decide))
                      refine lv_iconst (v := 0) S.1 S.2.1 dX12_fault_179 (by decide) ?_
                      refine lv_istore (lv' := [(9, .int 0), (8, .int 1), (0, .ref (q 0)), (1, .int (nI cx)), (2, .int (nI cl)), (3, .int p2), (4, .int (nI mn)), (5, .int p4), (6, .int p5), (7, .int p6)]) S.1 S.2.1 dX12_fault_180 hl (by decide) rfl (fun ls hl => ?_)
                      refine loopN (σ := (Nat → Int32)) 182 mn (fun kb xs9 => [((q 0), .inr (11, (mO q 0 0 0 0 0 0 0 0 (-1) 1 0 0 0 0 0 0 0 0 0))), ((q 58), .inl (cy 1, 768, .inl (xs9))), ((q 59), .inl (cy 0, 4, .inl (fun _ => 0))), ((q 60), .inl (cy 0, 4, .inl (fun _ => 0))), ((q 61), .inl (cy 0, 4, .inl (fun _ => 0)))]) (fun kb xs9 => [(9, .int (nI (kb))), (8, .int 1), (0, .ref (q 0)), (1, .int (nI cx)), (2, .int (nI cl)), (3, .int p2), (4, .int (nI mn)), (5, .int p4), (6, .int p5), (7, .int p6)]) (fun kb xs9 => True) (fun xs9 hJb H locs ls hP hD hS hl => ?_) (fun kb xs9 hkb hJb H locs ls hP hD hS hl ihb => ?_) ra trivial (hP.sub [0, 1, 2, 3, 4] rfl) (hD.sub [0, 1, 2, 3, 4] (by decide) rfl) hS (lv_sub hl [0, 1, 2, 3, 4, 5, 6, 7, 8, 9] rfl)
                      · obtain ⟨rb, rfl⟩ : ∃ z, z = xs9 := ⟨_, rfl⟩
                        have hP : va_P D vwCl [((q 0), .inr (11, (mO q 0 0 0 0 0 0 0 0 (-1) 1 0 0 0 0 0 0 0 0 0))), ((q 58), .inl (cy 1, 768, .inl rb)), ((q 59), .inl (cy 0, 4, .inl (fun _ => 0))), ((q 60), .inl (cy 0, 4, .inl (fun _ => 0))), ((q 61), .inl (cy 0, 4, .inl (fun _ => 0)))] H := hP
                        have hD : va_D A [((q 0), .inr (11, (mO q 0 0 0 0 0 0 0 0 (-1) 1 0 0 0 0 0 0 0 0 0))), ((q 58), .inl (cy 1, 768, .inl rb)), ((q 59), .inl (cy 0, 4, .inl (fun _ => 0))), ((q 60), .inl (cy 0, 4, .inl (fun _ => 0))), ((q 61), .inl (cy 0, 4, .inl (fun _ => 0)))] := hD
                        have hl : lv_has ls 10 [(9, .int (nI (mn))), (8, .int 1), (0, .ref (q 0)), (1, .int (nI cx)), (2, .int (nI cl)), (3, .int p2), (4, .int (nI mn)), (5, .int p4), (6, .int p5), (7, .int p6)] := hl
                        refine lv_iload S.1 S.2.1 dX12_fault_182 (lv_at hl 0 rfl) ?_
                        refine lv_iload S.1 S.2.1 dX12_fault_184 (lv_at hl 6 rfl) ?_
                        refine r_icmp_ge S ((mn : Nat) : Int) (mn : Int) (nI_toInt (by omega)) (nI_toInt (by omega)) dX12_fault_186 (tgt := 238) (by decide) (fun _ => ?_) (fun c => absurd c (by omega))
                        refine lv_aload_n S.1 S.2.1 dX12_fault_238 rfl (lv_at hl 2 rfl) ?_
                        refine r_get S hK hP 0 11 rfl rfl inX12 59 (by decide) kw_1569 (v := .ref (q 59)) rfl dX12_fault_239 ?_
                        refine lv_aload_n S.1 S.2.1 dX12_fault_242 rfl (lv_at hl 2 rfl) ?_
                        refine r_get S hK hP 0 11 rfl rfl inX12 57 (by decide) kw_1567 (v := .int 0) rfl dX12_fault_243 ?_
                        refine lv_iload S.1 S.2.1 dX12_fault_246 (lv_at hl 7 rfl) ?_
                        refine r_iast S hK hP hD hS 2 0 rfl rfl (0) rfl (by decide) (by decide) dX12_fault_248 (fun H locs hP hD hS => ?_)
                        have hP : va_P D vwCl [((q 0), .inr (11, (mO q 0 0 0 0 0 0 0 0 (-1) 1 0 0 0 0 0 0 0 0 0))), ((q 58), .inl (cy 1, 768, .inl rb)), ((q 59), .inl (cy 0, 4, .inl (upd (fun _ => 0) (0) p4))), ((q 60), .inl (cy 0, 4, .inl (fun _ => 0))), ((q 61), .inl (cy 0, 4, .inl (fun _ => 0)))] H := hP
                        have hD : va_D A [((q 0), .inr (11, (mO q 0 0 0 0 0 0 0 0 (-1) 1 0 0 0 0 0 0 0 0 0))), ((q 58), .inl (cy 1, 768, .inl rb)), ((q 59), .inl (cy 0, 4, .inl (upd (fun _ => 0) (0) p4))), ((q 60), .inl (cy 0, 4, .inl (fun _ => 0))), ((q 61), .inl (cy 0, 4, .inl (fun _ => 0)))] := hD
                        refine lv_aload_n S.1 S.2.1 dX12_fault_249 rfl (lv_at hl 2 rfl) ?_
                        refine r_get S hK hP 0 11 rfl rfl inX12 60 (by decide) kw_1570 (v := .ref (q 60)) rfl dX12_fault_250 ?_
                        refine lv_aload_n S.1 S.2.1 dX12_fault_253 rfl (lv_at hl 2 rfl) ?_
                        refine r_get S hK hP 0 11 rfl rfl inX12 57 (by decide) kw_1567 (v := .int 0) rfl dX12_fault_254 ?_
                        refine lv_iload S.1 S.2.1 dX12_fault_257 (lv_at hl 8 rfl) ?_
                        refine r_iast S hK hP hD hS 3 0 rfl rfl (0) rfl (by decide) (by decide) dX12_fault_259 (fun H locs hP hD hS => ?_)
                        have hP : va_P D vwCl [((q 0), .inr (11, (mO q 0 0 0 0 0 0 0 0 (-1) 1 0 0 0 0 0 0 0 0 0))), ((q 58), .inl (cy 1, 768, .inl rb)), ((q 59), .inl (cy 0, 4, .inl (upd (fun _ => 0) (0) p4))), ((q 60), .inl (cy 0, 4, .inl (upd (fun _ => 0) (0) p5))), ((q 61), .inl (cy 0, 4, .inl (fun _ => 0)))] H := hP
                        have hD : va_D A [((q 0), .inr (11, (mO q 0 0 0 0 0 0 0 0 (-1) 1 0 0 0 0 0 0 0 0 0))), ((q 58), .inl (cy 1, 768, .inl rb)), ((q 59), .inl (cy 0, 4, .inl (upd (fun _ => 0) (0) p4))), ((q 60), .inl (cy 0, 4, .inl (upd (fun _ => 0) (0) p5))), ((q 61), .inl (cy 0, 4, .inl (fun _ => 0)))] := hD
                        refine lv_aload_n S.1 S.2.1 dX12_fault_260 rfl (lv_at hl 2 rfl) ?_
                        refine r_get S hK hP 0 11 rfl rfl inX12 61 (by decide) kw_1571 (v := .ref (q 61)) rfl dX12_fault_261 ?_
                        refine lv_aload_n S.1 S.2.1 dX12_fault_264 rfl (lv_at hl 2 rfl) ?_
                        refine r_get S hK hP 0 11 rfl rfl inX12 57 (by decide) kw_1567 (v := .int 0) rfl dX12_fault_265 ?_
                        refine lv_iload S.1 S.2.1 dX12_fault_268 (lv_at hl 9 rfl) ?_
                        refine r_iast S hK hP hD hS 4 0 rfl rfl (0) rfl (by decide) (by decide) dX12_fault_270 (fun H locs hP hD hS => ?_)
                        have hP : va_P D vwCl [((q 0), .inr (11, (mO q 0 0 0 0 0 0 0 0 (-1) 1 0 0 0 0 0 0 0 0 0))), ((q 58), .inl (cy 1, 768, .inl rb)), ((q 59), .inl (cy 0, 4, .inl (upd (fun _ => 0) (0) p4))), ((q 60), .inl (cy 0, 4, .inl (upd (fun _ => 0) (0) p5))), ((q 61), .inl (cy 0, 4, .inl (upd (fun _ => 0) (0) p6)))] H := hP
                        have hD : va_D A [((q 0), .inr (11, (mO q 0 0 0 0 0 0 0 0 (-1) 1 0 0 0 0 0 0 0 0 0))), ((q 58), .inl (cy 1, 768, .inl rb)), ((q 59), .inl (cy 0, 4, .inl (upd (fun _ => 0) (0) p4))), ((q 60), .inl (cy 0, 4, .inl (upd (fun _ => 0) (0) p5))), ((q 61), .inl (cy 0, 4, .inl (upd (fun _ => 0) (0) p6)))] := hD
                        refine lv_aload_n S.1 S.2.1 dX12_fault_271 rfl (lv_at hl 2 rfl) ?_
                        refine lv_dup S.1 S.2.1 dX12_fault_272 rfl ?_
                        refine r_get S hK hP 0 11 rfl rfl inX12 57 (by decide) kw_1567 (v := .int 0) rfl dX12_fault_273 ?_
                        refine lv_iconst (v := 1) S.1 S.2.1 dX12_fault_276 (by decide) ?_
                        refine r_iadd S dX12_fault_277 (v := 1) (by decide) ?_
                        refine r_put S hK hP hD hS 0 11 rfl rfl inX12 57 (by decide) tyX12 tyX12_ok nmX12 kw_1567 (v := .int 1) rfl rfl rfl (Nat.le_of_ble_eq_true rfl) dX12_fault_278 (fun H locs hP hD hS => ?_)
                        have hP : va_P D vwCl [((q 0), .inr (11, (mO q 0 0 0 0 0 0 0 0 (-1) 1 0 1 0 0 0 0 0 0 0))), ((q 58), .inl (cy 1, 768, .inl rb)), ((q 59), .inl (cy 0, 4, .inl (upd (fun _ => 0) (0) p4))), ((q 60), .inl (cy 0, 4, .inl (upd (fun _ => 0) (0) p5))), ((q 61), .inl (cy 0, 4, .inl (upd (fun _ => 0) (0) p6)))] H := hP
                        have hD : va_D A [((q 0), .inr (11, (mO q 0 0 0 0 0 0 0 0 (-1) 1 0 1 0 0 0 0 0 0 0))), ((q 58), .inl (cy 1, 768, .inl rb)), ((q 59), .inl (cy 0, 4, .inl (upd (fun _ => 0) (0) p4))), ((q 60), .inl (cy 0, 4, .inl (upd (fun _ => 0) (0) p5))), ((q 61), .inl (cy 0, 4, .inl (upd (fun _ => 0) (0) p6)))] := hD
                        refine lv_aload_n S.1 S.2.1 dX12_fault_281 rfl (lv_at hl 2 rfl) ?_
                        refine lv_iconst (v := 1) S.1 S.2.1 dX12_fault_282 (by decide) ?_
                        refine r_put S hK hP hD hS 0 11 rfl rfl inX12 35 (by decide) tyX12 tyX12_ok nmX12 kw_1545 (v := .int 1) rfl (by decide) (by decide) (Nat.le_of_ble_eq_true rfl) dX12_fault_283 (fun H locs hP hD hS => ?_)
                        have hP : va_P D vwCl [((q 0), .inr (11, (mO q 0 0 0 0 0 0 0 0 (-1) 1 0 1 0 0 0 0 0 0 0))), ((q 58), .inl (cy 1, 768, .inl rb)), ((q 59), .inl (cy 0, 4, .inl (upd (fun _ => 0) (0) p4))), ((q 60), .inl (cy 0, 4, .inl (upd (fun _ => 0) (0) p5))), ((q 61), .inl (cy 0, 4, .inl (upd (fun _ => 0) (0) p6)))] H := hP
                        have hD : va_D A [((q 0), .inr (11, (mO q 0 0 0 0 0 0 0 0 (-1) 1 0 1 0 0 0 0 0 0 0))), ((q 58), .inl (cy 1, 768, .inl rb)), ((q 59), .inl (cy 0, 4, .inl (upd (fun _ => 0) (0) p4))), ((q 60), .inl (cy 0, 4, .inl (upd (fun _ => 0) (0) p5))), ((q 61), .inl (cy 0, 4, .inl (upd (fun _ => 0) (0) p6)))] := hD
                        refine lv_aload_n S.1 S.2.1 dX12_fault_286 rfl (lv_at hl 2 rfl) ?_
                        refine r_get S hK hP 0 11 rfl rfl inX12 57 (by decide) kw_1567 (v := .int 1) rfl dX12_fault_287 ?_
                        refine lv_iconst (v := 1) S.1 S.2.1 dX12_fault_290 (by decide) ?_
                        refine r_isub S dX12_fault_291 (v := 0) (by decide) ?_
                        exact ci_ret (u := ()) S hr hlk rfl hK (hP.sub [] rfl) (hD.sub [] (by decide) rfl) hS (Or.inl ⟨rfl, (by omega)⟩) (by decide) (by decide) dX12_fault_292
                      · obtain ⟨rb, rfl⟩ : ∃ z, z = xs9 := ⟨_, rfl⟩
                        have hP : va_P D vwCl [((q 0), .inr (11, (mO q 0 0 0 0 0 0 0 0 (-1) 1 0 0 0 0 0 0 0 0 0))), ((q 58), .inl (cy 1, 768, .inl rb)), ((q 59), .inl (cy 0, 4, .inl (fun _ => 0))), ((q 60), .inl (cy 0, 4, .inl (fun _ => 0))), ((q 61), .inl (cy 0, 4, .inl (fun _ => 0)))] H := hP
                        have hD : va_D A [((q 0), .inr (11, (mO q 0 0 0 0 0 0 0 0 (-1) 1 0 0 0 0 0 0 0 0 0))), ((q 58), .inl (cy 1, 768, .inl rb)), ((q 59), .inl (cy 0, 4, .inl (fun _ => 0))), ((q 60), .inl (cy 0, 4, .inl (fun _ => 0))), ((q 61), .inl (cy 0, 4, .inl (fun _ => 0)))] := hD
                        have hl : lv_has ls 10 [(9, .int (nI (kb))), (8, .int 1), (0, .ref (q 0)), (1, .int (nI cx)), (2, .int (nI cl)), (3, .int p2), (4, .int (nI mn)), (5, .int p4), (6, .int p5), (7, .int p6)] := hl
                        refine lv_iload S.1 S.2.1 dX12_fault_182 (lv_at hl 0 rfl) ?_
                        refine lv_iload S.1 S.2.1 dX12_fault_184 (lv_at hl 6 rfl) ?_
                        refine r_icmp_ge S ((kb : Nat) : Int) (mn : Int) (nI_toInt (by omega)) (nI_toInt (by omega)) dX12_fault_186 (tgt := 238) (by decide) (fun c => absurd c (by omega)) (fun _ => ?_)
                        refine lv_aload_n S.1 S.2.1 dX12_fault_189 rfl (lv_at hl 2 rfl) ?_
                        refine r_get S hK hP 0 11 rfl rfl inX12 58 (by decide) kw_1568 (v := .ref (q 58)) rfl dX12_fault_190 ?_
                        refine lv_sipush (v := 192) S.1 S.2.1 dX12_fault_193 (by decide) ?_
                        refine lv_aload_n S.1 S.2.1 dX12_fault_196 rfl (lv_at hl 2 rfl) ?_
                        refine r_get S hK hP 0 11 rfl rfl inX12 57 (by decide) kw_1567 (v := .int 0) rfl dX12_fault_197 ?_
                        refine r_imul S dX12_fault_200 (v := 0) (by decide) ?_
                        refine lv_iload_n S.1 S.2.1 dX12_fault_201 rfl (lv_at hl 5 rfl) ?_
                        refine r_if_eq S z2 h2 dX12_fault_202 (tgt := 217) (by decide) (fun e_202_5 => ?_) (fun e_202_5 => ?_)
                        · refine lv_bipush (v := 96) S.1 S.2.1 dX12_fault_217 (by decide) ?_
                          refine lv_bipush (v := 12) S.1 S.2.1 dX12_fault_219 (by decide) ?_
                          refine lv_iload_n S.1 S.2.1 dX12_fault_221 rfl (lv_at hl 4 rfl) ?_
                          refine r_imul S dX12_fault_222 (v := (nI (12 * cl))) (pk_mul (12) (cl)) ?_
                          refine r_iadd S dX12_fault_223 (v := (nI (96 + (12 * cl)))) (nI_add (96) ((12 * cl))) ?_
                          refine lv_iload_n S.1 S.2.1 dX12_fault_224 rfl (lv_at hl 3 rfl) ?_
                          refine r_iadd S dX12_fault_225 (v := (nI ((96 + (12 * cl)) + cx))) (nI_add ((96 + (12 * cl))) (cx)) ?_
                          refine lv_iload S.1 S.2.1 dX12_fault_226 (lv_at hl 0 rfl) ?_
                          refine r_iadd S dX12_fault_228 (v := (nI (((96 + (12 * cl)) + cx) + (kb)))) (nI_add (((96 + (12 * cl)) + cx)) ((kb))) ?_
                          refine r_iadd S dX12_fault_229 (v := (nI (0 + (((96 + (12 * cl)) + cx) + (kb))))) (nI_add (0) ((((96 + (12 * cl)) + cx) + (kb)))) ?_
                          refine lv_iconst (v := 1) S.1 S.2.1 dX12_fault_230 (by decide) ?_
                          refine r_zast S hK hP hD hS 1 1 rfl rfl ((0 + (((96 + (12 * cl)) + cx) + (kb)))) rfl (by omega) (by decide) dX12_fault_231 (fun H locs hP hD hS => ?_)
                          have hP : va_P D vwCl [((q 0), .inr (11, (mO q 0 0 0 0 0 0 0 0 (-1) 1 0 0 0 0 0 0 0 0 0))), ((q 58), .inl (cy 1, 768, .inl (upd rb ((0 + (((96 + (12 * cl)) + cx) + (kb)))) (vp_nar .boolean 1)))), ((q 59), .inl (cy 0, 4, .inl (fun _ => 0))), ((q 60), .inl (cy 0, 4, .inl (fun _ => 0))), ((q 61), .inl (cy 0, 4, .inl (fun _ => 0)))] H := hP
                          have hD : va_D A [((q 0), .inr (11, (mO q 0 0 0 0 0 0 0 0 (-1) 1 0 0 0 0 0 0 0 0 0))), ((q 58), .inl (cy 1, 768, .inl (upd rb ((0 + (((96 + (12 * cl)) + cx) + (kb)))) (vp_nar .boolean 1)))), ((q 59), .inl (cy 0, 4, .inl (fun _ => 0))), ((q 60), .inl (cy 0, 4, .inl (fun _ => 0))), ((q 61), .inl (cy 0, 4, .inl (fun _ => 0)))] := hD
                          refine lv_iinc (v := (nI ((kb) + 1))) (lv' := [(9, .int (nI ((kb) + 1))), (8, .int 1), (0, .ref (q 0)), (1, .int (nI cx)), (2, .int (nI cl)), (3, .int p2), (4, .int (nI mn)), (5, .int p4), (6, .int p5), (7, .int p6)]) S.1 S.2.1 dX12_fault_232 hl (k := 0) rfl (nI_1 (kb)) (by decide) rfl (fun ls hl => ?_)
                          refine lv_goto (tgt := 182) S.1 S.2.1 dX12_fault_235 (by decide) ?_
                          exact ihb (upd rb ((0 + (((96 + (12 * cl)) + cx) + (kb)))) (vp_nar .boolean 1)) _ _ _ trivial (hP.sub [0, 1, 2, 3, 4] rfl) (hD.sub [0, 1, 2, 3, 4] (by decide) rfl) hS (lv_sub hl [0, 1, 2, 3, 4, 5, 6, 7, 8, 9] rfl)
                        · refine lv_bipush (v := 12) S.1 S.2.1 dX12_fault_205 (by decide) ?_
                          refine lv_iload_n S.1 S.2.1 dX12_fault_207 rfl (lv_at hl 4 rfl) ?_
                          refine lv_iload S.1 S.2.1 dX12_fault_208 (lv_at hl 0 rfl) ?_
                          refine r_iadd S dX12_fault_210 (v := (nI (cl + (kb)))) (nI_add (cl) ((kb))) ?_
                          refine r_imul S dX12_fault_211 (v := (nI (12 * (cl + (kb))))) (pk_mul (12) ((cl + (kb)))) ?_
                          refine lv_iload_n S.1 S.2.1 dX12_fault_212 rfl (lv_at hl 3 rfl) ?_
                          refine r_iadd S dX12_fault_213 (v := (nI ((12 * (cl + (kb))) + cx))) (nI_add ((12 * (cl + (kb)))) (cx)) ?_
                          refine lv_goto (tgt := 229) S.1 S.2.1 dX12_fault_214 (by decide) ?_
                          refine r_iadd S dX12_fault_229 (v := (nI (0 + ((12 * (cl + (kb))) + cx)))) (nI_add (0) (((12 * (cl + (kb))) + cx))) ?_
                          refine lv_iconst (v := 1) S.1 S.2.1 dX12_fault_230 (by decide) ?_
                          refine r_zast S hK hP hD hS 1 1 rfl rfl ((0 + ((12 * (cl + (kb))) + cx))) rfl (by omega) (by decide) dX12_fault_231 (fun H locs hP hD hS => ?_)
                          have hP : va_P D vwCl [((q 0), .inr (11, (mO q 0 0 0 0 0 0 0 0 (-1) 1 0 0 0 0 0 0 0 0 0))), ((q 58), .inl (cy 1, 768, .inl (upd rb ((0 + ((12 * (cl + (kb))) + cx))) (vp_nar .boolean 1)))), ((q 59), .inl (cy 0, 4, .inl (fun _ => 0))), ((q 60), .inl (cy 0, 4, .inl (fun _ => 0))), ((q 61), .inl (cy 0, 4, .inl (fun _ => 0)))] H := hP
                          have hD : va_D A [((q 0), .inr (11, (mO q 0 0 0 0 0 0 0 0 (-1) 1 0 0 0 0 0 0 0 0 0))), ((q 58), .inl (cy 1, 768, .inl (upd rb ((0 + ((12 * (cl + (kb))) + cx))) (vp_nar .boolean 1)))), ((q 59), .inl (cy 0, 4, .inl (fun _ => 0))), ((q 60), .inl (cy 0, 4, .inl (fun _ => 0))), ((q 61), .inl (cy 0, 4, .inl (fun _ => 0)))] := hD
                          refine lv_iinc (v := (nI ((kb) + 1))) (lv' := [(9, .int (nI ((kb) + 1))), (8, .int 1), (0, .ref (q 0)), (1, .int (nI cx)), (2, .int (nI cl)), (3, .int p2), (4, .int (nI mn)), (5, .int p4), (6, .int p5), (7, .int p6)]) S.1 S.2.1 dX12_fault_232 hl (k := 0) rfl (nI_1 (kb)) (by decide) rfl (fun ls hl => ?_)
                          refine lv_goto (tgt := 182) S.1 S.2.1 dX12_fault_235 (by decide) ?_
                          exact ihb (upd rb ((0 + ((12 * (cl + (kb))) + cx))) (vp_nar .boolean 1)) _ _ _ trivial (hP.sub [0, 1, 2, 3, 4] rfl) (hD.sub [0, 1, 2, 3, 4] (by decide) rfl) hS (lv_sub hl [0, 1, 2, 3, 4, 5, 6, 7, 8, 9] rfl)
                    · obtain ⟨ra, rfl⟩ : ∃ z, z = xs9 := ⟨_, rfl⟩
                      have hP : va_P D vwCl [((q 0), .inr (11, (mO q 0 0 0 0 0 0 0 0 (-1) 1 0 0 0 0 0 0 0 0 0))), ((q 58), .inl (cy 1, 768, .inl ra)), ((q 59), .inl (cy 0, 4, .inl (fun _ => 0))), ((q 60), .inl (cy 0, 4, .inl (fun _ => 0))), ((q 61), .inl (cy 0, 4, .inl (fun _ => 0)))] H := hP
                      have hD : va_D A [((q 0), .inr (11, (mO q 0 0 0 0 0 0 0 0 (-1) 1 0 0 0 0 0 0 0 0 0))), ((q 58), .inl (cy 1, 768, .inl ra)), ((q 59), .inl (cy 0, 4, .inl (fun _ => 0))), ((q 60), .inl (cy 0, 4, .inl (fun _ => 0))), ((q 61), .inl (cy 0, 4, .inl (fun _ => 0)))] := hD
                      have hl : lv_has ls 10 [(9, .int (nI (ka))), (8, .int 1), (0, .ref (q 0)), (1, .int (nI cx)), (2, .int (nI cl)), (3, .int p2), (4, .int (nI mn)), (5, .int p4), (6, .int p5), (7, .int p6)] := hl
                      refine lv_iload S.1 S.2.1 dX12_fault_148 (lv_at hl 0 rfl) ?_
                      refine lv_sipush (v := 192) S.1 S.2.1 dX12_fault_150 (by decide) ?_
                      refine r_icmp_ge S ((ka : Nat) : Int) 192 (nI_toInt (by omega)) rfl dX12_fault_153 (tgt := 179) (by decide) (fun c => absurd c (by omega)) (fun _ => ?_)
                      refine lv_aload_n S.1 S.2.1 dX12_fault_156 rfl (lv_at hl 2 rfl) ?_
                      refine r_get S hK hP 0 11 rfl rfl inX12 58 (by decide) kw_1568 (v := .ref (q 58)) rfl dX12_fault_157 ?_
                      refine lv_sipush (v := 192) S.1 S.2.1 dX12_fault_160 (by decide) ?_
                      refine lv_aload_n S.1 S.2.1 dX12_fault_163 rfl (lv_at hl 2 rfl) ?_
                      refine r_get S hK hP 0 11 rfl rfl inX12 57 (by decide) kw_1567 (v := .int 0) rfl dX12_fault_164 ?_
                      refine r_imul S dX12_fault_167 (v := 0) (by decide) ?_
                      refine lv_iload S.1 S.2.1 dX12_fault_168 (lv_at hl 0 rfl) ?_
                      refine r_iadd S dX12_fault_170 (v := (nI (0 + (ka)))) (nI_add (0) ((ka))) ?_
                      refine lv_iconst (v := 0) S.1 S.2.1 dX12_fault_171 (by decide) ?_
                      refine r_zast S hK hP hD hS 1 1 rfl rfl ((0 + (ka))) rfl (by omega) (by decide) dX12_fault_172 (fun H locs hP hD hS => ?_)
                      have hP : va_P D vwCl [((q 0), .inr (11, (mO q 0 0 0 0 0 0 0 0 (-1) 1 0 0 0 0 0 0 0 0 0))), ((q 58), .inl (cy 1, 768, .inl (upd ra ((0 + (ka))) (vp_nar .boolean 0)))), ((q 59), .inl (cy 0, 4, .inl (fun _ => 0))), ((q 60), .inl (cy 0, 4, .inl (fun _ => 0))), ((q 61), .inl (cy 0, 4, .inl (fun _ => 0)))] H := hP
                      have hD : va_D A [((q 0), .inr (11, (mO q 0 0 0 0 0 0 0 0 (-1) 1 0 0 0 0 0 0 0 0 0))), ((q 58), .inl (cy 1, 768, .inl (upd ra ((0 + (ka))) (vp_nar .boolean 0)))), ((q 59), .inl (cy 0, 4, .inl (fun _ => 0))), ((q 60), .inl (cy 0, 4, .inl (fun _ => 0))), ((q 61), .inl (cy 0, 4, .inl (fun _ => 0)))] := hD
                      refine lv_iinc (v := (nI ((ka) + 1))) (lv' := [(9, .int (nI ((ka) + 1))), (8, .int 1), (0, .ref (q 0)), (1, .int (nI cx)), (2, .int (nI cl)), (3, .int p2), (4, .int (nI mn)), (5, .int p4), (6, .int p5), (7, .int p6)]) S.1 S.2.1 dX12_fault_173 hl (k := 0) rfl (nI_1 (ka)) (by decide) rfl (fun ls hl => ?_)
                      refine lv_goto (tgt := 148) S.1 S.2.1 dX12_fault_176 (by decide) ?_
                      exact iha (upd ra ((0 + (ka))) (vp_nar .boolean 0)) _ _ _ trivial (hP.sub [0, 1, 2, 3, 4] rfl) (hD.sub [0, 1, 2, 3, 4] (by decide) rfl) hS (lv_sub hl [0, 1, 2, 3, 4, 5, 6, 7, 8, 9] rfl)
              · refine lv_iload_n S.1 S.2.1 dX12_fault_94 rfl (lv_at hl 2 rfl) ?_
                refine lv_iconst (v := 1) S.1 S.2.1 dX12_fault_95 (by decide) ?_
                refine r_iadd S dX12_fault_96 (v := (p0 + 1)) rfl ?_
                refine lv_bipush (v := 12) S.1 S.2.1 dX12_fault_97 (by decide) ?_
                refine r_icmp_ge S (z0 + 1) 12 (zadd (x := p0) (y := 1) (X := z0) (Y := 1) h0 rfl (by omega) (by omega)) rfl dX12_fault_99 (tgt := 135) (by decide) (fun e_99_3 => ?_) (fun e_99_3 => ?_)
                · refine lv_iconst (v := 0) S.1 S.2.1 dX12_fault_135 (by decide) ?_
                  refine lv_istore (lv' := [(8, .int 0), (0, .ref (q 0)), (1, .int p0), (2, .int p1), (3, .int p2), (4, .int p3), (5, .int p4), (6, .int p5), (7, .int p6)]) S.1 S.2.1 dX12_fault_136 hl (by decide) rfl (fun ls hl => ?_)
                  refine lv_iload S.1 S.2.1 dX12_fault_138 (lv_at hl 0 rfl) ?_
                  refine r_if_ne S 0 rfl dX12_fault_140 (tgt := 145) (by decide) (fun c => absurd c (by decide)) (fun _ => ?_)
                  refine lv_iconst (v := (-1)) S.1 S.2.1 dX12_fault_143 (by decide) ?_
                  exact ci_ret (u := ()) S hr hlk rfl hK (hP.sub [] rfl) (hD.sub [] (by decide) rfl) hS (Or.inr (⟨rfl, (by omega)⟩)) (by decide) (by decide) dX12_fault_144
                · refine lv_iload_n S.1 S.2.1 dX12_fault_102 rfl (lv_at hl 3 rfl) ?_
                  refine lv_iload S.1 S.2.1 dX12_fault_103 (lv_at hl 5 rfl) ?_
                  refine r_iadd S dX12_fault_105 (v := (p1 + p3)) rfl ?_
                  refine lv_bipush (v := 8) S.1 S.2.1 dX12_fault_106 (by decide) ?_
                  refine r_icmp_gt S (z1 + z3) 8 (zadd (x := p1) (y := p3) (X := z1) (Y := z3) h1 h3 (by omega) (by omega)) rfl dX12_fault_108 (tgt := 135) (by decide) (fun e_108_4 => ?_) (fun e_108_4 => ?_)
                  · refine lv_iconst (v := 0) S.1 S.2.1 dX12_fault_135 (by decide) ?_
                    refine lv_istore (lv' := [(8, .int 0), (0, .ref (q 0)), (1, .int p0), (2, .int p1), (3, .int p2), (4, .int p3), (5, .int p4), (6, .int p5), (7, .int p6)]) S.1 S.2.1 dX12_fault_136 hl (by decide) rfl (fun ls hl => ?_)
                    refine lv_iload S.1 S.2.1 dX12_fault_138 (lv_at hl 0 rfl) ?_
                    refine r_if_ne S 0 rfl dX12_fault_140 (tgt := 145) (by decide) (fun c => absurd c (by decide)) (fun _ => ?_)
                    refine lv_iconst (v := (-1)) S.1 S.2.1 dX12_fault_143 (by decide) ?_
                    exact ci_ret (u := ()) S hr hlk rfl hK (hP.sub [] rfl) (hD.sub [] (by decide) rfl) hS (Or.inr (⟨rfl, (by omega)⟩)) (by decide) (by decide) dX12_fault_144
                  · refine lv_goto (tgt := 131) S.1 S.2.1 dX12_fault_111 (by decide) ?_
                    refine lv_iconst (v := 1) S.1 S.2.1 dX12_fault_131 (by decide) ?_
                    refine lv_goto (tgt := 136) S.1 S.2.1 dX12_fault_132 (by decide) ?_
                    refine lv_istore (lv' := [(8, .int 1), (0, .ref (q 0)), (1, .int p0), (2, .int p1), (3, .int p2), (4, .int p3), (5, .int p4), (6, .int p5), (7, .int p6)]) S.1 S.2.1 dX12_fault_136 hl (by decide) rfl (fun ls hl => ?_)
                    refine lv_iload S.1 S.2.1 dX12_fault_138 (lv_at hl 0 rfl) ?_
                    refine r_if_ne S 1 rfl dX12_fault_140 (tgt := 145) (by decide) (fun _ => ?_) (fun c => absurd c (by decide))
                    obtain ⟨cx, hcx, qcx, zcx⟩ := i_nat 12 h0 (by omega) (by omega)
                    have hl : lv_has ls 10 [(8, .int 1), (0, .ref (q 0)), (1, .int (nI cx)), (2, .int p1), (3, .int p2), (4, .int p3), (5, .int p4), (6, .int p5), (7, .int p6)] := by rw [← qcx]; exact hl
                    obtain ⟨cl, hcl, qcl, zcl⟩ := i_nat 8 h1 (by omega) (by omega)
                    have hl : lv_has ls 10 [(8, .int 1), (0, .ref (q 0)), (1, .int (nI cx)), (2, .int (nI cl)), (3, .int p2), (4, .int p3), (5, .int p4), (6, .int p5), (7, .int p6)] := by rw [← qcl]; exact hl
                    obtain ⟨mn, hmn, qmn, zmn⟩ := i_nat 13 h3 (by omega) (by omega)
                    have hl : lv_has ls 10 [(8, .int 1), (0, .ref (q 0)), (1, .int (nI cx)), (2, .int (nI cl)), (3, .int p2), (4, .int (nI mn)), (5, .int p4), (6, .int p5), (7, .int p6)] := by rw [← qmn]; exact hl
                    refine lv_iconst (v := 0) S.1 S.2.1 dX12_fault_145 (by decide) ?_
                    refine lv_istore (lv' := [(9, .int 0), (8, .int 1), (0, .ref (q 0)), (1, .int (nI cx)), (2, .int (nI cl)), (3, .int p2), (4, .int (nI mn)), (5, .int p4), (6, .int p5), (7, .int p6)]) S.1 S.2.1 dX12_fault_146 hl (by decide) rfl (fun ls hl => ?_)
                    refine loopN (σ := (Nat → Int32)) 148 192 (fun ka xs9 => [((q 0), .inr (11, (mO q 0 0 0 0 0 0 0 0 (-1) 1 0 0 0 0 0 0 0 0 0))), ((q 58), .inl (cy 1, 768, .inl (xs9))), ((q 59), .inl (cy 0, 4, .inl (fun _ => 0))), ((q 60), .inl (cy 0, 4, .inl (fun _ => 0))), ((q 61), .inl (cy 0, 4, .inl (fun _ => 0)))]) (fun ka xs9 => [(9, .int (nI (ka))), (8, .int 1), (0, .ref (q 0)), (1, .int (nI cx)), (2, .int (nI cl)), (3, .int p2), (4, .int (nI mn)), (5, .int p4), (6, .int p5), (7, .int p6)]) (fun ka xs9 => True) (fun xs9 hJa H locs ls hP hD hS hl => ?_) (fun ka xs9 hka hJa H locs ls hP hD hS hl iha => ?_) (fun _ => 0) trivial (hP.sub [0, 1, 2, 3, 4] rfl) (hD.sub [0, 1, 2, 3, 4] (by decide) rfl) hS (lv_sub hl [0, 1, 2, 3, 4, 5, 6, 7, 8, 9] rfl)
                    · obtain ⟨ra, rfl⟩ : ∃ z, z = xs9 := ⟨_, rfl⟩
                      have hP : va_P D vwCl [((q 0), .inr (11, (mO q 0 0 0 0 0 0 0 0 (-1) 1 0 0 0 0 0 0 0 0 0))), ((q 58), .inl (cy 1, 768, .inl ra)), ((q 59), .inl (cy 0, 4, .inl (fun _ => 0))), ((q 60), .inl (cy 0, 4, .inl (fun _ => 0))), ((q 61), .inl (cy 0, 4, .inl (fun _ => 0)))] H := hP
                      have hD : va_D A [((q 0), .inr (11, (mO q 0 0 0 0 0 0 0 0 (-1) 1 0 0 0 0 0 0 0 0 0))), ((q 58), .inl (cy 1, 768, .inl ra)), ((q 59), .inl (cy 0, 4, .inl (fun _ => 0))), ((q 60), .inl (cy 0, 4, .inl (fun _ => 0))), ((q 61), .inl (cy 0, 4, .inl (fun _ => 0)))] := hD
                      have hl : lv_has ls 10 [(9, .int 192), (8, .int 1), (0, .ref (q 0)), (1, .int (nI cx)), (2, .int (nI cl)), (3, .int p2), (4, .int (nI mn)), (5, .int p4), (6, .int p5), (7, .int p6)] := hl
                      refine lv_iload S.1 S.2.1 dX12_fault_148 (lv_at hl 0 rfl) ?_
                      refine lv_sipush (v := 192) S.1 S.2.1 dX12_fault_150 (by decide) ?_
                      refine r_icmp_ge S 192 192 rfl rfl dX12_fault_153 (tgt := 179) (by decide) (fun _ => ?_) (fun c => absurd c (by decide))
                      refine lv_iconst (v := 0) S.1 S.2.1 dX12_fault_179 (by decide) ?_
                      refine lv_istore (lv' := [(9, .int 0), (8, .int 1), (0, .ref (q 0)), (1, .int (nI cx)), (2, .int (nI cl)), (3, .int p2), (4, .int (nI mn)), (5, .int p4), (6, .int p5), (7, .int p6)]) S.1 S.2.1 dX12_fault_180 hl (by decide) rfl (fun ls hl => ?_)
                      refine loopN (σ := (Nat → Int32)) 182 mn (fun kb xs9 => [((q 0), .inr (11, (mO q 0 0 0 0 0 0 0 0 (-1) 1 0 0 0 0 0 0 0 0 0))), ((q 58), .inl (cy 1, 768, .inl (xs9))), ((q 59), .inl (cy 0, 4, .inl (fun _ => 0))), ((q 60), .inl (cy 0, 4, .inl (fun _ => 0))), ((q 61), .inl (cy 0, 4, .inl (fun _ => 0)))]) (fun kb xs9 => [(9, .int (nI (kb))), (8, .int 1), (0, .ref (q 0)), (1, .int (nI cx)), (2, .int (nI cl)), (3, .int p2), (4, .int (nI mn)), (5, .int p4), (6, .int p5), (7, .int p6)]) (fun kb xs9 => True) (fun xs9 hJb H locs ls hP hD hS hl => ?_) (fun kb xs9 hkb hJb H locs ls hP hD hS hl ihb => ?_) ra trivial (hP.sub [0, 1, 2, 3, 4] rfl) (hD.sub [0, 1, 2, 3, 4] (by decide) rfl) hS (lv_sub hl [0, 1, 2, 3, 4, 5, 6, 7, 8, 9] rfl)
                      · obtain ⟨rb, rfl⟩ : ∃ z, z = xs9 := ⟨_, rfl⟩
                        have hP : va_P D vwCl [((q 0), .inr (11, (mO q 0 0 0 0 0 0 0 0 (-1) 1 0 0 0 0 0 0 0 0 0))), ((q 58), .inl (cy 1, 768, .inl rb)), ((q 59), .inl (cy 0, 4, .inl (fun _ => 0))), ((q 60), .inl (cy 0, 4, .inl (fun _ => 0))), ((q 61), .inl (cy 0, 4, .inl (fun _ => 0)))] H := hP
                        have hD : va_D A [((q 0), .inr (11, (mO q 0 0 0 0 0 0 0 0 (-1) 1 0 0 0 0 0 0 0 0 0))), ((q 58), .inl (cy 1, 768, .inl rb)), ((q 59), .inl (cy 0, 4, .inl (fun _ => 0))), ((q 60), .inl (cy 0, 4, .inl (fun _ => 0))), ((q 61), .inl (cy 0, 4, .inl (fun _ => 0)))] := hD
                        have hl : lv_has ls 10 [(9, .int (nI (mn))), (8, .int 1), (0, .ref (q 0)), (1, .int (nI cx)), (2, .int (nI cl)), (3, .int p2), (4, .int (nI mn)), (5, .int p4), (6, .int p5), (7, .int p6)] := hl
                        refine lv_iload S.1 S.2.1 dX12_fault_182 (lv_at hl 0 rfl) ?_
                        refine lv_iload S.1 S.2.1 dX12_fault_184 (lv_at hl 6 rfl) ?_
                        refine r_icmp_ge S ((mn : Nat) : Int) (mn : Int) (nI_toInt (by omega)) (nI_toInt (by omega)) dX12_fault_186 (tgt := 238) (by decide) (fun _ => ?_) (fun c => absurd c (by omega))
                        refine lv_aload_n S.1 S.2.1 dX12_fault_238 rfl (lv_at hl 2 rfl) ?_
                        refine r_get S hK hP 0 11 rfl rfl inX12 59 (by decide) kw_1569 (v := .ref (q 59)) rfl dX12_fault_239 ?_
                        refine lv_aload_n S.1 S.2.1 dX12_fault_242 rfl (lv_at hl 2 rfl) ?_
                        refine r_get S hK hP 0 11 rfl rfl inX12 57 (by decide) kw_1567 (v := .int 0) rfl dX12_fault_243 ?_
                        refine lv_iload S.1 S.2.1 dX12_fault_246 (lv_at hl 7 rfl) ?_
                        refine r_iast S hK hP hD hS 2 0 rfl rfl (0) rfl (by decide) (by decide) dX12_fault_248 (fun H locs hP hD hS => ?_)
                        have hP : va_P D vwCl [((q 0), .inr (11, (mO q 0 0 0 0 0 0 0 0 (-1) 1 0 0 0 0 0 0 0 0 0))), ((q 58), .inl (cy 1, 768, .inl rb)), ((q 59), .inl (cy 0, 4, .inl (upd (fun _ => 0) (0) p4))), ((q 60), .inl (cy 0, 4, .inl (fun _ => 0))), ((q 61), .inl (cy 0, 4, .inl (fun _ => 0)))] H := hP
                        have hD : va_D A [((q 0), .inr (11, (mO q 0 0 0 0 0 0 0 0 (-1) 1 0 0 0 0 0 0 0 0 0))), ((q 58), .inl (cy 1, 768, .inl rb)), ((q 59), .inl (cy 0, 4, .inl (upd (fun _ => 0) (0) p4))), ((q 60), .inl (cy 0, 4, .inl (fun _ => 0))), ((q 61), .inl (cy 0, 4, .inl (fun _ => 0)))] := hD
                        refine lv_aload_n S.1 S.2.1 dX12_fault_249 rfl (lv_at hl 2 rfl) ?_
                        refine r_get S hK hP 0 11 rfl rfl inX12 60 (by decide) kw_1570 (v := .ref (q 60)) rfl dX12_fault_250 ?_
                        refine lv_aload_n S.1 S.2.1 dX12_fault_253 rfl (lv_at hl 2 rfl) ?_
                        refine r_get S hK hP 0 11 rfl rfl inX12 57 (by decide) kw_1567 (v := .int 0) rfl dX12_fault_254 ?_
                        refine lv_iload S.1 S.2.1 dX12_fault_257 (lv_at hl 8 rfl) ?_
                        refine r_iast S hK hP hD hS 3 0 rfl rfl (0) rfl (by decide) (by decide) dX12_fault_259 (fun H locs hP hD hS => ?_)
                        have hP : va_P D vwCl [((q 0), .inr (11, (mO q 0 0 0 0 0 0 0 0 (-1) 1 0 0 0 0 0 0 0 0 0))), ((q 58), .inl (cy 1, 768, .inl rb)), ((q 59), .inl (cy 0, 4, .inl (upd (fun _ => 0) (0) p4))), ((q 60), .inl (cy 0, 4, .inl (upd (fun _ => 0) (0) p5))), ((q 61), .inl (cy 0, 4, .inl (fun _ => 0)))] H := hP
                        have hD : va_D A [((q 0), .inr (11, (mO q 0 0 0 0 0 0 0 0 (-1) 1 0 0 0 0 0 0 0 0 0))), ((q 58), .inl (cy 1, 768, .inl rb)), ((q 59), .inl (cy 0, 4, .inl (upd (fun _ => 0) (0) p4))), ((q 60), .inl (cy 0, 4, .inl (upd (fun _ => 0) (0) p5))), ((q 61), .inl (cy 0, 4, .inl (fun _ => 0)))] := hD
                        refine lv_aload_n S.1 S.2.1 dX12_fault_260 rfl (lv_at hl 2 rfl) ?_
                        refine r_get S hK hP 0 11 rfl rfl inX12 61 (by decide) kw_1571 (v := .ref (q 61)) rfl dX12_fault_261 ?_
                        refine lv_aload_n S.1 S.2.1 dX12_fault_264 rfl (lv_at hl 2 rfl) ?_
                        refine r_get S hK hP 0 11 rfl rfl inX12 57 (by decide) kw_1567 (v := .int 0) rfl dX12_fault_265 ?_
                        refine lv_iload S.1 S.2.1 dX12_fault_268 (lv_at hl 9 rfl) ?_
                        refine r_iast S hK hP hD hS 4 0 rfl rfl (0) rfl (by decide) (by decide) dX12_fault_270 (fun H locs hP hD hS => ?_)
                        have hP : va_P D vwCl [((q 0), .inr (11, (mO q 0 0 0 0 0 0 0 0 (-1) 1 0 0 0 0 0 0 0 0 0))), ((q 58), .inl (cy 1, 768, .inl rb)), ((q 59), .inl (cy 0, 4, .inl (upd (fun _ => 0) (0) p4))), ((q 60), .inl (cy 0, 4, .inl (upd (fun _ => 0) (0) p5))), ((q 61), .inl (cy 0, 4, .inl (upd (fun _ => 0) (0) p6)))] H := hP
                        have hD : va_D A [((q 0), .inr (11, (mO q 0 0 0 0 0 0 0 0 (-1) 1 0 0 0 0 0 0 0 0 0))), ((q 58), .inl (cy 1, 768, .inl rb)), ((q 59), .inl (cy 0, 4, .inl (upd (fun _ => 0) (0) p4))), ((q 60), .inl (cy 0, 4, .inl (upd (fun _ => 0) (0) p5))), ((q 61), .inl (cy 0, 4, .inl (upd (fun _ => 0) (0) p6)))] := hD
                        refine lv_aload_n S.1 S.2.1 dX12_fault_271 rfl (lv_at hl 2 rfl) ?_
                        refine lv_dup S.1 S.2.1 dX12_fault_272 rfl ?_
                        refine r_get S hK hP 0 11 rfl rfl inX12 57 (by decide) kw_1567 (v := .int 0) rfl dX12_fault_273 ?_
                        refine lv_iconst (v := 1) S.1 S.2.1 dX12_fault_276 (by decide) ?_
                        refine r_iadd S dX12_fault_277 (v := 1) (by decide) ?_
                        refine r_put S hK hP hD hS 0 11 rfl rfl inX12 57 (by decide) tyX12 tyX12_ok nmX12 kw_1567 (v := .int 1) rfl rfl rfl (Nat.le_of_ble_eq_true rfl) dX12_fault_278 (fun H locs hP hD hS => ?_)
                        have hP : va_P D vwCl [((q 0), .inr (11, (mO q 0 0 0 0 0 0 0 0 (-1) 1 0 1 0 0 0 0 0 0 0))), ((q 58), .inl (cy 1, 768, .inl rb)), ((q 59), .inl (cy 0, 4, .inl (upd (fun _ => 0) (0) p4))), ((q 60), .inl (cy 0, 4, .inl (upd (fun _ => 0) (0) p5))), ((q 61), .inl (cy 0, 4, .inl (upd (fun _ => 0) (0) p6)))] H := hP
                        have hD : va_D A [((q 0), .inr (11, (mO q 0 0 0 0 0 0 0 0 (-1) 1 0 1 0 0 0 0 0 0 0))), ((q 58), .inl (cy 1, 768, .inl rb)), ((q 59), .inl (cy 0, 4, .inl (upd (fun _ => 0) (0) p4))), ((q 60), .inl (cy 0, 4, .inl (upd (fun _ => 0) (0) p5))), ((q 61), .inl (cy 0, 4, .inl (upd (fun _ => 0) (0) p6)))] := hD
                        refine lv_aload_n S.1 S.2.1 dX12_fault_281 rfl (lv_at hl 2 rfl) ?_
                        refine lv_iconst (v := 1) S.1 S.2.1 dX12_fault_282 (by decide) ?_
                        refine r_put S hK hP hD hS 0 11 rfl rfl inX12 35 (by decide) tyX12 tyX12_ok nmX12 kw_1545 (v := .int 1) rfl (by decide) (by decide) (Nat.le_of_ble_eq_true rfl) dX12_fault_283 (fun H locs hP hD hS => ?_)
                        have hP : va_P D vwCl [((q 0), .inr (11, (mO q 0 0 0 0 0 0 0 0 (-1) 1 0 1 0 0 0 0 0 0 0))), ((q 58), .inl (cy 1, 768, .inl rb)), ((q 59), .inl (cy 0, 4, .inl (upd (fun _ => 0) (0) p4))), ((q 60), .inl (cy 0, 4, .inl (upd (fun _ => 0) (0) p5))), ((q 61), .inl (cy 0, 4, .inl (upd (fun _ => 0) (0) p6)))] H := hP
                        have hD : va_D A [((q 0), .inr (11, (mO q 0 0 0 0 0 0 0 0 (-1) 1 0 1 0 0 0 0 0 0 0))), ((q 58), .inl (cy 1, 768, .inl rb)), ((q 59), .inl (cy 0, 4, .inl (upd (fun _ => 0) (0) p4))), ((q 60), .inl (cy 0, 4, .inl (upd (fun _ => 0) (0) p5))), ((q 61), .inl (cy 0, 4, .inl (upd (fun _ => 0) (0) p6)))] := hD
                        refine lv_aload_n S.1 S.2.1 dX12_fault_286 rfl (lv_at hl 2 rfl) ?_
                        refine r_get S hK hP 0 11 rfl rfl inX12 57 (by decide) kw_1567 (v := .int 1) rfl dX12_fault_287 ?_
                        refine lv_iconst (v := 1) S.1 S.2.1 dX12_fault_290 (by decide) ?_
                        refine r_isub S dX12_fault_291 (v := 0) (by decide) ?_
                        exact ci_ret (u := ()) S hr hlk rfl hK (hP.sub [] rfl) (hD.sub [] (by decide) rfl) hS (Or.inl ⟨rfl, (by omega)⟩) (by decide) (by decide) dX12_fault_292
                      · obtain ⟨rb, rfl⟩ : ∃ z, z = xs9 := ⟨_, rfl⟩
                        have hP : va_P D vwCl [((q 0), .inr (11, (mO q 0 0 0 0 0 0 0 0 (-1) 1 0 0 0 0 0 0 0 0 0))), ((q 58), .inl (cy 1, 768, .inl rb)), ((q 59), .inl (cy 0, 4, .inl (fun _ => 0))), ((q 60), .inl (cy 0, 4, .inl (fun _ => 0))), ((q 61), .inl (cy 0, 4, .inl (fun _ => 0)))] H := hP
                        have hD : va_D A [((q 0), .inr (11, (mO q 0 0 0 0 0 0 0 0 (-1) 1 0 0 0 0 0 0 0 0 0))), ((q 58), .inl (cy 1, 768, .inl rb)), ((q 59), .inl (cy 0, 4, .inl (fun _ => 0))), ((q 60), .inl (cy 0, 4, .inl (fun _ => 0))), ((q 61), .inl (cy 0, 4, .inl (fun _ => 0)))] := hD
                        have hl : lv_has ls 10 [(9, .int (nI (kb))), (8, .int 1), (0, .ref (q 0)), (1, .int (nI cx)), (2, .int (nI cl)), (3, .int p2), (4, .int (nI mn)), (5, .int p4), (6, .int p5), (7, .int p6)] := hl
                        refine lv_iload S.1 S.2.1 dX12_fault_182 (lv_at hl 0 rfl) ?_
                        refine lv_iload S.1 S.2.1 dX12_fault_184 (lv_at hl 6 rfl) ?_
                        refine r_icmp_ge S ((kb : Nat) : Int) (mn : Int) (nI_toInt (by omega)) (nI_toInt (by omega)) dX12_fault_186 (tgt := 238) (by decide) (fun c => absurd c (by omega)) (fun _ => ?_)
                        refine lv_aload_n S.1 S.2.1 dX12_fault_189 rfl (lv_at hl 2 rfl) ?_
                        refine r_get S hK hP 0 11 rfl rfl inX12 58 (by decide) kw_1568 (v := .ref (q 58)) rfl dX12_fault_190 ?_
                        refine lv_sipush (v := 192) S.1 S.2.1 dX12_fault_193 (by decide) ?_
                        refine lv_aload_n S.1 S.2.1 dX12_fault_196 rfl (lv_at hl 2 rfl) ?_
                        refine r_get S hK hP 0 11 rfl rfl inX12 57 (by decide) kw_1567 (v := .int 0) rfl dX12_fault_197 ?_
                        refine r_imul S dX12_fault_200 (v := 0) (by decide) ?_
                        refine lv_iload_n S.1 S.2.1 dX12_fault_201 rfl (lv_at hl 5 rfl) ?_
                        refine r_if_eq S z2 h2 dX12_fault_202 (tgt := 217) (by decide) (fun e_202_5 => ?_) (fun e_202_5 => ?_)
                        · refine lv_bipush (v := 96) S.1 S.2.1 dX12_fault_217 (by decide) ?_
                          refine lv_bipush (v := 12) S.1 S.2.1 dX12_fault_219 (by decide) ?_
                          refine lv_iload_n S.1 S.2.1 dX12_fault_221 rfl (lv_at hl 4 rfl) ?_
                          refine r_imul S dX12_fault_222 (v := (nI (12 * cl))) (pk_mul (12) (cl)) ?_
                          refine r_iadd S dX12_fault_223 (v := (nI (96 + (12 * cl)))) (nI_add (96) ((12 * cl))) ?_
                          refine lv_iload_n S.1 S.2.1 dX12_fault_224 rfl (lv_at hl 3 rfl) ?_
                          refine r_iadd S dX12_fault_225 (v := (nI ((96 + (12 * cl)) + cx))) (nI_add ((96 + (12 * cl))) (cx)) ?_
                          refine lv_iload S.1 S.2.1 dX12_fault_226 (lv_at hl 0 rfl) ?_
                          refine r_iadd S dX12_fault_228 (v := (nI (((96 + (12 * cl)) + cx) + (kb)))) (nI_add (((96 + (12 * cl)) + cx)) ((kb))) ?_
                          refine r_iadd S dX12_fault_229 (v := (nI (0 + (((96 + (12 * cl)) + cx) + (kb))))) (nI_add (0) ((((96 + (12 * cl)) + cx) + (kb)))) ?_
                          refine lv_iconst (v := 1) S.1 S.2.1 dX12_fault_230 (by decide) ?_
                          refine r_zast S hK hP hD hS 1 1 rfl rfl ((0 + (((96 + (12 * cl)) + cx) + (kb)))) rfl (by omega) (by decide) dX12_fault_231 (fun H locs hP hD hS => ?_)
                          have hP : va_P D vwCl [((q 0), .inr (11, (mO q 0 0 0 0 0 0 0 0 (-1) 1 0 0 0 0 0 0 0 0 0))), ((q 58), .inl (cy 1, 768, .inl (upd rb ((0 + (((96 + (12 * cl)) + cx) + (kb)))) (vp_nar .boolean 1)))), ((q 59), .inl (cy 0, 4, .inl (fun _ => 0))), ((q 60), .inl (cy 0, 4, .inl (fun _ => 0))), ((q 61), .inl (cy 0, 4, .inl (fun _ => 0)))] H := hP
                          have hD : va_D A [((q 0), .inr (11, (mO q 0 0 0 0 0 0 0 0 (-1) 1 0 0 0 0 0 0 0 0 0))), ((q 58), .inl (cy 1, 768, .inl (upd rb ((0 + (((96 + (12 * cl)) + cx) + (kb)))) (vp_nar .boolean 1)))), ((q 59), .inl (cy 0, 4, .inl (fun _ => 0))), ((q 60), .inl (cy 0, 4, .inl (fun _ => 0))), ((q 61), .inl (cy 0, 4, .inl (fun _ => 0)))] := hD
                          refine lv_iinc (v := (nI ((kb) + 1))) (lv' := [(9, .int (nI ((kb) + 1))), (8, .int 1), (0, .ref (q 0)), (1, .int (nI cx)), (2, .int (nI cl)), (3, .int p2), (4, .int (nI mn)), (5, .int p4), (6, .int p5), (7, .int p6)]) S.1 S.2.1 dX12_fault_232 hl (k := 0) rfl (nI_1 (kb)) (by decide) rfl (fun ls hl => ?_)
                          refine lv_goto (tgt := 182) S.1 S.2.1 dX12_fault_235 (by decide) ?_
                          exact ihb (upd rb ((0 + (((96 + (12 * cl)) + cx) + (kb)))) (vp_nar .boolean 1)) _ _ _ trivial (hP.sub [0, 1, 2, 3, 4] rfl) (hD.sub [0, 1, 2, 3, 4] (by decide) rfl) hS (lv_sub hl [0, 1, 2, 3, 4, 5, 6, 7, 8, 9] rfl)
                        · refine lv_bipush (v := 12) S.1 S.2.1 dX12_fault_205 (by decide) ?_
                          refine lv_iload_n S.1 S.2.1 dX12_fault_207 rfl (lv_at hl 4 rfl) ?_
                          refine lv_iload S.1 S.2.1 dX12_fault_208 (lv_at hl 0 rfl) ?_
                          refine r_iadd S dX12_fault_210 (v := (nI (cl + (kb)))) (nI_add (cl) ((kb))) ?_
                          refine r_imul S dX12_fault_211 (v := (nI (12 * (cl + (kb))))) (pk_mul (12) ((cl + (kb)))) ?_
                          refine lv_iload_n S.1 S.2.1 dX12_fault_212 rfl (lv_at hl 3 rfl) ?_
                          refine r_iadd S dX12_fault_213 (v := (nI ((12 * (cl + (kb))) + cx))) (nI_add ((12 * (cl + (kb)))) (cx)) ?_
                          refine lv_goto (tgt := 229) S.1 S.2.1 dX12_fault_214 (by decide) ?_
                          refine r_iadd S dX12_fault_229 (v := (nI (0 + ((12 * (cl + (kb))) + cx)))) (nI_add (0) (((12 * (cl + (kb))) + cx))) ?_
                          refine lv_iconst (v := 1) S.1 S.2.1 dX12_fault_230 (by decide) ?_
                          refine r_zast S hK hP hD hS 1 1 rfl rfl ((0 + ((12 * (cl + (kb))) + cx))) rfl (by omega) (by decide) dX12_fault_231 (fun H locs hP hD hS => ?_)
                          have hP : va_P D vwCl [((q 0), .inr (11, (mO q 0 0 0 0 0 0 0 0 (-1) 1 0 0 0 0 0 0 0 0 0))), ((q 58), .inl (cy 1, 768, .inl (upd rb ((0 + ((12 * (cl + (kb))) + cx))) (vp_nar .boolean 1)))), ((q 59), .inl (cy 0, 4, .inl (fun _ => 0))), ((q 60), .inl (cy 0, 4, .inl (fun _ => 0))), ((q 61), .inl (cy 0, 4, .inl (fun _ => 0)))] H := hP
                          have hD : va_D A [((q 0), .inr (11, (mO q 0 0 0 0 0 0 0 0 (-1) 1 0 0 0 0 0 0 0 0 0))), ((q 58), .inl (cy 1, 768, .inl (upd rb ((0 + ((12 * (cl + (kb))) + cx))) (vp_nar .boolean 1)))), ((q 59), .inl (cy 0, 4, .inl (fun _ => 0))), ((q 60), .inl (cy 0, 4, .inl (fun _ => 0))), ((q 61), .inl (cy 0, 4, .inl (fun _ => 0)))] := hD
                          refine lv_iinc (v := (nI ((kb) + 1))) (lv' := [(9, .int (nI ((kb) + 1))), (8, .int 1), (0, .ref (q 0)), (1, .int (nI cx)), (2, .int (nI cl)), (3, .int p2), (4, .int (nI mn)), (5, .int p4), (6, .int p5), (7, .int p6)]) S.1 S.2.1 dX12_fault_232 hl (k := 0) rfl (nI_1 (kb)) (by decide) rfl (fun ls hl => ?_)
                          refine lv_goto (tgt := 182) S.1 S.2.1 dX12_fault_235 (by decide) ?_
                          exact ihb (upd rb ((0 + ((12 * (cl + (kb))) + cx))) (vp_nar .boolean 1)) _ _ _ trivial (hP.sub [0, 1, 2, 3, 4] rfl) (hD.sub [0, 1, 2, 3, 4] (by decide) rfl) hS (lv_sub hl [0, 1, 2, 3, 4, 5, 6, 7, 8, 9] rfl)
                    · obtain ⟨ra, rfl⟩ : ∃ z, z = xs9 := ⟨_, rfl⟩
                      have hP : va_P D vwCl [((q 0), .inr (11, (mO q 0 0 0 0 0 0 0 0 (-1) 1 0 0 0 0 0 0 0 0 0))), ((q 58), .inl (cy 1, 768, .inl ra)), ((q 59), .inl (cy 0, 4, .inl (fun _ => 0))), ((q 60), .inl (cy 0, 4, .inl (fun _ => 0))), ((q 61), .inl (cy 0, 4, .inl (fun _ => 0)))] H := hP
                      have hD : va_D A [((q 0), .inr (11, (mO q 0 0 0 0 0 0 0 0 (-1) 1 0 0 0 0 0 0 0 0 0))), ((q 58), .inl (cy 1, 768, .inl ra)), ((q 59), .inl (cy 0, 4, .inl (fun _ => 0))), ((q 60), .inl (cy 0, 4, .inl (fun _ => 0))), ((q 61), .inl (cy 0, 4, .inl (fun _ => 0)))] := hD
                      have hl : lv_has ls 10 [(9, .int (nI (ka))), (8, .int 1), (0, .ref (q 0)), (1, .int (nI cx)), (2, .int (nI cl)), (3, .int p2), (4, .int (nI mn)), (5, .int p4), (6, .int p5), (7, .int p6)] := hl
                      refine lv_iload S.1 S.2.1 dX12_fault_148 (lv_at hl 0 rfl) ?_
                      refine lv_sipush (v := 192) S.1 S.2.1 dX12_fault_150 (by decide) ?_
                      refine r_icmp_ge S ((ka : Nat) : Int) 192 (nI_toInt (by omega)) rfl dX12_fault_153 (tgt := 179) (by decide) (fun c => absurd c (by omega)) (fun _ => ?_)
                      refine lv_aload_n S.1 S.2.1 dX12_fault_156 rfl (lv_at hl 2 rfl) ?_
                      refine r_get S hK hP 0 11 rfl rfl inX12 58 (by decide) kw_1568 (v := .ref (q 58)) rfl dX12_fault_157 ?_
                      refine lv_sipush (v := 192) S.1 S.2.1 dX12_fault_160 (by decide) ?_
                      refine lv_aload_n S.1 S.2.1 dX12_fault_163 rfl (lv_at hl 2 rfl) ?_
                      refine r_get S hK hP 0 11 rfl rfl inX12 57 (by decide) kw_1567 (v := .int 0) rfl dX12_fault_164 ?_
                      refine r_imul S dX12_fault_167 (v := 0) (by decide) ?_
                      refine lv_iload S.1 S.2.1 dX12_fault_168 (lv_at hl 0 rfl) ?_
                      refine r_iadd S dX12_fault_170 (v := (nI (0 + (ka)))) (nI_add (0) ((ka))) ?_
                      refine lv_iconst (v := 0) S.1 S.2.1 dX12_fault_171 (by decide) ?_
                      refine r_zast S hK hP hD hS 1 1 rfl rfl ((0 + (ka))) rfl (by omega) (by decide) dX12_fault_172 (fun H locs hP hD hS => ?_)
                      have hP : va_P D vwCl [((q 0), .inr (11, (mO q 0 0 0 0 0 0 0 0 (-1) 1 0 0 0 0 0 0 0 0 0))), ((q 58), .inl (cy 1, 768, .inl (upd ra ((0 + (ka))) (vp_nar .boolean 0)))), ((q 59), .inl (cy 0, 4, .inl (fun _ => 0))), ((q 60), .inl (cy 0, 4, .inl (fun _ => 0))), ((q 61), .inl (cy 0, 4, .inl (fun _ => 0)))] H := hP
                      have hD : va_D A [((q 0), .inr (11, (mO q 0 0 0 0 0 0 0 0 (-1) 1 0 0 0 0 0 0 0 0 0))), ((q 58), .inl (cy 1, 768, .inl (upd ra ((0 + (ka))) (vp_nar .boolean 0)))), ((q 59), .inl (cy 0, 4, .inl (fun _ => 0))), ((q 60), .inl (cy 0, 4, .inl (fun _ => 0))), ((q 61), .inl (cy 0, 4, .inl (fun _ => 0)))] := hD
                      refine lv_iinc (v := (nI ((ka) + 1))) (lv' := [(9, .int (nI ((ka) + 1))), (8, .int 1), (0, .ref (q 0)), (1, .int (nI cx)), (2, .int (nI cl)), (3, .int p2), (4, .int (nI mn)), (5, .int p4), (6, .int p5), (7, .int p6)]) S.1 S.2.1 dX12_fault_173 hl (k := 0) rfl (nI_1 (ka)) (by decide) rfl (fun ls hl => ?_)
                      refine lv_goto (tgt := 148) S.1 S.2.1 dX12_fault_176 (by decide) ?_
                      exact iha (upd ra ((0 + (ka))) (vp_nar .boolean 0)) _ _ _ trivial (hP.sub [0, 1, 2, 3, 4] rfl) (hD.sub [0, 1, 2, 3, 4] (by decide) rfl) hS (lv_sub hl [0, 1, 2, 3, 4, 5, 6, 7, 8, 9] rfl)
            · refine r_if_eq S 0 rfl dX12_fault_67 (tgt := 82) (by decide) (fun _ => ?_) (fun c => absurd c (by decide))
              refine lv_iconst (v := 0) S.1 S.2.1 dX12_fault_82 (by decide) ?_
              refine lv_istore (lv' := [(8, .int 0), (0, .ref (q 0)), (1, .int p0), (2, .int p1), (3, .int p2), (4, .int p3), (5, .int p4), (6, .int p5), (7, .int p6)]) S.1 S.2.1 dX12_fault_83 hl (by decide) rfl (fun ls hl => ?_)
              refine lv_iload S.1 S.2.1 dX12_fault_85 (lv_at hl 0 rfl) ?_
              refine r_if_eq S 0 rfl dX12_fault_87 (tgt := 135) (by decide) (fun _ => ?_) (fun c => absurd c (by decide))
              refine lv_iconst (v := 0) S.1 S.2.1 dX12_fault_135 (by decide) ?_
              refine lv_istore (lv' := [(8, .int 0), (0, .ref (q 0)), (1, .int p0), (2, .int p1), (3, .int p2), (4, .int p3), (5, .int p4), (6, .int p5), (7, .int p6)]) S.1 S.2.1 dX12_fault_136 hl (by decide) rfl (fun ls hl => ?_)
              refine lv_iload S.1 S.2.1 dX12_fault_138 (lv_at hl 0 rfl) ?_
              refine r_if_ne S 0 rfl dX12_fault_140 (tgt := 145) (by decide) (fun c => absurd c (by decide)) (fun _ => ?_)
              refine lv_iconst (v := (-1)) S.1 S.2.1 dX12_fault_143 (by decide) ?_
              exact ci_ret (u := ()) S hr hlk rfl hK (hP.sub [] rfl) (hD.sub [] (by decide) rfl) hS (Or.inr (⟨rfl, (by omega)⟩)) (by decide) (by decide) dX12_fault_144
        · refine r_if_eq S 0 rfl dX12_fault_49 (tgt := 82) (by decide) (fun _ => ?_) (fun c => absurd c (by decide))
          refine lv_iconst (v := 0) S.1 S.2.1 dX12_fault_82 (by decide) ?_
          refine lv_istore (lv' := [(8, .int 0), (0, .ref (q 0)), (1, .int p0), (2, .int p1), (3, .int p2), (4, .int p3), (5, .int p4), (6, .int p5), (7, .int p6)]) S.1 S.2.1 dX12_fault_83 hl (by decide) rfl (fun ls hl => ?_)
          refine lv_iload S.1 S.2.1 dX12_fault_85 (lv_at hl 0 rfl) ?_
          refine r_if_eq S 0 rfl dX12_fault_87 (tgt := 135) (by decide) (fun _ => ?_) (fun c => absurd c (by decide))
          refine lv_iconst (v := 0) S.1 S.2.1 dX12_fault_135 (by decide) ?_
          refine lv_istore (lv' := [(8, .int 0), (0, .ref (q 0)), (1, .int p0), (2, .int p1), (3, .int p2), (4, .int p3), (5, .int p4), (6, .int p5), (7, .int p6)]) S.1 S.2.1 dX12_fault_136 hl (by decide) rfl (fun ls hl => ?_)
          refine lv_iload S.1 S.2.1 dX12_fault_138 (lv_at hl 0 rfl) ?_
          refine r_if_ne S 0 rfl dX12_fault_140 (tgt := 145) (by decide) (fun c => absurd c (by decide)) (fun _ => ?_)
          refine lv_iconst (v := (-1)) S.1 S.2.1 dX12_fault_143 (by decide) ?_
          exact ci_ret (u := ()) S hr hlk rfl hK (hP.sub [] rfl) (hD.sub [] (by decide) rfl) hS (Or.inr (⟨rfl, (by omega)⟩)) (by decide) (by decide) dX12_fault_144
      · refine r_if_eq S 0 rfl dX12_fault_35 (tgt := 82) (by decide) (fun _ => ?_) (fun c => absurd c (by decide))
        refine lv_iconst (v := 0) S.1 S.2.1 dX12_fault_82 (by decide) ?_
        refine lv_istore (lv' := [(8, .int 0), (0, .ref (q 0)), (1, .int p0), (2, .int p1), (3, .int p2), (4, .int p3), (5, .int p4), (6, .int p5), (7, .int p6)]) S.1 S.2.1 dX12_fault_83 hl (by decide) rfl (fun ls hl => ?_)
        refine lv_iload S.1 S.2.1 dX12_fault_85 (lv_at hl 0 rfl) ?_
        refine r_if_eq S 0 rfl dX12_fault_87 (tgt := 135) (by decide) (fun _ => ?_) (fun c => absurd c (by decide))
        refine lv_iconst (v := 0) S.1 S.2.1 dX12_fault_135 (by decide) ?_
        refine lv_istore (lv' := [(8, .int 0), (0, .ref (q 0)), (1, .int p0), (2, .int p1), (3, .int p2), (4, .int p3), (5, .int p4), (6, .int p5), (7, .int p6)]) S.1 S.2.1 dX12_fault_136 hl (by decide) rfl (fun ls hl => ?_)
        refine lv_iload S.1 S.2.1 dX12_fault_138 (lv_at hl 0 rfl) ?_
        refine r_if_ne S 0 rfl dX12_fault_140 (tgt := 145) (by decide) (fun c => absurd c (by decide)) (fun _ => ?_)
        refine lv_iconst (v := (-1)) S.1 S.2.1 dX12_fault_143 (by decide) ?_
        exact ci_ret (u := ()) S hr hlk rfl hK (hP.sub [] rfl) (hD.sub [] (by decide) rfl) hS (Or.inr (⟨rfl, (by omega)⟩)) (by decide) (by decide) dX12_fault_144
    · refine r_if_eq S 0 rfl dX12_fault_21 (tgt := 82) (by decide) (fun _ => ?_) (fun c => absurd c (by decide))
      refine lv_iconst (v := 0) S.1 S.2.1 dX12_fault_82 (by decide) ?_
      refine lv_istore (lv' := [(8, .int 0), (0, .ref (q 0)), (1, .int p0), (2, .int p1), (3, .int p2), (4, .int p3), (5, .int p4), (6, .int p5), (7, .int p6)]) S.1 S.2.1 dX12_fault_83 hl (by decide) rfl (fun ls hl => ?_)
      refine lv_iload S.1 S.2.1 dX12_fault_85 (lv_at hl 0 rfl) ?_
      refine r_if_eq S 0 rfl dX12_fault_87 (tgt := 135) (by decide) (fun _ => ?_) (fun c => absurd c (by decide))
      refine lv_iconst (v := 0) S.1 S.2.1 dX12_fault_135 (by decide) ?_
      refine lv_istore (lv' := [(8, .int 0), (0, .ref (q 0)), (1, .int p0), (2, .int p1), (3, .int p2), (4, .int p3), (5, .int p4), (6, .int p5), (7, .int p6)]) S.1 S.2.1 dX12_fault_136 hl (by decide) rfl (fun ls hl => ?_)
      refine lv_iload S.1 S.2.1 dX12_fault_138 (lv_at hl 0 rfl) ?_
      refine r_if_ne S 0 rfl dX12_fault_140 (tgt := 145) (by decide) (fun c => absurd c (by decide)) (fun _ => ?_)
      refine lv_iconst (v := (-1)) S.1 S.2.1 dX12_fault_143 (by decide) ?_
      exact ci_ret (u := ()) S hr hlk rfl hK (hP.sub [] rfl) (hD.sub [] (by decide) rfl) hS (Or.inr (⟨rfl, (by omega)⟩)) (by decide) (by decide) dX12_fault_144
  · refine r_if_eq S 0 rfl dX12_fault_10 (tgt := 82) (by decide) (fun _ => ?_) (fun c => absurd c (by decide))
    refine lv_iconst (v := 0) S.1 S.2.1 dX12_fault_82 (by decide) ?_
    refine lv_istore (lv' := [(8, .int 0), (0, .ref (q 0)), (1, .int p0), (2, .int p1), (3, .int p2), (4, .int p3), (5, .int p4), (6, .int p5), (7, .int p6)]) S.1 S.2.1 dX12_fault_83 hl (by decide) rfl (fun ls hl => ?_)
    refine lv_iload S.1 S.2.1 dX12_fault_85 (lv_at hl 0 rfl) ?_
    refine r_if_eq S 0 rfl dX12_fault_87 (tgt := 135) (by decide) (fun _ => ?_) (fun c => absurd c (by decide))
    refine lv_iconst (v := 0) S.1 S.2.1 dX12_fault_135 (by decide) ?_
    refine lv_istore (lv' := [(8, .int 0), (0, .ref (q 0)), (1, .int p0), (2, .int p1), (3, .int p2), (4, .int p3), (5, .int p4), (6, .int p5), (7, .int p6)]) S.1 S.2.1 dX12_fault_136 hl (by decide) rfl (fun ls hl => ?_)
    refine lv_iload S.1 S.2.1 dX12_fault_138 (lv_at hl 0 rfl) ?_
    refine r_if_ne S 0 rfl dX12_fault_140 (tgt := 145) (by decide) (fun c => absurd c (by decide)) (fun _ => ?_)
    refine lv_iconst (v := (-1)) S.1 S.2.1 dX12_fault_143 (by decide) ?_
    exact ci_ret (u := ()) S hr hlk rfl hK (hP.sub [] rfl) (hD.sub [] (by decide) rfl) hS (Or.inr (⟨rfl, (by omega)⟩)) (by decide) (by decide) dX12_fault_144
