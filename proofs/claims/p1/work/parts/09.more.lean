abbrev cX11_init : ByteArray := prog_1_method_1_code
def yX11_init : MethodName := ⟨RX11, "<init>", "()V"⟩
theorem okX11_init : yok yX11_init 0 := by decide +kernel
abbrev cX8_init : ByteArray := prog_10_method_1_code
def yX8_init : MethodName := ⟨RX8, "<init>", "(IIIIII)V"⟩
theorem okX8_init : yok yX8_init 6 := by decide +kernel
abbrev cX0_init : ByteArray := prog_2_method_1_code
def yX0_init : MethodName := ⟨RX0, "<init>", "(IZIIII)V"⟩
theorem okX0_init : yok yX0_init 6 := by decide +kernel
abbrev cX1_init : ByteArray := prog_3_method_1_code
def yX1_init : MethodName := ⟨RX1, "<init>", "(I)V"⟩
theorem okX1_init : yok yX1_init 1 := by decide +kernel
abbrev cX7_init : ByteArray := prog_9_method_1_code
def yX7_init : MethodName := ⟨RX7, "<init>", "()V"⟩
theorem okX7_init : yok yX7_init 0 := by decide +kernel
abbrev cX12_asked : ByteArray := prog_14_method_116_code
def yX12_asked : MethodName := ⟨RX12, "asked", "()I"⟩
theorem okX12_asked : yok yX12_asked 0 := by decide +kernel
abbrev cX12_isSheet : ByteArray := prog_14_method_109_code
def yX12_isSheet : MethodName := ⟨RX12, "isSheet", "(I)Z"⟩
theorem okX12_isSheet : yok yX12_isSheet 1 := by decide +kernel
abbrev cX11_cell : ByteArray := prog_1_method_4_code
def yX11_cell : MethodName := ⟨RX11, "cell", "(IIIZ)Z"⟩
theorem okX11_cell : yok yX11_cell 4 := by decide +kernel
abbrev cX12_cell : ByteArray := prog_14_method_41_code
def yX12_cell : MethodName := ⟨RX12, "cell", "(IIIZ)Z"⟩
theorem okX12_cell : yok yX12_cell 4 := by decide +kernel
abbrev cX11_sight : ByteArray := prog_1_method_7_code
def yX11_sight : MethodName := ⟨RX11, "sight", "(IIIIII)I"⟩
theorem okX11_sight : yok yX11_sight 6 := by decide +kernel
abbrev cX12_sight : ByteArray := prog_14_method_44_code
def yX12_sight : MethodName := ⟨RX12, "sight", "(IIIIII)I"⟩
theorem okX12_sight : yok yX12_sight 6 := by decide +kernel
abbrev cX11_drawn : ByteArray := prog_1_method_27_code
def yX11_drawn : MethodName := ⟨RX11, "drawn", "(III)I"⟩
theorem okX11_drawn : yok yX11_drawn 3 := by decide +kernel
abbrev cX12_drawn : ByteArray := prog_14_method_110_code
def yX12_drawn : MethodName := ⟨RX12, "drawn", "(III)I"⟩
theorem okX12_drawn : yok yX12_drawn 3 := by decide +kernel
abbrev cX11_quarrel : ByteArray := prog_1_method_28_code
def yX11_quarrel : MethodName := ⟨RX11, "quarrel", "(II)I"⟩
theorem okX11_quarrel : yok yX11_quarrel 2 := by decide +kernel
abbrev cX12_quarrel : ByteArray := prog_14_method_111_code
def yX12_quarrel : MethodName := ⟨RX12, "quarrel", "(II)I"⟩
theorem okX12_quarrel : yok yX12_quarrel 2 := by decide +kernel
abbrev cX11_question : ByteArray := prog_1_method_32_code
def yX11_question : MethodName := ⟨RX11, "question", "(IIZ)Z"⟩
theorem okX11_question : yok yX11_question 3 := by decide +kernel
abbrev cX12_question : ByteArray := prog_14_method_117_code
def yX12_question : MethodName := ⟨RX12, "question", "(IIZ)Z"⟩
theorem okX12_question : yok yX12_question 3 := by decide +kernel
abbrev cX11_place : ByteArray := prog_1_method_33_code
def yX11_place : MethodName := ⟨RX11, "place", "(III)I"⟩
theorem okX11_place : yok yX11_place 3 := by decide +kernel
abbrev cX12_place : ByteArray := prog_14_method_118_code
def yX12_place : MethodName := ⟨RX12, "place", "(III)I"⟩
theorem okX12_place : yok yX12_place 3 := by decide +kernel
theorem kw_177 : Cond.methodLink "LandSurvey" 1 (⟨"java/lang/Object", "<init>", "()V"⟩ : MethodName) ∈ uu := uu_in (i := 177) (by decide +kernel) (by decide +kernel)
theorem kw_180 : Cond.classLink "LandSurvey" 13 "LandSurvey$Land" ∈ uu := uu_in (i := 180) (by decide +kernel) (by decide +kernel)
theorem kw_181 : Cond.instantiable "LandSurvey$Land" 9 ∈ uu := uu_in (i := 181) (by decide +kernel) (by decide +kernel)
theorem kw_145 : Cond.initialized "LandSurvey$Land" ∈ uu := uu_in (i := 145) (by decide +kernel) (by decide +kernel)
theorem kw_184 : Cond.code yX2_init prog_4_method_1_code 1 none ∈ uu := uu_in (i := 184) (by decide +kernel) (by decide +kernel)
theorem kw_182 : Cond.methodLink "LandSurvey" 15 yX2_init ∈ uu := uu_in (i := 182) (by decide +kernel) (by decide +kernel)
theorem kw_183 : Cond.instanceMethod yX2_init ∈ uu := uu_in (i := 183) (by decide +kernel) (by decide +kernel)
theorem kw_226 : Cond.classLink "LandSurvey" 20 "LandSurvey$Sight" ∈ uu := uu_in (i := 226) (by decide +kernel) (by decide +kernel)
theorem kw_471 : Cond.fieldLink "LandSurvey" 22 "LandSurvey" "sights" "[LLandSurvey$Sight;" ∈ uu := uu_in (i := 471) (by decide +kernel) (by decide +kernel)
theorem kw_228 : Cond.classLink "LandSurvey" 26 "LandSurvey$Reader" ∈ uu := uu_in (i := 228) (by decide +kernel) (by decide +kernel)
theorem kw_229 : Cond.instantiable "LandSurvey$Reader" 14 ∈ uu := uu_in (i := 229) (by decide +kernel) (by decide +kernel)
theorem kw_147 : Cond.initialized "LandSurvey$Reader" ∈ uu := uu_in (i := 147) (by decide +kernel) (by decide +kernel)
theorem kw_232 : Cond.code yX3_init prog_5_method_1_code 1 none ∈ uu := uu_in (i := 232) (by decide +kernel) (by decide +kernel)
theorem kw_231 : Cond.instanceMethod yX3_init ∈ uu := uu_in (i := 231) (by decide +kernel) (by decide +kernel)
theorem kw_473 : Cond.fieldLink "LandSurvey" 29 "LandSurvey" "reader" "LLandSurvey$Reader;" ∈ uu := uu_in (i := 473) (by decide +kernel) (by decide +kernel)
theorem kw_280 : Cond.classLink "LandSurvey" 33 "LandSurvey$RuleBook" ∈ uu := uu_in (i := 280) (by decide +kernel) (by decide +kernel)
theorem kw_281 : Cond.instantiable "LandSurvey$RuleBook" 4 ∈ uu := uu_in (i := 281) (by decide +kernel) (by decide +kernel)
theorem kw_148 : Cond.initialized "LandSurvey$RuleBook" ∈ uu := uu_in (i := 148) (by decide +kernel) (by decide +kernel)
theorem kw_284 : Cond.code yX4_init prog_6_method_1_code 1 none ∈ uu := uu_in (i := 284) (by decide +kernel) (by decide +kernel)
theorem kw_283 : Cond.instanceMethod yX4_init ∈ uu := uu_in (i := 283) (by decide +kernel) (by decide +kernel)
theorem kw_474 : Cond.fieldLink "LandSurvey" 36 "LandSurvey" "book" "LLandSurvey$RuleBook;" ∈ uu := uu_in (i := 474) (by decide +kernel) (by decide +kernel)
theorem kw_382 : Cond.fieldLink "LandSurvey" 40 "LandSurvey$RuleBook" "empty" "LLandSurvey$Rules;" ∈ uu := uu_in (i := 382) (by decide +kernel) (by decide +kernel)
theorem kw_475 : Cond.fieldLink "LandSurvey" 44 "LandSurvey" "inForce" "LLandSurvey$Rules;" ∈ uu := uu_in (i := 475) (by decide +kernel) (by decide +kernel)
theorem kw_392 : Cond.classLink "LandSurvey" 47 "LandSurvey$Break" ∈ uu := uu_in (i := 392) (by decide +kernel) (by decide +kernel)
theorem kw_476 : Cond.fieldLink "LandSurvey" 49 "LandSurvey" "breaks" "[LLandSurvey$Break;" ∈ uu := uu_in (i := 476) (by decide +kernel) (by decide +kernel)
theorem kw_394 : Cond.classLink "LandSurvey" 53 "LandSurvey$Sheet" ∈ uu := uu_in (i := 394) (by decide +kernel) (by decide +kernel)
theorem kw_479 : Cond.fieldLink "LandSurvey" 55 "LandSurvey" "sheets" "[LLandSurvey$Sheet;" ∈ uu := uu_in (i := 479) (by decide +kernel) (by decide +kernel)
theorem kw_396 : Cond.classLink "LandSurvey" 59 "LandSurvey$Search" ∈ uu := uu_in (i := 396) (by decide +kernel) (by decide +kernel)
theorem kw_397 : Cond.instantiable "LandSurvey$Search" 13 ∈ uu := uu_in (i := 397) (by decide +kernel) (by decide +kernel)
theorem kw_150 : Cond.initialized "LandSurvey$Search" ∈ uu := uu_in (i := 150) (by decide +kernel) (by decide +kernel)
theorem kw_400 : Cond.code yX6_init prog_8_method_1_code 3 none ∈ uu := uu_in (i := 400) (by decide +kernel) (by decide +kernel)
theorem kw_398 : Cond.methodLink "LandSurvey" 61 yX6_init ∈ uu := uu_in (i := 398) (by decide +kernel) (by decide +kernel)
theorem kw_399 : Cond.instanceMethod yX6_init ∈ uu := uu_in (i := 399) (by decide +kernel) (by decide +kernel)
theorem kw_481 : Cond.fieldLink "LandSurvey" 64 "LandSurvey" "search" "LLandSurvey$Search;" ∈ uu := uu_in (i := 481) (by decide +kernel) (by decide +kernel)
theorem kw_466 : Cond.classLink "LandSurvey" 68 "LandSurvey$Ground" ∈ uu := uu_in (i := 466) (by decide +kernel) (by decide +kernel)
theorem kw_482 : Cond.fieldLink "LandSurvey" 70 "LandSurvey" "grounds" "[LLandSurvey$Ground;" ∈ uu := uu_in (i := 482) (by decide +kernel) (by decide +kernel)
theorem kw_486 : Cond.fieldLink "LandSurvey" 74 "LandSurvey" "facts" "[I" ∈ uu := uu_in (i := 486) (by decide +kernel) (by decide +kernel)
theorem kw_557 : Cond.methodLink "LandSurvey$Sight" 3 (⟨"java/lang/Object", "<init>", "()V"⟩ : MethodName) ∈ uu := uu_in (i := 557) (by decide +kernel) (by decide +kernel)
theorem kw_570 : Cond.fieldLink "LandSurvey$Sight" 9 "LandSurvey$Sight" "withdrawn" "I" ∈ uu := uu_in (i := 570) (by decide +kernel) (by decide +kernel)
theorem kw_572 : Cond.fieldLink "LandSurvey$Sight" 15 "LandSurvey$Sight" "dipWhere" "I" ∈ uu := uu_in (i := 572) (by decide +kernel) (by decide +kernel)
theorem kw_575 : Cond.fieldLink "LandSurvey$Sight" 18 "LandSurvey$Sight" "dipBeyond" "I" ∈ uu := uu_in (i := 575) (by decide +kernel) (by decide +kernel)
theorem kw_582 : Cond.fieldLink "LandSurvey$Sight" 21 "LandSurvey$Sight" "remain" "I" ∈ uu := uu_in (i := 582) (by decide +kernel) (by decide +kernel)
theorem kw_585 : Cond.fieldLink "LandSurvey$Sight" 24 "LandSurvey$Sight" "namedBy" "I" ∈ uu := uu_in (i := 585) (by decide +kernel) (by decide +kernel)
theorem kw_587 : Cond.fieldLink "LandSurvey$Sight" 27 "LandSurvey$Sight" "rock" "I" ∈ uu := uu_in (i := 587) (by decide +kernel) (by decide +kernel)
theorem kw_558 : Cond.fieldLink "LandSurvey$Sight" 30 "LandSurvey$Sight" "kind" "I" ∈ uu := uu_in (i := 558) (by decide +kernel) (by decide +kernel)
theorem kw_560 : Cond.fieldLink "LandSurvey$Sight" 33 "LandSurvey$Sight" "cell" "I" ∈ uu := uu_in (i := 560) (by decide +kernel) (by decide +kernel)
theorem kw_563 : Cond.fieldLink "LandSurvey$Sight" 36 "LandSurvey$Sight" "depth" "I" ∈ uu := uu_in (i := 563) (by decide +kernel) (by decide +kernel)
theorem kw_565 : Cond.fieldLink "LandSurvey$Sight" 39 "LandSurvey$Sight" "hand" "I" ∈ uu := uu_in (i := 565) (by decide +kernel) (by decide +kernel)
theorem kw_567 : Cond.fieldLink "LandSurvey$Sight" 42 "LandSurvey$Sight" "facts" "I" ∈ uu := uu_in (i := 567) (by decide +kernel) (by decide +kernel)
theorem kw_569 : Cond.fieldLink "LandSurvey$Sight" 45 "LandSurvey$Sight" "day" "I" ∈ uu := uu_in (i := 569) (by decide +kernel) (by decide +kernel)
theorem kw_918 : Cond.methodLink "LandSurvey$Break" 1 (⟨"java/lang/Object", "<init>", "()V"⟩ : MethodName) ∈ uu := uu_in (i := 918) (by decide +kernel) (by decide +kernel)
theorem kw_919 : Cond.fieldLink "LandSurvey$Break" 7 "LandSurvey$Break" "cell" "I" ∈ uu := uu_in (i := 919) (by decide +kernel) (by decide +kernel)
theorem kw_921 : Cond.fieldLink "LandSurvey$Break" 13 "LandSurvey$Break" "down" "Z" ∈ uu := uu_in (i := 921) (by decide +kernel) (by decide +kernel)
theorem kw_923 : Cond.fieldLink "LandSurvey$Break" 17 "LandSurvey$Break" "sides" "I" ∈ uu := uu_in (i := 923) (by decide +kernel) (by decide +kernel)
theorem kw_925 : Cond.fieldLink "LandSurvey$Break" 20 "LandSurvey$Break" "from" "I" ∈ uu := uu_in (i := 925) (by decide +kernel) (by decide +kernel)
theorem kw_927 : Cond.fieldLink "LandSurvey$Break" 23 "LandSurvey$Break" "to" "I" ∈ uu := uu_in (i := 927) (by decide +kernel) (by decide +kernel)
theorem kw_929 : Cond.fieldLink "LandSurvey$Break" 26 "LandSurvey$Break" "cost" "I" ∈ uu := uu_in (i := 929) (by decide +kernel) (by decide +kernel)
theorem kw_1012 : Cond.methodLink "LandSurvey$Ground" 3 (⟨"java/lang/Object", "<init>", "()V"⟩ : MethodName) ∈ uu := uu_in (i := 1012) (by decide +kernel) (by decide +kernel)
theorem kw_1029 : Cond.fieldLink "LandSurvey$Ground" 9 "LandSurvey$Ground" "low" "[I" ∈ uu := uu_in (i := 1029) (by decide +kernel) (by decide +kernel)
theorem kw_1032 : Cond.fieldLink "LandSurvey$Ground" 15 "LandSurvey$Ground" "high" "[I" ∈ uu := uu_in (i := 1032) (by decide +kernel) (by decide +kernel)
theorem kw_1013 : Cond.fieldLink "LandSurvey$Ground" 18 "LandSurvey$Ground" "set" "I" ∈ uu := uu_in (i := 1013) (by decide +kernel) (by decide +kernel)
theorem kw_1268 : Cond.methodLink "LandSurvey$Sheet" 3 (⟨"java/lang/Object", "<init>", "()V"⟩ : MethodName) ∈ uu := uu_in (i := 1268) (by decide +kernel) (by decide +kernel)
theorem kw_1270 : Cond.fieldLink "LandSurvey$Sheet" 9 "LandSurvey$Sheet" "bits" "[I" ∈ uu := uu_in (i := 1270) (by decide +kernel) (by decide +kernel)
theorem kw_1269 : Cond.methodLink "LandSurvey$Sheet" 15 yJ7_fill_53178 ∈ uu := uu_in (i := 1269) (by decide +kernel) (by decide +kernel)
theorem kw_1592 : Cond.fieldLink "LandSurveyModel" 275 "LandSurveyModel" "isAsked" "[Z" ∈ uu := uu_in (i := 1592) (by decide +kernel) (by decide +kernel)
theorem kw_1590 : Cond.fieldLink "LandSurveyModel" 603 "LandSurveyModel" "sheets" "I" ∈ uu := uu_in (i := 1590) (by decide +kernel) (by decide +kernel)
theorem kw_190 : Cond.fieldLink "LandSurvey" 89 "LandSurvey$Land" "height" "[I" ∈ uu := uu_in (i := 190) (by decide +kernel) (by decide +kernel)
theorem kw_192 : Cond.fieldLink "LandSurvey" 92 "LandSurvey$Land" "covered" "[Z" ∈ uu := uu_in (i := 192) (by decide +kernel) (by decide +kernel)
theorem kw_1546 : Cond.fieldLink "LandSurveyModel" 161 "LandSurveyModel" "heights" "[I" ∈ uu := uu_in (i := 1546) (by decide +kernel) (by decide +kernel)
theorem kw_1547 : Cond.fieldLink "LandSurveyModel" 164 "LandSurveyModel" "isBare" "[Z" ∈ uu := uu_in (i := 1547) (by decide +kernel) (by decide +kernel)
theorem kw_553 : Cond.instantiable "LandSurvey$Sight" 19 ∈ uu := uu_in (i := 553) (by decide +kernel) (by decide +kernel)
theorem kw_153 : Cond.initialized "LandSurvey$Sight" ∈ uu := uu_in (i := 153) (by decide +kernel) (by decide +kernel)
theorem kw_556 : Cond.code yX8_init prog_10_method_1_code 7 none ∈ uu := uu_in (i := 556) (by decide +kernel) (by decide +kernel)
theorem kw_554 : Cond.methodLink "LandSurvey" 105 yX8_init ∈ uu := uu_in (i := 554) (by decide +kernel) (by decide +kernel)
theorem kw_555 : Cond.instanceMethod yX8_init ∈ uu := uu_in (i := 555) (by decide +kernel) (by decide +kernel)
theorem kw_1551 : Cond.fieldLink "LandSurveyModel" 173 "LandSurveyModel" "kindOf" "[I" ∈ uu := uu_in (i := 1551) (by decide +kernel) (by decide +kernel)
theorem kw_1552 : Cond.fieldLink "LandSurveyModel" 176 "LandSurveyModel" "cellOf" "[I" ∈ uu := uu_in (i := 1552) (by decide +kernel) (by decide +kernel)
theorem kw_1553 : Cond.fieldLink "LandSurveyModel" 179 "LandSurveyModel" "depthOf" "[I" ∈ uu := uu_in (i := 1553) (by decide +kernel) (by decide +kernel)
theorem kw_1554 : Cond.fieldLink "LandSurveyModel" 182 "LandSurveyModel" "handOf" "[I" ∈ uu := uu_in (i := 1554) (by decide +kernel) (by decide +kernel)
theorem kw_1555 : Cond.fieldLink "LandSurveyModel" 185 "LandSurveyModel" "facts" "[I" ∈ uu := uu_in (i := 1555) (by decide +kernel) (by decide +kernel)
theorem kw_1556 : Cond.fieldLink "LandSurveyModel" 188 "LandSurveyModel" "toldOn" "[I" ∈ uu := uu_in (i := 1556) (by decide +kernel) (by decide +kernel)
theorem kw_1557 : Cond.fieldLink "LandSurveyModel" 191 "LandSurveyModel" "goneOn" "[I" ∈ uu := uu_in (i := 1557) (by decide +kernel) (by decide +kernel)
theorem kw_1558 : Cond.fieldLink "LandSurveyModel" 194 "LandSurveyModel" "dipTo" "[I" ∈ uu := uu_in (i := 1558) (by decide +kernel) (by decide +kernel)
theorem kw_1561 : Cond.fieldLink "LandSurveyModel" 203 "LandSurveyModel" "remainOf" "[I" ∈ uu := uu_in (i := 1561) (by decide +kernel) (by decide +kernel)
theorem kw_1282 : Cond.code yX11_isSheet prog_1_method_41_code 2 (some .boolean) ∈ uu := uu_in (i := 1282) (by decide +kernel) (by decide +kernel)
theorem kw_1279 : Cond.methodLink "LandSurvey" 312 yX11_isSheet ∈ uu := uu_in (i := 1279) (by decide +kernel) (by decide +kernel)
theorem kw_1281 : Cond.instanceMethod yX11_isSheet ∈ uu := uu_in (i := 1281) (by decide +kernel) (by decide +kernel)
theorem kw_52 : Cond.selects "LandSurvey" yX11_isSheet yX11_isSheet ∈ uu := uu_in (i := 52) (by decide +kernel) (by decide +kernel)
theorem kw_2191 : Cond.code yX12_isSheet prog_14_method_109_code 2 (some .boolean) ∈ uu := uu_in (i := 2191) (by decide +kernel) (by decide +kernel)
theorem kw_2188 : Cond.methodLink "LandSurveyModel" 606 yX12_isSheet ∈ uu := uu_in (i := 2188) (by decide +kernel) (by decide +kernel)
theorem kw_2190 : Cond.instanceMethod yX12_isSheet ∈ uu := uu_in (i := 2190) (by decide +kernel) (by decide +kernel)
theorem kw_134 : Cond.selects "LandSurveyModel" yX12_isSheet yX12_isSheet ∈ uu := uu_in (i := 134) (by decide +kernel) (by decide +kernel)
theorem kw_198 : Cond.fieldLink "LandSurvey" 331 "LandSurvey$Land" "asked" "[Z" ∈ uu := uu_in (i := 198) (by decide +kernel) (by decide +kernel)
theorem kw_199 : Cond.fieldLink "LandSurvey" 334 "LandSurvey$Land" "askedCount" "I" ∈ uu := uu_in (i := 199) (by decide +kernel) (by decide +kernel)
theorem kw_2219 : Cond.code yX12_asked prog_14_method_116_code 3 (some .int) ∈ uu := uu_in (i := 2219) (by decide +kernel) (by decide +kernel)
theorem kw_2216 : Cond.methodLink "LandSurveyModel" 612 yX12_asked ∈ uu := uu_in (i := 2216) (by decide +kernel) (by decide +kernel)
theorem kw_2218 : Cond.instanceMethod yX12_asked ∈ uu := uu_in (i := 2218) (by decide +kernel) (by decide +kernel)
theorem kw_136 : Cond.selects "LandSurveyModel" yX12_asked yX12_asked ∈ uu := uu_in (i := 136) (by decide +kernel) (by decide +kernel)
theorem kw_204 : Cond.fieldLink "LandSurvey" 337 "LandSurvey$Land" "placeCount" "I" ∈ uu := uu_in (i := 204) (by decide +kernel) (by decide +kernel)
theorem kw_201 : Cond.fieldLink "LandSurvey" 340 "LandSurvey$Land" "placeCell" "[I" ∈ uu := uu_in (i := 201) (by decide +kernel) (by decide +kernel)
theorem kw_203 : Cond.fieldLink "LandSurvey" 343 "LandSurvey$Land" "placeCost" "[I" ∈ uu := uu_in (i := 203) (by decide +kernel) (by decide +kernel)
theorem kw_1593 : Cond.fieldLink "LandSurveyModel" 615 "LandSurveyModel" "places" "I" ∈ uu := uu_in (i := 1593) (by decide +kernel) (by decide +kernel)
theorem kw_1594 : Cond.fieldLink "LandSurveyModel" 278 "LandSurveyModel" "placeAt" "[I" ∈ uu := uu_in (i := 1594) (by decide +kernel) (by decide +kernel)
theorem kw_1595 : Cond.fieldLink "LandSurveyModel" 281 "LandSurveyModel" "placeCost" "[I" ∈ uu := uu_in (i := 1595) (by decide +kernel) (by decide +kernel)
theorem dX11_init_0 : decode cX11_init 0 = .ok (.aload_n 0, 1) := by decide +kernel
theorem dX11_init_1 : decode cX11_init 1 = .ok (.invokespecial 1, 3) := by decide +kernel
theorem dX11_init_4 : decode cX11_init 4 = .ok (.aload_n 0, 1) := by decide +kernel
theorem dX11_init_5 : decode cX11_init 5 = .ok (.iconst (-1), 1) := by decide +kernel
theorem dX11_init_6 : decode cX11_init 6 = .ok (.putfield 9, 3) := by decide +kernel
theorem dX11_init_9 : decode cX11_init 9 = .ok (.aload_n 0, 1) := by decide +kernel
theorem dX11_init_10 : decode cX11_init 10 = .ok (.new 13, 3) := by decide +kernel
theorem dX11_init_13 : decode cX11_init 13 = .ok (.dup, 1) := by decide +kernel
theorem dX11_init_14 : decode cX11_init 14 = .ok (.invokespecial 15, 3) := by decide +kernel
theorem dX11_init_17 : decode cX11_init 17 = .ok (.putfield 16, 3) := by decide +kernel
theorem dX11_init_20 : decode cX11_init 20 = .ok (.aload_n 0, 1) := by decide +kernel
theorem dX11_init_21 : decode cX11_init 21 = .ok (.bipush 40, 2) := by decide +kernel
theorem dX11_init_23 : decode cX11_init 23 = .ok (.anewarray 20, 3) := by decide +kernel
theorem dX11_init_26 : decode cX11_init 26 = .ok (.putfield 22, 3) := by decide +kernel
theorem dX11_init_29 : decode cX11_init 29 = .ok (.aload_n 0, 1) := by decide +kernel
theorem dX11_init_30 : decode cX11_init 30 = .ok (.new 26, 3) := by decide +kernel
theorem dX11_init_33 : decode cX11_init 33 = .ok (.dup, 1) := by decide +kernel
theorem dX11_init_34 : decode cX11_init 34 = .ok (.invokespecial 28, 3) := by decide +kernel
theorem dX11_init_37 : decode cX11_init 37 = .ok (.putfield 29, 3) := by decide +kernel
theorem dX11_init_40 : decode cX11_init 40 = .ok (.aload_n 0, 1) := by decide +kernel
theorem dX11_init_41 : decode cX11_init 41 = .ok (.new 33, 3) := by decide +kernel
theorem dX11_init_44 : decode cX11_init 44 = .ok (.dup, 1) := by decide +kernel
theorem dX11_init_45 : decode cX11_init 45 = .ok (.invokespecial 35, 3) := by decide +kernel
theorem dX11_init_48 : decode cX11_init 48 = .ok (.putfield 36, 3) := by decide +kernel
theorem dX11_init_51 : decode cX11_init 51 = .ok (.aload_n 0, 1) := by decide +kernel
theorem dX11_init_52 : decode cX11_init 52 = .ok (.aload_n 0, 1) := by decide +kernel
theorem dX11_init_53 : decode cX11_init 53 = .ok (.getfield 36, 3) := by decide +kernel
theorem dX11_init_56 : decode cX11_init 56 = .ok (.getfield 40, 3) := by decide +kernel
theorem dX11_init_59 : decode cX11_init 59 = .ok (.putfield 44, 3) := by decide +kernel
theorem dX11_init_62 : decode cX11_init 62 = .ok (.aload_n 0, 1) := by decide +kernel
theorem dX11_init_63 : decode cX11_init 63 = .ok (.iconst 4, 1) := by decide +kernel
theorem dX11_init_64 : decode cX11_init 64 = .ok (.anewarray 47, 3) := by decide +kernel
theorem dX11_init_67 : decode cX11_init 67 = .ok (.putfield 49, 3) := by decide +kernel
theorem dX11_init_70 : decode cX11_init 70 = .ok (.aload_n 0, 1) := by decide +kernel
theorem dX11_init_71 : decode cX11_init 71 = .ok (.bipush 10, 2) := by decide +kernel
theorem dX11_init_73 : decode cX11_init 73 = .ok (.anewarray 53, 3) := by decide +kernel
theorem dX11_init_76 : decode cX11_init 76 = .ok (.putfield 55, 3) := by decide +kernel
theorem dX11_init_79 : decode cX11_init 79 = .ok (.aload_n 0, 1) := by decide +kernel
theorem dX11_init_80 : decode cX11_init 80 = .ok (.new 59, 3) := by decide +kernel
theorem dX11_init_83 : decode cX11_init 83 = .ok (.dup, 1) := by decide +kernel
theorem dX11_init_84 : decode cX11_init 84 = .ok (.aload_n 0, 1) := by decide +kernel
theorem dX11_init_85 : decode cX11_init 85 = .ok (.getfield 22, 3) := by decide +kernel
theorem dX11_init_88 : decode cX11_init 88 = .ok (.aload_n 0, 1) := by decide +kernel
theorem dX11_init_89 : decode cX11_init 89 = .ok (.getfield 49, 3) := by decide +kernel
theorem dX11_init_92 : decode cX11_init 92 = .ok (.invokespecial 61, 3) := by decide +kernel
theorem dX11_init_95 : decode cX11_init 95 = .ok (.putfield 64, 3) := by decide +kernel
theorem dX11_init_98 : decode cX11_init 98 = .ok (.aload_n 0, 1) := by decide +kernel
theorem dX11_init_99 : decode cX11_init 99 = .ok (.bipush 16, 2) := by decide +kernel
theorem dX11_init_101 : decode cX11_init 101 = .ok (.anewarray 68, 3) := by decide +kernel
theorem dX11_init_104 : decode cX11_init 104 = .ok (.putfield 70, 3) := by decide +kernel
theorem dX11_init_107 : decode cX11_init 107 = .ok (.aload_n 0, 1) := by decide +kernel
theorem dX11_init_108 : decode cX11_init 108 = .ok (.bipush 12, 2) := by decide +kernel
theorem dX11_init_110 : decode cX11_init 110 = .ok (.newarray .int, 2) := by decide +kernel
theorem dX11_init_112 : decode cX11_init 112 = .ok (.putfield 74, 3) := by decide +kernel
theorem dX11_init_115 : decode cX11_init 115 = .ok (.return_, 1) := by decide +kernel
theorem dX8_init_0 : decode cX8_init 0 = .ok (.aload_n 0, 1) := by decide +kernel
theorem dX8_init_1 : decode cX8_init 1 = .ok (.invokespecial 3, 3) := by decide +kernel
theorem dX8_init_4 : decode cX8_init 4 = .ok (.aload_n 0, 1) := by decide +kernel
theorem dX8_init_5 : decode cX8_init 5 = .ok (.iconst (-1), 1) := by decide +kernel
theorem dX8_init_6 : decode cX8_init 6 = .ok (.putfield 9, 3) := by decide +kernel
theorem dX8_init_9 : decode cX8_init 9 = .ok (.aload_n 0, 1) := by decide +kernel
theorem dX8_init_10 : decode cX8_init 10 = .ok (.iconst (-1), 1) := by decide +kernel
theorem dX8_init_11 : decode cX8_init 11 = .ok (.putfield 15, 3) := by decide +kernel
theorem dX8_init_14 : decode cX8_init 14 = .ok (.aload_n 0, 1) := by decide +kernel
theorem dX8_init_15 : decode cX8_init 15 = .ok (.iconst (-1), 1) := by decide +kernel
theorem dX8_init_16 : decode cX8_init 16 = .ok (.putfield 18, 3) := by decide +kernel
theorem dX8_init_19 : decode cX8_init 19 = .ok (.aload_n 0, 1) := by decide +kernel
theorem dX8_init_20 : decode cX8_init 20 = .ok (.iconst (-1), 1) := by decide +kernel
theorem dX8_init_21 : decode cX8_init 21 = .ok (.putfield 21, 3) := by decide +kernel
theorem dX8_init_24 : decode cX8_init 24 = .ok (.aload_n 0, 1) := by decide +kernel
theorem dX8_init_25 : decode cX8_init 25 = .ok (.iconst (-1), 1) := by decide +kernel
theorem dX8_init_26 : decode cX8_init 26 = .ok (.putfield 24, 3) := by decide +kernel
theorem dX8_init_29 : decode cX8_init 29 = .ok (.aload_n 0, 1) := by decide +kernel
theorem dX8_init_30 : decode cX8_init 30 = .ok (.iconst (-1), 1) := by decide +kernel
theorem dX8_init_31 : decode cX8_init 31 = .ok (.putfield 27, 3) := by decide +kernel
theorem dX8_init_34 : decode cX8_init 34 = .ok (.aload_n 0, 1) := by decide +kernel
theorem dX8_init_35 : decode cX8_init 35 = .ok (.iload_n 1, 1) := by decide +kernel
theorem dX8_init_36 : decode cX8_init 36 = .ok (.putfield 30, 3) := by decide +kernel
theorem dX8_init_39 : decode cX8_init 39 = .ok (.aload_n 0, 1) := by decide +kernel
theorem dX8_init_40 : decode cX8_init 40 = .ok (.iload_n 2, 1) := by decide +kernel
theorem dX8_init_41 : decode cX8_init 41 = .ok (.putfield 33, 3) := by decide +kernel
theorem dX8_init_44 : decode cX8_init 44 = .ok (.aload_n 0, 1) := by decide +kernel
theorem dX8_init_45 : decode cX8_init 45 = .ok (.iload_n 3, 1) := by decide +kernel
theorem dX8_init_46 : decode cX8_init 46 = .ok (.putfield 36, 3) := by decide +kernel
theorem dX8_init_49 : decode cX8_init 49 = .ok (.aload_n 0, 1) := by decide +kernel
theorem dX8_init_50 : decode cX8_init 50 = .ok (.iload 4, 2) := by decide +kernel
theorem dX8_init_52 : decode cX8_init 52 = .ok (.putfield 39, 3) := by decide +kernel
theorem dX8_init_55 : decode cX8_init 55 = .ok (.aload_n 0, 1) := by decide +kernel
theorem dX8_init_56 : decode cX8_init 56 = .ok (.iload 5, 2) := by decide +kernel
theorem dX8_init_58 : decode cX8_init 58 = .ok (.putfield 42, 3) := by decide +kernel
theorem dX8_init_61 : decode cX8_init 61 = .ok (.aload_n 0, 1) := by decide +kernel
theorem dX8_init_62 : decode cX8_init 62 = .ok (.iload 6, 2) := by decide +kernel
theorem dX8_init_64 : decode cX8_init 64 = .ok (.putfield 45, 3) := by decide +kernel
theorem dX8_init_67 : decode cX8_init 67 = .ok (.return_, 1) := by decide +kernel
theorem dX0_init_0 : decode cX0_init 0 = .ok (.aload_n 0, 1) := by decide +kernel
theorem dX0_init_1 : decode cX0_init 1 = .ok (.invokespecial 1, 3) := by decide +kernel
theorem dX0_init_4 : decode cX0_init 4 = .ok (.aload_n 0, 1) := by decide +kernel
theorem dX0_init_5 : decode cX0_init 5 = .ok (.iload_n 1, 1) := by decide +kernel
theorem dX0_init_6 : decode cX0_init 6 = .ok (.putfield 7, 3) := by decide +kernel
theorem dX0_init_9 : decode cX0_init 9 = .ok (.aload_n 0, 1) := by decide +kernel
theorem dX0_init_10 : decode cX0_init 10 = .ok (.iload_n 2, 1) := by decide +kernel
theorem dX0_init_11 : decode cX0_init 11 = .ok (.putfield 13, 3) := by decide +kernel
theorem dX0_init_14 : decode cX0_init 14 = .ok (.aload_n 0, 1) := by decide +kernel
theorem dX0_init_15 : decode cX0_init 15 = .ok (.iload_n 3, 1) := by decide +kernel
theorem dX0_init_16 : decode cX0_init 16 = .ok (.putfield 17, 3) := by decide +kernel
theorem dX0_init_19 : decode cX0_init 19 = .ok (.aload_n 0, 1) := by decide +kernel
theorem dX0_init_20 : decode cX0_init 20 = .ok (.iload 4, 2) := by decide +kernel
theorem dX0_init_22 : decode cX0_init 22 = .ok (.putfield 20, 3) := by decide +kernel
theorem dX0_init_25 : decode cX0_init 25 = .ok (.aload_n 0, 1) := by decide +kernel
theorem dX0_init_26 : decode cX0_init 26 = .ok (.iload 5, 2) := by decide +kernel
theorem dX0_init_28 : decode cX0_init 28 = .ok (.putfield 23, 3) := by decide +kernel
theorem dX0_init_31 : decode cX0_init 31 = .ok (.aload_n 0, 1) := by decide +kernel
theorem dX0_init_32 : decode cX0_init 32 = .ok (.iload 6, 2) := by decide +kernel
theorem dX0_init_34 : decode cX0_init 34 = .ok (.putfield 26, 3) := by decide +kernel
theorem dX0_init_37 : decode cX0_init 37 = .ok (.return_, 1) := by decide +kernel
theorem dX1_init_0 : decode cX1_init 0 = .ok (.aload_n 0, 1) := by decide +kernel
theorem dX1_init_1 : decode cX1_init 1 = .ok (.invokespecial 3, 3) := by decide +kernel
theorem dX1_init_4 : decode cX1_init 4 = .ok (.aload_n 0, 1) := by decide +kernel
theorem dX1_init_5 : decode cX1_init 5 = .ok (.bipush 96, 2) := by decide +kernel
theorem dX1_init_7 : decode cX1_init 7 = .ok (.newarray .int, 2) := by decide +kernel
theorem dX1_init_9 : decode cX1_init 9 = .ok (.putfield 9, 3) := by decide +kernel
theorem dX1_init_12 : decode cX1_init 12 = .ok (.aload_n 0, 1) := by decide +kernel
theorem dX1_init_13 : decode cX1_init 13 = .ok (.bipush 96, 2) := by decide +kernel
theorem dX1_init_15 : decode cX1_init 15 = .ok (.newarray .int, 2) := by decide +kernel
theorem dX1_init_17 : decode cX1_init 17 = .ok (.putfield 15, 3) := by decide +kernel
theorem dX1_init_20 : decode cX1_init 20 = .ok (.aload_n 0, 1) := by decide +kernel
theorem dX1_init_21 : decode cX1_init 21 = .ok (.iload_n 1, 1) := by decide +kernel
theorem dX1_init_22 : decode cX1_init 22 = .ok (.putfield 18, 3) := by decide +kernel
theorem dX1_init_25 : decode cX1_init 25 = .ok (.return_, 1) := by decide +kernel
theorem dX7_init_0 : decode cX7_init 0 = .ok (.aload_n 0, 1) := by decide +kernel
theorem dX7_init_1 : decode cX7_init 1 = .ok (.invokespecial 3, 3) := by decide +kernel
theorem dX7_init_4 : decode cX7_init 4 = .ok (.aload_n 0, 1) := by decide +kernel
theorem dX7_init_5 : decode cX7_init 5 = .ok (.bipush 96, 2) := by decide +kernel
theorem dX7_init_7 : decode cX7_init 7 = .ok (.newarray .int, 2) := by decide +kernel
theorem dX7_init_9 : decode cX7_init 9 = .ok (.putfield 9, 3) := by decide +kernel
theorem dX7_init_12 : decode cX7_init 12 = .ok (.aload_n 0, 1) := by decide +kernel
theorem dX7_init_13 : decode cX7_init 13 = .ok (.getfield 9, 3) := by decide +kernel
theorem dX7_init_16 : decode cX7_init 16 = .ok (.iconst (-1), 1) := by decide +kernel
theorem dX7_init_17 : decode cX7_init 17 = .ok (.invokestatic 15, 3) := by decide +kernel
theorem dX7_init_20 : decode cX7_init 20 = .ok (.return_, 1) := by decide +kernel
theorem dX12_asked_0 : decode cX12_asked 0 = .ok (.iconst 0, 1) := by decide +kernel
theorem dX12_asked_1 : decode cX12_asked 1 = .ok (.istore_n 1, 1) := by decide +kernel
theorem dX12_asked_2 : decode cX12_asked 2 = .ok (.iconst 0, 1) := by decide +kernel
theorem dX12_asked_3 : decode cX12_asked 3 = .ok (.istore_n 2, 1) := by decide +kernel
theorem dX12_asked_4 : decode cX12_asked 4 = .ok (.iload_n 2, 1) := by decide +kernel
theorem dX12_asked_5 : decode cX12_asked 5 = .ok (.bipush 96, 2) := by decide +kernel
theorem dX12_asked_7 : decode cX12_asked 7 = .ok (.if_icmp .ge 26, 3) := by decide +kernel
theorem dX12_asked_33 : decode cX12_asked 33 = .ok (.iload_n 1, 1) := by decide +kernel
theorem dX12_asked_34 : decode cX12_asked 34 = .ok (.ireturn, 1) := by decide +kernel
theorem dX12_asked_10 : decode cX12_asked 10 = .ok (.iload_n 1, 1) := by decide +kernel
theorem dX12_asked_11 : decode cX12_asked 11 = .ok (.aload_n 0, 1) := by decide +kernel
theorem dX12_asked_12 : decode cX12_asked 12 = .ok (.getfield 275, 3) := by decide +kernel
theorem dX12_asked_15 : decode cX12_asked 15 = .ok (.iload_n 2, 1) := by decide +kernel
theorem dX12_asked_16 : decode cX12_asked 16 = .ok (.baload, 1) := by decide +kernel
theorem dX12_asked_17 : decode cX12_asked 17 = .ok (.ifCond .eq 7, 3) := by decide +kernel
theorem dX12_asked_24 : decode cX12_asked 24 = .ok (.iconst 0, 1) := by decide +kernel
theorem dX12_asked_25 : decode cX12_asked 25 = .ok (.iadd, 1) := by decide +kernel
theorem dX12_asked_26 : decode cX12_asked 26 = .ok (.istore_n 1, 1) := by decide +kernel
theorem dX12_asked_27 : decode cX12_asked 27 = .ok (.iinc 2 1, 3) := by decide +kernel
theorem dX12_asked_30 : decode cX12_asked 30 = .ok (.goto (-26), 3) := by decide +kernel
theorem dX12_isSheet_0 : decode cX12_isSheet 0 = .ok (.iload_n 1, 1) := by decide +kernel
theorem dX12_isSheet_1 : decode cX12_isSheet 1 = .ok (.ifCond .lt 15, 3) := by decide +kernel
theorem dX12_isSheet_16 : decode cX12_isSheet 16 = .ok (.iconst 0, 1) := by decide +kernel
theorem dX12_isSheet_17 : decode cX12_isSheet 17 = .ok (.ireturn, 1) := by decide +kernel
theorem dX12_isSheet_4 : decode cX12_isSheet 4 = .ok (.iload_n 1, 1) := by decide +kernel
theorem dX12_isSheet_5 : decode cX12_isSheet 5 = .ok (.aload_n 0, 1) := by decide +kernel
theorem dX12_isSheet_6 : decode cX12_isSheet 6 = .ok (.getfield 603, 3) := by decide +kernel
theorem dX12_isSheet_9 : decode cX12_isSheet 9 = .ok (.if_icmp .ge 7, 3) := by decide +kernel
theorem dX11_cell_0 : decode cX11_cell 0 = .ok (.iload_n 1, 1) := by decide +kernel
theorem dX11_cell_1 : decode cX11_cell 1 = .ok (.iload_n 2, 1) := by decide +kernel
theorem dX11_cell_2 : decode cX11_cell 2 = .ok (.invokestatic 85, 3) := by decide +kernel
theorem dX11_cell_5 : decode cX11_cell 5 = .ok (.istore 5, 2) := by decide +kernel
theorem dX11_cell_7 : decode cX11_cell 7 = .ok (.iload 5, 2) := by decide +kernel
theorem dX11_cell_9 : decode cX11_cell 9 = .ok (.iconst (-1), 1) := by decide +kernel
theorem dX11_cell_10 : decode cX11_cell 10 = .ok (.if_icmp .eq 14, 3) := by decide +kernel
theorem dX11_cell_24 : decode cX11_cell 24 = .ok (.iconst 0, 1) := by decide +kernel
theorem dX11_cell_25 : decode cX11_cell 25 = .ok (.ireturn, 1) := by decide +kernel
theorem dX11_cell_13 : decode cX11_cell 13 = .ok (.iload_n 3, 1) := by decide +kernel
theorem dX11_cell_14 : decode cX11_cell 14 = .ok (.ifCond .lt 10, 3) := by decide +kernel
theorem dX11_cell_17 : decode cX11_cell 17 = .ok (.iload_n 3, 1) := by decide +kernel
theorem dX11_cell_18 : decode cX11_cell 18 = .ok (.sipush 999, 3) := by decide +kernel
theorem dX11_cell_21 : decode cX11_cell 21 = .ok (.if_icmp .le 5, 3) := by decide +kernel
theorem dX11_cell_26 : decode cX11_cell 26 = .ok (.aload_n 0, 1) := by decide +kernel
theorem dX11_cell_27 : decode cX11_cell 27 = .ok (.getfield 16, 3) := by decide +kernel
theorem dX11_cell_30 : decode cX11_cell 30 = .ok (.getfield 89, 3) := by decide +kernel
theorem dX11_cell_33 : decode cX11_cell 33 = .ok (.iload 5, 2) := by decide +kernel
theorem dX11_cell_35 : decode cX11_cell 35 = .ok (.iload_n 3, 1) := by decide +kernel
theorem dX11_cell_36 : decode cX11_cell 36 = .ok (.iastore, 1) := by decide +kernel
theorem dX11_cell_37 : decode cX11_cell 37 = .ok (.aload_n 0, 1) := by decide +kernel
theorem dX11_cell_38 : decode cX11_cell 38 = .ok (.getfield 16, 3) := by decide +kernel
theorem dX11_cell_41 : decode cX11_cell 41 = .ok (.getfield 92, 3) := by decide +kernel
theorem dX11_cell_44 : decode cX11_cell 44 = .ok (.iload 5, 2) := by decide +kernel
theorem dX11_cell_46 : decode cX11_cell 46 = .ok (.iload 4, 2) := by decide +kernel
theorem dX11_cell_48 : decode cX11_cell 48 = .ok (.ifCond .ne 7, 3) := by decide +kernel
theorem dX11_cell_55 : decode cX11_cell 55 = .ok (.iconst 0, 1) := by decide +kernel
theorem dX11_cell_56 : decode cX11_cell 56 = .ok (.bastore, 1) := by decide +kernel
theorem dX11_cell_57 : decode cX11_cell 57 = .ok (.aload_n 0, 1) := by decide +kernel
theorem dX11_cell_58 : decode cX11_cell 58 = .ok (.iconst 0, 1) := by decide +kernel
theorem dX11_cell_59 : decode cX11_cell 59 = .ok (.putfield 81, 3) := by decide +kernel
theorem dX11_cell_62 : decode cX11_cell 62 = .ok (.iconst 1, 1) := by decide +kernel
theorem dX11_cell_63 : decode cX11_cell 63 = .ok (.ireturn, 1) := by decide +kernel
theorem dX11_cell_51 : decode cX11_cell 51 = .ok (.iconst 1, 1) := by decide +kernel
theorem dX11_cell_52 : decode cX11_cell 52 = .ok (.goto 4, 3) := by decide +kernel
theorem dX12_cell_0 : decode cX12_cell 0 = .ok (.aload_n 0, 1) := by decide +kernel
theorem dX12_cell_1 : decode cX12_cell 1 = .ok (.iconst 0, 1) := by decide +kernel
theorem dX12_cell_2 : decode cX12_cell 2 = .ok (.putfield 1, 3) := by decide +kernel
theorem dX12_cell_5 : decode cX12_cell 5 = .ok (.iload_n 1, 1) := by decide +kernel
theorem dX12_cell_6 : decode cX12_cell 6 = .ok (.iload_n 2, 1) := by decide +kernel
theorem dX12_cell_7 : decode cX12_cell 7 = .ok (.invokestatic 419, 3) := by decide +kernel
theorem dX12_cell_10 : decode cX12_cell 10 = .ok (.ifCond .eq 14, 3) := by decide +kernel
theorem dX12_cell_13 : decode cX12_cell 13 = .ok (.iload_n 3, 1) := by decide +kernel
theorem dX12_cell_14 : decode cX12_cell 14 = .ok (.iconst 0, 1) := by decide +kernel
theorem dX12_cell_15 : decode cX12_cell 15 = .ok (.sipush 999, 3) := by decide +kernel
theorem dX12_cell_18 : decode cX12_cell 18 = .ok (.invokestatic 415, 3) := by decide +kernel
theorem dX12_cell_21 : decode cX12_cell 21 = .ok (.ifCond .ne 5, 3) := by decide +kernel
theorem dX12_cell_26 : decode cX12_cell 26 = .ok (.aload_n 0, 1) := by decide +kernel
theorem dX12_cell_27 : decode cX12_cell 27 = .ok (.getfield 161, 3) := by decide +kernel
theorem dX12_cell_30 : decode cX12_cell 30 = .ok (.bipush 12, 2) := by decide +kernel
theorem dX12_cell_32 : decode cX12_cell 32 = .ok (.iload_n 2, 1) := by decide +kernel
theorem dX12_cell_33 : decode cX12_cell 33 = .ok (.imul, 1) := by decide +kernel
theorem dX12_cell_34 : decode cX12_cell 34 = .ok (.iload_n 1, 1) := by decide +kernel
theorem dX12_cell_35 : decode cX12_cell 35 = .ok (.iadd, 1) := by decide +kernel
theorem dX12_cell_36 : decode cX12_cell 36 = .ok (.iload_n 3, 1) := by decide +kernel
theorem dX12_cell_37 : decode cX12_cell 37 = .ok (.iastore, 1) := by decide +kernel
theorem dX12_cell_38 : decode cX12_cell 38 = .ok (.aload_n 0, 1) := by decide +kernel
theorem dX12_cell_39 : decode cX12_cell 39 = .ok (.getfield 164, 3) := by decide +kernel
theorem dX12_cell_42 : decode cX12_cell 42 = .ok (.bipush 12, 2) := by decide +kernel
theorem dX12_cell_44 : decode cX12_cell 44 = .ok (.iload_n 2, 1) := by decide +kernel
theorem dX12_cell_45 : decode cX12_cell 45 = .ok (.imul, 1) := by decide +kernel
theorem dX12_cell_46 : decode cX12_cell 46 = .ok (.iload_n 1, 1) := by decide +kernel
theorem dX12_cell_47 : decode cX12_cell 47 = .ok (.iadd, 1) := by decide +kernel
theorem dX12_cell_48 : decode cX12_cell 48 = .ok (.iload 4, 2) := by decide +kernel
theorem dX12_cell_50 : decode cX12_cell 50 = .ok (.bastore, 1) := by decide +kernel
theorem dX12_cell_51 : decode cX12_cell 51 = .ok (.aload_n 0, 1) := by decide +kernel
theorem dX12_cell_52 : decode cX12_cell 52 = .ok (.iconst 1, 1) := by decide +kernel
theorem dX12_cell_53 : decode cX12_cell 53 = .ok (.putfield 290, 3) := by decide +kernel
theorem dX12_cell_56 : decode cX12_cell 56 = .ok (.iconst 1, 1) := by decide +kernel
theorem dX12_cell_57 : decode cX12_cell 57 = .ok (.ireturn, 1) := by decide +kernel
theorem dX12_cell_24 : decode cX12_cell 24 = .ok (.iconst 0, 1) := by decide +kernel
theorem dX12_cell_25 : decode cX12_cell 25 = .ok (.ireturn, 1) := by decide +kernel
theorem dX11_sight_0 : decode cX11_sight 0 = .ok (.iload_n 2, 1) := by decide +kernel
theorem dX11_sight_1 : decode cX11_sight 1 = .ok (.iload_n 3, 1) := by decide +kernel
theorem dX11_sight_2 : decode cX11_sight 2 = .ok (.invokestatic 85, 3) := by decide +kernel
theorem dX11_sight_5 : decode cX11_sight 5 = .ok (.istore 7, 2) := by decide +kernel
theorem dX11_sight_7 : decode cX11_sight 7 = .ok (.iload 7, 2) := by decide +kernel
theorem dX11_sight_9 : decode cX11_sight 9 = .ok (.iconst (-1), 1) := by decide +kernel
theorem dX11_sight_10 : decode cX11_sight 10 = .ok (.if_icmp .eq 21, 3) := by decide +kernel
theorem dX11_sight_31 : decode cX11_sight 31 = .ok (.iconst (-1), 1) := by decide +kernel
theorem dX11_sight_32 : decode cX11_sight 32 = .ok (.ireturn, 1) := by decide +kernel
theorem dX11_sight_13 : decode cX11_sight 13 = .ok (.iload_n 1, 1) := by decide +kernel
theorem dX11_sight_14 : decode cX11_sight 14 = .ok (.ifCond .lt 17, 3) := by decide +kernel
theorem dX11_sight_17 : decode cX11_sight 17 = .ok (.iload_n 1, 1) := by decide +kernel
theorem dX11_sight_18 : decode cX11_sight 18 = .ok (.iconst 4, 1) := by decide +kernel
theorem dX11_sight_19 : decode cX11_sight 19 = .ok (.if_icmp .gt 12, 3) := by decide +kernel
theorem dX11_sight_22 : decode cX11_sight 22 = .ok (.aload_n 0, 1) := by decide +kernel
theorem dX11_sight_23 : decode cX11_sight 23 = .ok (.getfield 102, 3) := by decide +kernel
theorem dX11_sight_26 : decode cX11_sight 26 = .ok (.bipush 40, 2) := by decide +kernel
theorem dX11_sight_28 : decode cX11_sight 28 = .ok (.if_icmp .lt 5, 3) := by decide +kernel
theorem dX11_sight_33 : decode cX11_sight 33 = .ok (.iload_n 1, 1) := by decide +kernel
theorem dX11_sight_34 : decode cX11_sight 34 = .ok (.ifCond .eq 8, 3) := by decide +kernel
theorem dX11_sight_42 : decode cX11_sight 42 = .ok (.iconst 0, 1) := by decide +kernel
theorem dX11_sight_43 : decode cX11_sight 43 = .ok (.goto 6, 3) := by decide +kernel
theorem dX11_sight_49 : decode cX11_sight 49 = .ok (.istore 8, 2) := by decide +kernel
theorem dX11_sight_51 : decode cX11_sight 51 = .ok (.iload 4, 2) := by decide +kernel
theorem dX11_sight_53 : decode cX11_sight 53 = .ok (.ifCond .lt 35, 3) := by decide +kernel
theorem dX11_sight_88 : decode cX11_sight 88 = .ok (.iconst (-1), 1) := by decide +kernel
theorem dX11_sight_89 : decode cX11_sight 89 = .ok (.ireturn, 1) := by decide +kernel
theorem dX11_sight_56 : decode cX11_sight 56 = .ok (.iload 4, 2) := by decide +kernel
theorem dX11_sight_58 : decode cX11_sight 58 = .ok (.iload 8, 2) := by decide +kernel
theorem dX11_sight_60 : decode cX11_sight 60 = .ok (.if_icmp .gt 28, 3) := by decide +kernel
theorem dX11_sight_63 : decode cX11_sight 63 = .ok (.iload 5, 2) := by decide +kernel
theorem dX11_sight_65 : decode cX11_sight 65 = .ok (.ifCond .lt 23, 3) := by decide +kernel
theorem dX11_sight_68 : decode cX11_sight 68 = .ok (.iload 5, 2) := by decide +kernel
theorem dX11_sight_70 : decode cX11_sight 70 = .ok (.bipush 6, 2) := by decide +kernel
theorem dX11_sight_72 : decode cX11_sight 72 = .ok (.if_icmp .ge 16, 3) := by decide +kernel
theorem dX11_sight_75 : decode cX11_sight 75 = .ok (.iload 6, 2) := by decide +kernel
theorem dX11_sight_77 : decode cX11_sight 77 = .ok (.ifCond .lt 11, 3) := by decide +kernel
theorem dX11_sight_80 : decode cX11_sight 80 = .ok (.iload 6, 2) := by decide +kernel
theorem dX11_sight_82 : decode cX11_sight 82 = .ok (.sipush 9999, 3) := by decide +kernel
theorem dX11_sight_85 : decode cX11_sight 85 = .ok (.if_icmp .le 5, 3) := by decide +kernel
theorem dX11_sight_90 : decode cX11_sight 90 = .ok (.iload_n 1, 1) := by decide +kernel
theorem dX11_sight_91 : decode cX11_sight 91 = .ok (.ifCond .ne 18, 3) := by decide +kernel
theorem dX11_sight_109 : decode cX11_sight 109 = .ok (.new 20, 3) := by decide +kernel
theorem dX11_sight_112 : decode cX11_sight 112 = .ok (.dup, 1) := by decide +kernel
theorem dX11_sight_113 : decode cX11_sight 113 = .ok (.iload_n 1, 1) := by decide +kernel
theorem dX11_sight_114 : decode cX11_sight 114 = .ok (.iload 7, 2) := by decide +kernel
theorem dX11_sight_116 : decode cX11_sight 116 = .ok (.iload 4, 2) := by decide +kernel
theorem dX11_sight_118 : decode cX11_sight 118 = .ok (.iload 5, 2) := by decide +kernel
theorem dX11_sight_120 : decode cX11_sight 120 = .ok (.iload 6, 2) := by decide +kernel
theorem dX11_sight_122 : decode cX11_sight 122 = .ok (.aload_n 0, 1) := by decide +kernel
theorem dX11_sight_123 : decode cX11_sight 123 = .ok (.getfield 78, 3) := by decide +kernel
theorem dX11_sight_126 : decode cX11_sight 126 = .ok (.invokespecial 105, 3) := by decide +kernel
theorem dX11_sight_129 : decode cX11_sight 129 = .ok (.astore 9, 2) := by decide +kernel
theorem dX11_sight_131 : decode cX11_sight 131 = .ok (.aload_n 0, 1) := by decide +kernel
theorem dX11_sight_132 : decode cX11_sight 132 = .ok (.getfield 22, 3) := by decide +kernel
theorem dX11_sight_135 : decode cX11_sight 135 = .ok (.aload_n 0, 1) := by decide +kernel
theorem dX11_sight_136 : decode cX11_sight 136 = .ok (.getfield 102, 3) := by decide +kernel
theorem dX11_sight_139 : decode cX11_sight 139 = .ok (.aload 9, 2) := by decide +kernel
theorem dX11_sight_141 : decode cX11_sight 141 = .ok (.aastore, 1) := by decide +kernel
theorem dX11_sight_142 : decode cX11_sight 142 = .ok (.aload_n 0, 1) := by decide +kernel
theorem dX11_sight_143 : decode cX11_sight 143 = .ok (.iconst 0, 1) := by decide +kernel
theorem dX11_sight_144 : decode cX11_sight 144 = .ok (.putfield 81, 3) := by decide +kernel
theorem dX11_sight_147 : decode cX11_sight 147 = .ok (.aload_n 0, 1) := by decide +kernel
theorem dX11_sight_148 : decode cX11_sight 148 = .ok (.dup, 1) := by decide +kernel
theorem dX11_sight_149 : decode cX11_sight 149 = .ok (.getfield 102, 3) := by decide +kernel
theorem dX11_sight_152 : decode cX11_sight 152 = .ok (.dup_x1, 1) := by decide +kernel
theorem dX11_sight_153 : decode cX11_sight 153 = .ok (.iconst 1, 1) := by decide +kernel
theorem dX11_sight_154 : decode cX11_sight 154 = .ok (.iadd, 1) := by decide +kernel
theorem dX11_sight_155 : decode cX11_sight 155 = .ok (.putfield 102, 3) := by decide +kernel
theorem dX11_sight_158 : decode cX11_sight 158 = .ok (.ireturn, 1) := by decide +kernel
theorem dX11_sight_94 : decode cX11_sight 94 = .ok (.aload_n 0, 1) := by decide +kernel
theorem dX11_sight_95 : decode cX11_sight 95 = .ok (.getfield 16, 3) := by decide +kernel
theorem dX11_sight_98 : decode cX11_sight 98 = .ok (.getfield 92, 3) := by decide +kernel
theorem dX11_sight_101 : decode cX11_sight 101 = .ok (.iload 7, 2) := by decide +kernel
theorem dX11_sight_103 : decode cX11_sight 103 = .ok (.baload, 1) := by decide +kernel
theorem dX11_sight_104 : decode cX11_sight 104 = .ok (.ifCond .eq 5, 3) := by decide +kernel
theorem dX11_sight_37 : decode cX11_sight 37 = .ok (.iload_n 1, 1) := by decide +kernel
theorem dX11_sight_38 : decode cX11_sight 38 = .ok (.iconst 1, 1) := by decide +kernel
theorem dX11_sight_39 : decode cX11_sight 39 = .ok (.if_icmp .ne 7, 3) := by decide +kernel
theorem dX11_sight_46 : decode cX11_sight 46 = .ok (.sipush 999, 3) := by decide +kernel
theorem dX12_sight_0 : decode cX12_sight 0 = .ok (.aload_n 0, 1) := by decide +kernel
theorem dX12_sight_1 : decode cX12_sight 1 = .ok (.iconst 0, 1) := by decide +kernel
theorem dX12_sight_2 : decode cX12_sight 2 = .ok (.putfield 1, 3) := by decide +kernel
theorem dX12_sight_5 : decode cX12_sight 5 = .ok (.iload_n 1, 1) := by decide +kernel
theorem dX12_sight_6 : decode cX12_sight 6 = .ok (.iconst 0, 1) := by decide +kernel
theorem dX12_sight_7 : decode cX12_sight 7 = .ok (.iconst 4, 1) := by decide +kernel
theorem dX12_sight_8 : decode cX12_sight 8 = .ok (.invokestatic 415, 3) := by decide +kernel
theorem dX12_sight_11 : decode cX12_sight 11 = .ok (.ifCond .eq 58, 3) := by decide +kernel
theorem dX12_sight_14 : decode cX12_sight 14 = .ok (.iload_n 2, 1) := by decide +kernel
theorem dX12_sight_15 : decode cX12_sight 15 = .ok (.iload_n 3, 1) := by decide +kernel
theorem dX12_sight_16 : decode cX12_sight 16 = .ok (.invokestatic 419, 3) := by decide +kernel
theorem dX12_sight_19 : decode cX12_sight 19 = .ok (.ifCond .eq 50, 3) := by decide +kernel
theorem dX12_sight_22 : decode cX12_sight 22 = .ok (.iload 4, 2) := by decide +kernel
theorem dX12_sight_24 : decode cX12_sight 24 = .ok (.iconst 0, 1) := by decide +kernel
theorem dX12_sight_25 : decode cX12_sight 25 = .ok (.iload_n 1, 1) := by decide +kernel
theorem dX12_sight_26 : decode cX12_sight 26 = .ok (.iconst 2, 1) := by decide +kernel
theorem dX12_sight_27 : decode cX12_sight 27 = .ok (.if_icmp .ge 7, 3) := by decide +kernel
theorem dX12_sight_34 : decode cX12_sight 34 = .ok (.sipush 999, 3) := by decide +kernel
theorem dX12_sight_37 : decode cX12_sight 37 = .ok (.invokestatic 415, 3) := by decide +kernel
theorem dX12_sight_40 : decode cX12_sight 40 = .ok (.ifCond .eq 29, 3) := by decide +kernel
theorem dX12_sight_43 : decode cX12_sight 43 = .ok (.iload 5, 2) := by decide +kernel
theorem dX12_sight_45 : decode cX12_sight 45 = .ok (.iconst 0, 1) := by decide +kernel
theorem dX12_sight_46 : decode cX12_sight 46 = .ok (.iconst 5, 1) := by decide +kernel
theorem dX12_sight_47 : decode cX12_sight 47 = .ok (.invokestatic 415, 3) := by decide +kernel
theorem dX12_sight_50 : decode cX12_sight 50 = .ok (.ifCond .eq 19, 3) := by decide +kernel
theorem dX12_sight_53 : decode cX12_sight 53 = .ok (.iload 6, 2) := by decide +kernel
theorem dX12_sight_55 : decode cX12_sight 55 = .ok (.iconst 0, 1) := by decide +kernel
theorem dX12_sight_56 : decode cX12_sight 56 = .ok (.sipush 9999, 3) := by decide +kernel
theorem dX12_sight_59 : decode cX12_sight 59 = .ok (.invokestatic 415, 3) := by decide +kernel
theorem dX12_sight_62 : decode cX12_sight 62 = .ok (.ifCond .eq 7, 3) := by decide +kernel
theorem dX12_sight_65 : decode cX12_sight 65 = .ok (.iconst 1, 1) := by decide +kernel
theorem dX12_sight_66 : decode cX12_sight 66 = .ok (.goto 4, 3) := by decide +kernel
theorem dX12_sight_70 : decode cX12_sight 70 = .ok (.istore 7, 2) := by decide +kernel
theorem dX12_sight_72 : decode cX12_sight 72 = .ok (.iload 7, 2) := by decide +kernel
theorem dX12_sight_74 : decode cX12_sight 74 = .ok (.ifCond .eq 30, 3) := by decide +kernel
theorem dX12_sight_77 : decode cX12_sight 77 = .ok (.iload_n 1, 1) := by decide +kernel
theorem dX12_sight_78 : decode cX12_sight 78 = .ok (.ifCond .ne 17, 3) := by decide +kernel
theorem dX12_sight_95 : decode cX12_sight 95 = .ok (.aload_n 0, 1) := by decide +kernel
theorem dX12_sight_96 : decode cX12_sight 96 = .ok (.getfield 423, 3) := by decide +kernel
theorem dX12_sight_99 : decode cX12_sight 99 = .ok (.bipush 40, 2) := by decide +kernel
theorem dX12_sight_101 : decode cX12_sight 101 = .ok (.if_icmp .ne 5, 3) := by decide +kernel
theorem dX12_sight_106 : decode cX12_sight 106 = .ok (.aload_n 0, 1) := by decide +kernel
theorem dX12_sight_107 : decode cX12_sight 107 = .ok (.getfield 173, 3) := by decide +kernel
theorem dX12_sight_110 : decode cX12_sight 110 = .ok (.aload_n 0, 1) := by decide +kernel
theorem dX12_sight_111 : decode cX12_sight 111 = .ok (.getfield 423, 3) := by decide +kernel
theorem dX12_sight_114 : decode cX12_sight 114 = .ok (.iload_n 1, 1) := by decide +kernel
theorem dX12_sight_115 : decode cX12_sight 115 = .ok (.iastore, 1) := by decide +kernel
theorem dX12_sight_116 : decode cX12_sight 116 = .ok (.aload_n 0, 1) := by decide +kernel
theorem dX12_sight_117 : decode cX12_sight 117 = .ok (.getfield 176, 3) := by decide +kernel
theorem dX12_sight_120 : decode cX12_sight 120 = .ok (.aload_n 0, 1) := by decide +kernel
theorem dX12_sight_121 : decode cX12_sight 121 = .ok (.getfield 423, 3) := by decide +kernel
theorem dX12_sight_124 : decode cX12_sight 124 = .ok (.bipush 12, 2) := by decide +kernel
theorem dX12_sight_126 : decode cX12_sight 126 = .ok (.iload_n 3, 1) := by decide +kernel
theorem dX12_sight_127 : decode cX12_sight 127 = .ok (.imul, 1) := by decide +kernel
theorem dX12_sight_128 : decode cX12_sight 128 = .ok (.iload_n 2, 1) := by decide +kernel
theorem dX12_sight_129 : decode cX12_sight 129 = .ok (.iadd, 1) := by decide +kernel
theorem dX12_sight_130 : decode cX12_sight 130 = .ok (.iastore, 1) := by decide +kernel
theorem dX12_sight_131 : decode cX12_sight 131 = .ok (.aload_n 0, 1) := by decide +kernel
theorem dX12_sight_132 : decode cX12_sight 132 = .ok (.getfield 179, 3) := by decide +kernel
theorem dX12_sight_135 : decode cX12_sight 135 = .ok (.aload_n 0, 1) := by decide +kernel
theorem dX12_sight_136 : decode cX12_sight 136 = .ok (.getfield 423, 3) := by decide +kernel
theorem dX12_sight_139 : decode cX12_sight 139 = .ok (.iload 4, 2) := by decide +kernel
theorem dX12_sight_141 : decode cX12_sight 141 = .ok (.iastore, 1) := by decide +kernel
theorem dX12_sight_142 : decode cX12_sight 142 = .ok (.aload_n 0, 1) := by decide +kernel
theorem dX12_sight_143 : decode cX12_sight 143 = .ok (.getfield 182, 3) := by decide +kernel
theorem dX12_sight_146 : decode cX12_sight 146 = .ok (.aload_n 0, 1) := by decide +kernel
theorem dX12_sight_147 : decode cX12_sight 147 = .ok (.getfield 423, 3) := by decide +kernel
theorem dX12_sight_150 : decode cX12_sight 150 = .ok (.iload 5, 2) := by decide +kernel
theorem dX12_sight_152 : decode cX12_sight 152 = .ok (.iastore, 1) := by decide +kernel
theorem dX12_sight_153 : decode cX12_sight 153 = .ok (.aload_n 0, 1) := by decide +kernel
theorem dX12_sight_154 : decode cX12_sight 154 = .ok (.getfield 185, 3) := by decide +kernel
theorem dX12_sight_157 : decode cX12_sight 157 = .ok (.aload_n 0, 1) := by decide +kernel
theorem dX12_sight_158 : decode cX12_sight 158 = .ok (.getfield 423, 3) := by decide +kernel
theorem dX12_sight_161 : decode cX12_sight 161 = .ok (.iload 6, 2) := by decide +kernel
theorem dX12_sight_163 : decode cX12_sight 163 = .ok (.iastore, 1) := by decide +kernel
theorem dX12_sight_164 : decode cX12_sight 164 = .ok (.aload_n 0, 1) := by decide +kernel
theorem dX12_sight_165 : decode cX12_sight 165 = .ok (.getfield 188, 3) := by decide +kernel
theorem dX12_sight_168 : decode cX12_sight 168 = .ok (.aload_n 0, 1) := by decide +kernel
theorem dX12_sight_169 : decode cX12_sight 169 = .ok (.getfield 423, 3) := by decide +kernel
theorem dX12_sight_172 : decode cX12_sight 172 = .ok (.aload_n 0, 1) := by decide +kernel
theorem dX12_sight_173 : decode cX12_sight 173 = .ok (.getfield 342, 3) := by decide +kernel
theorem dX12_sight_176 : decode cX12_sight 176 = .ok (.iastore, 1) := by decide +kernel
theorem dX12_sight_177 : decode cX12_sight 177 = .ok (.aload_n 0, 1) := by decide +kernel
theorem dX12_sight_178 : decode cX12_sight 178 = .ok (.getfield 191, 3) := by decide +kernel
theorem dX12_sight_181 : decode cX12_sight 181 = .ok (.aload_n 0, 1) := by decide +kernel
theorem dX12_sight_182 : decode cX12_sight 182 = .ok (.getfield 423, 3) := by decide +kernel
theorem dX12_sight_185 : decode cX12_sight 185 = .ok (.iconst (-1), 1) := by decide +kernel
theorem dX12_sight_186 : decode cX12_sight 186 = .ok (.iastore, 1) := by decide +kernel
theorem dX12_sight_187 : decode cX12_sight 187 = .ok (.aload_n 0, 1) := by decide +kernel
theorem dX12_sight_188 : decode cX12_sight 188 = .ok (.getfield 194, 3) := by decide +kernel
theorem dX12_sight_191 : decode cX12_sight 191 = .ok (.aload_n 0, 1) := by decide +kernel
theorem dX12_sight_192 : decode cX12_sight 192 = .ok (.getfield 423, 3) := by decide +kernel
theorem dX12_sight_195 : decode cX12_sight 195 = .ok (.iconst (-1), 1) := by decide +kernel
theorem dX12_sight_196 : decode cX12_sight 196 = .ok (.iastore, 1) := by decide +kernel
theorem dX12_sight_197 : decode cX12_sight 197 = .ok (.aload_n 0, 1) := by decide +kernel
theorem dX12_sight_198 : decode cX12_sight 198 = .ok (.getfield 203, 3) := by decide +kernel
theorem dX12_sight_201 : decode cX12_sight 201 = .ok (.aload_n 0, 1) := by decide +kernel
theorem dX12_sight_202 : decode cX12_sight 202 = .ok (.getfield 423, 3) := by decide +kernel
theorem dX12_sight_205 : decode cX12_sight 205 = .ok (.iconst (-1), 1) := by decide +kernel
theorem dX12_sight_206 : decode cX12_sight 206 = .ok (.iastore, 1) := by decide +kernel
theorem dX12_sight_207 : decode cX12_sight 207 = .ok (.aload_n 0, 1) := by decide +kernel
theorem dX12_sight_208 : decode cX12_sight 208 = .ok (.dup, 1) := by decide +kernel
theorem dX12_sight_209 : decode cX12_sight 209 = .ok (.getfield 423, 3) := by decide +kernel
theorem dX12_sight_212 : decode cX12_sight 212 = .ok (.iconst 1, 1) := by decide +kernel
theorem dX12_sight_213 : decode cX12_sight 213 = .ok (.iadd, 1) := by decide +kernel
theorem dX12_sight_214 : decode cX12_sight 214 = .ok (.putfield 423, 3) := by decide +kernel
theorem dX12_sight_217 : decode cX12_sight 217 = .ok (.aload_n 0, 1) := by decide +kernel
theorem dX12_sight_218 : decode cX12_sight 218 = .ok (.iconst 1, 1) := by decide +kernel
theorem dX12_sight_219 : decode cX12_sight 219 = .ok (.putfield 290, 3) := by decide +kernel
theorem dX12_sight_222 : decode cX12_sight 222 = .ok (.aload_n 0, 1) := by decide +kernel
theorem dX12_sight_223 : decode cX12_sight 223 = .ok (.getfield 423, 3) := by decide +kernel
theorem dX12_sight_226 : decode cX12_sight 226 = .ok (.iconst 1, 1) := by decide +kernel
theorem dX12_sight_227 : decode cX12_sight 227 = .ok (.isub, 1) := by decide +kernel
theorem dX12_sight_228 : decode cX12_sight 228 = .ok (.ireturn, 1) := by decide +kernel
theorem dX12_sight_81 : decode cX12_sight 81 = .ok (.aload_n 0, 1) := by decide +kernel
theorem dX12_sight_82 : decode cX12_sight 82 = .ok (.getfield 164, 3) := by decide +kernel
theorem dX12_sight_85 : decode cX12_sight 85 = .ok (.bipush 12, 2) := by decide +kernel
theorem dX12_sight_87 : decode cX12_sight 87 = .ok (.iload_n 3, 1) := by decide +kernel
theorem dX12_sight_88 : decode cX12_sight 88 = .ok (.imul, 1) := by decide +kernel
theorem dX12_sight_89 : decode cX12_sight 89 = .ok (.iload_n 2, 1) := by decide +kernel
theorem dX12_sight_90 : decode cX12_sight 90 = .ok (.iadd, 1) := by decide +kernel
theorem dX12_sight_91 : decode cX12_sight 91 = .ok (.baload, 1) := by decide +kernel
theorem dX12_sight_92 : decode cX12_sight 92 = .ok (.ifCond .eq 12, 3) := by decide +kernel
theorem dX12_sight_69 : decode cX12_sight 69 = .ok (.iconst 0, 1) := by decide +kernel
theorem dX12_sight_104 : decode cX12_sight 104 = .ok (.iconst (-1), 1) := by decide +kernel
theorem dX12_sight_105 : decode cX12_sight 105 = .ok (.ireturn, 1) := by decide +kernel
theorem dX12_sight_30 : decode cX12_sight 30 = .ok (.iconst 0, 1) := by decide +kernel
theorem dX12_sight_31 : decode cX12_sight 31 = .ok (.goto 6, 3) := by decide +kernel
theorem dX11_drawn_0 : decode cX11_drawn 0 = .ok (.iload_n 2, 1) := by decide +kernel
theorem dX11_drawn_1 : decode cX11_drawn 1 = .ok (.iload_n 3, 1) := by decide +kernel
theorem dX11_drawn_2 : decode cX11_drawn 2 = .ok (.invokestatic 85, 3) := by decide +kernel
theorem dX11_drawn_5 : decode cX11_drawn 5 = .ok (.istore 4, 2) := by decide +kernel
theorem dX11_drawn_7 : decode cX11_drawn 7 = .ok (.iload 4, 2) := by decide +kernel
theorem dX11_drawn_9 : decode cX11_drawn 9 = .ok (.iconst (-1), 1) := by decide +kernel
theorem dX11_drawn_10 : decode cX11_drawn 10 = .ok (.if_icmp .eq 11, 3) := by decide +kernel
theorem dX11_drawn_21 : decode cX11_drawn 21 = .ok (.iconst (-1), 1) := by decide +kernel
theorem dX11_drawn_22 : decode cX11_drawn 22 = .ok (.goto 15, 3) := by decide +kernel
theorem dX11_drawn_37 : decode cX11_drawn 37 = .ok (.ireturn, 1) := by decide +kernel
theorem dX11_drawn_13 : decode cX11_drawn 13 = .ok (.aload_n 0, 1) := by decide +kernel
theorem dX11_drawn_14 : decode cX11_drawn 14 = .ok (.iload_n 1, 1) := by decide +kernel
theorem dX11_drawn_15 : decode cX11_drawn 15 = .ok (.invokevirtual 312, 3) := by decide +kernel
theorem dX11_drawn_18 : decode cX11_drawn 18 = .ok (.ifCond .ne 7, 3) := by decide +kernel
theorem dX12_drawn_0 : decode cX12_drawn 0 = .ok (.aload_n 0, 1) := by decide +kernel
theorem dX12_drawn_1 : decode cX12_drawn 1 = .ok (.iconst 0, 1) := by decide +kernel
theorem dX12_drawn_2 : decode cX12_drawn 2 = .ok (.putfield 1, 3) := by decide +kernel
theorem dX12_drawn_5 : decode cX12_drawn 5 = .ok (.aload_n 0, 1) := by decide +kernel
theorem dX12_drawn_6 : decode cX12_drawn 6 = .ok (.iload_n 1, 1) := by decide +kernel
theorem dX12_drawn_7 : decode cX12_drawn 7 = .ok (.invokevirtual 606, 3) := by decide +kernel
theorem dX12_drawn_10 : decode cX12_drawn 10 = .ok (.ifCond .eq 30, 3) := by decide +kernel
theorem dX12_drawn_40 : decode cX12_drawn 40 = .ok (.iconst (-1), 1) := by decide +kernel
theorem dX12_drawn_41 : decode cX12_drawn 41 = .ok (.ireturn, 1) := by decide +kernel
theorem dX11_quarrel_0 : decode cX11_quarrel 0 = .ok (.aload_n 0, 1) := by decide +kernel
theorem dX11_quarrel_1 : decode cX11_quarrel 1 = .ok (.iload_n 1, 1) := by decide +kernel
theorem dX11_quarrel_2 : decode cX11_quarrel 2 = .ok (.invokevirtual 312, 3) := by decide +kernel
theorem dX11_quarrel_5 : decode cX11_quarrel 5 = .ok (.ifCond .eq 11, 3) := by decide +kernel
theorem dX11_quarrel_16 : decode cX11_quarrel 16 = .ok (.iconst (-1), 1) := by decide +kernel
theorem dX11_quarrel_17 : decode cX11_quarrel 17 = .ok (.ireturn, 1) := by decide +kernel
theorem dX12_quarrel_0 : decode cX12_quarrel 0 = .ok (.aload_n 0, 1) := by decide +kernel
theorem dX12_quarrel_1 : decode cX12_quarrel 1 = .ok (.iconst 0, 1) := by decide +kernel
theorem dX12_quarrel_2 : decode cX12_quarrel 2 = .ok (.putfield 1, 3) := by decide +kernel
theorem dX12_quarrel_5 : decode cX12_quarrel 5 = .ok (.aload_n 0, 1) := by decide +kernel
theorem dX12_quarrel_6 : decode cX12_quarrel 6 = .ok (.iload_n 1, 1) := by decide +kernel
theorem dX12_quarrel_7 : decode cX12_quarrel 7 = .ok (.invokevirtual 606, 3) := by decide +kernel
theorem dX12_quarrel_10 : decode cX12_quarrel 10 = .ok (.ifCond .eq 11, 3) := by decide +kernel
theorem dX12_quarrel_21 : decode cX12_quarrel 21 = .ok (.iconst (-1), 1) := by decide +kernel
theorem dX12_quarrel_22 : decode cX12_quarrel 22 = .ok (.ireturn, 1) := by decide +kernel
theorem dX11_question_0 : decode cX11_question 0 = .ok (.iload_n 1, 1) := by decide +kernel
theorem dX11_question_1 : decode cX11_question 1 = .ok (.iload_n 2, 1) := by decide +kernel
theorem dX11_question_2 : decode cX11_question 2 = .ok (.invokestatic 85, 3) := by decide +kernel
theorem dX11_question_5 : decode cX11_question 5 = .ok (.istore 4, 2) := by decide +kernel
theorem dX11_question_7 : decode cX11_question 7 = .ok (.iload 4, 2) := by decide +kernel
theorem dX11_question_9 : decode cX11_question 9 = .ok (.iconst (-1), 1) := by decide +kernel
theorem dX11_question_10 : decode cX11_question 10 = .ok (.if_icmp .ne 5, 3) := by decide +kernel
theorem dX11_question_13 : decode cX11_question 13 = .ok (.iconst 0, 1) := by decide +kernel
theorem dX11_question_14 : decode cX11_question 14 = .ok (.ireturn, 1) := by decide +kernel
theorem dX11_question_15 : decode cX11_question 15 = .ok (.aload_n 0, 1) := by decide +kernel
theorem dX11_question_16 : decode cX11_question 16 = .ok (.getfield 16, 3) := by decide +kernel
theorem dX11_question_19 : decode cX11_question 19 = .ok (.getfield 331, 3) := by decide +kernel
theorem dX11_question_22 : decode cX11_question 22 = .ok (.iload 4, 2) := by decide +kernel
theorem dX11_question_24 : decode cX11_question 24 = .ok (.baload, 1) := by decide +kernel
theorem dX11_question_25 : decode cX11_question 25 = .ok (.iload_n 3, 1) := by decide +kernel
theorem dX11_question_26 : decode cX11_question 26 = .ok (.if_icmp .ne 5, 3) := by decide +kernel
theorem dX11_question_31 : decode cX11_question 31 = .ok (.iload_n 3, 1) := by decide +kernel
theorem dX11_question_32 : decode cX11_question 32 = .ok (.ifCond .eq 17, 3) := by decide +kernel
theorem dX11_question_49 : decode cX11_question 49 = .ok (.aload_n 0, 1) := by decide +kernel
theorem dX11_question_50 : decode cX11_question 50 = .ok (.getfield 16, 3) := by decide +kernel
theorem dX11_question_53 : decode cX11_question 53 = .ok (.getfield 331, 3) := by decide +kernel
theorem dX11_question_56 : decode cX11_question 56 = .ok (.iload 4, 2) := by decide +kernel
theorem dX11_question_58 : decode cX11_question 58 = .ok (.iload_n 3, 1) := by decide +kernel
theorem dX11_question_59 : decode cX11_question 59 = .ok (.bastore, 1) := by decide +kernel
theorem dX11_question_60 : decode cX11_question 60 = .ok (.aload_n 0, 1) := by decide +kernel
theorem dX11_question_61 : decode cX11_question 61 = .ok (.getfield 16, 3) := by decide +kernel
theorem dX11_question_64 : decode cX11_question 64 = .ok (.dup, 1) := by decide +kernel
theorem dX11_question_65 : decode cX11_question 65 = .ok (.getfield 334, 3) := by decide +kernel
theorem dX11_question_68 : decode cX11_question 68 = .ok (.iload_n 3, 1) := by decide +kernel
theorem dX11_question_69 : decode cX11_question 69 = .ok (.ifCond .eq 7, 3) := by decide +kernel
theorem dX11_question_76 : decode cX11_question 76 = .ok (.iconst (-1), 1) := by decide +kernel
theorem dX11_question_77 : decode cX11_question 77 = .ok (.iadd, 1) := by decide +kernel
theorem dX11_question_78 : decode cX11_question 78 = .ok (.putfield 334, 3) := by decide +kernel
theorem dX11_question_81 : decode cX11_question 81 = .ok (.iconst 1, 1) := by decide +kernel
theorem dX11_question_82 : decode cX11_question 82 = .ok (.ireturn, 1) := by decide +kernel
theorem dX11_question_72 : decode cX11_question 72 = .ok (.iconst 1, 1) := by decide +kernel
theorem dX11_question_73 : decode cX11_question 73 = .ok (.goto 4, 3) := by decide +kernel
theorem dX11_question_35 : decode cX11_question 35 = .ok (.aload_n 0, 1) := by decide +kernel
theorem dX11_question_36 : decode cX11_question 36 = .ok (.getfield 16, 3) := by decide +kernel
theorem dX11_question_39 : decode cX11_question 39 = .ok (.getfield 334, 3) := by decide +kernel
theorem dX11_question_42 : decode cX11_question 42 = .ok (.bipush 8, 2) := by decide +kernel
theorem dX11_question_44 : decode cX11_question 44 = .ok (.if_icmp .lt 5, 3) := by decide +kernel
theorem dX11_question_29 : decode cX11_question 29 = .ok (.iconst 1, 1) := by decide +kernel
theorem dX11_question_30 : decode cX11_question 30 = .ok (.ireturn, 1) := by decide +kernel
theorem dX12_question_0 : decode cX12_question 0 = .ok (.aload_n 0, 1) := by decide +kernel
theorem dX12_question_1 : decode cX12_question 1 = .ok (.iconst 0, 1) := by decide +kernel
theorem dX12_question_2 : decode cX12_question 2 = .ok (.putfield 1, 3) := by decide +kernel
theorem dX12_question_5 : decode cX12_question 5 = .ok (.iload_n 1, 1) := by decide +kernel
theorem dX12_question_6 : decode cX12_question 6 = .ok (.iload_n 2, 1) := by decide +kernel
theorem dX12_question_7 : decode cX12_question 7 = .ok (.invokestatic 419, 3) := by decide +kernel
theorem dX12_question_10 : decode cX12_question 10 = .ok (.ifCond .eq 30, 3) := by decide +kernel
theorem dX12_question_13 : decode cX12_question 13 = .ok (.iload_n 3, 1) := by decide +kernel
theorem dX12_question_14 : decode cX12_question 14 = .ok (.ifCond .eq 28, 3) := by decide +kernel
theorem dX12_question_42 : decode cX12_question 42 = .ok (.aload_n 0, 1) := by decide +kernel
theorem dX12_question_43 : decode cX12_question 43 = .ok (.getfield 275, 3) := by decide +kernel
theorem dX12_question_46 : decode cX12_question 46 = .ok (.bipush 12, 2) := by decide +kernel
theorem dX12_question_48 : decode cX12_question 48 = .ok (.iload_n 2, 1) := by decide +kernel
theorem dX12_question_49 : decode cX12_question 49 = .ok (.imul, 1) := by decide +kernel
theorem dX12_question_50 : decode cX12_question 50 = .ok (.iload_n 1, 1) := by decide +kernel
theorem dX12_question_51 : decode cX12_question 51 = .ok (.iadd, 1) := by decide +kernel
theorem dX12_question_52 : decode cX12_question 52 = .ok (.iload_n 3, 1) := by decide +kernel
theorem dX12_question_53 : decode cX12_question 53 = .ok (.bastore, 1) := by decide +kernel
theorem dX12_question_54 : decode cX12_question 54 = .ok (.iconst 1, 1) := by decide +kernel
theorem dX12_question_55 : decode cX12_question 55 = .ok (.ireturn, 1) := by decide +kernel
theorem dX12_question_17 : decode cX12_question 17 = .ok (.aload_n 0, 1) := by decide +kernel
theorem dX12_question_18 : decode cX12_question 18 = .ok (.getfield 275, 3) := by decide +kernel
theorem dX12_question_21 : decode cX12_question 21 = .ok (.bipush 12, 2) := by decide +kernel
theorem dX12_question_23 : decode cX12_question 23 = .ok (.iload_n 2, 1) := by decide +kernel
theorem dX12_question_24 : decode cX12_question 24 = .ok (.imul, 1) := by decide +kernel
theorem dX12_question_25 : decode cX12_question 25 = .ok (.iload_n 1, 1) := by decide +kernel
theorem dX12_question_26 : decode cX12_question 26 = .ok (.iadd, 1) := by decide +kernel
theorem dX12_question_27 : decode cX12_question 27 = .ok (.baload, 1) := by decide +kernel
theorem dX12_question_28 : decode cX12_question 28 = .ok (.ifCond .ne 14, 3) := by decide +kernel
theorem dX12_question_31 : decode cX12_question 31 = .ok (.aload_n 0, 1) := by decide +kernel
theorem dX12_question_32 : decode cX12_question 32 = .ok (.invokevirtual 612, 3) := by decide +kernel
theorem dX12_question_35 : decode cX12_question 35 = .ok (.bipush 8, 2) := by decide +kernel
theorem dX12_question_37 : decode cX12_question 37 = .ok (.if_icmp .ne 5, 3) := by decide +kernel
theorem dX12_question_40 : decode cX12_question 40 = .ok (.iconst 0, 1) := by decide +kernel
theorem dX12_question_41 : decode cX12_question 41 = .ok (.ireturn, 1) := by decide +kernel
theorem dX11_place_0 : decode cX11_place 0 = .ok (.iload_n 1, 1) := by decide +kernel
theorem dX11_place_1 : decode cX11_place 1 = .ok (.iload_n 2, 1) := by decide +kernel
theorem dX11_place_2 : decode cX11_place 2 = .ok (.invokestatic 85, 3) := by decide +kernel
theorem dX11_place_5 : decode cX11_place 5 = .ok (.istore 4, 2) := by decide +kernel
theorem dX11_place_7 : decode cX11_place 7 = .ok (.iload 4, 2) := by decide +kernel
theorem dX11_place_9 : decode cX11_place 9 = .ok (.iconst (-1), 1) := by decide +kernel
theorem dX11_place_10 : decode cX11_place 10 = .ok (.if_icmp .eq 26, 3) := by decide +kernel
theorem dX11_place_36 : decode cX11_place 36 = .ok (.iconst (-1), 1) := by decide +kernel
theorem dX11_place_37 : decode cX11_place 37 = .ok (.ireturn, 1) := by decide +kernel
theorem dX11_place_13 : decode cX11_place 13 = .ok (.iload_n 3, 1) := by decide +kernel
theorem dX11_place_14 : decode cX11_place 14 = .ok (.iconst 1, 1) := by decide +kernel
theorem dX11_place_15 : decode cX11_place 15 = .ok (.if_icmp .lt 21, 3) := by decide +kernel
theorem dX11_place_18 : decode cX11_place 18 = .ok (.iload_n 3, 1) := by decide +kernel
theorem dX11_place_19 : decode cX11_place 19 = .ok (.bipush 99, 2) := by decide +kernel
theorem dX11_place_21 : decode cX11_place 21 = .ok (.if_icmp .gt 15, 3) := by decide +kernel
theorem dX11_place_24 : decode cX11_place 24 = .ok (.aload_n 0, 1) := by decide +kernel
theorem dX11_place_25 : decode cX11_place 25 = .ok (.getfield 16, 3) := by decide +kernel
theorem dX11_place_28 : decode cX11_place 28 = .ok (.getfield 337, 3) := by decide +kernel
theorem dX11_place_31 : decode cX11_place 31 = .ok (.bipush 8, 2) := by decide +kernel
theorem dX11_place_33 : decode cX11_place 33 = .ok (.if_icmp .lt 5, 3) := by decide +kernel
theorem dX11_place_38 : decode cX11_place 38 = .ok (.aload_n 0, 1) := by decide +kernel
theorem dX11_place_39 : decode cX11_place 39 = .ok (.getfield 16, 3) := by decide +kernel
theorem dX11_place_42 : decode cX11_place 42 = .ok (.getfield 340, 3) := by decide +kernel
theorem dX11_place_45 : decode cX11_place 45 = .ok (.aload_n 0, 1) := by decide +kernel
theorem dX11_place_46 : decode cX11_place 46 = .ok (.getfield 16, 3) := by decide +kernel
theorem dX11_place_49 : decode cX11_place 49 = .ok (.getfield 337, 3) := by decide +kernel
theorem dX11_place_52 : decode cX11_place 52 = .ok (.iload 4, 2) := by decide +kernel
theorem dX11_place_54 : decode cX11_place 54 = .ok (.iastore, 1) := by decide +kernel
theorem dX11_place_55 : decode cX11_place 55 = .ok (.aload_n 0, 1) := by decide +kernel
theorem dX11_place_56 : decode cX11_place 56 = .ok (.getfield 16, 3) := by decide +kernel
theorem dX11_place_59 : decode cX11_place 59 = .ok (.getfield 343, 3) := by decide +kernel
theorem dX11_place_62 : decode cX11_place 62 = .ok (.aload_n 0, 1) := by decide +kernel
theorem dX11_place_63 : decode cX11_place 63 = .ok (.getfield 16, 3) := by decide +kernel
theorem dX11_place_66 : decode cX11_place 66 = .ok (.getfield 337, 3) := by decide +kernel
theorem dX11_place_69 : decode cX11_place 69 = .ok (.iload_n 3, 1) := by decide +kernel
theorem dX11_place_70 : decode cX11_place 70 = .ok (.iastore, 1) := by decide +kernel
theorem dX11_place_71 : decode cX11_place 71 = .ok (.aload_n 0, 1) := by decide +kernel
theorem dX11_place_72 : decode cX11_place 72 = .ok (.getfield 16, 3) := by decide +kernel
theorem dX11_place_75 : decode cX11_place 75 = .ok (.dup, 1) := by decide +kernel
theorem dX11_place_76 : decode cX11_place 76 = .ok (.getfield 337, 3) := by decide +kernel
theorem dX11_place_79 : decode cX11_place 79 = .ok (.dup_x1, 1) := by decide +kernel
theorem dX11_place_80 : decode cX11_place 80 = .ok (.iconst 1, 1) := by decide +kernel
theorem dX11_place_81 : decode cX11_place 81 = .ok (.iadd, 1) := by decide +kernel
theorem dX11_place_82 : decode cX11_place 82 = .ok (.putfield 337, 3) := by decide +kernel
theorem dX11_place_85 : decode cX11_place 85 = .ok (.ireturn, 1) := by decide +kernel
theorem dX12_place_0 : decode cX12_place 0 = .ok (.aload_n 0, 1) := by decide +kernel
theorem dX12_place_1 : decode cX12_place 1 = .ok (.iconst 0, 1) := by decide +kernel
theorem dX12_place_2 : decode cX12_place 2 = .ok (.putfield 1, 3) := by decide +kernel
theorem dX12_place_5 : decode cX12_place 5 = .ok (.iload_n 1, 1) := by decide +kernel
theorem dX12_place_6 : decode cX12_place 6 = .ok (.iload_n 2, 1) := by decide +kernel
theorem dX12_place_7 : decode cX12_place 7 = .ok (.invokestatic 419, 3) := by decide +kernel
theorem dX12_place_10 : decode cX12_place 10 = .ok (.ifCond .eq 22, 3) := by decide +kernel
theorem dX12_place_13 : decode cX12_place 13 = .ok (.iload_n 3, 1) := by decide +kernel
theorem dX12_place_14 : decode cX12_place 14 = .ok (.iconst 1, 1) := by decide +kernel
theorem dX12_place_15 : decode cX12_place 15 = .ok (.bipush 99, 2) := by decide +kernel
theorem dX12_place_17 : decode cX12_place 17 = .ok (.invokestatic 415, 3) := by decide +kernel
theorem dX12_place_20 : decode cX12_place 20 = .ok (.ifCond .eq 12, 3) := by decide +kernel
theorem dX12_place_23 : decode cX12_place 23 = .ok (.aload_n 0, 1) := by decide +kernel
theorem dX12_place_24 : decode cX12_place 24 = .ok (.getfield 615, 3) := by decide +kernel
theorem dX12_place_27 : decode cX12_place 27 = .ok (.bipush 8, 2) := by decide +kernel
theorem dX12_place_29 : decode cX12_place 29 = .ok (.if_icmp .ne 5, 3) := by decide +kernel
theorem dX12_place_34 : decode cX12_place 34 = .ok (.aload_n 0, 1) := by decide +kernel
theorem dX12_place_35 : decode cX12_place 35 = .ok (.getfield 278, 3) := by decide +kernel
theorem dX12_place_38 : decode cX12_place 38 = .ok (.aload_n 0, 1) := by decide +kernel
theorem dX12_place_39 : decode cX12_place 39 = .ok (.getfield 615, 3) := by decide +kernel
theorem dX12_place_42 : decode cX12_place 42 = .ok (.bipush 12, 2) := by decide +kernel
theorem dX12_place_44 : decode cX12_place 44 = .ok (.iload_n 2, 1) := by decide +kernel
theorem dX12_place_45 : decode cX12_place 45 = .ok (.imul, 1) := by decide +kernel
theorem dX12_place_46 : decode cX12_place 46 = .ok (.iload_n 1, 1) := by decide +kernel
theorem dX12_place_47 : decode cX12_place 47 = .ok (.iadd, 1) := by decide +kernel
theorem dX12_place_48 : decode cX12_place 48 = .ok (.iastore, 1) := by decide +kernel
theorem dX12_place_49 : decode cX12_place 49 = .ok (.aload_n 0, 1) := by decide +kernel
theorem dX12_place_50 : decode cX12_place 50 = .ok (.getfield 281, 3) := by decide +kernel
theorem dX12_place_53 : decode cX12_place 53 = .ok (.aload_n 0, 1) := by decide +kernel
theorem dX12_place_54 : decode cX12_place 54 = .ok (.getfield 615, 3) := by decide +kernel
theorem dX12_place_57 : decode cX12_place 57 = .ok (.iload_n 3, 1) := by decide +kernel
theorem dX12_place_58 : decode cX12_place 58 = .ok (.iastore, 1) := by decide +kernel
theorem dX12_place_59 : decode cX12_place 59 = .ok (.aload_n 0, 1) := by decide +kernel
theorem dX12_place_60 : decode cX12_place 60 = .ok (.dup, 1) := by decide +kernel
theorem dX12_place_61 : decode cX12_place 61 = .ok (.getfield 615, 3) := by decide +kernel
theorem dX12_place_64 : decode cX12_place 64 = .ok (.iconst 1, 1) := by decide +kernel
theorem dX12_place_65 : decode cX12_place 65 = .ok (.iadd, 1) := by decide +kernel
theorem dX12_place_66 : decode cX12_place 66 = .ok (.putfield 615, 3) := by decide +kernel
theorem dX12_place_69 : decode cX12_place 69 = .ok (.aload_n 0, 1) := by decide +kernel
theorem dX12_place_70 : decode cX12_place 70 = .ok (.getfield 615, 3) := by decide +kernel
theorem dX12_place_73 : decode cX12_place 73 = .ok (.iconst 1, 1) := by decide +kernel
theorem dX12_place_74 : decode cX12_place 74 = .ok (.isub, 1) := by decide +kernel
theorem dX12_place_75 : decode cX12_place 75 = .ok (.ireturn, 1) := by decide +kernel
theorem dX12_place_32 : decode cX12_place 32 = .ok (.iconst (-1), 1) := by decide +kernel
theorem dX12_place_33 : decode cX12_place 33 = .ok (.ireturn, 1) := by decide +kernel
set_option maxHeartbeats 4000000 in
set_option maxRecDepth 100000 in
theorem kX11_init (l : Launch) (D : va_G) (cy : Nat → ClassId) (a : Nat) : CV l D cy yX11_init cX11_init 1 none 3 63 43 5291 [.ref a] [(a, .inr (10, [.int 0, .int 0, .null, .null, .int 0, .null, .null, .null, .null, .int 0, .int 0, .null, .int 0, .null, .null, .int 0, .int 0, .null, .null]))] (fun (u : (Nat → Nat)) => True) (fun (u : (Nat → Nat)) => [((u 0), .inr (10, [.int 0, .int (-1), .ref (u 1), .ref (u 9), .int 0, .ref (u 10), .ref (u 13), .ref (u 16), .ref (u 29), .int 0, .int 0, .ref (u 30), .int 0, .ref (u 31), .ref (u 42), .int 0, .int 0, .null, .ref (u 43)])), ((u 1), .inr (2, [.ref (u 2), .ref (u 3), .ref (u 4), .ref (u 5), .ref (u 6), .int 0, .ref (u 7), .ref (u 8), .int 0])), ((u 2), .inl (cy 0, 96, .inl (fun _ => 500))), ((u 3), .inl (cy 1, 96, .inl (fun _ => 0))), ((u 4), .inl (cy 1, 96, .inl (fun _ => 0))), ((u 5), .inl (cy 0, 96, .inl (fun _ => (-1)))), ((u 6), .inl (cy 1, 96, .inl (fun _ => 0))), ((u 7), .inl (cy 0, 8, .inl (fun _ => 0))), ((u 8), .inl (cy 0, 8, .inl (fun _ => 0))), ((u 9), .inl (cy 4, 40, .inr (.inr (.inr (.inr (fun _ => none)))))), ((u 10), .inr (3, [.ref (u 11), .int 0, .int 0, .int 0, .int 0, .long 0, .null, .int 0, .int 0, .int 0, .int 0, .ref (u 12), .int 0, .null])), ((u 11), .inl (cy 3, 1500, .inl (fun _ => 0))), ((u 12), .inl (cy 0, 1500, .inl (fun _ => 0))), ((u 13), .inr (4, [.ref (u 14), .ref (u 15), .int 0, .ref (u 16)])), ((u 14), .inl (cy 0, 8, .inl (fun _ => 0))), ((u 15), .inl (cy 8, 8, .inr (.inr (.inr (.inr (fun _ => none)))))), ((u 16), .inr (5, [.int 0, .ref (u 17), .ref (u 18), .ref (u 19), .ref (u 20), .ref (u 21), .int 0, .int 10, .int 20, .int 0, .int 0, .ref (u 22), .ref (u 23), .int 0, .ref (u 24), .ref (u 25), .ref (u 26), .ref (u 27), .ref (u 28)])), ((u 17), .inl (cy 2, 10, .inr (.inl (fun _ => 0)))), ((u 18), .inl (cy 0, 10, .inl (fun _ => 0))), ((u 19), .inl (cy 0, 10, .inl (fun _ => 0))), ((u 20), .inl (cy 0, 20, .inl (fun _ => 0))), ((u 21), .inl (cy 0, 20, .inl (fun _ => 0))), ((u 22), .inl (cy 0, 10, .inl (fun _ => (-1)))), ((u 23), .inl (cy 0, 10, .inl (fun _ => 0))), ((u 24), .inl (cy 0, 24, .inl (fun _ => 0))), ((u 25), .inl (cy 0, 24, .inl (fun _ => 0))), ((u 26), .inl (cy 0, 24, .inl (fun _ => 0))), ((u 27), .inl (cy 0, 0, .inl (fun _ => 0))), ((u 28), .inl (cy 0, 32, .inl (fun _ => 0))), ((u 29), .inl (cy 5, 4, .inr (.inr (.inr (.inr (fun _ => none)))))), ((u 30), .inl (cy 6, 10, .inr (.inr (.inr (.inr (fun _ => none)))))), ((u 31), .inr (6, [.ref (u 32), .ref (u 9), .ref (u 29), .int 0, .int 0, .int 0, .ref (u 36), .ref (u 37), .ref (u 38), .ref (u 39), .ref (u 40), .ref (u 41), .int 0])), ((u 32), .inr (9, [.ref (u 33), .ref (u 34), .ref (u 35), .int 0])), ((u 33), .inl (cy 0, 384, .inl (fun _ => 0))), ((u 34), .inl (cy 2, 384, .inr (.inl (fun _ => 0)))), ((u 35), .inl (cy 0, 96, .inl (fun _ => 0))), ((u 36), .inl (cy 0, 96, .inl (fun _ => 0))), ((u 37), .inl (cy 0, 96, .inl (fun _ => 0))), ((u 38), .inl (cy 0, 96, .inl (fun _ => 0))), ((u 39), .inl (cy 2, 96, .inr (.inl (fun _ => 0)))), ((u 40), .inl (cy 2, 96, .inr (.inl (fun _ => 0)))), ((u 41), .inl (cy 0, 96, .inl (fun _ => 0))), ((u 42), .inl (cy 7, 16, .inr (.inr (.inr (.inr (fun _ => none)))))), ((u 43), .inl (cy 0, 12, .inl (fun _ => 0)))]) := by
  refine cv_go (by decide) (Nat.le_of_ble_eq_true rfl) (fun p e s m below meth c ls A hA S hr hlk hnm hP hK hD hl => ?_)
  have hS : va_S A s.heap s.heap [] := va_S.rf
  have hl : lv_has ls 1 [(0, .ref a)] := hl
  refine lv_aload_n S.1 S.2.1 dX11_init_0 rfl (lv_at hl 0 rfl) ?_
  refine r_oinit S kw_177 kw_178 kw_oi hl.1 dX11_init_1 (by decide) (Nat.le_of_ble_eq_true rfl) ?_
  refine lv_aload_n S.1 S.2.1 dX11_init_4 rfl (lv_at hl 0 rfl) ?_
  refine lv_iconst (v := (-1)) S.1 S.2.1 dX11_init_5 (by decide) ?_
  refine r_put S hK hP hD hS 0 10 rfl rfl inX11 1 (by decide) tyX11 tyX11_ok nmX11 kw_469 (v := .int (-1)) rfl rfl rfl (Nat.le_of_ble_eq_true rfl) dX11_init_6 (fun H locs hP hD hS => ?_)
  have hP : va_P D vwCl [(a, .inr (10, [.int 0, .int (-1), .null, .null, .int 0, .null, .null, .null, .null, .int 0, .int 0, .null, .int 0, .null, .null, .int 0, .int 0, .null, .null]))] H := hP
  have hD : va_D A [(a, .inr (10, [.int 0, .int (-1), .null, .null, .int 0, .null, .null, .null, .null, .int 0, .int 0, .null, .int 0, .null, .null, .int 0, .int 0, .null, .null]))] := hD
  refine lv_aload_n S.1 S.2.1 dX11_init_9 rfl (lv_at hl 0 rfl) ?_
  refine r_new S (ci := 2) inX2 tyX2 tyX2_ok kw_180 kw_181 kw_145 hK hP hD hS hA rfl (fs := [.null, .null, .null, .null, .null, .int 0, .null, .null, .int 0]) rfl (by decide) (by decide) dX11_init_10 (fun a10_1 H hP hD hS => ?_)
  have hP : va_P D vwCl [(a, .inr (10, [.int 0, .int (-1), .null, .null, .int 0, .null, .null, .null, .null, .int 0, .int 0, .null, .int 0, .null, .null, .int 0, .int 0, .null, .null])), (a10_1, .inr (2, [.null, .null, .null, .null, .null, .int 0, .null, .null, .int 0]))] H := hP
  have hD : va_D A [(a, .inr (10, [.int 0, .int (-1), .null, .null, .int 0, .null, .null, .null, .null, .int 0, .int 0, .null, .int 0, .null, .null, .int 0, .int 0, .null, .null])), (a10_1, .inr (2, [.null, .null, .null, .null, .null, .int 0, .null, .null, .int 0]))] := hD
  refine lv_dup S.1 S.2.1 dX11_init_13 rfl ?_
  refine call_v (wr := [(a, .inr (10, [.int 0, .int (-1), .null, .null, .int 0, .null, .null, .null, .null, .int 0, .int 0, .null, .int 0, .null, .null, .int 0, .int 0, .null, .null]))]) (runI_C (wc := [(a10_1, .inr (2, [.null, .null, .null, .null, .null, .int 0, .null, .null, .int 0]))]) (As := []) (rest := [.ref a10_1, .ref a]) S (kX2_init l D cy a10_1) hK hP hD [1] (by decide) rfl kw_182 kw_183 kw_145 kw_184 okX2_init rfl rfl (by decide) hl.1 rfl (Nat.le_of_ble_eq_true rfl) dX11_init_14 (by decide)) hP hD hS hA [1] [0] rfl rfl (by decide) (by decide) (fun u14 H locs w14 hP hD hS => ?_)
  obtain ⟨height_14, covered_14, turned_14, owner_14, asked_14, placeCell_14, placeCost_14⟩ := u14
  have hP : va_P D vwCl [(a, .inr (10, [.int 0, .int (-1), .null, .null, .int 0, .null, .null, .null, .null, .int 0, .int 0, .null, .int 0, .null, .null, .int 0, .int 0, .null, .null])), (a10_1, .inr (2, [.ref height_14, .ref covered_14, .ref turned_14, .ref owner_14, .ref asked_14, .int 0, .ref placeCell_14, .ref placeCost_14, .int 0])), (height_14, .inl (cy 0, 96, .inl (fun _ => 500))), (covered_14, .inl (cy 1, 96, .inl (fun _ => 0))), (turned_14, .inl (cy 1, 96, .inl (fun _ => 0))), (owner_14, .inl (cy 0, 96, .inl (fun _ => (-1)))), (asked_14, .inl (cy 1, 96, .inl (fun _ => 0))), (placeCell_14, .inl (cy 0, 8, .inl (fun _ => 0))), (placeCost_14, .inl (cy 0, 8, .inl (fun _ => 0)))] H := hP
  have hD : va_D A [(a, .inr (10, [.int 0, .int (-1), .null, .null, .int 0, .null, .null, .null, .null, .int 0, .int 0, .null, .int 0, .null, .null, .int 0, .int 0, .null, .null])), (a10_1, .inr (2, [.ref height_14, .ref covered_14, .ref turned_14, .ref owner_14, .ref asked_14, .int 0, .ref placeCell_14, .ref placeCost_14, .int 0])), (height_14, .inl (cy 0, 96, .inl (fun _ => 500))), (covered_14, .inl (cy 1, 96, .inl (fun _ => 0))), (turned_14, .inl (cy 1, 96, .inl (fun _ => 0))), (owner_14, .inl (cy 0, 96, .inl (fun _ => (-1)))), (asked_14, .inl (cy 1, 96, .inl (fun _ => 0))), (placeCell_14, .inl (cy 0, 8, .inl (fun _ => 0))), (placeCost_14, .inl (cy 0, 8, .inl (fun _ => 0)))] := hD
  refine r_putF S hK hP hD hS 0 10 rfl rfl inX11 2 (by decide) tyX11 tyX11_ok nmX11 kw_470 (v := .ref a10_1) rfl hnm rfl rfl rfl (Nat.le_of_ble_eq_true rfl) dX11_init_17 (fun H locs hP hD hS => ?_)
  have hP : va_P D vwCl [(a, .inr (10, [.int 0, .int (-1), .ref a10_1, .null, .int 0, .null, .null, .null, .null, .int 0, .int 0, .null, .int 0, .null, .null, .int 0, .int 0, .null, .null])), (a10_1, .inr (2, [.ref height_14, .ref covered_14, .ref turned_14, .ref owner_14, .ref asked_14, .int 0, .ref placeCell_14, .ref placeCost_14, .int 0])), (height_14, .inl (cy 0, 96, .inl (fun _ => 500))), (covered_14, .inl (cy 1, 96, .inl (fun _ => 0))), (turned_14, .inl (cy 1, 96, .inl (fun _ => 0))), (owner_14, .inl (cy 0, 96, .inl (fun _ => (-1)))), (asked_14, .inl (cy 1, 96, .inl (fun _ => 0))), (placeCell_14, .inl (cy 0, 8, .inl (fun _ => 0))), (placeCost_14, .inl (cy 0, 8, .inl (fun _ => 0)))] H := hP
  have hD : va_D A [(a, .inr (10, [.int 0, .int (-1), .ref a10_1, .null, .int 0, .null, .null, .null, .null, .int 0, .int 0, .null, .int 0, .null, .null, .int 0, .int 0, .null, .null])), (a10_1, .inr (2, [.ref height_14, .ref covered_14, .ref turned_14, .ref owner_14, .ref asked_14, .int 0, .ref placeCell_14, .ref placeCost_14, .int 0])), (height_14, .inl (cy 0, 96, .inl (fun _ => 500))), (covered_14, .inl (cy 1, 96, .inl (fun _ => 0))), (turned_14, .inl (cy 1, 96, .inl (fun _ => 0))), (owner_14, .inl (cy 0, 96, .inl (fun _ => (-1)))), (asked_14, .inl (cy 1, 96, .inl (fun _ => 0))), (placeCell_14, .inl (cy 0, 8, .inl (fun _ => 0))), (placeCost_14, .inl (cy 0, 8, .inl (fun _ => 0)))] := hD
  refine lv_aload_n S.1 S.2.1 dX11_init_20 rfl (lv_at hl 0 rfl) ?_
  refine lv_bipush (v := 40) S.1 S.2.1 dX11_init_21 (by decide) ?_
  refine r_newq S kw_226 hK.2.1.1 hK hP hD hS hA 4 rfl (by decide) (N' := 40) (by decide) (by decide) (by decide) (by decide) dX11_init_23 (fun a23_2 H hP hD hS => ?_)
  have hP : va_P D vwCl [(a, .inr (10, [.int 0, .int (-1), .ref a10_1, .null, .int 0, .null, .null, .null, .null, .int 0, .int 0, .null, .int 0, .null, .null, .int 0, .int 0, .null, .null])), (a10_1, .inr (2, [.ref height_14, .ref covered_14, .ref turned_14, .ref owner_14, .ref asked_14, .int 0, .ref placeCell_14, .ref placeCost_14, .int 0])), (height_14, .inl (cy 0, 96, .inl (fun _ => 500))), (covered_14, .inl (cy 1, 96, .inl (fun _ => 0))), (turned_14, .inl (cy 1, 96, .inl (fun _ => 0))), (owner_14, .inl (cy 0, 96, .inl (fun _ => (-1)))), (asked_14, .inl (cy 1, 96, .inl (fun _ => 0))), (placeCell_14, .inl (cy 0, 8, .inl (fun _ => 0))), (placeCost_14, .inl (cy 0, 8, .inl (fun _ => 0))), (a23_2, .inl (cy 4, 40, .inr (.inr (.inr (.inr (fun _ => none))))))] H := hP
  have hD : va_D A [(a, .inr (10, [.int 0, .int (-1), .ref a10_1, .null, .int 0, .null, .null, .null, .null, .int 0, .int 0, .null, .int 0, .null, .null, .int 0, .int 0, .null, .null])), (a10_1, .inr (2, [.ref height_14, .ref covered_14, .ref turned_14, .ref owner_14, .ref asked_14, .int 0, .ref placeCell_14, .ref placeCost_14, .int 0])), (height_14, .inl (cy 0, 96, .inl (fun _ => 500))), (covered_14, .inl (cy 1, 96, .inl (fun _ => 0))), (turned_14, .inl (cy 1, 96, .inl (fun _ => 0))), (owner_14, .inl (cy 0, 96, .inl (fun _ => (-1)))), (asked_14, .inl (cy 1, 96, .inl (fun _ => 0))), (placeCell_14, .inl (cy 0, 8, .inl (fun _ => 0))), (placeCost_14, .inl (cy 0, 8, .inl (fun _ => 0))), (a23_2, .inl (cy 4, 40, .inr (.inr (.inr (.inr (fun _ => none))))))] := hD
  refine r_putF S hK hP hD hS 0 10 rfl rfl inX11 3 (by decide) tyX11 tyX11_ok nmX11 kw_471 (v := .ref a23_2) rfl hnm rfl rfl rfl (Nat.le_of_ble_eq_true rfl) dX11_init_26 (fun H locs hP hD hS => ?_)
  have hP : va_P D vwCl [(a, .inr (10, [.int 0, .int (-1), .ref a10_1, .ref a23_2, .int 0, .null, .null, .null, .null, .int 0, .int 0, .null, .int 0, .null, .null, .int 0, .int 0, .null, .null])), (a10_1, .inr (2, [.ref height_14, .ref covered_14, .ref turned_14, .ref owner_14, .ref asked_14, .int 0, .ref placeCell_14, .ref placeCost_14, .int 0])), (height_14, .inl (cy 0, 96, .inl (fun _ => 500))), (covered_14, .inl (cy 1, 96, .inl (fun _ => 0))), (turned_14, .inl (cy 1, 96, .inl (fun _ => 0))), (owner_14, .inl (cy 0, 96, .inl (fun _ => (-1)))), (asked_14, .inl (cy 1, 96, .inl (fun _ => 0))), (placeCell_14, .inl (cy 0, 8, .inl (fun _ => 0))), (placeCost_14, .inl (cy 0, 8, .inl (fun _ => 0))), (a23_2, .inl (cy 4, 40, .inr (.inr (.inr (.inr (fun _ => none))))))] H := hP
  have hD : va_D A [(a, .inr (10, [.int 0, .int (-1), .ref a10_1, .ref a23_2, .int 0, .null, .null, .null, .null, .int 0, .int 0, .null, .int 0, .null, .null, .int 0, .int 0, .null, .null])), (a10_1, .inr (2, [.ref height_14, .ref covered_14, .ref turned_14, .ref owner_14, .ref asked_14, .int 0, .ref placeCell_14, .ref placeCost_14, .int 0])), (height_14, .inl (cy 0, 96, .inl (fun _ => 500))), (covered_14, .inl (cy 1, 96, .inl (fun _ => 0))), (turned_14, .inl (cy 1, 96, .inl (fun _ => 0))), (owner_14, .inl (cy 0, 96, .inl (fun _ => (-1)))), (asked_14, .inl (cy 1, 96, .inl (fun _ => 0))), (placeCell_14, .inl (cy 0, 8, .inl (fun _ => 0))), (placeCost_14, .inl (cy 0, 8, .inl (fun _ => 0))), (a23_2, .inl (cy 4, 40, .inr (.inr (.inr (.inr (fun _ => none))))))] := hD
  refine lv_aload_n S.1 S.2.1 dX11_init_29 rfl (lv_at hl 0 rfl) ?_
  refine r_new S (ci := 3) inX3 tyX3 tyX3_ok kw_228 kw_229 kw_147 hK hP hD hS hA rfl (fs := [.null, .int 0, .int 0, .int 0, .int 0, .long 0, .null, .int 0, .int 0, .int 0, .int 0, .null, .int 0, .null]) rfl (by decide) (by decide) dX11_init_30 (fun a30_3 H hP hD hS => ?_)
  have hP : va_P D vwCl [(a, .inr (10, [.int 0, .int (-1), .ref a10_1, .ref a23_2, .int 0, .null, .null, .null, .null, .int 0, .int 0, .null, .int 0, .null, .null, .int 0, .int 0, .null, .null])), (a10_1, .inr (2, [.ref height_14, .ref covered_14, .ref turned_14, .ref owner_14, .ref asked_14, .int 0, .ref placeCell_14, .ref placeCost_14, .int 0])), (height_14, .inl (cy 0, 96, .inl (fun _ => 500))), (covered_14, .inl (cy 1, 96, .inl (fun _ => 0))), (turned_14, .inl (cy 1, 96, .inl (fun _ => 0))), (owner_14, .inl (cy 0, 96, .inl (fun _ => (-1)))), (asked_14, .inl (cy 1, 96, .inl (fun _ => 0))), (placeCell_14, .inl (cy 0, 8, .inl (fun _ => 0))), (placeCost_14, .inl (cy 0, 8, .inl (fun _ => 0))), (a23_2, .inl (cy 4, 40, .inr (.inr (.inr (.inr (fun _ => none)))))), (a30_3, .inr (3, [.null, .int 0, .int 0, .int 0, .int 0, .long 0, .null, .int 0, .int 0, .int 0, .int 0, .null, .int 0, .null]))] H := hP
  have hD : va_D A [(a, .inr (10, [.int 0, .int (-1), .ref a10_1, .ref a23_2, .int 0, .null, .null, .null, .null, .int 0, .int 0, .null, .int 0, .null, .null, .int 0, .int 0, .null, .null])), (a10_1, .inr (2, [.ref height_14, .ref covered_14, .ref turned_14, .ref owner_14, .ref asked_14, .int 0, .ref placeCell_14, .ref placeCost_14, .int 0])), (height_14, .inl (cy 0, 96, .inl (fun _ => 500))), (covered_14, .inl (cy 1, 96, .inl (fun _ => 0))), (turned_14, .inl (cy 1, 96, .inl (fun _ => 0))), (owner_14, .inl (cy 0, 96, .inl (fun _ => (-1)))), (asked_14, .inl (cy 1, 96, .inl (fun _ => 0))), (placeCell_14, .inl (cy 0, 8, .inl (fun _ => 0))), (placeCost_14, .inl (cy 0, 8, .inl (fun _ => 0))), (a23_2, .inl (cy 4, 40, .inr (.inr (.inr (.inr (fun _ => none)))))), (a30_3, .inr (3, [.null, .int 0, .int 0, .int 0, .int 0, .long 0, .null, .int 0, .int 0, .int 0, .int 0, .null, .int 0, .null]))] := hD
  refine lv_dup S.1 S.2.1 dX11_init_33 rfl ?_
  refine call_v (wr := [(a, .inr (10, [.int 0, .int (-1), .ref a10_1, .ref a23_2, .int 0, .null, .null, .null, .null, .int 0, .int 0, .null, .int 0, .null, .null, .int 0, .int 0, .null, .null])), (a10_1, .inr (2, [.ref height_14, .ref covered_14, .ref turned_14, .ref owner_14, .ref asked_14, .int 0, .ref placeCell_14, .ref placeCost_14, .int 0])), (height_14, .inl (cy 0, 96, .inl (fun _ => 500))), (covered_14, .inl (cy 1, 96, .inl (fun _ => 0))), (turned_14, .inl (cy 1, 96, .inl (fun _ => 0))), (owner_14, .inl (cy 0, 96, .inl (fun _ => (-1)))), (asked_14, .inl (cy 1, 96, .inl (fun _ => 0))), (placeCell_14, .inl (cy 0, 8, .inl (fun _ => 0))), (placeCost_14, .inl (cy 0, 8, .inl (fun _ => 0))), (a23_2, .inl (cy 4, 40, .inr (.inr (.inr (.inr (fun _ => none))))))]) (runIN_C "LandSurvey" (wc := [(a30_3, .inr (3, [.null, .int 0, .int 0, .int 0, .int 0, .long 0, .null, .int 0, .int 0, .int 0, .int 0, .null, .int 0, .null]))]) (As := []) (rest := [.ref a30_3, .ref a]) S (kX3_init l D cy a30_3) hK hP hD [10] (by decide) rfl hK.2.2.1 kw_231 kw_147 kw_232 okX3_init rfl rfl (by decide) hl.1 rfl (Nat.le_of_ble_eq_true rfl) dX11_init_34 (by decide)) hP hD hS hA [10] [0, 1, 2, 3, 4, 5, 6, 7, 8, 9] rfl rfl (by decide) (by decide) (fun u34 H locs w34 hP hD hS => ?_)
  obtain ⟨tape_34, code_34⟩ := u34
  have hP : va_P D vwCl [(a, .inr (10, [.int 0, .int (-1), .ref a10_1, .ref a23_2, .int 0, .null, .null, .null, .null, .int 0, .int 0, .null, .int 0, .null, .null, .int 0, .int 0, .null, .null])), (a10_1, .inr (2, [.ref height_14, .ref covered_14, .ref turned_14, .ref owner_14, .ref asked_14, .int 0, .ref placeCell_14, .ref placeCost_14, .int 0])), (height_14, .inl (cy 0, 96, .inl (fun _ => 500))), (covered_14, .inl (cy 1, 96, .inl (fun _ => 0))), (turned_14, .inl (cy 1, 96, .inl (fun _ => 0))), (owner_14, .inl (cy 0, 96, .inl (fun _ => (-1)))), (asked_14, .inl (cy 1, 96, .inl (fun _ => 0))), (placeCell_14, .inl (cy 0, 8, .inl (fun _ => 0))), (placeCost_14, .inl (cy 0, 8, .inl (fun _ => 0))), (a23_2, .inl (cy 4, 40, .inr (.inr (.inr (.inr (fun _ => none)))))), (a30_3, .inr (3, [.ref tape_34, .int 0, .int 0, .int 0, .int 0, .long 0, .null, .int 0, .int 0, .int 0, .int 0, .ref code_34, .int 0, .null])), (tape_34, .inl (cy 3, 1500, .inl (fun _ => 0))), (code_34, .inl (cy 0, 1500, .inl (fun _ => 0)))] H := hP
  have hD : va_D A [(a, .inr (10, [.int 0, .int (-1), .ref a10_1, .ref a23_2, .int 0, .null, .null, .null, .null, .int 0, .int 0, .null, .int 0, .null, .null, .int 0, .int 0, .null, .null])), (a10_1, .inr (2, [.ref height_14, .ref covered_14, .ref turned_14, .ref owner_14, .ref asked_14, .int 0, .ref placeCell_14, .ref placeCost_14, .int 0])), (height_14, .inl (cy 0, 96, .inl (fun _ => 500))), (covered_14, .inl (cy 1, 96, .inl (fun _ => 0))), (turned_14, .inl (cy 1, 96, .inl (fun _ => 0))), (owner_14, .inl (cy 0, 96, .inl (fun _ => (-1)))), (asked_14, .inl (cy 1, 96, .inl (fun _ => 0))), (placeCell_14, .inl (cy 0, 8, .inl (fun _ => 0))), (placeCost_14, .inl (cy 0, 8, .inl (fun _ => 0))), (a23_2, .inl (cy 4, 40, .inr (.inr (.inr (.inr (fun _ => none)))))), (a30_3, .inr (3, [.ref tape_34, .int 0, .int 0, .int 0, .int 0, .long 0, .null, .int 0, .int 0, .int 0, .int 0, .ref code_34, .int 0, .null])), (tape_34, .inl (cy 3, 1500, .inl (fun _ => 0))), (code_34, .inl (cy 0, 1500, .inl (fun _ => 0)))] := hD
  refine r_putF S hK hP hD hS 0 10 rfl rfl inX11 5 (by decide) tyX11 tyX11_ok nmX11 kw_473 (v := .ref a30_3) rfl hnm rfl rfl rfl (Nat.le_of_ble_eq_true rfl) dX11_init_37 (fun H locs hP hD hS => ?_)
  have hP : va_P D vwCl [(a, .inr (10, [.int 0, .int (-1), .ref a10_1, .ref a23_2, .int 0, .ref a30_3, .null, .null, .null, .int 0, .int 0, .null, .int 0, .null, .null, .int 0, .int 0, .null, .null])), (a10_1, .inr (2, [.ref height_14, .ref covered_14, .ref turned_14, .ref owner_14, .ref asked_14, .int 0, .ref placeCell_14, .ref placeCost_14, .int 0])), (height_14, .inl (cy 0, 96, .inl (fun _ => 500))), (covered_14, .inl (cy 1, 96, .inl (fun _ => 0))), (turned_14, .inl (cy 1, 96, .inl (fun _ => 0))), (owner_14, .inl (cy 0, 96, .inl (fun _ => (-1)))), (asked_14, .inl (cy 1, 96, .inl (fun _ => 0))), (placeCell_14, .inl (cy 0, 8, .inl (fun _ => 0))), (placeCost_14, .inl (cy 0, 8, .inl (fun _ => 0))), (a23_2, .inl (cy 4, 40, .inr (.inr (.inr (.inr (fun _ => none)))))), (a30_3, .inr (3, [.ref tape_34, .int 0, .int 0, .int 0, .int 0, .long 0, .null, .int 0, .int 0, .int 0, .int 0, .ref code_34, .int 0, .null])), (tape_34, .inl (cy 3, 1500, .inl (fun _ => 0))), (code_34, .inl (cy 0, 1500, .inl (fun _ => 0)))] H := hP
  have hD : va_D A [(a, .inr (10, [.int 0, .int (-1), .ref a10_1, .ref a23_2, .int 0, .ref a30_3, .null, .null, .null, .int 0, .int 0, .null, .int 0, .null, .null, .int 0, .int 0, .null, .null])), (a10_1, .inr (2, [.ref height_14, .ref covered_14, .ref turned_14, .ref owner_14, .ref asked_14, .int 0, .ref placeCell_14, .ref placeCost_14, .int 0])), (height_14, .inl (cy 0, 96, .inl (fun _ => 500))), (covered_14, .inl (cy 1, 96, .inl (fun _ => 0))), (turned_14, .inl (cy 1, 96, .inl (fun _ => 0))), (owner_14, .inl (cy 0, 96, .inl (fun _ => (-1)))), (asked_14, .inl (cy 1, 96, .inl (fun _ => 0))), (placeCell_14, .inl (cy 0, 8, .inl (fun _ => 0))), (placeCost_14, .inl (cy 0, 8, .inl (fun _ => 0))), (a23_2, .inl (cy 4, 40, .inr (.inr (.inr (.inr (fun _ => none)))))), (a30_3, .inr (3, [.ref tape_34, .int 0, .int 0, .int 0, .int 0, .long 0, .null, .int 0, .int 0, .int 0, .int 0, .ref code_34, .int 0, .null])), (tape_34, .inl (cy 3, 1500, .inl (fun _ => 0))), (code_34, .inl (cy 0, 1500, .inl (fun _ => 0)))] := hD
  refine lv_aload_n S.1 S.2.1 dX11_init_40 rfl (lv_at hl 0 rfl) ?_
  refine r_new S (ci := 4) inX4 tyX4 tyX4_ok kw_280 kw_281 kw_148 hK hP hD hS hA rfl (fs := [.null, .null, .int 0, .null]) rfl (by decide) (by decide) dX11_init_41 (fun a41_4 H hP hD hS => ?_)
  have hP : va_P D vwCl [(a, .inr (10, [.int 0, .int (-1), .ref a10_1, .ref a23_2, .int 0, .ref a30_3, .null, .null, .null, .int 0, .int 0, .null, .int 0, .null, .null, .int 0, .int 0, .null, .null])), (a10_1, .inr (2, [.ref height_14, .ref covered_14, .ref turned_14, .ref owner_14, .ref asked_14, .int 0, .ref placeCell_14, .ref placeCost_14, .int 0])), (height_14, .inl (cy 0, 96, .inl (fun _ => 500))), (covered_14, .inl (cy 1, 96, .inl (fun _ => 0))), (turned_14, .inl (cy 1, 96, .inl (fun _ => 0))), (owner_14, .inl (cy 0, 96, .inl (fun _ => (-1)))), (asked_14, .inl (cy 1, 96, .inl (fun _ => 0))), (placeCell_14, .inl (cy 0, 8, .inl (fun _ => 0))), (placeCost_14, .inl (cy 0, 8, .inl (fun _ => 0))), (a23_2, .inl (cy 4, 40, .inr (.inr (.inr (.inr (fun _ => none)))))), (a30_3, .inr (3, [.ref tape_34, .int 0, .int 0, .int 0, .int 0, .long 0, .null, .int 0, .int 0, .int 0, .int 0, .ref code_34, .int 0, .null])), (tape_34, .inl (cy 3, 1500, .inl (fun _ => 0))), (code_34, .inl (cy 0, 1500, .inl (fun _ => 0))), (a41_4, .inr (4, [.null, .null, .int 0, .null]))] H := hP
  have hD : va_D A [(a, .inr (10, [.int 0, .int (-1), .ref a10_1, .ref a23_2, .int 0, .ref a30_3, .null, .null, .null, .int 0, .int 0, .null, .int 0, .null, .null, .int 0, .int 0, .null, .null])), (a10_1, .inr (2, [.ref height_14, .ref covered_14, .ref turned_14, .ref owner_14, .ref asked_14, .int 0, .ref placeCell_14, .ref placeCost_14, .int 0])), (height_14, .inl (cy 0, 96, .inl (fun _ => 500))), (covered_14, .inl (cy 1, 96, .inl (fun _ => 0))), (turned_14, .inl (cy 1, 96, .inl (fun _ => 0))), (owner_14, .inl (cy 0, 96, .inl (fun _ => (-1)))), (asked_14, .inl (cy 1, 96, .inl (fun _ => 0))), (placeCell_14, .inl (cy 0, 8, .inl (fun _ => 0))), (placeCost_14, .inl (cy 0, 8, .inl (fun _ => 0))), (a23_2, .inl (cy 4, 40, .inr (.inr (.inr (.inr (fun _ => none)))))), (a30_3, .inr (3, [.ref tape_34, .int 0, .int 0, .int 0, .int 0, .long 0, .null, .int 0, .int 0, .int 0, .int 0, .ref code_34, .int 0, .null])), (tape_34, .inl (cy 3, 1500, .inl (fun _ => 0))), (code_34, .inl (cy 0, 1500, .inl (fun _ => 0))), (a41_4, .inr (4, [.null, .null, .int 0, .null]))] := hD
  refine lv_dup S.1 S.2.1 dX11_init_44 rfl ?_
  refine call_v (wr := [(a, .inr (10, [.int 0, .int (-1), .ref a10_1, .ref a23_2, .int 0, .ref a30_3, .null, .null, .null, .int 0, .int 0, .null, .int 0, .null, .null, .int 0, .int 0, .null, .null])), (a10_1, .inr (2, [.ref height_14, .ref covered_14, .ref turned_14, .ref owner_14, .ref asked_14, .int 0, .ref placeCell_14, .ref placeCost_14, .int 0])), (height_14, .inl (cy 0, 96, .inl (fun _ => 500))), (covered_14, .inl (cy 1, 96, .inl (fun _ => 0))), (turned_14, .inl (cy 1, 96, .inl (fun _ => 0))), (owner_14, .inl (cy 0, 96, .inl (fun _ => (-1)))), (asked_14, .inl (cy 1, 96, .inl (fun _ => 0))), (placeCell_14, .inl (cy 0, 8, .inl (fun _ => 0))), (placeCost_14, .inl (cy 0, 8, .inl (fun _ => 0))), (a23_2, .inl (cy 4, 40, .inr (.inr (.inr (.inr (fun _ => none)))))), (a30_3, .inr (3, [.ref tape_34, .int 0, .int 0, .int 0, .int 0, .long 0, .null, .int 0, .int 0, .int 0, .int 0, .ref code_34, .int 0, .null])), (tape_34, .inl (cy 3, 1500, .inl (fun _ => 0))), (code_34, .inl (cy 0, 1500, .inl (fun _ => 0)))]) (runIN_C "LandSurvey" (wc := [(a41_4, .inr (4, [.null, .null, .int 0, .null]))]) (As := []) (rest := [.ref a41_4, .ref a]) S (kX4_init l D cy a41_4) hK hP hD [13] (by decide) rfl hK.2.2.2.1 kw_283 kw_148 kw_284 okX4_init rfl rfl (by decide) hl.1 rfl (Nat.le_of_ble_eq_true rfl) dX11_init_45 (by decide)) hP hD hS hA [13] [0, 1, 2, 3, 4, 5, 6, 7, 8, 9, 10, 11, 12] rfl rfl (by decide) (by decide) (fun u45 H locs w45 hP hD hS => ?_)
  obtain ⟨days_45, read_45, empty_45, names_in_empty_45, thin_in_empty_45, thick_in_empty_45, leastBelow_in_empty_45, mostBelow_in_empty_45, remainFrom_in_empty_45, remainTo_in_empty_45, lineKind_in_empty_45, lineSays_in_empty_45, lineEnd_in_empty_45, code_in_empty_45, stack_in_empty_45⟩ := u45
  have hP : va_P D vwCl [(a, .inr (10, [.int 0, .int (-1), .ref a10_1, .ref a23_2, .int 0, .ref a30_3, .null, .null, .null, .int 0, .int 0, .null, .int 0, .null, .null, .int 0, .int 0, .null, .null])), (a10_1, .inr (2, [.ref height_14, .ref covered_14, .ref turned_14, .ref owner_14, .ref asked_14, .int 0, .ref placeCell_14, .ref placeCost_14, .int 0])), (height_14, .inl (cy 0, 96, .inl (fun _ => 500))), (covered_14, .inl (cy 1, 96, .inl (fun _ => 0))), (turned_14, .inl (cy 1, 96, .inl (fun _ => 0))), (owner_14, .inl (cy 0, 96, .inl (fun _ => (-1)))), (asked_14, .inl (cy 1, 96, .inl (fun _ => 0))), (placeCell_14, .inl (cy 0, 8, .inl (fun _ => 0))), (placeCost_14, .inl (cy 0, 8, .inl (fun _ => 0))), (a23_2, .inl (cy 4, 40, .inr (.inr (.inr (.inr (fun _ => none)))))), (a30_3, .inr (3, [.ref tape_34, .int 0, .int 0, .int 0, .int 0, .long 0, .null, .int 0, .int 0, .int 0, .int 0, .ref code_34, .int 0, .null])), (tape_34, .inl (cy 3, 1500, .inl (fun _ => 0))), (code_34, .inl (cy 0, 1500, .inl (fun _ => 0))), (a41_4, .inr (4, [.ref days_45, .ref read_45, .int 0, .ref empty_45])), (days_45, .inl (cy 0, 8, .inl (fun _ => 0))), (read_45, .inl (cy 8, 8, .inr (.inr (.inr (.inr (fun _ => none)))))), (empty_45, .inr (5, [.int 0, .ref names_in_empty_45, .ref thin_in_empty_45, .ref thick_in_empty_45, .ref leastBelow_in_empty_45, .ref mostBelow_in_empty_45, .int 0, .int 10, .int 20, .int 0, .int 0, .ref remainFrom_in_empty_45, .ref remainTo_in_empty_45, .int 0, .ref lineKind_in_empty_45, .ref lineSays_in_empty_45, .ref lineEnd_in_empty_45, .ref code_in_empty_45, .ref stack_in_empty_45])), (names_in_empty_45, .inl (cy 2, 10, .inr (.inl (fun _ => 0)))), (thin_in_empty_45, .inl (cy 0, 10, .inl (fun _ => 0))), (thick_in_empty_45, .inl (cy 0, 10, .inl (fun _ => 0))), (leastBelow_in_empty_45, .inl (cy 0, 20, .inl (fun _ => 0))), (mostBelow_in_empty_45, .inl (cy 0, 20, .inl (fun _ => 0))), (remainFrom_in_empty_45, .inl (cy 0, 10, .inl (fun _ => (-1)))), (remainTo_in_empty_45, .inl (cy 0, 10, .inl (fun _ => 0))), (lineKind_in_empty_45, .inl (cy 0, 24, .inl (fun _ => 0))), (lineSays_in_empty_45, .inl (cy 0, 24, .inl (fun _ => 0))), (lineEnd_in_empty_45, .inl (cy 0, 24, .inl (fun _ => 0))), (code_in_empty_45, .inl (cy 0, 0, .inl (fun _ => 0))), (stack_in_empty_45, .inl (cy 0, 32, .inl (fun _ => 0)))] H := hP
  have hD : va_D A [(a, .inr (10, [.int 0, .int (-1), .ref a10_1, .ref a23_2, .int 0, .ref a30_3, .null, .null, .null, .int 0, .int 0, .null, .int 0, .null, .null, .int 0, .int 0, .null, .null])), (a10_1, .inr (2, [.ref height_14, .ref covered_14, .ref turned_14, .ref owner_14, .ref asked_14, .int 0, .ref placeCell_14, .ref placeCost_14, .int 0])), (height_14, .inl (cy 0, 96, .inl (fun _ => 500))), (covered_14, .inl (cy 1, 96, .inl (fun _ => 0))), (turned_14, .inl (cy 1, 96, .inl (fun _ => 0))), (owner_14, .inl (cy 0, 96, .inl (fun _ => (-1)))), (asked_14, .inl (cy 1, 96, .inl (fun _ => 0))), (placeCell_14, .inl (cy 0, 8, .inl (fun _ => 0))), (placeCost_14, .inl (cy 0, 8, .inl (fun _ => 0))), (a23_2, .inl (cy 4, 40, .inr (.inr (.inr (.inr (fun _ => none)))))), (a30_3, .inr (3, [.ref tape_34, .int 0, .int 0, .int 0, .int 0, .long 0, .null, .int 0, .int 0, .int 0, .int 0, .ref code_34, .int 0, .null])), (tape_34, .inl (cy 3, 1500, .inl (fun _ => 0))), (code_34, .inl (cy 0, 1500, .inl (fun _ => 0))), (a41_4, .inr (4, [.ref days_45, .ref read_45, .int 0, .ref empty_45])), (days_45, .inl (cy 0, 8, .inl (fun _ => 0))), (read_45, .inl (cy 8, 8, .inr (.inr (.inr (.inr (fun _ => none)))))), (empty_45, .inr (5, [.int 0, .ref names_in_empty_45, .ref thin_in_empty_45, .ref thick_in_empty_45, .ref leastBelow_in_empty_45, .ref mostBelow_in_empty_45, .int 0, .int 10, .int 20, .int 0, .int 0, .ref remainFrom_in_empty_45, .ref remainTo_in_empty_45, .int 0, .ref lineKind_in_empty_45, .ref lineSays_in_empty_45, .ref lineEnd_in_empty_45, .ref code_in_empty_45, .ref stack_in_empty_45])), (names_in_empty_45, .inl (cy 2, 10, .inr (.inl (fun _ => 0)))), (thin_in_empty_45, .inl (cy 0, 10, .inl (fun _ => 0))), (thick_in_empty_45, .inl (cy 0, 10, .inl (fun _ => 0))), (leastBelow_in_empty_45, .inl (cy 0, 20, .inl (fun _ => 0))), (mostBelow_in_empty_45, .inl (cy 0, 20, .inl (fun _ => 0))), (remainFrom_in_empty_45, .inl (cy 0, 10, .inl (fun _ => (-1)))), (remainTo_in_empty_45, .inl (cy 0, 10, .inl (fun _ => 0))), (lineKind_in_empty_45, .inl (cy 0, 24, .inl (fun _ => 0))), (lineSays_in_empty_45, .inl (cy 0, 24, .inl (fun _ => 0))), (lineEnd_in_empty_45, .inl (cy 0, 24, .inl (fun _ => 0))), (code_in_empty_45, .inl (cy 0, 0, .inl (fun _ => 0))), (stack_in_empty_45, .inl (cy 0, 32, .inl (fun _ => 0)))] := hD
  refine r_putF S hK hP hD hS 0 10 rfl rfl inX11 6 (by decide) tyX11 tyX11_ok nmX11 kw_474 (v := .ref a41_4) rfl hnm rfl rfl rfl (Nat.le_of_ble_eq_true rfl) dX11_init_48 (fun H locs hP hD hS => ?_)
  have hP : va_P D vwCl [(a, .inr (10, [.int 0, .int (-1), .ref a10_1, .ref a23_2, .int 0, .ref a30_3, .ref a41_4, .null, .null, .int 0, .int 0, .null, .int 0, .null, .null, .int 0, .int 0, .null, .null])), (a10_1, .inr (2, [.ref height_14, .ref covered_14, .ref turned_14, .ref owner_14, .ref asked_14, .int 0, .ref placeCell_14, .ref placeCost_14, .int 0])), (height_14, .inl (cy 0, 96, .inl (fun _ => 500))), (covered_14, .inl (cy 1, 96, .inl (fun _ => 0))), (turned_14, .inl (cy 1, 96, .inl (fun _ => 0))), (owner_14, .inl (cy 0, 96, .inl (fun _ => (-1)))), (asked_14, .inl (cy 1, 96, .inl (fun _ => 0))), (placeCell_14, .inl (cy 0, 8, .inl (fun _ => 0))), (placeCost_14, .inl (cy 0, 8, .inl (fun _ => 0))), (a23_2, .inl (cy 4, 40, .inr (.inr (.inr (.inr (fun _ => none)))))), (a30_3, .inr (3, [.ref tape_34, .int 0, .int 0, .int 0, .int 0, .long 0, .null, .int 0, .int 0, .int 0, .int 0, .ref code_34, .int 0, .null])), (tape_34, .inl (cy 3, 1500, .inl (fun _ => 0))), (code_34, .inl (cy 0, 1500, .inl (fun _ => 0))), (a41_4, .inr (4, [.ref days_45, .ref read_45, .int 0, .ref empty_45])), (days_45, .inl (cy 0, 8, .inl (fun _ => 0))), (read_45, .inl (cy 8, 8, .inr (.inr (.inr (.inr (fun _ => none)))))), (empty_45, .inr (5, [.int 0, .ref names_in_empty_45, .ref thin_in_empty_45, .ref thick_in_empty_45, .ref leastBelow_in_empty_45, .ref mostBelow_in_empty_45, .int 0, .int 10, .int 20, .int 0, .int 0, .ref remainFrom_in_empty_45, .ref remainTo_in_empty_45, .int 0, .ref lineKind_in_empty_45, .ref lineSays_in_empty_45, .ref lineEnd_in_empty_45, .ref code_in_empty_45, .ref stack_in_empty_45])), (names_in_empty_45, .inl (cy 2, 10, .inr (.inl (fun _ => 0)))), (thin_in_empty_45, .inl (cy 0, 10, .inl (fun _ => 0))), (thick_in_empty_45, .inl (cy 0, 10, .inl (fun _ => 0))), (leastBelow_in_empty_45, .inl (cy 0, 20, .inl (fun _ => 0))), (mostBelow_in_empty_45, .inl (cy 0, 20, .inl (fun _ => 0))), (remainFrom_in_empty_45, .inl (cy 0, 10, .inl (fun _ => (-1)))), (remainTo_in_empty_45, .inl (cy 0, 10, .inl (fun _ => 0))), (lineKind_in_empty_45, .inl (cy 0, 24, .inl (fun _ => 0))), (lineSays_in_empty_45, .inl (cy 0, 24, .inl (fun _ => 0))), (lineEnd_in_empty_45, .inl (cy 0, 24, .inl (fun _ => 0))), (code_in_empty_45, .inl (cy 0, 0, .inl (fun _ => 0))), (stack_in_empty_45, .inl (cy 0, 32, .inl (fun _ => 0)))] H := hP
  have hD : va_D A [(a, .inr (10, [.int 0, .int (-1), .ref a10_1, .ref a23_2, .int 0, .ref a30_3, .ref a41_4, .null, .null, .int 0, .int 0, .null, .int 0, .null, .null, .int 0, .int 0, .null, .null])), (a10_1, .inr (2, [.ref height_14, .ref covered_14, .ref turned_14, .ref owner_14, .ref asked_14, .int 0, .ref placeCell_14, .ref placeCost_14, .int 0])), (height_14, .inl (cy 0, 96, .inl (fun _ => 500))), (covered_14, .inl (cy 1, 96, .inl (fun _ => 0))), (turned_14, .inl (cy 1, 96, .inl (fun _ => 0))), (owner_14, .inl (cy 0, 96, .inl (fun _ => (-1)))), (asked_14, .inl (cy 1, 96, .inl (fun _ => 0))), (placeCell_14, .inl (cy 0, 8, .inl (fun _ => 0))), (placeCost_14, .inl (cy 0, 8, .inl (fun _ => 0))), (a23_2, .inl (cy 4, 40, .inr (.inr (.inr (.inr (fun _ => none)))))), (a30_3, .inr (3, [.ref tape_34, .int 0, .int 0, .int 0, .int 0, .long 0, .null, .int 0, .int 0, .int 0, .int 0, .ref code_34, .int 0, .null])), (tape_34, .inl (cy 3, 1500, .inl (fun _ => 0))), (code_34, .inl (cy 0, 1500, .inl (fun _ => 0))), (a41_4, .inr (4, [.ref days_45, .ref read_45, .int 0, .ref empty_45])), (days_45, .inl (cy 0, 8, .inl (fun _ => 0))), (read_45, .inl (cy 8, 8, .inr (.inr (.inr (.inr (fun _ => none)))))), (empty_45, .inr (5, [.int 0, .ref names_in_empty_45, .ref thin_in_empty_45, .ref thick_in_empty_45, .ref leastBelow_in_empty_45, .ref mostBelow_in_empty_45, .int 0, .int 10, .int 20, .int 0, .int 0, .ref remainFrom_in_empty_45, .ref remainTo_in_empty_45, .int 0, .ref lineKind_in_empty_45, .ref lineSays_in_empty_45, .ref lineEnd_in_empty_45, .ref code_in_empty_45, .ref stack_in_empty_45])), (names_in_empty_45, .inl (cy 2, 10, .inr (.inl (fun _ => 0)))), (thin_in_empty_45, .inl (cy 0, 10, .inl (fun _ => 0))), (thick_in_empty_45, .inl (cy 0, 10, .inl (fun _ => 0))), (leastBelow_in_empty_45, .inl (cy 0, 20, .inl (fun _ => 0))), (mostBelow_in_empty_45, .inl (cy 0, 20, .inl (fun _ => 0))), (remainFrom_in_empty_45, .inl (cy 0, 10, .inl (fun _ => (-1)))), (remainTo_in_empty_45, .inl (cy 0, 10, .inl (fun _ => 0))), (lineKind_in_empty_45, .inl (cy 0, 24, .inl (fun _ => 0))), (lineSays_in_empty_45, .inl (cy 0, 24, .inl (fun _ => 0))), (lineEnd_in_empty_45, .inl (cy 0, 24, .inl (fun _ => 0))), (code_in_empty_45, .inl (cy 0, 0, .inl (fun _ => 0))), (stack_in_empty_45, .inl (cy 0, 32, .inl (fun _ => 0)))] := hD
  refine lv_aload_n S.1 S.2.1 dX11_init_51 rfl (lv_at hl 0 rfl) ?_
  refine lv_aload_n S.1 S.2.1 dX11_init_52 rfl (lv_at hl 0 rfl) ?_
  refine r_get S hK hP 0 10 rfl rfl inX11 6 (by decide) kw_474 (v := .ref a41_4) rfl dX11_init_53 ?_
  refine r_get S hK hP 13 4 rfl rfl inX4 3 (by decide) kw_382 (v := .ref empty_45) rfl dX11_init_56 ?_
  refine r_put S hK hP hD hS 0 10 rfl rfl inX11 7 (by decide) tyX11 tyX11_ok nmX11 kw_475 (v := .ref empty_45) rfl rfl rfl (Nat.le_of_ble_eq_true rfl) dX11_init_59 (fun H locs hP hD hS => ?_)
  have hP : va_P D vwCl [(a, .inr (10, [.int 0, .int (-1), .ref a10_1, .ref a23_2, .int 0, .ref a30_3, .ref a41_4, .ref empty_45, .null, .int 0, .int 0, .null, .int 0, .null, .null, .int 0, .int 0, .null, .null])), (a10_1, .inr (2, [.ref height_14, .ref covered_14, .ref turned_14, .ref owner_14, .ref asked_14, .int 0, .ref placeCell_14, .ref placeCost_14, .int 0])), (height_14, .inl (cy 0, 96, .inl (fun _ => 500))), (covered_14, .inl (cy 1, 96, .inl (fun _ => 0))), (turned_14, .inl (cy 1, 96, .inl (fun _ => 0))), (owner_14, .inl (cy 0, 96, .inl (fun _ => (-1)))), (asked_14, .inl (cy 1, 96, .inl (fun _ => 0))), (placeCell_14, .inl (cy 0, 8, .inl (fun _ => 0))), (placeCost_14, .inl (cy 0, 8, .inl (fun _ => 0))), (a23_2, .inl (cy 4, 40, .inr (.inr (.inr (.inr (fun _ => none)))))), (a30_3, .inr (3, [.ref tape_34, .int 0, .int 0, .int 0, .int 0, .long 0, .null, .int 0, .int 0, .int 0, .int 0, .ref code_34, .int 0, .null])), (tape_34, .inl (cy 3, 1500, .inl (fun _ => 0))), (code_34, .inl (cy 0, 1500, .inl (fun _ => 0))), (a41_4, .inr (4, [.ref days_45, .ref read_45, .int 0, .ref empty_45])), (days_45, .inl (cy 0, 8, .inl (fun _ => 0))), (read_45, .inl (cy 8, 8, .inr (.inr (.inr (.inr (fun _ => none)))))), (empty_45, .inr (5, [.int 0, .ref names_in_empty_45, .ref thin_in_empty_45, .ref thick_in_empty_45, .ref leastBelow_in_empty_45, .ref mostBelow_in_empty_45, .int 0, .int 10, .int 20, .int 0, .int 0, .ref remainFrom_in_empty_45, .ref remainTo_in_empty_45, .int 0, .ref lineKind_in_empty_45, .ref lineSays_in_empty_45, .ref lineEnd_in_empty_45, .ref code_in_empty_45, .ref stack_in_empty_45])), (names_in_empty_45, .inl (cy 2, 10, .inr (.inl (fun _ => 0)))), (thin_in_empty_45, .inl (cy 0, 10, .inl (fun _ => 0))), (thick_in_empty_45, .inl (cy 0, 10, .inl (fun _ => 0))), (leastBelow_in_empty_45, .inl (cy 0, 20, .inl (fun _ => 0))), (mostBelow_in_empty_45, .inl (cy 0, 20, .inl (fun _ => 0))), (remainFrom_in_empty_45, .inl (cy 0, 10, .inl (fun _ => (-1)))), (remainTo_in_empty_45, .inl (cy 0, 10, .inl (fun _ => 0))), (lineKind_in_empty_45, .inl (cy 0, 24, .inl (fun _ => 0))), (lineSays_in_empty_45, .inl (cy 0, 24, .inl (fun _ => 0))), (lineEnd_in_empty_45, .inl (cy 0, 24, .inl (fun _ => 0))), (code_in_empty_45, .inl (cy 0, 0, .inl (fun _ => 0))), (stack_in_empty_45, .inl (cy 0, 32, .inl (fun _ => 0)))] H := hP
  have hD : va_D A [(a, .inr (10, [.int 0, .int (-1), .ref a10_1, .ref a23_2, .int 0, .ref a30_3, .ref a41_4, .ref empty_45, .null, .int 0, .int 0, .null, .int 0, .null, .null, .int 0, .int 0, .null, .null])), (a10_1, .inr (2, [.ref height_14, .ref covered_14, .ref turned_14, .ref owner_14, .ref asked_14, .int 0, .ref placeCell_14, .ref placeCost_14, .int 0])), (height_14, .inl (cy 0, 96, .inl (fun _ => 500))), (covered_14, .inl (cy 1, 96, .inl (fun _ => 0))), (turned_14, .inl (cy 1, 96, .inl (fun _ => 0))), (owner_14, .inl (cy 0, 96, .inl (fun _ => (-1)))), (asked_14, .inl (cy 1, 96, .inl (fun _ => 0))), (placeCell_14, .inl (cy 0, 8, .inl (fun _ => 0))), (placeCost_14, .inl (cy 0, 8, .inl (fun _ => 0))), (a23_2, .inl (cy 4, 40, .inr (.inr (.inr (.inr (fun _ => none)))))), (a30_3, .inr (3, [.ref tape_34, .int 0, .int 0, .int 0, .int 0, .long 0, .null, .int 0, .int 0, .int 0, .int 0, .ref code_34, .int 0, .null])), (tape_34, .inl (cy 3, 1500, .inl (fun _ => 0))), (code_34, .inl (cy 0, 1500, .inl (fun _ => 0))), (a41_4, .inr (4, [.ref days_45, .ref read_45, .int 0, .ref empty_45])), (days_45, .inl (cy 0, 8, .inl (fun _ => 0))), (read_45, .inl (cy 8, 8, .inr (.inr (.inr (.inr (fun _ => none)))))), (empty_45, .inr (5, [.int 0, .ref names_in_empty_45, .ref thin_in_empty_45, .ref thick_in_empty_45, .ref leastBelow_in_empty_45, .ref mostBelow_in_empty_45, .int 0, .int 10, .int 20, .int 0, .int 0, .ref remainFrom_in_empty_45, .ref remainTo_in_empty_45, .int 0, .ref lineKind_in_empty_45, .ref lineSays_in_empty_45, .ref lineEnd_in_empty_45, .ref code_in_empty_45, .ref stack_in_empty_45])), (names_in_empty_45, .inl (cy 2, 10, .inr (.inl (fun _ => 0)))), (thin_in_empty_45, .inl (cy 0, 10, .inl (fun _ => 0))), (thick_in_empty_45, .inl (cy 0, 10, .inl (fun _ => 0))), (leastBelow_in_empty_45, .inl (cy 0, 20, .inl (fun _ => 0))), (mostBelow_in_empty_45, .inl (cy 0, 20, .inl (fun _ => 0))), (remainFrom_in_empty_45, .inl (cy 0, 10, .inl (fun _ => (-1)))), (remainTo_in_empty_45, .inl (cy 0, 10, .inl (fun _ => 0))), (lineKind_in_empty_45, .inl (cy 0, 24, .inl (fun _ => 0))), (lineSays_in_empty_45, .inl (cy 0, 24, .inl (fun _ => 0))), (lineEnd_in_empty_45, .inl (cy 0, 24, .inl (fun _ => 0))), (code_in_empty_45, .inl (cy 0, 0, .inl (fun _ => 0))), (stack_in_empty_45, .inl (cy 0, 32, .inl (fun _ => 0)))] := hD
  refine lv_aload_n S.1 S.2.1 dX11_init_62 rfl (lv_at hl 0 rfl) ?_
  refine lv_iconst (v := 4) S.1 S.2.1 dX11_init_63 (by decide) ?_
  refine r_newq S kw_392 hK.2.1.2.1 hK hP hD hS hA 5 rfl (by decide) (N' := 4) (by decide) (by decide) (by decide) (by decide) dX11_init_64 (fun a64_5 H hP hD hS => ?_)
  have hP : va_P D vwCl [(a, .inr (10, [.int 0, .int (-1), .ref a10_1, .ref a23_2, .int 0, .ref a30_3, .ref a41_4, .ref empty_45, .null, .int 0, .int 0, .null, .int 0, .null, .null, .int 0, .int 0, .null, .null])), (a10_1, .inr (2, [.ref height_14, .ref covered_14, .ref turned_14, .ref owner_14, .ref asked_14, .int 0, .ref placeCell_14, .ref placeCost_14, .int 0])), (height_14, .inl (cy 0, 96, .inl (fun _ => 500))), (covered_14, .inl (cy 1, 96, .inl (fun _ => 0))), (turned_14, .inl (cy 1, 96, .inl (fun _ => 0))), (owner_14, .inl (cy 0, 96, .inl (fun _ => (-1)))), (asked_14, .inl (cy 1, 96, .inl (fun _ => 0))), (placeCell_14, .inl (cy 0, 8, .inl (fun _ => 0))), (placeCost_14, .inl (cy 0, 8, .inl (fun _ => 0))), (a23_2, .inl (cy 4, 40, .inr (.inr (.inr (.inr (fun _ => none)))))), (a30_3, .inr (3, [.ref tape_34, .int 0, .int 0, .int 0, .int 0, .long 0, .null, .int 0, .int 0, .int 0, .int 0, .ref code_34, .int 0, .null])), (tape_34, .inl (cy 3, 1500, .inl (fun _ => 0))), (code_34, .inl (cy 0, 1500, .inl (fun _ => 0))), (a41_4, .inr (4, [.ref days_45, .ref read_45, .int 0, .ref empty_45])), (days_45, .inl (cy 0, 8, .inl (fun _ => 0))), (read_45, .inl (cy 8, 8, .inr (.inr (.inr (.inr (fun _ => none)))))), (empty_45, .inr (5, [.int 0, .ref names_in_empty_45, .ref thin_in_empty_45, .ref thick_in_empty_45, .ref leastBelow_in_empty_45, .ref mostBelow_in_empty_45, .int 0, .int 10, .int 20, .int 0, .int 0, .ref remainFrom_in_empty_45, .ref remainTo_in_empty_45, .int 0, .ref lineKind_in_empty_45, .ref lineSays_in_empty_45, .ref lineEnd_in_empty_45, .ref code_in_empty_45, .ref stack_in_empty_45])), (names_in_empty_45, .inl (cy 2, 10, .inr (.inl (fun _ => 0)))), (thin_in_empty_45, .inl (cy 0, 10, .inl (fun _ => 0))), (thick_in_empty_45, .inl (cy 0, 10, .inl (fun _ => 0))), (leastBelow_in_empty_45, .inl (cy 0, 20, .inl (fun _ => 0))), (mostBelow_in_empty_45, .inl (cy 0, 20, .inl (fun _ => 0))), (remainFrom_in_empty_45, .inl (cy 0, 10, .inl (fun _ => (-1)))), (remainTo_in_empty_45, .inl (cy 0, 10, .inl (fun _ => 0))), (lineKind_in_empty_45, .inl (cy 0, 24, .inl (fun _ => 0))), (lineSays_in_empty_45, .inl (cy 0, 24, .inl (fun _ => 0))), (lineEnd_in_empty_45, .inl (cy 0, 24, .inl (fun _ => 0))), (code_in_empty_45, .inl (cy 0, 0, .inl (fun _ => 0))), (stack_in_empty_45, .inl (cy 0, 32, .inl (fun _ => 0))), (a64_5, .inl (cy 5, 4, .inr (.inr (.inr (.inr (fun _ => none))))))] H := hP
  have hD : va_D A [(a, .inr (10, [.int 0, .int (-1), .ref a10_1, .ref a23_2, .int 0, .ref a30_3, .ref a41_4, .ref empty_45, .null, .int 0, .int 0, .null, .int 0, .null, .null, .int 0, .int 0, .null, .null])), (a10_1, .inr (2, [.ref height_14, .ref covered_14, .ref turned_14, .ref owner_14, .ref asked_14, .int 0, .ref placeCell_14, .ref placeCost_14, .int 0])), (height_14, .inl (cy 0, 96, .inl (fun _ => 500))), (covered_14, .inl (cy 1, 96, .inl (fun _ => 0))), (turned_14, .inl (cy 1, 96, .inl (fun _ => 0))), (owner_14, .inl (cy 0, 96, .inl (fun _ => (-1)))), (asked_14, .inl (cy 1, 96, .inl (fun _ => 0))), (placeCell_14, .inl (cy 0, 8, .inl (fun _ => 0))), (placeCost_14, .inl (cy 0, 8, .inl (fun _ => 0))), (a23_2, .inl (cy 4, 40, .inr (.inr (.inr (.inr (fun _ => none)))))), (a30_3, .inr (3, [.ref tape_34, .int 0, .int 0, .int 0, .int 0, .long 0, .null, .int 0, .int 0, .int 0, .int 0, .ref code_34, .int 0, .null])), (tape_34, .inl (cy 3, 1500, .inl (fun _ => 0))), (code_34, .inl (cy 0, 1500, .inl (fun _ => 0))), (a41_4, .inr (4, [.ref days_45, .ref read_45, .int 0, .ref empty_45])), (days_45, .inl (cy 0, 8, .inl (fun _ => 0))), (read_45, .inl (cy 8, 8, .inr (.inr (.inr (.inr (fun _ => none)))))), (empty_45, .inr (5, [.int 0, .ref names_in_empty_45, .ref thin_in_empty_45, .ref thick_in_empty_45, .ref leastBelow_in_empty_45, .ref mostBelow_in_empty_45, .int 0, .int 10, .int 20, .int 0, .int 0, .ref remainFrom_in_empty_45, .ref remainTo_in_empty_45, .int 0, .ref lineKind_in_empty_45, .ref lineSays_in_empty_45, .ref lineEnd_in_empty_45, .ref code_in_empty_45, .ref stack_in_empty_45])), (names_in_empty_45, .inl (cy 2, 10, .inr (.inl (fun _ => 0)))), (thin_in_empty_45, .inl (cy 0, 10, .inl (fun _ => 0))), (thick_in_empty_45, .inl (cy 0, 10, .inl (fun _ => 0))), (leastBelow_in_empty_45, .inl (cy 0, 20, .inl (fun _ => 0))), (mostBelow_in_empty_45, .inl (cy 0, 20, .inl (fun _ => 0))), (remainFrom_in_empty_45, .inl (cy 0, 10, .inl (fun _ => (-1)))), (remainTo_in_empty_45, .inl (cy 0, 10, .inl (fun _ => 0))), (lineKind_in_empty_45, .inl (cy 0, 24, .inl (fun _ => 0))), (lineSays_in_empty_45, .inl (cy 0, 24, .inl (fun _ => 0))), (lineEnd_in_empty_45, .inl (cy 0, 24, .inl (fun _ => 0))), (code_in_empty_45, .inl (cy 0, 0, .inl (fun _ => 0))), (stack_in_empty_45, .inl (cy 0, 32, .inl (fun _ => 0))), (a64_5, .inl (cy 5, 4, .inr (.inr (.inr (.inr (fun _ => none))))))] := hD
  refine r_putF S hK hP hD hS 0 10 rfl rfl inX11 8 (by decide) tyX11 tyX11_ok nmX11 kw_476 (v := .ref a64_5) rfl hnm rfl rfl rfl (Nat.le_of_ble_eq_true rfl) dX11_init_67 (fun H locs hP hD hS => ?_)
  have hP : va_P D vwCl [(a, .inr (10, [.int 0, .int (-1), .ref a10_1, .ref a23_2, .int 0, .ref a30_3, .ref a41_4, .ref empty_45, .ref a64_5, .int 0, .int 0, .null, .int 0, .null, .null, .int 0, .int 0, .null, .null])), (a10_1, .inr (2, [.ref height_14, .ref covered_14, .ref turned_14, .ref owner_14, .ref asked_14, .int 0, .ref placeCell_14, .ref placeCost_14, .int 0])), (height_14, .inl (cy 0, 96, .inl (fun _ => 500))), (covered_14, .inl (cy 1, 96, .inl (fun _ => 0))), (turned_14, .inl (cy 1, 96, .inl (fun _ => 0))), (owner_14, .inl (cy 0, 96, .inl (fun _ => (-1)))), (asked_14, .inl (cy 1, 96, .inl (fun _ => 0))), (placeCell_14, .inl (cy 0, 8, .inl (fun _ => 0))), (placeCost_14, .inl (cy 0, 8, .inl (fun _ => 0))), (a23_2, .inl (cy 4, 40, .inr (.inr (.inr (.inr (fun _ => none)))))), (a30_3, .inr (3, [.ref tape_34, .int 0, .int 0, .int 0, .int 0, .long 0, .null, .int 0, .int 0, .int 0, .int 0, .ref code_34, .int 0, .null])), (tape_34, .inl (cy 3, 1500, .inl (fun _ => 0))), (code_34, .inl (cy 0, 1500, .inl (fun _ => 0))), (a41_4, .inr (4, [.ref days_45, .ref read_45, .int 0, .ref empty_45])), (days_45, .inl (cy 0, 8, .inl (fun _ => 0))), (read_45, .inl (cy 8, 8, .inr (.inr (.inr (.inr (fun _ => none)))))), (empty_45, .inr (5, [.int 0, .ref names_in_empty_45, .ref thin_in_empty_45, .ref thick_in_empty_45, .ref leastBelow_in_empty_45, .ref mostBelow_in_empty_45, .int 0, .int 10, .int 20, .int 0, .int 0, .ref remainFrom_in_empty_45, .ref remainTo_in_empty_45, .int 0, .ref lineKind_in_empty_45, .ref lineSays_in_empty_45, .ref lineEnd_in_empty_45, .ref code_in_empty_45, .ref stack_in_empty_45])), (names_in_empty_45, .inl (cy 2, 10, .inr (.inl (fun _ => 0)))), (thin_in_empty_45, .inl (cy 0, 10, .inl (fun _ => 0))), (thick_in_empty_45, .inl (cy 0, 10, .inl (fun _ => 0))), (leastBelow_in_empty_45, .inl (cy 0, 20, .inl (fun _ => 0))), (mostBelow_in_empty_45, .inl (cy 0, 20, .inl (fun _ => 0))), (remainFrom_in_empty_45, .inl (cy 0, 10, .inl (fun _ => (-1)))), (remainTo_in_empty_45, .inl (cy 0, 10, .inl (fun _ => 0))), (lineKind_in_empty_45, .inl (cy 0, 24, .inl (fun _ => 0))), (lineSays_in_empty_45, .inl (cy 0, 24, .inl (fun _ => 0))), (lineEnd_in_empty_45, .inl (cy 0, 24, .inl (fun _ => 0))), (code_in_empty_45, .inl (cy 0, 0, .inl (fun _ => 0))), (stack_in_empty_45, .inl (cy 0, 32, .inl (fun _ => 0))), (a64_5, .inl (cy 5, 4, .inr (.inr (.inr (.inr (fun _ => none))))))] H := hP
  have hD : va_D A [(a, .inr (10, [.int 0, .int (-1), .ref a10_1, .ref a23_2, .int 0, .ref a30_3, .ref a41_4, .ref empty_45, .ref a64_5, .int 0, .int 0, .null, .int 0, .null, .null, .int 0, .int 0, .null, .null])), (a10_1, .inr (2, [.ref height_14, .ref covered_14, .ref turned_14, .ref owner_14, .ref asked_14, .int 0, .ref placeCell_14, .ref placeCost_14, .int 0])), (height_14, .inl (cy 0, 96, .inl (fun _ => 500))), (covered_14, .inl (cy 1, 96, .inl (fun _ => 0))), (turned_14, .inl (cy 1, 96, .inl (fun _ => 0))), (owner_14, .inl (cy 0, 96, .inl (fun _ => (-1)))), (asked_14, .inl (cy 1, 96, .inl (fun _ => 0))), (placeCell_14, .inl (cy 0, 8, .inl (fun _ => 0))), (placeCost_14, .inl (cy 0, 8, .inl (fun _ => 0))), (a23_2, .inl (cy 4, 40, .inr (.inr (.inr (.inr (fun _ => none)))))), (a30_3, .inr (3, [.ref tape_34, .int 0, .int 0, .int 0, .int 0, .long 0, .null, .int 0, .int 0, .int 0, .int 0, .ref code_34, .int 0, .null])), (tape_34, .inl (cy 3, 1500, .inl (fun _ => 0))), (code_34, .inl (cy 0, 1500, .inl (fun _ => 0))), (a41_4, .inr (4, [.ref days_45, .ref read_45, .int 0, .ref empty_45])), (days_45, .inl (cy 0, 8, .inl (fun _ => 0))), (read_45, .inl (cy 8, 8, .inr (.inr (.inr (.inr (fun _ => none)))))), (empty_45, .inr (5, [.int 0, .ref names_in_empty_45, .ref thin_in_empty_45, .ref thick_in_empty_45, .ref leastBelow_in_empty_45, .ref mostBelow_in_empty_45, .int 0, .int 10, .int 20, .int 0, .int 0, .ref remainFrom_in_empty_45, .ref remainTo_in_empty_45, .int 0, .ref lineKind_in_empty_45, .ref lineSays_in_empty_45, .ref lineEnd_in_empty_45, .ref code_in_empty_45, .ref stack_in_empty_45])), (names_in_empty_45, .inl (cy 2, 10, .inr (.inl (fun _ => 0)))), (thin_in_empty_45, .inl (cy 0, 10, .inl (fun _ => 0))), (thick_in_empty_45, .inl (cy 0, 10, .inl (fun _ => 0))), (leastBelow_in_empty_45, .inl (cy 0, 20, .inl (fun _ => 0))), (mostBelow_in_empty_45, .inl (cy 0, 20, .inl (fun _ => 0))), (remainFrom_in_empty_45, .inl (cy 0, 10, .inl (fun _ => (-1)))), (remainTo_in_empty_45, .inl (cy 0, 10, .inl (fun _ => 0))), (lineKind_in_empty_45, .inl (cy 0, 24, .inl (fun _ => 0))), (lineSays_in_empty_45, .inl (cy 0, 24, .inl (fun _ => 0))), (lineEnd_in_empty_45, .inl (cy 0, 24, .inl (fun _ => 0))), (code_in_empty_45, .inl (cy 0, 0, .inl (fun _ => 0))), (stack_in_empty_45, .inl (cy 0, 32, .inl (fun _ => 0))), (a64_5, .inl (cy 5, 4, .inr (.inr (.inr (.inr (fun _ => none))))))] := hD
  refine lv_aload_n S.1 S.2.1 dX11_init_70 rfl (lv_at hl 0 rfl) ?_
  refine lv_bipush (v := 10) S.1 S.2.1 dX11_init_71 (by decide) ?_
  refine r_newq S kw_394 hK.2.1.2.2.1 hK hP hD hS hA 6 rfl (by decide) (N' := 10) (by decide) (by decide) (by decide) (by decide) dX11_init_73 (fun a73_6 H hP hD hS => ?_)
  have hP : va_P D vwCl [(a, .inr (10, [.int 0, .int (-1), .ref a10_1, .ref a23_2, .int 0, .ref a30_3, .ref a41_4, .ref empty_45, .ref a64_5, .int 0, .int 0, .null, .int 0, .null, .null, .int 0, .int 0, .null, .null])), (a10_1, .inr (2, [.ref height_14, .ref covered_14, .ref turned_14, .ref owner_14, .ref asked_14, .int 0, .ref placeCell_14, .ref placeCost_14, .int 0])), (height_14, .inl (cy 0, 96, .inl (fun _ => 500))), (covered_14, .inl (cy 1, 96, .inl (fun _ => 0))), (turned_14, .inl (cy 1, 96, .inl (fun _ => 0))), (owner_14, .inl (cy 0, 96, .inl (fun _ => (-1)))), (asked_14, .inl (cy 1, 96, .inl (fun _ => 0))), (placeCell_14, .inl (cy 0, 8, .inl (fun _ => 0))), (placeCost_14, .inl (cy 0, 8, .inl (fun _ => 0))), (a23_2, .inl (cy 4, 40, .inr (.inr (.inr (.inr (fun _ => none)))))), (a30_3, .inr (3, [.ref tape_34, .int 0, .int 0, .int 0, .int 0, .long 0, .null, .int 0, .int 0, .int 0, .int 0, .ref code_34, .int 0, .null])), (tape_34, .inl (cy 3, 1500, .inl (fun _ => 0))), (code_34, .inl (cy 0, 1500, .inl (fun _ => 0))), (a41_4, .inr (4, [.ref days_45, .ref read_45, .int 0, .ref empty_45])), (days_45, .inl (cy 0, 8, .inl (fun _ => 0))), (read_45, .inl (cy 8, 8, .inr (.inr (.inr (.inr (fun _ => none)))))), (empty_45, .inr (5, [.int 0, .ref names_in_empty_45, .ref thin_in_empty_45, .ref thick_in_empty_45, .ref leastBelow_in_empty_45, .ref mostBelow_in_empty_45, .int 0, .int 10, .int 20, .int 0, .int 0, .ref remainFrom_in_empty_45, .ref remainTo_in_empty_45, .int 0, .ref lineKind_in_empty_45, .ref lineSays_in_empty_45, .ref lineEnd_in_empty_45, .ref code_in_empty_45, .ref stack_in_empty_45])), (names_in_empty_45, .inl (cy 2, 10, .inr (.inl (fun _ => 0)))), (thin_in_empty_45, .inl (cy 0, 10, .inl (fun _ => 0))), (thick_in_empty_45, .inl (cy 0, 10, .inl (fun _ => 0))), (leastBelow_in_empty_45, .inl (cy 0, 20, .inl (fun _ => 0))), (mostBelow_in_empty_45, .inl (cy 0, 20, .inl (fun _ => 0))), (remainFrom_in_empty_45, .inl (cy 0, 10, .inl (fun _ => (-1)))), (remainTo_in_empty_45, .inl (cy 0, 10, .inl (fun _ => 0))), (lineKind_in_empty_45, .inl (cy 0, 24, .inl (fun _ => 0))), (lineSays_in_empty_45, .inl (cy 0, 24, .inl (fun _ => 0))), (lineEnd_in_empty_45, .inl (cy 0, 24, .inl (fun _ => 0))), (code_in_empty_45, .inl (cy 0, 0, .inl (fun _ => 0))), (stack_in_empty_45, .inl (cy 0, 32, .inl (fun _ => 0))), (a64_5, .inl (cy 5, 4, .inr (.inr (.inr (.inr (fun _ => none)))))), (a73_6, .inl (cy 6, 10, .inr (.inr (.inr (.inr (fun _ => none))))))] H := hP
  have hD : va_D A [(a, .inr (10, [.int 0, .int (-1), .ref a10_1, .ref a23_2, .int 0, .ref a30_3, .ref a41_4, .ref empty_45, .ref a64_5, .int 0, .int 0, .null, .int 0, .null, .null, .int 0, .int 0, .null, .null])), (a10_1, .inr (2, [.ref height_14, .ref covered_14, .ref turned_14, .ref owner_14, .ref asked_14, .int 0, .ref placeCell_14, .ref placeCost_14, .int 0])), (height_14, .inl (cy 0, 96, .inl (fun _ => 500))), (covered_14, .inl (cy 1, 96, .inl (fun _ => 0))), (turned_14, .inl (cy 1, 96, .inl (fun _ => 0))), (owner_14, .inl (cy 0, 96, .inl (fun _ => (-1)))), (asked_14, .inl (cy 1, 96, .inl (fun _ => 0))), (placeCell_14, .inl (cy 0, 8, .inl (fun _ => 0))), (placeCost_14, .inl (cy 0, 8, .inl (fun _ => 0))), (a23_2, .inl (cy 4, 40, .inr (.inr (.inr (.inr (fun _ => none)))))), (a30_3, .inr (3, [.ref tape_34, .int 0, .int 0, .int 0, .int 0, .long 0, .null, .int 0, .int 0, .int 0, .int 0, .ref code_34, .int 0, .null])), (tape_34, .inl (cy 3, 1500, .inl (fun _ => 0))), (code_34, .inl (cy 0, 1500, .inl (fun _ => 0))), (a41_4, .inr (4, [.ref days_45, .ref read_45, .int 0, .ref empty_45])), (days_45, .inl (cy 0, 8, .inl (fun _ => 0))), (read_45, .inl (cy 8, 8, .inr (.inr (.inr (.inr (fun _ => none)))))), (empty_45, .inr (5, [.int 0, .ref names_in_empty_45, .ref thin_in_empty_45, .ref thick_in_empty_45, .ref leastBelow_in_empty_45, .ref mostBelow_in_empty_45, .int 0, .int 10, .int 20, .int 0, .int 0, .ref remainFrom_in_empty_45, .ref remainTo_in_empty_45, .int 0, .ref lineKind_in_empty_45, .ref lineSays_in_empty_45, .ref lineEnd_in_empty_45, .ref code_in_empty_45, .ref stack_in_empty_45])), (names_in_empty_45, .inl (cy 2, 10, .inr (.inl (fun _ => 0)))), (thin_in_empty_45, .inl (cy 0, 10, .inl (fun _ => 0))), (thick_in_empty_45, .inl (cy 0, 10, .inl (fun _ => 0))), (leastBelow_in_empty_45, .inl (cy 0, 20, .inl (fun _ => 0))), (mostBelow_in_empty_45, .inl (cy 0, 20, .inl (fun _ => 0))), (remainFrom_in_empty_45, .inl (cy 0, 10, .inl (fun _ => (-1)))), (remainTo_in_empty_45, .inl (cy 0, 10, .inl (fun _ => 0))), (lineKind_in_empty_45, .inl (cy 0, 24, .inl (fun _ => 0))), (lineSays_in_empty_45, .inl (cy 0, 24, .inl (fun _ => 0))), (lineEnd_in_empty_45, .inl (cy 0, 24, .inl (fun _ => 0))), (code_in_empty_45, .inl (cy 0, 0, .inl (fun _ => 0))), (stack_in_empty_45, .inl (cy 0, 32, .inl (fun _ => 0))), (a64_5, .inl (cy 5, 4, .inr (.inr (.inr (.inr (fun _ => none)))))), (a73_6, .inl (cy 6, 10, .inr (.inr (.inr (.inr (fun _ => none))))))] := hD
  refine r_putF S hK hP hD hS 0 10 rfl rfl inX11 11 (by decide) tyX11 tyX11_ok nmX11 kw_479 (v := .ref a73_6) rfl hnm rfl rfl rfl (Nat.le_of_ble_eq_true rfl) dX11_init_76 (fun H locs hP hD hS => ?_)
  have hP : va_P D vwCl [(a, .inr (10, [.int 0, .int (-1), .ref a10_1, .ref a23_2, .int 0, .ref a30_3, .ref a41_4, .ref empty_45, .ref a64_5, .int 0, .int 0, .ref a73_6, .int 0, .null, .null, .int 0, .int 0, .null, .null])), (a10_1, .inr (2, [.ref height_14, .ref covered_14, .ref turned_14, .ref owner_14, .ref asked_14, .int 0, .ref placeCell_14, .ref placeCost_14, .int 0])), (height_14, .inl (cy 0, 96, .inl (fun _ => 500))), (covered_14, .inl (cy 1, 96, .inl (fun _ => 0))), (turned_14, .inl (cy 1, 96, .inl (fun _ => 0))), (owner_14, .inl (cy 0, 96, .inl (fun _ => (-1)))), (asked_14, .inl (cy 1, 96, .inl (fun _ => 0))), (placeCell_14, .inl (cy 0, 8, .inl (fun _ => 0))), (placeCost_14, .inl (cy 0, 8, .inl (fun _ => 0))), (a23_2, .inl (cy 4, 40, .inr (.inr (.inr (.inr (fun _ => none)))))), (a30_3, .inr (3, [.ref tape_34, .int 0, .int 0, .int 0, .int 0, .long 0, .null, .int 0, .int 0, .int 0, .int 0, .ref code_34, .int 0, .null])), (tape_34, .inl (cy 3, 1500, .inl (fun _ => 0))), (code_34, .inl (cy 0, 1500, .inl (fun _ => 0))), (a41_4, .inr (4, [.ref days_45, .ref read_45, .int 0, .ref empty_45])), (days_45, .inl (cy 0, 8, .inl (fun _ => 0))), (read_45, .inl (cy 8, 8, .inr (.inr (.inr (.inr (fun _ => none)))))), (empty_45, .inr (5, [.int 0, .ref names_in_empty_45, .ref thin_in_empty_45, .ref thick_in_empty_45, .ref leastBelow_in_empty_45, .ref mostBelow_in_empty_45, .int 0, .int 10, .int 20, .int 0, .int 0, .ref remainFrom_in_empty_45, .ref remainTo_in_empty_45, .int 0, .ref lineKind_in_empty_45, .ref lineSays_in_empty_45, .ref lineEnd_in_empty_45, .ref code_in_empty_45, .ref stack_in_empty_45])), (names_in_empty_45, .inl (cy 2, 10, .inr (.inl (fun _ => 0)))), (thin_in_empty_45, .inl (cy 0, 10, .inl (fun _ => 0))), (thick_in_empty_45, .inl (cy 0, 10, .inl (fun _ => 0))), (leastBelow_in_empty_45, .inl (cy 0, 20, .inl (fun _ => 0))), (mostBelow_in_empty_45, .inl (cy 0, 20, .inl (fun _ => 0))), (remainFrom_in_empty_45, .inl (cy 0, 10, .inl (fun _ => (-1)))), (remainTo_in_empty_45, .inl (cy 0, 10, .inl (fun _ => 0))), (lineKind_in_empty_45, .inl (cy 0, 24, .inl (fun _ => 0))), (lineSays_in_empty_45, .inl (cy 0, 24, .inl (fun _ => 0))), (lineEnd_in_empty_45, .inl (cy 0, 24, .inl (fun _ => 0))), (code_in_empty_45, .inl (cy 0, 0, .inl (fun _ => 0))), (stack_in_empty_45, .inl (cy 0, 32, .inl (fun _ => 0))), (a64_5, .inl (cy 5, 4, .inr (.inr (.inr (.inr (fun _ => none)))))), (a73_6, .inl (cy 6, 10, .inr (.inr (.inr (.inr (fun _ => none))))))] H := hP
  have hD : va_D A [(a, .inr (10, [.int 0, .int (-1), .ref a10_1, .ref a23_2, .int 0, .ref a30_3, .ref a41_4, .ref empty_45, .ref a64_5, .int 0, .int 0, .ref a73_6, .int 0, .null, .null, .int 0, .int 0, .null, .null])), (a10_1, .inr (2, [.ref height_14, .ref covered_14, .ref turned_14, .ref owner_14, .ref asked_14, .int 0, .ref placeCell_14, .ref placeCost_14, .int 0])), (height_14, .inl (cy 0, 96, .inl (fun _ => 500))), (covered_14, .inl (cy 1, 96, .inl (fun _ => 0))), (turned_14, .inl (cy 1, 96, .inl (fun _ => 0))), (owner_14, .inl (cy 0, 96, .inl (fun _ => (-1)))), (asked_14, .inl (cy 1, 96, .inl (fun _ => 0))), (placeCell_14, .inl (cy 0, 8, .inl (fun _ => 0))), (placeCost_14, .inl (cy 0, 8, .inl (fun _ => 0))), (a23_2, .inl (cy 4, 40, .inr (.inr (.inr (.inr (fun _ => none)))))), (a30_3, .inr (3, [.ref tape_34, .int 0, .int 0, .int 0, .int 0, .long 0, .null, .int 0, .int 0, .int 0, .int 0, .ref code_34, .int 0, .null])), (tape_34, .inl (cy 3, 1500, .inl (fun _ => 0))), (code_34, .inl (cy 0, 1500, .inl (fun _ => 0))), (a41_4, .inr (4, [.ref days_45, .ref read_45, .int 0, .ref empty_45])), (days_45, .inl (cy 0, 8, .inl (fun _ => 0))), (read_45, .inl (cy 8, 8, .inr (.inr (.inr (.inr (fun _ => none)))))), (empty_45, .inr (5, [.int 0, .ref names_in_empty_45, .ref thin_in_empty_45, .ref thick_in_empty_45, .ref leastBelow_in_empty_45, .ref mostBelow_in_empty_45, .int 0, .int 10, .int 20, .int 0, .int 0, .ref remainFrom_in_empty_45, .ref remainTo_in_empty_45, .int 0, .ref lineKind_in_empty_45, .ref lineSays_in_empty_45, .ref lineEnd_in_empty_45, .ref code_in_empty_45, .ref stack_in_empty_45])), (names_in_empty_45, .inl (cy 2, 10, .inr (.inl (fun _ => 0)))), (thin_in_empty_45, .inl (cy 0, 10, .inl (fun _ => 0))), (thick_in_empty_45, .inl (cy 0, 10, .inl (fun _ => 0))), (leastBelow_in_empty_45, .inl (cy 0, 20, .inl (fun _ => 0))), (mostBelow_in_empty_45, .inl (cy 0, 20, .inl (fun _ => 0))), (remainFrom_in_empty_45, .inl (cy 0, 10, .inl (fun _ => (-1)))), (remainTo_in_empty_45, .inl (cy 0, 10, .inl (fun _ => 0))), (lineKind_in_empty_45, .inl (cy 0, 24, .inl (fun _ => 0))), (lineSays_in_empty_45, .inl (cy 0, 24, .inl (fun _ => 0))), (lineEnd_in_empty_45, .inl (cy 0, 24, .inl (fun _ => 0))), (code_in_empty_45, .inl (cy 0, 0, .inl (fun _ => 0))), (stack_in_empty_45, .inl (cy 0, 32, .inl (fun _ => 0))), (a64_5, .inl (cy 5, 4, .inr (.inr (.inr (.inr (fun _ => none)))))), (a73_6, .inl (cy 6, 10, .inr (.inr (.inr (.inr (fun _ => none))))))] := hD
  refine lv_aload_n S.1 S.2.1 dX11_init_79 rfl (lv_at hl 0 rfl) ?_
  refine r_new S (ci := 6) inX6 tyX6 tyX6_ok kw_396 kw_397 kw_150 hK hP hD hS hA rfl (fs := [.null, .null, .null, .int 0, .int 0, .int 0, .null, .null, .null, .null, .null, .null, .int 0]) rfl (by decide) (by decide) dX11_init_80 (fun a80_7 H hP hD hS => ?_)
  have hP : va_P D vwCl [(a, .inr (10, [.int 0, .int (-1), .ref a10_1, .ref a23_2, .int 0, .ref a30_3, .ref a41_4, .ref empty_45, .ref a64_5, .int 0, .int 0, .ref a73_6, .int 0, .null, .null, .int 0, .int 0, .null, .null])), (a10_1, .inr (2, [.ref height_14, .ref covered_14, .ref turned_14, .ref owner_14, .ref asked_14, .int 0, .ref placeCell_14, .ref placeCost_14, .int 0])), (height_14, .inl (cy 0, 96, .inl (fun _ => 500))), (covered_14, .inl (cy 1, 96, .inl (fun _ => 0))), (turned_14, .inl (cy 1, 96, .inl (fun _ => 0))), (owner_14, .inl (cy 0, 96, .inl (fun _ => (-1)))), (asked_14, .inl (cy 1, 96, .inl (fun _ => 0))), (placeCell_14, .inl (cy 0, 8, .inl (fun _ => 0))), (placeCost_14, .inl (cy 0, 8, .inl (fun _ => 0))), (a23_2, .inl (cy 4, 40, .inr (.inr (.inr (.inr (fun _ => none)))))), (a30_3, .inr (3, [.ref tape_34, .int 0, .int 0, .int 0, .int 0, .long 0, .null, .int 0, .int 0, .int 0, .int 0, .ref code_34, .int 0, .null])), (tape_34, .inl (cy 3, 1500, .inl (fun _ => 0))), (code_34, .inl (cy 0, 1500, .inl (fun _ => 0))), (a41_4, .inr (4, [.ref days_45, .ref read_45, .int 0, .ref empty_45])), (days_45, .inl (cy 0, 8, .inl (fun _ => 0))), (read_45, .inl (cy 8, 8, .inr (.inr (.inr (.inr (fun _ => none)))))), (empty_45, .inr (5, [.int 0, .ref names_in_empty_45, .ref thin_in_empty_45, .ref thick_in_empty_45, .ref leastBelow_in_empty_45, .ref mostBelow_in_empty_45, .int 0, .int 10, .int 20, .int 0, .int 0, .ref remainFrom_in_empty_45, .ref remainTo_in_empty_45, .int 0, .ref lineKind_in_empty_45, .ref lineSays_in_empty_45, .ref lineEnd_in_empty_45, .ref code_in_empty_45, .ref stack_in_empty_45])), (names_in_empty_45, .inl (cy 2, 10, .inr (.inl (fun _ => 0)))), (thin_in_empty_45, .inl (cy 0, 10, .inl (fun _ => 0))), (thick_in_empty_45, .inl (cy 0, 10, .inl (fun _ => 0))), (leastBelow_in_empty_45, .inl (cy 0, 20, .inl (fun _ => 0))), (mostBelow_in_empty_45, .inl (cy 0, 20, .inl (fun _ => 0))), (remainFrom_in_empty_45, .inl (cy 0, 10, .inl (fun _ => (-1)))), (remainTo_in_empty_45, .inl (cy 0, 10, .inl (fun _ => 0))), (lineKind_in_empty_45, .inl (cy 0, 24, .inl (fun _ => 0))), (lineSays_in_empty_45, .inl (cy 0, 24, .inl (fun _ => 0))), (lineEnd_in_empty_45, .inl (cy 0, 24, .inl (fun _ => 0))), (code_in_empty_45, .inl (cy 0, 0, .inl (fun _ => 0))), (stack_in_empty_45, .inl (cy 0, 32, .inl (fun _ => 0))), (a64_5, .inl (cy 5, 4, .inr (.inr (.inr (.inr (fun _ => none)))))), (a73_6, .inl (cy 6, 10, .inr (.inr (.inr (.inr (fun _ => none)))))), (a80_7, .inr (6, [.null, .null, .null, .int 0, .int 0, .int 0, .null, .null, .null, .null, .null, .null, .int 0]))] H := hP
  have hD : va_D A [(a, .inr (10, [.int 0, .int (-1), .ref a10_1, .ref a23_2, .int 0, .ref a30_3, .ref a41_4, .ref empty_45, .ref a64_5, .int 0, .int 0, .ref a73_6, .int 0, .null, .null, .int 0, .int 0, .null, .null])), (a10_1, .inr (2, [.ref height_14, .ref covered_14, .ref turned_14, .ref owner_14, .ref asked_14, .int 0, .ref placeCell_14, .ref placeCost_14, .int 0])), (height_14, .inl (cy 0, 96, .inl (fun _ => 500))), (covered_14, .inl (cy 1, 96, .inl (fun _ => 0))), (turned_14, .inl (cy 1, 96, .inl (fun _ => 0))), (owner_14, .inl (cy 0, 96, .inl (fun _ => (-1)))), (asked_14, .inl (cy 1, 96, .inl (fun _ => 0))), (placeCell_14, .inl (cy 0, 8, .inl (fun _ => 0))), (placeCost_14, .inl (cy 0, 8, .inl (fun _ => 0))), (a23_2, .inl (cy 4, 40, .inr (.inr (.inr (.inr (fun _ => none)))))), (a30_3, .inr (3, [.ref tape_34, .int 0, .int 0, .int 0, .int 0, .long 0, .null, .int 0, .int 0, .int 0, .int 0, .ref code_34, .int 0, .null])), (tape_34, .inl (cy 3, 1500, .inl (fun _ => 0))), (code_34, .inl (cy 0, 1500, .inl (fun _ => 0))), (a41_4, .inr (4, [.ref days_45, .ref read_45, .int 0, .ref empty_45])), (days_45, .inl (cy 0, 8, .inl (fun _ => 0))), (read_45, .inl (cy 8, 8, .inr (.inr (.inr (.inr (fun _ => none)))))), (empty_45, .inr (5, [.int 0, .ref names_in_empty_45, .ref thin_in_empty_45, .ref thick_in_empty_45, .ref leastBelow_in_empty_45, .ref mostBelow_in_empty_45, .int 0, .int 10, .int 20, .int 0, .int 0, .ref remainFrom_in_empty_45, .ref remainTo_in_empty_45, .int 0, .ref lineKind_in_empty_45, .ref lineSays_in_empty_45, .ref lineEnd_in_empty_45, .ref code_in_empty_45, .ref stack_in_empty_45])), (names_in_empty_45, .inl (cy 2, 10, .inr (.inl (fun _ => 0)))), (thin_in_empty_45, .inl (cy 0, 10, .inl (fun _ => 0))), (thick_in_empty_45, .inl (cy 0, 10, .inl (fun _ => 0))), (leastBelow_in_empty_45, .inl (cy 0, 20, .inl (fun _ => 0))), (mostBelow_in_empty_45, .inl (cy 0, 20, .inl (fun _ => 0))), (remainFrom_in_empty_45, .inl (cy 0, 10, .inl (fun _ => (-1)))), (remainTo_in_empty_45, .inl (cy 0, 10, .inl (fun _ => 0))), (lineKind_in_empty_45, .inl (cy 0, 24, .inl (fun _ => 0))), (lineSays_in_empty_45, .inl (cy 0, 24, .inl (fun _ => 0))), (lineEnd_in_empty_45, .inl (cy 0, 24, .inl (fun _ => 0))), (code_in_empty_45, .inl (cy 0, 0, .inl (fun _ => 0))), (stack_in_empty_45, .inl (cy 0, 32, .inl (fun _ => 0))), (a64_5, .inl (cy 5, 4, .inr (.inr (.inr (.inr (fun _ => none)))))), (a73_6, .inl (cy 6, 10, .inr (.inr (.inr (.inr (fun _ => none)))))), (a80_7, .inr (6, [.null, .null, .null, .int 0, .int 0, .int 0, .null, .null, .null, .null, .null, .null, .int 0]))] := hD
  refine lv_dup S.1 S.2.1 dX11_init_83 rfl ?_
  refine lv_aload_n S.1 S.2.1 dX11_init_84 rfl (lv_at hl 0 rfl) ?_
  refine r_get S hK hP 0 10 rfl rfl inX11 3 (by decide) kw_471 (v := .ref a23_2) rfl dX11_init_85 ?_
  refine lv_aload_n S.1 S.2.1 dX11_init_88 rfl (lv_at hl 0 rfl) ?_
  refine r_get S hK hP 0 10 rfl rfl inX11 8 (by decide) kw_476 (v := .ref a64_5) rfl dX11_init_89 ?_
  refine call_v (wr := [(a, .inr (10, [.int 0, .int (-1), .ref a10_1, .ref a23_2, .int 0, .ref a30_3, .ref a41_4, .ref empty_45, .ref a64_5, .int 0, .int 0, .ref a73_6, .int 0, .null, .null, .int 0, .int 0, .null, .null])), (a10_1, .inr (2, [.ref height_14, .ref covered_14, .ref turned_14, .ref owner_14, .ref asked_14, .int 0, .ref placeCell_14, .ref placeCost_14, .int 0])), (height_14, .inl (cy 0, 96, .inl (fun _ => 500))), (covered_14, .inl (cy 1, 96, .inl (fun _ => 0))), (turned_14, .inl (cy 1, 96, .inl (fun _ => 0))), (owner_14, .inl (cy 0, 96, .inl (fun _ => (-1)))), (asked_14, .inl (cy 1, 96, .inl (fun _ => 0))), (placeCell_14, .inl (cy 0, 8, .inl (fun _ => 0))), (placeCost_14, .inl (cy 0, 8, .inl (fun _ => 0))), (a23_2, .inl (cy 4, 40, .inr (.inr (.inr (.inr (fun _ => none)))))), (a30_3, .inr (3, [.ref tape_34, .int 0, .int 0, .int 0, .int 0, .long 0, .null, .int 0, .int 0, .int 0, .int 0, .ref code_34, .int 0, .null])), (tape_34, .inl (cy 3, 1500, .inl (fun _ => 0))), (code_34, .inl (cy 0, 1500, .inl (fun _ => 0))), (a41_4, .inr (4, [.ref days_45, .ref read_45, .int 0, .ref empty_45])), (days_45, .inl (cy 0, 8, .inl (fun _ => 0))), (read_45, .inl (cy 8, 8, .inr (.inr (.inr (.inr (fun _ => none)))))), (empty_45, .inr (5, [.int 0, .ref names_in_empty_45, .ref thin_in_empty_45, .ref thick_in_empty_45, .ref leastBelow_in_empty_45, .ref mostBelow_in_empty_45, .int 0, .int 10, .int 20, .int 0, .int 0, .ref remainFrom_in_empty_45, .ref remainTo_in_empty_45, .int 0, .ref lineKind_in_empty_45, .ref lineSays_in_empty_45, .ref lineEnd_in_empty_45, .ref code_in_empty_45, .ref stack_in_empty_45])), (names_in_empty_45, .inl (cy 2, 10, .inr (.inl (fun _ => 0)))), (thin_in_empty_45, .inl (cy 0, 10, .inl (fun _ => 0))), (thick_in_empty_45, .inl (cy 0, 10, .inl (fun _ => 0))), (leastBelow_in_empty_45, .inl (cy 0, 20, .inl (fun _ => 0))), (mostBelow_in_empty_45, .inl (cy 0, 20, .inl (fun _ => 0))), (remainFrom_in_empty_45, .inl (cy 0, 10, .inl (fun _ => (-1)))), (remainTo_in_empty_45, .inl (cy 0, 10, .inl (fun _ => 0))), (lineKind_in_empty_45, .inl (cy 0, 24, .inl (fun _ => 0))), (lineSays_in_empty_45, .inl (cy 0, 24, .inl (fun _ => 0))), (lineEnd_in_empty_45, .inl (cy 0, 24, .inl (fun _ => 0))), (code_in_empty_45, .inl (cy 0, 0, .inl (fun _ => 0))), (stack_in_empty_45, .inl (cy 0, 32, .inl (fun _ => 0))), (a64_5, .inl (cy 5, 4, .inr (.inr (.inr (.inr (fun _ => none)))))), (a73_6, .inl (cy 6, 10, .inr (.inr (.inr (.inr (fun _ => none))))))]) (runI_C (wc := [(a80_7, .inr (6, [.null, .null, .null, .int 0, .int 0, .int 0, .null, .null, .null, .null, .null, .null, .int 0]))]) (As := [.ref a23_2, .ref a64_5]) (rest := [.ref a80_7, .ref a]) S (kX6_init l D cy a80_7 a23_2 a64_5) hK hP hD [31] (by decide) rfl kw_398 kw_399 kw_150 kw_400 okX6_init rfl rfl (by decide) hl.1 rfl (Nat.le_of_ble_eq_true rfl) dX11_init_92 (by decide)) hP hD hS hA [31] [0, 1, 2, 3, 4, 5, 6, 7, 8, 9, 10, 11, 12, 13, 14, 15, 16, 17, 18, 19, 20, 21, 22, 23, 24, 25, 26, 27, 28, 29, 30] rfl rfl (by decide) (by decide) (fun u92 H locs w92 hP hD hS => ?_)
  obtain ⟨slopes_92, reach_92, backReach_92, floor_92, floorBlamed_92, reachBlamed_92, walked_92, rise_in_slopes_92, blamed_in_slopes_92, came_in_slopes_92⟩ := u92
  have hP : va_P D vwCl [(a, .inr (10, [.int 0, .int (-1), .ref a10_1, .ref a23_2, .int 0, .ref a30_3, .ref a41_4, .ref empty_45, .ref a64_5, .int 0, .int 0, .ref a73_6, .int 0, .null, .null, .int 0, .int 0, .null, .null])), (a10_1, .inr (2, [.ref height_14, .ref covered_14, .ref turned_14, .ref owner_14, .ref asked_14, .int 0, .ref placeCell_14, .ref placeCost_14, .int 0])), (height_14, .inl (cy 0, 96, .inl (fun _ => 500))), (covered_14, .inl (cy 1, 96, .inl (fun _ => 0))), (turned_14, .inl (cy 1, 96, .inl (fun _ => 0))), (owner_14, .inl (cy 0, 96, .inl (fun _ => (-1)))), (asked_14, .inl (cy 1, 96, .inl (fun _ => 0))), (placeCell_14, .inl (cy 0, 8, .inl (fun _ => 0))), (placeCost_14, .inl (cy 0, 8, .inl (fun _ => 0))), (a23_2, .inl (cy 4, 40, .inr (.inr (.inr (.inr (fun _ => none)))))), (a30_3, .inr (3, [.ref tape_34, .int 0, .int 0, .int 0, .int 0, .long 0, .null, .int 0, .int 0, .int 0, .int 0, .ref code_34, .int 0, .null])), (tape_34, .inl (cy 3, 1500, .inl (fun _ => 0))), (code_34, .inl (cy 0, 1500, .inl (fun _ => 0))), (a41_4, .inr (4, [.ref days_45, .ref read_45, .int 0, .ref empty_45])), (days_45, .inl (cy 0, 8, .inl (fun _ => 0))), (read_45, .inl (cy 8, 8, .inr (.inr (.inr (.inr (fun _ => none)))))), (empty_45, .inr (5, [.int 0, .ref names_in_empty_45, .ref thin_in_empty_45, .ref thick_in_empty_45, .ref leastBelow_in_empty_45, .ref mostBelow_in_empty_45, .int 0, .int 10, .int 20, .int 0, .int 0, .ref remainFrom_in_empty_45, .ref remainTo_in_empty_45, .int 0, .ref lineKind_in_empty_45, .ref lineSays_in_empty_45, .ref lineEnd_in_empty_45, .ref code_in_empty_45, .ref stack_in_empty_45])), (names_in_empty_45, .inl (cy 2, 10, .inr (.inl (fun _ => 0)))), (thin_in_empty_45, .inl (cy 0, 10, .inl (fun _ => 0))), (thick_in_empty_45, .inl (cy 0, 10, .inl (fun _ => 0))), (leastBelow_in_empty_45, .inl (cy 0, 20, .inl (fun _ => 0))), (mostBelow_in_empty_45, .inl (cy 0, 20, .inl (fun _ => 0))), (remainFrom_in_empty_45, .inl (cy 0, 10, .inl (fun _ => (-1)))), (remainTo_in_empty_45, .inl (cy 0, 10, .inl (fun _ => 0))), (lineKind_in_empty_45, .inl (cy 0, 24, .inl (fun _ => 0))), (lineSays_in_empty_45, .inl (cy 0, 24, .inl (fun _ => 0))), (lineEnd_in_empty_45, .inl (cy 0, 24, .inl (fun _ => 0))), (code_in_empty_45, .inl (cy 0, 0, .inl (fun _ => 0))), (stack_in_empty_45, .inl (cy 0, 32, .inl (fun _ => 0))), (a64_5, .inl (cy 5, 4, .inr (.inr (.inr (.inr (fun _ => none)))))), (a73_6, .inl (cy 6, 10, .inr (.inr (.inr (.inr (fun _ => none)))))), (a80_7, .inr (6, [.ref slopes_92, .ref a23_2, .ref a64_5, .int 0, .int 0, .int 0, .ref reach_92, .ref backReach_92, .ref floor_92, .ref floorBlamed_92, .ref reachBlamed_92, .ref walked_92, .int 0])), (reach_92, .inl (cy 0, 96, .inl (fun _ => 0))), (backReach_92, .inl (cy 0, 96, .inl (fun _ => 0))), (floor_92, .inl (cy 0, 96, .inl (fun _ => 0))), (floorBlamed_92, .inl (cy 2, 96, .inr (.inl (fun _ => 0)))), (reachBlamed_92, .inl (cy 2, 96, .inr (.inl (fun _ => 0)))), (walked_92, .inl (cy 0, 96, .inl (fun _ => 0))), (slopes_92, .inr (9, [.ref rise_in_slopes_92, .ref blamed_in_slopes_92, .ref came_in_slopes_92, .int 0])), (rise_in_slopes_92, .inl (cy 0, 384, .inl (fun _ => 0))), (blamed_in_slopes_92, .inl (cy 2, 384, .inr (.inl (fun _ => 0)))), (came_in_slopes_92, .inl (cy 0, 96, .inl (fun _ => 0)))] H := hP
  have hD : va_D A [(a, .inr (10, [.int 0, .int (-1), .ref a10_1, .ref a23_2, .int 0, .ref a30_3, .ref a41_4, .ref empty_45, .ref a64_5, .int 0, .int 0, .ref a73_6, .int 0, .null, .null, .int 0, .int 0, .null, .null])), (a10_1, .inr (2, [.ref height_14, .ref covered_14, .ref turned_14, .ref owner_14, .ref asked_14, .int 0, .ref placeCell_14, .ref placeCost_14, .int 0])), (height_14, .inl (cy 0, 96, .inl (fun _ => 500))), (covered_14, .inl (cy 1, 96, .inl (fun _ => 0))), (turned_14, .inl (cy 1, 96, .inl (fun _ => 0))), (owner_14, .inl (cy 0, 96, .inl (fun _ => (-1)))), (asked_14, .inl (cy 1, 96, .inl (fun _ => 0))), (placeCell_14, .inl (cy 0, 8, .inl (fun _ => 0))), (placeCost_14, .inl (cy 0, 8, .inl (fun _ => 0))), (a23_2, .inl (cy 4, 40, .inr (.inr (.inr (.inr (fun _ => none)))))), (a30_3, .inr (3, [.ref tape_34, .int 0, .int 0, .int 0, .int 0, .long 0, .null, .int 0, .int 0, .int 0, .int 0, .ref code_34, .int 0, .null])), (tape_34, .inl (cy 3, 1500, .inl (fun _ => 0))), (code_34, .inl (cy 0, 1500, .inl (fun _ => 0))), (a41_4, .inr (4, [.ref days_45, .ref read_45, .int 0, .ref empty_45])), (days_45, .inl (cy 0, 8, .inl (fun _ => 0))), (read_45, .inl (cy 8, 8, .inr (.inr (.inr (.inr (fun _ => none)))))), (empty_45, .inr (5, [.int 0, .ref names_in_empty_45, .ref thin_in_empty_45, .ref thick_in_empty_45, .ref leastBelow_in_empty_45, .ref mostBelow_in_empty_45, .int 0, .int 10, .int 20, .int 0, .int 0, .ref remainFrom_in_empty_45, .ref remainTo_in_empty_45, .int 0, .ref lineKind_in_empty_45, .ref lineSays_in_empty_45, .ref lineEnd_in_empty_45, .ref code_in_empty_45, .ref stack_in_empty_45])), (names_in_empty_45, .inl (cy 2, 10, .inr (.inl (fun _ => 0)))), (thin_in_empty_45, .inl (cy 0, 10, .inl (fun _ => 0))), (thick_in_empty_45, .inl (cy 0, 10, .inl (fun _ => 0))), (leastBelow_in_empty_45, .inl (cy 0, 20, .inl (fun _ => 0))), (mostBelow_in_empty_45, .inl (cy 0, 20, .inl (fun _ => 0))), (remainFrom_in_empty_45, .inl (cy 0, 10, .inl (fun _ => (-1)))), (remainTo_in_empty_45, .inl (cy 0, 10, .inl (fun _ => 0))), (lineKind_in_empty_45, .inl (cy 0, 24, .inl (fun _ => 0))), (lineSays_in_empty_45, .inl (cy 0, 24, .inl (fun _ => 0))), (lineEnd_in_empty_45, .inl (cy 0, 24, .inl (fun _ => 0))), (code_in_empty_45, .inl (cy 0, 0, .inl (fun _ => 0))), (stack_in_empty_45, .inl (cy 0, 32, .inl (fun _ => 0))), (a64_5, .inl (cy 5, 4, .inr (.inr (.inr (.inr (fun _ => none)))))), (a73_6, .inl (cy 6, 10, .inr (.inr (.inr (.inr (fun _ => none)))))), (a80_7, .inr (6, [.ref slopes_92, .ref a23_2, .ref a64_5, .int 0, .int 0, .int 0, .ref reach_92, .ref backReach_92, .ref floor_92, .ref floorBlamed_92, .ref reachBlamed_92, .ref walked_92, .int 0])), (reach_92, .inl (cy 0, 96, .inl (fun _ => 0))), (backReach_92, .inl (cy 0, 96, .inl (fun _ => 0))), (floor_92, .inl (cy 0, 96, .inl (fun _ => 0))), (floorBlamed_92, .inl (cy 2, 96, .inr (.inl (fun _ => 0)))), (reachBlamed_92, .inl (cy 2, 96, .inr (.inl (fun _ => 0)))), (walked_92, .inl (cy 0, 96, .inl (fun _ => 0))), (slopes_92, .inr (9, [.ref rise_in_slopes_92, .ref blamed_in_slopes_92, .ref came_in_slopes_92, .int 0])), (rise_in_slopes_92, .inl (cy 0, 384, .inl (fun _ => 0))), (blamed_in_slopes_92, .inl (cy 2, 384, .inr (.inl (fun _ => 0)))), (came_in_slopes_92, .inl (cy 0, 96, .inl (fun _ => 0)))] := hD
  refine r_putF S hK hP hD hS 0 10 rfl rfl inX11 13 (by decide) tyX11 tyX11_ok nmX11 kw_481 (v := .ref a80_7) rfl hnm rfl rfl rfl (Nat.le_of_ble_eq_true rfl) dX11_init_95 (fun H locs hP hD hS => ?_)
  have hP : va_P D vwCl [(a, .inr (10, [.int 0, .int (-1), .ref a10_1, .ref a23_2, .int 0, .ref a30_3, .ref a41_4, .ref empty_45, .ref a64_5, .int 0, .int 0, .ref a73_6, .int 0, .ref a80_7, .null, .int 0, .int 0, .null, .null])), (a10_1, .inr (2, [.ref height_14, .ref covered_14, .ref turned_14, .ref owner_14, .ref asked_14, .int 0, .ref placeCell_14, .ref placeCost_14, .int 0])), (height_14, .inl (cy 0, 96, .inl (fun _ => 500))), (covered_14, .inl (cy 1, 96, .inl (fun _ => 0))), (turned_14, .inl (cy 1, 96, .inl (fun _ => 0))), (owner_14, .inl (cy 0, 96, .inl (fun _ => (-1)))), (asked_14, .inl (cy 1, 96, .inl (fun _ => 0))), (placeCell_14, .inl (cy 0, 8, .inl (fun _ => 0))), (placeCost_14, .inl (cy 0, 8, .inl (fun _ => 0))), (a23_2, .inl (cy 4, 40, .inr (.inr (.inr (.inr (fun _ => none)))))), (a30_3, .inr (3, [.ref tape_34, .int 0, .int 0, .int 0, .int 0, .long 0, .null, .int 0, .int 0, .int 0, .int 0, .ref code_34, .int 0, .null])), (tape_34, .inl (cy 3, 1500, .inl (fun _ => 0))), (code_34, .inl (cy 0, 1500, .inl (fun _ => 0))), (a41_4, .inr (4, [.ref days_45, .ref read_45, .int 0, .ref empty_45])), (days_45, .inl (cy 0, 8, .inl (fun _ => 0))), (read_45, .inl (cy 8, 8, .inr (.inr (.inr (.inr (fun _ => none)))))), (empty_45, .inr (5, [.int 0, .ref names_in_empty_45, .ref thin_in_empty_45, .ref thick_in_empty_45, .ref leastBelow_in_empty_45, .ref mostBelow_in_empty_45, .int 0, .int 10, .int 20, .int 0, .int 0, .ref remainFrom_in_empty_45, .ref remainTo_in_empty_45, .int 0, .ref lineKind_in_empty_45, .ref lineSays_in_empty_45, .ref lineEnd_in_empty_45, .ref code_in_empty_45, .ref stack_in_empty_45])), (names_in_empty_45, .inl (cy 2, 10, .inr (.inl (fun _ => 0)))), (thin_in_empty_45, .inl (cy 0, 10, .inl (fun _ => 0))), (thick_in_empty_45, .inl (cy 0, 10, .inl (fun _ => 0))), (leastBelow_in_empty_45, .inl (cy 0, 20, .inl (fun _ => 0))), (mostBelow_in_empty_45, .inl (cy 0, 20, .inl (fun _ => 0))), (remainFrom_in_empty_45, .inl (cy 0, 10, .inl (fun _ => (-1)))), (remainTo_in_empty_45, .inl (cy 0, 10, .inl (fun _ => 0))), (lineKind_in_empty_45, .inl (cy 0, 24, .inl (fun _ => 0))), (lineSays_in_empty_45, .inl (cy 0, 24, .inl (fun _ => 0))), (lineEnd_in_empty_45, .inl (cy 0, 24, .inl (fun _ => 0))), (code_in_empty_45, .inl (cy 0, 0, .inl (fun _ => 0))), (stack_in_empty_45, .inl (cy 0, 32, .inl (fun _ => 0))), (a64_5, .inl (cy 5, 4, .inr (.inr (.inr (.inr (fun _ => none)))))), (a73_6, .inl (cy 6, 10, .inr (.inr (.inr (.inr (fun _ => none)))))), (a80_7, .inr (6, [.ref slopes_92, .ref a23_2, .ref a64_5, .int 0, .int 0, .int 0, .ref reach_92, .ref backReach_92, .ref floor_92, .ref floorBlamed_92, .ref reachBlamed_92, .ref walked_92, .int 0])), (reach_92, .inl (cy 0, 96, .inl (fun _ => 0))), (backReach_92, .inl (cy 0, 96, .inl (fun _ => 0))), (floor_92, .inl (cy 0, 96, .inl (fun _ => 0))), (floorBlamed_92, .inl (cy 2, 96, .inr (.inl (fun _ => 0)))), (reachBlamed_92, .inl (cy 2, 96, .inr (.inl (fun _ => 0)))), (walked_92, .inl (cy 0, 96, .inl (fun _ => 0))), (slopes_92, .inr (9, [.ref rise_in_slopes_92, .ref blamed_in_slopes_92, .ref came_in_slopes_92, .int 0])), (rise_in_slopes_92, .inl (cy 0, 384, .inl (fun _ => 0))), (blamed_in_slopes_92, .inl (cy 2, 384, .inr (.inl (fun _ => 0)))), (came_in_slopes_92, .inl (cy 0, 96, .inl (fun _ => 0)))] H := hP
  have hD : va_D A [(a, .inr (10, [.int 0, .int (-1), .ref a10_1, .ref a23_2, .int 0, .ref a30_3, .ref a41_4, .ref empty_45, .ref a64_5, .int 0, .int 0, .ref a73_6, .int 0, .ref a80_7, .null, .int 0, .int 0, .null, .null])), (a10_1, .inr (2, [.ref height_14, .ref covered_14, .ref turned_14, .ref owner_14, .ref asked_14, .int 0, .ref placeCell_14, .ref placeCost_14, .int 0])), (height_14, .inl (cy 0, 96, .inl (fun _ => 500))), (covered_14, .inl (cy 1, 96, .inl (fun _ => 0))), (turned_14, .inl (cy 1, 96, .inl (fun _ => 0))), (owner_14, .inl (cy 0, 96, .inl (fun _ => (-1)))), (asked_14, .inl (cy 1, 96, .inl (fun _ => 0))), (placeCell_14, .inl (cy 0, 8, .inl (fun _ => 0))), (placeCost_14, .inl (cy 0, 8, .inl (fun _ => 0))), (a23_2, .inl (cy 4, 40, .inr (.inr (.inr (.inr (fun _ => none)))))), (a30_3, .inr (3, [.ref tape_34, .int 0, .int 0, .int 0, .int 0, .long 0, .null, .int 0, .int 0, .int 0, .int 0, .ref code_34, .int 0, .null])), (tape_34, .inl (cy 3, 1500, .inl (fun _ => 0))), (code_34, .inl (cy 0, 1500, .inl (fun _ => 0))), (a41_4, .inr (4, [.ref days_45, .ref read_45, .int 0, .ref empty_45])), (days_45, .inl (cy 0, 8, .inl (fun _ => 0))), (read_45, .inl (cy 8, 8, .inr (.inr (.inr (.inr (fun _ => none)))))), (empty_45, .inr (5, [.int 0, .ref names_in_empty_45, .ref thin_in_empty_45, .ref thick_in_empty_45, .ref leastBelow_in_empty_45, .ref mostBelow_in_empty_45, .int 0, .int 10, .int 20, .int 0, .int 0, .ref remainFrom_in_empty_45, .ref remainTo_in_empty_45, .int 0, .ref lineKind_in_empty_45, .ref lineSays_in_empty_45, .ref lineEnd_in_empty_45, .ref code_in_empty_45, .ref stack_in_empty_45])), (names_in_empty_45, .inl (cy 2, 10, .inr (.inl (fun _ => 0)))), (thin_in_empty_45, .inl (cy 0, 10, .inl (fun _ => 0))), (thick_in_empty_45, .inl (cy 0, 10, .inl (fun _ => 0))), (leastBelow_in_empty_45, .inl (cy 0, 20, .inl (fun _ => 0))), (mostBelow_in_empty_45, .inl (cy 0, 20, .inl (fun _ => 0))), (remainFrom_in_empty_45, .inl (cy 0, 10, .inl (fun _ => (-1)))), (remainTo_in_empty_45, .inl (cy 0, 10, .inl (fun _ => 0))), (lineKind_in_empty_45, .inl (cy 0, 24, .inl (fun _ => 0))), (lineSays_in_empty_45, .inl (cy 0, 24, .inl (fun _ => 0))), (lineEnd_in_empty_45, .inl (cy 0, 24, .inl (fun _ => 0))), (code_in_empty_45, .inl (cy 0, 0, .inl (fun _ => 0))), (stack_in_empty_45, .inl (cy 0, 32, .inl (fun _ => 0))), (a64_5, .inl (cy 5, 4, .inr (.inr (.inr (.inr (fun _ => none)))))), (a73_6, .inl (cy 6, 10, .inr (.inr (.inr (.inr (fun _ => none)))))), (a80_7, .inr (6, [.ref slopes_92, .ref a23_2, .ref a64_5, .int 0, .int 0, .int 0, .ref reach_92, .ref backReach_92, .ref floor_92, .ref floorBlamed_92, .ref reachBlamed_92, .ref walked_92, .int 0])), (reach_92, .inl (cy 0, 96, .inl (fun _ => 0))), (backReach_92, .inl (cy 0, 96, .inl (fun _ => 0))), (floor_92, .inl (cy 0, 96, .inl (fun _ => 0))), (floorBlamed_92, .inl (cy 2, 96, .inr (.inl (fun _ => 0)))), (reachBlamed_92, .inl (cy 2, 96, .inr (.inl (fun _ => 0)))), (walked_92, .inl (cy 0, 96, .inl (fun _ => 0))), (slopes_92, .inr (9, [.ref rise_in_slopes_92, .ref blamed_in_slopes_92, .ref came_in_slopes_92, .int 0])), (rise_in_slopes_92, .inl (cy 0, 384, .inl (fun _ => 0))), (blamed_in_slopes_92, .inl (cy 2, 384, .inr (.inl (fun _ => 0)))), (came_in_slopes_92, .inl (cy 0, 96, .inl (fun _ => 0)))] := hD
  refine lv_aload_n S.1 S.2.1 dX11_init_98 rfl (lv_at hl 0 rfl) ?_
  refine lv_bipush (v := 16) S.1 S.2.1 dX11_init_99 (by decide) ?_
  refine r_newq S kw_466 hK.2.1.2.2.2.1 hK hP hD hS hA 7 rfl (by decide) (N' := 16) (by decide) (by decide) (by decide) (by decide) dX11_init_101 (fun a101_8 H hP hD hS => ?_)
  have hP : va_P D vwCl [(a, .inr (10, [.int 0, .int (-1), .ref a10_1, .ref a23_2, .int 0, .ref a30_3, .ref a41_4, .ref empty_45, .ref a64_5, .int 0, .int 0, .ref a73_6, .int 0, .ref a80_7, .null, .int 0, .int 0, .null, .null])), (a10_1, .inr (2, [.ref height_14, .ref covered_14, .ref turned_14, .ref owner_14, .ref asked_14, .int 0, .ref placeCell_14, .ref placeCost_14, .int 0])), (height_14, .inl (cy 0, 96, .inl (fun _ => 500))), (covered_14, .inl (cy 1, 96, .inl (fun _ => 0))), (turned_14, .inl (cy 1, 96, .inl (fun _ => 0))), (owner_14, .inl (cy 0, 96, .inl (fun _ => (-1)))), (asked_14, .inl (cy 1, 96, .inl (fun _ => 0))), (placeCell_14, .inl (cy 0, 8, .inl (fun _ => 0))), (placeCost_14, .inl (cy 0, 8, .inl (fun _ => 0))), (a23_2, .inl (cy 4, 40, .inr (.inr (.inr (.inr (fun _ => none)))))), (a30_3, .inr (3, [.ref tape_34, .int 0, .int 0, .int 0, .int 0, .long 0, .null, .int 0, .int 0, .int 0, .int 0, .ref code_34, .int 0, .null])), (tape_34, .inl (cy 3, 1500, .inl (fun _ => 0))), (code_34, .inl (cy 0, 1500, .inl (fun _ => 0))), (a41_4, .inr (4, [.ref days_45, .ref read_45, .int 0, .ref empty_45])), (days_45, .inl (cy 0, 8, .inl (fun _ => 0))), (read_45, .inl (cy 8, 8, .inr (.inr (.inr (.inr (fun _ => none)))))), (empty_45, .inr (5, [.int 0, .ref names_in_empty_45, .ref thin_in_empty_45, .ref thick_in_empty_45, .ref leastBelow_in_empty_45, .ref mostBelow_in_empty_45, .int 0, .int 10, .int 20, .int 0, .int 0, .ref remainFrom_in_empty_45, .ref remainTo_in_empty_45, .int 0, .ref lineKind_in_empty_45, .ref lineSays_in_empty_45, .ref lineEnd_in_empty_45, .ref code_in_empty_45, .ref stack_in_empty_45])), (names_in_empty_45, .inl (cy 2, 10, .inr (.inl (fun _ => 0)))), (thin_in_empty_45, .inl (cy 0, 10, .inl (fun _ => 0))), (thick_in_empty_45, .inl (cy 0, 10, .inl (fun _ => 0))), (leastBelow_in_empty_45, .inl (cy 0, 20, .inl (fun _ => 0))), (mostBelow_in_empty_45, .inl (cy 0, 20, .inl (fun _ => 0))), (remainFrom_in_empty_45, .inl (cy 0, 10, .inl (fun _ => (-1)))), (remainTo_in_empty_45, .inl (cy 0, 10, .inl (fun _ => 0))), (lineKind_in_empty_45, .inl (cy 0, 24, .inl (fun _ => 0))), (lineSays_in_empty_45, .inl (cy 0, 24, .inl (fun _ => 0))), (lineEnd_in_empty_45, .inl (cy 0, 24, .inl (fun _ => 0))), (code_in_empty_45, .inl (cy 0, 0, .inl (fun _ => 0))), (stack_in_empty_45, .inl (cy 0, 32, .inl (fun _ => 0))), (a64_5, .inl (cy 5, 4, .inr (.inr (.inr (.inr (fun _ => none)))))), (a73_6, .inl (cy 6, 10, .inr (.inr (.inr (.inr (fun _ => none)))))), (a80_7, .inr (6, [.ref slopes_92, .ref a23_2, .ref a64_5, .int 0, .int 0, .int 0, .ref reach_92, .ref backReach_92, .ref floor_92, .ref floorBlamed_92, .ref reachBlamed_92, .ref walked_92, .int 0])), (reach_92, .inl (cy 0, 96, .inl (fun _ => 0))), (backReach_92, .inl (cy 0, 96, .inl (fun _ => 0))), (floor_92, .inl (cy 0, 96, .inl (fun _ => 0))), (floorBlamed_92, .inl (cy 2, 96, .inr (.inl (fun _ => 0)))), (reachBlamed_92, .inl (cy 2, 96, .inr (.inl (fun _ => 0)))), (walked_92, .inl (cy 0, 96, .inl (fun _ => 0))), (slopes_92, .inr (9, [.ref rise_in_slopes_92, .ref blamed_in_slopes_92, .ref came_in_slopes_92, .int 0])), (rise_in_slopes_92, .inl (cy 0, 384, .inl (fun _ => 0))), (blamed_in_slopes_92, .inl (cy 2, 384, .inr (.inl (fun _ => 0)))), (came_in_slopes_92, .inl (cy 0, 96, .inl (fun _ => 0))), (a101_8, .inl (cy 7, 16, .inr (.inr (.inr (.inr (fun _ => none))))))] H := hP
  have hD : va_D A [(a, .inr (10, [.int 0, .int (-1), .ref a10_1, .ref a23_2, .int 0, .ref a30_3, .ref a41_4, .ref empty_45, .ref a64_5, .int 0, .int 0, .ref a73_6, .int 0, .ref a80_7, .null, .int 0, .int 0, .null, .null])), (a10_1, .inr (2, [.ref height_14, .ref covered_14, .ref turned_14, .ref owner_14, .ref asked_14, .int 0, .ref placeCell_14, .ref placeCost_14, .int 0])), (height_14, .inl (cy 0, 96, .inl (fun _ => 500))), (covered_14, .inl (cy 1, 96, .inl (fun _ => 0))), (turned_14, .inl (cy 1, 96, .inl (fun _ => 0))), (owner_14, .inl (cy 0, 96, .inl (fun _ => (-1)))), (asked_14, .inl (cy 1, 96, .inl (fun _ => 0))), (placeCell_14, .inl (cy 0, 8, .inl (fun _ => 0))), (placeCost_14, .inl (cy 0, 8, .inl (fun _ => 0))), (a23_2, .inl (cy 4, 40, .inr (.inr (.inr (.inr (fun _ => none)))))), (a30_3, .inr (3, [.ref tape_34, .int 0, .int 0, .int 0, .int 0, .long 0, .null, .int 0, .int 0, .int 0, .int 0, .ref code_34, .int 0, .null])), (tape_34, .inl (cy 3, 1500, .inl (fun _ => 0))), (code_34, .inl (cy 0, 1500, .inl (fun _ => 0))), (a41_4, .inr (4, [.ref days_45, .ref read_45, .int 0, .ref empty_45])), (days_45, .inl (cy 0, 8, .inl (fun _ => 0))), (read_45, .inl (cy 8, 8, .inr (.inr (.inr (.inr (fun _ => none)))))), (empty_45, .inr (5, [.int 0, .ref names_in_empty_45, .ref thin_in_empty_45, .ref thick_in_empty_45, .ref leastBelow_in_empty_45, .ref mostBelow_in_empty_45, .int 0, .int 10, .int 20, .int 0, .int 0, .ref remainFrom_in_empty_45, .ref remainTo_in_empty_45, .int 0, .ref lineKind_in_empty_45, .ref lineSays_in_empty_45, .ref lineEnd_in_empty_45, .ref code_in_empty_45, .ref stack_in_empty_45])), (names_in_empty_45, .inl (cy 2, 10, .inr (.inl (fun _ => 0)))), (thin_in_empty_45, .inl (cy 0, 10, .inl (fun _ => 0))), (thick_in_empty_45, .inl (cy 0, 10, .inl (fun _ => 0))), (leastBelow_in_empty_45, .inl (cy 0, 20, .inl (fun _ => 0))), (mostBelow_in_empty_45, .inl (cy 0, 20, .inl (fun _ => 0))), (remainFrom_in_empty_45, .inl (cy 0, 10, .inl (fun _ => (-1)))), (remainTo_in_empty_45, .inl (cy 0, 10, .inl (fun _ => 0))), (lineKind_in_empty_45, .inl (cy 0, 24, .inl (fun _ => 0))), (lineSays_in_empty_45, .inl (cy 0, 24, .inl (fun _ => 0))), (lineEnd_in_empty_45, .inl (cy 0, 24, .inl (fun _ => 0))), (code_in_empty_45, .inl (cy 0, 0, .inl (fun _ => 0))), (stack_in_empty_45, .inl (cy 0, 32, .inl (fun _ => 0))), (a64_5, .inl (cy 5, 4, .inr (.inr (.inr (.inr (fun _ => none)))))), (a73_6, .inl (cy 6, 10, .inr (.inr (.inr (.inr (fun _ => none)))))), (a80_7, .inr (6, [.ref slopes_92, .ref a23_2, .ref a64_5, .int 0, .int 0, .int 0, .ref reach_92, .ref backReach_92, .ref floor_92, .ref floorBlamed_92, .ref reachBlamed_92, .ref walked_92, .int 0])), (reach_92, .inl (cy 0, 96, .inl (fun _ => 0))), (backReach_92, .inl (cy 0, 96, .inl (fun _ => 0))), (floor_92, .inl (cy 0, 96, .inl (fun _ => 0))), (floorBlamed_92, .inl (cy 2, 96, .inr (.inl (fun _ => 0)))), (reachBlamed_92, .inl (cy 2, 96, .inr (.inl (fun _ => 0)))), (walked_92, .inl (cy 0, 96, .inl (fun _ => 0))), (slopes_92, .inr (9, [.ref rise_in_slopes_92, .ref blamed_in_slopes_92, .ref came_in_slopes_92, .int 0])), (rise_in_slopes_92, .inl (cy 0, 384, .inl (fun _ => 0))), (blamed_in_slopes_92, .inl (cy 2, 384, .inr (.inl (fun _ => 0)))), (came_in_slopes_92, .inl (cy 0, 96, .inl (fun _ => 0))), (a101_8, .inl (cy 7, 16, .inr (.inr (.inr (.inr (fun _ => none))))))] := hD
  refine r_putF S hK hP hD hS 0 10 rfl rfl inX11 14 (by decide) tyX11 tyX11_ok nmX11 kw_482 (v := .ref a101_8) rfl hnm rfl rfl rfl (Nat.le_of_ble_eq_true rfl) dX11_init_104 (fun H locs hP hD hS => ?_)
  have hP : va_P D vwCl [(a, .inr (10, [.int 0, .int (-1), .ref a10_1, .ref a23_2, .int 0, .ref a30_3, .ref a41_4, .ref empty_45, .ref a64_5, .int 0, .int 0, .ref a73_6, .int 0, .ref a80_7, .ref a101_8, .int 0, .int 0, .null, .null])), (a10_1, .inr (2, [.ref height_14, .ref covered_14, .ref turned_14, .ref owner_14, .ref asked_14, .int 0, .ref placeCell_14, .ref placeCost_14, .int 0])), (height_14, .inl (cy 0, 96, .inl (fun _ => 500))), (covered_14, .inl (cy 1, 96, .inl (fun _ => 0))), (turned_14, .inl (cy 1, 96, .inl (fun _ => 0))), (owner_14, .inl (cy 0, 96, .inl (fun _ => (-1)))), (asked_14, .inl (cy 1, 96, .inl (fun _ => 0))), (placeCell_14, .inl (cy 0, 8, .inl (fun _ => 0))), (placeCost_14, .inl (cy 0, 8, .inl (fun _ => 0))), (a23_2, .inl (cy 4, 40, .inr (.inr (.inr (.inr (fun _ => none)))))), (a30_3, .inr (3, [.ref tape_34, .int 0, .int 0, .int 0, .int 0, .long 0, .null, .int 0, .int 0, .int 0, .int 0, .ref code_34, .int 0, .null])), (tape_34, .inl (cy 3, 1500, .inl (fun _ => 0))), (code_34, .inl (cy 0, 1500, .inl (fun _ => 0))), (a41_4, .inr (4, [.ref days_45, .ref read_45, .int 0, .ref empty_45])), (days_45, .inl (cy 0, 8, .inl (fun _ => 0))), (read_45, .inl (cy 8, 8, .inr (.inr (.inr (.inr (fun _ => none)))))), (empty_45, .inr (5, [.int 0, .ref names_in_empty_45, .ref thin_in_empty_45, .ref thick_in_empty_45, .ref leastBelow_in_empty_45, .ref mostBelow_in_empty_45, .int 0, .int 10, .int 20, .int 0, .int 0, .ref remainFrom_in_empty_45, .ref remainTo_in_empty_45, .int 0, .ref lineKind_in_empty_45, .ref lineSays_in_empty_45, .ref lineEnd_in_empty_45, .ref code_in_empty_45, .ref stack_in_empty_45])), (names_in_empty_45, .inl (cy 2, 10, .inr (.inl (fun _ => 0)))), (thin_in_empty_45, .inl (cy 0, 10, .inl (fun _ => 0))), (thick_in_empty_45, .inl (cy 0, 10, .inl (fun _ => 0))), (leastBelow_in_empty_45, .inl (cy 0, 20, .inl (fun _ => 0))), (mostBelow_in_empty_45, .inl (cy 0, 20, .inl (fun _ => 0))), (remainFrom_in_empty_45, .inl (cy 0, 10, .inl (fun _ => (-1)))), (remainTo_in_empty_45, .inl (cy 0, 10, .inl (fun _ => 0))), (lineKind_in_empty_45, .inl (cy 0, 24, .inl (fun _ => 0))), (lineSays_in_empty_45, .inl (cy 0, 24, .inl (fun _ => 0))), (lineEnd_in_empty_45, .inl (cy 0, 24, .inl (fun _ => 0))), (code_in_empty_45, .inl (cy 0, 0, .inl (fun _ => 0))), (stack_in_empty_45, .inl (cy 0, 32, .inl (fun _ => 0))), (a64_5, .inl (cy 5, 4, .inr (.inr (.inr (.inr (fun _ => none)))))), (a73_6, .inl (cy 6, 10, .inr (.inr (.inr (.inr (fun _ => none)))))), (a80_7, .inr (6, [.ref slopes_92, .ref a23_2, .ref a64_5, .int 0, .int 0, .int 0, .ref reach_92, .ref backReach_92, .ref floor_92, .ref floorBlamed_92, .ref reachBlamed_92, .ref walked_92, .int 0])), (reach_92, .inl (cy 0, 96, .inl (fun _ => 0))), (backReach_92, .inl (cy 0, 96, .inl (fun _ => 0))), (floor_92, .inl (cy 0, 96, .inl (fun _ => 0))), (floorBlamed_92, .inl (cy 2, 96, .inr (.inl (fun _ => 0)))), (reachBlamed_92, .inl (cy 2, 96, .inr (.inl (fun _ => 0)))), (walked_92, .inl (cy 0, 96, .inl (fun _ => 0))), (slopes_92, .inr (9, [.ref rise_in_slopes_92, .ref blamed_in_slopes_92, .ref came_in_slopes_92, .int 0])), (rise_in_slopes_92, .inl (cy 0, 384, .inl (fun _ => 0))), (blamed_in_slopes_92, .inl (cy 2, 384, .inr (.inl (fun _ => 0)))), (came_in_slopes_92, .inl (cy 0, 96, .inl (fun _ => 0))), (a101_8, .inl (cy 7, 16, .inr (.inr (.inr (.inr (fun _ => none))))))] H := hP
  have hD : va_D A [(a, .inr (10, [.int 0, .int (-1), .ref a10_1, .ref a23_2, .int 0, .ref a30_3, .ref a41_4, .ref empty_45, .ref a64_5, .int 0, .int 0, .ref a73_6, .int 0, .ref a80_7, .ref a101_8, .int 0, .int 0, .null, .null])), (a10_1, .inr (2, [.ref height_14, .ref covered_14, .ref turned_14, .ref owner_14, .ref asked_14, .int 0, .ref placeCell_14, .ref placeCost_14, .int 0])), (height_14, .inl (cy 0, 96, .inl (fun _ => 500))), (covered_14, .inl (cy 1, 96, .inl (fun _ => 0))), (turned_14, .inl (cy 1, 96, .inl (fun _ => 0))), (owner_14, .inl (cy 0, 96, .inl (fun _ => (-1)))), (asked_14, .inl (cy 1, 96, .inl (fun _ => 0))), (placeCell_14, .inl (cy 0, 8, .inl (fun _ => 0))), (placeCost_14, .inl (cy 0, 8, .inl (fun _ => 0))), (a23_2, .inl (cy 4, 40, .inr (.inr (.inr (.inr (fun _ => none)))))), (a30_3, .inr (3, [.ref tape_34, .int 0, .int 0, .int 0, .int 0, .long 0, .null, .int 0, .int 0, .int 0, .int 0, .ref code_34, .int 0, .null])), (tape_34, .inl (cy 3, 1500, .inl (fun _ => 0))), (code_34, .inl (cy 0, 1500, .inl (fun _ => 0))), (a41_4, .inr (4, [.ref days_45, .ref read_45, .int 0, .ref empty_45])), (days_45, .inl (cy 0, 8, .inl (fun _ => 0))), (read_45, .inl (cy 8, 8, .inr (.inr (.inr (.inr (fun _ => none)))))), (empty_45, .inr (5, [.int 0, .ref names_in_empty_45, .ref thin_in_empty_45, .ref thick_in_empty_45, .ref leastBelow_in_empty_45, .ref mostBelow_in_empty_45, .int 0, .int 10, .int 20, .int 0, .int 0, .ref remainFrom_in_empty_45, .ref remainTo_in_empty_45, .int 0, .ref lineKind_in_empty_45, .ref lineSays_in_empty_45, .ref lineEnd_in_empty_45, .ref code_in_empty_45, .ref stack_in_empty_45])), (names_in_empty_45, .inl (cy 2, 10, .inr (.inl (fun _ => 0)))), (thin_in_empty_45, .inl (cy 0, 10, .inl (fun _ => 0))), (thick_in_empty_45, .inl (cy 0, 10, .inl (fun _ => 0))), (leastBelow_in_empty_45, .inl (cy 0, 20, .inl (fun _ => 0))), (mostBelow_in_empty_45, .inl (cy 0, 20, .inl (fun _ => 0))), (remainFrom_in_empty_45, .inl (cy 0, 10, .inl (fun _ => (-1)))), (remainTo_in_empty_45, .inl (cy 0, 10, .inl (fun _ => 0))), (lineKind_in_empty_45, .inl (cy 0, 24, .inl (fun _ => 0))), (lineSays_in_empty_45, .inl (cy 0, 24, .inl (fun _ => 0))), (lineEnd_in_empty_45, .inl (cy 0, 24, .inl (fun _ => 0))), (code_in_empty_45, .inl (cy 0, 0, .inl (fun _ => 0))), (stack_in_empty_45, .inl (cy 0, 32, .inl (fun _ => 0))), (a64_5, .inl (cy 5, 4, .inr (.inr (.inr (.inr (fun _ => none)))))), (a73_6, .inl (cy 6, 10, .inr (.inr (.inr (.inr (fun _ => none)))))), (a80_7, .inr (6, [.ref slopes_92, .ref a23_2, .ref a64_5, .int 0, .int 0, .int 0, .ref reach_92, .ref backReach_92, .ref floor_92, .ref floorBlamed_92, .ref reachBlamed_92, .ref walked_92, .int 0])), (reach_92, .inl (cy 0, 96, .inl (fun _ => 0))), (backReach_92, .inl (cy 0, 96, .inl (fun _ => 0))), (floor_92, .inl (cy 0, 96, .inl (fun _ => 0))), (floorBlamed_92, .inl (cy 2, 96, .inr (.inl (fun _ => 0)))), (reachBlamed_92, .inl (cy 2, 96, .inr (.inl (fun _ => 0)))), (walked_92, .inl (cy 0, 96, .inl (fun _ => 0))), (slopes_92, .inr (9, [.ref rise_in_slopes_92, .ref blamed_in_slopes_92, .ref came_in_slopes_92, .int 0])), (rise_in_slopes_92, .inl (cy 0, 384, .inl (fun _ => 0))), (blamed_in_slopes_92, .inl (cy 2, 384, .inr (.inl (fun _ => 0)))), (came_in_slopes_92, .inl (cy 0, 96, .inl (fun _ => 0))), (a101_8, .inl (cy 7, 16, .inr (.inr (.inr (.inr (fun _ => none))))))] := hD
  refine lv_aload_n S.1 S.2.1 dX11_init_107 rfl (lv_at hl 0 rfl) ?_
  refine lv_bipush (v := 12) S.1 S.2.1 dX11_init_108 (by decide) ?_
  refine r_newa S (atype := .int) (ty := .int) rfl kw_224 hK hP hD hS hA 0 rfl (a0 := (12, .inl (fun _ => 0))) (fun _ => rfl) (by decide) (by decide) (by decide) (by decide) (by decide) dX11_init_110 (fun a110_9 H hP hD hS => ?_)
  have hP : va_P D vwCl [(a, .inr (10, [.int 0, .int (-1), .ref a10_1, .ref a23_2, .int 0, .ref a30_3, .ref a41_4, .ref empty_45, .ref a64_5, .int 0, .int 0, .ref a73_6, .int 0, .ref a80_7, .ref a101_8, .int 0, .int 0, .null, .null])), (a10_1, .inr (2, [.ref height_14, .ref covered_14, .ref turned_14, .ref owner_14, .ref asked_14, .int 0, .ref placeCell_14, .ref placeCost_14, .int 0])), (height_14, .inl (cy 0, 96, .inl (fun _ => 500))), (covered_14, .inl (cy 1, 96, .inl (fun _ => 0))), (turned_14, .inl (cy 1, 96, .inl (fun _ => 0))), (owner_14, .inl (cy 0, 96, .inl (fun _ => (-1)))), (asked_14, .inl (cy 1, 96, .inl (fun _ => 0))), (placeCell_14, .inl (cy 0, 8, .inl (fun _ => 0))), (placeCost_14, .inl (cy 0, 8, .inl (fun _ => 0))), (a23_2, .inl (cy 4, 40, .inr (.inr (.inr (.inr (fun _ => none)))))), (a30_3, .inr (3, [.ref tape_34, .int 0, .int 0, .int 0, .int 0, .long 0, .null, .int 0, .int 0, .int 0, .int 0, .ref code_34, .int 0, .null])), (tape_34, .inl (cy 3, 1500, .inl (fun _ => 0))), (code_34, .inl (cy 0, 1500, .inl (fun _ => 0))), (a41_4, .inr (4, [.ref days_45, .ref read_45, .int 0, .ref empty_45])), (days_45, .inl (cy 0, 8, .inl (fun _ => 0))), (read_45, .inl (cy 8, 8, .inr (.inr (.inr (.inr (fun _ => none)))))), (empty_45, .inr (5, [.int 0, .ref names_in_empty_45, .ref thin_in_empty_45, .ref thick_in_empty_45, .ref leastBelow_in_empty_45, .ref mostBelow_in_empty_45, .int 0, .int 10, .int 20, .int 0, .int 0, .ref remainFrom_in_empty_45, .ref remainTo_in_empty_45, .int 0, .ref lineKind_in_empty_45, .ref lineSays_in_empty_45, .ref lineEnd_in_empty_45, .ref code_in_empty_45, .ref stack_in_empty_45])), (names_in_empty_45, .inl (cy 2, 10, .inr (.inl (fun _ => 0)))), (thin_in_empty_45, .inl (cy 0, 10, .inl (fun _ => 0))), (thick_in_empty_45, .inl (cy 0, 10, .inl (fun _ => 0))), (leastBelow_in_empty_45, .inl (cy 0, 20, .inl (fun _ => 0))), (mostBelow_in_empty_45, .inl (cy 0, 20, .inl (fun _ => 0))), (remainFrom_in_empty_45, .inl (cy 0, 10, .inl (fun _ => (-1)))), (remainTo_in_empty_45, .inl (cy 0, 10, .inl (fun _ => 0))), (lineKind_in_empty_45, .inl (cy 0, 24, .inl (fun _ => 0))), (lineSays_in_empty_45, .inl (cy 0, 24, .inl (fun _ => 0))), (lineEnd_in_empty_45, .inl (cy 0, 24, .inl (fun _ => 0))), (code_in_empty_45, .inl (cy 0, 0, .inl (fun _ => 0))), (stack_in_empty_45, .inl (cy 0, 32, .inl (fun _ => 0))), (a64_5, .inl (cy 5, 4, .inr (.inr (.inr (.inr (fun _ => none)))))), (a73_6, .inl (cy 6, 10, .inr (.inr (.inr (.inr (fun _ => none)))))), (a80_7, .inr (6, [.ref slopes_92, .ref a23_2, .ref a64_5, .int 0, .int 0, .int 0, .ref reach_92, .ref backReach_92, .ref floor_92, .ref floorBlamed_92, .ref reachBlamed_92, .ref walked_92, .int 0])), (reach_92, .inl (cy 0, 96, .inl (fun _ => 0))), (backReach_92, .inl (cy 0, 96, .inl (fun _ => 0))), (floor_92, .inl (cy 0, 96, .inl (fun _ => 0))), (floorBlamed_92, .inl (cy 2, 96, .inr (.inl (fun _ => 0)))), (reachBlamed_92, .inl (cy 2, 96, .inr (.inl (fun _ => 0)))), (walked_92, .inl (cy 0, 96, .inl (fun _ => 0))), (slopes_92, .inr (9, [.ref rise_in_slopes_92, .ref blamed_in_slopes_92, .ref came_in_slopes_92, .int 0])), (rise_in_slopes_92, .inl (cy 0, 384, .inl (fun _ => 0))), (blamed_in_slopes_92, .inl (cy 2, 384, .inr (.inl (fun _ => 0)))), (came_in_slopes_92, .inl (cy 0, 96, .inl (fun _ => 0))), (a101_8, .inl (cy 7, 16, .inr (.inr (.inr (.inr (fun _ => none)))))), (a110_9, .inl (cy 0, 12, .inl (fun _ => 0)))] H := hP
  have hD : va_D A [(a, .inr (10, [.int 0, .int (-1), .ref a10_1, .ref a23_2, .int 0, .ref a30_3, .ref a41_4, .ref empty_45, .ref a64_5, .int 0, .int 0, .ref a73_6, .int 0, .ref a80_7, .ref a101_8, .int 0, .int 0, .null, .null])), (a10_1, .inr (2, [.ref height_14, .ref covered_14, .ref turned_14, .ref owner_14, .ref asked_14, .int 0, .ref placeCell_14, .ref placeCost_14, .int 0])), (height_14, .inl (cy 0, 96, .inl (fun _ => 500))), (covered_14, .inl (cy 1, 96, .inl (fun _ => 0))), (turned_14, .inl (cy 1, 96, .inl (fun _ => 0))), (owner_14, .inl (cy 0, 96, .inl (fun _ => (-1)))), (asked_14, .inl (cy 1, 96, .inl (fun _ => 0))), (placeCell_14, .inl (cy 0, 8, .inl (fun _ => 0))), (placeCost_14, .inl (cy 0, 8, .inl (fun _ => 0))), (a23_2, .inl (cy 4, 40, .inr (.inr (.inr (.inr (fun _ => none)))))), (a30_3, .inr (3, [.ref tape_34, .int 0, .int 0, .int 0, .int 0, .long 0, .null, .int 0, .int 0, .int 0, .int 0, .ref code_34, .int 0, .null])), (tape_34, .inl (cy 3, 1500, .inl (fun _ => 0))), (code_34, .inl (cy 0, 1500, .inl (fun _ => 0))), (a41_4, .inr (4, [.ref days_45, .ref read_45, .int 0, .ref empty_45])), (days_45, .inl (cy 0, 8, .inl (fun _ => 0))), (read_45, .inl (cy 8, 8, .inr (.inr (.inr (.inr (fun _ => none)))))), (empty_45, .inr (5, [.int 0, .ref names_in_empty_45, .ref thin_in_empty_45, .ref thick_in_empty_45, .ref leastBelow_in_empty_45, .ref mostBelow_in_empty_45, .int 0, .int 10, .int 20, .int 0, .int 0, .ref remainFrom_in_empty_45, .ref remainTo_in_empty_45, .int 0, .ref lineKind_in_empty_45, .ref lineSays_in_empty_45, .ref lineEnd_in_empty_45, .ref code_in_empty_45, .ref stack_in_empty_45])), (names_in_empty_45, .inl (cy 2, 10, .inr (.inl (fun _ => 0)))), (thin_in_empty_45, .inl (cy 0, 10, .inl (fun _ => 0))), (thick_in_empty_45, .inl (cy 0, 10, .inl (fun _ => 0))), (leastBelow_in_empty_45, .inl (cy 0, 20, .inl (fun _ => 0))), (mostBelow_in_empty_45, .inl (cy 0, 20, .inl (fun _ => 0))), (remainFrom_in_empty_45, .inl (cy 0, 10, .inl (fun _ => (-1)))), (remainTo_in_empty_45, .inl (cy 0, 10, .inl (fun _ => 0))), (lineKind_in_empty_45, .inl (cy 0, 24, .inl (fun _ => 0))), (lineSays_in_empty_45, .inl (cy 0, 24, .inl (fun _ => 0))), (lineEnd_in_empty_45, .inl (cy 0, 24, .inl (fun _ => 0))), (code_in_empty_45, .inl (cy 0, 0, .inl (fun _ => 0))), (stack_in_empty_45, .inl (cy 0, 32, .inl (fun _ => 0))), (a64_5, .inl (cy 5, 4, .inr (.inr (.inr (.inr (fun _ => none)))))), (a73_6, .inl (cy 6, 10, .inr (.inr (.inr (.inr (fun _ => none)))))), (a80_7, .inr (6, [.ref slopes_92, .ref a23_2, .ref a64_5, .int 0, .int 0, .int 0, .ref reach_92, .ref backReach_92, .ref floor_92, .ref floorBlamed_92, .ref reachBlamed_92, .ref walked_92, .int 0])), (reach_92, .inl (cy 0, 96, .inl (fun _ => 0))), (backReach_92, .inl (cy 0, 96, .inl (fun _ => 0))), (floor_92, .inl (cy 0, 96, .inl (fun _ => 0))), (floorBlamed_92, .inl (cy 2, 96, .inr (.inl (fun _ => 0)))), (reachBlamed_92, .inl (cy 2, 96, .inr (.inl (fun _ => 0)))), (walked_92, .inl (cy 0, 96, .inl (fun _ => 0))), (slopes_92, .inr (9, [.ref rise_in_slopes_92, .ref blamed_in_slopes_92, .ref came_in_slopes_92, .int 0])), (rise_in_slopes_92, .inl (cy 0, 384, .inl (fun _ => 0))), (blamed_in_slopes_92, .inl (cy 2, 384, .inr (.inl (fun _ => 0)))), (came_in_slopes_92, .inl (cy 0, 96, .inl (fun _ => 0))), (a101_8, .inl (cy 7, 16, .inr (.inr (.inr (.inr (fun _ => none)))))), (a110_9, .inl (cy 0, 12, .inl (fun _ => 0)))] := hD
  refine r_putF S hK hP hD hS 0 10 rfl rfl inX11 18 (by decide) tyX11 tyX11_ok nmX11 kw_486 (v := .ref a110_9) rfl hnm rfl rfl rfl (Nat.le_of_ble_eq_true rfl) dX11_init_112 (fun H locs hP hD hS => ?_)
  have hP : va_P D vwCl [(a, .inr (10, [.int 0, .int (-1), .ref a10_1, .ref a23_2, .int 0, .ref a30_3, .ref a41_4, .ref empty_45, .ref a64_5, .int 0, .int 0, .ref a73_6, .int 0, .ref a80_7, .ref a101_8, .int 0, .int 0, .null, .ref a110_9])), (a10_1, .inr (2, [.ref height_14, .ref covered_14, .ref turned_14, .ref owner_14, .ref asked_14, .int 0, .ref placeCell_14, .ref placeCost_14, .int 0])), (height_14, .inl (cy 0, 96, .inl (fun _ => 500))), (covered_14, .inl (cy 1, 96, .inl (fun _ => 0))), (turned_14, .inl (cy 1, 96, .inl (fun _ => 0))), (owner_14, .inl (cy 0, 96, .inl (fun _ => (-1)))), (asked_14, .inl (cy 1, 96, .inl (fun _ => 0))), (placeCell_14, .inl (cy 0, 8, .inl (fun _ => 0))), (placeCost_14, .inl (cy 0, 8, .inl (fun _ => 0))), (a23_2, .inl (cy 4, 40, .inr (.inr (.inr (.inr (fun _ => none)))))), (a30_3, .inr (3, [.ref tape_34, .int 0, .int 0, .int 0, .int 0, .long 0, .null, .int 0, .int 0, .int 0, .int 0, .ref code_34, .int 0, .null])), (tape_34, .inl (cy 3, 1500, .inl (fun _ => 0))), (code_34, .inl (cy 0, 1500, .inl (fun _ => 0))), (a41_4, .inr (4, [.ref days_45, .ref read_45, .int 0, .ref empty_45])), (days_45, .inl (cy 0, 8, .inl (fun _ => 0))), (read_45, .inl (cy 8, 8, .inr (.inr (.inr (.inr (fun _ => none)))))), (empty_45, .inr (5, [.int 0, .ref names_in_empty_45, .ref thin_in_empty_45, .ref thick_in_empty_45, .ref leastBelow_in_empty_45, .ref mostBelow_in_empty_45, .int 0, .int 10, .int 20, .int 0, .int 0, .ref remainFrom_in_empty_45, .ref remainTo_in_empty_45, .int 0, .ref lineKind_in_empty_45, .ref lineSays_in_empty_45, .ref lineEnd_in_empty_45, .ref code_in_empty_45, .ref stack_in_empty_45])), (names_in_empty_45, .inl (cy 2, 10, .inr (.inl (fun _ => 0)))), (thin_in_empty_45, .inl (cy 0, 10, .inl (fun _ => 0))), (thick_in_empty_45, .inl (cy 0, 10, .inl (fun _ => 0))), (leastBelow_in_empty_45, .inl (cy 0, 20, .inl (fun _ => 0))), (mostBelow_in_empty_45, .inl (cy 0, 20, .inl (fun _ => 0))), (remainFrom_in_empty_45, .inl (cy 0, 10, .inl (fun _ => (-1)))), (remainTo_in_empty_45, .inl (cy 0, 10, .inl (fun _ => 0))), (lineKind_in_empty_45, .inl (cy 0, 24, .inl (fun _ => 0))), (lineSays_in_empty_45, .inl (cy 0, 24, .inl (fun _ => 0))), (lineEnd_in_empty_45, .inl (cy 0, 24, .inl (fun _ => 0))), (code_in_empty_45, .inl (cy 0, 0, .inl (fun _ => 0))), (stack_in_empty_45, .inl (cy 0, 32, .inl (fun _ => 0))), (a64_5, .inl (cy 5, 4, .inr (.inr (.inr (.inr (fun _ => none)))))), (a73_6, .inl (cy 6, 10, .inr (.inr (.inr (.inr (fun _ => none)))))), (a80_7, .inr (6, [.ref slopes_92, .ref a23_2, .ref a64_5, .int 0, .int 0, .int 0, .ref reach_92, .ref backReach_92, .ref floor_92, .ref floorBlamed_92, .ref reachBlamed_92, .ref walked_92, .int 0])), (reach_92, .inl (cy 0, 96, .inl (fun _ => 0))), (backReach_92, .inl (cy 0, 96, .inl (fun _ => 0))), (floor_92, .inl (cy 0, 96, .inl (fun _ => 0))), (floorBlamed_92, .inl (cy 2, 96, .inr (.inl (fun _ => 0)))), (reachBlamed_92, .inl (cy 2, 96, .inr (.inl (fun _ => 0)))), (walked_92, .inl (cy 0, 96, .inl (fun _ => 0))), (slopes_92, .inr (9, [.ref rise_in_slopes_92, .ref blamed_in_slopes_92, .ref came_in_slopes_92, .int 0])), (rise_in_slopes_92, .inl (cy 0, 384, .inl (fun _ => 0))), (blamed_in_slopes_92, .inl (cy 2, 384, .inr (.inl (fun _ => 0)))), (came_in_slopes_92, .inl (cy 0, 96, .inl (fun _ => 0))), (a101_8, .inl (cy 7, 16, .inr (.inr (.inr (.inr (fun _ => none)))))), (a110_9, .inl (cy 0, 12, .inl (fun _ => 0)))] H := hP
  have hD : va_D A [(a, .inr (10, [.int 0, .int (-1), .ref a10_1, .ref a23_2, .int 0, .ref a30_3, .ref a41_4, .ref empty_45, .ref a64_5, .int 0, .int 0, .ref a73_6, .int 0, .ref a80_7, .ref a101_8, .int 0, .int 0, .null, .ref a110_9])), (a10_1, .inr (2, [.ref height_14, .ref covered_14, .ref turned_14, .ref owner_14, .ref asked_14, .int 0, .ref placeCell_14, .ref placeCost_14, .int 0])), (height_14, .inl (cy 0, 96, .inl (fun _ => 500))), (covered_14, .inl (cy 1, 96, .inl (fun _ => 0))), (turned_14, .inl (cy 1, 96, .inl (fun _ => 0))), (owner_14, .inl (cy 0, 96, .inl (fun _ => (-1)))), (asked_14, .inl (cy 1, 96, .inl (fun _ => 0))), (placeCell_14, .inl (cy 0, 8, .inl (fun _ => 0))), (placeCost_14, .inl (cy 0, 8, .inl (fun _ => 0))), (a23_2, .inl (cy 4, 40, .inr (.inr (.inr (.inr (fun _ => none)))))), (a30_3, .inr (3, [.ref tape_34, .int 0, .int 0, .int 0, .int 0, .long 0, .null, .int 0, .int 0, .int 0, .int 0, .ref code_34, .int 0, .null])), (tape_34, .inl (cy 3, 1500, .inl (fun _ => 0))), (code_34, .inl (cy 0, 1500, .inl (fun _ => 0))), (a41_4, .inr (4, [.ref days_45, .ref read_45, .int 0, .ref empty_45])), (days_45, .inl (cy 0, 8, .inl (fun _ => 0))), (read_45, .inl (cy 8, 8, .inr (.inr (.inr (.inr (fun _ => none)))))), (empty_45, .inr (5, [.int 0, .ref names_in_empty_45, .ref thin_in_empty_45, .ref thick_in_empty_45, .ref leastBelow_in_empty_45, .ref mostBelow_in_empty_45, .int 0, .int 10, .int 20, .int 0, .int 0, .ref remainFrom_in_empty_45, .ref remainTo_in_empty_45, .int 0, .ref lineKind_in_empty_45, .ref lineSays_in_empty_45, .ref lineEnd_in_empty_45, .ref code_in_empty_45, .ref stack_in_empty_45])), (names_in_empty_45, .inl (cy 2, 10, .inr (.inl (fun _ => 0)))), (thin_in_empty_45, .inl (cy 0, 10, .inl (fun _ => 0))), (thick_in_empty_45, .inl (cy 0, 10, .inl (fun _ => 0))), (leastBelow_in_empty_45, .inl (cy 0, 20, .inl (fun _ => 0))), (mostBelow_in_empty_45, .inl (cy 0, 20, .inl (fun _ => 0))), (remainFrom_in_empty_45, .inl (cy 0, 10, .inl (fun _ => (-1)))), (remainTo_in_empty_45, .inl (cy 0, 10, .inl (fun _ => 0))), (lineKind_in_empty_45, .inl (cy 0, 24, .inl (fun _ => 0))), (lineSays_in_empty_45, .inl (cy 0, 24, .inl (fun _ => 0))), (lineEnd_in_empty_45, .inl (cy 0, 24, .inl (fun _ => 0))), (code_in_empty_45, .inl (cy 0, 0, .inl (fun _ => 0))), (stack_in_empty_45, .inl (cy 0, 32, .inl (fun _ => 0))), (a64_5, .inl (cy 5, 4, .inr (.inr (.inr (.inr (fun _ => none)))))), (a73_6, .inl (cy 6, 10, .inr (.inr (.inr (.inr (fun _ => none)))))), (a80_7, .inr (6, [.ref slopes_92, .ref a23_2, .ref a64_5, .int 0, .int 0, .int 0, .ref reach_92, .ref backReach_92, .ref floor_92, .ref floorBlamed_92, .ref reachBlamed_92, .ref walked_92, .int 0])), (reach_92, .inl (cy 0, 96, .inl (fun _ => 0))), (backReach_92, .inl (cy 0, 96, .inl (fun _ => 0))), (floor_92, .inl (cy 0, 96, .inl (fun _ => 0))), (floorBlamed_92, .inl (cy 2, 96, .inr (.inl (fun _ => 0)))), (reachBlamed_92, .inl (cy 2, 96, .inr (.inl (fun _ => 0)))), (walked_92, .inl (cy 0, 96, .inl (fun _ => 0))), (slopes_92, .inr (9, [.ref rise_in_slopes_92, .ref blamed_in_slopes_92, .ref came_in_slopes_92, .int 0])), (rise_in_slopes_92, .inl (cy 0, 384, .inl (fun _ => 0))), (blamed_in_slopes_92, .inl (cy 2, 384, .inr (.inl (fun _ => 0)))), (came_in_slopes_92, .inl (cy 0, 96, .inl (fun _ => 0))), (a101_8, .inl (cy 7, 16, .inr (.inr (.inr (.inr (fun _ => none)))))), (a110_9, .inl (cy 0, 12, .inl (fun _ => 0)))] := hD
  exact cv_ret (u := (fun k => [a, a10_1, height_14, covered_14, turned_14, owner_14, asked_14, placeCell_14, placeCost_14, a23_2, a30_3, tape_34, code_34, a41_4, days_45, read_45, empty_45, names_in_empty_45, thin_in_empty_45, thick_in_empty_45, leastBelow_in_empty_45, mostBelow_in_empty_45, remainFrom_in_empty_45, remainTo_in_empty_45, lineKind_in_empty_45, lineSays_in_empty_45, lineEnd_in_empty_45, code_in_empty_45, stack_in_empty_45, a64_5, a73_6, a80_7, slopes_92, rise_in_slopes_92, blamed_in_slopes_92, came_in_slopes_92, reach_92, backReach_92, floor_92, floorBlamed_92, reachBlamed_92, walked_92, a101_8, a110_9].getD k 0)) S hr hlk hK (hP.sub [0, 1, 2, 3, 4, 5, 6, 7, 8, 9, 10, 11, 12, 13, 14, 15, 16, 17, 18, 19, 20, 21, 22, 23, 24, 25, 26, 27, 28, 29, 30, 31, 38, 39, 40, 41, 32, 33, 34, 35, 36, 37, 42, 43] rfl) (hD.sub [0, 1, 2, 3, 4, 5, 6, 7, 8, 9, 10, 11, 12, 13, 14, 15, 16, 17, 18, 19, 20, 21, 22, 23, 24, 25, 26, 27, 28, 29, 30, 31, 38, 39, 40, 41, 32, 33, 34, 35, 36, 37, 42, 43] (by decide) rfl) hS (trivial) (by decide) (by decide) dX11_init_115
set_option maxHeartbeats 4000000 in
set_option maxRecDepth 100000 in
theorem kX8_init (l : Launch) (D : va_G) (cy : Nat → ClassId) (a : Nat) (p0 : Int32) (p1 : Int32) (p2 : Int32) (p3 : Int32) (p4 : Int32) (p5 : Int32) : CV l D cy yX8_init cX8_init 7 none 1 20 0 0 [.ref a, .int p0, .int p1, .int p2, .int p3, .int p4, .int p5] [(a, .inr (8, [.int 0, .int 0, .int 0, .int 0, .int 0, .int 0, .int 0, .int 0, .int 0, .int 0, .int 0, .int 0, .int 0, .int 0, .int 0, .int 0, .int 0, .int 0, .int 0]))] (fun (u : Unit) => True) (fun (u : Unit) => [(a, .inr (8, [.int p0, .int p1, .int p2, .int p3, .int p4, .int p5, .int (-1), .int (-1), .int (-1), .int 0, .int 0, .int (-1), .int 0, .int (-1), .int (-1), .int 0, .int 0, .int 0, .int 0]))]) := by
  refine cv_go (by decide) (Nat.le_of_ble_eq_true rfl) (fun p e s m below meth c ls A hA S hr hlk hnm hP hK hD hl => ?_)
  have hS : va_S A s.heap s.heap [] := va_S.rf
  have hl : lv_has ls 7 [(0, .ref a), (1, .int p0), (2, .int p1), (3, .int p2), (4, .int p3), (5, .int p4), (6, .int p5)] := hl
  refine lv_aload_n S.1 S.2.1 dX8_init_0 rfl (lv_at hl 0 rfl) ?_
  refine r_oinit S kw_557 kw_178 kw_oi hl.1 dX8_init_1 (by decide) (Nat.le_of_ble_eq_true rfl) ?_
  refine lv_aload_n S.1 S.2.1 dX8_init_4 rfl (lv_at hl 0 rfl) ?_
  refine lv_iconst (v := (-1)) S.1 S.2.1 dX8_init_5 (by decide) ?_
  refine r_put S hK hP hD hS 0 8 rfl rfl inX8 6 (by decide) tyX8 tyX8_ok nmX8 kw_570 (v := .int (-1)) rfl rfl rfl (Nat.le_of_ble_eq_true rfl) dX8_init_6 (fun H locs hP hD hS => ?_)
  have hP : va_P D vwCl [(a, .inr (8, [.int 0, .int 0, .int 0, .int 0, .int 0, .int 0, .int (-1), .int 0, .int 0, .int 0, .int 0, .int 0, .int 0, .int 0, .int 0, .int 0, .int 0, .int 0, .int 0]))] H := hP
  have hD : va_D A [(a, .inr (8, [.int 0, .int 0, .int 0, .int 0, .int 0, .int 0, .int (-1), .int 0, .int 0, .int 0, .int 0, .int 0, .int 0, .int 0, .int 0, .int 0, .int 0, .int 0, .int 0]))] := hD
  refine lv_aload_n S.1 S.2.1 dX8_init_9 rfl (lv_at hl 0 rfl) ?_
  refine lv_iconst (v := (-1)) S.1 S.2.1 dX8_init_10 (by decide) ?_
  refine r_put S hK hP hD hS 0 8 rfl rfl inX8 7 (by decide) tyX8 tyX8_ok nmX8 kw_572 (v := .int (-1)) rfl rfl rfl (Nat.le_of_ble_eq_true rfl) dX8_init_11 (fun H locs hP hD hS => ?_)
  have hP : va_P D vwCl [(a, .inr (8, [.int 0, .int 0, .int 0, .int 0, .int 0, .int 0, .int (-1), .int (-1), .int 0, .int 0, .int 0, .int 0, .int 0, .int 0, .int 0, .int 0, .int 0, .int 0, .int 0]))] H := hP
  have hD : va_D A [(a, .inr (8, [.int 0, .int 0, .int 0, .int 0, .int 0, .int 0, .int (-1), .int (-1), .int 0, .int 0, .int 0, .int 0, .int 0, .int 0, .int 0, .int 0, .int 0, .int 0, .int 0]))] := hD
  refine lv_aload_n S.1 S.2.1 dX8_init_14 rfl (lv_at hl 0 rfl) ?_
  refine lv_iconst (v := (-1)) S.1 S.2.1 dX8_init_15 (by decide) ?_
  refine r_put S hK hP hD hS 0 8 rfl rfl inX8 8 (by decide) tyX8 tyX8_ok nmX8 kw_575 (v := .int (-1)) rfl rfl rfl (Nat.le_of_ble_eq_true rfl) dX8_init_16 (fun H locs hP hD hS => ?_)
  have hP : va_P D vwCl [(a, .inr (8, [.int 0, .int 0, .int 0, .int 0, .int 0, .int 0, .int (-1), .int (-1), .int (-1), .int 0, .int 0, .int 0, .int 0, .int 0, .int 0, .int 0, .int 0, .int 0, .int 0]))] H := hP
  have hD : va_D A [(a, .inr (8, [.int 0, .int 0, .int 0, .int 0, .int 0, .int 0, .int (-1), .int (-1), .int (-1), .int 0, .int 0, .int 0, .int 0, .int 0, .int 0, .int 0, .int 0, .int 0, .int 0]))] := hD
  refine lv_aload_n S.1 S.2.1 dX8_init_19 rfl (lv_at hl 0 rfl) ?_
  refine lv_iconst (v := (-1)) S.1 S.2.1 dX8_init_20 (by decide) ?_
  refine r_put S hK hP hD hS 0 8 rfl rfl inX8 11 (by decide) tyX8 tyX8_ok nmX8 kw_582 (v := .int (-1)) rfl rfl rfl (Nat.le_of_ble_eq_true rfl) dX8_init_21 (fun H locs hP hD hS => ?_)
  have hP : va_P D vwCl [(a, .inr (8, [.int 0, .int 0, .int 0, .int 0, .int 0, .int 0, .int (-1), .int (-1), .int (-1), .int 0, .int 0, .int (-1), .int 0, .int 0, .int 0, .int 0, .int 0, .int 0, .int 0]))] H := hP
  have hD : va_D A [(a, .inr (8, [.int 0, .int 0, .int 0, .int 0, .int 0, .int 0, .int (-1), .int (-1), .int (-1), .int 0, .int 0, .int (-1), .int 0, .int 0, .int 0, .int 0, .int 0, .int 0, .int 0]))] := hD
  refine lv_aload_n S.1 S.2.1 dX8_init_24 rfl (lv_at hl 0 rfl) ?_
  refine lv_iconst (v := (-1)) S.1 S.2.1 dX8_init_25 (by decide) ?_
  refine r_put S hK hP hD hS 0 8 rfl rfl inX8 13 (by decide) tyX8 tyX8_ok nmX8 kw_585 (v := .int (-1)) rfl rfl rfl (Nat.le_of_ble_eq_true rfl) dX8_init_26 (fun H locs hP hD hS => ?_)
  have hP : va_P D vwCl [(a, .inr (8, [.int 0, .int 0, .int 0, .int 0, .int 0, .int 0, .int (-1), .int (-1), .int (-1), .int 0, .int 0, .int (-1), .int 0, .int (-1), .int 0, .int 0, .int 0, .int 0, .int 0]))] H := hP
  have hD : va_D A [(a, .inr (8, [.int 0, .int 0, .int 0, .int 0, .int 0, .int 0, .int (-1), .int (-1), .int (-1), .int 0, .int 0, .int (-1), .int 0, .int (-1), .int 0, .int 0, .int 0, .int 0, .int 0]))] := hD
  refine lv_aload_n S.1 S.2.1 dX8_init_29 rfl (lv_at hl 0 rfl) ?_
  refine lv_iconst (v := (-1)) S.1 S.2.1 dX8_init_30 (by decide) ?_
  refine r_put S hK hP hD hS 0 8 rfl rfl inX8 14 (by decide) tyX8 tyX8_ok nmX8 kw_587 (v := .int (-1)) rfl rfl rfl (Nat.le_of_ble_eq_true rfl) dX8_init_31 (fun H locs hP hD hS => ?_)
  have hP : va_P D vwCl [(a, .inr (8, [.int 0, .int 0, .int 0, .int 0, .int 0, .int 0, .int (-1), .int (-1), .int (-1), .int 0, .int 0, .int (-1), .int 0, .int (-1), .int (-1), .int 0, .int 0, .int 0, .int 0]))] H := hP
  have hD : va_D A [(a, .inr (8, [.int 0, .int 0, .int 0, .int 0, .int 0, .int 0, .int (-1), .int (-1), .int (-1), .int 0, .int 0, .int (-1), .int 0, .int (-1), .int (-1), .int 0, .int 0, .int 0, .int 0]))] := hD
  refine lv_aload_n S.1 S.2.1 dX8_init_34 rfl (lv_at hl 0 rfl) ?_
  refine lv_iload_n S.1 S.2.1 dX8_init_35 rfl (lv_at hl 1 rfl) ?_
  refine r_putF S hK hP hD hS 0 8 rfl rfl inX8 0 (by decide) tyX8 tyX8_ok nmX8 kw_558 (v := .int p0) rfl hnm rfl rfl rfl (Nat.le_of_ble_eq_true rfl) dX8_init_36 (fun H locs hP hD hS => ?_)
  have hP : va_P D vwCl [(a, .inr (8, [.int p0, .int 0, .int 0, .int 0, .int 0, .int 0, .int (-1), .int (-1), .int (-1), .int 0, .int 0, .int (-1), .int 0, .int (-1), .int (-1), .int 0, .int 0, .int 0, .int 0]))] H := hP
  have hD : va_D A [(a, .inr (8, [.int p0, .int 0, .int 0, .int 0, .int 0, .int 0, .int (-1), .int (-1), .int (-1), .int 0, .int 0, .int (-1), .int 0, .int (-1), .int (-1), .int 0, .int 0, .int 0, .int 0]))] := hD
  refine lv_aload_n S.1 S.2.1 dX8_init_39 rfl (lv_at hl 0 rfl) ?_
  refine lv_iload_n S.1 S.2.1 dX8_init_40 rfl (lv_at hl 2 rfl) ?_
  refine r_putF S hK hP hD hS 0 8 rfl rfl inX8 1 (by decide) tyX8 tyX8_ok nmX8 kw_560 (v := .int p1) rfl hnm rfl rfl rfl (Nat.le_of_ble_eq_true rfl) dX8_init_41 (fun H locs hP hD hS => ?_)
  have hP : va_P D vwCl [(a, .inr (8, [.int p0, .int p1, .int 0, .int 0, .int 0, .int 0, .int (-1), .int (-1), .int (-1), .int 0, .int 0, .int (-1), .int 0, .int (-1), .int (-1), .int 0, .int 0, .int 0, .int 0]))] H := hP
  have hD : va_D A [(a, .inr (8, [.int p0, .int p1, .int 0, .int 0, .int 0, .int 0, .int (-1), .int (-1), .int (-1), .int 0, .int 0, .int (-1), .int 0, .int (-1), .int (-1), .int 0, .int 0, .int 0, .int 0]))] := hD
  refine lv_aload_n S.1 S.2.1 dX8_init_44 rfl (lv_at hl 0 rfl) ?_
  refine lv_iload_n S.1 S.2.1 dX8_init_45 rfl (lv_at hl 3 rfl) ?_
  refine r_putF S hK hP hD hS 0 8 rfl rfl inX8 2 (by decide) tyX8 tyX8_ok nmX8 kw_563 (v := .int p2) rfl hnm rfl rfl rfl (Nat.le_of_ble_eq_true rfl) dX8_init_46 (fun H locs hP hD hS => ?_)
  have hP : va_P D vwCl [(a, .inr (8, [.int p0, .int p1, .int p2, .int 0, .int 0, .int 0, .int (-1), .int (-1), .int (-1), .int 0, .int 0, .int (-1), .int 0, .int (-1), .int (-1), .int 0, .int 0, .int 0, .int 0]))] H := hP
  have hD : va_D A [(a, .inr (8, [.int p0, .int p1, .int p2, .int 0, .int 0, .int 0, .int (-1), .int (-1), .int (-1), .int 0, .int 0, .int (-1), .int 0, .int (-1), .int (-1), .int 0, .int 0, .int 0, .int 0]))] := hD
  refine lv_aload_n S.1 S.2.1 dX8_init_49 rfl (lv_at hl 0 rfl) ?_
  refine lv_iload S.1 S.2.1 dX8_init_50 (lv_at hl 4 rfl) ?_
  refine r_putF S hK hP hD hS 0 8 rfl rfl inX8 3 (by decide) tyX8 tyX8_ok nmX8 kw_565 (v := .int p3) rfl hnm rfl rfl rfl (Nat.le_of_ble_eq_true rfl) dX8_init_52 (fun H locs hP hD hS => ?_)
  have hP : va_P D vwCl [(a, .inr (8, [.int p0, .int p1, .int p2, .int p3, .int 0, .int 0, .int (-1), .int (-1), .int (-1), .int 0, .int 0, .int (-1), .int 0, .int (-1), .int (-1), .int 0, .int 0, .int 0, .int 0]))] H := hP
  have hD : va_D A [(a, .inr (8, [.int p0, .int p1, .int p2, .int p3, .int 0, .int 0, .int (-1), .int (-1), .int (-1), .int 0, .int 0, .int (-1), .int 0, .int (-1), .int (-1), .int 0, .int 0, .int 0, .int 0]))] := hD
  refine lv_aload_n S.1 S.2.1 dX8_init_55 rfl (lv_at hl 0 rfl) ?_
  refine lv_iload S.1 S.2.1 dX8_init_56 (lv_at hl 5 rfl) ?_
  refine r_putF S hK hP hD hS 0 8 rfl rfl inX8 4 (by decide) tyX8 tyX8_ok nmX8 kw_567 (v := .int p4) rfl hnm rfl rfl rfl (Nat.le_of_ble_eq_true rfl) dX8_init_58 (fun H locs hP hD hS => ?_)
  have hP : va_P D vwCl [(a, .inr (8, [.int p0, .int p1, .int p2, .int p3, .int p4, .int 0, .int (-1), .int (-1), .int (-1), .int 0, .int 0, .int (-1), .int 0, .int (-1), .int (-1), .int 0, .int 0, .int 0, .int 0]))] H := hP
  have hD : va_D A [(a, .inr (8, [.int p0, .int p1, .int p2, .int p3, .int p4, .int 0, .int (-1), .int (-1), .int (-1), .int 0, .int 0, .int (-1), .int 0, .int (-1), .int (-1), .int 0, .int 0, .int 0, .int 0]))] := hD
  refine lv_aload_n S.1 S.2.1 dX8_init_61 rfl (lv_at hl 0 rfl) ?_
  refine lv_iload S.1 S.2.1 dX8_init_62 (lv_at hl 6 rfl) ?_
  refine r_putF S hK hP hD hS 0 8 rfl rfl inX8 5 (by decide) tyX8 tyX8_ok nmX8 kw_569 (v := .int p5) rfl hnm rfl rfl rfl (Nat.le_of_ble_eq_true rfl) dX8_init_64 (fun H locs hP hD hS => ?_)
  have hP : va_P D vwCl [(a, .inr (8, [.int p0, .int p1, .int p2, .int p3, .int p4, .int p5, .int (-1), .int (-1), .int (-1), .int 0, .int 0, .int (-1), .int 0, .int (-1), .int (-1), .int 0, .int 0, .int 0, .int 0]))] H := hP
  have hD : va_D A [(a, .inr (8, [.int p0, .int p1, .int p2, .int p3, .int p4, .int p5, .int (-1), .int (-1), .int (-1), .int 0, .int 0, .int (-1), .int 0, .int (-1), .int (-1), .int 0, .int 0, .int 0, .int 0]))] := hD
  exact cv_ret (u := ()) S hr hlk hK (hP.sub [0] rfl) (hD.sub [0] (by decide) rfl) hS (trivial) (by decide) (by decide) dX8_init_67
set_option maxHeartbeats 4000000 in
set_option maxRecDepth 100000 in
theorem kX0_init (l : Launch) (D : va_G) (cy : Nat → ClassId) (a : Nat) (p0 : Int32) (p1 : Int32) (p2 : Int32) (p3 : Int32) (p4 : Int32) (p5 : Int32) (hb1 : narrow .boolean (.int p1) = .int p1 ∧ fits .boolean (.int p1) = true) : CV l D cy yX0_init cX0_init 7 none 1 20 0 0 [.ref a, .int p0, .int p1, .int p2, .int p3, .int p4, .int p5] [(a, .inr (0, [.int 0, .int 0, .int 0, .int 0, .int 0, .int 0]))] (fun (u : Unit) => True) (fun (u : Unit) => [(a, .inr (0, [.int p0, .int p1, .int p2, .int p3, .int p4, .int p5]))]) := by
  refine cv_go (by decide) (Nat.le_of_ble_eq_true rfl) (fun p e s m below meth c ls A hA S hr hlk hnm hP hK hD hl => ?_)
  have hS : va_S A s.heap s.heap [] := va_S.rf
  have hl : lv_has ls 7 [(0, .ref a), (1, .int p0), (2, .int p1), (3, .int p2), (4, .int p3), (5, .int p4), (6, .int p5)] := hl
  refine lv_aload_n S.1 S.2.1 dX0_init_0 rfl (lv_at hl 0 rfl) ?_
  refine r_oinit S kw_918 kw_178 kw_oi hl.1 dX0_init_1 (by decide) (Nat.le_of_ble_eq_true rfl) ?_
  refine lv_aload_n S.1 S.2.1 dX0_init_4 rfl (lv_at hl 0 rfl) ?_
  refine lv_iload_n S.1 S.2.1 dX0_init_5 rfl (lv_at hl 1 rfl) ?_
  refine r_putF S hK hP hD hS 0 0 rfl rfl inX0 0 (by decide) tyX0 tyX0_ok nmX0 kw_919 (v := .int p0) rfl hnm rfl rfl rfl (Nat.le_of_ble_eq_true rfl) dX0_init_6 (fun H locs hP hD hS => ?_)
  have hP : va_P D vwCl [(a, .inr (0, [.int p0, .int 0, .int 0, .int 0, .int 0, .int 0]))] H := hP
  have hD : va_D A [(a, .inr (0, [.int p0, .int 0, .int 0, .int 0, .int 0, .int 0]))] := hD
  refine lv_aload_n S.1 S.2.1 dX0_init_9 rfl (lv_at hl 0 rfl) ?_
  refine lv_iload_n S.1 S.2.1 dX0_init_10 rfl (lv_at hl 2 rfl) ?_
  refine r_putF S hK hP hD hS 0 0 rfl rfl inX0 1 (by decide) tyX0 tyX0_ok nmX0 kw_921 (v := .int p1) rfl hnm rfl (hb1).1 (hb1).2 (Nat.le_of_ble_eq_true rfl) dX0_init_11 (fun H locs hP hD hS => ?_)
  have hP : va_P D vwCl [(a, .inr (0, [.int p0, .int p1, .int 0, .int 0, .int 0, .int 0]))] H := hP
  have hD : va_D A [(a, .inr (0, [.int p0, .int p1, .int 0, .int 0, .int 0, .int 0]))] := hD
  refine lv_aload_n S.1 S.2.1 dX0_init_14 rfl (lv_at hl 0 rfl) ?_
  refine lv_iload_n S.1 S.2.1 dX0_init_15 rfl (lv_at hl 3 rfl) ?_
  refine r_putF S hK hP hD hS 0 0 rfl rfl inX0 2 (by decide) tyX0 tyX0_ok nmX0 kw_923 (v := .int p2) rfl hnm rfl rfl rfl (Nat.le_of_ble_eq_true rfl) dX0_init_16 (fun H locs hP hD hS => ?_)
  have hP : va_P D vwCl [(a, .inr (0, [.int p0, .int p1, .int p2, .int 0, .int 0, .int 0]))] H := hP
  have hD : va_D A [(a, .inr (0, [.int p0, .int p1, .int p2, .int 0, .int 0, .int 0]))] := hD
  refine lv_aload_n S.1 S.2.1 dX0_init_19 rfl (lv_at hl 0 rfl) ?_
  refine lv_iload S.1 S.2.1 dX0_init_20 (lv_at hl 4 rfl) ?_
  refine r_putF S hK hP hD hS 0 0 rfl rfl inX0 3 (by decide) tyX0 tyX0_ok nmX0 kw_925 (v := .int p3) rfl hnm rfl rfl rfl (Nat.le_of_ble_eq_true rfl) dX0_init_22 (fun H locs hP hD hS => ?_)
  have hP : va_P D vwCl [(a, .inr (0, [.int p0, .int p1, .int p2, .int p3, .int 0, .int 0]))] H := hP
  have hD : va_D A [(a, .inr (0, [.int p0, .int p1, .int p2, .int p3, .int 0, .int 0]))] := hD
  refine lv_aload_n S.1 S.2.1 dX0_init_25 rfl (lv_at hl 0 rfl) ?_
  refine lv_iload S.1 S.2.1 dX0_init_26 (lv_at hl 5 rfl) ?_
  refine r_putF S hK hP hD hS 0 0 rfl rfl inX0 4 (by decide) tyX0 tyX0_ok nmX0 kw_927 (v := .int p4) rfl hnm rfl rfl rfl (Nat.le_of_ble_eq_true rfl) dX0_init_28 (fun H locs hP hD hS => ?_)
  have hP : va_P D vwCl [(a, .inr (0, [.int p0, .int p1, .int p2, .int p3, .int p4, .int 0]))] H := hP
  have hD : va_D A [(a, .inr (0, [.int p0, .int p1, .int p2, .int p3, .int p4, .int 0]))] := hD
  refine lv_aload_n S.1 S.2.1 dX0_init_31 rfl (lv_at hl 0 rfl) ?_
  refine lv_iload S.1 S.2.1 dX0_init_32 (lv_at hl 6 rfl) ?_
  refine r_putF S hK hP hD hS 0 0 rfl rfl inX0 5 (by decide) tyX0 tyX0_ok nmX0 kw_929 (v := .int p5) rfl hnm rfl rfl rfl (Nat.le_of_ble_eq_true rfl) dX0_init_34 (fun H locs hP hD hS => ?_)
  have hP : va_P D vwCl [(a, .inr (0, [.int p0, .int p1, .int p2, .int p3, .int p4, .int p5]))] H := hP
  have hD : va_D A [(a, .inr (0, [.int p0, .int p1, .int p2, .int p3, .int p4, .int p5]))] := hD
  exact cv_ret (u := ()) S hr hlk hK (hP.sub [0] rfl) (hD.sub [0] (by decide) rfl) hS (trivial) (by decide) (by decide) dX0_init_37
set_option maxHeartbeats 4000000 in
set_option maxRecDepth 100000 in
theorem kX1_init (l : Launch) (D : va_G) (cy : Nat → ClassId) (a : Nat) : CV l D cy yX1_init cX1_init 2 none 1 20 2 192 [.ref a, .int 0] [(a, .inr (1, [.int 0, .int 0, .int 0, .int 0, .long 0, .int 0, .int 0, .null, .null]))] (fun (u : (Nat) × (Nat)) => True) (fun (u : (Nat) × (Nat)) => [(a, .inr (1, [.int 0, .int 0, .int 0, .int 0, .long 0, .int 0, .int 0, .ref (u.1), .ref (u.2)])), ((u.1), .inl (cy 0, 96, .inl (fun _ => 0))), ((u.2), .inl (cy 0, 96, .inl (fun _ => 0)))]) := by
  refine cv_go (by decide) (Nat.le_of_ble_eq_true rfl) (fun p e s m below meth c ls A hA S hr hlk hnm hP hK hD hl => ?_)
  have hS : va_S A s.heap s.heap [] := va_S.rf
  have hl : lv_has ls 2 [(0, .ref a), (1, .int 0)] := hl
  refine lv_aload_n S.1 S.2.1 dX1_init_0 rfl (lv_at hl 0 rfl) ?_
  refine r_oinit S kw_1012 kw_178 kw_oi hl.1 dX1_init_1 (by decide) (Nat.le_of_ble_eq_true rfl) ?_
  refine lv_aload_n S.1 S.2.1 dX1_init_4 rfl (lv_at hl 0 rfl) ?_
  refine lv_bipush (v := 96) S.1 S.2.1 dX1_init_5 (by decide) ?_
  refine r_newa S (atype := .int) (ty := .int) rfl kw_224 hK hP hD hS hA 0 rfl (a0 := (96, .inl (fun _ => 0))) (fun _ => rfl) (by decide) (by decide) (by decide) (by decide) (by decide) dX1_init_7 (fun a7_1 H hP hD hS => ?_)
  have hP : va_P D vwCl [(a, .inr (1, [.int 0, .int 0, .int 0, .int 0, .long 0, .int 0, .int 0, .null, .null])), (a7_1, .inl (cy 0, 96, .inl (fun _ => 0)))] H := hP
  have hD : va_D A [(a, .inr (1, [.int 0, .int 0, .int 0, .int 0, .long 0, .int 0, .int 0, .null, .null])), (a7_1, .inl (cy 0, 96, .inl (fun _ => 0)))] := hD
  refine r_putF S hK hP hD hS 0 1 rfl rfl inX1 7 (by decide) tyX1 tyX1_ok nmX1 kw_1029 (v := .ref a7_1) rfl hnm rfl rfl rfl (Nat.le_of_ble_eq_true rfl) dX1_init_9 (fun H locs hP hD hS => ?_)
  have hP : va_P D vwCl [(a, .inr (1, [.int 0, .int 0, .int 0, .int 0, .long 0, .int 0, .int 0, .ref a7_1, .null])), (a7_1, .inl (cy 0, 96, .inl (fun _ => 0)))] H := hP
  have hD : va_D A [(a, .inr (1, [.int 0, .int 0, .int 0, .int 0, .long 0, .int 0, .int 0, .ref a7_1, .null])), (a7_1, .inl (cy 0, 96, .inl (fun _ => 0)))] := hD
  refine lv_aload_n S.1 S.2.1 dX1_init_12 rfl (lv_at hl 0 rfl) ?_
  refine lv_bipush (v := 96) S.1 S.2.1 dX1_init_13 (by decide) ?_
  refine r_newa S (atype := .int) (ty := .int) rfl kw_224 hK hP hD hS hA 0 rfl (a0 := (96, .inl (fun _ => 0))) (fun _ => rfl) (by decide) (by decide) (by decide) (by decide) (by decide) dX1_init_15 (fun a15_2 H hP hD hS => ?_)
  have hP : va_P D vwCl [(a, .inr (1, [.int 0, .int 0, .int 0, .int 0, .long 0, .int 0, .int 0, .ref a7_1, .null])), (a7_1, .inl (cy 0, 96, .inl (fun _ => 0))), (a15_2, .inl (cy 0, 96, .inl (fun _ => 0)))] H := hP
  have hD : va_D A [(a, .inr (1, [.int 0, .int 0, .int 0, .int 0, .long 0, .int 0, .int 0, .ref a7_1, .null])), (a7_1, .inl (cy 0, 96, .inl (fun _ => 0))), (a15_2, .inl (cy 0, 96, .inl (fun _ => 0)))] := hD
  refine r_putF S hK hP hD hS 0 1 rfl rfl inX1 8 (by decide) tyX1 tyX1_ok nmX1 kw_1032 (v := .ref a15_2) rfl hnm rfl rfl rfl (Nat.le_of_ble_eq_true rfl) dX1_init_17 (fun H locs hP hD hS => ?_)
  have hP : va_P D vwCl [(a, .inr (1, [.int 0, .int 0, .int 0, .int 0, .long 0, .int 0, .int 0, .ref a7_1, .ref a15_2])), (a7_1, .inl (cy 0, 96, .inl (fun _ => 0))), (a15_2, .inl (cy 0, 96, .inl (fun _ => 0)))] H := hP
  have hD : va_D A [(a, .inr (1, [.int 0, .int 0, .int 0, .int 0, .long 0, .int 0, .int 0, .ref a7_1, .ref a15_2])), (a7_1, .inl (cy 0, 96, .inl (fun _ => 0))), (a15_2, .inl (cy 0, 96, .inl (fun _ => 0)))] := hD
  refine lv_aload_n S.1 S.2.1 dX1_init_20 rfl (lv_at hl 0 rfl) ?_
  refine lv_iload_n S.1 S.2.1 dX1_init_21 rfl (lv_at hl 1 rfl) ?_
  refine r_putF S hK hP hD hS 0 1 rfl rfl inX1 0 (by decide) tyX1 tyX1_ok nmX1 kw_1013 (v := .int 0) rfl hnm rfl rfl rfl (Nat.le_of_ble_eq_true rfl) dX1_init_22 (fun H locs hP hD hS => ?_)
  have hP : va_P D vwCl [(a, .inr (1, [.int 0, .int 0, .int 0, .int 0, .long 0, .int 0, .int 0, .ref a7_1, .ref a15_2])), (a7_1, .inl (cy 0, 96, .inl (fun _ => 0))), (a15_2, .inl (cy 0, 96, .inl (fun _ => 0)))] H := hP
  have hD : va_D A [(a, .inr (1, [.int 0, .int 0, .int 0, .int 0, .long 0, .int 0, .int 0, .ref a7_1, .ref a15_2])), (a7_1, .inl (cy 0, 96, .inl (fun _ => 0))), (a15_2, .inl (cy 0, 96, .inl (fun _ => 0)))] := hD
  exact cv_ret (u := (a7_1, a15_2)) S hr hlk hK (hP.sub [0, 1, 2] rfl) (hD.sub [0, 1, 2] (by decide) rfl) hS (trivial) (by decide) (by decide) dX1_init_25
set_option maxHeartbeats 4000000 in
set_option maxRecDepth 100000 in
theorem kX7_init (l : Launch) (D : va_G) (cy : Nat → ClassId) (a : Nat) : CV l D cy yX7_init cX7_init 1 none 1 23 1 96 [.ref a] [(a, .inr (7, [.null]))] (fun (u : (Nat)) => True) (fun (u : (Nat)) => [(a, .inr (7, [.ref (u)])), ((u), .inl (cy 0, 96, .inl (fun _ => (-1))))]) := by
  refine cv_go (by decide) (Nat.le_of_ble_eq_true rfl) (fun p e s m below meth c ls A hA S hr hlk hnm hP hK hD hl => ?_)
  have hS : va_S A s.heap s.heap [] := va_S.rf
  have hl : lv_has ls 1 [(0, .ref a)] := hl
  refine lv_aload_n S.1 S.2.1 dX7_init_0 rfl (lv_at hl 0 rfl) ?_
  refine r_oinit S kw_1268 kw_178 kw_oi hl.1 dX7_init_1 (by decide) (Nat.le_of_ble_eq_true rfl) ?_
  refine lv_aload_n S.1 S.2.1 dX7_init_4 rfl (lv_at hl 0 rfl) ?_
  refine lv_bipush (v := 96) S.1 S.2.1 dX7_init_5 (by decide) ?_
  refine r_newa S (atype := .int) (ty := .int) rfl kw_224 hK hP hD hS hA 0 rfl (a0 := (96, .inl (fun _ => 0))) (fun _ => rfl) (by decide) (by decide) (by decide) (by decide) (by decide) dX7_init_7 (fun a7_1 H hP hD hS => ?_)
  have hP : va_P D vwCl [(a, .inr (7, [.null])), (a7_1, .inl (cy 0, 96, .inl (fun _ => 0)))] H := hP
  have hD : va_D A [(a, .inr (7, [.null])), (a7_1, .inl (cy 0, 96, .inl (fun _ => 0)))] := hD
  refine r_putF S hK hP hD hS 0 7 rfl rfl inX7 0 (by decide) tyX7 tyX7_ok nmX7 kw_1270 (v := .ref a7_1) rfl hnm rfl rfl rfl (Nat.le_of_ble_eq_true rfl) dX7_init_9 (fun H locs hP hD hS => ?_)
  have hP : va_P D vwCl [(a, .inr (7, [.ref a7_1])), (a7_1, .inl (cy 0, 96, .inl (fun _ => 0)))] H := hP
  have hD : va_D A [(a, .inr (7, [.ref a7_1])), (a7_1, .inl (cy 0, 96, .inl (fun _ => 0)))] := hD
  refine lv_aload_n S.1 S.2.1 dX7_init_12 rfl (lv_at hl 0 rfl) ?_
  refine r_get S hK hP 0 7 rfl rfl inX7 0 (by decide) kw_1270 (v := .ref a7_1) rfl dX7_init_13 ?_
  refine lv_iconst (v := (-1)) S.1 S.2.1 dX7_init_16 (by decide) ?_
  refine call_v (wr := [(a, .inr (7, [.ref a7_1]))]) (runS_C (wc := [(a7_1, .inl (cy 0, 96, .inl (fun _ => 0)))]) (As := [.ref a7_1, .int (-1)]) (rest := []) S (kJ7_fill_53178 l D cy a7_1 96 (fun _ => 0) (-1) (by omega)) hK hP hD [1] (by decide) rfl kw_1269 kw_187 kw_146 kw_188 okJ7_fill_53178 rfl (by decide) hl.1 rfl (Nat.le_of_ble_eq_true rfl) dX7_init_17 (by decide)) hP hD hS hA [1] [0] rfl rfl (by decide) (by decide) (fun u17 H locs w17 hP hD hS => ?_)
  have hP : va_P D vwCl [(a, .inr (7, [.ref a7_1])), (a7_1, .inl (cy 0, 96, .inl (fun _ => (-1))))] H := hP
  have hD : va_D A [(a, .inr (7, [.ref a7_1])), (a7_1, .inl (cy 0, 96, .inl (fun _ => (-1))))] := hD
  exact cv_ret (u := a7_1) S hr hlk hK (hP.sub [0, 1] rfl) (hD.sub [0, 1] (by decide) rfl) hS (trivial) (by decide) (by decide) dX7_init_20
set_option maxHeartbeats 4000000 in
set_option maxRecDepth 100000 in
theorem kX12_asked (l : Launch) (D : va_G) (cy : Nat → ClassId) (q : Nat → Nat) : RI l D cy yX12_asked cX12_asked 3 (some .int) 0 0 [.ref (q 0)] [((q 0), .inr (11, (mO q 0 0 0 0 0 0 0 0 (-1) 1 0 0 0 0 0 0 0 0 0))), ((q 82), .inl (cy 1, 96, .inl (fun _ => 0)))] (fun v : Int32 => v = 0) := by
  refine metr_go (by decide) (Nat.le_of_ble_eq_true rfl) (fun p e s m below meth c ls S hr hlk hP hK hl => ?_)
  have hl : lv_has ls 3 [(0, .ref (q 0))] := hl
  refine lv_iconst (v := 0) S.1 S.2.1 dX12_asked_0 (by decide) ?_
  refine lv_istore_n (lv' := [(1, .int 0), (0, .ref (q 0))]) S.1 S.2.1 dX12_asked_1 rfl hl (by decide) rfl (fun ls hl => ?_)
  refine lv_iconst (v := 0) S.1 S.2.1 dX12_asked_2 (by decide) ?_
  refine lv_istore_n (lv' := [(2, .int 0), (1, .int 0), (0, .ref (q 0))]) S.1 S.2.1 dX12_asked_3 rfl hl (by decide) rfl (fun ls hl => ?_)
  refine loopR (σ := Unit) 4 96 (fun k xs9 => [(2, .int (nI (k))), (1, .int 0), (0, .ref (q 0))]) (fun k xs9 => True) (fun xs9 hJ ls hl => ?_) (fun k xs9 hk hJ ls hl ih => ?_) () trivial (lv_sub hl [0, 1, 2] rfl)
  · have hl : lv_has ls 3 [(2, .int 96), (1, .int 0), (0, .ref (q 0))] := hl
    refine lv_iload_n S.1 S.2.1 dX12_asked_4 rfl (lv_at hl 0 rfl) ?_
    refine lv_bipush (v := 96) S.1 S.2.1 dX12_asked_5 (by decide) ?_
    refine r_icmp_ge S 96 96 rfl rfl dX12_asked_7 (tgt := 33) (by decide) (fun _ => ?_) (fun c => absurd c (by decide))
    refine lv_iload_n S.1 S.2.1 dX12_asked_33 rfl (lv_at hl 1 rfl) ?_
    exact ri_ret S hr hlk rfl (rfl) dX12_asked_34
  · have hl : lv_has ls 3 [(2, .int (nI (k))), (1, .int 0), (0, .ref (q 0))] := hl
    refine lv_iload_n S.1 S.2.1 dX12_asked_4 rfl (lv_at hl 0 rfl) ?_
    refine lv_bipush (v := 96) S.1 S.2.1 dX12_asked_5 (by decide) ?_
    refine r_icmp_ge S ((k : Nat) : Int) 96 (nI_toInt (by omega)) rfl dX12_asked_7 (tgt := 33) (by decide) (fun c => absurd c (by omega)) (fun _ => ?_)
    refine lv_iload_n S.1 S.2.1 dX12_asked_10 rfl (lv_at hl 1 rfl) ?_
    refine lv_aload_n S.1 S.2.1 dX12_asked_11 rfl (lv_at hl 2 rfl) ?_
    refine r_get S hK hP 0 11 rfl rfl inX12 82 (by decide) kw_1592 (v := .ref (q 82)) rfl dX12_asked_12 ?_
    refine lv_iload_n S.1 S.2.1 dX12_asked_15 rfl (lv_at hl 0 rfl) ?_
    refine r_zald S hK hP 1 1 rfl rfl ((k)) rfl (by omega) (by decide) (v := 0) rfl dX12_asked_16 ?_
    refine r_if_eq S 0 rfl dX12_asked_17 (tgt := 24) (by decide) (fun _ => ?_) (fun c => absurd c (by decide))
    refine lv_iconst (v := 0) S.1 S.2.1 dX12_asked_24 (by decide) ?_
    refine r_iadd S dX12_asked_25 (v := 0) (by decide) ?_
    refine lv_istore_n (lv' := [(1, .int 0), (2, .int (nI (k))), (0, .ref (q 0))]) S.1 S.2.1 dX12_asked_26 rfl hl (by decide) rfl (fun ls hl => ?_)
    refine lv_iinc (v := (nI ((k) + 1))) (lv' := [(2, .int (nI ((k) + 1))), (1, .int 0), (0, .ref (q 0))]) S.1 S.2.1 dX12_asked_27 hl (k := 1) rfl (nI_1 (k)) (by decide) rfl (fun ls hl => ?_)
    refine lv_goto (tgt := 4) S.1 S.2.1 dX12_asked_30 (by decide) ?_
    exact ih () _ trivial (lv_sub hl [0, 1, 2] rfl)
set_option maxHeartbeats 4000000 in
set_option maxRecDepth 100000 in
theorem kX12_isSheet (l : Launch) (D : va_G) (cy : Nat → ClassId) (q : Nat → Nat) (p0 : Int32) (z0 : Int) (h0 : p0.toInt = z0) : RI l D cy yX12_isSheet cX12_isSheet 2 (some .boolean) 0 0 [.ref (q 0), .int p0] [((q 0), .inr (11, (mO q 0 0 0 0 0 0 0 0 (-1) 1 0 0 0 0 0 0 0 0 0)))] (fun v : Int32 => v = 0) := by
  refine metr_go (by decide) (Nat.le_of_ble_eq_true rfl) (fun p e s m below meth c ls S hr hlk hP hK hl => ?_)
  have hl : lv_has ls 2 [(0, .ref (q 0)), (1, .int p0)] := hl
  refine lv_iload_n S.1 S.2.1 dX12_isSheet_0 rfl (lv_at hl 1 rfl) ?_
  refine r_if_lt S z0 h0 dX12_isSheet_1 (tgt := 16) (by decide) (fun e_1_1 => ?_) (fun e_1_1 => ?_)
  · refine lv_iconst (v := 0) S.1 S.2.1 dX12_isSheet_16 (by decide) ?_
    exact ri_ret S hr hlk (by decide) (rfl) dX12_isSheet_17
  · refine lv_iload_n S.1 S.2.1 dX12_isSheet_4 rfl (lv_at hl 1 rfl) ?_
    refine lv_aload_n S.1 S.2.1 dX12_isSheet_5 rfl (lv_at hl 0 rfl) ?_
    refine r_get S hK hP 0 11 rfl rfl inX12 80 (by decide) kw_1590 (v := .int 0) rfl dX12_isSheet_6 ?_
    refine r_icmp_ge S z0 0 h0 rfl dX12_isSheet_9 (tgt := 16) (by decide) (fun _ => ?_) (fun c => absurd c (by omega))
    refine lv_iconst (v := 0) S.1 S.2.1 dX12_isSheet_16 (by decide) ?_
    exact ri_ret S hr hlk (by decide) (rfl) dX12_isSheet_17
set_option maxHeartbeats 4000000 in
set_option maxRecDepth 100000 in
theorem kX11_cell (l : Launch) (D : va_G) (cy : Nat → ClassId) (x : Nat → Nat) (p0 : Int32) (p1 : Int32) (p2 : Int32) (p3 : Int32) (z0 : Int) (h0 : p0.toInt = z0) (z1 : Int) (h1 : p1.toInt = z1) (z2 : Int) (h2 : p2.toInt = z2) (z3 : Int) (h3 : p3.toInt = z3) : CI l D cy yX11_cell cX11_cell 6 (some .boolean) 1 21 0 0 [.ref (x 0), .int p0, .int p1, .int p2, .int p3] [((x 0), .inr (10, [.int 0, .int (-1), .ref (x 1), .ref (x 9), .int 0, .ref (x 10), .ref (x 13), .ref (x 16), .ref (x 29), .int 0, .int 0, .ref (x 30), .int 0, .ref (x 31), .ref (x 42), .int 0, .int 0, .null, .ref (x 43)])), ((x 1), .inr (2, [.ref (x 2), .ref (x 3), .ref (x 4), .ref (x 5), .ref (x 6), .int 0, .ref (x 7), .ref (x 8), .int 0])), ((x 2), .inl (cy 0, 96, .inl (fun _ => 500))), ((x 3), .inl (cy 1, 96, .inl (fun _ => 0)))] (fun (v : Int32) (u : Unit) => (v = 1 ∧ (0 ≤ z0 ∧ z0 ≤ 11 ∧ 0 ≤ z1 ∧ z1 ≤ 7 ∧ 0 ≤ z2 ∧ z2 ≤ 999)) ∨ (v = 0 ∧ ¬ (0 ≤ z0 ∧ z0 ≤ 11 ∧ 0 ≤ z1 ∧ z1 ≤ 7 ∧ 0 ≤ z2 ∧ z2 ≤ 999))) (fun (u : Unit) => []) := by
  refine ci_go (by decide) (Nat.le_of_ble_eq_true rfl) (fun p e s m below meth c ls A hA S hr hlk hnm hP hK hD hl => ?_)
  have hS : va_S A s.heap s.heap [] := va_S.rf
  have hl : lv_has ls 6 [(0, .ref (x 0)), (1, .int p0), (2, .int p1), (3, .int p2), (4, .int p3)] := hl
  refine lv_iload_n S.1 S.2.1 dX11_cell_0 rfl (lv_at hl 1 rfl) ?_
  refine lv_iload_n S.1 S.2.1 dX11_cell_1 rfl (lv_at hl 2 rfl) ?_
  refine call_ri (runS_R (wc := []) (As := [.int p0, .int p1]) (rest := []) S (kX11_cellAt l D cy p0 p1 z0 h0 z1 h1) hK hP [] rfl kw_538 kw_539 kw_144 kw_540 okX11_cellAt rfl (by decide) hl.1 rfl (Nat.le_of_ble_eq_true rfl) dX11_cell_2 (by decide)) (fun v2 w2 => ?_)
  rcases w2 with ⟨rfl, w2_0_0⟩ | ⟨cx_2, cl_2, rfl, w2_1_0, w2_1_1, w2_1_2, w2_1_3⟩
  · refine lv_istore (lv' := [(5, .int (-1)), (0, .ref (x 0)), (1, .int p0), (2, .int p1), (3, .int p2), (4, .int p3)]) S.1 S.2.1 dX11_cell_5 hl (by decide) rfl (fun ls hl => ?_)
    refine lv_iload S.1 S.2.1 dX11_cell_7 (lv_at hl 0 rfl) ?_
    refine lv_iconst (v := (-1)) S.1 S.2.1 dX11_cell_9 (by decide) ?_
    refine r_icmp_eq S (-1) (-1) rfl rfl dX11_cell_10 (tgt := 24) (by decide) (fun _ => ?_) (fun c => absurd c (by decide))
    refine lv_iconst (v := 0) S.1 S.2.1 dX11_cell_24 (by decide) ?_
    exact ci_ret (u := ()) S hr hlk (by decide) hK (hP.sub [] rfl) (hD.sub [] (by decide) rfl) hS (Or.inr (⟨rfl, (by omega)⟩)) (by decide) (by decide) dX11_cell_25
  · refine lv_istore (lv' := [(5, .int (nI (12 * cl_2 + cx_2))), (0, .ref (x 0)), (1, .int p0), (2, .int p1), (3, .int p2), (4, .int p3)]) S.1 S.2.1 dX11_cell_5 hl (by decide) rfl (fun ls hl => ?_)
    refine lv_iload S.1 S.2.1 dX11_cell_7 (lv_at hl 0 rfl) ?_
    refine lv_iconst (v := (-1)) S.1 S.2.1 dX11_cell_9 (by decide) ?_
    refine r_icmp_eq S ((12 * cl_2 + cx_2 : Nat) : Int) (-1) (nI_toInt (by omega)) rfl dX11_cell_10 (tgt := 24) (by decide) (fun c => absurd c (by omega)) (fun _ => ?_)
    refine lv_iload_n S.1 S.2.1 dX11_cell_13 rfl (lv_at hl 4 rfl) ?_
    refine r_if_lt S z2 h2 dX11_cell_14 (tgt := 24) (by decide) (fun e_14_1 => ?_) (fun e_14_1 => ?_)
    · refine lv_iconst (v := 0) S.1 S.2.1 dX11_cell_24 (by decide) ?_
      exact ci_ret (u := ()) S hr hlk (by decide) hK (hP.sub [] rfl) (hD.sub [] (by decide) rfl) hS (Or.inr (⟨rfl, (by omega)⟩)) (by decide) (by decide) dX11_cell_25
    · refine lv_iload_n S.1 S.2.1 dX11_cell_17 rfl (lv_at hl 4 rfl) ?_
      refine lv_sipush (v := 999) S.1 S.2.1 dX11_cell_18 (by decide) ?_
      refine r_icmp_le S z2 999 h2 rfl dX11_cell_21 (tgt := 26) (by decide) (fun e_21_2 => ?_) (fun e_21_2 => ?_)
      · refine lv_aload_n S.1 S.2.1 dX11_cell_26 rfl (lv_at hl 1 rfl) ?_
        refine r_get S hK hP 0 10 rfl rfl inX11 2 (by decide) kw_470 (v := .ref (x 1)) rfl dX11_cell_27 ?_
        refine r_get S hK hP 1 2 rfl rfl inX2 0 (by decide) kw_190 (v := .ref (x 2)) rfl dX11_cell_30 ?_
        refine lv_iload S.1 S.2.1 dX11_cell_33 (lv_at hl 0 rfl) ?_
        refine lv_iload_n S.1 S.2.1 dX11_cell_35 rfl (lv_at hl 4 rfl) ?_
        refine r_iast S hK hP hD hS 2 0 rfl rfl ((12 * cl_2 + cx_2)) rfl (by omega) (by decide) dX11_cell_36 (fun H locs hP hD hS => ?_)
        have hP : va_P D vwCl [((x 0), .inr (10, [.int 0, .int (-1), .ref (x 1), .ref (x 9), .int 0, .ref (x 10), .ref (x 13), .ref (x 16), .ref (x 29), .int 0, .int 0, .ref (x 30), .int 0, .ref (x 31), .ref (x 42), .int 0, .int 0, .null, .ref (x 43)])), ((x 1), .inr (2, [.ref (x 2), .ref (x 3), .ref (x 4), .ref (x 5), .ref (x 6), .int 0, .ref (x 7), .ref (x 8), .int 0])), ((x 2), .inl (cy 0, 96, .inl (upd (fun _ => 500) ((12 * cl_2 + cx_2)) p2))), ((x 3), .inl (cy 1, 96, .inl (fun _ => 0)))] H := hP
        have hD : va_D A [((x 0), .inr (10, [.int 0, .int (-1), .ref (x 1), .ref (x 9), .int 0, .ref (x 10), .ref (x 13), .ref (x 16), .ref (x 29), .int 0, .int 0, .ref (x 30), .int 0, .ref (x 31), .ref (x 42), .int 0, .int 0, .null, .ref (x 43)])), ((x 1), .inr (2, [.ref (x 2), .ref (x 3), .ref (x 4), .ref (x 5), .ref (x 6), .int 0, .ref (x 7), .ref (x 8), .int 0])), ((x 2), .inl (cy 0, 96, .inl (upd (fun _ => 500) ((12 * cl_2 + cx_2)) p2))), ((x 3), .inl (cy 1, 96, .inl (fun _ => 0)))] := hD
        refine lv_aload_n S.1 S.2.1 dX11_cell_37 rfl (lv_at hl 1 rfl) ?_
        refine r_get S hK hP 0 10 rfl rfl inX11 2 (by decide) kw_470 (v := .ref (x 1)) rfl dX11_cell_38 ?_
        refine r_get S hK hP 1 2 rfl rfl inX2 1 (by decide) kw_192 (v := .ref (x 3)) rfl dX11_cell_41 ?_
        refine lv_iload S.1 S.2.1 dX11_cell_44 (lv_at hl 0 rfl) ?_
        refine lv_iload S.1 S.2.1 dX11_cell_46 (lv_at hl 5 rfl) ?_
        refine r_if_ne S z3 h3 dX11_cell_48 (tgt := 55) (by decide) (fun e_48_3 => ?_) (fun e_48_3 => ?_)
        · refine lv_iconst (v := 0) S.1 S.2.1 dX11_cell_55 (by decide) ?_
          refine r_zast S hK hP hD hS 3 1 rfl rfl ((12 * cl_2 + cx_2)) rfl (by omega) (by decide) dX11_cell_56 (fun H locs hP hD hS => ?_)
          have hP : va_P D vwCl [((x 0), .inr (10, [.int 0, .int (-1), .ref (x 1), .ref (x 9), .int 0, .ref (x 10), .ref (x 13), .ref (x 16), .ref (x 29), .int 0, .int 0, .ref (x 30), .int 0, .ref (x 31), .ref (x 42), .int 0, .int 0, .null, .ref (x 43)])), ((x 1), .inr (2, [.ref (x 2), .ref (x 3), .ref (x 4), .ref (x 5), .ref (x 6), .int 0, .ref (x 7), .ref (x 8), .int 0])), ((x 2), .inl (cy 0, 96, .inl (upd (fun _ => 500) ((12 * cl_2 + cx_2)) p2))), ((x 3), .inl (cy 1, 96, .inl (upd (fun _ => 0) ((12 * cl_2 + cx_2)) (vp_nar .boolean 0))))] H := hP
          have hD : va_D A [((x 0), .inr (10, [.int 0, .int (-1), .ref (x 1), .ref (x 9), .int 0, .ref (x 10), .ref (x 13), .ref (x 16), .ref (x 29), .int 0, .int 0, .ref (x 30), .int 0, .ref (x 31), .ref (x 42), .int 0, .int 0, .null, .ref (x 43)])), ((x 1), .inr (2, [.ref (x 2), .ref (x 3), .ref (x 4), .ref (x 5), .ref (x 6), .int 0, .ref (x 7), .ref (x 8), .int 0])), ((x 2), .inl (cy 0, 96, .inl (upd (fun _ => 500) ((12 * cl_2 + cx_2)) p2))), ((x 3), .inl (cy 1, 96, .inl (upd (fun _ => 0) ((12 * cl_2 + cx_2)) (vp_nar .boolean 0))))] := hD
          refine lv_aload_n S.1 S.2.1 dX11_cell_57 rfl (lv_at hl 1 rfl) ?_
          refine lv_iconst (v := 0) S.1 S.2.1 dX11_cell_58 (by decide) ?_
          refine r_put S hK hP hD hS 0 10 rfl rfl inX11 15 (by decide) tyX11 tyX11_ok nmX11 kw_483 (v := .int 0) rfl (by decide) (by decide) (Nat.le_of_ble_eq_true rfl) dX11_cell_59 (fun H locs hP hD hS => ?_)
          have hP : va_P D vwCl [((x 0), .inr (10, [.int 0, .int (-1), .ref (x 1), .ref (x 9), .int 0, .ref (x 10), .ref (x 13), .ref (x 16), .ref (x 29), .int 0, .int 0, .ref (x 30), .int 0, .ref (x 31), .ref (x 42), .int 0, .int 0, .null, .ref (x 43)])), ((x 1), .inr (2, [.ref (x 2), .ref (x 3), .ref (x 4), .ref (x 5), .ref (x 6), .int 0, .ref (x 7), .ref (x 8), .int 0])), ((x 2), .inl (cy 0, 96, .inl (upd (fun _ => 500) ((12 * cl_2 + cx_2)) p2))), ((x 3), .inl (cy 1, 96, .inl (upd (fun _ => 0) ((12 * cl_2 + cx_2)) (vp_nar .boolean 0))))] H := hP
          have hD : va_D A [((x 0), .inr (10, [.int 0, .int (-1), .ref (x 1), .ref (x 9), .int 0, .ref (x 10), .ref (x 13), .ref (x 16), .ref (x 29), .int 0, .int 0, .ref (x 30), .int 0, .ref (x 31), .ref (x 42), .int 0, .int 0, .null, .ref (x 43)])), ((x 1), .inr (2, [.ref (x 2), .ref (x 3), .ref (x 4), .ref (x 5), .ref (x 6), .int 0, .ref (x 7), .ref (x 8), .int 0])), ((x 2), .inl (cy 0, 96, .inl (upd (fun _ => 500) ((12 * cl_2 + cx_2)) p2))), ((x 3), .inl (cy 1, 96, .inl (upd (fun _ => 0) ((12 * cl_2 + cx_2)) (vp_nar .boolean 0))))] := hD
          refine lv_iconst (v := 1) S.1 S.2.1 dX11_cell_62 (by decide) ?_
          exact ci_ret (u := ()) S hr hlk (by decide) hK (hP.sub [] rfl) (hD.sub [] (by decide) rfl) hS (Or.inl ⟨rfl, (by omega)⟩) (by decide) (by decide) dX11_cell_63
        · refine lv_iconst (v := 1) S.1 S.2.1 dX11_cell_51 (by decide) ?_
          refine lv_goto (tgt := 56) S.1 S.2.1 dX11_cell_52 (by decide) ?_
          refine r_zast S hK hP hD hS 3 1 rfl rfl ((12 * cl_2 + cx_2)) rfl (by omega) (by decide) dX11_cell_56 (fun H locs hP hD hS => ?_)
          have hP : va_P D vwCl [((x 0), .inr (10, [.int 0, .int (-1), .ref (x 1), .ref (x 9), .int 0, .ref (x 10), .ref (x 13), .ref (x 16), .ref (x 29), .int 0, .int 0, .ref (x 30), .int 0, .ref (x 31), .ref (x 42), .int 0, .int 0, .null, .ref (x 43)])), ((x 1), .inr (2, [.ref (x 2), .ref (x 3), .ref (x 4), .ref (x 5), .ref (x 6), .int 0, .ref (x 7), .ref (x 8), .int 0])), ((x 2), .inl (cy 0, 96, .inl (upd (fun _ => 500) ((12 * cl_2 + cx_2)) p2))), ((x 3), .inl (cy 1, 96, .inl (upd (fun _ => 0) ((12 * cl_2 + cx_2)) (vp_nar .boolean 1))))] H := hP
          have hD : va_D A [((x 0), .inr (10, [.int 0, .int (-1), .ref (x 1), .ref (x 9), .int 0, .ref (x 10), .ref (x 13), .ref (x 16), .ref (x 29), .int 0, .int 0, .ref (x 30), .int 0, .ref (x 31), .ref (x 42), .int 0, .int 0, .null, .ref (x 43)])), ((x 1), .inr (2, [.ref (x 2), .ref (x 3), .ref (x 4), .ref (x 5), .ref (x 6), .int 0, .ref (x 7), .ref (x 8), .int 0])), ((x 2), .inl (cy 0, 96, .inl (upd (fun _ => 500) ((12 * cl_2 + cx_2)) p2))), ((x 3), .inl (cy 1, 96, .inl (upd (fun _ => 0) ((12 * cl_2 + cx_2)) (vp_nar .boolean 1))))] := hD
          refine lv_aload_n S.1 S.2.1 dX11_cell_57 rfl (lv_at hl 1 rfl) ?_
          refine lv_iconst (v := 0) S.1 S.2.1 dX11_cell_58 (by decide) ?_
          refine r_put S hK hP hD hS 0 10 rfl rfl inX11 15 (by decide) tyX11 tyX11_ok nmX11 kw_483 (v := .int 0) rfl (by decide) (by decide) (Nat.le_of_ble_eq_true rfl) dX11_cell_59 (fun H locs hP hD hS => ?_)
          have hP : va_P D vwCl [((x 0), .inr (10, [.int 0, .int (-1), .ref (x 1), .ref (x 9), .int 0, .ref (x 10), .ref (x 13), .ref (x 16), .ref (x 29), .int 0, .int 0, .ref (x 30), .int 0, .ref (x 31), .ref (x 42), .int 0, .int 0, .null, .ref (x 43)])), ((x 1), .inr (2, [.ref (x 2), .ref (x 3), .ref (x 4), .ref (x 5), .ref (x 6), .int 0, .ref (x 7), .ref (x 8), .int 0])), ((x 2), .inl (cy 0, 96, .inl (upd (fun _ => 500) ((12 * cl_2 + cx_2)) p2))), ((x 3), .inl (cy 1, 96, .inl (upd (fun _ => 0) ((12 * cl_2 + cx_2)) (vp_nar .boolean 1))))] H := hP
          have hD : va_D A [((x 0), .inr (10, [.int 0, .int (-1), .ref (x 1), .ref (x 9), .int 0, .ref (x 10), .ref (x 13), .ref (x 16), .ref (x 29), .int 0, .int 0, .ref (x 30), .int 0, .ref (x 31), .ref (x 42), .int 0, .int 0, .null, .ref (x 43)])), ((x 1), .inr (2, [.ref (x 2), .ref (x 3), .ref (x 4), .ref (x 5), .ref (x 6), .int 0, .ref (x 7), .ref (x 8), .int 0])), ((x 2), .inl (cy 0, 96, .inl (upd (fun _ => 500) ((12 * cl_2 + cx_2)) p2))), ((x 3), .inl (cy 1, 96, .inl (upd (fun _ => 0) ((12 * cl_2 + cx_2)) (vp_nar .boolean 1))))] := hD
          refine lv_iconst (v := 1) S.1 S.2.1 dX11_cell_62 (by decide) ?_
          exact ci_ret (u := ()) S hr hlk (by decide) hK (hP.sub [] rfl) (hD.sub [] (by decide) rfl) hS (Or.inl ⟨rfl, (by omega)⟩) (by decide) (by decide) dX11_cell_63
      · refine lv_iconst (v := 0) S.1 S.2.1 dX11_cell_24 (by decide) ?_
        exact ci_ret (u := ()) S hr hlk (by decide) hK (hP.sub [] rfl) (hD.sub [] (by decide) rfl) hS (Or.inr (⟨rfl, (by omega)⟩)) (by decide) (by decide) dX11_cell_25
set_option maxHeartbeats 4000000 in
set_option maxRecDepth 100000 in
theorem kX12_cell (l : Launch) (D : va_G) (cy : Nat → ClassId) (q : Nat → Nat) (p0 : Int32) (p1 : Int32) (p2 : Int32) (p3 : Int32) (z0 : Int) (h0 : p0.toInt = z0) (z1 : Int) (h1 : p1.toInt = z1) (z2 : Int) (h2 : p2.toInt = z2) (z3 : Int) (h3 : p3.toInt = z3) : CI l D cy yX12_cell cX12_cell 5 (some .boolean) 2 43 0 0 [.ref (q 0), .int p0, .int p1, .int p2, .int p3] [((q 0), .inr (11, (mO q 0 0 0 0 0 0 0 0 (-1) 1 0 0 0 0 0 0 0 0 0))), ((q 36), .inl (cy 0, 96, .inl (fun _ => 500))), ((q 37), .inl (cy 1, 96, .inl (fun _ => 1)))] (fun (v : Int32) (u : Unit) => (v = 1 ∧ (0 ≤ z0 ∧ z0 ≤ 11 ∧ 0 ≤ z1 ∧ z1 ≤ 7 ∧ 0 ≤ z2 ∧ z2 ≤ 999)) ∨ (v = 0 ∧ ¬ (0 ≤ z0 ∧ z0 ≤ 11 ∧ 0 ≤ z1 ∧ z1 ≤ 7 ∧ 0 ≤ z2 ∧ z2 ≤ 999))) (fun (u : Unit) => []) := by
  refine ci_go (by decide) (Nat.le_of_ble_eq_true rfl) (fun p e s m below meth c ls A hA S hr hlk hnm hP hK hD hl => ?_)
  have hS : va_S A s.heap s.heap [] := va_S.rf
  have hl : lv_has ls 5 [(0, .ref (q 0)), (1, .int p0), (2, .int p1), (3, .int p2), (4, .int p3)] := hl
  refine lv_aload_n S.1 S.2.1 dX12_cell_0 rfl (lv_at hl 0 rfl) ?_
  refine lv_iconst (v := 0) S.1 S.2.1 dX12_cell_1 (by decide) ?_
  refine r_put S hK hP hD hS 0 11 rfl rfl inX12 0 (by decide) tyX12 tyX12_ok nmX12 kw_1510 (v := .int 0) rfl rfl rfl (Nat.le_of_ble_eq_true rfl) dX12_cell_2 (fun H locs hP hD hS => ?_)
  have hP : va_P D vwCl [((q 0), .inr (11, (mO q 0 0 0 0 0 0 0 0 (-1) 1 0 0 0 0 0 0 0 0 0))), ((q 36), .inl (cy 0, 96, .inl (fun _ => 500))), ((q 37), .inl (cy 1, 96, .inl (fun _ => 1)))] H := hP
  have hD : va_D A [((q 0), .inr (11, (mO q 0 0 0 0 0 0 0 0 (-1) 1 0 0 0 0 0 0 0 0 0))), ((q 36), .inl (cy 0, 96, .inl (fun _ => 500))), ((q 37), .inl (cy 1, 96, .inl (fun _ => 1)))] := hD
  refine lv_iload_n S.1 S.2.1 dX12_cell_5 rfl (lv_at hl 1 rfl) ?_
  refine lv_iload_n S.1 S.2.1 dX12_cell_6 rfl (lv_at hl 2 rfl) ?_
  refine call_ri (runS_R (wc := []) (As := [.int p0, .int p1]) (rest := []) S (kX12_isCell l D cy p0 p1 z0 h0 z1 h1) hK hP [] rfl kw_1903 kw_1904 kw_152 kw_1905 okX12_isCell rfl (by decide) hl.1 rfl (Nat.le_of_ble_eq_true rfl) dX12_cell_7 (by decide)) (fun v7 w7 => ?_)
  rcases w7 with ⟨rfl, w7_0_0⟩ | ⟨rfl, w7_1_0⟩
  · refine r_if_eq S 1 rfl dX12_cell_10 (tgt := 24) (by decide) (fun c => absurd c (by decide)) (fun _ => ?_)
    refine lv_iload_n S.1 S.2.1 dX12_cell_13 rfl (lv_at hl 3 rfl) ?_
    refine lv_iconst (v := 0) S.1 S.2.1 dX12_cell_14 (by decide) ?_
    refine lv_sipush (v := 999) S.1 S.2.1 dX12_cell_15 (by decide) ?_
    refine call_ri (runS_R (wc := []) (As := [.int p2, .int 0, .int 999]) (rest := []) S (kX12_within l D cy p2 0 999 z2 h2 0 rfl 999 rfl) hK hP [] rfl kw_1892 kw_1893 kw_152 kw_1894 okX12_within rfl (by decide) hl.1 rfl (Nat.le_of_ble_eq_true rfl) dX12_cell_18 (by decide)) (fun v18 w18 => ?_)
    rcases w18 with ⟨rfl, w18_0_0⟩ | ⟨rfl, w18_1_0⟩
    · refine r_if_ne S 1 rfl dX12_cell_21 (tgt := 26) (by decide) (fun _ => ?_) (fun c => absurd c (by decide))
      refine lv_aload_n S.1 S.2.1 dX12_cell_26 rfl (lv_at hl 0 rfl) ?_
      refine r_get S hK hP 0 11 rfl rfl inX12 36 (by decide) kw_1546 (v := .ref (q 36)) rfl dX12_cell_27 ?_
      refine lv_bipush (v := 12) S.1 S.2.1 dX12_cell_30 (by decide) ?_
      refine lv_iload_n S.1 S.2.1 dX12_cell_32 rfl (lv_at hl 2 rfl) ?_
      refine r_imul S dX12_cell_33 (v := (12 * p1)) rfl ?_
      refine lv_iload_n S.1 S.2.1 dX12_cell_34 rfl (lv_at hl 1 rfl) ?_
      refine r_iadd S dX12_cell_35 (v := ((12 * p1) + p0)) rfl ?_
      refine lv_iload_n S.1 S.2.1 dX12_cell_36 rfl (lv_at hl 3 rfl) ?_
      obtain ⟨j37_1, hj37_1, qj37_1, zj37_1⟩ := i_nat 96 (zadd (x := (12 * p1)) (y := p0) (X := (12 * z1)) (Y := z0) (zmul (x := 12) (y := p1) (X := 12) (Y := z1) rfl h1 (by omega) (by omega)) h0 (by omega) (by omega)) (by omega) (by omega)
      refine r_iast S hK hP hD hS 1 0 rfl rfl (j37_1) qj37_1 hj37_1 (by decide) dX12_cell_37 (fun H locs hP hD hS => ?_)
      have hP : va_P D vwCl [((q 0), .inr (11, (mO q 0 0 0 0 0 0 0 0 (-1) 1 0 0 0 0 0 0 0 0 0))), ((q 36), .inl (cy 0, 96, .inl (upd (fun _ => 500) (j37_1) p2))), ((q 37), .inl (cy 1, 96, .inl (fun _ => 1)))] H := hP
      have hD : va_D A [((q 0), .inr (11, (mO q 0 0 0 0 0 0 0 0 (-1) 1 0 0 0 0 0 0 0 0 0))), ((q 36), .inl (cy 0, 96, .inl (upd (fun _ => 500) (j37_1) p2))), ((q 37), .inl (cy 1, 96, .inl (fun _ => 1)))] := hD
      refine lv_aload_n S.1 S.2.1 dX12_cell_38 rfl (lv_at hl 0 rfl) ?_
      refine r_get S hK hP 0 11 rfl rfl inX12 37 (by decide) kw_1547 (v := .ref (q 37)) rfl dX12_cell_39 ?_
      refine lv_bipush (v := 12) S.1 S.2.1 dX12_cell_42 (by decide) ?_
      refine lv_iload_n S.1 S.2.1 dX12_cell_44 rfl (lv_at hl 2 rfl) ?_
      refine r_imul S dX12_cell_45 (v := (12 * p1)) rfl ?_
      refine lv_iload_n S.1 S.2.1 dX12_cell_46 rfl (lv_at hl 1 rfl) ?_
      refine r_iadd S dX12_cell_47 (v := ((12 * p1) + p0)) rfl ?_
      refine lv_iload S.1 S.2.1 dX12_cell_48 (lv_at hl 4 rfl) ?_
      obtain ⟨j50_2, hj50_2, qj50_2, zj50_2⟩ := i_nat 96 (zadd (x := (12 * p1)) (y := p0) (X := (12 * z1)) (Y := z0) (zmul (x := 12) (y := p1) (X := 12) (Y := z1) rfl h1 (by omega) (by omega)) h0 (by omega) (by omega)) (by omega) (by omega)
      refine r_zast S hK hP hD hS 2 1 rfl rfl (j50_2) qj50_2 hj50_2 (by decide) dX12_cell_50 (fun H locs hP hD hS => ?_)
      have hP : va_P D vwCl [((q 0), .inr (11, (mO q 0 0 0 0 0 0 0 0 (-1) 1 0 0 0 0 0 0 0 0 0))), ((q 36), .inl (cy 0, 96, .inl (upd (fun _ => 500) (j37_1) p2))), ((q 37), .inl (cy 1, 96, .inl (upd (fun _ => 1) (j50_2) (vp_nar .boolean p3))))] H := hP
      have hD : va_D A [((q 0), .inr (11, (mO q 0 0 0 0 0 0 0 0 (-1) 1 0 0 0 0 0 0 0 0 0))), ((q 36), .inl (cy 0, 96, .inl (upd (fun _ => 500) (j37_1) p2))), ((q 37), .inl (cy 1, 96, .inl (upd (fun _ => 1) (j50_2) (vp_nar .boolean p3))))] := hD
      refine lv_aload_n S.1 S.2.1 dX12_cell_51 rfl (lv_at hl 0 rfl) ?_
      refine lv_iconst (v := 1) S.1 S.2.1 dX12_cell_52 (by decide) ?_
      refine r_put S hK hP hD hS 0 11 rfl rfl inX12 35 (by decide) tyX12 tyX12_ok nmX12 kw_1545 (v := .int 1) rfl (by decide) (by decide) (Nat.le_of_ble_eq_true rfl) dX12_cell_53 (fun H locs hP hD hS => ?_)
      have hP : va_P D vwCl [((q 0), .inr (11, (mO q 0 0 0 0 0 0 0 0 (-1) 1 0 0 0 0 0 0 0 0 0))), ((q 36), .inl (cy 0, 96, .inl (upd (fun _ => 500) (j37_1) p2))), ((q 37), .inl (cy 1, 96, .inl (upd (fun _ => 1) (j50_2) (vp_nar .boolean p3))))] H := hP
      have hD : va_D A [((q 0), .inr (11, (mO q 0 0 0 0 0 0 0 0 (-1) 1 0 0 0 0 0 0 0 0 0))), ((q 36), .inl (cy 0, 96, .inl (upd (fun _ => 500) (j37_1) p2))), ((q 37), .inl (cy 1, 96, .inl (upd (fun _ => 1) (j50_2) (vp_nar .boolean p3))))] := hD
      refine lv_iconst (v := 1) S.1 S.2.1 dX12_cell_56 (by decide) ?_
      exact ci_ret (u := ()) S hr hlk (by decide) hK (hP.sub [] rfl) (hD.sub [] (by decide) rfl) hS (Or.inl ⟨rfl, (by omega)⟩) (by decide) (by decide) dX12_cell_57
    · refine r_if_ne S 0 rfl dX12_cell_21 (tgt := 26) (by decide) (fun c => absurd c (by decide)) (fun _ => ?_)
      refine lv_iconst (v := 0) S.1 S.2.1 dX12_cell_24 (by decide) ?_
      exact ci_ret (u := ()) S hr hlk (by decide) hK (hP.sub [] rfl) (hD.sub [] (by decide) rfl) hS (Or.inr (⟨rfl, (by omega)⟩)) (by decide) (by decide) dX12_cell_25
  · refine r_if_eq S 0 rfl dX12_cell_10 (tgt := 24) (by decide) (fun _ => ?_) (fun c => absurd c (by decide))
    refine lv_iconst (v := 0) S.1 S.2.1 dX12_cell_24 (by decide) ?_
    exact ci_ret (u := ()) S hr hlk (by decide) hK (hP.sub [] rfl) (hD.sub [] (by decide) rfl) hS (Or.inr (⟨rfl, (by omega)⟩)) (by decide) (by decide) dX12_cell_25
set_option maxHeartbeats 4000000 in
set_option maxRecDepth 100000 in
theorem kX11_sight (l : Launch) (D : va_G) (cy : Nat → ClassId) (x : Nat → Nat) (p0 : Int32) (p1 : Int32) (p2 : Int32) (p3 : Int32) (p4 : Int32) (p5 : Int32) (z0 : Int) (h0 : p0.toInt = z0) (z1 : Int) (h1 : p1.toInt = z1) (z2 : Int) (h2 : p2.toInt = z2) (z3 : Int) (h3 : p3.toInt = z3) (z4 : Int) (h4 : p4.toInt = z4) (z5 : Int) (h5 : p5.toInt = z5) : CI l D cy yX11_sight cX11_sight 10 (some .int) 2 46 1 19 [.ref (x 0), .int p0, .int p1, .int p2, .int p3, .int p4, .int p5] [((x 0), .inr (10, [.int 0, .int (-1), .ref (x 1), .ref (x 9), .int 0, .ref (x 10), .ref (x 13), .ref (x 16), .ref (x 29), .int 0, .int 0, .ref (x 30), .int 0, .ref (x 31), .ref (x 42), .int 0, .int 0, .null, .ref (x 43)])), ((x 1), .inr (2, [.ref (x 2), .ref (x 3), .ref (x 4), .ref (x 5), .ref (x 6), .int 0, .ref (x 7), .ref (x 8), .int 0])), ((x 3), .inl (cy 1, 96, .inl (fun _ => 0))), ((x 9), .inl (cy 4, 40, .inr (.inr (.inr (.inr (fun _ => none))))))] (fun (v : Int32) (u : Unit) => (v = 0 ∧ ((0 ≤ z0 ∧ z0 ≤ 4 ∧ 0 ≤ z1 ∧ z1 ≤ 11 ∧ 0 ≤ z2 ∧ z2 ≤ 7 ∧ 0 ≤ z3 ∧ z3 ≤ 999 ∧ (z0 ≤ 1 → z3 = 0) ∧ 0 ≤ z4 ∧ z4 ≤ 5 ∧ 0 ≤ z5 ∧ z5 ≤ 9999))) ∨ (v = (-1) ∧ (¬ (0 ≤ z0 ∧ z0 ≤ 4 ∧ 0 ≤ z1 ∧ z1 ≤ 11 ∧ 0 ≤ z2 ∧ z2 ≤ 7 ∧ 0 ≤ z3 ∧ z3 ≤ 999 ∧ (z0 ≤ 1 → z3 = 0) ∧ 0 ≤ z4 ∧ z4 ≤ 5 ∧ 0 ≤ z5 ∧ z5 ≤ 9999)))) (fun (u : Unit) => []) := by
  refine ci_go (by decide) (Nat.le_of_ble_eq_true rfl) (fun p e s m below meth c ls A hA S hr hlk hnm hP hK hD hl => ?_)
  have hS : va_S A s.heap s.heap [] := va_S.rf
  have hl : lv_has ls 10 [(0, .ref (x 0)), (1, .int p0), (2, .int p1), (3, .int p2), (4, .int p3), (5, .int p4), (6, .int p5)] := hl
  refine lv_iload_n S.1 S.2.1 dX11_sight_0 rfl (lv_at hl 2 rfl) ?_
  refine lv_iload_n S.1 S.2.1 dX11_sight_1 rfl (lv_at hl 3 rfl) ?_
  refine call_ri (runS_R (wc := []) (As := [.int p1, .int p2]) (rest := []) S (kX11_cellAt l D cy p1 p2 z1 h1 z2 h2) hK hP [] rfl kw_538 kw_539 kw_144 kw_540 okX11_cellAt rfl (by decide) hl.1 rfl (Nat.le_of_ble_eq_true rfl) dX11_sight_2 (by decide)) (fun v2 w2 => ?_)
  rcases w2 with ⟨rfl, w2_0_0⟩ | ⟨cx_2, cl_2, rfl, w2_1_0, w2_1_1, w2_1_2, w2_1_3⟩
  · refine lv_istore (lv' := [(7, .int (-1)), (0, .ref (x 0)), (1, .int p0), (2, .int p1), (3, .int p2), (4, .int p3), (5, .int p4), (6, .int p5)]) S.1 S.2.1 dX11_sight_5 hl (by decide) rfl (fun ls hl => ?_)
    refine lv_iload S.1 S.2.1 dX11_sight_7 (lv_at hl 0 rfl) ?_
    refine lv_iconst (v := (-1)) S.1 S.2.1 dX11_sight_9 (by decide) ?_
    refine r_icmp_eq S (-1) (-1) rfl rfl dX11_sight_10 (tgt := 31) (by decide) (fun _ => ?_) (fun c => absurd c (by decide))
    refine lv_iconst (v := (-1)) S.1 S.2.1 dX11_sight_31 (by decide) ?_
    exact ci_ret (u := ()) S hr hlk rfl hK (hP.sub [] rfl) (hD.sub [] (by decide) rfl) hS (Or.inr (⟨rfl, (by omega)⟩)) (by decide) (by decide) dX11_sight_32
  · refine lv_istore (lv' := [(7, .int (nI (12 * cl_2 + cx_2))), (0, .ref (x 0)), (1, .int p0), (2, .int p1), (3, .int p2), (4, .int p3), (5, .int p4), (6, .int p5)]) S.1 S.2.1 dX11_sight_5 hl (by decide) rfl (fun ls hl => ?_)
    refine lv_iload S.1 S.2.1 dX11_sight_7 (lv_at hl 0 rfl) ?_
    refine lv_iconst (v := (-1)) S.1 S.2.1 dX11_sight_9 (by decide) ?_
    refine r_icmp_eq S ((12 * cl_2 + cx_2 : Nat) : Int) (-1) (nI_toInt (by omega)) rfl dX11_sight_10 (tgt := 31) (by decide) (fun c => absurd c (by omega)) (fun _ => ?_)
    refine lv_iload_n S.1 S.2.1 dX11_sight_13 rfl (lv_at hl 2 rfl) ?_
    refine r_if_lt S z0 h0 dX11_sight_14 (tgt := 31) (by decide) (fun e_14_1 => ?_) (fun e_14_1 => ?_)
    · refine lv_iconst (v := (-1)) S.1 S.2.1 dX11_sight_31 (by decide) ?_
      exact ci_ret (u := ()) S hr hlk rfl hK (hP.sub [] rfl) (hD.sub [] (by decide) rfl) hS (Or.inr (⟨rfl, (by omega)⟩)) (by decide) (by decide) dX11_sight_32
    · refine lv_iload_n S.1 S.2.1 dX11_sight_17 rfl (lv_at hl 2 rfl) ?_
      refine lv_iconst (v := 4) S.1 S.2.1 dX11_sight_18 (by decide) ?_
      refine r_icmp_gt S z0 4 h0 rfl dX11_sight_19 (tgt := 31) (by decide) (fun e_19_2 => ?_) (fun e_19_2 => ?_)
      · refine lv_iconst (v := (-1)) S.1 S.2.1 dX11_sight_31 (by decide) ?_
        exact ci_ret (u := ()) S hr hlk rfl hK (hP.sub [] rfl) (hD.sub [] (by decide) rfl) hS (Or.inr (⟨rfl, (by omega)⟩)) (by decide) (by decide) dX11_sight_32
      · refine lv_aload_n S.1 S.2.1 dX11_sight_22 rfl (lv_at hl 1 rfl) ?_
        refine r_get S hK hP 0 10 rfl rfl inX11 4 (by decide) kw_472 (v := .int 0) rfl dX11_sight_23 ?_
        refine lv_bipush (v := 40) S.1 S.2.1 dX11_sight_26 (by decide) ?_
        refine r_icmp_lt S 0 40 rfl rfl dX11_sight_28 (tgt := 33) (by decide) (fun _ => ?_) (fun c => absurd c (by decide))
        refine lv_iload_n S.1 S.2.1 dX11_sight_33 rfl (lv_at hl 2 rfl) ?_
        refine r_if_eq S z0 h0 dX11_sight_34 (tgt := 42) (by decide) (fun e_34_3 => ?_) (fun e_34_3 => ?_)
        · refine lv_iconst (v := 0) S.1 S.2.1 dX11_sight_42 (by decide) ?_
          refine lv_goto (tgt := 49) S.1 S.2.1 dX11_sight_43 (by decide) ?_
          refine lv_istore (lv' := [(8, .int 0), (7, .int (nI (12 * cl_2 + cx_2))), (0, .ref (x 0)), (1, .int p0), (2, .int p1), (3, .int p2), (4, .int p3), (5, .int p4), (6, .int p5)]) S.1 S.2.1 dX11_sight_49 hl (by decide) rfl (fun ls hl => ?_)
          refine lv_iload S.1 S.2.1 dX11_sight_51 (lv_at hl 6 rfl) ?_
          refine r_if_lt S z3 h3 dX11_sight_53 (tgt := 88) (by decide) (fun e_53_4 => ?_) (fun e_53_4 => ?_)
          · refine lv_iconst (v := (-1)) S.1 S.2.1 dX11_sight_88 (by decide) ?_
            exact ci_ret (u := ()) S hr hlk rfl hK (hP.sub [] rfl) (hD.sub [] (by decide) rfl) hS (Or.inr (⟨rfl, (by omega)⟩)) (by decide) (by decide) dX11_sight_89
          · refine lv_iload S.1 S.2.1 dX11_sight_56 (lv_at hl 6 rfl) ?_
            refine lv_iload S.1 S.2.1 dX11_sight_58 (lv_at hl 0 rfl) ?_
            refine r_icmp_gt S z3 0 h3 rfl dX11_sight_60 (tgt := 88) (by decide) (fun e_60_5 => ?_) (fun e_60_5 => ?_)
            · refine lv_iconst (v := (-1)) S.1 S.2.1 dX11_sight_88 (by decide) ?_
              exact ci_ret (u := ()) S hr hlk rfl hK (hP.sub [] rfl) (hD.sub [] (by decide) rfl) hS (Or.inr (⟨rfl, (by omega)⟩)) (by decide) (by decide) dX11_sight_89
            · refine lv_iload S.1 S.2.1 dX11_sight_63 (lv_at hl 7 rfl) ?_
              refine r_if_lt S z4 h4 dX11_sight_65 (tgt := 88) (by decide) (fun e_65_6 => ?_) (fun e_65_6 => ?_)
              · refine lv_iconst (v := (-1)) S.1 S.2.1 dX11_sight_88 (by decide) ?_
                exact ci_ret (u := ()) S hr hlk rfl hK (hP.sub [] rfl) (hD.sub [] (by decide) rfl) hS (Or.inr (⟨rfl, (by omega)⟩)) (by decide) (by decide) dX11_sight_89
              · refine lv_iload S.1 S.2.1 dX11_sight_68 (lv_at hl 7 rfl) ?_
                refine lv_bipush (v := 6) S.1 S.2.1 dX11_sight_70 (by decide) ?_
                refine r_icmp_ge S z4 6 h4 rfl dX11_sight_72 (tgt := 88) (by decide) (fun e_72_7 => ?_) (fun e_72_7 => ?_)
                · refine lv_iconst (v := (-1)) S.1 S.2.1 dX11_sight_88 (by decide) ?_
                  exact ci_ret (u := ()) S hr hlk rfl hK (hP.sub [] rfl) (hD.sub [] (by decide) rfl) hS (Or.inr (⟨rfl, (by omega)⟩)) (by decide) (by decide) dX11_sight_89
                · refine lv_iload S.1 S.2.1 dX11_sight_75 (lv_at hl 8 rfl) ?_
                  refine r_if_lt S z5 h5 dX11_sight_77 (tgt := 88) (by decide) (fun e_77_8 => ?_) (fun e_77_8 => ?_)
                  · refine lv_iconst (v := (-1)) S.1 S.2.1 dX11_sight_88 (by decide) ?_
                    exact ci_ret (u := ()) S hr hlk rfl hK (hP.sub [] rfl) (hD.sub [] (by decide) rfl) hS (Or.inr (⟨rfl, (by omega)⟩)) (by decide) (by decide) dX11_sight_89
                  · refine lv_iload S.1 S.2.1 dX11_sight_80 (lv_at hl 8 rfl) ?_
                    refine lv_sipush (v := 9999) S.1 S.2.1 dX11_sight_82 (by decide) ?_
                    refine r_icmp_le S z5 9999 h5 rfl dX11_sight_85 (tgt := 90) (by decide) (fun e_85_9 => ?_) (fun e_85_9 => ?_)
                    · refine lv_iload_n S.1 S.2.1 dX11_sight_90 rfl (lv_at hl 3 rfl) ?_
                      refine r_if_ne S z0 h0 dX11_sight_91 (tgt := 109) (by decide) (fun e_91_10 => ?_) (fun e_91_10 => ?_)
                      · refine r_new S (ci := 8) inX8 tyX8 tyX8_ok kw_226 kw_553 kw_153 hK hP hD hS hA rfl (fs := [.int 0, .int 0, .int 0, .int 0, .int 0, .int 0, .int 0, .int 0, .int 0, .int 0, .int 0, .int 0, .int 0, .int 0, .int 0, .int 0, .int 0, .int 0, .int 0]) rfl (by decide) (by decide) dX11_sight_109 (fun a109_11 H hP hD hS => ?_)
                        have hP : va_P D vwCl [((x 0), .inr (10, [.int 0, .int (-1), .ref (x 1), .ref (x 9), .int 0, .ref (x 10), .ref (x 13), .ref (x 16), .ref (x 29), .int 0, .int 0, .ref (x 30), .int 0, .ref (x 31), .ref (x 42), .int 0, .int 0, .null, .ref (x 43)])), ((x 1), .inr (2, [.ref (x 2), .ref (x 3), .ref (x 4), .ref (x 5), .ref (x 6), .int 0, .ref (x 7), .ref (x 8), .int 0])), ((x 3), .inl (cy 1, 96, .inl (fun _ => 0))), ((x 9), .inl (cy 4, 40, .inr (.inr (.inr (.inr (fun _ => none)))))), (a109_11, .inr (8, [.int 0, .int 0, .int 0, .int 0, .int 0, .int 0, .int 0, .int 0, .int 0, .int 0, .int 0, .int 0, .int 0, .int 0, .int 0, .int 0, .int 0, .int 0, .int 0]))] H := hP
                        have hD : va_D A [((x 0), .inr (10, [.int 0, .int (-1), .ref (x 1), .ref (x 9), .int 0, .ref (x 10), .ref (x 13), .ref (x 16), .ref (x 29), .int 0, .int 0, .ref (x 30), .int 0, .ref (x 31), .ref (x 42), .int 0, .int 0, .null, .ref (x 43)])), ((x 1), .inr (2, [.ref (x 2), .ref (x 3), .ref (x 4), .ref (x 5), .ref (x 6), .int 0, .ref (x 7), .ref (x 8), .int 0])), ((x 3), .inl (cy 1, 96, .inl (fun _ => 0))), ((x 9), .inl (cy 4, 40, .inr (.inr (.inr (.inr (fun _ => none)))))), (a109_11, .inr (8, [.int 0, .int 0, .int 0, .int 0, .int 0, .int 0, .int 0, .int 0, .int 0, .int 0, .int 0, .int 0, .int 0, .int 0, .int 0, .int 0, .int 0, .int 0, .int 0]))] := hD
                        refine lv_dup S.1 S.2.1 dX11_sight_112 rfl ?_
                        refine lv_iload_n S.1 S.2.1 dX11_sight_113 rfl (lv_at hl 3 rfl) ?_
                        refine lv_iload S.1 S.2.1 dX11_sight_114 (lv_at hl 1 rfl) ?_
                        refine lv_iload S.1 S.2.1 dX11_sight_116 (lv_at hl 6 rfl) ?_
                        refine lv_iload S.1 S.2.1 dX11_sight_118 (lv_at hl 7 rfl) ?_
                        refine lv_iload S.1 S.2.1 dX11_sight_120 (lv_at hl 8 rfl) ?_
                        refine lv_aload_n S.1 S.2.1 dX11_sight_122 rfl (lv_at hl 2 rfl) ?_
                        refine r_get S hK hP 0 10 rfl rfl inX11 0 (by decide) kw_468 (v := .int 0) rfl dX11_sight_123 ?_
                        refine call_v (wr := [((x 0), .inr (10, [.int 0, .int (-1), .ref (x 1), .ref (x 9), .int 0, .ref (x 10), .ref (x 13), .ref (x 16), .ref (x 29), .int 0, .int 0, .ref (x 30), .int 0, .ref (x 31), .ref (x 42), .int 0, .int 0, .null, .ref (x 43)])), ((x 1), .inr (2, [.ref (x 2), .ref (x 3), .ref (x 4), .ref (x 5), .ref (x 6), .int 0, .ref (x 7), .ref (x 8), .int 0])), ((x 3), .inl (cy 1, 96, .inl (fun _ => 0))), ((x 9), .inl (cy 4, 40, .inr (.inr (.inr (.inr (fun _ => none))))))]) (runI_C (wc := [(a109_11, .inr (8, [.int 0, .int 0, .int 0, .int 0, .int 0, .int 0, .int 0, .int 0, .int 0, .int 0, .int 0, .int 0, .int 0, .int 0, .int 0, .int 0, .int 0, .int 0, .int 0]))]) (As := [.int p0, .int (nI (12 * cl_2 + cx_2)), .int p3, .int p4, .int p5, .int 0]) (rest := [.ref a109_11]) S (kX8_init l D cy a109_11 p0 (nI (12 * cl_2 + cx_2)) p3 p4 p5 0) hK hP hD [4] (by decide) rfl kw_554 kw_555 kw_153 kw_556 okX8_init rfl rfl (by decide) hl.1 rfl (Nat.le_of_ble_eq_true rfl) dX11_sight_126 (by decide)) hP hD hS hA [4] [0, 1, 2, 3] rfl rfl (by decide) (by decide) (fun u126 H locs w126 hP hD hS => ?_)
                        have hP : va_P D vwCl [((x 0), .inr (10, [.int 0, .int (-1), .ref (x 1), .ref (x 9), .int 0, .ref (x 10), .ref (x 13), .ref (x 16), .ref (x 29), .int 0, .int 0, .ref (x 30), .int 0, .ref (x 31), .ref (x 42), .int 0, .int 0, .null, .ref (x 43)])), ((x 1), .inr (2, [.ref (x 2), .ref (x 3), .ref (x 4), .ref (x 5), .ref (x 6), .int 0, .ref (x 7), .ref (x 8), .int 0])), ((x 3), .inl (cy 1, 96, .inl (fun _ => 0))), ((x 9), .inl (cy 4, 40, .inr (.inr (.inr (.inr (fun _ => none)))))), (a109_11, .inr (8, [.int p0, .int (nI (12 * cl_2 + cx_2)), .int p3, .int p4, .int p5, .int 0, .int (-1), .int (-1), .int (-1), .int 0, .int 0, .int (-1), .int 0, .int (-1), .int (-1), .int 0, .int 0, .int 0, .int 0]))] H := hP
                        have hD : va_D A [((x 0), .inr (10, [.int 0, .int (-1), .ref (x 1), .ref (x 9), .int 0, .ref (x 10), .ref (x 13), .ref (x 16), .ref (x 29), .int 0, .int 0, .ref (x 30), .int 0, .ref (x 31), .ref (x 42), .int 0, .int 0, .null, .ref (x 43)])), ((x 1), .inr (2, [.ref (x 2), .ref (x 3), .ref (x 4), .ref (x 5), .ref (x 6), .int 0, .ref (x 7), .ref (x 8), .int 0])), ((x 3), .inl (cy 1, 96, .inl (fun _ => 0))), ((x 9), .inl (cy 4, 40, .inr (.inr (.inr (.inr (fun _ => none)))))), (a109_11, .inr (8, [.int p0, .int (nI (12 * cl_2 + cx_2)), .int p3, .int p4, .int p5, .int 0, .int (-1), .int (-1), .int (-1), .int 0, .int 0, .int (-1), .int 0, .int (-1), .int (-1), .int 0, .int 0, .int 0, .int 0]))] := hD
                        refine lv_astore (lv' := [(9, .ref a109_11), (8, .int 0), (7, .int (nI (12 * cl_2 + cx_2))), (0, .ref (x 0)), (1, .int p0), (2, .int p1), (3, .int p2), (4, .int p3), (5, .int p4), (6, .int p5)]) S.1 S.2.1 dX11_sight_129 hl (by decide) rfl (fun ls hl => ?_)
                        refine lv_aload_n S.1 S.2.1 dX11_sight_131 rfl (lv_at hl 3 rfl) ?_
                        refine r_get S hK hP 0 10 rfl rfl inX11 3 (by decide) kw_471 (v := .ref (x 9)) rfl dX11_sight_132 ?_
                        refine lv_aload_n S.1 S.2.1 dX11_sight_135 rfl (lv_at hl 3 rfl) ?_
                        refine r_get S hK hP 0 10 rfl rfl inX11 4 (by decide) kw_472 (v := .int 0) rfl dX11_sight_136 ?_
                        refine lv_aload S.1 S.2.1 dX11_sight_139 (lv_at hl 0 rfl) ?_
                        refine r_aast S hK hP hD hS 3 4 4 8 rfl rfl rfl rfl (0) rfl (by decide) (by decide) dX11_sight_141 (fun H locs hP hD hS => ?_)
                        have hP : va_P D vwCl [((x 0), .inr (10, [.int 0, .int (-1), .ref (x 1), .ref (x 9), .int 0, .ref (x 10), .ref (x 13), .ref (x 16), .ref (x 29), .int 0, .int 0, .ref (x 30), .int 0, .ref (x 31), .ref (x 42), .int 0, .int 0, .null, .ref (x 43)])), ((x 1), .inr (2, [.ref (x 2), .ref (x 3), .ref (x 4), .ref (x 5), .ref (x 6), .int 0, .ref (x 7), .ref (x 8), .int 0])), ((x 3), .inl (cy 1, 96, .inl (fun _ => 0))), ((x 9), .inl (cy 4, 40, .inr (.inr (.inr (.inr (va_up (fun _ => none) (0) (some a109_11))))))), (a109_11, .inr (8, [.int p0, .int (nI (12 * cl_2 + cx_2)), .int p3, .int p4, .int p5, .int 0, .int (-1), .int (-1), .int (-1), .int 0, .int 0, .int (-1), .int 0, .int (-1), .int (-1), .int 0, .int 0, .int 0, .int 0]))] H := hP
                        have hD : va_D A [((x 0), .inr (10, [.int 0, .int (-1), .ref (x 1), .ref (x 9), .int 0, .ref (x 10), .ref (x 13), .ref (x 16), .ref (x 29), .int 0, .int 0, .ref (x 30), .int 0, .ref (x 31), .ref (x 42), .int 0, .int 0, .null, .ref (x 43)])), ((x 1), .inr (2, [.ref (x 2), .ref (x 3), .ref (x 4), .ref (x 5), .ref (x 6), .int 0, .ref (x 7), .ref (x 8), .int 0])), ((x 3), .inl (cy 1, 96, .inl (fun _ => 0))), ((x 9), .inl (cy 4, 40, .inr (.inr (.inr (.inr (va_up (fun _ => none) (0) (some a109_11))))))), (a109_11, .inr (8, [.int p0, .int (nI (12 * cl_2 + cx_2)), .int p3, .int p4, .int p5, .int 0, .int (-1), .int (-1), .int (-1), .int 0, .int 0, .int (-1), .int 0, .int (-1), .int (-1), .int 0, .int 0, .int 0, .int 0]))] := hD
                        refine lv_aload_n S.1 S.2.1 dX11_sight_142 rfl (lv_at hl 3 rfl) ?_
                        refine lv_iconst (v := 0) S.1 S.2.1 dX11_sight_143 (by decide) ?_
                        refine r_put S hK hP hD hS 0 10 rfl rfl inX11 15 (by decide) tyX11 tyX11_ok nmX11 kw_483 (v := .int 0) rfl (by decide) (by decide) (Nat.le_of_ble_eq_true rfl) dX11_sight_144 (fun H locs hP hD hS => ?_)
                        have hP : va_P D vwCl [((x 0), .inr (10, [.int 0, .int (-1), .ref (x 1), .ref (x 9), .int 0, .ref (x 10), .ref (x 13), .ref (x 16), .ref (x 29), .int 0, .int 0, .ref (x 30), .int 0, .ref (x 31), .ref (x 42), .int 0, .int 0, .null, .ref (x 43)])), ((x 1), .inr (2, [.ref (x 2), .ref (x 3), .ref (x 4), .ref (x 5), .ref (x 6), .int 0, .ref (x 7), .ref (x 8), .int 0])), ((x 3), .inl (cy 1, 96, .inl (fun _ => 0))), ((x 9), .inl (cy 4, 40, .inr (.inr (.inr (.inr (va_up (fun _ => none) (0) (some a109_11))))))), (a109_11, .inr (8, [.int p0, .int (nI (12 * cl_2 + cx_2)), .int p3, .int p4, .int p5, .int 0, .int (-1), .int (-1), .int (-1), .int 0, .int 0, .int (-1), .int 0, .int (-1), .int (-1), .int 0, .int 0, .int 0, .int 0]))] H := hP
                        have hD : va_D A [((x 0), .inr (10, [.int 0, .int (-1), .ref (x 1), .ref (x 9), .int 0, .ref (x 10), .ref (x 13), .ref (x 16), .ref (x 29), .int 0, .int 0, .ref (x 30), .int 0, .ref (x 31), .ref (x 42), .int 0, .int 0, .null, .ref (x 43)])), ((x 1), .inr (2, [.ref (x 2), .ref (x 3), .ref (x 4), .ref (x 5), .ref (x 6), .int 0, .ref (x 7), .ref (x 8), .int 0])), ((x 3), .inl (cy 1, 96, .inl (fun _ => 0))), ((x 9), .inl (cy 4, 40, .inr (.inr (.inr (.inr (va_up (fun _ => none) (0) (some a109_11))))))), (a109_11, .inr (8, [.int p0, .int (nI (12 * cl_2 + cx_2)), .int p3, .int p4, .int p5, .int 0, .int (-1), .int (-1), .int (-1), .int 0, .int 0, .int (-1), .int 0, .int (-1), .int (-1), .int 0, .int 0, .int 0, .int 0]))] := hD
                        refine lv_aload_n S.1 S.2.1 dX11_sight_147 rfl (lv_at hl 3 rfl) ?_
                        refine lv_dup S.1 S.2.1 dX11_sight_148 rfl ?_
                        refine r_get S hK hP 0 10 rfl rfl inX11 4 (by decide) kw_472 (v := .int 0) rfl dX11_sight_149 ?_
                        refine lv_dup_x1 S.1 S.2.1 dX11_sight_152 rfl rfl ?_
                        refine lv_iconst (v := 1) S.1 S.2.1 dX11_sight_153 (by decide) ?_
                        refine r_iadd S dX11_sight_154 (v := 1) (by decide) ?_
                        refine r_put S hK hP hD hS 0 10 rfl rfl inX11 4 (by decide) tyX11 tyX11_ok nmX11 kw_472 (v := .int 1) rfl rfl rfl (Nat.le_of_ble_eq_true rfl) dX11_sight_155 (fun H locs hP hD hS => ?_)
                        have hP : va_P D vwCl [((x 0), .inr (10, [.int 0, .int (-1), .ref (x 1), .ref (x 9), .int 1, .ref (x 10), .ref (x 13), .ref (x 16), .ref (x 29), .int 0, .int 0, .ref (x 30), .int 0, .ref (x 31), .ref (x 42), .int 0, .int 0, .null, .ref (x 43)])), ((x 1), .inr (2, [.ref (x 2), .ref (x 3), .ref (x 4), .ref (x 5), .ref (x 6), .int 0, .ref (x 7), .ref (x 8), .int 0])), ((x 3), .inl (cy 1, 96, .inl (fun _ => 0))), ((x 9), .inl (cy 4, 40, .inr (.inr (.inr (.inr (va_up (fun _ => none) (0) (some a109_11))))))), (a109_11, .inr (8, [.int p0, .int (nI (12 * cl_2 + cx_2)), .int p3, .int p4, .int p5, .int 0, .int (-1), .int (-1), .int (-1), .int 0, .int 0, .int (-1), .int 0, .int (-1), .int (-1), .int 0, .int 0, .int 0, .int 0]))] H := hP
                        have hD : va_D A [((x 0), .inr (10, [.int 0, .int (-1), .ref (x 1), .ref (x 9), .int 1, .ref (x 10), .ref (x 13), .ref (x 16), .ref (x 29), .int 0, .int 0, .ref (x 30), .int 0, .ref (x 31), .ref (x 42), .int 0, .int 0, .null, .ref (x 43)])), ((x 1), .inr (2, [.ref (x 2), .ref (x 3), .ref (x 4), .ref (x 5), .ref (x 6), .int 0, .ref (x 7), .ref (x 8), .int 0])), ((x 3), .inl (cy 1, 96, .inl (fun _ => 0))), ((x 9), .inl (cy 4, 40, .inr (.inr (.inr (.inr (va_up (fun _ => none) (0) (some a109_11))))))), (a109_11, .inr (8, [.int p0, .int (nI (12 * cl_2 + cx_2)), .int p3, .int p4, .int p5, .int 0, .int (-1), .int (-1), .int (-1), .int 0, .int 0, .int (-1), .int 0, .int (-1), .int (-1), .int 0, .int 0, .int 0, .int 0]))] := hD
                        exact ci_ret (u := ()) S hr hlk rfl hK (hP.sub [] rfl) (hD.sub [] (by decide) rfl) hS (Or.inl ⟨rfl, (by omega)⟩) (by decide) (by decide) dX11_sight_158
                      · refine lv_aload_n S.1 S.2.1 dX11_sight_94 rfl (lv_at hl 2 rfl) ?_
                        refine r_get S hK hP 0 10 rfl rfl inX11 2 (by decide) kw_470 (v := .ref (x 1)) rfl dX11_sight_95 ?_
                        refine r_get S hK hP 1 2 rfl rfl inX2 1 (by decide) kw_192 (v := .ref (x 3)) rfl dX11_sight_98 ?_
                        refine lv_iload S.1 S.2.1 dX11_sight_101 (lv_at hl 1 rfl) ?_
                        refine r_zald S hK hP 2 1 rfl rfl ((12 * cl_2 + cx_2)) rfl (by omega) (by decide) (v := 0) rfl dX11_sight_103 ?_
                        refine r_if_eq S 0 rfl dX11_sight_104 (tgt := 109) (by decide) (fun _ => ?_) (fun c => absurd c (by decide))
                        refine r_new S (ci := 8) inX8 tyX8 tyX8_ok kw_226 kw_553 kw_153 hK hP hD hS hA rfl (fs := [.int 0, .int 0, .int 0, .int 0, .int 0, .int 0, .int 0, .int 0, .int 0, .int 0, .int 0, .int 0, .int 0, .int 0, .int 0, .int 0, .int 0, .int 0, .int 0]) rfl (by decide) (by decide) dX11_sight_109 (fun a109_11 H hP hD hS => ?_)
                        have hP : va_P D vwCl [((x 0), .inr (10, [.int 0, .int (-1), .ref (x 1), .ref (x 9), .int 0, .ref (x 10), .ref (x 13), .ref (x 16), .ref (x 29), .int 0, .int 0, .ref (x 30), .int 0, .ref (x 31), .ref (x 42), .int 0, .int 0, .null, .ref (x 43)])), ((x 1), .inr (2, [.ref (x 2), .ref (x 3), .ref (x 4), .ref (x 5), .ref (x 6), .int 0, .ref (x 7), .ref (x 8), .int 0])), ((x 3), .inl (cy 1, 96, .inl (fun _ => 0))), ((x 9), .inl (cy 4, 40, .inr (.inr (.inr (.inr (fun _ => none)))))), (a109_11, .inr (8, [.int 0, .int 0, .int 0, .int 0, .int 0, .int 0, .int 0, .int 0, .int 0, .int 0, .int 0, .int 0, .int 0, .int 0, .int 0, .int 0, .int 0, .int 0, .int 0]))] H := hP
                        have hD : va_D A [((x 0), .inr (10, [.int 0, .int (-1), .ref (x 1), .ref (x 9), .int 0, .ref (x 10), .ref (x 13), .ref (x 16), .ref (x 29), .int 0, .int 0, .ref (x 30), .int 0, .ref (x 31), .ref (x 42), .int 0, .int 0, .null, .ref (x 43)])), ((x 1), .inr (2, [.ref (x 2), .ref (x 3), .ref (x 4), .ref (x 5), .ref (x 6), .int 0, .ref (x 7), .ref (x 8), .int 0])), ((x 3), .inl (cy 1, 96, .inl (fun _ => 0))), ((x 9), .inl (cy 4, 40, .inr (.inr (.inr (.inr (fun _ => none)))))), (a109_11, .inr (8, [.int 0, .int 0, .int 0, .int 0, .int 0, .int 0, .int 0, .int 0, .int 0, .int 0, .int 0, .int 0, .int 0, .int 0, .int 0, .int 0, .int 0, .int 0, .int 0]))] := hD
                        refine lv_dup S.1 S.2.1 dX11_sight_112 rfl ?_
                        refine lv_iload_n S.1 S.2.1 dX11_sight_113 rfl (lv_at hl 3 rfl) ?_
                        refine lv_iload S.1 S.2.1 dX11_sight_114 (lv_at hl 1 rfl) ?_
                        refine lv_iload S.1 S.2.1 dX11_sight_116 (lv_at hl 6 rfl) ?_
                        refine lv_iload S.1 S.2.1 dX11_sight_118 (lv_at hl 7 rfl) ?_
                        refine lv_iload S.1 S.2.1 dX11_sight_120 (lv_at hl 8 rfl) ?_
                        refine lv_aload_n S.1 S.2.1 dX11_sight_122 rfl (lv_at hl 2 rfl) ?_
                        refine r_get S hK hP 0 10 rfl rfl inX11 0 (by decide) kw_468 (v := .int 0) rfl dX11_sight_123 ?_
                        refine call_v (wr := [((x 0), .inr (10, [.int 0, .int (-1), .ref (x 1), .ref (x 9), .int 0, .ref (x 10), .ref (x 13), .ref (x 16), .ref (x 29), .int 0, .int 0, .ref (x 30), .int 0, .ref (x 31), .ref (x 42), .int 0, .int 0, .null, .ref (x 43)])), ((x 1), .inr (2, [.ref (x 2), .ref (x 3), .ref (x 4), .ref (x 5), .ref (x 6), .int 0, .ref (x 7), .ref (x 8), .int 0])), ((x 3), .inl (cy 1, 96, .inl (fun _ => 0))), ((x 9), .inl (cy 4, 40, .inr (.inr (.inr (.inr (fun _ => none))))))]) (runI_C (wc := [(a109_11, .inr (8, [.int 0, .int 0, .int 0, .int 0, .int 0, .int 0, .int 0, .int 0, .int 0, .int 0, .int 0, .int 0, .int 0, .int 0, .int 0, .int 0, .int 0, .int 0, .int 0]))]) (As := [.int p0, .int (nI (12 * cl_2 + cx_2)), .int p3, .int p4, .int p5, .int 0]) (rest := [.ref a109_11]) S (kX8_init l D cy a109_11 p0 (nI (12 * cl_2 + cx_2)) p3 p4 p5 0) hK hP hD [4] (by decide) rfl kw_554 kw_555 kw_153 kw_556 okX8_init rfl rfl (by decide) hl.1 rfl (Nat.le_of_ble_eq_true rfl) dX11_sight_126 (by decide)) hP hD hS hA [4] [0, 1, 2, 3] rfl rfl (by decide) (by decide) (fun u126 H locs w126 hP hD hS => ?_)
                        have hP : va_P D vwCl [((x 0), .inr (10, [.int 0, .int (-1), .ref (x 1), .ref (x 9), .int 0, .ref (x 10), .ref (x 13), .ref (x 16), .ref (x 29), .int 0, .int 0, .ref (x 30), .int 0, .ref (x 31), .ref (x 42), .int 0, .int 0, .null, .ref (x 43)])), ((x 1), .inr (2, [.ref (x 2), .ref (x 3), .ref (x 4), .ref (x 5), .ref (x 6), .int 0, .ref (x 7), .ref (x 8), .int 0])), ((x 3), .inl (cy 1, 96, .inl (fun _ => 0))), ((x 9), .inl (cy 4, 40, .inr (.inr (.inr (.inr (fun _ => none)))))), (a109_11, .inr (8, [.int p0, .int (nI (12 * cl_2 + cx_2)), .int p3, .int p4, .int p5, .int 0, .int (-1), .int (-1), .int (-1), .int 0, .int 0, .int (-1), .int 0, .int (-1), .int (-1), .int 0, .int 0, .int 0, .int 0]))] H := hP
                        have hD : va_D A [((x 0), .inr (10, [.int 0, .int (-1), .ref (x 1), .ref (x 9), .int 0, .ref (x 10), .ref (x 13), .ref (x 16), .ref (x 29), .int 0, .int 0, .ref (x 30), .int 0, .ref (x 31), .ref (x 42), .int 0, .int 0, .null, .ref (x 43)])), ((x 1), .inr (2, [.ref (x 2), .ref (x 3), .ref (x 4), .ref (x 5), .ref (x 6), .int 0, .ref (x 7), .ref (x 8), .int 0])), ((x 3), .inl (cy 1, 96, .inl (fun _ => 0))), ((x 9), .inl (cy 4, 40, .inr (.inr (.inr (.inr (fun _ => none)))))), (a109_11, .inr (8, [.int p0, .int (nI (12 * cl_2 + cx_2)), .int p3, .int p4, .int p5, .int 0, .int (-1), .int (-1), .int (-1), .int 0, .int 0, .int (-1), .int 0, .int (-1), .int (-1), .int 0, .int 0, .int 0, .int 0]))] := hD
                        refine lv_astore (lv' := [(9, .ref a109_11), (8, .int 0), (7, .int (nI (12 * cl_2 + cx_2))), (0, .ref (x 0)), (1, .int p0), (2, .int p1), (3, .int p2), (4, .int p3), (5, .int p4), (6, .int p5)]) S.1 S.2.1 dX11_sight_129 hl (by decide) rfl (fun ls hl => ?_)
                        refine lv_aload_n S.1 S.2.1 dX11_sight_131 rfl (lv_at hl 3 rfl) ?_
                        refine r_get S hK hP 0 10 rfl rfl inX11 3 (by decide) kw_471 (v := .ref (x 9)) rfl dX11_sight_132 ?_
                        refine lv_aload_n S.1 S.2.1 dX11_sight_135 rfl (lv_at hl 3 rfl) ?_
                        refine r_get S hK hP 0 10 rfl rfl inX11 4 (by decide) kw_472 (v := .int 0) rfl dX11_sight_136 ?_
                        refine lv_aload S.1 S.2.1 dX11_sight_139 (lv_at hl 0 rfl) ?_
                        refine r_aast S hK hP hD hS 3 4 4 8 rfl rfl rfl rfl (0) rfl (by decide) (by decide) dX11_sight_141 (fun H locs hP hD hS => ?_)
                        have hP : va_P D vwCl [((x 0), .inr (10, [.int 0, .int (-1), .ref (x 1), .ref (x 9), .int 0, .ref (x 10), .ref (x 13), .ref (x 16), .ref (x 29), .int 0, .int 0, .ref (x 30), .int 0, .ref (x 31), .ref (x 42), .int 0, .int 0, .null, .ref (x 43)])), ((x 1), .inr (2, [.ref (x 2), .ref (x 3), .ref (x 4), .ref (x 5), .ref (x 6), .int 0, .ref (x 7), .ref (x 8), .int 0])), ((x 3), .inl (cy 1, 96, .inl (fun _ => 0))), ((x 9), .inl (cy 4, 40, .inr (.inr (.inr (.inr (va_up (fun _ => none) (0) (some a109_11))))))), (a109_11, .inr (8, [.int p0, .int (nI (12 * cl_2 + cx_2)), .int p3, .int p4, .int p5, .int 0, .int (-1), .int (-1), .int (-1), .int 0, .int 0, .int (-1), .int 0, .int (-1), .int (-1), .int 0, .int 0, .int 0, .int 0]))] H := hP
                        have hD : va_D A [((x 0), .inr (10, [.int 0, .int (-1), .ref (x 1), .ref (x 9), .int 0, .ref (x 10), .ref (x 13), .ref (x 16), .ref (x 29), .int 0, .int 0, .ref (x 30), .int 0, .ref (x 31), .ref (x 42), .int 0, .int 0, .null, .ref (x 43)])), ((x 1), .inr (2, [.ref (x 2), .ref (x 3), .ref (x 4), .ref (x 5), .ref (x 6), .int 0, .ref (x 7), .ref (x 8), .int 0])), ((x 3), .inl (cy 1, 96, .inl (fun _ => 0))), ((x 9), .inl (cy 4, 40, .inr (.inr (.inr (.inr (va_up (fun _ => none) (0) (some a109_11))))))), (a109_11, .inr (8, [.int p0, .int (nI (12 * cl_2 + cx_2)), .int p3, .int p4, .int p5, .int 0, .int (-1), .int (-1), .int (-1), .int 0, .int 0, .int (-1), .int 0, .int (-1), .int (-1), .int 0, .int 0, .int 0, .int 0]))] := hD
                        refine lv_aload_n S.1 S.2.1 dX11_sight_142 rfl (lv_at hl 3 rfl) ?_
                        refine lv_iconst (v := 0) S.1 S.2.1 dX11_sight_143 (by decide) ?_
                        refine r_put S hK hP hD hS 0 10 rfl rfl inX11 15 (by decide) tyX11 tyX11_ok nmX11 kw_483 (v := .int 0) rfl (by decide) (by decide) (Nat.le_of_ble_eq_true rfl) dX11_sight_144 (fun H locs hP hD hS => ?_)
                        have hP : va_P D vwCl [((x 0), .inr (10, [.int 0, .int (-1), .ref (x 1), .ref (x 9), .int 0, .ref (x 10), .ref (x 13), .ref (x 16), .ref (x 29), .int 0, .int 0, .ref (x 30), .int 0, .ref (x 31), .ref (x 42), .int 0, .int 0, .null, .ref (x 43)])), ((x 1), .inr (2, [.ref (x 2), .ref (x 3), .ref (x 4), .ref (x 5), .ref (x 6), .int 0, .ref (x 7), .ref (x 8), .int 0])), ((x 3), .inl (cy 1, 96, .inl (fun _ => 0))), ((x 9), .inl (cy 4, 40, .inr (.inr (.inr (.inr (va_up (fun _ => none) (0) (some a109_11))))))), (a109_11, .inr (8, [.int p0, .int (nI (12 * cl_2 + cx_2)), .int p3, .int p4, .int p5, .int 0, .int (-1), .int (-1), .int (-1), .int 0, .int 0, .int (-1), .int 0, .int (-1), .int (-1), .int 0, .int 0, .int 0, .int 0]))] H := hP
                        have hD : va_D A [((x 0), .inr (10, [.int 0, .int (-1), .ref (x 1), .ref (x 9), .int 0, .ref (x 10), .ref (x 13), .ref (x 16), .ref (x 29), .int 0, .int 0, .ref (x 30), .int 0, .ref (x 31), .ref (x 42), .int 0, .int 0, .null, .ref (x 43)])), ((x 1), .inr (2, [.ref (x 2), .ref (x 3), .ref (x 4), .ref (x 5), .ref (x 6), .int 0, .ref (x 7), .ref (x 8), .int 0])), ((x 3), .inl (cy 1, 96, .inl (fun _ => 0))), ((x 9), .inl (cy 4, 40, .inr (.inr (.inr (.inr (va_up (fun _ => none) (0) (some a109_11))))))), (a109_11, .inr (8, [.int p0, .int (nI (12 * cl_2 + cx_2)), .int p3, .int p4, .int p5, .int 0, .int (-1), .int (-1), .int (-1), .int 0, .int 0, .int (-1), .int 0, .int (-1), .int (-1), .int 0, .int 0, .int 0, .int 0]))] := hD
                        refine lv_aload_n S.1 S.2.1 dX11_sight_147 rfl (lv_at hl 3 rfl) ?_
                        refine lv_dup S.1 S.2.1 dX11_sight_148 rfl ?_
                        refine r_get S hK hP 0 10 rfl rfl inX11 4 (by decide) kw_472 (v := .int 0) rfl dX11_sight_149 ?_
                        refine lv_dup_x1 S.1 S.2.1 dX11_sight_152 rfl rfl ?_
                        refine lv_iconst (v := 1) S.1 S.2.1 dX11_sight_153 (by decide) ?_
                        refine r_iadd S dX11_sight_154 (v := 1) (by decide) ?_
                        refine r_put S hK hP hD hS 0 10 rfl rfl inX11 4 (by decide) tyX11 tyX11_ok nmX11 kw_472 (v := .int 1) rfl rfl rfl (Nat.le_of_ble_eq_true rfl) dX11_sight_155 (fun H locs hP hD hS => ?_)
                        have hP : va_P D vwCl [((x 0), .inr (10, [.int 0, .int (-1), .ref (x 1), .ref (x 9), .int 1, .ref (x 10), .ref (x 13), .ref (x 16), .ref (x 29), .int 0, .int 0, .ref (x 30), .int 0, .ref (x 31), .ref (x 42), .int 0, .int 0, .null, .ref (x 43)])), ((x 1), .inr (2, [.ref (x 2), .ref (x 3), .ref (x 4), .ref (x 5), .ref (x 6), .int 0, .ref (x 7), .ref (x 8), .int 0])), ((x 3), .inl (cy 1, 96, .inl (fun _ => 0))), ((x 9), .inl (cy 4, 40, .inr (.inr (.inr (.inr (va_up (fun _ => none) (0) (some a109_11))))))), (a109_11, .inr (8, [.int p0, .int (nI (12 * cl_2 + cx_2)), .int p3, .int p4, .int p5, .int 0, .int (-1), .int (-1), .int (-1), .int 0, .int 0, .int (-1), .int 0, .int (-1), .int (-1), .int 0, .int 0, .int 0, .int 0]))] H := hP
                        have hD : va_D A [((x 0), .inr (10, [.int 0, .int (-1), .ref (x 1), .ref (x 9), .int 1, .ref (x 10), .ref (x 13), .ref (x 16), .ref (x 29), .int 0, .int 0, .ref (x 30), .int 0, .ref (x 31), .ref (x 42), .int 0, .int 0, .null, .ref (x 43)])), ((x 1), .inr (2, [.ref (x 2), .ref (x 3), .ref (x 4), .ref (x 5), .ref (x 6), .int 0, .ref (x 7), .ref (x 8), .int 0])), ((x 3), .inl (cy 1, 96, .inl (fun _ => 0))), ((x 9), .inl (cy 4, 40, .inr (.inr (.inr (.inr (va_up (fun _ => none) (0) (some a109_11))))))), (a109_11, .inr (8, [.int p0, .int (nI (12 * cl_2 + cx_2)), .int p3, .int p4, .int p5, .int 0, .int (-1), .int (-1), .int (-1), .int 0, .int 0, .int (-1), .int 0, .int (-1), .int (-1), .int 0, .int 0, .int 0, .int 0]))] := hD
                        exact ci_ret (u := ()) S hr hlk rfl hK (hP.sub [] rfl) (hD.sub [] (by decide) rfl) hS (Or.inl ⟨rfl, (by omega)⟩) (by decide) (by decide) dX11_sight_158
                    · refine lv_iconst (v := (-1)) S.1 S.2.1 dX11_sight_88 (by decide) ?_
                      exact ci_ret (u := ()) S hr hlk rfl hK (hP.sub [] rfl) (hD.sub [] (by decide) rfl) hS (Or.inr (⟨rfl, (by omega)⟩)) (by decide) (by decide) dX11_sight_89
        · refine lv_iload_n S.1 S.2.1 dX11_sight_37 rfl (lv_at hl 2 rfl) ?_
          refine lv_iconst (v := 1) S.1 S.2.1 dX11_sight_38 (by decide) ?_
          refine r_icmp_ne S z0 1 h0 rfl dX11_sight_39 (tgt := 46) (by decide) (fun e_39_4 => ?_) (fun e_39_4 => ?_)
          · refine lv_sipush (v := 999) S.1 S.2.1 dX11_sight_46 (by decide) ?_
            refine lv_istore (lv' := [(8, .int 999), (7, .int (nI (12 * cl_2 + cx_2))), (0, .ref (x 0)), (1, .int p0), (2, .int p1), (3, .int p2), (4, .int p3), (5, .int p4), (6, .int p5)]) S.1 S.2.1 dX11_sight_49 hl (by decide) rfl (fun ls hl => ?_)
            refine lv_iload S.1 S.2.1 dX11_sight_51 (lv_at hl 6 rfl) ?_
            refine r_if_lt S z3 h3 dX11_sight_53 (tgt := 88) (by decide) (fun e_53_5 => ?_) (fun e_53_5 => ?_)
            · refine lv_iconst (v := (-1)) S.1 S.2.1 dX11_sight_88 (by decide) ?_
              exact ci_ret (u := ()) S hr hlk rfl hK (hP.sub [] rfl) (hD.sub [] (by decide) rfl) hS (Or.inr (⟨rfl, (by omega)⟩)) (by decide) (by decide) dX11_sight_89
            · refine lv_iload S.1 S.2.1 dX11_sight_56 (lv_at hl 6 rfl) ?_
              refine lv_iload S.1 S.2.1 dX11_sight_58 (lv_at hl 0 rfl) ?_
              refine r_icmp_gt S z3 999 h3 rfl dX11_sight_60 (tgt := 88) (by decide) (fun e_60_6 => ?_) (fun e_60_6 => ?_)
              · refine lv_iconst (v := (-1)) S.1 S.2.1 dX11_sight_88 (by decide) ?_
                exact ci_ret (u := ()) S hr hlk rfl hK (hP.sub [] rfl) (hD.sub [] (by decide) rfl) hS (Or.inr (⟨rfl, (by omega)⟩)) (by decide) (by decide) dX11_sight_89
              · refine lv_iload S.1 S.2.1 dX11_sight_63 (lv_at hl 7 rfl) ?_
                refine r_if_lt S z4 h4 dX11_sight_65 (tgt := 88) (by decide) (fun e_65_7 => ?_) (fun e_65_7 => ?_)
                · refine lv_iconst (v := (-1)) S.1 S.2.1 dX11_sight_88 (by decide) ?_
                  exact ci_ret (u := ()) S hr hlk rfl hK (hP.sub [] rfl) (hD.sub [] (by decide) rfl) hS (Or.inr (⟨rfl, (by omega)⟩)) (by decide) (by decide) dX11_sight_89
                · refine lv_iload S.1 S.2.1 dX11_sight_68 (lv_at hl 7 rfl) ?_
                  refine lv_bipush (v := 6) S.1 S.2.1 dX11_sight_70 (by decide) ?_
                  refine r_icmp_ge S z4 6 h4 rfl dX11_sight_72 (tgt := 88) (by decide) (fun e_72_8 => ?_) (fun e_72_8 => ?_)
                  · refine lv_iconst (v := (-1)) S.1 S.2.1 dX11_sight_88 (by decide) ?_
                    exact ci_ret (u := ()) S hr hlk rfl hK (hP.sub [] rfl) (hD.sub [] (by decide) rfl) hS (Or.inr (⟨rfl, (by omega)⟩)) (by decide) (by decide) dX11_sight_89
                  · refine lv_iload S.1 S.2.1 dX11_sight_75 (lv_at hl 8 rfl) ?_
                    refine r_if_lt S z5 h5 dX11_sight_77 (tgt := 88) (by decide) (fun e_77_9 => ?_) (fun e_77_9 => ?_)
                    · refine lv_iconst (v := (-1)) S.1 S.2.1 dX11_sight_88 (by decide) ?_
                      exact ci_ret (u := ()) S hr hlk rfl hK (hP.sub [] rfl) (hD.sub [] (by decide) rfl) hS (Or.inr (⟨rfl, (by omega)⟩)) (by decide) (by decide) dX11_sight_89
                    · refine lv_iload S.1 S.2.1 dX11_sight_80 (lv_at hl 8 rfl) ?_
                      refine lv_sipush (v := 9999) S.1 S.2.1 dX11_sight_82 (by decide) ?_
                      refine r_icmp_le S z5 9999 h5 rfl dX11_sight_85 (tgt := 90) (by decide) (fun e_85_10 => ?_) (fun e_85_10 => ?_)
                      · refine lv_iload_n S.1 S.2.1 dX11_sight_90 rfl (lv_at hl 3 rfl) ?_
                        refine r_if_ne S z0 h0 dX11_sight_91 (tgt := 109) (by decide) (fun e_91_11 => ?_) (fun e_91_11 => ?_)
                        · refine r_new S (ci := 8) inX8 tyX8 tyX8_ok kw_226 kw_553 kw_153 hK hP hD hS hA rfl (fs := [.int 0, .int 0, .int 0, .int 0, .int 0, .int 0, .int 0, .int 0, .int 0, .int 0, .int 0, .int 0, .int 0, .int 0, .int 0, .int 0, .int 0, .int 0, .int 0]) rfl (by decide) (by decide) dX11_sight_109 (fun a109_12 H hP hD hS => ?_)
                          have hP : va_P D vwCl [((x 0), .inr (10, [.int 0, .int (-1), .ref (x 1), .ref (x 9), .int 0, .ref (x 10), .ref (x 13), .ref (x 16), .ref (x 29), .int 0, .int 0, .ref (x 30), .int 0, .ref (x 31), .ref (x 42), .int 0, .int 0, .null, .ref (x 43)])), ((x 1), .inr (2, [.ref (x 2), .ref (x 3), .ref (x 4), .ref (x 5), .ref (x 6), .int 0, .ref (x 7), .ref (x 8), .int 0])), ((x 3), .inl (cy 1, 96, .inl (fun _ => 0))), ((x 9), .inl (cy 4, 40, .inr (.inr (.inr (.inr (fun _ => none)))))), (a109_12, .inr (8, [.int 0, .int 0, .int 0, .int 0, .int 0, .int 0, .int 0, .int 0, .int 0, .int 0, .int 0, .int 0, .int 0, .int 0, .int 0, .int 0, .int 0, .int 0, .int 0]))] H := hP
                          have hD : va_D A [((x 0), .inr (10, [.int 0, .int (-1), .ref (x 1), .ref (x 9), .int 0, .ref (x 10), .ref (x 13), .ref (x 16), .ref (x 29), .int 0, .int 0, .ref (x 30), .int 0, .ref (x 31), .ref (x 42), .int 0, .int 0, .null, .ref (x 43)])), ((x 1), .inr (2, [.ref (x 2), .ref (x 3), .ref (x 4), .ref (x 5), .ref (x 6), .int 0, .ref (x 7), .ref (x 8), .int 0])), ((x 3), .inl (cy 1, 96, .inl (fun _ => 0))), ((x 9), .inl (cy 4, 40, .inr (.inr (.inr (.inr (fun _ => none)))))), (a109_12, .inr (8, [.int 0, .int 0, .int 0, .int 0, .int 0, .int 0, .int 0, .int 0, .int 0, .int 0, .int 0, .int 0, .int 0, .int 0, .int 0, .int 0, .int 0, .int 0, .int 0]))] := hD
                          refine lv_dup S.1 S.2.1 dX11_sight_112 rfl ?_
                          refine lv_iload_n S.1 S.2.1 dX11_sight_113 rfl (lv_at hl 3 rfl) ?_
                          refine lv_iload S.1 S.2.1 dX11_sight_114 (lv_at hl 1 rfl) ?_
                          refine lv_iload S.1 S.2.1 dX11_sight_116 (lv_at hl 6 rfl) ?_
                          refine lv_iload S.1 S.2.1 dX11_sight_118 (lv_at hl 7 rfl) ?_
                          refine lv_iload S.1 S.2.1 dX11_sight_120 (lv_at hl 8 rfl) ?_
                          refine lv_aload_n S.1 S.2.1 dX11_sight_122 rfl (lv_at hl 2 rfl) ?_
                          refine r_get S hK hP 0 10 rfl rfl inX11 0 (by decide) kw_468 (v := .int 0) rfl dX11_sight_123 ?_
                          refine call_v (wr := [((x 0), .inr (10, [.int 0, .int (-1), .ref (x 1), .ref (x 9), .int 0, .ref (x 10), .ref (x 13), .ref (x 16), .ref (x 29), .int 0, .int 0, .ref (x 30), .int 0, .ref (x 31), .ref (x 42), .int 0, .int 0, .null, .ref (x 43)])), ((x 1), .inr (2, [.ref (x 2), .ref (x 3), .ref (x 4), .ref (x 5), .ref (x 6), .int 0, .ref (x 7), .ref (x 8), .int 0])), ((x 3), .inl (cy 1, 96, .inl (fun _ => 0))), ((x 9), .inl (cy 4, 40, .inr (.inr (.inr (.inr (fun _ => none))))))]) (runI_C (wc := [(a109_12, .inr (8, [.int 0, .int 0, .int 0, .int 0, .int 0, .int 0, .int 0, .int 0, .int 0, .int 0, .int 0, .int 0, .int 0, .int 0, .int 0, .int 0, .int 0, .int 0, .int 0]))]) (As := [.int p0, .int (nI (12 * cl_2 + cx_2)), .int p3, .int p4, .int p5, .int 0]) (rest := [.ref a109_12]) S (kX8_init l D cy a109_12 p0 (nI (12 * cl_2 + cx_2)) p3 p4 p5 0) hK hP hD [4] (by decide) rfl kw_554 kw_555 kw_153 kw_556 okX8_init rfl rfl (by decide) hl.1 rfl (Nat.le_of_ble_eq_true rfl) dX11_sight_126 (by decide)) hP hD hS hA [4] [0, 1, 2, 3] rfl rfl (by decide) (by decide) (fun u126 H locs w126 hP hD hS => ?_)
                          have hP : va_P D vwCl [((x 0), .inr (10, [.int 0, .int (-1), .ref (x 1), .ref (x 9), .int 0, .ref (x 10), .ref (x 13), .ref (x 16), .ref (x 29), .int 0, .int 0, .ref (x 30), .int 0, .ref (x 31), .ref (x 42), .int 0, .int 0, .null, .ref (x 43)])), ((x 1), .inr (2, [.ref (x 2), .ref (x 3), .ref (x 4), .ref (x 5), .ref (x 6), .int 0, .ref (x 7), .ref (x 8), .int 0])), ((x 3), .inl (cy 1, 96, .inl (fun _ => 0))), ((x 9), .inl (cy 4, 40, .inr (.inr (.inr (.inr (fun _ => none)))))), (a109_12, .inr (8, [.int p0, .int (nI (12 * cl_2 + cx_2)), .int p3, .int p4, .int p5, .int 0, .int (-1), .int (-1), .int (-1), .int 0, .int 0, .int (-1), .int 0, .int (-1), .int (-1), .int 0, .int 0, .int 0, .int 0]))] H := hP
                          have hD : va_D A [((x 0), .inr (10, [.int 0, .int (-1), .ref (x 1), .ref (x 9), .int 0, .ref (x 10), .ref (x 13), .ref (x 16), .ref (x 29), .int 0, .int 0, .ref (x 30), .int 0, .ref (x 31), .ref (x 42), .int 0, .int 0, .null, .ref (x 43)])), ((x 1), .inr (2, [.ref (x 2), .ref (x 3), .ref (x 4), .ref (x 5), .ref (x 6), .int 0, .ref (x 7), .ref (x 8), .int 0])), ((x 3), .inl (cy 1, 96, .inl (fun _ => 0))), ((x 9), .inl (cy 4, 40, .inr (.inr (.inr (.inr (fun _ => none)))))), (a109_12, .inr (8, [.int p0, .int (nI (12 * cl_2 + cx_2)), .int p3, .int p4, .int p5, .int 0, .int (-1), .int (-1), .int (-1), .int 0, .int 0, .int (-1), .int 0, .int (-1), .int (-1), .int 0, .int 0, .int 0, .int 0]))] := hD
                          refine lv_astore (lv' := [(9, .ref a109_12), (8, .int 999), (7, .int (nI (12 * cl_2 + cx_2))), (0, .ref (x 0)), (1, .int p0), (2, .int p1), (3, .int p2), (4, .int p3), (5, .int p4), (6, .int p5)]) S.1 S.2.1 dX11_sight_129 hl (by decide) rfl (fun ls hl => ?_)
                          refine lv_aload_n S.1 S.2.1 dX11_sight_131 rfl (lv_at hl 3 rfl) ?_
                          refine r_get S hK hP 0 10 rfl rfl inX11 3 (by decide) kw_471 (v := .ref (x 9)) rfl dX11_sight_132 ?_
                          refine lv_aload_n S.1 S.2.1 dX11_sight_135 rfl (lv_at hl 3 rfl) ?_
                          refine r_get S hK hP 0 10 rfl rfl inX11 4 (by decide) kw_472 (v := .int 0) rfl dX11_sight_136 ?_
                          refine lv_aload S.1 S.2.1 dX11_sight_139 (lv_at hl 0 rfl) ?_
                          refine r_aast S hK hP hD hS 3 4 4 8 rfl rfl rfl rfl (0) rfl (by decide) (by decide) dX11_sight_141 (fun H locs hP hD hS => ?_)
                          have hP : va_P D vwCl [((x 0), .inr (10, [.int 0, .int (-1), .ref (x 1), .ref (x 9), .int 0, .ref (x 10), .ref (x 13), .ref (x 16), .ref (x 29), .int 0, .int 0, .ref (x 30), .int 0, .ref (x 31), .ref (x 42), .int 0, .int 0, .null, .ref (x 43)])), ((x 1), .inr (2, [.ref (x 2), .ref (x 3), .ref (x 4), .ref (x 5), .ref (x 6), .int 0, .ref (x 7), .ref (x 8), .int 0])), ((x 3), .inl (cy 1, 96, .inl (fun _ => 0))), ((x 9), .inl (cy 4, 40, .inr (.inr (.inr (.inr (va_up (fun _ => none) (0) (some a109_12))))))), (a109_12, .inr (8, [.int p0, .int (nI (12 * cl_2 + cx_2)), .int p3, .int p4, .int p5, .int 0, .int (-1), .int (-1), .int (-1), .int 0, .int 0, .int (-1), .int 0, .int (-1), .int (-1), .int 0, .int 0, .int 0, .int 0]))] H := hP
                          have hD : va_D A [((x 0), .inr (10, [.int 0, .int (-1), .ref (x 1), .ref (x 9), .int 0, .ref (x 10), .ref (x 13), .ref (x 16), .ref (x 29), .int 0, .int 0, .ref (x 30), .int 0, .ref (x 31), .ref (x 42), .int 0, .int 0, .null, .ref (x 43)])), ((x 1), .inr (2, [.ref (x 2), .ref (x 3), .ref (x 4), .ref (x 5), .ref (x 6), .int 0, .ref (x 7), .ref (x 8), .int 0])), ((x 3), .inl (cy 1, 96, .inl (fun _ => 0))), ((x 9), .inl (cy 4, 40, .inr (.inr (.inr (.inr (va_up (fun _ => none) (0) (some a109_12))))))), (a109_12, .inr (8, [.int p0, .int (nI (12 * cl_2 + cx_2)), .int p3, .int p4, .int p5, .int 0, .int (-1), .int (-1), .int (-1), .int 0, .int 0, .int (-1), .int 0, .int (-1), .int (-1), .int 0, .int 0, .int 0, .int 0]))] := hD
                          refine lv_aload_n S.1 S.2.1 dX11_sight_142 rfl (lv_at hl 3 rfl) ?_
                          refine lv_iconst (v := 0) S.1 S.2.1 dX11_sight_143 (by decide) ?_
                          refine r_put S hK hP hD hS 0 10 rfl rfl inX11 15 (by decide) tyX11 tyX11_ok nmX11 kw_483 (v := .int 0) rfl (by decide) (by decide) (Nat.le_of_ble_eq_true rfl) dX11_sight_144 (fun H locs hP hD hS => ?_)
                          have hP : va_P D vwCl [((x 0), .inr (10, [.int 0, .int (-1), .ref (x 1), .ref (x 9), .int 0, .ref (x 10), .ref (x 13), .ref (x 16), .ref (x 29), .int 0, .int 0, .ref (x 30), .int 0, .ref (x 31), .ref (x 42), .int 0, .int 0, .null, .ref (x 43)])), ((x 1), .inr (2, [.ref (x 2), .ref (x 3), .ref (x 4), .ref (x 5), .ref (x 6), .int 0, .ref (x 7), .ref (x 8), .int 0])), ((x 3), .inl (cy 1, 96, .inl (fun _ => 0))), ((x 9), .inl (cy 4, 40, .inr (.inr (.inr (.inr (va_up (fun _ => none) (0) (some a109_12))))))), (a109_12, .inr (8, [.int p0, .int (nI (12 * cl_2 + cx_2)), .int p3, .int p4, .int p5, .int 0, .int (-1), .int (-1), .int (-1), .int 0, .int 0, .int (-1), .int 0, .int (-1), .int (-1), .int 0, .int 0, .int 0, .int 0]))] H := hP
                          have hD : va_D A [((x 0), .inr (10, [.int 0, .int (-1), .ref (x 1), .ref (x 9), .int 0, .ref (x 10), .ref (x 13), .ref (x 16), .ref (x 29), .int 0, .int 0, .ref (x 30), .int 0, .ref (x 31), .ref (x 42), .int 0, .int 0, .null, .ref (x 43)])), ((x 1), .inr (2, [.ref (x 2), .ref (x 3), .ref (x 4), .ref (x 5), .ref (x 6), .int 0, .ref (x 7), .ref (x 8), .int 0])), ((x 3), .inl (cy 1, 96, .inl (fun _ => 0))), ((x 9), .inl (cy 4, 40, .inr (.inr (.inr (.inr (va_up (fun _ => none) (0) (some a109_12))))))), (a109_12, .inr (8, [.int p0, .int (nI (12 * cl_2 + cx_2)), .int p3, .int p4, .int p5, .int 0, .int (-1), .int (-1), .int (-1), .int 0, .int 0, .int (-1), .int 0, .int (-1), .int (-1), .int 0, .int 0, .int 0, .int 0]))] := hD
                          refine lv_aload_n S.1 S.2.1 dX11_sight_147 rfl (lv_at hl 3 rfl) ?_
                          refine lv_dup S.1 S.2.1 dX11_sight_148 rfl ?_
                          refine r_get S hK hP 0 10 rfl rfl inX11 4 (by decide) kw_472 (v := .int 0) rfl dX11_sight_149 ?_
                          refine lv_dup_x1 S.1 S.2.1 dX11_sight_152 rfl rfl ?_
                          refine lv_iconst (v := 1) S.1 S.2.1 dX11_sight_153 (by decide) ?_
                          refine r_iadd S dX11_sight_154 (v := 1) (by decide) ?_
                          refine r_put S hK hP hD hS 0 10 rfl rfl inX11 4 (by decide) tyX11 tyX11_ok nmX11 kw_472 (v := .int 1) rfl rfl rfl (Nat.le_of_ble_eq_true rfl) dX11_sight_155 (fun H locs hP hD hS => ?_)
                          have hP : va_P D vwCl [((x 0), .inr (10, [.int 0, .int (-1), .ref (x 1), .ref (x 9), .int 1, .ref (x 10), .ref (x 13), .ref (x 16), .ref (x 29), .int 0, .int 0, .ref (x 30), .int 0, .ref (x 31), .ref (x 42), .int 0, .int 0, .null, .ref (x 43)])), ((x 1), .inr (2, [.ref (x 2), .ref (x 3), .ref (x 4), .ref (x 5), .ref (x 6), .int 0, .ref (x 7), .ref (x 8), .int 0])), ((x 3), .inl (cy 1, 96, .inl (fun _ => 0))), ((x 9), .inl (cy 4, 40, .inr (.inr (.inr (.inr (va_up (fun _ => none) (0) (some a109_12))))))), (a109_12, .inr (8, [.int p0, .int (nI (12 * cl_2 + cx_2)), .int p3, .int p4, .int p5, .int 0, .int (-1), .int (-1), .int (-1), .int 0, .int 0, .int (-1), .int 0, .int (-1), .int (-1), .int 0, .int 0, .int 0, .int 0]))] H := hP
                          have hD : va_D A [((x 0), .inr (10, [.int 0, .int (-1), .ref (x 1), .ref (x 9), .int 1, .ref (x 10), .ref (x 13), .ref (x 16), .ref (x 29), .int 0, .int 0, .ref (x 30), .int 0, .ref (x 31), .ref (x 42), .int 0, .int 0, .null, .ref (x 43)])), ((x 1), .inr (2, [.ref (x 2), .ref (x 3), .ref (x 4), .ref (x 5), .ref (x 6), .int 0, .ref (x 7), .ref (x 8), .int 0])), ((x 3), .inl (cy 1, 96, .inl (fun _ => 0))), ((x 9), .inl (cy 4, 40, .inr (.inr (.inr (.inr (va_up (fun _ => none) (0) (some a109_12))))))), (a109_12, .inr (8, [.int p0, .int (nI (12 * cl_2 + cx_2)), .int p3, .int p4, .int p5, .int 0, .int (-1), .int (-1), .int (-1), .int 0, .int 0, .int (-1), .int 0, .int (-1), .int (-1), .int 0, .int 0, .int 0, .int 0]))] := hD
                          exact ci_ret (u := ()) S hr hlk rfl hK (hP.sub [] rfl) (hD.sub [] (by decide) rfl) hS (Or.inl ⟨rfl, (by omega)⟩) (by decide) (by decide) dX11_sight_158
                        · refine lv_aload_n S.1 S.2.1 dX11_sight_94 rfl (lv_at hl 2 rfl) ?_
                          refine r_get S hK hP 0 10 rfl rfl inX11 2 (by decide) kw_470 (v := .ref (x 1)) rfl dX11_sight_95 ?_
                          refine r_get S hK hP 1 2 rfl rfl inX2 1 (by decide) kw_192 (v := .ref (x 3)) rfl dX11_sight_98 ?_
                          refine lv_iload S.1 S.2.1 dX11_sight_101 (lv_at hl 1 rfl) ?_
                          refine r_zald S hK hP 2 1 rfl rfl ((12 * cl_2 + cx_2)) rfl (by omega) (by decide) (v := 0) rfl dX11_sight_103 ?_
                          refine r_if_eq S 0 rfl dX11_sight_104 (tgt := 109) (by decide) (fun _ => ?_) (fun c => absurd c (by decide))
                          refine r_new S (ci := 8) inX8 tyX8 tyX8_ok kw_226 kw_553 kw_153 hK hP hD hS hA rfl (fs := [.int 0, .int 0, .int 0, .int 0, .int 0, .int 0, .int 0, .int 0, .int 0, .int 0, .int 0, .int 0, .int 0, .int 0, .int 0, .int 0, .int 0, .int 0, .int 0]) rfl (by decide) (by decide) dX11_sight_109 (fun a109_12 H hP hD hS => ?_)
                          have hP : va_P D vwCl [((x 0), .inr (10, [.int 0, .int (-1), .ref (x 1), .ref (x 9), .int 0, .ref (x 10), .ref (x 13), .ref (x 16), .ref (x 29), .int 0, .int 0, .ref (x 30), .int 0, .ref (x 31), .ref (x 42), .int 0, .int 0, .null, .ref (x 43)])), ((x 1), .inr (2, [.ref (x 2), .ref (x 3), .ref (x 4), .ref (x 5), .ref (x 6), .int 0, .ref (x 7), .ref (x 8), .int 0])), ((x 3), .inl (cy 1, 96, .inl (fun _ => 0))), ((x 9), .inl (cy 4, 40, .inr (.inr (.inr (.inr (fun _ => none)))))), (a109_12, .inr (8, [.int 0, .int 0, .int 0, .int 0, .int 0, .int 0, .int 0, .int 0, .int 0, .int 0, .int 0, .int 0, .int 0, .int 0, .int 0, .int 0, .int 0, .int 0, .int 0]))] H := hP
                          have hD : va_D A [((x 0), .inr (10, [.int 0, .int (-1), .ref (x 1), .ref (x 9), .int 0, .ref (x 10), .ref (x 13), .ref (x 16), .ref (x 29), .int 0, .int 0, .ref (x 30), .int 0, .ref (x 31), .ref (x 42), .int 0, .int 0, .null, .ref (x 43)])), ((x 1), .inr (2, [.ref (x 2), .ref (x 3), .ref (x 4), .ref (x 5), .ref (x 6), .int 0, .ref (x 7), .ref (x 8), .int 0])), ((x 3), .inl (cy 1, 96, .inl (fun _ => 0))), ((x 9), .inl (cy 4, 40, .inr (.inr (.inr (.inr (fun _ => none)))))), (a109_12, .inr (8, [.int 0, .int 0, .int 0, .int 0, .int 0, .int 0, .int 0, .int 0, .int 0, .int 0, .int 0, .int 0, .int 0, .int 0, .int 0, .int 0, .int 0, .int 0, .int 0]))] := hD
                          refine lv_dup S.1 S.2.1 dX11_sight_112 rfl ?_
                          refine lv_iload_n S.1 S.2.1 dX11_sight_113 rfl (lv_at hl 3 rfl) ?_
                          refine lv_iload S.1 S.2.1 dX11_sight_114 (lv_at hl 1 rfl) ?_
                          refine lv_iload S.1 S.2.1 dX11_sight_116 (lv_at hl 6 rfl) ?_
                          refine lv_iload S.1 S.2.1 dX11_sight_118 (lv_at hl 7 rfl) ?_
                          refine lv_iload S.1 S.2.1 dX11_sight_120 (lv_at hl 8 rfl) ?_
                          refine lv_aload_n S.1 S.2.1 dX11_sight_122 rfl (lv_at hl 2 rfl) ?_
                          refine r_get S hK hP 0 10 rfl rfl inX11 0 (by decide) kw_468 (v := .int 0) rfl dX11_sight_123 ?_
                          refine call_v (wr := [((x 0), .inr (10, [.int 0, .int (-1), .ref (x 1), .ref (x 9), .int 0, .ref (x 10), .ref (x 13), .ref (x 16), .ref (x 29), .int 0, .int 0, .ref (x 30), .int 0, .ref (x 31), .ref (x 42), .int 0, .int 0, .null, .ref (x 43)])), ((x 1), .inr (2, [.ref (x 2), .ref (x 3), .ref (x 4), .ref (x 5), .ref (x 6), .int 0, .ref (x 7), .ref (x 8), .int 0])), ((x 3), .inl (cy 1, 96, .inl (fun _ => 0))), ((x 9), .inl (cy 4, 40, .inr (.inr (.inr (.inr (fun _ => none))))))]) (runI_C (wc := [(a109_12, .inr (8, [.int 0, .int 0, .int 0, .int 0, .int 0, .int 0, .int 0, .int 0, .int 0, .int 0, .int 0, .int 0, .int 0, .int 0, .int 0, .int 0, .int 0, .int 0, .int 0]))]) (As := [.int p0, .int (nI (12 * cl_2 + cx_2)), .int p3, .int p4, .int p5, .int 0]) (rest := [.ref a109_12]) S (kX8_init l D cy a109_12 p0 (nI (12 * cl_2 + cx_2)) p3 p4 p5 0) hK hP hD [4] (by decide) rfl kw_554 kw_555 kw_153 kw_556 okX8_init rfl rfl (by decide) hl.1 rfl (Nat.le_of_ble_eq_true rfl) dX11_sight_126 (by decide)) hP hD hS hA [4] [0, 1, 2, 3] rfl rfl (by decide) (by decide) (fun u126 H locs w126 hP hD hS => ?_)
                          have hP : va_P D vwCl [((x 0), .inr (10, [.int 0, .int (-1), .ref (x 1), .ref (x 9), .int 0, .ref (x 10), .ref (x 13), .ref (x 16), .ref (x 29), .int 0, .int 0, .ref (x 30), .int 0, .ref (x 31), .ref (x 42), .int 0, .int 0, .null, .ref (x 43)])), ((x 1), .inr (2, [.ref (x 2), .ref (x 3), .ref (x 4), .ref (x 5), .ref (x 6), .int 0, .ref (x 7), .ref (x 8), .int 0])), ((x 3), .inl (cy 1, 96, .inl (fun _ => 0))), ((x 9), .inl (cy 4, 40, .inr (.inr (.inr (.inr (fun _ => none)))))), (a109_12, .inr (8, [.int p0, .int (nI (12 * cl_2 + cx_2)), .int p3, .int p4, .int p5, .int 0, .int (-1), .int (-1), .int (-1), .int 0, .int 0, .int (-1), .int 0, .int (-1), .int (-1), .int 0, .int 0, .int 0, .int 0]))] H := hP
                          have hD : va_D A [((x 0), .inr (10, [.int 0, .int (-1), .ref (x 1), .ref (x 9), .int 0, .ref (x 10), .ref (x 13), .ref (x 16), .ref (x 29), .int 0, .int 0, .ref (x 30), .int 0, .ref (x 31), .ref (x 42), .int 0, .int 0, .null, .ref (x 43)])), ((x 1), .inr (2, [.ref (x 2), .ref (x 3), .ref (x 4), .ref (x 5), .ref (x 6), .int 0, .ref (x 7), .ref (x 8), .int 0])), ((x 3), .inl (cy 1, 96, .inl (fun _ => 0))), ((x 9), .inl (cy 4, 40, .inr (.inr (.inr (.inr (fun _ => none)))))), (a109_12, .inr (8, [.int p0, .int (nI (12 * cl_2 + cx_2)), .int p3, .int p4, .int p5, .int 0, .int (-1), .int (-1), .int (-1), .int 0, .int 0, .int (-1), .int 0, .int (-1), .int (-1), .int 0, .int 0, .int 0, .int 0]))] := hD
                          refine lv_astore (lv' := [(9, .ref a109_12), (8, .int 999), (7, .int (nI (12 * cl_2 + cx_2))), (0, .ref (x 0)), (1, .int p0), (2, .int p1), (3, .int p2), (4, .int p3), (5, .int p4), (6, .int p5)]) S.1 S.2.1 dX11_sight_129 hl (by decide) rfl (fun ls hl => ?_)
                          refine lv_aload_n S.1 S.2.1 dX11_sight_131 rfl (lv_at hl 3 rfl) ?_
                          refine r_get S hK hP 0 10 rfl rfl inX11 3 (by decide) kw_471 (v := .ref (x 9)) rfl dX11_sight_132 ?_
                          refine lv_aload_n S.1 S.2.1 dX11_sight_135 rfl (lv_at hl 3 rfl) ?_
                          refine r_get S hK hP 0 10 rfl rfl inX11 4 (by decide) kw_472 (v := .int 0) rfl dX11_sight_136 ?_
                          refine lv_aload S.1 S.2.1 dX11_sight_139 (lv_at hl 0 rfl) ?_
                          refine r_aast S hK hP hD hS 3 4 4 8 rfl rfl rfl rfl (0) rfl (by decide) (by decide) dX11_sight_141 (fun H locs hP hD hS => ?_)
                          have hP : va_P D vwCl [((x 0), .inr (10, [.int 0, .int (-1), .ref (x 1), .ref (x 9), .int 0, .ref (x 10), .ref (x 13), .ref (x 16), .ref (x 29), .int 0, .int 0, .ref (x 30), .int 0, .ref (x 31), .ref (x 42), .int 0, .int 0, .null, .ref (x 43)])), ((x 1), .inr (2, [.ref (x 2), .ref (x 3), .ref (x 4), .ref (x 5), .ref (x 6), .int 0, .ref (x 7), .ref (x 8), .int 0])), ((x 3), .inl (cy 1, 96, .inl (fun _ => 0))), ((x 9), .inl (cy 4, 40, .inr (.inr (.inr (.inr (va_up (fun _ => none) (0) (some a109_12))))))), (a109_12, .inr (8, [.int p0, .int (nI (12 * cl_2 + cx_2)), .int p3, .int p4, .int p5, .int 0, .int (-1), .int (-1), .int (-1), .int 0, .int 0, .int (-1), .int 0, .int (-1), .int (-1), .int 0, .int 0, .int 0, .int 0]))] H := hP
                          have hD : va_D A [((x 0), .inr (10, [.int 0, .int (-1), .ref (x 1), .ref (x 9), .int 0, .ref (x 10), .ref (x 13), .ref (x 16), .ref (x 29), .int 0, .int 0, .ref (x 30), .int 0, .ref (x 31), .ref (x 42), .int 0, .int 0, .null, .ref (x 43)])), ((x 1), .inr (2, [.ref (x 2), .ref (x 3), .ref (x 4), .ref (x 5), .ref (x 6), .int 0, .ref (x 7), .ref (x 8), .int 0])), ((x 3), .inl (cy 1, 96, .inl (fun _ => 0))), ((x 9), .inl (cy 4, 40, .inr (.inr (.inr (.inr (va_up (fun _ => none) (0) (some a109_12))))))), (a109_12, .inr (8, [.int p0, .int (nI (12 * cl_2 + cx_2)), .int p3, .int p4, .int p5, .int 0, .int (-1), .int (-1), .int (-1), .int 0, .int 0, .int (-1), .int 0, .int (-1), .int (-1), .int 0, .int 0, .int 0, .int 0]))] := hD
                          refine lv_aload_n S.1 S.2.1 dX11_sight_142 rfl (lv_at hl 3 rfl) ?_
                          refine lv_iconst (v := 0) S.1 S.2.1 dX11_sight_143 (by decide) ?_
                          refine r_put S hK hP hD hS 0 10 rfl rfl inX11 15 (by decide) tyX11 tyX11_ok nmX11 kw_483 (v := .int 0) rfl (by decide) (by decide) (Nat.le_of_ble_eq_true rfl) dX11_sight_144 (fun H locs hP hD hS => ?_)
                          have hP : va_P D vwCl [((x 0), .inr (10, [.int 0, .int (-1), .ref (x 1), .ref (x 9), .int 0, .ref (x 10), .ref (x 13), .ref (x 16), .ref (x 29), .int 0, .int 0, .ref (x 30), .int 0, .ref (x 31), .ref (x 42), .int 0, .int 0, .null, .ref (x 43)])), ((x 1), .inr (2, [.ref (x 2), .ref (x 3), .ref (x 4), .ref (x 5), .ref (x 6), .int 0, .ref (x 7), .ref (x 8), .int 0])), ((x 3), .inl (cy 1, 96, .inl (fun _ => 0))), ((x 9), .inl (cy 4, 40, .inr (.inr (.inr (.inr (va_up (fun _ => none) (0) (some a109_12))))))), (a109_12, .inr (8, [.int p0, .int (nI (12 * cl_2 + cx_2)), .int p3, .int p4, .int p5, .int 0, .int (-1), .int (-1), .int (-1), .int 0, .int 0, .int (-1), .int 0, .int (-1), .int (-1), .int 0, .int 0, .int 0, .int 0]))] H := hP
                          have hD : va_D A [((x 0), .inr (10, [.int 0, .int (-1), .ref (x 1), .ref (x 9), .int 0, .ref (x 10), .ref (x 13), .ref (x 16), .ref (x 29), .int 0, .int 0, .ref (x 30), .int 0, .ref (x 31), .ref (x 42), .int 0, .int 0, .null, .ref (x 43)])), ((x 1), .inr (2, [.ref (x 2), .ref (x 3), .ref (x 4), .ref (x 5), .ref (x 6), .int 0, .ref (x 7), .ref (x 8), .int 0])), ((x 3), .inl (cy 1, 96, .inl (fun _ => 0))), ((x 9), .inl (cy 4, 40, .inr (.inr (.inr (.inr (va_up (fun _ => none) (0) (some a109_12))))))), (a109_12, .inr (8, [.int p0, .int (nI (12 * cl_2 + cx_2)), .int p3, .int p4, .int p5, .int 0, .int (-1), .int (-1), .int (-1), .int 0, .int 0, .int (-1), .int 0, .int (-1), .int (-1), .int 0, .int 0, .int 0, .int 0]))] := hD
                          refine lv_aload_n S.1 S.2.1 dX11_sight_147 rfl (lv_at hl 3 rfl) ?_
                          refine lv_dup S.1 S.2.1 dX11_sight_148 rfl ?_
                          refine r_get S hK hP 0 10 rfl rfl inX11 4 (by decide) kw_472 (v := .int 0) rfl dX11_sight_149 ?_
                          refine lv_dup_x1 S.1 S.2.1 dX11_sight_152 rfl rfl ?_
                          refine lv_iconst (v := 1) S.1 S.2.1 dX11_sight_153 (by decide) ?_
                          refine r_iadd S dX11_sight_154 (v := 1) (by decide) ?_
                          refine r_put S hK hP hD hS 0 10 rfl rfl inX11 4 (by decide) tyX11 tyX11_ok nmX11 kw_472 (v := .int 1) rfl rfl rfl (Nat.le_of_ble_eq_true rfl) dX11_sight_155 (fun H locs hP hD hS => ?_)
                          have hP : va_P D vwCl [((x 0), .inr (10, [.int 0, .int (-1), .ref (x 1), .ref (x 9), .int 1, .ref (x 10), .ref (x 13), .ref (x 16), .ref (x 29), .int 0, .int 0, .ref (x 30), .int 0, .ref (x 31), .ref (x 42), .int 0, .int 0, .null, .ref (x 43)])), ((x 1), .inr (2, [.ref (x 2), .ref (x 3), .ref (x 4), .ref (x 5), .ref (x 6), .int 0, .ref (x 7), .ref (x 8), .int 0])), ((x 3), .inl (cy 1, 96, .inl (fun _ => 0))), ((x 9), .inl (cy 4, 40, .inr (.inr (.inr (.inr (va_up (fun _ => none) (0) (some a109_12))))))), (a109_12, .inr (8, [.int p0, .int (nI (12 * cl_2 + cx_2)), .int p3, .int p4, .int p5, .int 0, .int (-1), .int (-1), .int (-1), .int 0, .int 0, .int (-1), .int 0, .int (-1), .int (-1), .int 0, .int 0, .int 0, .int 0]))] H := hP
                          have hD : va_D A [((x 0), .inr (10, [.int 0, .int (-1), .ref (x 1), .ref (x 9), .int 1, .ref (x 10), .ref (x 13), .ref (x 16), .ref (x 29), .int 0, .int 0, .ref (x 30), .int 0, .ref (x 31), .ref (x 42), .int 0, .int 0, .null, .ref (x 43)])), ((x 1), .inr (2, [.ref (x 2), .ref (x 3), .ref (x 4), .ref (x 5), .ref (x 6), .int 0, .ref (x 7), .ref (x 8), .int 0])), ((x 3), .inl (cy 1, 96, .inl (fun _ => 0))), ((x 9), .inl (cy 4, 40, .inr (.inr (.inr (.inr (va_up (fun _ => none) (0) (some a109_12))))))), (a109_12, .inr (8, [.int p0, .int (nI (12 * cl_2 + cx_2)), .int p3, .int p4, .int p5, .int 0, .int (-1), .int (-1), .int (-1), .int 0, .int 0, .int (-1), .int 0, .int (-1), .int (-1), .int 0, .int 0, .int 0, .int 0]))] := hD
                          exact ci_ret (u := ()) S hr hlk rfl hK (hP.sub [] rfl) (hD.sub [] (by decide) rfl) hS (Or.inl ⟨rfl, (by omega)⟩) (by decide) (by decide) dX11_sight_158
                      · refine lv_iconst (v := (-1)) S.1 S.2.1 dX11_sight_88 (by decide) ?_
                        exact ci_ret (u := ()) S hr hlk rfl hK (hP.sub [] rfl) (hD.sub [] (by decide) rfl) hS (Or.inr (⟨rfl, (by omega)⟩)) (by decide) (by decide) dX11_sight_89
          · refine lv_iconst (v := 0) S.1 S.2.1 dX11_sight_42 (by decide) ?_
            refine lv_goto (tgt := 49) S.1 S.2.1 dX11_sight_43 (by decide) ?_
            refine lv_istore (lv' := [(8, .int 0), (7, .int (nI (12 * cl_2 + cx_2))), (0, .ref (x 0)), (1, .int p0), (2, .int p1), (3, .int p2), (4, .int p3), (5, .int p4), (6, .int p5)]) S.1 S.2.1 dX11_sight_49 hl (by decide) rfl (fun ls hl => ?_)
            refine lv_iload S.1 S.2.1 dX11_sight_51 (lv_at hl 6 rfl) ?_
            refine r_if_lt S z3 h3 dX11_sight_53 (tgt := 88) (by decide) (fun e_53_5 => ?_) (fun e_53_5 => ?_)
            · refine lv_iconst (v := (-1)) S.1 S.2.1 dX11_sight_88 (by decide) ?_
              exact ci_ret (u := ()) S hr hlk rfl hK (hP.sub [] rfl) (hD.sub [] (by decide) rfl) hS (Or.inr (⟨rfl, (by omega)⟩)) (by decide) (by decide) dX11_sight_89
            · refine lv_iload S.1 S.2.1 dX11_sight_56 (lv_at hl 6 rfl) ?_
              refine lv_iload S.1 S.2.1 dX11_sight_58 (lv_at hl 0 rfl) ?_
              refine r_icmp_gt S z3 0 h3 rfl dX11_sight_60 (tgt := 88) (by decide) (fun e_60_6 => ?_) (fun e_60_6 => ?_)
              · refine lv_iconst (v := (-1)) S.1 S.2.1 dX11_sight_88 (by decide) ?_
                exact ci_ret (u := ()) S hr hlk rfl hK (hP.sub [] rfl) (hD.sub [] (by decide) rfl) hS (Or.inr (⟨rfl, (by omega)⟩)) (by decide) (by decide) dX11_sight_89
              · refine lv_iload S.1 S.2.1 dX11_sight_63 (lv_at hl 7 rfl) ?_
                refine r_if_lt S z4 h4 dX11_sight_65 (tgt := 88) (by decide) (fun e_65_7 => ?_) (fun e_65_7 => ?_)
                · refine lv_iconst (v := (-1)) S.1 S.2.1 dX11_sight_88 (by decide) ?_
                  exact ci_ret (u := ()) S hr hlk rfl hK (hP.sub [] rfl) (hD.sub [] (by decide) rfl) hS (Or.inr (⟨rfl, (by omega)⟩)) (by decide) (by decide) dX11_sight_89
                · refine lv_iload S.1 S.2.1 dX11_sight_68 (lv_at hl 7 rfl) ?_
                  refine lv_bipush (v := 6) S.1 S.2.1 dX11_sight_70 (by decide) ?_
                  refine r_icmp_ge S z4 6 h4 rfl dX11_sight_72 (tgt := 88) (by decide) (fun e_72_8 => ?_) (fun e_72_8 => ?_)
                  · refine lv_iconst (v := (-1)) S.1 S.2.1 dX11_sight_88 (by decide) ?_
                    exact ci_ret (u := ()) S hr hlk rfl hK (hP.sub [] rfl) (hD.sub [] (by decide) rfl) hS (Or.inr (⟨rfl, (by omega)⟩)) (by decide) (by decide) dX11_sight_89
                  · refine lv_iload S.1 S.2.1 dX11_sight_75 (lv_at hl 8 rfl) ?_
                    refine r_if_lt S z5 h5 dX11_sight_77 (tgt := 88) (by decide) (fun e_77_9 => ?_) (fun e_77_9 => ?_)
                    · refine lv_iconst (v := (-1)) S.1 S.2.1 dX11_sight_88 (by decide) ?_
                      exact ci_ret (u := ()) S hr hlk rfl hK (hP.sub [] rfl) (hD.sub [] (by decide) rfl) hS (Or.inr (⟨rfl, (by omega)⟩)) (by decide) (by decide) dX11_sight_89
                    · refine lv_iload S.1 S.2.1 dX11_sight_80 (lv_at hl 8 rfl) ?_
                      refine lv_sipush (v := 9999) S.1 S.2.1 dX11_sight_82 (by decide) ?_
                      refine r_icmp_le S z5 9999 h5 rfl dX11_sight_85 (tgt := 90) (by decide) (fun e_85_10 => ?_) (fun e_85_10 => ?_)
                      · refine lv_iload_n S.1 S.2.1 dX11_sight_90 rfl (lv_at hl 3 rfl) ?_
                        refine r_if_ne S z0 h0 dX11_sight_91 (tgt := 109) (by decide) (fun e_91_11 => ?_) (fun e_91_11 => ?_)
                        · refine r_new S (ci := 8) inX8 tyX8 tyX8_ok kw_226 kw_553 kw_153 hK hP hD hS hA rfl (fs := [.int 0, .int 0, .int 0, .int 0, .int 0, .int 0, .int 0, .int 0, .int 0, .int 0, .int 0, .int 0, .int 0, .int 0, .int 0, .int 0, .int 0, .int 0, .int 0]) rfl (by decide) (by decide) dX11_sight_109 (fun a109_12 H hP hD hS => ?_)
                          have hP : va_P D vwCl [((x 0), .inr (10, [.int 0, .int (-1), .ref (x 1), .ref (x 9), .int 0, .ref (x 10), .ref (x 13), .ref (x 16), .ref (x 29), .int 0, .int 0, .ref (x 30), .int 0, .ref (x 31), .ref (x 42), .int 0, .int 0, .null, .ref (x 43)])), ((x 1), .inr (2, [.ref (x 2), .ref (x 3), .ref (x 4), .ref (x 5), .ref (x 6), .int 0, .ref (x 7), .ref (x 8), .int 0])), ((x 3), .inl (cy 1, 96, .inl (fun _ => 0))), ((x 9), .inl (cy 4, 40, .inr (.inr (.inr (.inr (fun _ => none)))))), (a109_12, .inr (8, [.int 0, .int 0, .int 0, .int 0, .int 0, .int 0, .int 0, .int 0, .int 0, .int 0, .int 0, .int 0, .int 0, .int 0, .int 0, .int 0, .int 0, .int 0, .int 0]))] H := hP
                          have hD : va_D A [((x 0), .inr (10, [.int 0, .int (-1), .ref (x 1), .ref (x 9), .int 0, .ref (x 10), .ref (x 13), .ref (x 16), .ref (x 29), .int 0, .int 0, .ref (x 30), .int 0, .ref (x 31), .ref (x 42), .int 0, .int 0, .null, .ref (x 43)])), ((x 1), .inr (2, [.ref (x 2), .ref (x 3), .ref (x 4), .ref (x 5), .ref (x 6), .int 0, .ref (x 7), .ref (x 8), .int 0])), ((x 3), .inl (cy 1, 96, .inl (fun _ => 0))), ((x 9), .inl (cy 4, 40, .inr (.inr (.inr (.inr (fun _ => none)))))), (a109_12, .inr (8, [.int 0, .int 0, .int 0, .int 0, .int 0, .int 0, .int 0, .int 0, .int 0, .int 0, .int 0, .int 0, .int 0, .int 0, .int 0, .int 0, .int 0, .int 0, .int 0]))] := hD
                          refine lv_dup S.1 S.2.1 dX11_sight_112 rfl ?_
                          refine lv_iload_n S.1 S.2.1 dX11_sight_113 rfl (lv_at hl 3 rfl) ?_
                          refine lv_iload S.1 S.2.1 dX11_sight_114 (lv_at hl 1 rfl) ?_
                          refine lv_iload S.1 S.2.1 dX11_sight_116 (lv_at hl 6 rfl) ?_
                          refine lv_iload S.1 S.2.1 dX11_sight_118 (lv_at hl 7 rfl) ?_
                          refine lv_iload S.1 S.2.1 dX11_sight_120 (lv_at hl 8 rfl) ?_
                          refine lv_aload_n S.1 S.2.1 dX11_sight_122 rfl (lv_at hl 2 rfl) ?_
                          refine r_get S hK hP 0 10 rfl rfl inX11 0 (by decide) kw_468 (v := .int 0) rfl dX11_sight_123 ?_
                          refine call_v (wr := [((x 0), .inr (10, [.int 0, .int (-1), .ref (x 1), .ref (x 9), .int 0, .ref (x 10), .ref (x 13), .ref (x 16), .ref (x 29), .int 0, .int 0, .ref (x 30), .int 0, .ref (x 31), .ref (x 42), .int 0, .int 0, .null, .ref (x 43)])), ((x 1), .inr (2, [.ref (x 2), .ref (x 3), .ref (x 4), .ref (x 5), .ref (x 6), .int 0, .ref (x 7), .ref (x 8), .int 0])), ((x 3), .inl (cy 1, 96, .inl (fun _ => 0))), ((x 9), .inl (cy 4, 40, .inr (.inr (.inr (.inr (fun _ => none))))))]) (runI_C (wc := [(a109_12, .inr (8, [.int 0, .int 0, .int 0, .int 0, .int 0, .int 0, .int 0, .int 0, .int 0, .int 0, .int 0, .int 0, .int 0, .int 0, .int 0, .int 0, .int 0, .int 0, .int 0]))]) (As := [.int p0, .int (nI (12 * cl_2 + cx_2)), .int p3, .int p4, .int p5, .int 0]) (rest := [.ref a109_12]) S (kX8_init l D cy a109_12 p0 (nI (12 * cl_2 + cx_2)) p3 p4 p5 0) hK hP hD [4] (by decide) rfl kw_554 kw_555 kw_153 kw_556 okX8_init rfl rfl (by decide) hl.1 rfl (Nat.le_of_ble_eq_true rfl) dX11_sight_126 (by decide)) hP hD hS hA [4] [0, 1, 2, 3] rfl rfl (by decide) (by decide) (fun u126 H locs w126 hP hD hS => ?_)
                          have hP : va_P D vwCl [((x 0), .inr (10, [.int 0, .int (-1), .ref (x 1), .ref (x 9), .int 0, .ref (x 10), .ref (x 13), .ref (x 16), .ref (x 29), .int 0, .int 0, .ref (x 30), .int 0, .ref (x 31), .ref (x 42), .int 0, .int 0, .null, .ref (x 43)])), ((x 1), .inr (2, [.ref (x 2), .ref (x 3), .ref (x 4), .ref (x 5), .ref (x 6), .int 0, .ref (x 7), .ref (x 8), .int 0])), ((x 3), .inl (cy 1, 96, .inl (fun _ => 0))), ((x 9), .inl (cy 4, 40, .inr (.inr (.inr (.inr (fun _ => none)))))), (a109_12, .inr (8, [.int p0, .int (nI (12 * cl_2 + cx_2)), .int p3, .int p4, .int p5, .int 0, .int (-1), .int (-1), .int (-1), .int 0, .int 0, .int (-1), .int 0, .int (-1), .int (-1), .int 0, .int 0, .int 0, .int 0]))] H := hP
                          have hD : va_D A [((x 0), .inr (10, [.int 0, .int (-1), .ref (x 1), .ref (x 9), .int 0, .ref (x 10), .ref (x 13), .ref (x 16), .ref (x 29), .int 0, .int 0, .ref (x 30), .int 0, .ref (x 31), .ref (x 42), .int 0, .int 0, .null, .ref (x 43)])), ((x 1), .inr (2, [.ref (x 2), .ref (x 3), .ref (x 4), .ref (x 5), .ref (x 6), .int 0, .ref (x 7), .ref (x 8), .int 0])), ((x 3), .inl (cy 1, 96, .inl (fun _ => 0))), ((x 9), .inl (cy 4, 40, .inr (.inr (.inr (.inr (fun _ => none)))))), (a109_12, .inr (8, [.int p0, .int (nI (12 * cl_2 + cx_2)), .int p3, .int p4, .int p5, .int 0, .int (-1), .int (-1), .int (-1), .int 0, .int 0, .int (-1), .int 0, .int (-1), .int (-1), .int 0, .int 0, .int 0, .int 0]))] := hD
                          refine lv_astore (lv' := [(9, .ref a109_12), (8, .int 0), (7, .int (nI (12 * cl_2 + cx_2))), (0, .ref (x 0)), (1, .int p0), (2, .int p1), (3, .int p2), (4, .int p3), (5, .int p4), (6, .int p5)]) S.1 S.2.1 dX11_sight_129 hl (by decide) rfl (fun ls hl => ?_)
                          refine lv_aload_n S.1 S.2.1 dX11_sight_131 rfl (lv_at hl 3 rfl) ?_
                          refine r_get S hK hP 0 10 rfl rfl inX11 3 (by decide) kw_471 (v := .ref (x 9)) rfl dX11_sight_132 ?_
                          refine lv_aload_n S.1 S.2.1 dX11_sight_135 rfl (lv_at hl 3 rfl) ?_
                          refine r_get S hK hP 0 10 rfl rfl inX11 4 (by decide) kw_472 (v := .int 0) rfl dX11_sight_136 ?_
                          refine lv_aload S.1 S.2.1 dX11_sight_139 (lv_at hl 0 rfl) ?_
                          refine r_aast S hK hP hD hS 3 4 4 8 rfl rfl rfl rfl (0) rfl (by decide) (by decide) dX11_sight_141 (fun H locs hP hD hS => ?_)
                          have hP : va_P D vwCl [((x 0), .inr (10, [.int 0, .int (-1), .ref (x 1), .ref (x 9), .int 0, .ref (x 10), .ref (x 13), .ref (x 16), .ref (x 29), .int 0, .int 0, .ref (x 30), .int 0, .ref (x 31), .ref (x 42), .int 0, .int 0, .null, .ref (x 43)])), ((x 1), .inr (2, [.ref (x 2), .ref (x 3), .ref (x 4), .ref (x 5), .ref (x 6), .int 0, .ref (x 7), .ref (x 8), .int 0])), ((x 3), .inl (cy 1, 96, .inl (fun _ => 0))), ((x 9), .inl (cy 4, 40, .inr (.inr (.inr (.inr (va_up (fun _ => none) (0) (some a109_12))))))), (a109_12, .inr (8, [.int p0, .int (nI (12 * cl_2 + cx_2)), .int p3, .int p4, .int p5, .int 0, .int (-1), .int (-1), .int (-1), .int 0, .int 0, .int (-1), .int 0, .int (-1), .int (-1), .int 0, .int 0, .int 0, .int 0]))] H := hP
                          have hD : va_D A [((x 0), .inr (10, [.int 0, .int (-1), .ref (x 1), .ref (x 9), .int 0, .ref (x 10), .ref (x 13), .ref (x 16), .ref (x 29), .int 0, .int 0, .ref (x 30), .int 0, .ref (x 31), .ref (x 42), .int 0, .int 0, .null, .ref (x 43)])), ((x 1), .inr (2, [.ref (x 2), .ref (x 3), .ref (x 4), .ref (x 5), .ref (x 6), .int 0, .ref (x 7), .ref (x 8), .int 0])), ((x 3), .inl (cy 1, 96, .inl (fun _ => 0))), ((x 9), .inl (cy 4, 40, .inr (.inr (.inr (.inr (va_up (fun _ => none) (0) (some a109_12))))))), (a109_12, .inr (8, [.int p0, .int (nI (12 * cl_2 + cx_2)), .int p3, .int p4, .int p5, .int 0, .int (-1), .int (-1), .int (-1), .int 0, .int 0, .int (-1), .int 0, .int (-1), .int (-1), .int 0, .int 0, .int 0, .int 0]))] := hD
                          refine lv_aload_n S.1 S.2.1 dX11_sight_142 rfl (lv_at hl 3 rfl) ?_
                          refine lv_iconst (v := 0) S.1 S.2.1 dX11_sight_143 (by decide) ?_
                          refine r_put S hK hP hD hS 0 10 rfl rfl inX11 15 (by decide) tyX11 tyX11_ok nmX11 kw_483 (v := .int 0) rfl (by decide) (by decide) (Nat.le_of_ble_eq_true rfl) dX11_sight_144 (fun H locs hP hD hS => ?_)
                          have hP : va_P D vwCl [((x 0), .inr (10, [.int 0, .int (-1), .ref (x 1), .ref (x 9), .int 0, .ref (x 10), .ref (x 13), .ref (x 16), .ref (x 29), .int 0, .int 0, .ref (x 30), .int 0, .ref (x 31), .ref (x 42), .int 0, .int 0, .null, .ref (x 43)])), ((x 1), .inr (2, [.ref (x 2), .ref (x 3), .ref (x 4), .ref (x 5), .ref (x 6), .int 0, .ref (x 7), .ref (x 8), .int 0])), ((x 3), .inl (cy 1, 96, .inl (fun _ => 0))), ((x 9), .inl (cy 4, 40, .inr (.inr (.inr (.inr (va_up (fun _ => none) (0) (some a109_12))))))), (a109_12, .inr (8, [.int p0, .int (nI (12 * cl_2 + cx_2)), .int p3, .int p4, .int p5, .int 0, .int (-1), .int (-1), .int (-1), .int 0, .int 0, .int (-1), .int 0, .int (-1), .int (-1), .int 0, .int 0, .int 0, .int 0]))] H := hP
                          have hD : va_D A [((x 0), .inr (10, [.int 0, .int (-1), .ref (x 1), .ref (x 9), .int 0, .ref (x 10), .ref (x 13), .ref (x 16), .ref (x 29), .int 0, .int 0, .ref (x 30), .int 0, .ref (x 31), .ref (x 42), .int 0, .int 0, .null, .ref (x 43)])), ((x 1), .inr (2, [.ref (x 2), .ref (x 3), .ref (x 4), .ref (x 5), .ref (x 6), .int 0, .ref (x 7), .ref (x 8), .int 0])), ((x 3), .inl (cy 1, 96, .inl (fun _ => 0))), ((x 9), .inl (cy 4, 40, .inr (.inr (.inr (.inr (va_up (fun _ => none) (0) (some a109_12))))))), (a109_12, .inr (8, [.int p0, .int (nI (12 * cl_2 + cx_2)), .int p3, .int p4, .int p5, .int 0, .int (-1), .int (-1), .int (-1), .int 0, .int 0, .int (-1), .int 0, .int (-1), .int (-1), .int 0, .int 0, .int 0, .int 0]))] := hD
                          refine lv_aload_n S.1 S.2.1 dX11_sight_147 rfl (lv_at hl 3 rfl) ?_
                          refine lv_dup S.1 S.2.1 dX11_sight_148 rfl ?_
                          refine r_get S hK hP 0 10 rfl rfl inX11 4 (by decide) kw_472 (v := .int 0) rfl dX11_sight_149 ?_
                          refine lv_dup_x1 S.1 S.2.1 dX11_sight_152 rfl rfl ?_
                          refine lv_iconst (v := 1) S.1 S.2.1 dX11_sight_153 (by decide) ?_
                          refine r_iadd S dX11_sight_154 (v := 1) (by decide) ?_
                          refine r_put S hK hP hD hS 0 10 rfl rfl inX11 4 (by decide) tyX11 tyX11_ok nmX11 kw_472 (v := .int 1) rfl rfl rfl (Nat.le_of_ble_eq_true rfl) dX11_sight_155 (fun H locs hP hD hS => ?_)
                          have hP : va_P D vwCl [((x 0), .inr (10, [.int 0, .int (-1), .ref (x 1), .ref (x 9), .int 1, .ref (x 10), .ref (x 13), .ref (x 16), .ref (x 29), .int 0, .int 0, .ref (x 30), .int 0, .ref (x 31), .ref (x 42), .int 0, .int 0, .null, .ref (x 43)])), ((x 1), .inr (2, [.ref (x 2), .ref (x 3), .ref (x 4), .ref (x 5), .ref (x 6), .int 0, .ref (x 7), .ref (x 8), .int 0])), ((x 3), .inl (cy 1, 96, .inl (fun _ => 0))), ((x 9), .inl (cy 4, 40, .inr (.inr (.inr (.inr (va_up (fun _ => none) (0) (some a109_12))))))), (a109_12, .inr (8, [.int p0, .int (nI (12 * cl_2 + cx_2)), .int p3, .int p4, .int p5, .int 0, .int (-1), .int (-1), .int (-1), .int 0, .int 0, .int (-1), .int 0, .int (-1), .int (-1), .int 0, .int 0, .int 0, .int 0]))] H := hP
                          have hD : va_D A [((x 0), .inr (10, [.int 0, .int (-1), .ref (x 1), .ref (x 9), .int 1, .ref (x 10), .ref (x 13), .ref (x 16), .ref (x 29), .int 0, .int 0, .ref (x 30), .int 0, .ref (x 31), .ref (x 42), .int 0, .int 0, .null, .ref (x 43)])), ((x 1), .inr (2, [.ref (x 2), .ref (x 3), .ref (x 4), .ref (x 5), .ref (x 6), .int 0, .ref (x 7), .ref (x 8), .int 0])), ((x 3), .inl (cy 1, 96, .inl (fun _ => 0))), ((x 9), .inl (cy 4, 40, .inr (.inr (.inr (.inr (va_up (fun _ => none) (0) (some a109_12))))))), (a109_12, .inr (8, [.int p0, .int (nI (12 * cl_2 + cx_2)), .int p3, .int p4, .int p5, .int 0, .int (-1), .int (-1), .int (-1), .int 0, .int 0, .int (-1), .int 0, .int (-1), .int (-1), .int 0, .int 0, .int 0, .int 0]))] := hD
                          exact ci_ret (u := ()) S hr hlk rfl hK (hP.sub [] rfl) (hD.sub [] (by decide) rfl) hS (Or.inl ⟨rfl, (by omega)⟩) (by decide) (by decide) dX11_sight_158
                        · refine lv_aload_n S.1 S.2.1 dX11_sight_94 rfl (lv_at hl 2 rfl) ?_
                          refine r_get S hK hP 0 10 rfl rfl inX11 2 (by decide) kw_470 (v := .ref (x 1)) rfl dX11_sight_95 ?_
                          refine r_get S hK hP 1 2 rfl rfl inX2 1 (by decide) kw_192 (v := .ref (x 3)) rfl dX11_sight_98 ?_
                          refine lv_iload S.1 S.2.1 dX11_sight_101 (lv_at hl 1 rfl) ?_
                          refine r_zald S hK hP 2 1 rfl rfl ((12 * cl_2 + cx_2)) rfl (by omega) (by decide) (v := 0) rfl dX11_sight_103 ?_
                          refine r_if_eq S 0 rfl dX11_sight_104 (tgt := 109) (by decide) (fun _ => ?_) (fun c => absurd c (by decide))
                          refine r_new S (ci := 8) inX8 tyX8 tyX8_ok kw_226 kw_553 kw_153 hK hP hD hS hA rfl (fs := [.int 0, .int 0, .int 0, .int 0, .int 0, .int 0, .int 0, .int 0, .int 0, .int 0, .int 0, .int 0, .int 0, .int 0, .int 0, .int 0, .int 0, .int 0, .int 0]) rfl (by decide) (by decide) dX11_sight_109 (fun a109_12 H hP hD hS => ?_)
                          have hP : va_P D vwCl [((x 0), .inr (10, [.int 0, .int (-1), .ref (x 1), .ref (x 9), .int 0, .ref (x 10), .ref (x 13), .ref (x 16), .ref (x 29), .int 0, .int 0, .ref (x 30), .int 0, .ref (x 31), .ref (x 42), .int 0, .int 0, .null, .ref (x 43)])), ((x 1), .inr (2, [.ref (x 2), .ref (x 3), .ref (x 4), .ref (x 5), .ref (x 6), .int 0, .ref (x 7), .ref (x 8), .int 0])), ((x 3), .inl (cy 1, 96, .inl (fun _ => 0))), ((x 9), .inl (cy 4, 40, .inr (.inr (.inr (.inr (fun _ => none)))))), (a109_12, .inr (8, [.int 0, .int 0, .int 0, .int 0, .int 0, .int 0, .int 0, .int 0, .int 0, .int 0, .int 0, .int 0, .int 0, .int 0, .int 0, .int 0, .int 0, .int 0, .int 0]))] H := hP
                          have hD : va_D A [((x 0), .inr (10, [.int 0, .int (-1), .ref (x 1), .ref (x 9), .int 0, .ref (x 10), .ref (x 13), .ref (x 16), .ref (x 29), .int 0, .int 0, .ref (x 30), .int 0, .ref (x 31), .ref (x 42), .int 0, .int 0, .null, .ref (x 43)])), ((x 1), .inr (2, [.ref (x 2), .ref (x 3), .ref (x 4), .ref (x 5), .ref (x 6), .int 0, .ref (x 7), .ref (x 8), .int 0])), ((x 3), .inl (cy 1, 96, .inl (fun _ => 0))), ((x 9), .inl (cy 4, 40, .inr (.inr (.inr (.inr (fun _ => none)))))), (a109_12, .inr (8, [.int 0, .int 0, .int 0, .int 0, .int 0, .int 0, .int 0, .int 0, .int 0, .int 0, .int 0, .int 0, .int 0, .int 0, .int 0, .int 0, .int 0, .int 0, .int 0]))] := hD
                          refine lv_dup S.1 S.2.1 dX11_sight_112 rfl ?_
                          refine lv_iload_n S.1 S.2.1 dX11_sight_113 rfl (lv_at hl 3 rfl) ?_
                          refine lv_iload S.1 S.2.1 dX11_sight_114 (lv_at hl 1 rfl) ?_
                          refine lv_iload S.1 S.2.1 dX11_sight_116 (lv_at hl 6 rfl) ?_
                          refine lv_iload S.1 S.2.1 dX11_sight_118 (lv_at hl 7 rfl) ?_
                          refine lv_iload S.1 S.2.1 dX11_sight_120 (lv_at hl 8 rfl) ?_
                          refine lv_aload_n S.1 S.2.1 dX11_sight_122 rfl (lv_at hl 2 rfl) ?_
                          refine r_get S hK hP 0 10 rfl rfl inX11 0 (by decide) kw_468 (v := .int 0) rfl dX11_sight_123 ?_
                          refine call_v (wr := [((x 0), .inr (10, [.int 0, .int (-1), .ref (x 1), .ref (x 9), .int 0, .ref (x 10), .ref (x 13), .ref (x 16), .ref (x 29), .int 0, .int 0, .ref (x 30), .int 0, .ref (x 31), .ref (x 42), .int 0, .int 0, .null, .ref (x 43)])), ((x 1), .inr (2, [.ref (x 2), .ref (x 3), .ref (x 4), .ref (x 5), .ref (x 6), .int 0, .ref (x 7), .ref (x 8), .int 0])), ((x 3), .inl (cy 1, 96, .inl (fun _ => 0))), ((x 9), .inl (cy 4, 40, .inr (.inr (.inr (.inr (fun _ => none))))))]) (runI_C (wc := [(a109_12, .inr (8, [.int 0, .int 0, .int 0, .int 0, .int 0, .int 0, .int 0, .int 0, .int 0, .int 0, .int 0, .int 0, .int 0, .int 0, .int 0, .int 0, .int 0, .int 0, .int 0]))]) (As := [.int p0, .int (nI (12 * cl_2 + cx_2)), .int p3, .int p4, .int p5, .int 0]) (rest := [.ref a109_12]) S (kX8_init l D cy a109_12 p0 (nI (12 * cl_2 + cx_2)) p3 p4 p5 0) hK hP hD [4] (by decide) rfl kw_554 kw_555 kw_153 kw_556 okX8_init rfl rfl (by decide) hl.1 rfl (Nat.le_of_ble_eq_true rfl) dX11_sight_126 (by decide)) hP hD hS hA [4] [0, 1, 2, 3] rfl rfl (by decide) (by decide) (fun u126 H locs w126 hP hD hS => ?_)
                          have hP : va_P D vwCl [((x 0), .inr (10, [.int 0, .int (-1), .ref (x 1), .ref (x 9), .int 0, .ref (x 10), .ref (x 13), .ref (x 16), .ref (x 29), .int 0, .int 0, .ref (x 30), .int 0, .ref (x 31), .ref (x 42), .int 0, .int 0, .null, .ref (x 43)])), ((x 1), .inr (2, [.ref (x 2), .ref (x 3), .ref (x 4), .ref (x 5), .ref (x 6), .int 0, .ref (x 7), .ref (x 8), .int 0])), ((x 3), .inl (cy 1, 96, .inl (fun _ => 0))), ((x 9), .inl (cy 4, 40, .inr (.inr (.inr (.inr (fun _ => none)))))), (a109_12, .inr (8, [.int p0, .int (nI (12 * cl_2 + cx_2)), .int p3, .int p4, .int p5, .int 0, .int (-1), .int (-1), .int (-1), .int 0, .int 0, .int (-1), .int 0, .int (-1), .int (-1), .int 0, .int 0, .int 0, .int 0]))] H := hP
                          have hD : va_D A [((x 0), .inr (10, [.int 0, .int (-1), .ref (x 1), .ref (x 9), .int 0, .ref (x 10), .ref (x 13), .ref (x 16), .ref (x 29), .int 0, .int 0, .ref (x 30), .int 0, .ref (x 31), .ref (x 42), .int 0, .int 0, .null, .ref (x 43)])), ((x 1), .inr (2, [.ref (x 2), .ref (x 3), .ref (x 4), .ref (x 5), .ref (x 6), .int 0, .ref (x 7), .ref (x 8), .int 0])), ((x 3), .inl (cy 1, 96, .inl (fun _ => 0))), ((x 9), .inl (cy 4, 40, .inr (.inr (.inr (.inr (fun _ => none)))))), (a109_12, .inr (8, [.int p0, .int (nI (12 * cl_2 + cx_2)), .int p3, .int p4, .int p5, .int 0, .int (-1), .int (-1), .int (-1), .int 0, .int 0, .int (-1), .int 0, .int (-1), .int (-1), .int 0, .int 0, .int 0, .int 0]))] := hD
                          refine lv_astore (lv' := [(9, .ref a109_12), (8, .int 0), (7, .int (nI (12 * cl_2 + cx_2))), (0, .ref (x 0)), (1, .int p0), (2, .int p1), (3, .int p2), (4, .int p3), (5, .int p4), (6, .int p5)]) S.1 S.2.1 dX11_sight_129 hl (by decide) rfl (fun ls hl => ?_)
                          refine lv_aload_n S.1 S.2.1 dX11_sight_131 rfl (lv_at hl 3 rfl) ?_
                          refine r_get S hK hP 0 10 rfl rfl inX11 3 (by decide) kw_471 (v := .ref (x 9)) rfl dX11_sight_132 ?_
                          refine lv_aload_n S.1 S.2.1 dX11_sight_135 rfl (lv_at hl 3 rfl) ?_
                          refine r_get S hK hP 0 10 rfl rfl inX11 4 (by decide) kw_472 (v := .int 0) rfl dX11_sight_136 ?_
                          refine lv_aload S.1 S.2.1 dX11_sight_139 (lv_at hl 0 rfl) ?_
                          refine r_aast S hK hP hD hS 3 4 4 8 rfl rfl rfl rfl (0) rfl (by decide) (by decide) dX11_sight_141 (fun H locs hP hD hS => ?_)
                          have hP : va_P D vwCl [((x 0), .inr (10, [.int 0, .int (-1), .ref (x 1), .ref (x 9), .int 0, .ref (x 10), .ref (x 13), .ref (x 16), .ref (x 29), .int 0, .int 0, .ref (x 30), .int 0, .ref (x 31), .ref (x 42), .int 0, .int 0, .null, .ref (x 43)])), ((x 1), .inr (2, [.ref (x 2), .ref (x 3), .ref (x 4), .ref (x 5), .ref (x 6), .int 0, .ref (x 7), .ref (x 8), .int 0])), ((x 3), .inl (cy 1, 96, .inl (fun _ => 0))), ((x 9), .inl (cy 4, 40, .inr (.inr (.inr (.inr (va_up (fun _ => none) (0) (some a109_12))))))), (a109_12, .inr (8, [.int p0, .int (nI (12 * cl_2 + cx_2)), .int p3, .int p4, .int p5, .int 0, .int (-1), .int (-1), .int (-1), .int 0, .int 0, .int (-1), .int 0, .int (-1), .int (-1), .int 0, .int 0, .int 0, .int 0]))] H := hP
                          have hD : va_D A [((x 0), .inr (10, [.int 0, .int (-1), .ref (x 1), .ref (x 9), .int 0, .ref (x 10), .ref (x 13), .ref (x 16), .ref (x 29), .int 0, .int 0, .ref (x 30), .int 0, .ref (x 31), .ref (x 42), .int 0, .int 0, .null, .ref (x 43)])), ((x 1), .inr (2, [.ref (x 2), .ref (x 3), .ref (x 4), .ref (x 5), .ref (x 6), .int 0, .ref (x 7), .ref (x 8), .int 0])), ((x 3), .inl (cy 1, 96, .inl (fun _ => 0))), ((x 9), .inl (cy 4, 40, .inr (.inr (.inr (.inr (va_up (fun _ => none) (0) (some a109_12))))))), (a109_12, .inr (8, [.int p0, .int (nI (12 * cl_2 + cx_2)), .int p3, .int p4, .int p5, .int 0, .int (-1), .int (-1), .int (-1), .int 0, .int 0, .int (-1), .int 0, .int (-1), .int (-1), .int 0, .int 0, .int 0, .int 0]))] := hD
                          refine lv_aload_n S.1 S.2.1 dX11_sight_142 rfl (lv_at hl 3 rfl) ?_
                          refine lv_iconst (v := 0) S.1 S.2.1 dX11_sight_143 (by decide) ?_
                          refine r_put S hK hP hD hS 0 10 rfl rfl inX11 15 (by decide) tyX11 tyX11_ok nmX11 kw_483 (v := .int 0) rfl (by decide) (by decide) (Nat.le_of_ble_eq_true rfl) dX11_sight_144 (fun H locs hP hD hS => ?_)
                          have hP : va_P D vwCl [((x 0), .inr (10, [.int 0, .int (-1), .ref (x 1), .ref (x 9), .int 0, .ref (x 10), .ref (x 13), .ref (x 16), .ref (x 29), .int 0, .int 0, .ref (x 30), .int 0, .ref (x 31), .ref (x 42), .int 0, .int 0, .null, .ref (x 43)])), ((x 1), .inr (2, [.ref (x 2), .ref (x 3), .ref (x 4), .ref (x 5), .ref (x 6), .int 0, .ref (x 7), .ref (x 8), .int 0])), ((x 3), .inl (cy 1, 96, .inl (fun _ => 0))), ((x 9), .inl (cy 4, 40, .inr (.inr (.inr (.inr (va_up (fun _ => none) (0) (some a109_12))))))), (a109_12, .inr (8, [.int p0, .int (nI (12 * cl_2 + cx_2)), .int p3, .int p4, .int p5, .int 0, .int (-1), .int (-1), .int (-1), .int 0, .int 0, .int (-1), .int 0, .int (-1), .int (-1), .int 0, .int 0, .int 0, .int 0]))] H := hP
                          have hD : va_D A [((x 0), .inr (10, [.int 0, .int (-1), .ref (x 1), .ref (x 9), .int 0, .ref (x 10), .ref (x 13), .ref (x 16), .ref (x 29), .int 0, .int 0, .ref (x 30), .int 0, .ref (x 31), .ref (x 42), .int 0, .int 0, .null, .ref (x 43)])), ((x 1), .inr (2, [.ref (x 2), .ref (x 3), .ref (x 4), .ref (x 5), .ref (x 6), .int 0, .ref (x 7), .ref (x 8), .int 0])), ((x 3), .inl (cy 1, 96, .inl (fun _ => 0))), ((x 9), .inl (cy 4, 40, .inr (.inr (.inr (.inr (va_up (fun _ => none) (0) (some a109_12))))))), (a109_12, .inr (8, [.int p0, .int (nI (12 * cl_2 + cx_2)), .int p3, .int p4, .int p5, .int 0, .int (-1), .int (-1), .int (-1), .int 0, .int 0, .int (-1), .int 0, .int (-1), .int (-1), .int 0, .int 0, .int 0, .int 0]))] := hD
                          refine lv_aload_n S.1 S.2.1 dX11_sight_147 rfl (lv_at hl 3 rfl) ?_
                          refine lv_dup S.1 S.2.1 dX11_sight_148 rfl ?_
                          refine r_get S hK hP 0 10 rfl rfl inX11 4 (by decide) kw_472 (v := .int 0) rfl dX11_sight_149 ?_
                          refine lv_dup_x1 S.1 S.2.1 dX11_sight_152 rfl rfl ?_
                          refine lv_iconst (v := 1) S.1 S.2.1 dX11_sight_153 (by decide) ?_
                          refine r_iadd S dX11_sight_154 (v := 1) (by decide) ?_
                          refine r_put S hK hP hD hS 0 10 rfl rfl inX11 4 (by decide) tyX11 tyX11_ok nmX11 kw_472 (v := .int 1) rfl rfl rfl (Nat.le_of_ble_eq_true rfl) dX11_sight_155 (fun H locs hP hD hS => ?_)
                          have hP : va_P D vwCl [((x 0), .inr (10, [.int 0, .int (-1), .ref (x 1), .ref (x 9), .int 1, .ref (x 10), .ref (x 13), .ref (x 16), .ref (x 29), .int 0, .int 0, .ref (x 30), .int 0, .ref (x 31), .ref (x 42), .int 0, .int 0, .null, .ref (x 43)])), ((x 1), .inr (2, [.ref (x 2), .ref (x 3), .ref (x 4), .ref (x 5), .ref (x 6), .int 0, .ref (x 7), .ref (x 8), .int 0])), ((x 3), .inl (cy 1, 96, .inl (fun _ => 0))), ((x 9), .inl (cy 4, 40, .inr (.inr (.inr (.inr (va_up (fun _ => none) (0) (some a109_12))))))), (a109_12, .inr (8, [.int p0, .int (nI (12 * cl_2 + cx_2)), .int p3, .int p4, .int p5, .int 0, .int (-1), .int (-1), .int (-1), .int 0, .int 0, .int (-1), .int 0, .int (-1), .int (-1), .int 0, .int 0, .int 0, .int 0]))] H := hP
                          have hD : va_D A [((x 0), .inr (10, [.int 0, .int (-1), .ref (x 1), .ref (x 9), .int 1, .ref (x 10), .ref (x 13), .ref (x 16), .ref (x 29), .int 0, .int 0, .ref (x 30), .int 0, .ref (x 31), .ref (x 42), .int 0, .int 0, .null, .ref (x 43)])), ((x 1), .inr (2, [.ref (x 2), .ref (x 3), .ref (x 4), .ref (x 5), .ref (x 6), .int 0, .ref (x 7), .ref (x 8), .int 0])), ((x 3), .inl (cy 1, 96, .inl (fun _ => 0))), ((x 9), .inl (cy 4, 40, .inr (.inr (.inr (.inr (va_up (fun _ => none) (0) (some a109_12))))))), (a109_12, .inr (8, [.int p0, .int (nI (12 * cl_2 + cx_2)), .int p3, .int p4, .int p5, .int 0, .int (-1), .int (-1), .int (-1), .int 0, .int 0, .int (-1), .int 0, .int (-1), .int (-1), .int 0, .int 0, .int 0, .int 0]))] := hD
                          exact ci_ret (u := ()) S hr hlk rfl hK (hP.sub [] rfl) (hD.sub [] (by decide) rfl) hS (Or.inl ⟨rfl, (by omega)⟩) (by decide) (by decide) dX11_sight_158
                      · refine lv_iconst (v := (-1)) S.1 S.2.1 dX11_sight_88 (by decide) ?_
                        exact ci_ret (u := ()) S hr hlk rfl hK (hP.sub [] rfl) (hD.sub [] (by decide) rfl) hS (Or.inr (⟨rfl, (by omega)⟩)) (by decide) (by decide) dX11_sight_89
set_option maxHeartbeats 4000000 in
set_option maxRecDepth 100000 in
theorem kX12_sight (l : Launch) (D : va_G) (cy : Nat → ClassId) (q : Nat → Nat) (p0 : Int32) (p1 : Int32) (p2 : Int32) (p3 : Int32) (p4 : Int32) (p5 : Int32) (z0 : Int) (h0 : p0.toInt = z0) (z1 : Int) (h1 : p1.toInt = z1) (z2 : Int) (h2 : p2.toInt = z2) (z3 : Int) (h3 : p3.toInt = z3) (z4 : Int) (h4 : p4.toInt = z4) (z5 : Int) (h5 : p5.toInt = z5) : CI l D cy yX12_sight cX12_sight 8 (some .int) 2 43 0 0 [.ref (q 0), .int p0, .int p1, .int p2, .int p3, .int p4, .int p5] [((q 0), .inr (11, (mO q 0 0 0 0 0 0 0 0 (-1) 1 0 0 0 0 0 0 0 0 0))), ((q 37), .inl (cy 1, 96, .inl (fun _ => 1))), ((q 41), .inl (cy 0, 40, .inl (fun _ => 0))), ((q 42), .inl (cy 0, 40, .inl (fun _ => 0))), ((q 43), .inl (cy 0, 40, .inl (fun _ => 0))), ((q 44), .inl (cy 0, 40, .inl (fun _ => 0))), ((q 45), .inl (cy 0, 40, .inl (fun _ => 0))), ((q 46), .inl (cy 0, 40, .inl (fun _ => 0))), ((q 47), .inl (cy 0, 40, .inl (fun _ => 0))), ((q 48), .inl (cy 0, 40, .inl (fun _ => 0))), ((q 51), .inl (cy 0, 40, .inl (fun _ => 0)))] (fun (v : Int32) (u : Unit) => (v = 0 ∧ ((0 ≤ z0 ∧ z0 ≤ 4 ∧ 0 ≤ z1 ∧ z1 ≤ 11 ∧ 0 ≤ z2 ∧ z2 ≤ 7 ∧ 0 ≤ z3 ∧ z3 ≤ 999 ∧ (z0 ≤ 1 → z3 = 0) ∧ 0 ≤ z4 ∧ z4 ≤ 5 ∧ 0 ≤ z5 ∧ z5 ≤ 9999))) ∨ (v = (-1) ∧ (¬ (0 ≤ z0 ∧ z0 ≤ 4 ∧ 0 ≤ z1 ∧ z1 ≤ 11 ∧ 0 ≤ z2 ∧ z2 ≤ 7 ∧ 0 ≤ z3 ∧ z3 ≤ 999 ∧ (z0 ≤ 1 → z3 = 0) ∧ 0 ≤ z4 ∧ z4 ≤ 5 ∧ 0 ≤ z5 ∧ z5 ≤ 9999)))) (fun (u : Unit) => []) := by
  refine ci_go (by decide) (Nat.le_of_ble_eq_true rfl) (fun p e s m below meth c ls A hA S hr hlk hnm hP hK hD hl => ?_)
  have hS : va_S A s.heap s.heap [] := va_S.rf
  have hl : lv_has ls 8 [(0, .ref (q 0)), (1, .int p0), (2, .int p1), (3, .int p2), (4, .int p3), (5, .int p4), (6, .int p5)] := hl
  refine lv_aload_n S.1 S.2.1 dX12_sight_0 rfl (lv_at hl 0 rfl) ?_
  refine lv_iconst (v := 0) S.1 S.2.1 dX12_sight_1 (by decide) ?_
  refine r_put S hK hP hD hS 0 11 rfl rfl inX12 0 (by decide) tyX12 tyX12_ok nmX12 kw_1510 (v := .int 0) rfl rfl rfl (Nat.le_of_ble_eq_true rfl) dX12_sight_2 (fun H locs hP hD hS => ?_)
  have hP : va_P D vwCl [((q 0), .inr (11, (mO q 0 0 0 0 0 0 0 0 (-1) 1 0 0 0 0 0 0 0 0 0))), ((q 37), .inl (cy 1, 96, .inl (fun _ => 1))), ((q 41), .inl (cy 0, 40, .inl (fun _ => 0))), ((q 42), .inl (cy 0, 40, .inl (fun _ => 0))), ((q 43), .inl (cy 0, 40, .inl (fun _ => 0))), ((q 44), .inl (cy 0, 40, .inl (fun _ => 0))), ((q 45), .inl (cy 0, 40, .inl (fun _ => 0))), ((q 46), .inl (cy 0, 40, .inl (fun _ => 0))), ((q 47), .inl (cy 0, 40, .inl (fun _ => 0))), ((q 48), .inl (cy 0, 40, .inl (fun _ => 0))), ((q 51), .inl (cy 0, 40, .inl (fun _ => 0)))] H := hP
  have hD : va_D A [((q 0), .inr (11, (mO q 0 0 0 0 0 0 0 0 (-1) 1 0 0 0 0 0 0 0 0 0))), ((q 37), .inl (cy 1, 96, .inl (fun _ => 1))), ((q 41), .inl (cy 0, 40, .inl (fun _ => 0))), ((q 42), .inl (cy 0, 40, .inl (fun _ => 0))), ((q 43), .inl (cy 0, 40, .inl (fun _ => 0))), ((q 44), .inl (cy 0, 40, .inl (fun _ => 0))), ((q 45), .inl (cy 0, 40, .inl (fun _ => 0))), ((q 46), .inl (cy 0, 40, .inl (fun _ => 0))), ((q 47), .inl (cy 0, 40, .inl (fun _ => 0))), ((q 48), .inl (cy 0, 40, .inl (fun _ => 0))), ((q 51), .inl (cy 0, 40, .inl (fun _ => 0)))] := hD
  refine lv_iload_n S.1 S.2.1 dX12_sight_5 rfl (lv_at hl 1 rfl) ?_
  refine lv_iconst (v := 0) S.1 S.2.1 dX12_sight_6 (by decide) ?_
  refine lv_iconst (v := 4) S.1 S.2.1 dX12_sight_7 (by decide) ?_
  refine call_ri (runS_R (wc := []) (As := [.int p0, .int 0, .int 4]) (rest := []) S (kX12_within l D cy p0 0 4 z0 h0 0 rfl 4 rfl) hK hP [] rfl kw_1892 kw_1893 kw_152 kw_1894 okX12_within rfl (by decide) hl.1 rfl (Nat.le_of_ble_eq_true rfl) dX12_sight_8 (by decide)) (fun v8 w8 => ?_)
  rcases w8 with ⟨rfl, w8_0_0⟩ | ⟨rfl, w8_1_0⟩
  · refine r_if_eq S 1 rfl dX12_sight_11 (tgt := 69) (by decide) (fun c => absurd c (by decide)) (fun _ => ?_)
    refine lv_iload_n S.1 S.2.1 dX12_sight_14 rfl (lv_at hl 2 rfl) ?_
    refine lv_iload_n S.1 S.2.1 dX12_sight_15 rfl (lv_at hl 3 rfl) ?_
    refine call_ri (runS_R (wc := []) (As := [.int p1, .int p2]) (rest := []) S (kX12_isCell l D cy p1 p2 z1 h1 z2 h2) hK hP [] rfl kw_1903 kw_1904 kw_152 kw_1905 okX12_isCell rfl (by decide) hl.1 rfl (Nat.le_of_ble_eq_true rfl) dX12_sight_16 (by decide)) (fun v16 w16 => ?_)
    rcases w16 with ⟨rfl, w16_0_0⟩ | ⟨rfl, w16_1_0⟩
    · refine r_if_eq S 1 rfl dX12_sight_19 (tgt := 69) (by decide) (fun c => absurd c (by decide)) (fun _ => ?_)
      refine lv_iload S.1 S.2.1 dX12_sight_22 (lv_at hl 4 rfl) ?_
      refine lv_iconst (v := 0) S.1 S.2.1 dX12_sight_24 (by decide) ?_
      refine lv_iload_n S.1 S.2.1 dX12_sight_25 rfl (lv_at hl 1 rfl) ?_
      refine lv_iconst (v := 2) S.1 S.2.1 dX12_sight_26 (by decide) ?_
      refine r_icmp_ge S z0 2 h0 rfl dX12_sight_27 (tgt := 34) (by decide) (fun e_27_1 => ?_) (fun e_27_1 => ?_)
      · refine lv_sipush (v := 999) S.1 S.2.1 dX12_sight_34 (by decide) ?_
        refine call_ri (runS_R (wc := []) (As := [.int p3, .int 0, .int 999]) (rest := []) S (kX12_within l D cy p3 0 999 z3 h3 0 rfl 999 rfl) hK hP [] rfl kw_1892 kw_1893 kw_152 kw_1894 okX12_within rfl (by decide) hl.1 rfl (Nat.le_of_ble_eq_true rfl) dX12_sight_37 (by decide)) (fun v37 w37 => ?_)
        rcases w37 with ⟨rfl, w37_0_0⟩ | ⟨rfl, w37_1_0⟩
        · refine r_if_eq S 1 rfl dX12_sight_40 (tgt := 69) (by decide) (fun c => absurd c (by decide)) (fun _ => ?_)
          refine lv_iload S.1 S.2.1 dX12_sight_43 (lv_at hl 5 rfl) ?_
          refine lv_iconst (v := 0) S.1 S.2.1 dX12_sight_45 (by decide) ?_
          refine lv_iconst (v := 5) S.1 S.2.1 dX12_sight_46 (by decide) ?_
          refine call_ri (runS_R (wc := []) (As := [.int p4, .int 0, .int 5]) (rest := []) S (kX12_within l D cy p4 0 5 z4 h4 0 rfl 5 rfl) hK hP [] rfl kw_1892 kw_1893 kw_152 kw_1894 okX12_within rfl (by decide) hl.1 rfl (Nat.le_of_ble_eq_true rfl) dX12_sight_47 (by decide)) (fun v47 w47 => ?_)
          rcases w47 with ⟨rfl, w47_0_0⟩ | ⟨rfl, w47_1_0⟩
          · refine r_if_eq S 1 rfl dX12_sight_50 (tgt := 69) (by decide) (fun c => absurd c (by decide)) (fun _ => ?_)
            refine lv_iload S.1 S.2.1 dX12_sight_53 (lv_at hl 6 rfl) ?_
            refine lv_iconst (v := 0) S.1 S.2.1 dX12_sight_55 (by decide) ?_
            refine lv_sipush (v := 9999) S.1 S.2.1 dX12_sight_56 (by decide) ?_
            refine call_ri (runS_R (wc := []) (As := [.int p5, .int 0, .int 9999]) (rest := []) S (kX12_within l D cy p5 0 9999 z5 h5 0 rfl 9999 rfl) hK hP [] rfl kw_1892 kw_1893 kw_152 kw_1894 okX12_within rfl (by decide) hl.1 rfl (Nat.le_of_ble_eq_true rfl) dX12_sight_59 (by decide)) (fun v59 w59 => ?_)
            rcases w59 with ⟨rfl, w59_0_0⟩ | ⟨rfl, w59_1_0⟩
            · refine r_if_eq S 1 rfl dX12_sight_62 (tgt := 69) (by decide) (fun c => absurd c (by decide)) (fun _ => ?_)
              refine lv_iconst (v := 1) S.1 S.2.1 dX12_sight_65 (by decide) ?_
              refine lv_goto (tgt := 70) S.1 S.2.1 dX12_sight_66 (by decide) ?_
              refine lv_istore (lv' := [(7, .int 1), (0, .ref (q 0)), (1, .int p0), (2, .int p1), (3, .int p2), (4, .int p3), (5, .int p4), (6, .int p5)]) S.1 S.2.1 dX12_sight_70 hl (by decide) rfl (fun ls hl => ?_)
              refine lv_iload S.1 S.2.1 dX12_sight_72 (lv_at hl 0 rfl) ?_
              refine r_if_eq S 1 rfl dX12_sight_74 (tgt := 104) (by decide) (fun c => absurd c (by decide)) (fun _ => ?_)
              refine lv_iload_n S.1 S.2.1 dX12_sight_77 rfl (lv_at hl 2 rfl) ?_
              refine r_if_ne S z0 h0 dX12_sight_78 (tgt := 95) (by decide) (fun e_78_2 => ?_) (fun e_78_2 => ?_)
              · refine lv_aload_n S.1 S.2.1 dX12_sight_95 rfl (lv_at hl 1 rfl) ?_
                refine r_get S hK hP 0 11 rfl rfl inX12 40 (by decide) kw_1550 (v := .int 0) rfl dX12_sight_96 ?_
                refine lv_bipush (v := 40) S.1 S.2.1 dX12_sight_99 (by decide) ?_
                refine r_icmp_ne S 0 40 rfl rfl dX12_sight_101 (tgt := 106) (by decide) (fun _ => ?_) (fun c => absurd c (by decide))
                refine lv_aload_n S.1 S.2.1 dX12_sight_106 rfl (lv_at hl 1 rfl) ?_
                refine r_get S hK hP 0 11 rfl rfl inX12 41 (by decide) kw_1551 (v := .ref (q 41)) rfl dX12_sight_107 ?_
                refine lv_aload_n S.1 S.2.1 dX12_sight_110 rfl (lv_at hl 1 rfl) ?_
                refine r_get S hK hP 0 11 rfl rfl inX12 40 (by decide) kw_1550 (v := .int 0) rfl dX12_sight_111 ?_
                refine lv_iload_n S.1 S.2.1 dX12_sight_114 rfl (lv_at hl 2 rfl) ?_
                refine r_iast S hK hP hD hS 2 0 rfl rfl (0) rfl (by decide) (by decide) dX12_sight_115 (fun H locs hP hD hS => ?_)
                have hP : va_P D vwCl [((q 0), .inr (11, (mO q 0 0 0 0 0 0 0 0 (-1) 1 0 0 0 0 0 0 0 0 0))), ((q 37), .inl (cy 1, 96, .inl (fun _ => 1))), ((q 41), .inl (cy 0, 40, .inl (upd (fun _ => 0) (0) p0))), ((q 42), .inl (cy 0, 40, .inl (fun _ => 0))), ((q 43), .inl (cy 0, 40, .inl (fun _ => 0))), ((q 44), .inl (cy 0, 40, .inl (fun _ => 0))), ((q 45), .inl (cy 0, 40, .inl (fun _ => 0))), ((q 46), .inl (cy 0, 40, .inl (fun _ => 0))), ((q 47), .inl (cy 0, 40, .inl (fun _ => 0))), ((q 48), .inl (cy 0, 40, .inl (fun _ => 0))), ((q 51), .inl (cy 0, 40, .inl (fun _ => 0)))] H := hP
                have hD : va_D A [((q 0), .inr (11, (mO q 0 0 0 0 0 0 0 0 (-1) 1 0 0 0 0 0 0 0 0 0))), ((q 37), .inl (cy 1, 96, .inl (fun _ => 1))), ((q 41), .inl (cy 0, 40, .inl (upd (fun _ => 0) (0) p0))), ((q 42), .inl (cy 0, 40, .inl (fun _ => 0))), ((q 43), .inl (cy 0, 40, .inl (fun _ => 0))), ((q 44), .inl (cy 0, 40, .inl (fun _ => 0))), ((q 45), .inl (cy 0, 40, .inl (fun _ => 0))), ((q 46), .inl (cy 0, 40, .inl (fun _ => 0))), ((q 47), .inl (cy 0, 40, .inl (fun _ => 0))), ((q 48), .inl (cy 0, 40, .inl (fun _ => 0))), ((q 51), .inl (cy 0, 40, .inl (fun _ => 0)))] := hD
                refine lv_aload_n S.1 S.2.1 dX12_sight_116 rfl (lv_at hl 1 rfl) ?_
                refine r_get S hK hP 0 11 rfl rfl inX12 42 (by decide) kw_1552 (v := .ref (q 42)) rfl dX12_sight_117 ?_
                refine lv_aload_n S.1 S.2.1 dX12_sight_120 rfl (lv_at hl 1 rfl) ?_
                refine r_get S hK hP 0 11 rfl rfl inX12 40 (by decide) kw_1550 (v := .int 0) rfl dX12_sight_121 ?_
                refine lv_bipush (v := 12) S.1 S.2.1 dX12_sight_124 (by decide) ?_
                refine lv_iload_n S.1 S.2.1 dX12_sight_126 rfl (lv_at hl 4 rfl) ?_
                refine r_imul S dX12_sight_127 (v := (12 * p2)) rfl ?_
                refine lv_iload_n S.1 S.2.1 dX12_sight_128 rfl (lv_at hl 3 rfl) ?_
                refine r_iadd S dX12_sight_129 (v := ((12 * p2) + p1)) rfl ?_
                refine r_iast S hK hP hD hS 3 0 rfl rfl (0) rfl (by decide) (by decide) dX12_sight_130 (fun H locs hP hD hS => ?_)
                have hP : va_P D vwCl [((q 0), .inr (11, (mO q 0 0 0 0 0 0 0 0 (-1) 1 0 0 0 0 0 0 0 0 0))), ((q 37), .inl (cy 1, 96, .inl (fun _ => 1))), ((q 41), .inl (cy 0, 40, .inl (upd (fun _ => 0) (0) p0))), ((q 42), .inl (cy 0, 40, .inl (upd (fun _ => 0) (0) ((12 * p2) + p1)))), ((q 43), .inl (cy 0, 40, .inl (fun _ => 0))), ((q 44), .inl (cy 0, 40, .inl (fun _ => 0))), ((q 45), .inl (cy 0, 40, .inl (fun _ => 0))), ((q 46), .inl (cy 0, 40, .inl (fun _ => 0))), ((q 47), .inl (cy 0, 40, .inl (fun _ => 0))), ((q 48), .inl (cy 0, 40, .inl (fun _ => 0))), ((q 51), .inl (cy 0, 40, .inl (fun _ => 0)))] H := hP
                have hD : va_D A [((q 0), .inr (11, (mO q 0 0 0 0 0 0 0 0 (-1) 1 0 0 0 0 0 0 0 0 0))), ((q 37), .inl (cy 1, 96, .inl (fun _ => 1))), ((q 41), .inl (cy 0, 40, .inl (upd (fun _ => 0) (0) p0))), ((q 42), .inl (cy 0, 40, .inl (upd (fun _ => 0) (0) ((12 * p2) + p1)))), ((q 43), .inl (cy 0, 40, .inl (fun _ => 0))), ((q 44), .inl (cy 0, 40, .inl (fun _ => 0))), ((q 45), .inl (cy 0, 40, .inl (fun _ => 0))), ((q 46), .inl (cy 0, 40, .inl (fun _ => 0))), ((q 47), .inl (cy 0, 40, .inl (fun _ => 0))), ((q 48), .inl (cy 0, 40, .inl (fun _ => 0))), ((q 51), .inl (cy 0, 40, .inl (fun _ => 0)))] := hD
                refine lv_aload_n S.1 S.2.1 dX12_sight_131 rfl (lv_at hl 1 rfl) ?_
                refine r_get S hK hP 0 11 rfl rfl inX12 43 (by decide) kw_1553 (v := .ref (q 43)) rfl dX12_sight_132 ?_
                refine lv_aload_n S.1 S.2.1 dX12_sight_135 rfl (lv_at hl 1 rfl) ?_
                refine r_get S hK hP 0 11 rfl rfl inX12 40 (by decide) kw_1550 (v := .int 0) rfl dX12_sight_136 ?_
                refine lv_iload S.1 S.2.1 dX12_sight_139 (lv_at hl 5 rfl) ?_
                refine r_iast S hK hP hD hS 4 0 rfl rfl (0) rfl (by decide) (by decide) dX12_sight_141 (fun H locs hP hD hS => ?_)
                have hP : va_P D vwCl [((q 0), .inr (11, (mO q 0 0 0 0 0 0 0 0 (-1) 1 0 0 0 0 0 0 0 0 0))), ((q 37), .inl (cy 1, 96, .inl (fun _ => 1))), ((q 41), .inl (cy 0, 40, .inl (upd (fun _ => 0) (0) p0))), ((q 42), .inl (cy 0, 40, .inl (upd (fun _ => 0) (0) ((12 * p2) + p1)))), ((q 43), .inl (cy 0, 40, .inl (upd (fun _ => 0) (0) p3))), ((q 44), .inl (cy 0, 40, .inl (fun _ => 0))), ((q 45), .inl (cy 0, 40, .inl (fun _ => 0))), ((q 46), .inl (cy 0, 40, .inl (fun _ => 0))), ((q 47), .inl (cy 0, 40, .inl (fun _ => 0))), ((q 48), .inl (cy 0, 40, .inl (fun _ => 0))), ((q 51), .inl (cy 0, 40, .inl (fun _ => 0)))] H := hP
                have hD : va_D A [((q 0), .inr (11, (mO q 0 0 0 0 0 0 0 0 (-1) 1 0 0 0 0 0 0 0 0 0))), ((q 37), .inl (cy 1, 96, .inl (fun _ => 1))), ((q 41), .inl (cy 0, 40, .inl (upd (fun _ => 0) (0) p0))), ((q 42), .inl (cy 0, 40, .inl (upd (fun _ => 0) (0) ((12 * p2) + p1)))), ((q 43), .inl (cy 0, 40, .inl (upd (fun _ => 0) (0) p3))), ((q 44), .inl (cy 0, 40, .inl (fun _ => 0))), ((q 45), .inl (cy 0, 40, .inl (fun _ => 0))), ((q 46), .inl (cy 0, 40, .inl (fun _ => 0))), ((q 47), .inl (cy 0, 40, .inl (fun _ => 0))), ((q 48), .inl (cy 0, 40, .inl (fun _ => 0))), ((q 51), .inl (cy 0, 40, .inl (fun _ => 0)))] := hD
                refine lv_aload_n S.1 S.2.1 dX12_sight_142 rfl (lv_at hl 1 rfl) ?_
                refine r_get S hK hP 0 11 rfl rfl inX12 44 (by decide) kw_1554 (v := .ref (q 44)) rfl dX12_sight_143 ?_
                refine lv_aload_n S.1 S.2.1 dX12_sight_146 rfl (lv_at hl 1 rfl) ?_
                refine r_get S hK hP 0 11 rfl rfl inX12 40 (by decide) kw_1550 (v := .int 0) rfl dX12_sight_147 ?_
                refine lv_iload S.1 S.2.1 dX12_sight_150 (lv_at hl 6 rfl) ?_
                refine r_iast S hK hP hD hS 5 0 rfl rfl (0) rfl (by decide) (by decide) dX12_sight_152 (fun H locs hP hD hS => ?_)
                have hP : va_P D vwCl [((q 0), .inr (11, (mO q 0 0 0 0 0 0 0 0 (-1) 1 0 0 0 0 0 0 0 0 0))), ((q 37), .inl (cy 1, 96, .inl (fun _ => 1))), ((q 41), .inl (cy 0, 40, .inl (upd (fun _ => 0) (0) p0))), ((q 42), .inl (cy 0, 40, .inl (upd (fun _ => 0) (0) ((12 * p2) + p1)))), ((q 43), .inl (cy 0, 40, .inl (upd (fun _ => 0) (0) p3))), ((q 44), .inl (cy 0, 40, .inl (upd (fun _ => 0) (0) p4))), ((q 45), .inl (cy 0, 40, .inl (fun _ => 0))), ((q 46), .inl (cy 0, 40, .inl (fun _ => 0))), ((q 47), .inl (cy 0, 40, .inl (fun _ => 0))), ((q 48), .inl (cy 0, 40, .inl (fun _ => 0))), ((q 51), .inl (cy 0, 40, .inl (fun _ => 0)))] H := hP
                have hD : va_D A [((q 0), .inr (11, (mO q 0 0 0 0 0 0 0 0 (-1) 1 0 0 0 0 0 0 0 0 0))), ((q 37), .inl (cy 1, 96, .inl (fun _ => 1))), ((q 41), .inl (cy 0, 40, .inl (upd (fun _ => 0) (0) p0))), ((q 42), .inl (cy 0, 40, .inl (upd (fun _ => 0) (0) ((12 * p2) + p1)))), ((q 43), .inl (cy 0, 40, .inl (upd (fun _ => 0) (0) p3))), ((q 44), .inl (cy 0, 40, .inl (upd (fun _ => 0) (0) p4))), ((q 45), .inl (cy 0, 40, .inl (fun _ => 0))), ((q 46), .inl (cy 0, 40, .inl (fun _ => 0))), ((q 47), .inl (cy 0, 40, .inl (fun _ => 0))), ((q 48), .inl (cy 0, 40, .inl (fun _ => 0))), ((q 51), .inl (cy 0, 40, .inl (fun _ => 0)))] := hD
                refine lv_aload_n S.1 S.2.1 dX12_sight_153 rfl (lv_at hl 1 rfl) ?_
                refine r_get S hK hP 0 11 rfl rfl inX12 45 (by decide) kw_1555 (v := .ref (q 45)) rfl dX12_sight_154 ?_
                refine lv_aload_n S.1 S.2.1 dX12_sight_157 rfl (lv_at hl 1 rfl) ?_
                refine r_get S hK hP 0 11 rfl rfl inX12 40 (by decide) kw_1550 (v := .int 0) rfl dX12_sight_158 ?_
                refine lv_iload S.1 S.2.1 dX12_sight_161 (lv_at hl 7 rfl) ?_
                refine r_iast S hK hP hD hS 6 0 rfl rfl (0) rfl (by decide) (by decide) dX12_sight_163 (fun H locs hP hD hS => ?_)
                have hP : va_P D vwCl [((q 0), .inr (11, (mO q 0 0 0 0 0 0 0 0 (-1) 1 0 0 0 0 0 0 0 0 0))), ((q 37), .inl (cy 1, 96, .inl (fun _ => 1))), ((q 41), .inl (cy 0, 40, .inl (upd (fun _ => 0) (0) p0))), ((q 42), .inl (cy 0, 40, .inl (upd (fun _ => 0) (0) ((12 * p2) + p1)))), ((q 43), .inl (cy 0, 40, .inl (upd (fun _ => 0) (0) p3))), ((q 44), .inl (cy 0, 40, .inl (upd (fun _ => 0) (0) p4))), ((q 45), .inl (cy 0, 40, .inl (upd (fun _ => 0) (0) p5))), ((q 46), .inl (cy 0, 40, .inl (fun _ => 0))), ((q 47), .inl (cy 0, 40, .inl (fun _ => 0))), ((q 48), .inl (cy 0, 40, .inl (fun _ => 0))), ((q 51), .inl (cy 0, 40, .inl (fun _ => 0)))] H := hP
                have hD : va_D A [((q 0), .inr (11, (mO q 0 0 0 0 0 0 0 0 (-1) 1 0 0 0 0 0 0 0 0 0))), ((q 37), .inl (cy 1, 96, .inl (fun _ => 1))), ((q 41), .inl (cy 0, 40, .inl (upd (fun _ => 0) (0) p0))), ((q 42), .inl (cy 0, 40, .inl (upd (fun _ => 0) (0) ((12 * p2) + p1)))), ((q 43), .inl (cy 0, 40, .inl (upd (fun _ => 0) (0) p3))), ((q 44), .inl (cy 0, 40, .inl (upd (fun _ => 0) (0) p4))), ((q 45), .inl (cy 0, 40, .inl (upd (fun _ => 0) (0) p5))), ((q 46), .inl (cy 0, 40, .inl (fun _ => 0))), ((q 47), .inl (cy 0, 40, .inl (fun _ => 0))), ((q 48), .inl (cy 0, 40, .inl (fun _ => 0))), ((q 51), .inl (cy 0, 40, .inl (fun _ => 0)))] := hD
                refine lv_aload_n S.1 S.2.1 dX12_sight_164 rfl (lv_at hl 1 rfl) ?_
                refine r_get S hK hP 0 11 rfl rfl inX12 46 (by decide) kw_1556 (v := .ref (q 46)) rfl dX12_sight_165 ?_
                refine lv_aload_n S.1 S.2.1 dX12_sight_168 rfl (lv_at hl 1 rfl) ?_
                refine r_get S hK hP 0 11 rfl rfl inX12 40 (by decide) kw_1550 (v := .int 0) rfl dX12_sight_169 ?_
                refine lv_aload_n S.1 S.2.1 dX12_sight_172 rfl (lv_at hl 1 rfl) ?_
                refine r_get S hK hP 0 11 rfl rfl inX12 33 (by decide) kw_1543 (v := .int 0) rfl dX12_sight_173 ?_
                refine r_iast S hK hP hD hS 7 0 rfl rfl (0) rfl (by decide) (by decide) dX12_sight_176 (fun H locs hP hD hS => ?_)
                have hP : va_P D vwCl [((q 0), .inr (11, (mO q 0 0 0 0 0 0 0 0 (-1) 1 0 0 0 0 0 0 0 0 0))), ((q 37), .inl (cy 1, 96, .inl (fun _ => 1))), ((q 41), .inl (cy 0, 40, .inl (upd (fun _ => 0) (0) p0))), ((q 42), .inl (cy 0, 40, .inl (upd (fun _ => 0) (0) ((12 * p2) + p1)))), ((q 43), .inl (cy 0, 40, .inl (upd (fun _ => 0) (0) p3))), ((q 44), .inl (cy 0, 40, .inl (upd (fun _ => 0) (0) p4))), ((q 45), .inl (cy 0, 40, .inl (upd (fun _ => 0) (0) p5))), ((q 46), .inl (cy 0, 40, .inl (upd (fun _ => 0) (0) 0))), ((q 47), .inl (cy 0, 40, .inl (fun _ => 0))), ((q 48), .inl (cy 0, 40, .inl (fun _ => 0))), ((q 51), .inl (cy 0, 40, .inl (fun _ => 0)))] H := hP
                have hD : va_D A [((q 0), .inr (11, (mO q 0 0 0 0 0 0 0 0 (-1) 1 0 0 0 0 0 0 0 0 0))), ((q 37), .inl (cy 1, 96, .inl (fun _ => 1))), ((q 41), .inl (cy 0, 40, .inl (upd (fun _ => 0) (0) p0))), ((q 42), .inl (cy 0, 40, .inl (upd (fun _ => 0) (0) ((12 * p2) + p1)))), ((q 43), .inl (cy 0, 40, .inl (upd (fun _ => 0) (0) p3))), ((q 44), .inl (cy 0, 40, .inl (upd (fun _ => 0) (0) p4))), ((q 45), .inl (cy 0, 40, .inl (upd (fun _ => 0) (0) p5))), ((q 46), .inl (cy 0, 40, .inl (upd (fun _ => 0) (0) 0))), ((q 47), .inl (cy 0, 40, .inl (fun _ => 0))), ((q 48), .inl (cy 0, 40, .inl (fun _ => 0))), ((q 51), .inl (cy 0, 40, .inl (fun _ => 0)))] := hD
                refine lv_aload_n S.1 S.2.1 dX12_sight_177 rfl (lv_at hl 1 rfl) ?_
                refine r_get S hK hP 0 11 rfl rfl inX12 47 (by decide) kw_1557 (v := .ref (q 47)) rfl dX12_sight_178 ?_
                refine lv_aload_n S.1 S.2.1 dX12_sight_181 rfl (lv_at hl 1 rfl) ?_
                refine r_get S hK hP 0 11 rfl rfl inX12 40 (by decide) kw_1550 (v := .int 0) rfl dX12_sight_182 ?_
                refine lv_iconst (v := (-1)) S.1 S.2.1 dX12_sight_185 (by decide) ?_
                refine r_iast S hK hP hD hS 8 0 rfl rfl (0) rfl (by decide) (by decide) dX12_sight_186 (fun H locs hP hD hS => ?_)
                have hP : va_P D vwCl [((q 0), .inr (11, (mO q 0 0 0 0 0 0 0 0 (-1) 1 0 0 0 0 0 0 0 0 0))), ((q 37), .inl (cy 1, 96, .inl (fun _ => 1))), ((q 41), .inl (cy 0, 40, .inl (upd (fun _ => 0) (0) p0))), ((q 42), .inl (cy 0, 40, .inl (upd (fun _ => 0) (0) ((12 * p2) + p1)))), ((q 43), .inl (cy 0, 40, .inl (upd (fun _ => 0) (0) p3))), ((q 44), .inl (cy 0, 40, .inl (upd (fun _ => 0) (0) p4))), ((q 45), .inl (cy 0, 40, .inl (upd (fun _ => 0) (0) p5))), ((q 46), .inl (cy 0, 40, .inl (upd (fun _ => 0) (0) 0))), ((q 47), .inl (cy 0, 40, .inl (upd (fun _ => 0) (0) (-1)))), ((q 48), .inl (cy 0, 40, .inl (fun _ => 0))), ((q 51), .inl (cy 0, 40, .inl (fun _ => 0)))] H := hP
                have hD : va_D A [((q 0), .inr (11, (mO q 0 0 0 0 0 0 0 0 (-1) 1 0 0 0 0 0 0 0 0 0))), ((q 37), .inl (cy 1, 96, .inl (fun _ => 1))), ((q 41), .inl (cy 0, 40, .inl (upd (fun _ => 0) (0) p0))), ((q 42), .inl (cy 0, 40, .inl (upd (fun _ => 0) (0) ((12 * p2) + p1)))), ((q 43), .inl (cy 0, 40, .inl (upd (fun _ => 0) (0) p3))), ((q 44), .inl (cy 0, 40, .inl (upd (fun _ => 0) (0) p4))), ((q 45), .inl (cy 0, 40, .inl (upd (fun _ => 0) (0) p5))), ((q 46), .inl (cy 0, 40, .inl (upd (fun _ => 0) (0) 0))), ((q 47), .inl (cy 0, 40, .inl (upd (fun _ => 0) (0) (-1)))), ((q 48), .inl (cy 0, 40, .inl (fun _ => 0))), ((q 51), .inl (cy 0, 40, .inl (fun _ => 0)))] := hD
                refine lv_aload_n S.1 S.2.1 dX12_sight_187 rfl (lv_at hl 1 rfl) ?_
                refine r_get S hK hP 0 11 rfl rfl inX12 48 (by decide) kw_1558 (v := .ref (q 48)) rfl dX12_sight_188 ?_
                refine lv_aload_n S.1 S.2.1 dX12_sight_191 rfl (lv_at hl 1 rfl) ?_
                refine r_get S hK hP 0 11 rfl rfl inX12 40 (by decide) kw_1550 (v := .int 0) rfl dX12_sight_192 ?_
                refine lv_iconst (v := (-1)) S.1 S.2.1 dX12_sight_195 (by decide) ?_
                refine r_iast S hK hP hD hS 9 0 rfl rfl (0) rfl (by decide) (by decide) dX12_sight_196 (fun H locs hP hD hS => ?_)
                have hP : va_P D vwCl [((q 0), .inr (11, (mO q 0 0 0 0 0 0 0 0 (-1) 1 0 0 0 0 0 0 0 0 0))), ((q 37), .inl (cy 1, 96, .inl (fun _ => 1))), ((q 41), .inl (cy 0, 40, .inl (upd (fun _ => 0) (0) p0))), ((q 42), .inl (cy 0, 40, .inl (upd (fun _ => 0) (0) ((12 * p2) + p1)))), ((q 43), .inl (cy 0, 40, .inl (upd (fun _ => 0) (0) p3))), ((q 44), .inl (cy 0, 40, .inl (upd (fun _ => 0) (0) p4))), ((q 45), .inl (cy 0, 40, .inl (upd (fun _ => 0) (0) p5))), ((q 46), .inl (cy 0, 40, .inl (upd (fun _ => 0) (0) 0))), ((q 47), .inl (cy 0, 40, .inl (upd (fun _ => 0) (0) (-1)))), ((q 48), .inl (cy 0, 40, .inl (upd (fun _ => 0) (0) (-1)))), ((q 51), .inl (cy 0, 40, .inl (fun _ => 0)))] H := hP
                have hD : va_D A [((q 0), .inr (11, (mO q 0 0 0 0 0 0 0 0 (-1) 1 0 0 0 0 0 0 0 0 0))), ((q 37), .inl (cy 1, 96, .inl (fun _ => 1))), ((q 41), .inl (cy 0, 40, .inl (upd (fun _ => 0) (0) p0))), ((q 42), .inl (cy 0, 40, .inl (upd (fun _ => 0) (0) ((12 * p2) + p1)))), ((q 43), .inl (cy 0, 40, .inl (upd (fun _ => 0) (0) p3))), ((q 44), .inl (cy 0, 40, .inl (upd (fun _ => 0) (0) p4))), ((q 45), .inl (cy 0, 40, .inl (upd (fun _ => 0) (0) p5))), ((q 46), .inl (cy 0, 40, .inl (upd (fun _ => 0) (0) 0))), ((q 47), .inl (cy 0, 40, .inl (upd (fun _ => 0) (0) (-1)))), ((q 48), .inl (cy 0, 40, .inl (upd (fun _ => 0) (0) (-1)))), ((q 51), .inl (cy 0, 40, .inl (fun _ => 0)))] := hD
                refine lv_aload_n S.1 S.2.1 dX12_sight_197 rfl (lv_at hl 1 rfl) ?_
                refine r_get S hK hP 0 11 rfl rfl inX12 51 (by decide) kw_1561 (v := .ref (q 51)) rfl dX12_sight_198 ?_
                refine lv_aload_n S.1 S.2.1 dX12_sight_201 rfl (lv_at hl 1 rfl) ?_
                refine r_get S hK hP 0 11 rfl rfl inX12 40 (by decide) kw_1550 (v := .int 0) rfl dX12_sight_202 ?_
                refine lv_iconst (v := (-1)) S.1 S.2.1 dX12_sight_205 (by decide) ?_
                refine r_iast S hK hP hD hS 10 0 rfl rfl (0) rfl (by decide) (by decide) dX12_sight_206 (fun H locs hP hD hS => ?_)
                have hP : va_P D vwCl [((q 0), .inr (11, (mO q 0 0 0 0 0 0 0 0 (-1) 1 0 0 0 0 0 0 0 0 0))), ((q 37), .inl (cy 1, 96, .inl (fun _ => 1))), ((q 41), .inl (cy 0, 40, .inl (upd (fun _ => 0) (0) p0))), ((q 42), .inl (cy 0, 40, .inl (upd (fun _ => 0) (0) ((12 * p2) + p1)))), ((q 43), .inl (cy 0, 40, .inl (upd (fun _ => 0) (0) p3))), ((q 44), .inl (cy 0, 40, .inl (upd (fun _ => 0) (0) p4))), ((q 45), .inl (cy 0, 40, .inl (upd (fun _ => 0) (0) p5))), ((q 46), .inl (cy 0, 40, .inl (upd (fun _ => 0) (0) 0))), ((q 47), .inl (cy 0, 40, .inl (upd (fun _ => 0) (0) (-1)))), ((q 48), .inl (cy 0, 40, .inl (upd (fun _ => 0) (0) (-1)))), ((q 51), .inl (cy 0, 40, .inl (upd (fun _ => 0) (0) (-1))))] H := hP
                have hD : va_D A [((q 0), .inr (11, (mO q 0 0 0 0 0 0 0 0 (-1) 1 0 0 0 0 0 0 0 0 0))), ((q 37), .inl (cy 1, 96, .inl (fun _ => 1))), ((q 41), .inl (cy 0, 40, .inl (upd (fun _ => 0) (0) p0))), ((q 42), .inl (cy 0, 40, .inl (upd (fun _ => 0) (0) ((12 * p2) + p1)))), ((q 43), .inl (cy 0, 40, .inl (upd (fun _ => 0) (0) p3))), ((q 44), .inl (cy 0, 40, .inl (upd (fun _ => 0) (0) p4))), ((q 45), .inl (cy 0, 40, .inl (upd (fun _ => 0) (0) p5))), ((q 46), .inl (cy 0, 40, .inl (upd (fun _ => 0) (0) 0))), ((q 47), .inl (cy 0, 40, .inl (upd (fun _ => 0) (0) (-1)))), ((q 48), .inl (cy 0, 40, .inl (upd (fun _ => 0) (0) (-1)))), ((q 51), .inl (cy 0, 40, .inl (upd (fun _ => 0) (0) (-1))))] := hD
                refine lv_aload_n S.1 S.2.1 dX12_sight_207 rfl (lv_at hl 1 rfl) ?_
                refine lv_dup S.1 S.2.1 dX12_sight_208 rfl ?_
                refine r_get S hK hP 0 11 rfl rfl inX12 40 (by decide) kw_1550 (v := .int 0) rfl dX12_sight_209 ?_
                refine lv_iconst (v := 1) S.1 S.2.1 dX12_sight_212 (by decide) ?_
                refine r_iadd S dX12_sight_213 (v := 1) (by decide) ?_
                refine r_put S hK hP hD hS 0 11 rfl rfl inX12 40 (by decide) tyX12 tyX12_ok nmX12 kw_1550 (v := .int 1) rfl rfl rfl (Nat.le_of_ble_eq_true rfl) dX12_sight_214 (fun H locs hP hD hS => ?_)
                have hP : va_P D vwCl [((q 0), .inr (11, (mO q 0 0 0 0 0 0 0 0 (-1) 1 1 0 0 0 0 0 0 0 0))), ((q 37), .inl (cy 1, 96, .inl (fun _ => 1))), ((q 41), .inl (cy 0, 40, .inl (upd (fun _ => 0) (0) p0))), ((q 42), .inl (cy 0, 40, .inl (upd (fun _ => 0) (0) ((12 * p2) + p1)))), ((q 43), .inl (cy 0, 40, .inl (upd (fun _ => 0) (0) p3))), ((q 44), .inl (cy 0, 40, .inl (upd (fun _ => 0) (0) p4))), ((q 45), .inl (cy 0, 40, .inl (upd (fun _ => 0) (0) p5))), ((q 46), .inl (cy 0, 40, .inl (upd (fun _ => 0) (0) 0))), ((q 47), .inl (cy 0, 40, .inl (upd (fun _ => 0) (0) (-1)))), ((q 48), .inl (cy 0, 40, .inl (upd (fun _ => 0) (0) (-1)))), ((q 51), .inl (cy 0, 40, .inl (upd (fun _ => 0) (0) (-1))))] H := hP
                have hD : va_D A [((q 0), .inr (11, (mO q 0 0 0 0 0 0 0 0 (-1) 1 1 0 0 0 0 0 0 0 0))), ((q 37), .inl (cy 1, 96, .inl (fun _ => 1))), ((q 41), .inl (cy 0, 40, .inl (upd (fun _ => 0) (0) p0))), ((q 42), .inl (cy 0, 40, .inl (upd (fun _ => 0) (0) ((12 * p2) + p1)))), ((q 43), .inl (cy 0, 40, .inl (upd (fun _ => 0) (0) p3))), ((q 44), .inl (cy 0, 40, .inl (upd (fun _ => 0) (0) p4))), ((q 45), .inl (cy 0, 40, .inl (upd (fun _ => 0) (0) p5))), ((q 46), .inl (cy 0, 40, .inl (upd (fun _ => 0) (0) 0))), ((q 47), .inl (cy 0, 40, .inl (upd (fun _ => 0) (0) (-1)))), ((q 48), .inl (cy 0, 40, .inl (upd (fun _ => 0) (0) (-1)))), ((q 51), .inl (cy 0, 40, .inl (upd (fun _ => 0) (0) (-1))))] := hD
                refine lv_aload_n S.1 S.2.1 dX12_sight_217 rfl (lv_at hl 1 rfl) ?_
                refine lv_iconst (v := 1) S.1 S.2.1 dX12_sight_218 (by decide) ?_
                refine r_put S hK hP hD hS 0 11 rfl rfl inX12 35 (by decide) tyX12 tyX12_ok nmX12 kw_1545 (v := .int 1) rfl (by decide) (by decide) (Nat.le_of_ble_eq_true rfl) dX12_sight_219 (fun H locs hP hD hS => ?_)
                have hP : va_P D vwCl [((q 0), .inr (11, (mO q 0 0 0 0 0 0 0 0 (-1) 1 1 0 0 0 0 0 0 0 0))), ((q 37), .inl (cy 1, 96, .inl (fun _ => 1))), ((q 41), .inl (cy 0, 40, .inl (upd (fun _ => 0) (0) p0))), ((q 42), .inl (cy 0, 40, .inl (upd (fun _ => 0) (0) ((12 * p2) + p1)))), ((q 43), .inl (cy 0, 40, .inl (upd (fun _ => 0) (0) p3))), ((q 44), .inl (cy 0, 40, .inl (upd (fun _ => 0) (0) p4))), ((q 45), .inl (cy 0, 40, .inl (upd (fun _ => 0) (0) p5))), ((q 46), .inl (cy 0, 40, .inl (upd (fun _ => 0) (0) 0))), ((q 47), .inl (cy 0, 40, .inl (upd (fun _ => 0) (0) (-1)))), ((q 48), .inl (cy 0, 40, .inl (upd (fun _ => 0) (0) (-1)))), ((q 51), .inl (cy 0, 40, .inl (upd (fun _ => 0) (0) (-1))))] H := hP
                have hD : va_D A [((q 0), .inr (11, (mO q 0 0 0 0 0 0 0 0 (-1) 1 1 0 0 0 0 0 0 0 0))), ((q 37), .inl (cy 1, 96, .inl (fun _ => 1))), ((q 41), .inl (cy 0, 40, .inl (upd (fun _ => 0) (0) p0))), ((q 42), .inl (cy 0, 40, .inl (upd (fun _ => 0) (0) ((12 * p2) + p1)))), ((q 43), .inl (cy 0, 40, .inl (upd (fun _ => 0) (0) p3))), ((q 44), .inl (cy 0, 40, .inl (upd (fun _ => 0) (0) p4))), ((q 45), .inl (cy 0, 40, .inl (upd (fun _ => 0) (0) p5))), ((q 46), .inl (cy 0, 40, .inl (upd (fun _ => 0) (0) 0))), ((q 47), .inl (cy 0, 40, .inl (upd (fun _ => 0) (0) (-1)))), ((q 48), .inl (cy 0, 40, .inl (upd (fun _ => 0) (0) (-1)))), ((q 51), .inl (cy 0, 40, .inl (upd (fun _ => 0) (0) (-1))))] := hD
                refine lv_aload_n S.1 S.2.1 dX12_sight_222 rfl (lv_at hl 1 rfl) ?_
                refine r_get S hK hP 0 11 rfl rfl inX12 40 (by decide) kw_1550 (v := .int 1) rfl dX12_sight_223 ?_
                refine lv_iconst (v := 1) S.1 S.2.1 dX12_sight_226 (by decide) ?_
                refine r_isub S dX12_sight_227 (v := 0) (by decide) ?_
                exact ci_ret (u := ()) S hr hlk rfl hK (hP.sub [] rfl) (hD.sub [] (by decide) rfl) hS (Or.inl ⟨rfl, (by omega)⟩) (by decide) (by decide) dX12_sight_228
              · refine lv_aload_n S.1 S.2.1 dX12_sight_81 rfl (lv_at hl 1 rfl) ?_
                refine r_get S hK hP 0 11 rfl rfl inX12 37 (by decide) kw_1547 (v := .ref (q 37)) rfl dX12_sight_82 ?_
                refine lv_bipush (v := 12) S.1 S.2.1 dX12_sight_85 (by decide) ?_
                refine lv_iload_n S.1 S.2.1 dX12_sight_87 rfl (lv_at hl 4 rfl) ?_
                refine r_imul S dX12_sight_88 (v := (12 * p2)) rfl ?_
                refine lv_iload_n S.1 S.2.1 dX12_sight_89 rfl (lv_at hl 3 rfl) ?_
                refine r_iadd S dX12_sight_90 (v := ((12 * p2) + p1)) rfl ?_
                obtain ⟨j91_3, hj91_3, qj91_3, zj91_3⟩ := i_nat 96 (zadd (x := (12 * p2)) (y := p1) (X := (12 * z2)) (Y := z1) (zmul (x := 12) (y := p2) (X := 12) (Y := z2) rfl h2 (by omega) (by omega)) h1 (by omega) (by omega)) (by omega) (by omega)
                refine r_zald S hK hP 1 1 rfl rfl (j91_3) qj91_3 hj91_3 (by decide) (v := 1) rfl dX12_sight_91 ?_
                refine r_if_eq S 1 rfl dX12_sight_92 (tgt := 104) (by decide) (fun c => absurd c (by decide)) (fun _ => ?_)
                refine lv_aload_n S.1 S.2.1 dX12_sight_95 rfl (lv_at hl 1 rfl) ?_
                refine r_get S hK hP 0 11 rfl rfl inX12 40 (by decide) kw_1550 (v := .int 0) rfl dX12_sight_96 ?_
                refine lv_bipush (v := 40) S.1 S.2.1 dX12_sight_99 (by decide) ?_
                refine r_icmp_ne S 0 40 rfl rfl dX12_sight_101 (tgt := 106) (by decide) (fun _ => ?_) (fun c => absurd c (by decide))
                refine lv_aload_n S.1 S.2.1 dX12_sight_106 rfl (lv_at hl 1 rfl) ?_
                refine r_get S hK hP 0 11 rfl rfl inX12 41 (by decide) kw_1551 (v := .ref (q 41)) rfl dX12_sight_107 ?_
                refine lv_aload_n S.1 S.2.1 dX12_sight_110 rfl (lv_at hl 1 rfl) ?_
                refine r_get S hK hP 0 11 rfl rfl inX12 40 (by decide) kw_1550 (v := .int 0) rfl dX12_sight_111 ?_
                refine lv_iload_n S.1 S.2.1 dX12_sight_114 rfl (lv_at hl 2 rfl) ?_
                refine r_iast S hK hP hD hS 2 0 rfl rfl (0) rfl (by decide) (by decide) dX12_sight_115 (fun H locs hP hD hS => ?_)
                have hP : va_P D vwCl [((q 0), .inr (11, (mO q 0 0 0 0 0 0 0 0 (-1) 1 0 0 0 0 0 0 0 0 0))), ((q 37), .inl (cy 1, 96, .inl (fun _ => 1))), ((q 41), .inl (cy 0, 40, .inl (upd (fun _ => 0) (0) p0))), ((q 42), .inl (cy 0, 40, .inl (fun _ => 0))), ((q 43), .inl (cy 0, 40, .inl (fun _ => 0))), ((q 44), .inl (cy 0, 40, .inl (fun _ => 0))), ((q 45), .inl (cy 0, 40, .inl (fun _ => 0))), ((q 46), .inl (cy 0, 40, .inl (fun _ => 0))), ((q 47), .inl (cy 0, 40, .inl (fun _ => 0))), ((q 48), .inl (cy 0, 40, .inl (fun _ => 0))), ((q 51), .inl (cy 0, 40, .inl (fun _ => 0)))] H := hP
                have hD : va_D A [((q 0), .inr (11, (mO q 0 0 0 0 0 0 0 0 (-1) 1 0 0 0 0 0 0 0 0 0))), ((q 37), .inl (cy 1, 96, .inl (fun _ => 1))), ((q 41), .inl (cy 0, 40, .inl (upd (fun _ => 0) (0) p0))), ((q 42), .inl (cy 0, 40, .inl (fun _ => 0))), ((q 43), .inl (cy 0, 40, .inl (fun _ => 0))), ((q 44), .inl (cy 0, 40, .inl (fun _ => 0))), ((q 45), .inl (cy 0, 40, .inl (fun _ => 0))), ((q 46), .inl (cy 0, 40, .inl (fun _ => 0))), ((q 47), .inl (cy 0, 40, .inl (fun _ => 0))), ((q 48), .inl (cy 0, 40, .inl (fun _ => 0))), ((q 51), .inl (cy 0, 40, .inl (fun _ => 0)))] := hD
                refine lv_aload_n S.1 S.2.1 dX12_sight_116 rfl (lv_at hl 1 rfl) ?_
                refine r_get S hK hP 0 11 rfl rfl inX12 42 (by decide) kw_1552 (v := .ref (q 42)) rfl dX12_sight_117 ?_
                refine lv_aload_n S.1 S.2.1 dX12_sight_120 rfl (lv_at hl 1 rfl) ?_
                refine r_get S hK hP 0 11 rfl rfl inX12 40 (by decide) kw_1550 (v := .int 0) rfl dX12_sight_121 ?_
                refine lv_bipush (v := 12) S.1 S.2.1 dX12_sight_124 (by decide) ?_
                refine lv_iload_n S.1 S.2.1 dX12_sight_126 rfl (lv_at hl 4 rfl) ?_
                refine r_imul S dX12_sight_127 (v := (12 * p2)) rfl ?_
                refine lv_iload_n S.1 S.2.1 dX12_sight_128 rfl (lv_at hl 3 rfl) ?_
                refine r_iadd S dX12_sight_129 (v := ((12 * p2) + p1)) rfl ?_
                refine r_iast S hK hP hD hS 3 0 rfl rfl (0) rfl (by decide) (by decide) dX12_sight_130 (fun H locs hP hD hS => ?_)
                have hP : va_P D vwCl [((q 0), .inr (11, (mO q 0 0 0 0 0 0 0 0 (-1) 1 0 0 0 0 0 0 0 0 0))), ((q 37), .inl (cy 1, 96, .inl (fun _ => 1))), ((q 41), .inl (cy 0, 40, .inl (upd (fun _ => 0) (0) p0))), ((q 42), .inl (cy 0, 40, .inl (upd (fun _ => 0) (0) ((12 * p2) + p1)))), ((q 43), .inl (cy 0, 40, .inl (fun _ => 0))), ((q 44), .inl (cy 0, 40, .inl (fun _ => 0))), ((q 45), .inl (cy 0, 40, .inl (fun _ => 0))), ((q 46), .inl (cy 0, 40, .inl (fun _ => 0))), ((q 47), .inl (cy 0, 40, .inl (fun _ => 0))), ((q 48), .inl (cy 0, 40, .inl (fun _ => 0))), ((q 51), .inl (cy 0, 40, .inl (fun _ => 0)))] H := hP
                have hD : va_D A [((q 0), .inr (11, (mO q 0 0 0 0 0 0 0 0 (-1) 1 0 0 0 0 0 0 0 0 0))), ((q 37), .inl (cy 1, 96, .inl (fun _ => 1))), ((q 41), .inl (cy 0, 40, .inl (upd (fun _ => 0) (0) p0))), ((q 42), .inl (cy 0, 40, .inl (upd (fun _ => 0) (0) ((12 * p2) + p1)))), ((q 43), .inl (cy 0, 40, .inl (fun _ => 0))), ((q 44), .inl (cy 0, 40, .inl (fun _ => 0))), ((q 45), .inl (cy 0, 40, .inl (fun _ => 0))), ((q 46), .inl (cy 0, 40, .inl (fun _ => 0))), ((q 47), .inl (cy 0, 40, .inl (fun _ => 0))), ((q 48), .inl (cy 0, 40, .inl (fun _ => 0))), ((q 51), .inl (cy 0, 40, .inl (fun _ => 0)))] := hD
                refine lv_aload_n S.1 S.2.1 dX12_sight_131 rfl (lv_at hl 1 rfl) ?_
                refine r_get S hK hP 0 11 rfl rfl inX12 43 (by decide) kw_1553 (v := .ref (q 43)) rfl dX12_sight_132 ?_
                refine lv_aload_n S.1 S.2.1 dX12_sight_135 rfl (lv_at hl 1 rfl) ?_
                refine r_get S hK hP 0 11 rfl rfl inX12 40 (by decide) kw_1550 (v := .int 0) rfl dX12_sight_136 ?_
                refine lv_iload S.1 S.2.1 dX12_sight_139 (lv_at hl 5 rfl) ?_
                refine r_iast S hK hP hD hS 4 0 rfl rfl (0) rfl (by decide) (by decide) dX12_sight_141 (fun H locs hP hD hS => ?_)
                have hP : va_P D vwCl [((q 0), .inr (11, (mO q 0 0 0 0 0 0 0 0 (-1) 1 0 0 0 0 0 0 0 0 0))), ((q 37), .inl (cy 1, 96, .inl (fun _ => 1))), ((q 41), .inl (cy 0, 40, .inl (upd (fun _ => 0) (0) p0))), ((q 42), .inl (cy 0, 40, .inl (upd (fun _ => 0) (0) ((12 * p2) + p1)))), ((q 43), .inl (cy 0, 40, .inl (upd (fun _ => 0) (0) p3))), ((q 44), .inl (cy 0, 40, .inl (fun _ => 0))), ((q 45), .inl (cy 0, 40, .inl (fun _ => 0))), ((q 46), .inl (cy 0, 40, .inl (fun _ => 0))), ((q 47), .inl (cy 0, 40, .inl (fun _ => 0))), ((q 48), .inl (cy 0, 40, .inl (fun _ => 0))), ((q 51), .inl (cy 0, 40, .inl (fun _ => 0)))] H := hP
                have hD : va_D A [((q 0), .inr (11, (mO q 0 0 0 0 0 0 0 0 (-1) 1 0 0 0 0 0 0 0 0 0))), ((q 37), .inl (cy 1, 96, .inl (fun _ => 1))), ((q 41), .inl (cy 0, 40, .inl (upd (fun _ => 0) (0) p0))), ((q 42), .inl (cy 0, 40, .inl (upd (fun _ => 0) (0) ((12 * p2) + p1)))), ((q 43), .inl (cy 0, 40, .inl (upd (fun _ => 0) (0) p3))), ((q 44), .inl (cy 0, 40, .inl (fun _ => 0))), ((q 45), .inl (cy 0, 40, .inl (fun _ => 0))), ((q 46), .inl (cy 0, 40, .inl (fun _ => 0))), ((q 47), .inl (cy 0, 40, .inl (fun _ => 0))), ((q 48), .inl (cy 0, 40, .inl (fun _ => 0))), ((q 51), .inl (cy 0, 40, .inl (fun _ => 0)))] := hD
                refine lv_aload_n S.1 S.2.1 dX12_sight_142 rfl (lv_at hl 1 rfl) ?_
                refine r_get S hK hP 0 11 rfl rfl inX12 44 (by decide) kw_1554 (v := .ref (q 44)) rfl dX12_sight_143 ?_
                refine lv_aload_n S.1 S.2.1 dX12_sight_146 rfl (lv_at hl 1 rfl) ?_
                refine r_get S hK hP 0 11 rfl rfl inX12 40 (by decide) kw_1550 (v := .int 0) rfl dX12_sight_147 ?_
                refine lv_iload S.1 S.2.1 dX12_sight_150 (lv_at hl 6 rfl) ?_
                refine r_iast S hK hP hD hS 5 0 rfl rfl (0) rfl (by decide) (by decide) dX12_sight_152 (fun H locs hP hD hS => ?_)
                have hP : va_P D vwCl [((q 0), .inr (11, (mO q 0 0 0 0 0 0 0 0 (-1) 1 0 0 0 0 0 0 0 0 0))), ((q 37), .inl (cy 1, 96, .inl (fun _ => 1))), ((q 41), .inl (cy 0, 40, .inl (upd (fun _ => 0) (0) p0))), ((q 42), .inl (cy 0, 40, .inl (upd (fun _ => 0) (0) ((12 * p2) + p1)))), ((q 43), .inl (cy 0, 40, .inl (upd (fun _ => 0) (0) p3))), ((q 44), .inl (cy 0, 40, .inl (upd (fun _ => 0) (0) p4))), ((q 45), .inl (cy 0, 40, .inl (fun _ => 0))), ((q 46), .inl (cy 0, 40, .inl (fun _ => 0))), ((q 47), .inl (cy 0, 40, .inl (fun _ => 0))), ((q 48), .inl (cy 0, 40, .inl (fun _ => 0))), ((q 51), .inl (cy 0, 40, .inl (fun _ => 0)))] H := hP
                have hD : va_D A [((q 0), .inr (11, (mO q 0 0 0 0 0 0 0 0 (-1) 1 0 0 0 0 0 0 0 0 0))), ((q 37), .inl (cy 1, 96, .inl (fun _ => 1))), ((q 41), .inl (cy 0, 40, .inl (upd (fun _ => 0) (0) p0))), ((q 42), .inl (cy 0, 40, .inl (upd (fun _ => 0) (0) ((12 * p2) + p1)))), ((q 43), .inl (cy 0, 40, .inl (upd (fun _ => 0) (0) p3))), ((q 44), .inl (cy 0, 40, .inl (upd (fun _ => 0) (0) p4))), ((q 45), .inl (cy 0, 40, .inl (fun _ => 0))), ((q 46), .inl (cy 0, 40, .inl (fun _ => 0))), ((q 47), .inl (cy 0, 40, .inl (fun _ => 0))), ((q 48), .inl (cy 0, 40, .inl (fun _ => 0))), ((q 51), .inl (cy 0, 40, .inl (fun _ => 0)))] := hD
                refine lv_aload_n S.1 S.2.1 dX12_sight_153 rfl (lv_at hl 1 rfl) ?_
                refine r_get S hK hP 0 11 rfl rfl inX12 45 (by decide) kw_1555 (v := .ref (q 45)) rfl dX12_sight_154 ?_
                refine lv_aload_n S.1 S.2.1 dX12_sight_157 rfl (lv_at hl 1 rfl) ?_
                refine r_get S hK hP 0 11 rfl rfl inX12 40 (by decide) kw_1550 (v := .int 0) rfl dX12_sight_158 ?_
                refine lv_iload S.1 S.2.1 dX12_sight_161 (lv_at hl 7 rfl) ?_
                refine r_iast S hK hP hD hS 6 0 rfl rfl (0) rfl (by decide) (by decide) dX12_sight_163 (fun H locs hP hD hS => ?_)
                have hP : va_P D vwCl [((q 0), .inr (11, (mO q 0 0 0 0 0 0 0 0 (-1) 1 0 0 0 0 0 0 0 0 0))), ((q 37), .inl (cy 1, 96, .inl (fun _ => 1))), ((q 41), .inl (cy 0, 40, .inl (upd (fun _ => 0) (0) p0))), ((q 42), .inl (cy 0, 40, .inl (upd (fun _ => 0) (0) ((12 * p2) + p1)))), ((q 43), .inl (cy 0, 40, .inl (upd (fun _ => 0) (0) p3))), ((q 44), .inl (cy 0, 40, .inl (upd (fun _ => 0) (0) p4))), ((q 45), .inl (cy 0, 40, .inl (upd (fun _ => 0) (0) p5))), ((q 46), .inl (cy 0, 40, .inl (fun _ => 0))), ((q 47), .inl (cy 0, 40, .inl (fun _ => 0))), ((q 48), .inl (cy 0, 40, .inl (fun _ => 0))), ((q 51), .inl (cy 0, 40, .inl (fun _ => 0)))] H := hP
                have hD : va_D A [((q 0), .inr (11, (mO q 0 0 0 0 0 0 0 0 (-1) 1 0 0 0 0 0 0 0 0 0))), ((q 37), .inl (cy 1, 96, .inl (fun _ => 1))), ((q 41), .inl (cy 0, 40, .inl (upd (fun _ => 0) (0) p0))), ((q 42), .inl (cy 0, 40, .inl (upd (fun _ => 0) (0) ((12 * p2) + p1)))), ((q 43), .inl (cy 0, 40, .inl (upd (fun _ => 0) (0) p3))), ((q 44), .inl (cy 0, 40, .inl (upd (fun _ => 0) (0) p4))), ((q 45), .inl (cy 0, 40, .inl (upd (fun _ => 0) (0) p5))), ((q 46), .inl (cy 0, 40, .inl (fun _ => 0))), ((q 47), .inl (cy 0, 40, .inl (fun _ => 0))), ((q 48), .inl (cy 0, 40, .inl (fun _ => 0))), ((q 51), .inl (cy 0, 40, .inl (fun _ => 0)))] := hD
                refine lv_aload_n S.1 S.2.1 dX12_sight_164 rfl (lv_at hl 1 rfl) ?_
                refine r_get S hK hP 0 11 rfl rfl inX12 46 (by decide) kw_1556 (v := .ref (q 46)) rfl dX12_sight_165 ?_
                refine lv_aload_n S.1 S.2.1 dX12_sight_168 rfl (lv_at hl 1 rfl) ?_
                refine r_get S hK hP 0 11 rfl rfl inX12 40 (by decide) kw_1550 (v := .int 0) rfl dX12_sight_169 ?_
                refine lv_aload_n S.1 S.2.1 dX12_sight_172 rfl (lv_at hl 1 rfl) ?_
                refine r_get S hK hP 0 11 rfl rfl inX12 33 (by decide) kw_1543 (v := .int 0) rfl dX12_sight_173 ?_
                refine r_iast S hK hP hD hS 7 0 rfl rfl (0) rfl (by decide) (by decide) dX12_sight_176 (fun H locs hP hD hS => ?_)
                have hP : va_P D vwCl [((q 0), .inr (11, (mO q 0 0 0 0 0 0 0 0 (-1) 1 0 0 0 0 0 0 0 0 0))), ((q 37), .inl (cy 1, 96, .inl (fun _ => 1))), ((q 41), .inl (cy 0, 40, .inl (upd (fun _ => 0) (0) p0))), ((q 42), .inl (cy 0, 40, .inl (upd (fun _ => 0) (0) ((12 * p2) + p1)))), ((q 43), .inl (cy 0, 40, .inl (upd (fun _ => 0) (0) p3))), ((q 44), .inl (cy 0, 40, .inl (upd (fun _ => 0) (0) p4))), ((q 45), .inl (cy 0, 40, .inl (upd (fun _ => 0) (0) p5))), ((q 46), .inl (cy 0, 40, .inl (upd (fun _ => 0) (0) 0))), ((q 47), .inl (cy 0, 40, .inl (fun _ => 0))), ((q 48), .inl (cy 0, 40, .inl (fun _ => 0))), ((q 51), .inl (cy 0, 40, .inl (fun _ => 0)))] H := hP
                have hD : va_D A [((q 0), .inr (11, (mO q 0 0 0 0 0 0 0 0 (-1) 1 0 0 0 0 0 0 0 0 0))), ((q 37), .inl (cy 1, 96, .inl (fun _ => 1))), ((q 41), .inl (cy 0, 40, .inl (upd (fun _ => 0) (0) p0))), ((q 42), .inl (cy 0, 40, .inl (upd (fun _ => 0) (0) ((12 * p2) + p1)))), ((q 43), .inl (cy 0, 40, .inl (upd (fun _ => 0) (0) p3))), ((q 44), .inl (cy 0, 40, .inl (upd (fun _ => 0) (0) p4))), ((q 45), .inl (cy 0, 40, .inl (upd (fun _ => 0) (0) p5))), ((q 46), .inl (cy 0, 40, .inl (upd (fun _ => 0) (0) 0))), ((q 47), .inl (cy 0, 40, .inl (fun _ => 0))), ((q 48), .inl (cy 0, 40, .inl (fun _ => 0))), ((q 51), .inl (cy 0, 40, .inl (fun _ => 0)))] := hD
                refine lv_aload_n S.1 S.2.1 dX12_sight_177 rfl (lv_at hl 1 rfl) ?_
                refine r_get S hK hP 0 11 rfl rfl inX12 47 (by decide) kw_1557 (v := .ref (q 47)) rfl dX12_sight_178 ?_
                refine lv_aload_n S.1 S.2.1 dX12_sight_181 rfl (lv_at hl 1 rfl) ?_
                refine r_get S hK hP 0 11 rfl rfl inX12 40 (by decide) kw_1550 (v := .int 0) rfl dX12_sight_182 ?_
                refine lv_iconst (v := (-1)) S.1 S.2.1 dX12_sight_185 (by decide) ?_
                refine r_iast S hK hP hD hS 8 0 rfl rfl (0) rfl (by decide) (by decide) dX12_sight_186 (fun H locs hP hD hS => ?_)
                have hP : va_P D vwCl [((q 0), .inr (11, (mO q 0 0 0 0 0 0 0 0 (-1) 1 0 0 0 0 0 0 0 0 0))), ((q 37), .inl (cy 1, 96, .inl (fun _ => 1))), ((q 41), .inl (cy 0, 40, .inl (upd (fun _ => 0) (0) p0))), ((q 42), .inl (cy 0, 40, .inl (upd (fun _ => 0) (0) ((12 * p2) + p1)))), ((q 43), .inl (cy 0, 40, .inl (upd (fun _ => 0) (0) p3))), ((q 44), .inl (cy 0, 40, .inl (upd (fun _ => 0) (0) p4))), ((q 45), .inl (cy 0, 40, .inl (upd (fun _ => 0) (0) p5))), ((q 46), .inl (cy 0, 40, .inl (upd (fun _ => 0) (0) 0))), ((q 47), .inl (cy 0, 40, .inl (upd (fun _ => 0) (0) (-1)))), ((q 48), .inl (cy 0, 40, .inl (fun _ => 0))), ((q 51), .inl (cy 0, 40, .inl (fun _ => 0)))] H := hP
                have hD : va_D A [((q 0), .inr (11, (mO q 0 0 0 0 0 0 0 0 (-1) 1 0 0 0 0 0 0 0 0 0))), ((q 37), .inl (cy 1, 96, .inl (fun _ => 1))), ((q 41), .inl (cy 0, 40, .inl (upd (fun _ => 0) (0) p0))), ((q 42), .inl (cy 0, 40, .inl (upd (fun _ => 0) (0) ((12 * p2) + p1)))), ((q 43), .inl (cy 0, 40, .inl (upd (fun _ => 0) (0) p3))), ((q 44), .inl (cy 0, 40, .inl (upd (fun _ => 0) (0) p4))), ((q 45), .inl (cy 0, 40, .inl (upd (fun _ => 0) (0) p5))), ((q 46), .inl (cy 0, 40, .inl (upd (fun _ => 0) (0) 0))), ((q 47), .inl (cy 0, 40, .inl (upd (fun _ => 0) (0) (-1)))), ((q 48), .inl (cy 0, 40, .inl (fun _ => 0))), ((q 51), .inl (cy 0, 40, .inl (fun _ => 0)))] := hD
                refine lv_aload_n S.1 S.2.1 dX12_sight_187 rfl (lv_at hl 1 rfl) ?_
                refine r_get S hK hP 0 11 rfl rfl inX12 48 (by decide) kw_1558 (v := .ref (q 48)) rfl dX12_sight_188 ?_
                refine lv_aload_n S.1 S.2.1 dX12_sight_191 rfl (lv_at hl 1 rfl) ?_
                refine r_get S hK hP 0 11 rfl rfl inX12 40 (by decide) kw_1550 (v := .int 0) rfl dX12_sight_192 ?_
                refine lv_iconst (v := (-1)) S.1 S.2.1 dX12_sight_195 (by decide) ?_
                refine r_iast S hK hP hD hS 9 0 rfl rfl (0) rfl (by decide) (by decide) dX12_sight_196 (fun H locs hP hD hS => ?_)
                have hP : va_P D vwCl [((q 0), .inr (11, (mO q 0 0 0 0 0 0 0 0 (-1) 1 0 0 0 0 0 0 0 0 0))), ((q 37), .inl (cy 1, 96, .inl (fun _ => 1))), ((q 41), .inl (cy 0, 40, .inl (upd (fun _ => 0) (0) p0))), ((q 42), .inl (cy 0, 40, .inl (upd (fun _ => 0) (0) ((12 * p2) + p1)))), ((q 43), .inl (cy 0, 40, .inl (upd (fun _ => 0) (0) p3))), ((q 44), .inl (cy 0, 40, .inl (upd (fun _ => 0) (0) p4))), ((q 45), .inl (cy 0, 40, .inl (upd (fun _ => 0) (0) p5))), ((q 46), .inl (cy 0, 40, .inl (upd (fun _ => 0) (0) 0))), ((q 47), .inl (cy 0, 40, .inl (upd (fun _ => 0) (0) (-1)))), ((q 48), .inl (cy 0, 40, .inl (upd (fun _ => 0) (0) (-1)))), ((q 51), .inl (cy 0, 40, .inl (fun _ => 0)))] H := hP
                have hD : va_D A [((q 0), .inr (11, (mO q 0 0 0 0 0 0 0 0 (-1) 1 0 0 0 0 0 0 0 0 0))), ((q 37), .inl (cy 1, 96, .inl (fun _ => 1))), ((q 41), .inl (cy 0, 40, .inl (upd (fun _ => 0) (0) p0))), ((q 42), .inl (cy 0, 40, .inl (upd (fun _ => 0) (0) ((12 * p2) + p1)))), ((q 43), .inl (cy 0, 40, .inl (upd (fun _ => 0) (0) p3))), ((q 44), .inl (cy 0, 40, .inl (upd (fun _ => 0) (0) p4))), ((q 45), .inl (cy 0, 40, .inl (upd (fun _ => 0) (0) p5))), ((q 46), .inl (cy 0, 40, .inl (upd (fun _ => 0) (0) 0))), ((q 47), .inl (cy 0, 40, .inl (upd (fun _ => 0) (0) (-1)))), ((q 48), .inl (cy 0, 40, .inl (upd (fun _ => 0) (0) (-1)))), ((q 51), .inl (cy 0, 40, .inl (fun _ => 0)))] := hD
                refine lv_aload_n S.1 S.2.1 dX12_sight_197 rfl (lv_at hl 1 rfl) ?_
                refine r_get S hK hP 0 11 rfl rfl inX12 51 (by decide) kw_1561 (v := .ref (q 51)) rfl dX12_sight_198 ?_
                refine lv_aload_n S.1 S.2.1 dX12_sight_201 rfl (lv_at hl 1 rfl) ?_
                refine r_get S hK hP 0 11 rfl rfl inX12 40 (by decide) kw_1550 (v := .int 0) rfl dX12_sight_202 ?_
                refine lv_iconst (v := (-1)) S.1 S.2.1 dX12_sight_205 (by decide) ?_
                refine r_iast S hK hP hD hS 10 0 rfl rfl (0) rfl (by decide) (by decide) dX12_sight_206 (fun H locs hP hD hS => ?_)
                have hP : va_P D vwCl [((q 0), .inr (11, (mO q 0 0 0 0 0 0 0 0 (-1) 1 0 0 0 0 0 0 0 0 0))), ((q 37), .inl (cy 1, 96, .inl (fun _ => 1))), ((q 41), .inl (cy 0, 40, .inl (upd (fun _ => 0) (0) p0))), ((q 42), .inl (cy 0, 40, .inl (upd (fun _ => 0) (0) ((12 * p2) + p1)))), ((q 43), .inl (cy 0, 40, .inl (upd (fun _ => 0) (0) p3))), ((q 44), .inl (cy 0, 40, .inl (upd (fun _ => 0) (0) p4))), ((q 45), .inl (cy 0, 40, .inl (upd (fun _ => 0) (0) p5))), ((q 46), .inl (cy 0, 40, .inl (upd (fun _ => 0) (0) 0))), ((q 47), .inl (cy 0, 40, .inl (upd (fun _ => 0) (0) (-1)))), ((q 48), .inl (cy 0, 40, .inl (upd (fun _ => 0) (0) (-1)))), ((q 51), .inl (cy 0, 40, .inl (upd (fun _ => 0) (0) (-1))))] H := hP
                have hD : va_D A [((q 0), .inr (11, (mO q 0 0 0 0 0 0 0 0 (-1) 1 0 0 0 0 0 0 0 0 0))), ((q 37), .inl (cy 1, 96, .inl (fun _ => 1))), ((q 41), .inl (cy 0, 40, .inl (upd (fun _ => 0) (0) p0))), ((q 42), .inl (cy 0, 40, .inl (upd (fun _ => 0) (0) ((12 * p2) + p1)))), ((q 43), .inl (cy 0, 40, .inl (upd (fun _ => 0) (0) p3))), ((q 44), .inl (cy 0, 40, .inl (upd (fun _ => 0) (0) p4))), ((q 45), .inl (cy 0, 40, .inl (upd (fun _ => 0) (0) p5))), ((q 46), .inl (cy 0, 40, .inl (upd (fun _ => 0) (0) 0))), ((q 47), .inl (cy 0, 40, .inl (upd (fun _ => 0) (0) (-1)))), ((q 48), .inl (cy 0, 40, .inl (upd (fun _ => 0) (0) (-1)))), ((q 51), .inl (cy 0, 40, .inl (upd (fun _ => 0) (0) (-1))))] := hD
                refine lv_aload_n S.1 S.2.1 dX12_sight_207 rfl (lv_at hl 1 rfl) ?_
                refine lv_dup S.1 S.2.1 dX12_sight_208 rfl ?_
                refine r_get S hK hP 0 11 rfl rfl inX12 40 (by decide) kw_1550 (v := .int 0) rfl dX12_sight_209 ?_
                refine lv_iconst (v := 1) S.1 S.2.1 dX12_sight_212 (by decide) ?_
                refine r_iadd S dX12_sight_213 (v := 1) (by decide) ?_
                refine r_put S hK hP hD hS 0 11 rfl rfl inX12 40 (by decide) tyX12 tyX12_ok nmX12 kw_1550 (v := .int 1) rfl rfl rfl (Nat.le_of_ble_eq_true rfl) dX12_sight_214 (fun H locs hP hD hS => ?_)
                have hP : va_P D vwCl [((q 0), .inr (11, (mO q 0 0 0 0 0 0 0 0 (-1) 1 1 0 0 0 0 0 0 0 0))), ((q 37), .inl (cy 1, 96, .inl (fun _ => 1))), ((q 41), .inl (cy 0, 40, .inl (upd (fun _ => 0) (0) p0))), ((q 42), .inl (cy 0, 40, .inl (upd (fun _ => 0) (0) ((12 * p2) + p1)))), ((q 43), .inl (cy 0, 40, .inl (upd (fun _ => 0) (0) p3))), ((q 44), .inl (cy 0, 40, .inl (upd (fun _ => 0) (0) p4))), ((q 45), .inl (cy 0, 40, .inl (upd (fun _ => 0) (0) p5))), ((q 46), .inl (cy 0, 40, .inl (upd (fun _ => 0) (0) 0))), ((q 47), .inl (cy 0, 40, .inl (upd (fun _ => 0) (0) (-1)))), ((q 48), .inl (cy 0, 40, .inl (upd (fun _ => 0) (0) (-1)))), ((q 51), .inl (cy 0, 40, .inl (upd (fun _ => 0) (0) (-1))))] H := hP
                have hD : va_D A [((q 0), .inr (11, (mO q 0 0 0 0 0 0 0 0 (-1) 1 1 0 0 0 0 0 0 0 0))), ((q 37), .inl (cy 1, 96, .inl (fun _ => 1))), ((q 41), .inl (cy 0, 40, .inl (upd (fun _ => 0) (0) p0))), ((q 42), .inl (cy 0, 40, .inl (upd (fun _ => 0) (0) ((12 * p2) + p1)))), ((q 43), .inl (cy 0, 40, .inl (upd (fun _ => 0) (0) p3))), ((q 44), .inl (cy 0, 40, .inl (upd (fun _ => 0) (0) p4))), ((q 45), .inl (cy 0, 40, .inl (upd (fun _ => 0) (0) p5))), ((q 46), .inl (cy 0, 40, .inl (upd (fun _ => 0) (0) 0))), ((q 47), .inl (cy 0, 40, .inl (upd (fun _ => 0) (0) (-1)))), ((q 48), .inl (cy 0, 40, .inl (upd (fun _ => 0) (0) (-1)))), ((q 51), .inl (cy 0, 40, .inl (upd (fun _ => 0) (0) (-1))))] := hD
                refine lv_aload_n S.1 S.2.1 dX12_sight_217 rfl (lv_at hl 1 rfl) ?_
                refine lv_iconst (v := 1) S.1 S.2.1 dX12_sight_218 (by decide) ?_
                refine r_put S hK hP hD hS 0 11 rfl rfl inX12 35 (by decide) tyX12 tyX12_ok nmX12 kw_1545 (v := .int 1) rfl (by decide) (by decide) (Nat.le_of_ble_eq_true rfl) dX12_sight_219 (fun H locs hP hD hS => ?_)
                have hP : va_P D vwCl [((q 0), .inr (11, (mO q 0 0 0 0 0 0 0 0 (-1) 1 1 0 0 0 0 0 0 0 0))), ((q 37), .inl (cy 1, 96, .inl (fun _ => 1))), ((q 41), .inl (cy 0, 40, .inl (upd (fun _ => 0) (0) p0))), ((q 42), .inl (cy 0, 40, .inl (upd (fun _ => 0) (0) ((12 * p2) + p1)))), ((q 43), .inl (cy 0, 40, .inl (upd (fun _ => 0) (0) p3))), ((q 44), .inl (cy 0, 40, .inl (upd (fun _ => 0) (0) p4))), ((q 45), .inl (cy 0, 40, .inl (upd (fun _ => 0) (0) p5))), ((q 46), .inl (cy 0, 40, .inl (upd (fun _ => 0) (0) 0))), ((q 47), .inl (cy 0, 40, .inl (upd (fun _ => 0) (0) (-1)))), ((q 48), .inl (cy 0, 40, .inl (upd (fun _ => 0) (0) (-1)))), ((q 51), .inl (cy 0, 40, .inl (upd (fun _ => 0) (0) (-1))))] H := hP
                have hD : va_D A [((q 0), .inr (11, (mO q 0 0 0 0 0 0 0 0 (-1) 1 1 0 0 0 0 0 0 0 0))), ((q 37), .inl (cy 1, 96, .inl (fun _ => 1))), ((q 41), .inl (cy 0, 40, .inl (upd (fun _ => 0) (0) p0))), ((q 42), .inl (cy 0, 40, .inl (upd (fun _ => 0) (0) ((12 * p2) + p1)))), ((q 43), .inl (cy 0, 40, .inl (upd (fun _ => 0) (0) p3))), ((q 44), .inl (cy 0, 40, .inl (upd (fun _ => 0) (0) p4))), ((q 45), .inl (cy 0, 40, .inl (upd (fun _ => 0) (0) p5))), ((q 46), .inl (cy 0, 40, .inl (upd (fun _ => 0) (0) 0))), ((q 47), .inl (cy 0, 40, .inl (upd (fun _ => 0) (0) (-1)))), ((q 48), .inl (cy 0, 40, .inl (upd (fun _ => 0) (0) (-1)))), ((q 51), .inl (cy 0, 40, .inl (upd (fun _ => 0) (0) (-1))))] := hD
                refine lv_aload_n S.1 S.2.1 dX12_sight_222 rfl (lv_at hl 1 rfl) ?_
                refine r_get S hK hP 0 11 rfl rfl inX12 40 (by decide) kw_1550 (v := .int 1) rfl dX12_sight_223 ?_
                refine lv_iconst (v := 1) S.1 S.2.1 dX12_sight_226 (by decide) ?_
                refine r_isub S dX12_sight_227 (v := 0) (by decide) ?_
                exact ci_ret (u := ()) S hr hlk rfl hK (hP.sub [] rfl) (hD.sub [] (by decide) rfl) hS (Or.inl ⟨rfl, (by omega)⟩) (by decide) (by decide) dX12_sight_228
            · refine r_if_eq S 0 rfl dX12_sight_62 (tgt := 69) (by decide) (fun _ => ?_) (fun c => absurd c (by decide))
              refine lv_iconst (v := 0) S.1 S.2.1 dX12_sight_69 (by decide) ?_
              refine lv_istore (lv' := [(7, .int 0), (0, .ref (q 0)), (1, .int p0), (2, .int p1), (3, .int p2), (4, .int p3), (5, .int p4), (6, .int p5)]) S.1 S.2.1 dX12_sight_70 hl (by decide) rfl (fun ls hl => ?_)
              refine lv_iload S.1 S.2.1 dX12_sight_72 (lv_at hl 0 rfl) ?_
              refine r_if_eq S 0 rfl dX12_sight_74 (tgt := 104) (by decide) (fun _ => ?_) (fun c => absurd c (by decide))
              refine lv_iconst (v := (-1)) S.1 S.2.1 dX12_sight_104 (by decide) ?_
              exact ci_ret (u := ()) S hr hlk rfl hK (hP.sub [] rfl) (hD.sub [] (by decide) rfl) hS (Or.inr (⟨rfl, (by omega)⟩)) (by decide) (by decide) dX12_sight_105
          · refine r_if_eq S 0 rfl dX12_sight_50 (tgt := 69) (by decide) (fun _ => ?_) (fun c => absurd c (by decide))
            refine lv_iconst (v := 0) S.1 S.2.1 dX12_sight_69 (by decide) ?_
            refine lv_istore (lv' := [(7, .int 0), (0, .ref (q 0)), (1, .int p0), (2, .int p1), (3, .int p2), (4, .int p3), (5, .int p4), (6, .int p5)]) S.1 S.2.1 dX12_sight_70 hl (by decide) rfl (fun ls hl => ?_)
            refine lv_iload S.1 S.2.1 dX12_sight_72 (lv_at hl 0 rfl) ?_
            refine r_if_eq S 0 rfl dX12_sight_74 (tgt := 104) (by decide) (fun _ => ?_) (fun c => absurd c (by decide))
            refine lv_iconst (v := (-1)) S.1 S.2.1 dX12_sight_104 (by decide) ?_
            exact ci_ret (u := ()) S hr hlk rfl hK (hP.sub [] rfl) (hD.sub [] (by decide) rfl) hS (Or.inr (⟨rfl, (by omega)⟩)) (by decide) (by decide) dX12_sight_105
        · refine r_if_eq S 0 rfl dX12_sight_40 (tgt := 69) (by decide) (fun _ => ?_) (fun c => absurd c (by decide))
          refine lv_iconst (v := 0) S.1 S.2.1 dX12_sight_69 (by decide) ?_
          refine lv_istore (lv' := [(7, .int 0), (0, .ref (q 0)), (1, .int p0), (2, .int p1), (3, .int p2), (4, .int p3), (5, .int p4), (6, .int p5)]) S.1 S.2.1 dX12_sight_70 hl (by decide) rfl (fun ls hl => ?_)
          refine lv_iload S.1 S.2.1 dX12_sight_72 (lv_at hl 0 rfl) ?_
          refine r_if_eq S 0 rfl dX12_sight_74 (tgt := 104) (by decide) (fun _ => ?_) (fun c => absurd c (by decide))
          refine lv_iconst (v := (-1)) S.1 S.2.1 dX12_sight_104 (by decide) ?_
          exact ci_ret (u := ()) S hr hlk rfl hK (hP.sub [] rfl) (hD.sub [] (by decide) rfl) hS (Or.inr (⟨rfl, (by omega)⟩)) (by decide) (by decide) dX12_sight_105
      · refine lv_iconst (v := 0) S.1 S.2.1 dX12_sight_30 (by decide) ?_
        refine lv_goto (tgt := 37) S.1 S.2.1 dX12_sight_31 (by decide) ?_
        refine call_ri (runS_R (wc := []) (As := [.int p3, .int 0, .int 0]) (rest := []) S (kX12_within l D cy p3 0 0 z3 h3 0 rfl 0 rfl) hK hP [] rfl kw_1892 kw_1893 kw_152 kw_1894 okX12_within rfl (by decide) hl.1 rfl (Nat.le_of_ble_eq_true rfl) dX12_sight_37 (by decide)) (fun v37 w37 => ?_)
        rcases w37 with ⟨rfl, w37_0_0⟩ | ⟨rfl, w37_1_0⟩
        · refine r_if_eq S 1 rfl dX12_sight_40 (tgt := 69) (by decide) (fun c => absurd c (by decide)) (fun _ => ?_)
          refine lv_iload S.1 S.2.1 dX12_sight_43 (lv_at hl 5 rfl) ?_
          refine lv_iconst (v := 0) S.1 S.2.1 dX12_sight_45 (by decide) ?_
          refine lv_iconst (v := 5) S.1 S.2.1 dX12_sight_46 (by decide) ?_
          refine call_ri (runS_R (wc := []) (As := [.int p4, .int 0, .int 5]) (rest := []) S (kX12_within l D cy p4 0 5 z4 h4 0 rfl 5 rfl) hK hP [] rfl kw_1892 kw_1893 kw_152 kw_1894 okX12_within rfl (by decide) hl.1 rfl (Nat.le_of_ble_eq_true rfl) dX12_sight_47 (by decide)) (fun v47 w47 => ?_)
          rcases w47 with ⟨rfl, w47_0_0⟩ | ⟨rfl, w47_1_0⟩
          · refine r_if_eq S 1 rfl dX12_sight_50 (tgt := 69) (by decide) (fun c => absurd c (by decide)) (fun _ => ?_)
            refine lv_iload S.1 S.2.1 dX12_sight_53 (lv_at hl 6 rfl) ?_
            refine lv_iconst (v := 0) S.1 S.2.1 dX12_sight_55 (by decide) ?_
            refine lv_sipush (v := 9999) S.1 S.2.1 dX12_sight_56 (by decide) ?_
            refine call_ri (runS_R (wc := []) (As := [.int p5, .int 0, .int 9999]) (rest := []) S (kX12_within l D cy p5 0 9999 z5 h5 0 rfl 9999 rfl) hK hP [] rfl kw_1892 kw_1893 kw_152 kw_1894 okX12_within rfl (by decide) hl.1 rfl (Nat.le_of_ble_eq_true rfl) dX12_sight_59 (by decide)) (fun v59 w59 => ?_)
            rcases w59 with ⟨rfl, w59_0_0⟩ | ⟨rfl, w59_1_0⟩
            · refine r_if_eq S 1 rfl dX12_sight_62 (tgt := 69) (by decide) (fun c => absurd c (by decide)) (fun _ => ?_)
              refine lv_iconst (v := 1) S.1 S.2.1 dX12_sight_65 (by decide) ?_
              refine lv_goto (tgt := 70) S.1 S.2.1 dX12_sight_66 (by decide) ?_
              refine lv_istore (lv' := [(7, .int 1), (0, .ref (q 0)), (1, .int p0), (2, .int p1), (3, .int p2), (4, .int p3), (5, .int p4), (6, .int p5)]) S.1 S.2.1 dX12_sight_70 hl (by decide) rfl (fun ls hl => ?_)
              refine lv_iload S.1 S.2.1 dX12_sight_72 (lv_at hl 0 rfl) ?_
              refine r_if_eq S 1 rfl dX12_sight_74 (tgt := 104) (by decide) (fun c => absurd c (by decide)) (fun _ => ?_)
              refine lv_iload_n S.1 S.2.1 dX12_sight_77 rfl (lv_at hl 2 rfl) ?_
              refine r_if_ne S z0 h0 dX12_sight_78 (tgt := 95) (by decide) (fun e_78_2 => ?_) (fun e_78_2 => ?_)
              · refine lv_aload_n S.1 S.2.1 dX12_sight_95 rfl (lv_at hl 1 rfl) ?_
                refine r_get S hK hP 0 11 rfl rfl inX12 40 (by decide) kw_1550 (v := .int 0) rfl dX12_sight_96 ?_
                refine lv_bipush (v := 40) S.1 S.2.1 dX12_sight_99 (by decide) ?_
                refine r_icmp_ne S 0 40 rfl rfl dX12_sight_101 (tgt := 106) (by decide) (fun _ => ?_) (fun c => absurd c (by decide))
                refine lv_aload_n S.1 S.2.1 dX12_sight_106 rfl (lv_at hl 1 rfl) ?_
                refine r_get S hK hP 0 11 rfl rfl inX12 41 (by decide) kw_1551 (v := .ref (q 41)) rfl dX12_sight_107 ?_
                refine lv_aload_n S.1 S.2.1 dX12_sight_110 rfl (lv_at hl 1 rfl) ?_
                refine r_get S hK hP 0 11 rfl rfl inX12 40 (by decide) kw_1550 (v := .int 0) rfl dX12_sight_111 ?_
                refine lv_iload_n S.1 S.2.1 dX12_sight_114 rfl (lv_at hl 2 rfl) ?_
                refine r_iast S hK hP hD hS 2 0 rfl rfl (0) rfl (by decide) (by decide) dX12_sight_115 (fun H locs hP hD hS => ?_)
                have hP : va_P D vwCl [((q 0), .inr (11, (mO q 0 0 0 0 0 0 0 0 (-1) 1 0 0 0 0 0 0 0 0 0))), ((q 37), .inl (cy 1, 96, .inl (fun _ => 1))), ((q 41), .inl (cy 0, 40, .inl (upd (fun _ => 0) (0) p0))), ((q 42), .inl (cy 0, 40, .inl (fun _ => 0))), ((q 43), .inl (cy 0, 40, .inl (fun _ => 0))), ((q 44), .inl (cy 0, 40, .inl (fun _ => 0))), ((q 45), .inl (cy 0, 40, .inl (fun _ => 0))), ((q 46), .inl (cy 0, 40, .inl (fun _ => 0))), ((q 47), .inl (cy 0, 40, .inl (fun _ => 0))), ((q 48), .inl (cy 0, 40, .inl (fun _ => 0))), ((q 51), .inl (cy 0, 40, .inl (fun _ => 0)))] H := hP
                have hD : va_D A [((q 0), .inr (11, (mO q 0 0 0 0 0 0 0 0 (-1) 1 0 0 0 0 0 0 0 0 0))), ((q 37), .inl (cy 1, 96, .inl (fun _ => 1))), ((q 41), .inl (cy 0, 40, .inl (upd (fun _ => 0) (0) p0))), ((q 42), .inl (cy 0, 40, .inl (fun _ => 0))), ((q 43), .inl (cy 0, 40, .inl (fun _ => 0))), ((q 44), .inl (cy 0, 40, .inl (fun _ => 0))), ((q 45), .inl (cy 0, 40, .inl (fun _ => 0))), ((q 46), .inl (cy 0, 40, .inl (fun _ => 0))), ((q 47), .inl (cy 0, 40, .inl (fun _ => 0))), ((q 48), .inl (cy 0, 40, .inl (fun _ => 0))), ((q 51), .inl (cy 0, 40, .inl (fun _ => 0)))] := hD
                refine lv_aload_n S.1 S.2.1 dX12_sight_116 rfl (lv_at hl 1 rfl) ?_
                refine r_get S hK hP 0 11 rfl rfl inX12 42 (by decide) kw_1552 (v := .ref (q 42)) rfl dX12_sight_117 ?_
                refine lv_aload_n S.1 S.2.1 dX12_sight_120 rfl (lv_at hl 1 rfl) ?_
                refine r_get S hK hP 0 11 rfl rfl inX12 40 (by decide) kw_1550 (v := .int 0) rfl dX12_sight_121 ?_
                refine lv_bipush (v := 12) S.1 S.2.1 dX12_sight_124 (by decide) ?_
                refine lv_iload_n S.1 S.2.1 dX12_sight_126 rfl (lv_at hl 4 rfl) ?_
                refine r_imul S dX12_sight_127 (v := (12 * p2)) rfl ?_
                refine lv_iload_n S.1 S.2.1 dX12_sight_128 rfl (lv_at hl 3 rfl) ?_
                refine r_iadd S dX12_sight_129 (v := ((12 * p2) + p1)) rfl ?_
                refine r_iast S hK hP hD hS 3 0 rfl rfl (0) rfl (by decide) (by decide) dX12_sight_130 (fun H locs hP hD hS => ?_)
                have hP : va_P D vwCl [((q 0), .inr (11, (mO q 0 0 0 0 0 0 0 0 (-1) 1 0 0 0 0 0 0 0 0 0))), ((q 37), .inl (cy 1, 96, .inl (fun _ => 1))), ((q 41), .inl (cy 0, 40, .inl (upd (fun _ => 0) (0) p0))), ((q 42), .inl (cy 0, 40, .inl (upd (fun _ => 0) (0) ((12 * p2) + p1)))), ((q 43), .inl (cy 0, 40, .inl (fun _ => 0))), ((q 44), .inl (cy 0, 40, .inl (fun _ => 0))), ((q 45), .inl (cy 0, 40, .inl (fun _ => 0))), ((q 46), .inl (cy 0, 40, .inl (fun _ => 0))), ((q 47), .inl (cy 0, 40, .inl (fun _ => 0))), ((q 48), .inl (cy 0, 40, .inl (fun _ => 0))), ((q 51), .inl (cy 0, 40, .inl (fun _ => 0)))] H := hP
                have hD : va_D A [((q 0), .inr (11, (mO q 0 0 0 0 0 0 0 0 (-1) 1 0 0 0 0 0 0 0 0 0))), ((q 37), .inl (cy 1, 96, .inl (fun _ => 1))), ((q 41), .inl (cy 0, 40, .inl (upd (fun _ => 0) (0) p0))), ((q 42), .inl (cy 0, 40, .inl (upd (fun _ => 0) (0) ((12 * p2) + p1)))), ((q 43), .inl (cy 0, 40, .inl (fun _ => 0))), ((q 44), .inl (cy 0, 40, .inl (fun _ => 0))), ((q 45), .inl (cy 0, 40, .inl (fun _ => 0))), ((q 46), .inl (cy 0, 40, .inl (fun _ => 0))), ((q 47), .inl (cy 0, 40, .inl (fun _ => 0))), ((q 48), .inl (cy 0, 40, .inl (fun _ => 0))), ((q 51), .inl (cy 0, 40, .inl (fun _ => 0)))] := hD
                refine lv_aload_n S.1 S.2.1 dX12_sight_131 rfl (lv_at hl 1 rfl) ?_
                refine r_get S hK hP 0 11 rfl rfl inX12 43 (by decide) kw_1553 (v := .ref (q 43)) rfl dX12_sight_132 ?_
                refine lv_aload_n S.1 S.2.1 dX12_sight_135 rfl (lv_at hl 1 rfl) ?_
                refine r_get S hK hP 0 11 rfl rfl inX12 40 (by decide) kw_1550 (v := .int 0) rfl dX12_sight_136 ?_
                refine lv_iload S.1 S.2.1 dX12_sight_139 (lv_at hl 5 rfl) ?_
                refine r_iast S hK hP hD hS 4 0 rfl rfl (0) rfl (by decide) (by decide) dX12_sight_141 (fun H locs hP hD hS => ?_)
                have hP : va_P D vwCl [((q 0), .inr (11, (mO q 0 0 0 0 0 0 0 0 (-1) 1 0 0 0 0 0 0 0 0 0))), ((q 37), .inl (cy 1, 96, .inl (fun _ => 1))), ((q 41), .inl (cy 0, 40, .inl (upd (fun _ => 0) (0) p0))), ((q 42), .inl (cy 0, 40, .inl (upd (fun _ => 0) (0) ((12 * p2) + p1)))), ((q 43), .inl (cy 0, 40, .inl (upd (fun _ => 0) (0) p3))), ((q 44), .inl (cy 0, 40, .inl (fun _ => 0))), ((q 45), .inl (cy 0, 40, .inl (fun _ => 0))), ((q 46), .inl (cy 0, 40, .inl (fun _ => 0))), ((q 47), .inl (cy 0, 40, .inl (fun _ => 0))), ((q 48), .inl (cy 0, 40, .inl (fun _ => 0))), ((q 51), .inl (cy 0, 40, .inl (fun _ => 0)))] H := hP
                have hD : va_D A [((q 0), .inr (11, (mO q 0 0 0 0 0 0 0 0 (-1) 1 0 0 0 0 0 0 0 0 0))), ((q 37), .inl (cy 1, 96, .inl (fun _ => 1))), ((q 41), .inl (cy 0, 40, .inl (upd (fun _ => 0) (0) p0))), ((q 42), .inl (cy 0, 40, .inl (upd (fun _ => 0) (0) ((12 * p2) + p1)))), ((q 43), .inl (cy 0, 40, .inl (upd (fun _ => 0) (0) p3))), ((q 44), .inl (cy 0, 40, .inl (fun _ => 0))), ((q 45), .inl (cy 0, 40, .inl (fun _ => 0))), ((q 46), .inl (cy 0, 40, .inl (fun _ => 0))), ((q 47), .inl (cy 0, 40, .inl (fun _ => 0))), ((q 48), .inl (cy 0, 40, .inl (fun _ => 0))), ((q 51), .inl (cy 0, 40, .inl (fun _ => 0)))] := hD
                refine lv_aload_n S.1 S.2.1 dX12_sight_142 rfl (lv_at hl 1 rfl) ?_
                refine r_get S hK hP 0 11 rfl rfl inX12 44 (by decide) kw_1554 (v := .ref (q 44)) rfl dX12_sight_143 ?_
                refine lv_aload_n S.1 S.2.1 dX12_sight_146 rfl (lv_at hl 1 rfl) ?_
                refine r_get S hK hP 0 11 rfl rfl inX12 40 (by decide) kw_1550 (v := .int 0) rfl dX12_sight_147 ?_
                refine lv_iload S.1 S.2.1 dX12_sight_150 (lv_at hl 6 rfl) ?_
                refine r_iast S hK hP hD hS 5 0 rfl rfl (0) rfl (by decide) (by decide) dX12_sight_152 (fun H locs hP hD hS => ?_)
                have hP : va_P D vwCl [((q 0), .inr (11, (mO q 0 0 0 0 0 0 0 0 (-1) 1 0 0 0 0 0 0 0 0 0))), ((q 37), .inl (cy 1, 96, .inl (fun _ => 1))), ((q 41), .inl (cy 0, 40, .inl (upd (fun _ => 0) (0) p0))), ((q 42), .inl (cy 0, 40, .inl (upd (fun _ => 0) (0) ((12 * p2) + p1)))), ((q 43), .inl (cy 0, 40, .inl (upd (fun _ => 0) (0) p3))), ((q 44), .inl (cy 0, 40, .inl (upd (fun _ => 0) (0) p4))), ((q 45), .inl (cy 0, 40, .inl (fun _ => 0))), ((q 46), .inl (cy 0, 40, .inl (fun _ => 0))), ((q 47), .inl (cy 0, 40, .inl (fun _ => 0))), ((q 48), .inl (cy 0, 40, .inl (fun _ => 0))), ((q 51), .inl (cy 0, 40, .inl (fun _ => 0)))] H := hP
                have hD : va_D A [((q 0), .inr (11, (mO q 0 0 0 0 0 0 0 0 (-1) 1 0 0 0 0 0 0 0 0 0))), ((q 37), .inl (cy 1, 96, .inl (fun _ => 1))), ((q 41), .inl (cy 0, 40, .inl (upd (fun _ => 0) (0) p0))), ((q 42), .inl (cy 0, 40, .inl (upd (fun _ => 0) (0) ((12 * p2) + p1)))), ((q 43), .inl (cy 0, 40, .inl (upd (fun _ => 0) (0) p3))), ((q 44), .inl (cy 0, 40, .inl (upd (fun _ => 0) (0) p4))), ((q 45), .inl (cy 0, 40, .inl (fun _ => 0))), ((q 46), .inl (cy 0, 40, .inl (fun _ => 0))), ((q 47), .inl (cy 0, 40, .inl (fun _ => 0))), ((q 48), .inl (cy 0, 40, .inl (fun _ => 0))), ((q 51), .inl (cy 0, 40, .inl (fun _ => 0)))] := hD
                refine lv_aload_n S.1 S.2.1 dX12_sight_153 rfl (lv_at hl 1 rfl) ?_
                refine r_get S hK hP 0 11 rfl rfl inX12 45 (by decide) kw_1555 (v := .ref (q 45)) rfl dX12_sight_154 ?_
                refine lv_aload_n S.1 S.2.1 dX12_sight_157 rfl (lv_at hl 1 rfl) ?_
                refine r_get S hK hP 0 11 rfl rfl inX12 40 (by decide) kw_1550 (v := .int 0) rfl dX12_sight_158 ?_
                refine lv_iload S.1 S.2.1 dX12_sight_161 (lv_at hl 7 rfl) ?_
                refine r_iast S hK hP hD hS 6 0 rfl rfl (0) rfl (by decide) (by decide) dX12_sight_163 (fun H locs hP hD hS => ?_)
                have hP : va_P D vwCl [((q 0), .inr (11, (mO q 0 0 0 0 0 0 0 0 (-1) 1 0 0 0 0 0 0 0 0 0))), ((q 37), .inl (cy 1, 96, .inl (fun _ => 1))), ((q 41), .inl (cy 0, 40, .inl (upd (fun _ => 0) (0) p0))), ((q 42), .inl (cy 0, 40, .inl (upd (fun _ => 0) (0) ((12 * p2) + p1)))), ((q 43), .inl (cy 0, 40, .inl (upd (fun _ => 0) (0) p3))), ((q 44), .inl (cy 0, 40, .inl (upd (fun _ => 0) (0) p4))), ((q 45), .inl (cy 0, 40, .inl (upd (fun _ => 0) (0) p5))), ((q 46), .inl (cy 0, 40, .inl (fun _ => 0))), ((q 47), .inl (cy 0, 40, .inl (fun _ => 0))), ((q 48), .inl (cy 0, 40, .inl (fun _ => 0))), ((q 51), .inl (cy 0, 40, .inl (fun _ => 0)))] H := hP
                have hD : va_D A [((q 0), .inr (11, (mO q 0 0 0 0 0 0 0 0 (-1) 1 0 0 0 0 0 0 0 0 0))), ((q 37), .inl (cy 1, 96, .inl (fun _ => 1))), ((q 41), .inl (cy 0, 40, .inl (upd (fun _ => 0) (0) p0))), ((q 42), .inl (cy 0, 40, .inl (upd (fun _ => 0) (0) ((12 * p2) + p1)))), ((q 43), .inl (cy 0, 40, .inl (upd (fun _ => 0) (0) p3))), ((q 44), .inl (cy 0, 40, .inl (upd (fun _ => 0) (0) p4))), ((q 45), .inl (cy 0, 40, .inl (upd (fun _ => 0) (0) p5))), ((q 46), .inl (cy 0, 40, .inl (fun _ => 0))), ((q 47), .inl (cy 0, 40, .inl (fun _ => 0))), ((q 48), .inl (cy 0, 40, .inl (fun _ => 0))), ((q 51), .inl (cy 0, 40, .inl (fun _ => 0)))] := hD
                refine lv_aload_n S.1 S.2.1 dX12_sight_164 rfl (lv_at hl 1 rfl) ?_
                refine r_get S hK hP 0 11 rfl rfl inX12 46 (by decide) kw_1556 (v := .ref (q 46)) rfl dX12_sight_165 ?_
                refine lv_aload_n S.1 S.2.1 dX12_sight_168 rfl (lv_at hl 1 rfl) ?_
                refine r_get S hK hP 0 11 rfl rfl inX12 40 (by decide) kw_1550 (v := .int 0) rfl dX12_sight_169 ?_
                refine lv_aload_n S.1 S.2.1 dX12_sight_172 rfl (lv_at hl 1 rfl) ?_
                refine r_get S hK hP 0 11 rfl rfl inX12 33 (by decide) kw_1543 (v := .int 0) rfl dX12_sight_173 ?_
                refine r_iast S hK hP hD hS 7 0 rfl rfl (0) rfl (by decide) (by decide) dX12_sight_176 (fun H locs hP hD hS => ?_)
                have hP : va_P D vwCl [((q 0), .inr (11, (mO q 0 0 0 0 0 0 0 0 (-1) 1 0 0 0 0 0 0 0 0 0))), ((q 37), .inl (cy 1, 96, .inl (fun _ => 1))), ((q 41), .inl (cy 0, 40, .inl (upd (fun _ => 0) (0) p0))), ((q 42), .inl (cy 0, 40, .inl (upd (fun _ => 0) (0) ((12 * p2) + p1)))), ((q 43), .inl (cy 0, 40, .inl (upd (fun _ => 0) (0) p3))), ((q 44), .inl (cy 0, 40, .inl (upd (fun _ => 0) (0) p4))), ((q 45), .inl (cy 0, 40, .inl (upd (fun _ => 0) (0) p5))), ((q 46), .inl (cy 0, 40, .inl (upd (fun _ => 0) (0) 0))), ((q 47), .inl (cy 0, 40, .inl (fun _ => 0))), ((q 48), .inl (cy 0, 40, .inl (fun _ => 0))), ((q 51), .inl (cy 0, 40, .inl (fun _ => 0)))] H := hP
                have hD : va_D A [((q 0), .inr (11, (mO q 0 0 0 0 0 0 0 0 (-1) 1 0 0 0 0 0 0 0 0 0))), ((q 37), .inl (cy 1, 96, .inl (fun _ => 1))), ((q 41), .inl (cy 0, 40, .inl (upd (fun _ => 0) (0) p0))), ((q 42), .inl (cy 0, 40, .inl (upd (fun _ => 0) (0) ((12 * p2) + p1)))), ((q 43), .inl (cy 0, 40, .inl (upd (fun _ => 0) (0) p3))), ((q 44), .inl (cy 0, 40, .inl (upd (fun _ => 0) (0) p4))), ((q 45), .inl (cy 0, 40, .inl (upd (fun _ => 0) (0) p5))), ((q 46), .inl (cy 0, 40, .inl (upd (fun _ => 0) (0) 0))), ((q 47), .inl (cy 0, 40, .inl (fun _ => 0))), ((q 48), .inl (cy 0, 40, .inl (fun _ => 0))), ((q 51), .inl (cy 0, 40, .inl (fun _ => 0)))] := hD
                refine lv_aload_n S.1 S.2.1 dX12_sight_177 rfl (lv_at hl 1 rfl) ?_
                refine r_get S hK hP 0 11 rfl rfl inX12 47 (by decide) kw_1557 (v := .ref (q 47)) rfl dX12_sight_178 ?_
                refine lv_aload_n S.1 S.2.1 dX12_sight_181 rfl (lv_at hl 1 rfl) ?_
                refine r_get S hK hP 0 11 rfl rfl inX12 40 (by decide) kw_1550 (v := .int 0) rfl dX12_sight_182 ?_
                refine lv_iconst (v := (-1)) S.1 S.2.1 dX12_sight_185 (by decide) ?_
                refine r_iast S hK hP hD hS 8 0 rfl rfl (0) rfl (by decide) (by decide) dX12_sight_186 (fun H locs hP hD hS => ?_)
                have hP : va_P D vwCl [((q 0), .inr (11, (mO q 0 0 0 0 0 0 0 0 (-1) 1 0 0 0 0 0 0 0 0 0))), ((q 37), .inl (cy 1, 96, .inl (fun _ => 1))), ((q 41), .inl (cy 0, 40, .inl (upd (fun _ => 0) (0) p0))), ((q 42), .inl (cy 0, 40, .inl (upd (fun _ => 0) (0) ((12 * p2) + p1)))), ((q 43), .inl (cy 0, 40, .inl (upd (fun _ => 0) (0) p3))), ((q 44), .inl (cy 0, 40, .inl (upd (fun _ => 0) (0) p4))), ((q 45), .inl (cy 0, 40, .inl (upd (fun _ => 0) (0) p5))), ((q 46), .inl (cy 0, 40, .inl (upd (fun _ => 0) (0) 0))), ((q 47), .inl (cy 0, 40, .inl (upd (fun _ => 0) (0) (-1)))), ((q 48), .inl (cy 0, 40, .inl (fun _ => 0))), ((q 51), .inl (cy 0, 40, .inl (fun _ => 0)))] H := hP
                have hD : va_D A [((q 0), .inr (11, (mO q 0 0 0 0 0 0 0 0 (-1) 1 0 0 0 0 0 0 0 0 0))), ((q 37), .inl (cy 1, 96, .inl (fun _ => 1))), ((q 41), .inl (cy 0, 40, .inl (upd (fun _ => 0) (0) p0))), ((q 42), .inl (cy 0, 40, .inl (upd (fun _ => 0) (0) ((12 * p2) + p1)))), ((q 43), .inl (cy 0, 40, .inl (upd (fun _ => 0) (0) p3))), ((q 44), .inl (cy 0, 40, .inl (upd (fun _ => 0) (0) p4))), ((q 45), .inl (cy 0, 40, .inl (upd (fun _ => 0) (0) p5))), ((q 46), .inl (cy 0, 40, .inl (upd (fun _ => 0) (0) 0))), ((q 47), .inl (cy 0, 40, .inl (upd (fun _ => 0) (0) (-1)))), ((q 48), .inl (cy 0, 40, .inl (fun _ => 0))), ((q 51), .inl (cy 0, 40, .inl (fun _ => 0)))] := hD
                refine lv_aload_n S.1 S.2.1 dX12_sight_187 rfl (lv_at hl 1 rfl) ?_
                refine r_get S hK hP 0 11 rfl rfl inX12 48 (by decide) kw_1558 (v := .ref (q 48)) rfl dX12_sight_188 ?_
                refine lv_aload_n S.1 S.2.1 dX12_sight_191 rfl (lv_at hl 1 rfl) ?_
                refine r_get S hK hP 0 11 rfl rfl inX12 40 (by decide) kw_1550 (v := .int 0) rfl dX12_sight_192 ?_
                refine lv_iconst (v := (-1)) S.1 S.2.1 dX12_sight_195 (by decide) ?_
                refine r_iast S hK hP hD hS 9 0 rfl rfl (0) rfl (by decide) (by decide) dX12_sight_196 (fun H locs hP hD hS => ?_)
                have hP : va_P D vwCl [((q 0), .inr (11, (mO q 0 0 0 0 0 0 0 0 (-1) 1 0 0 0 0 0 0 0 0 0))), ((q 37), .inl (cy 1, 96, .inl (fun _ => 1))), ((q 41), .inl (cy 0, 40, .inl (upd (fun _ => 0) (0) p0))), ((q 42), .inl (cy 0, 40, .inl (upd (fun _ => 0) (0) ((12 * p2) + p1)))), ((q 43), .inl (cy 0, 40, .inl (upd (fun _ => 0) (0) p3))), ((q 44), .inl (cy 0, 40, .inl (upd (fun _ => 0) (0) p4))), ((q 45), .inl (cy 0, 40, .inl (upd (fun _ => 0) (0) p5))), ((q 46), .inl (cy 0, 40, .inl (upd (fun _ => 0) (0) 0))), ((q 47), .inl (cy 0, 40, .inl (upd (fun _ => 0) (0) (-1)))), ((q 48), .inl (cy 0, 40, .inl (upd (fun _ => 0) (0) (-1)))), ((q 51), .inl (cy 0, 40, .inl (fun _ => 0)))] H := hP
                have hD : va_D A [((q 0), .inr (11, (mO q 0 0 0 0 0 0 0 0 (-1) 1 0 0 0 0 0 0 0 0 0))), ((q 37), .inl (cy 1, 96, .inl (fun _ => 1))), ((q 41), .inl (cy 0, 40, .inl (upd (fun _ => 0) (0) p0))), ((q 42), .inl (cy 0, 40, .inl (upd (fun _ => 0) (0) ((12 * p2) + p1)))), ((q 43), .inl (cy 0, 40, .inl (upd (fun _ => 0) (0) p3))), ((q 44), .inl (cy 0, 40, .inl (upd (fun _ => 0) (0) p4))), ((q 45), .inl (cy 0, 40, .inl (upd (fun _ => 0) (0) p5))), ((q 46), .inl (cy 0, 40, .inl (upd (fun _ => 0) (0) 0))), ((q 47), .inl (cy 0, 40, .inl (upd (fun _ => 0) (0) (-1)))), ((q 48), .inl (cy 0, 40, .inl (upd (fun _ => 0) (0) (-1)))), ((q 51), .inl (cy 0, 40, .inl (fun _ => 0)))] := hD
                refine lv_aload_n S.1 S.2.1 dX12_sight_197 rfl (lv_at hl 1 rfl) ?_
                refine r_get S hK hP 0 11 rfl rfl inX12 51 (by decide) kw_1561 (v := .ref (q 51)) rfl dX12_sight_198 ?_
                refine lv_aload_n S.1 S.2.1 dX12_sight_201 rfl (lv_at hl 1 rfl) ?_
                refine r_get S hK hP 0 11 rfl rfl inX12 40 (by decide) kw_1550 (v := .int 0) rfl dX12_sight_202 ?_
                refine lv_iconst (v := (-1)) S.1 S.2.1 dX12_sight_205 (by decide) ?_
                refine r_iast S hK hP hD hS 10 0 rfl rfl (0) rfl (by decide) (by decide) dX12_sight_206 (fun H locs hP hD hS => ?_)
                have hP : va_P D vwCl [((q 0), .inr (11, (mO q 0 0 0 0 0 0 0 0 (-1) 1 0 0 0 0 0 0 0 0 0))), ((q 37), .inl (cy 1, 96, .inl (fun _ => 1))), ((q 41), .inl (cy 0, 40, .inl (upd (fun _ => 0) (0) p0))), ((q 42), .inl (cy 0, 40, .inl (upd (fun _ => 0) (0) ((12 * p2) + p1)))), ((q 43), .inl (cy 0, 40, .inl (upd (fun _ => 0) (0) p3))), ((q 44), .inl (cy 0, 40, .inl (upd (fun _ => 0) (0) p4))), ((q 45), .inl (cy 0, 40, .inl (upd (fun _ => 0) (0) p5))), ((q 46), .inl (cy 0, 40, .inl (upd (fun _ => 0) (0) 0))), ((q 47), .inl (cy 0, 40, .inl (upd (fun _ => 0) (0) (-1)))), ((q 48), .inl (cy 0, 40, .inl (upd (fun _ => 0) (0) (-1)))), ((q 51), .inl (cy 0, 40, .inl (upd (fun _ => 0) (0) (-1))))] H := hP
                have hD : va_D A [((q 0), .inr (11, (mO q 0 0 0 0 0 0 0 0 (-1) 1 0 0 0 0 0 0 0 0 0))), ((q 37), .inl (cy 1, 96, .inl (fun _ => 1))), ((q 41), .inl (cy 0, 40, .inl (upd (fun _ => 0) (0) p0))), ((q 42), .inl (cy 0, 40, .inl (upd (fun _ => 0) (0) ((12 * p2) + p1)))), ((q 43), .inl (cy 0, 40, .inl (upd (fun _ => 0) (0) p3))), ((q 44), .inl (cy 0, 40, .inl (upd (fun _ => 0) (0) p4))), ((q 45), .inl (cy 0, 40, .inl (upd (fun _ => 0) (0) p5))), ((q 46), .inl (cy 0, 40, .inl (upd (fun _ => 0) (0) 0))), ((q 47), .inl (cy 0, 40, .inl (upd (fun _ => 0) (0) (-1)))), ((q 48), .inl (cy 0, 40, .inl (upd (fun _ => 0) (0) (-1)))), ((q 51), .inl (cy 0, 40, .inl (upd (fun _ => 0) (0) (-1))))] := hD
                refine lv_aload_n S.1 S.2.1 dX12_sight_207 rfl (lv_at hl 1 rfl) ?_
                refine lv_dup S.1 S.2.1 dX12_sight_208 rfl ?_
                refine r_get S hK hP 0 11 rfl rfl inX12 40 (by decide) kw_1550 (v := .int 0) rfl dX12_sight_209 ?_
                refine lv_iconst (v := 1) S.1 S.2.1 dX12_sight_212 (by decide) ?_
                refine r_iadd S dX12_sight_213 (v := 1) (by decide) ?_
                refine r_put S hK hP hD hS 0 11 rfl rfl inX12 40 (by decide) tyX12 tyX12_ok nmX12 kw_1550 (v := .int 1) rfl rfl rfl (Nat.le_of_ble_eq_true rfl) dX12_sight_214 (fun H locs hP hD hS => ?_)
                have hP : va_P D vwCl [((q 0), .inr (11, (mO q 0 0 0 0 0 0 0 0 (-1) 1 1 0 0 0 0 0 0 0 0))), ((q 37), .inl (cy 1, 96, .inl (fun _ => 1))), ((q 41), .inl (cy 0, 40, .inl (upd (fun _ => 0) (0) p0))), ((q 42), .inl (cy 0, 40, .inl (upd (fun _ => 0) (0) ((12 * p2) + p1)))), ((q 43), .inl (cy 0, 40, .inl (upd (fun _ => 0) (0) p3))), ((q 44), .inl (cy 0, 40, .inl (upd (fun _ => 0) (0) p4))), ((q 45), .inl (cy 0, 40, .inl (upd (fun _ => 0) (0) p5))), ((q 46), .inl (cy 0, 40, .inl (upd (fun _ => 0) (0) 0))), ((q 47), .inl (cy 0, 40, .inl (upd (fun _ => 0) (0) (-1)))), ((q 48), .inl (cy 0, 40, .inl (upd (fun _ => 0) (0) (-1)))), ((q 51), .inl (cy 0, 40, .inl (upd (fun _ => 0) (0) (-1))))] H := hP
                have hD : va_D A [((q 0), .inr (11, (mO q 0 0 0 0 0 0 0 0 (-1) 1 1 0 0 0 0 0 0 0 0))), ((q 37), .inl (cy 1, 96, .inl (fun _ => 1))), ((q 41), .inl (cy 0, 40, .inl (upd (fun _ => 0) (0) p0))), ((q 42), .inl (cy 0, 40, .inl (upd (fun _ => 0) (0) ((12 * p2) + p1)))), ((q 43), .inl (cy 0, 40, .inl (upd (fun _ => 0) (0) p3))), ((q 44), .inl (cy 0, 40, .inl (upd (fun _ => 0) (0) p4))), ((q 45), .inl (cy 0, 40, .inl (upd (fun _ => 0) (0) p5))), ((q 46), .inl (cy 0, 40, .inl (upd (fun _ => 0) (0) 0))), ((q 47), .inl (cy 0, 40, .inl (upd (fun _ => 0) (0) (-1)))), ((q 48), .inl (cy 0, 40, .inl (upd (fun _ => 0) (0) (-1)))), ((q 51), .inl (cy 0, 40, .inl (upd (fun _ => 0) (0) (-1))))] := hD
                refine lv_aload_n S.1 S.2.1 dX12_sight_217 rfl (lv_at hl 1 rfl) ?_
                refine lv_iconst (v := 1) S.1 S.2.1 dX12_sight_218 (by decide) ?_
                refine r_put S hK hP hD hS 0 11 rfl rfl inX12 35 (by decide) tyX12 tyX12_ok nmX12 kw_1545 (v := .int 1) rfl (by decide) (by decide) (Nat.le_of_ble_eq_true rfl) dX12_sight_219 (fun H locs hP hD hS => ?_)
                have hP : va_P D vwCl [((q 0), .inr (11, (mO q 0 0 0 0 0 0 0 0 (-1) 1 1 0 0 0 0 0 0 0 0))), ((q 37), .inl (cy 1, 96, .inl (fun _ => 1))), ((q 41), .inl (cy 0, 40, .inl (upd (fun _ => 0) (0) p0))), ((q 42), .inl (cy 0, 40, .inl (upd (fun _ => 0) (0) ((12 * p2) + p1)))), ((q 43), .inl (cy 0, 40, .inl (upd (fun _ => 0) (0) p3))), ((q 44), .inl (cy 0, 40, .inl (upd (fun _ => 0) (0) p4))), ((q 45), .inl (cy 0, 40, .inl (upd (fun _ => 0) (0) p5))), ((q 46), .inl (cy 0, 40, .inl (upd (fun _ => 0) (0) 0))), ((q 47), .inl (cy 0, 40, .inl (upd (fun _ => 0) (0) (-1)))), ((q 48), .inl (cy 0, 40, .inl (upd (fun _ => 0) (0) (-1)))), ((q 51), .inl (cy 0, 40, .inl (upd (fun _ => 0) (0) (-1))))] H := hP
                have hD : va_D A [((q 0), .inr (11, (mO q 0 0 0 0 0 0 0 0 (-1) 1 1 0 0 0 0 0 0 0 0))), ((q 37), .inl (cy 1, 96, .inl (fun _ => 1))), ((q 41), .inl (cy 0, 40, .inl (upd (fun _ => 0) (0) p0))), ((q 42), .inl (cy 0, 40, .inl (upd (fun _ => 0) (0) ((12 * p2) + p1)))), ((q 43), .inl (cy 0, 40, .inl (upd (fun _ => 0) (0) p3))), ((q 44), .inl (cy 0, 40, .inl (upd (fun _ => 0) (0) p4))), ((q 45), .inl (cy 0, 40, .inl (upd (fun _ => 0) (0) p5))), ((q 46), .inl (cy 0, 40, .inl (upd (fun _ => 0) (0) 0))), ((q 47), .inl (cy 0, 40, .inl (upd (fun _ => 0) (0) (-1)))), ((q 48), .inl (cy 0, 40, .inl (upd (fun _ => 0) (0) (-1)))), ((q 51), .inl (cy 0, 40, .inl (upd (fun _ => 0) (0) (-1))))] := hD
                refine lv_aload_n S.1 S.2.1 dX12_sight_222 rfl (lv_at hl 1 rfl) ?_
                refine r_get S hK hP 0 11 rfl rfl inX12 40 (by decide) kw_1550 (v := .int 1) rfl dX12_sight_223 ?_
                refine lv_iconst (v := 1) S.1 S.2.1 dX12_sight_226 (by decide) ?_
                refine r_isub S dX12_sight_227 (v := 0) (by decide) ?_
                exact ci_ret (u := ()) S hr hlk rfl hK (hP.sub [] rfl) (hD.sub [] (by decide) rfl) hS (Or.inl ⟨rfl, (by omega)⟩) (by decide) (by decide) dX12_sight_228
              · refine lv_aload_n S.1 S.2.1 dX12_sight_81 rfl (lv_at hl 1 rfl) ?_
                refine r_get S hK hP 0 11 rfl rfl inX12 37 (by decide) kw_1547 (v := .ref (q 37)) rfl dX12_sight_82 ?_
                refine lv_bipush (v := 12) S.1 S.2.1 dX12_sight_85 (by decide) ?_
                refine lv_iload_n S.1 S.2.1 dX12_sight_87 rfl (lv_at hl 4 rfl) ?_
                refine r_imul S dX12_sight_88 (v := (12 * p2)) rfl ?_
                refine lv_iload_n S.1 S.2.1 dX12_sight_89 rfl (lv_at hl 3 rfl) ?_
                refine r_iadd S dX12_sight_90 (v := ((12 * p2) + p1)) rfl ?_
                obtain ⟨j91_3, hj91_3, qj91_3, zj91_3⟩ := i_nat 96 (zadd (x := (12 * p2)) (y := p1) (X := (12 * z2)) (Y := z1) (zmul (x := 12) (y := p2) (X := 12) (Y := z2) rfl h2 (by omega) (by omega)) h1 (by omega) (by omega)) (by omega) (by omega)
                refine r_zald S hK hP 1 1 rfl rfl (j91_3) qj91_3 hj91_3 (by decide) (v := 1) rfl dX12_sight_91 ?_
                refine r_if_eq S 1 rfl dX12_sight_92 (tgt := 104) (by decide) (fun c => absurd c (by decide)) (fun _ => ?_)
                refine lv_aload_n S.1 S.2.1 dX12_sight_95 rfl (lv_at hl 1 rfl) ?_
                refine r_get S hK hP 0 11 rfl rfl inX12 40 (by decide) kw_1550 (v := .int 0) rfl dX12_sight_96 ?_
                refine lv_bipush (v := 40) S.1 S.2.1 dX12_sight_99 (by decide) ?_
                refine r_icmp_ne S 0 40 rfl rfl dX12_sight_101 (tgt := 106) (by decide) (fun _ => ?_) (fun c => absurd c (by decide))
                refine lv_aload_n S.1 S.2.1 dX12_sight_106 rfl (lv_at hl 1 rfl) ?_
                refine r_get S hK hP 0 11 rfl rfl inX12 41 (by decide) kw_1551 (v := .ref (q 41)) rfl dX12_sight_107 ?_
                refine lv_aload_n S.1 S.2.1 dX12_sight_110 rfl (lv_at hl 1 rfl) ?_
                refine r_get S hK hP 0 11 rfl rfl inX12 40 (by decide) kw_1550 (v := .int 0) rfl dX12_sight_111 ?_
                refine lv_iload_n S.1 S.2.1 dX12_sight_114 rfl (lv_at hl 2 rfl) ?_
                refine r_iast S hK hP hD hS 2 0 rfl rfl (0) rfl (by decide) (by decide) dX12_sight_115 (fun H locs hP hD hS => ?_)
                have hP : va_P D vwCl [((q 0), .inr (11, (mO q 0 0 0 0 0 0 0 0 (-1) 1 0 0 0 0 0 0 0 0 0))), ((q 37), .inl (cy 1, 96, .inl (fun _ => 1))), ((q 41), .inl (cy 0, 40, .inl (upd (fun _ => 0) (0) p0))), ((q 42), .inl (cy 0, 40, .inl (fun _ => 0))), ((q 43), .inl (cy 0, 40, .inl (fun _ => 0))), ((q 44), .inl (cy 0, 40, .inl (fun _ => 0))), ((q 45), .inl (cy 0, 40, .inl (fun _ => 0))), ((q 46), .inl (cy 0, 40, .inl (fun _ => 0))), ((q 47), .inl (cy 0, 40, .inl (fun _ => 0))), ((q 48), .inl (cy 0, 40, .inl (fun _ => 0))), ((q 51), .inl (cy 0, 40, .inl (fun _ => 0)))] H := hP
                have hD : va_D A [((q 0), .inr (11, (mO q 0 0 0 0 0 0 0 0 (-1) 1 0 0 0 0 0 0 0 0 0))), ((q 37), .inl (cy 1, 96, .inl (fun _ => 1))), ((q 41), .inl (cy 0, 40, .inl (upd (fun _ => 0) (0) p0))), ((q 42), .inl (cy 0, 40, .inl (fun _ => 0))), ((q 43), .inl (cy 0, 40, .inl (fun _ => 0))), ((q 44), .inl (cy 0, 40, .inl (fun _ => 0))), ((q 45), .inl (cy 0, 40, .inl (fun _ => 0))), ((q 46), .inl (cy 0, 40, .inl (fun _ => 0))), ((q 47), .inl (cy 0, 40, .inl (fun _ => 0))), ((q 48), .inl (cy 0, 40, .inl (fun _ => 0))), ((q 51), .inl (cy 0, 40, .inl (fun _ => 0)))] := hD
                refine lv_aload_n S.1 S.2.1 dX12_sight_116 rfl (lv_at hl 1 rfl) ?_
                refine r_get S hK hP 0 11 rfl rfl inX12 42 (by decide) kw_1552 (v := .ref (q 42)) rfl dX12_sight_117 ?_
                refine lv_aload_n S.1 S.2.1 dX12_sight_120 rfl (lv_at hl 1 rfl) ?_
                refine r_get S hK hP 0 11 rfl rfl inX12 40 (by decide) kw_1550 (v := .int 0) rfl dX12_sight_121 ?_
                refine lv_bipush (v := 12) S.1 S.2.1 dX12_sight_124 (by decide) ?_
                refine lv_iload_n S.1 S.2.1 dX12_sight_126 rfl (lv_at hl 4 rfl) ?_
                refine r_imul S dX12_sight_127 (v := (12 * p2)) rfl ?_
                refine lv_iload_n S.1 S.2.1 dX12_sight_128 rfl (lv_at hl 3 rfl) ?_
                refine r_iadd S dX12_sight_129 (v := ((12 * p2) + p1)) rfl ?_
                refine r_iast S hK hP hD hS 3 0 rfl rfl (0) rfl (by decide) (by decide) dX12_sight_130 (fun H locs hP hD hS => ?_)
                have hP : va_P D vwCl [((q 0), .inr (11, (mO q 0 0 0 0 0 0 0 0 (-1) 1 0 0 0 0 0 0 0 0 0))), ((q 37), .inl (cy 1, 96, .inl (fun _ => 1))), ((q 41), .inl (cy 0, 40, .inl (upd (fun _ => 0) (0) p0))), ((q 42), .inl (cy 0, 40, .inl (upd (fun _ => 0) (0) ((12 * p2) + p1)))), ((q 43), .inl (cy 0, 40, .inl (fun _ => 0))), ((q 44), .inl (cy 0, 40, .inl (fun _ => 0))), ((q 45), .inl (cy 0, 40, .inl (fun _ => 0))), ((q 46), .inl (cy 0, 40, .inl (fun _ => 0))), ((q 47), .inl (cy 0, 40, .inl (fun _ => 0))), ((q 48), .inl (cy 0, 40, .inl (fun _ => 0))), ((q 51), .inl (cy 0, 40, .inl (fun _ => 0)))] H := hP
                have hD : va_D A [((q 0), .inr (11, (mO q 0 0 0 0 0 0 0 0 (-1) 1 0 0 0 0 0 0 0 0 0))), ((q 37), .inl (cy 1, 96, .inl (fun _ => 1))), ((q 41), .inl (cy 0, 40, .inl (upd (fun _ => 0) (0) p0))), ((q 42), .inl (cy 0, 40, .inl (upd (fun _ => 0) (0) ((12 * p2) + p1)))), ((q 43), .inl (cy 0, 40, .inl (fun _ => 0))), ((q 44), .inl (cy 0, 40, .inl (fun _ => 0))), ((q 45), .inl (cy 0, 40, .inl (fun _ => 0))), ((q 46), .inl (cy 0, 40, .inl (fun _ => 0))), ((q 47), .inl (cy 0, 40, .inl (fun _ => 0))), ((q 48), .inl (cy 0, 40, .inl (fun _ => 0))), ((q 51), .inl (cy 0, 40, .inl (fun _ => 0)))] := hD
                refine lv_aload_n S.1 S.2.1 dX12_sight_131 rfl (lv_at hl 1 rfl) ?_
                refine r_get S hK hP 0 11 rfl rfl inX12 43 (by decide) kw_1553 (v := .ref (q 43)) rfl dX12_sight_132 ?_
                refine lv_aload_n S.1 S.2.1 dX12_sight_135 rfl (lv_at hl 1 rfl) ?_
                refine r_get S hK hP 0 11 rfl rfl inX12 40 (by decide) kw_1550 (v := .int 0) rfl dX12_sight_136 ?_
                refine lv_iload S.1 S.2.1 dX12_sight_139 (lv_at hl 5 rfl) ?_
                refine r_iast S hK hP hD hS 4 0 rfl rfl (0) rfl (by decide) (by decide) dX12_sight_141 (fun H locs hP hD hS => ?_)
                have hP : va_P D vwCl [((q 0), .inr (11, (mO q 0 0 0 0 0 0 0 0 (-1) 1 0 0 0 0 0 0 0 0 0))), ((q 37), .inl (cy 1, 96, .inl (fun _ => 1))), ((q 41), .inl (cy 0, 40, .inl (upd (fun _ => 0) (0) p0))), ((q 42), .inl (cy 0, 40, .inl (upd (fun _ => 0) (0) ((12 * p2) + p1)))), ((q 43), .inl (cy 0, 40, .inl (upd (fun _ => 0) (0) p3))), ((q 44), .inl (cy 0, 40, .inl (fun _ => 0))), ((q 45), .inl (cy 0, 40, .inl (fun _ => 0))), ((q 46), .inl (cy 0, 40, .inl (fun _ => 0))), ((q 47), .inl (cy 0, 40, .inl (fun _ => 0))), ((q 48), .inl (cy 0, 40, .inl (fun _ => 0))), ((q 51), .inl (cy 0, 40, .inl (fun _ => 0)))] H := hP
                have hD : va_D A [((q 0), .inr (11, (mO q 0 0 0 0 0 0 0 0 (-1) 1 0 0 0 0 0 0 0 0 0))), ((q 37), .inl (cy 1, 96, .inl (fun _ => 1))), ((q 41), .inl (cy 0, 40, .inl (upd (fun _ => 0) (0) p0))), ((q 42), .inl (cy 0, 40, .inl (upd (fun _ => 0) (0) ((12 * p2) + p1)))), ((q 43), .inl (cy 0, 40, .inl (upd (fun _ => 0) (0) p3))), ((q 44), .inl (cy 0, 40, .inl (fun _ => 0))), ((q 45), .inl (cy 0, 40, .inl (fun _ => 0))), ((q 46), .inl (cy 0, 40, .inl (fun _ => 0))), ((q 47), .inl (cy 0, 40, .inl (fun _ => 0))), ((q 48), .inl (cy 0, 40, .inl (fun _ => 0))), ((q 51), .inl (cy 0, 40, .inl (fun _ => 0)))] := hD
                refine lv_aload_n S.1 S.2.1 dX12_sight_142 rfl (lv_at hl 1 rfl) ?_
                refine r_get S hK hP 0 11 rfl rfl inX12 44 (by decide) kw_1554 (v := .ref (q 44)) rfl dX12_sight_143 ?_
                refine lv_aload_n S.1 S.2.1 dX12_sight_146 rfl (lv_at hl 1 rfl) ?_
                refine r_get S hK hP 0 11 rfl rfl inX12 40 (by decide) kw_1550 (v := .int 0) rfl dX12_sight_147 ?_
                refine lv_iload S.1 S.2.1 dX12_sight_150 (lv_at hl 6 rfl) ?_
                refine r_iast S hK hP hD hS 5 0 rfl rfl (0) rfl (by decide) (by decide) dX12_sight_152 (fun H locs hP hD hS => ?_)
                have hP : va_P D vwCl [((q 0), .inr (11, (mO q 0 0 0 0 0 0 0 0 (-1) 1 0 0 0 0 0 0 0 0 0))), ((q 37), .inl (cy 1, 96, .inl (fun _ => 1))), ((q 41), .inl (cy 0, 40, .inl (upd (fun _ => 0) (0) p0))), ((q 42), .inl (cy 0, 40, .inl (upd (fun _ => 0) (0) ((12 * p2) + p1)))), ((q 43), .inl (cy 0, 40, .inl (upd (fun _ => 0) (0) p3))), ((q 44), .inl (cy 0, 40, .inl (upd (fun _ => 0) (0) p4))), ((q 45), .inl (cy 0, 40, .inl (fun _ => 0))), ((q 46), .inl (cy 0, 40, .inl (fun _ => 0))), ((q 47), .inl (cy 0, 40, .inl (fun _ => 0))), ((q 48), .inl (cy 0, 40, .inl (fun _ => 0))), ((q 51), .inl (cy 0, 40, .inl (fun _ => 0)))] H := hP
                have hD : va_D A [((q 0), .inr (11, (mO q 0 0 0 0 0 0 0 0 (-1) 1 0 0 0 0 0 0 0 0 0))), ((q 37), .inl (cy 1, 96, .inl (fun _ => 1))), ((q 41), .inl (cy 0, 40, .inl (upd (fun _ => 0) (0) p0))), ((q 42), .inl (cy 0, 40, .inl (upd (fun _ => 0) (0) ((12 * p2) + p1)))), ((q 43), .inl (cy 0, 40, .inl (upd (fun _ => 0) (0) p3))), ((q 44), .inl (cy 0, 40, .inl (upd (fun _ => 0) (0) p4))), ((q 45), .inl (cy 0, 40, .inl (fun _ => 0))), ((q 46), .inl (cy 0, 40, .inl (fun _ => 0))), ((q 47), .inl (cy 0, 40, .inl (fun _ => 0))), ((q 48), .inl (cy 0, 40, .inl (fun _ => 0))), ((q 51), .inl (cy 0, 40, .inl (fun _ => 0)))] := hD
                refine lv_aload_n S.1 S.2.1 dX12_sight_153 rfl (lv_at hl 1 rfl) ?_
                refine r_get S hK hP 0 11 rfl rfl inX12 45 (by decide) kw_1555 (v := .ref (q 45)) rfl dX12_sight_154 ?_
                refine lv_aload_n S.1 S.2.1 dX12_sight_157 rfl (lv_at hl 1 rfl) ?_
                refine r_get S hK hP 0 11 rfl rfl inX12 40 (by decide) kw_1550 (v := .int 0) rfl dX12_sight_158 ?_
                refine lv_iload S.1 S.2.1 dX12_sight_161 (lv_at hl 7 rfl) ?_
                refine r_iast S hK hP hD hS 6 0 rfl rfl (0) rfl (by decide) (by decide) dX12_sight_163 (fun H locs hP hD hS => ?_)
                have hP : va_P D vwCl [((q 0), .inr (11, (mO q 0 0 0 0 0 0 0 0 (-1) 1 0 0 0 0 0 0 0 0 0))), ((q 37), .inl (cy 1, 96, .inl (fun _ => 1))), ((q 41), .inl (cy 0, 40, .inl (upd (fun _ => 0) (0) p0))), ((q 42), .inl (cy 0, 40, .inl (upd (fun _ => 0) (0) ((12 * p2) + p1)))), ((q 43), .inl (cy 0, 40, .inl (upd (fun _ => 0) (0) p3))), ((q 44), .inl (cy 0, 40, .inl (upd (fun _ => 0) (0) p4))), ((q 45), .inl (cy 0, 40, .inl (upd (fun _ => 0) (0) p5))), ((q 46), .inl (cy 0, 40, .inl (fun _ => 0))), ((q 47), .inl (cy 0, 40, .inl (fun _ => 0))), ((q 48), .inl (cy 0, 40, .inl (fun _ => 0))), ((q 51), .inl (cy 0, 40, .inl (fun _ => 0)))] H := hP
                have hD : va_D A [((q 0), .inr (11, (mO q 0 0 0 0 0 0 0 0 (-1) 1 0 0 0 0 0 0 0 0 0))), ((q 37), .inl (cy 1, 96, .inl (fun _ => 1))), ((q 41), .inl (cy 0, 40, .inl (upd (fun _ => 0) (0) p0))), ((q 42), .inl (cy 0, 40, .inl (upd (fun _ => 0) (0) ((12 * p2) + p1)))), ((q 43), .inl (cy 0, 40, .inl (upd (fun _ => 0) (0) p3))), ((q 44), .inl (cy 0, 40, .inl (upd (fun _ => 0) (0) p4))), ((q 45), .inl (cy 0, 40, .inl (upd (fun _ => 0) (0) p5))), ((q 46), .inl (cy 0, 40, .inl (fun _ => 0))), ((q 47), .inl (cy 0, 40, .inl (fun _ => 0))), ((q 48), .inl (cy 0, 40, .inl (fun _ => 0))), ((q 51), .inl (cy 0, 40, .inl (fun _ => 0)))] := hD
                refine lv_aload_n S.1 S.2.1 dX12_sight_164 rfl (lv_at hl 1 rfl) ?_
                refine r_get S hK hP 0 11 rfl rfl inX12 46 (by decide) kw_1556 (v := .ref (q 46)) rfl dX12_sight_165 ?_
                refine lv_aload_n S.1 S.2.1 dX12_sight_168 rfl (lv_at hl 1 rfl) ?_
                refine r_get S hK hP 0 11 rfl rfl inX12 40 (by decide) kw_1550 (v := .int 0) rfl dX12_sight_169 ?_
                refine lv_aload_n S.1 S.2.1 dX12_sight_172 rfl (lv_at hl 1 rfl) ?_
                refine r_get S hK hP 0 11 rfl rfl inX12 33 (by decide) kw_1543 (v := .int 0) rfl dX12_sight_173 ?_
                refine r_iast S hK hP hD hS 7 0 rfl rfl (0) rfl (by decide) (by decide) dX12_sight_176 (fun H locs hP hD hS => ?_)
                have hP : va_P D vwCl [((q 0), .inr (11, (mO q 0 0 0 0 0 0 0 0 (-1) 1 0 0 0 0 0 0 0 0 0))), ((q 37), .inl (cy 1, 96, .inl (fun _ => 1))), ((q 41), .inl (cy 0, 40, .inl (upd (fun _ => 0) (0) p0))), ((q 42), .inl (cy 0, 40, .inl (upd (fun _ => 0) (0) ((12 * p2) + p1)))), ((q 43), .inl (cy 0, 40, .inl (upd (fun _ => 0) (0) p3))), ((q 44), .inl (cy 0, 40, .inl (upd (fun _ => 0) (0) p4))), ((q 45), .inl (cy 0, 40, .inl (upd (fun _ => 0) (0) p5))), ((q 46), .inl (cy 0, 40, .inl (upd (fun _ => 0) (0) 0))), ((q 47), .inl (cy 0, 40, .inl (fun _ => 0))), ((q 48), .inl (cy 0, 40, .inl (fun _ => 0))), ((q 51), .inl (cy 0, 40, .inl (fun _ => 0)))] H := hP
                have hD : va_D A [((q 0), .inr (11, (mO q 0 0 0 0 0 0 0 0 (-1) 1 0 0 0 0 0 0 0 0 0))), ((q 37), .inl (cy 1, 96, .inl (fun _ => 1))), ((q 41), .inl (cy 0, 40, .inl (upd (fun _ => 0) (0) p0))), ((q 42), .inl (cy 0, 40, .inl (upd (fun _ => 0) (0) ((12 * p2) + p1)))), ((q 43), .inl (cy 0, 40, .inl (upd (fun _ => 0) (0) p3))), ((q 44), .inl (cy 0, 40, .inl (upd (fun _ => 0) (0) p4))), ((q 45), .inl (cy 0, 40, .inl (upd (fun _ => 0) (0) p5))), ((q 46), .inl (cy 0, 40, .inl (upd (fun _ => 0) (0) 0))), ((q 47), .inl (cy 0, 40, .inl (fun _ => 0))), ((q 48), .inl (cy 0, 40, .inl (fun _ => 0))), ((q 51), .inl (cy 0, 40, .inl (fun _ => 0)))] := hD
                refine lv_aload_n S.1 S.2.1 dX12_sight_177 rfl (lv_at hl 1 rfl) ?_
                refine r_get S hK hP 0 11 rfl rfl inX12 47 (by decide) kw_1557 (v := .ref (q 47)) rfl dX12_sight_178 ?_
                refine lv_aload_n S.1 S.2.1 dX12_sight_181 rfl (lv_at hl 1 rfl) ?_
                refine r_get S hK hP 0 11 rfl rfl inX12 40 (by decide) kw_1550 (v := .int 0) rfl dX12_sight_182 ?_
                refine lv_iconst (v := (-1)) S.1 S.2.1 dX12_sight_185 (by decide) ?_
                refine r_iast S hK hP hD hS 8 0 rfl rfl (0) rfl (by decide) (by decide) dX12_sight_186 (fun H locs hP hD hS => ?_)
                have hP : va_P D vwCl [((q 0), .inr (11, (mO q 0 0 0 0 0 0 0 0 (-1) 1 0 0 0 0 0 0 0 0 0))), ((q 37), .inl (cy 1, 96, .inl (fun _ => 1))), ((q 41), .inl (cy 0, 40, .inl (upd (fun _ => 0) (0) p0))), ((q 42), .inl (cy 0, 40, .inl (upd (fun _ => 0) (0) ((12 * p2) + p1)))), ((q 43), .inl (cy 0, 40, .inl (upd (fun _ => 0) (0) p3))), ((q 44), .inl (cy 0, 40, .inl (upd (fun _ => 0) (0) p4))), ((q 45), .inl (cy 0, 40, .inl (upd (fun _ => 0) (0) p5))), ((q 46), .inl (cy 0, 40, .inl (upd (fun _ => 0) (0) 0))), ((q 47), .inl (cy 0, 40, .inl (upd (fun _ => 0) (0) (-1)))), ((q 48), .inl (cy 0, 40, .inl (fun _ => 0))), ((q 51), .inl (cy 0, 40, .inl (fun _ => 0)))] H := hP
                have hD : va_D A [((q 0), .inr (11, (mO q 0 0 0 0 0 0 0 0 (-1) 1 0 0 0 0 0 0 0 0 0))), ((q 37), .inl (cy 1, 96, .inl (fun _ => 1))), ((q 41), .inl (cy 0, 40, .inl (upd (fun _ => 0) (0) p0))), ((q 42), .inl (cy 0, 40, .inl (upd (fun _ => 0) (0) ((12 * p2) + p1)))), ((q 43), .inl (cy 0, 40, .inl (upd (fun _ => 0) (0) p3))), ((q 44), .inl (cy 0, 40, .inl (upd (fun _ => 0) (0) p4))), ((q 45), .inl (cy 0, 40, .inl (upd (fun _ => 0) (0) p5))), ((q 46), .inl (cy 0, 40, .inl (upd (fun _ => 0) (0) 0))), ((q 47), .inl (cy 0, 40, .inl (upd (fun _ => 0) (0) (-1)))), ((q 48), .inl (cy 0, 40, .inl (fun _ => 0))), ((q 51), .inl (cy 0, 40, .inl (fun _ => 0)))] := hD
                refine lv_aload_n S.1 S.2.1 dX12_sight_187 rfl (lv_at hl 1 rfl) ?_
                refine r_get S hK hP 0 11 rfl rfl inX12 48 (by decide) kw_1558 (v := .ref (q 48)) rfl dX12_sight_188 ?_
                refine lv_aload_n S.1 S.2.1 dX12_sight_191 rfl (lv_at hl 1 rfl) ?_
                refine r_get S hK hP 0 11 rfl rfl inX12 40 (by decide) kw_1550 (v := .int 0) rfl dX12_sight_192 ?_
                refine lv_iconst (v := (-1)) S.1 S.2.1 dX12_sight_195 (by decide) ?_
                refine r_iast S hK hP hD hS 9 0 rfl rfl (0) rfl (by decide) (by decide) dX12_sight_196 (fun H locs hP hD hS => ?_)
                have hP : va_P D vwCl [((q 0), .inr (11, (mO q 0 0 0 0 0 0 0 0 (-1) 1 0 0 0 0 0 0 0 0 0))), ((q 37), .inl (cy 1, 96, .inl (fun _ => 1))), ((q 41), .inl (cy 0, 40, .inl (upd (fun _ => 0) (0) p0))), ((q 42), .inl (cy 0, 40, .inl (upd (fun _ => 0) (0) ((12 * p2) + p1)))), ((q 43), .inl (cy 0, 40, .inl (upd (fun _ => 0) (0) p3))), ((q 44), .inl (cy 0, 40, .inl (upd (fun _ => 0) (0) p4))), ((q 45), .inl (cy 0, 40, .inl (upd (fun _ => 0) (0) p5))), ((q 46), .inl (cy 0, 40, .inl (upd (fun _ => 0) (0) 0))), ((q 47), .inl (cy 0, 40, .inl (upd (fun _ => 0) (0) (-1)))), ((q 48), .inl (cy 0, 40, .inl (upd (fun _ => 0) (0) (-1)))), ((q 51), .inl (cy 0, 40, .inl (fun _ => 0)))] H := hP
                have hD : va_D A [((q 0), .inr (11, (mO q 0 0 0 0 0 0 0 0 (-1) 1 0 0 0 0 0 0 0 0 0))), ((q 37), .inl (cy 1, 96, .inl (fun _ => 1))), ((q 41), .inl (cy 0, 40, .inl (upd (fun _ => 0) (0) p0))), ((q 42), .inl (cy 0, 40, .inl (upd (fun _ => 0) (0) ((12 * p2) + p1)))), ((q 43), .inl (cy 0, 40, .inl (upd (fun _ => 0) (0) p3))), ((q 44), .inl (cy 0, 40, .inl (upd (fun _ => 0) (0) p4))), ((q 45), .inl (cy 0, 40, .inl (upd (fun _ => 0) (0) p5))), ((q 46), .inl (cy 0, 40, .inl (upd (fun _ => 0) (0) 0))), ((q 47), .inl (cy 0, 40, .inl (upd (fun _ => 0) (0) (-1)))), ((q 48), .inl (cy 0, 40, .inl (upd (fun _ => 0) (0) (-1)))), ((q 51), .inl (cy 0, 40, .inl (fun _ => 0)))] := hD
                refine lv_aload_n S.1 S.2.1 dX12_sight_197 rfl (lv_at hl 1 rfl) ?_
                refine r_get S hK hP 0 11 rfl rfl inX12 51 (by decide) kw_1561 (v := .ref (q 51)) rfl dX12_sight_198 ?_
                refine lv_aload_n S.1 S.2.1 dX12_sight_201 rfl (lv_at hl 1 rfl) ?_
                refine r_get S hK hP 0 11 rfl rfl inX12 40 (by decide) kw_1550 (v := .int 0) rfl dX12_sight_202 ?_
                refine lv_iconst (v := (-1)) S.1 S.2.1 dX12_sight_205 (by decide) ?_
                refine r_iast S hK hP hD hS 10 0 rfl rfl (0) rfl (by decide) (by decide) dX12_sight_206 (fun H locs hP hD hS => ?_)
                have hP : va_P D vwCl [((q 0), .inr (11, (mO q 0 0 0 0 0 0 0 0 (-1) 1 0 0 0 0 0 0 0 0 0))), ((q 37), .inl (cy 1, 96, .inl (fun _ => 1))), ((q 41), .inl (cy 0, 40, .inl (upd (fun _ => 0) (0) p0))), ((q 42), .inl (cy 0, 40, .inl (upd (fun _ => 0) (0) ((12 * p2) + p1)))), ((q 43), .inl (cy 0, 40, .inl (upd (fun _ => 0) (0) p3))), ((q 44), .inl (cy 0, 40, .inl (upd (fun _ => 0) (0) p4))), ((q 45), .inl (cy 0, 40, .inl (upd (fun _ => 0) (0) p5))), ((q 46), .inl (cy 0, 40, .inl (upd (fun _ => 0) (0) 0))), ((q 47), .inl (cy 0, 40, .inl (upd (fun _ => 0) (0) (-1)))), ((q 48), .inl (cy 0, 40, .inl (upd (fun _ => 0) (0) (-1)))), ((q 51), .inl (cy 0, 40, .inl (upd (fun _ => 0) (0) (-1))))] H := hP
                have hD : va_D A [((q 0), .inr (11, (mO q 0 0 0 0 0 0 0 0 (-1) 1 0 0 0 0 0 0 0 0 0))), ((q 37), .inl (cy 1, 96, .inl (fun _ => 1))), ((q 41), .inl (cy 0, 40, .inl (upd (fun _ => 0) (0) p0))), ((q 42), .inl (cy 0, 40, .inl (upd (fun _ => 0) (0) ((12 * p2) + p1)))), ((q 43), .inl (cy 0, 40, .inl (upd (fun _ => 0) (0) p3))), ((q 44), .inl (cy 0, 40, .inl (upd (fun _ => 0) (0) p4))), ((q 45), .inl (cy 0, 40, .inl (upd (fun _ => 0) (0) p5))), ((q 46), .inl (cy 0, 40, .inl (upd (fun _ => 0) (0) 0))), ((q 47), .inl (cy 0, 40, .inl (upd (fun _ => 0) (0) (-1)))), ((q 48), .inl (cy 0, 40, .inl (upd (fun _ => 0) (0) (-1)))), ((q 51), .inl (cy 0, 40, .inl (upd (fun _ => 0) (0) (-1))))] := hD
                refine lv_aload_n S.1 S.2.1 dX12_sight_207 rfl (lv_at hl 1 rfl) ?_
                refine lv_dup S.1 S.2.1 dX12_sight_208 rfl ?_
                refine r_get S hK hP 0 11 rfl rfl inX12 40 (by decide) kw_1550 (v := .int 0) rfl dX12_sight_209 ?_
                refine lv_iconst (v := 1) S.1 S.2.1 dX12_sight_212 (by decide) ?_
                refine r_iadd S dX12_sight_213 (v := 1) (by decide) ?_
                refine r_put S hK hP hD hS 0 11 rfl rfl inX12 40 (by decide) tyX12 tyX12_ok nmX12 kw_1550 (v := .int 1) rfl rfl rfl (Nat.le_of_ble_eq_true rfl) dX12_sight_214 (fun H locs hP hD hS => ?_)
                have hP : va_P D vwCl [((q 0), .inr (11, (mO q 0 0 0 0 0 0 0 0 (-1) 1 1 0 0 0 0 0 0 0 0))), ((q 37), .inl (cy 1, 96, .inl (fun _ => 1))), ((q 41), .inl (cy 0, 40, .inl (upd (fun _ => 0) (0) p0))), ((q 42), .inl (cy 0, 40, .inl (upd (fun _ => 0) (0) ((12 * p2) + p1)))), ((q 43), .inl (cy 0, 40, .inl (upd (fun _ => 0) (0) p3))), ((q 44), .inl (cy 0, 40, .inl (upd (fun _ => 0) (0) p4))), ((q 45), .inl (cy 0, 40, .inl (upd (fun _ => 0) (0) p5))), ((q 46), .inl (cy 0, 40, .inl (upd (fun _ => 0) (0) 0))), ((q 47), .inl (cy 0, 40, .inl (upd (fun _ => 0) (0) (-1)))), ((q 48), .inl (cy 0, 40, .inl (upd (fun _ => 0) (0) (-1)))), ((q 51), .inl (cy 0, 40, .inl (upd (fun _ => 0) (0) (-1))))] H := hP
                have hD : va_D A [((q 0), .inr (11, (mO q 0 0 0 0 0 0 0 0 (-1) 1 1 0 0 0 0 0 0 0 0))), ((q 37), .inl (cy 1, 96, .inl (fun _ => 1))), ((q 41), .inl (cy 0, 40, .inl (upd (fun _ => 0) (0) p0))), ((q 42), .inl (cy 0, 40, .inl (upd (fun _ => 0) (0) ((12 * p2) + p1)))), ((q 43), .inl (cy 0, 40, .inl (upd (fun _ => 0) (0) p3))), ((q 44), .inl (cy 0, 40, .inl (upd (fun _ => 0) (0) p4))), ((q 45), .inl (cy 0, 40, .inl (upd (fun _ => 0) (0) p5))), ((q 46), .inl (cy 0, 40, .inl (upd (fun _ => 0) (0) 0))), ((q 47), .inl (cy 0, 40, .inl (upd (fun _ => 0) (0) (-1)))), ((q 48), .inl (cy 0, 40, .inl (upd (fun _ => 0) (0) (-1)))), ((q 51), .inl (cy 0, 40, .inl (upd (fun _ => 0) (0) (-1))))] := hD
                refine lv_aload_n S.1 S.2.1 dX12_sight_217 rfl (lv_at hl 1 rfl) ?_
                refine lv_iconst (v := 1) S.1 S.2.1 dX12_sight_218 (by decide) ?_
                refine r_put S hK hP hD hS 0 11 rfl rfl inX12 35 (by decide) tyX12 tyX12_ok nmX12 kw_1545 (v := .int 1) rfl (by decide) (by decide) (Nat.le_of_ble_eq_true rfl) dX12_sight_219 (fun H locs hP hD hS => ?_)
                have hP : va_P D vwCl [((q 0), .inr (11, (mO q 0 0 0 0 0 0 0 0 (-1) 1 1 0 0 0 0 0 0 0 0))), ((q 37), .inl (cy 1, 96, .inl (fun _ => 1))), ((q 41), .inl (cy 0, 40, .inl (upd (fun _ => 0) (0) p0))), ((q 42), .inl (cy 0, 40, .inl (upd (fun _ => 0) (0) ((12 * p2) + p1)))), ((q 43), .inl (cy 0, 40, .inl (upd (fun _ => 0) (0) p3))), ((q 44), .inl (cy 0, 40, .inl (upd (fun _ => 0) (0) p4))), ((q 45), .inl (cy 0, 40, .inl (upd (fun _ => 0) (0) p5))), ((q 46), .inl (cy 0, 40, .inl (upd (fun _ => 0) (0) 0))), ((q 47), .inl (cy 0, 40, .inl (upd (fun _ => 0) (0) (-1)))), ((q 48), .inl (cy 0, 40, .inl (upd (fun _ => 0) (0) (-1)))), ((q 51), .inl (cy 0, 40, .inl (upd (fun _ => 0) (0) (-1))))] H := hP
                have hD : va_D A [((q 0), .inr (11, (mO q 0 0 0 0 0 0 0 0 (-1) 1 1 0 0 0 0 0 0 0 0))), ((q 37), .inl (cy 1, 96, .inl (fun _ => 1))), ((q 41), .inl (cy 0, 40, .inl (upd (fun _ => 0) (0) p0))), ((q 42), .inl (cy 0, 40, .inl (upd (fun _ => 0) (0) ((12 * p2) + p1)))), ((q 43), .inl (cy 0, 40, .inl (upd (fun _ => 0) (0) p3))), ((q 44), .inl (cy 0, 40, .inl (upd (fun _ => 0) (0) p4))), ((q 45), .inl (cy 0, 40, .inl (upd (fun _ => 0) (0) p5))), ((q 46), .inl (cy 0, 40, .inl (upd (fun _ => 0) (0) 0))), ((q 47), .inl (cy 0, 40, .inl (upd (fun _ => 0) (0) (-1)))), ((q 48), .inl (cy 0, 40, .inl (upd (fun _ => 0) (0) (-1)))), ((q 51), .inl (cy 0, 40, .inl (upd (fun _ => 0) (0) (-1))))] := hD
                refine lv_aload_n S.1 S.2.1 dX12_sight_222 rfl (lv_at hl 1 rfl) ?_
                refine r_get S hK hP 0 11 rfl rfl inX12 40 (by decide) kw_1550 (v := .int 1) rfl dX12_sight_223 ?_
                refine lv_iconst (v := 1) S.1 S.2.1 dX12_sight_226 (by decide) ?_
                refine r_isub S dX12_sight_227 (v := 0) (by decide) ?_
                exact ci_ret (u := ()) S hr hlk rfl hK (hP.sub [] rfl) (hD.sub [] (by decide) rfl) hS (Or.inl ⟨rfl, (by omega)⟩) (by decide) (by decide) dX12_sight_228
            · refine r_if_eq S 0 rfl dX12_sight_62 (tgt := 69) (by decide) (fun _ => ?_) (fun c => absurd c (by decide))
              refine lv_iconst (v := 0) S.1 S.2.1 dX12_sight_69 (by decide) ?_
              refine lv_istore (lv' := [(7, .int 0), (0, .ref (q 0)), (1, .int p0), (2, .int p1), (3, .int p2), (4, .int p3), (5, .int p4), (6, .int p5)]) S.1 S.2.1 dX12_sight_70 hl (by decide) rfl (fun ls hl => ?_)
              refine lv_iload S.1 S.2.1 dX12_sight_72 (lv_at hl 0 rfl) ?_
              refine r_if_eq S 0 rfl dX12_sight_74 (tgt := 104) (by decide) (fun _ => ?_) (fun c => absurd c (by decide))
              refine lv_iconst (v := (-1)) S.1 S.2.1 dX12_sight_104 (by decide) ?_
              exact ci_ret (u := ()) S hr hlk rfl hK (hP.sub [] rfl) (hD.sub [] (by decide) rfl) hS (Or.inr (⟨rfl, (by omega)⟩)) (by decide) (by decide) dX12_sight_105
          · refine r_if_eq S 0 rfl dX12_sight_50 (tgt := 69) (by decide) (fun _ => ?_) (fun c => absurd c (by decide))
            refine lv_iconst (v := 0) S.1 S.2.1 dX12_sight_69 (by decide) ?_
            refine lv_istore (lv' := [(7, .int 0), (0, .ref (q 0)), (1, .int p0), (2, .int p1), (3, .int p2), (4, .int p3), (5, .int p4), (6, .int p5)]) S.1 S.2.1 dX12_sight_70 hl (by decide) rfl (fun ls hl => ?_)
            refine lv_iload S.1 S.2.1 dX12_sight_72 (lv_at hl 0 rfl) ?_
            refine r_if_eq S 0 rfl dX12_sight_74 (tgt := 104) (by decide) (fun _ => ?_) (fun c => absurd c (by decide))
            refine lv_iconst (v := (-1)) S.1 S.2.1 dX12_sight_104 (by decide) ?_
            exact ci_ret (u := ()) S hr hlk rfl hK (hP.sub [] rfl) (hD.sub [] (by decide) rfl) hS (Or.inr (⟨rfl, (by omega)⟩)) (by decide) (by decide) dX12_sight_105
        · refine r_if_eq S 0 rfl dX12_sight_40 (tgt := 69) (by decide) (fun _ => ?_) (fun c => absurd c (by decide))
          refine lv_iconst (v := 0) S.1 S.2.1 dX12_sight_69 (by decide) ?_
          refine lv_istore (lv' := [(7, .int 0), (0, .ref (q 0)), (1, .int p0), (2, .int p1), (3, .int p2), (4, .int p3), (5, .int p4), (6, .int p5)]) S.1 S.2.1 dX12_sight_70 hl (by decide) rfl (fun ls hl => ?_)
          refine lv_iload S.1 S.2.1 dX12_sight_72 (lv_at hl 0 rfl) ?_
          refine r_if_eq S 0 rfl dX12_sight_74 (tgt := 104) (by decide) (fun _ => ?_) (fun c => absurd c (by decide))
          refine lv_iconst (v := (-1)) S.1 S.2.1 dX12_sight_104 (by decide) ?_
          exact ci_ret (u := ()) S hr hlk rfl hK (hP.sub [] rfl) (hD.sub [] (by decide) rfl) hS (Or.inr (⟨rfl, (by omega)⟩)) (by decide) (by decide) dX12_sight_105
    · refine r_if_eq S 0 rfl dX12_sight_19 (tgt := 69) (by decide) (fun _ => ?_) (fun c => absurd c (by decide))
      refine lv_iconst (v := 0) S.1 S.2.1 dX12_sight_69 (by decide) ?_
      refine lv_istore (lv' := [(7, .int 0), (0, .ref (q 0)), (1, .int p0), (2, .int p1), (3, .int p2), (4, .int p3), (5, .int p4), (6, .int p5)]) S.1 S.2.1 dX12_sight_70 hl (by decide) rfl (fun ls hl => ?_)
      refine lv_iload S.1 S.2.1 dX12_sight_72 (lv_at hl 0 rfl) ?_
      refine r_if_eq S 0 rfl dX12_sight_74 (tgt := 104) (by decide) (fun _ => ?_) (fun c => absurd c (by decide))
      refine lv_iconst (v := (-1)) S.1 S.2.1 dX12_sight_104 (by decide) ?_
      exact ci_ret (u := ()) S hr hlk rfl hK (hP.sub [] rfl) (hD.sub [] (by decide) rfl) hS (Or.inr (⟨rfl, (by omega)⟩)) (by decide) (by decide) dX12_sight_105
  · refine r_if_eq S 0 rfl dX12_sight_11 (tgt := 69) (by decide) (fun _ => ?_) (fun c => absurd c (by decide))
    refine lv_iconst (v := 0) S.1 S.2.1 dX12_sight_69 (by decide) ?_
    refine lv_istore (lv' := [(7, .int 0), (0, .ref (q 0)), (1, .int p0), (2, .int p1), (3, .int p2), (4, .int p3), (5, .int p4), (6, .int p5)]) S.1 S.2.1 dX12_sight_70 hl (by decide) rfl (fun ls hl => ?_)
    refine lv_iload S.1 S.2.1 dX12_sight_72 (lv_at hl 0 rfl) ?_
    refine r_if_eq S 0 rfl dX12_sight_74 (tgt := 104) (by decide) (fun _ => ?_) (fun c => absurd c (by decide))
    refine lv_iconst (v := (-1)) S.1 S.2.1 dX12_sight_104 (by decide) ?_
    exact ci_ret (u := ()) S hr hlk rfl hK (hP.sub [] rfl) (hD.sub [] (by decide) rfl) hS (Or.inr (⟨rfl, (by omega)⟩)) (by decide) (by decide) dX12_sight_105
set_option maxHeartbeats 4000000 in
set_option maxRecDepth 100000 in
theorem kX11_drawn (l : Launch) (D : va_G) (cy : Nat → ClassId) (x : Nat → Nat) (p0 : Int32) (p1 : Int32) (p2 : Int32) (z0 : Int) (h0 : p0.toInt = z0) (z1 : Int) (h1 : p1.toInt = z1) (z2 : Int) (h2 : p2.toInt = z2) : CI l D cy yX11_drawn cX11_drawn 5 (some .int) 1 21 0 0 [.ref (x 0), .int p0, .int p1, .int p2] [((x 0), .inr (10, [.int 0, .int (-1), .ref (x 1), .ref (x 9), .int 0, .ref (x 10), .ref (x 13), .ref (x 16), .ref (x 29), .int 0, .int 0, .ref (x 30), .int 0, .ref (x 31), .ref (x 42), .int 0, .int 0, .null, .ref (x 43)]))] (fun (v : Int32) (u : Unit) => v = (-1)) (fun (u : Unit) => []) := by
  refine ci_go (by decide) (Nat.le_of_ble_eq_true rfl) (fun p e s m below meth c ls A hA S hr hlk hnm hP hK hD hl => ?_)
  have hS : va_S A s.heap s.heap [] := va_S.rf
  have hl : lv_has ls 5 [(0, .ref (x 0)), (1, .int p0), (2, .int p1), (3, .int p2)] := hl
  refine lv_iload_n S.1 S.2.1 dX11_drawn_0 rfl (lv_at hl 2 rfl) ?_
  refine lv_iload_n S.1 S.2.1 dX11_drawn_1 rfl (lv_at hl 3 rfl) ?_
  refine call_ri (runS_R (wc := []) (As := [.int p1, .int p2]) (rest := []) S (kX11_cellAt l D cy p1 p2 z1 h1 z2 h2) hK hP [] rfl kw_538 kw_539 kw_144 kw_540 okX11_cellAt rfl (by decide) hl.1 rfl (Nat.le_of_ble_eq_true rfl) dX11_drawn_2 (by decide)) (fun v2 w2 => ?_)
  rcases w2 with ⟨rfl, w2_0_0⟩ | ⟨cx_2, cl_2, rfl, w2_1_0, w2_1_1, w2_1_2, w2_1_3⟩
  · refine lv_istore (lv' := [(4, .int (-1)), (0, .ref (x 0)), (1, .int p0), (2, .int p1), (3, .int p2)]) S.1 S.2.1 dX11_drawn_5 hl (by decide) rfl (fun ls hl => ?_)
    refine lv_iload S.1 S.2.1 dX11_drawn_7 (lv_at hl 0 rfl) ?_
    refine lv_iconst (v := (-1)) S.1 S.2.1 dX11_drawn_9 (by decide) ?_
    refine r_icmp_eq S (-1) (-1) rfl rfl dX11_drawn_10 (tgt := 21) (by decide) (fun _ => ?_) (fun c => absurd c (by decide))
    refine lv_iconst (v := (-1)) S.1 S.2.1 dX11_drawn_21 (by decide) ?_
    refine lv_goto (tgt := 37) S.1 S.2.1 dX11_drawn_22 (by decide) ?_
    exact ci_ret (u := ()) S hr hlk rfl hK (hP.sub [] rfl) (hD.sub [] (by decide) rfl) hS (rfl) (by decide) (by decide) dX11_drawn_37
  · refine lv_istore (lv' := [(4, .int (nI (12 * cl_2 + cx_2))), (0, .ref (x 0)), (1, .int p0), (2, .int p1), (3, .int p2)]) S.1 S.2.1 dX11_drawn_5 hl (by decide) rfl (fun ls hl => ?_)
    refine lv_iload S.1 S.2.1 dX11_drawn_7 (lv_at hl 0 rfl) ?_
    refine lv_iconst (v := (-1)) S.1 S.2.1 dX11_drawn_9 (by decide) ?_
    refine r_icmp_eq S ((12 * cl_2 + cx_2 : Nat) : Int) (-1) (nI_toInt (by omega)) rfl dX11_drawn_10 (tgt := 21) (by decide) (fun c => absurd c (by omega)) (fun _ => ?_)
    refine lv_aload_n S.1 S.2.1 dX11_drawn_13 rfl (lv_at hl 1 rfl) ?_
    refine lv_iload_n S.1 S.2.1 dX11_drawn_14 rfl (lv_at hl 2 rfl) ?_
    refine call_ri (runV_R (wc := [((x 0), .inr (10, [.int 0, .int (-1), .ref (x 1), .ref (x 9), .int 0, .ref (x 10), .ref (x 13), .ref (x 16), .ref (x 29), .int 0, .int 0, .ref (x 30), .int 0, .ref (x 31), .ref (x 42), .int 0, .int 0, .null, .ref (x 43)]))]) (As := [.int p0]) (rest := []) S (kX11_isSheet l D cy x p0 z0 h0) hK hP [0] rfl 0 10 rfl rfl kw_1279 kw_1281 kw_52 kw_144 kw_1282 okX11_isSheet rfl (by decide) hl.1 rfl (Nat.le_of_ble_eq_true rfl) dX11_drawn_15 (by decide)) (fun v15 w15 => ?_)
    subst w15
    refine r_if_ne S 0 rfl dX11_drawn_18 (tgt := 25) (by decide) (fun c => absurd c (by decide)) (fun _ => ?_)
    refine lv_iconst (v := (-1)) S.1 S.2.1 dX11_drawn_21 (by decide) ?_
    refine lv_goto (tgt := 37) S.1 S.2.1 dX11_drawn_22 (by decide) ?_
    exact ci_ret (u := ()) S hr hlk rfl hK (hP.sub [] rfl) (hD.sub [] (by decide) rfl) hS (rfl) (by decide) (by decide) dX11_drawn_37
set_option maxHeartbeats 4000000 in
set_option maxRecDepth 100000 in
theorem kX12_drawn (l : Launch) (D : va_G) (cy : Nat → ClassId) (q : Nat → Nat) (p0 : Int32) (p1 : Int32) (p2 : Int32) (z0 : Int) (h0 : p0.toInt = z0) (z1 : Int) (h1 : p1.toInt = z1) (z2 : Int) (h2 : p2.toInt = z2) : CI l D cy yX12_drawn cX12_drawn 4 (some .int) 1 21 0 0 [.ref (q 0), .int p0, .int p1, .int p2] [((q 0), .inr (11, (mO q 0 0 0 0 0 0 0 0 (-1) 1 0 0 0 0 0 0 0 0 0)))] (fun (v : Int32) (u : Unit) => v = (-1)) (fun (u : Unit) => []) := by
  refine ci_go (by decide) (Nat.le_of_ble_eq_true rfl) (fun p e s m below meth c ls A hA S hr hlk hnm hP hK hD hl => ?_)
  have hS : va_S A s.heap s.heap [] := va_S.rf
  have hl : lv_has ls 4 [(0, .ref (q 0)), (1, .int p0), (2, .int p1), (3, .int p2)] := hl
  refine lv_aload_n S.1 S.2.1 dX12_drawn_0 rfl (lv_at hl 0 rfl) ?_
  refine lv_iconst (v := 0) S.1 S.2.1 dX12_drawn_1 (by decide) ?_
  refine r_put S hK hP hD hS 0 11 rfl rfl inX12 0 (by decide) tyX12 tyX12_ok nmX12 kw_1510 (v := .int 0) rfl rfl rfl (Nat.le_of_ble_eq_true rfl) dX12_drawn_2 (fun H locs hP hD hS => ?_)
  have hP : va_P D vwCl [((q 0), .inr (11, (mO q 0 0 0 0 0 0 0 0 (-1) 1 0 0 0 0 0 0 0 0 0)))] H := hP
  have hD : va_D A [((q 0), .inr (11, (mO q 0 0 0 0 0 0 0 0 (-1) 1 0 0 0 0 0 0 0 0 0)))] := hD
  refine lv_aload_n S.1 S.2.1 dX12_drawn_5 rfl (lv_at hl 0 rfl) ?_
  refine lv_iload_n S.1 S.2.1 dX12_drawn_6 rfl (lv_at hl 1 rfl) ?_
  refine call_ri (runV_R (wc := [((q 0), .inr (11, (mO q 0 0 0 0 0 0 0 0 (-1) 1 0 0 0 0 0 0 0 0 0)))]) (As := [.int p0]) (rest := []) S (kX12_isSheet l D cy q p0 z0 h0) hK hP [0] rfl 0 11 rfl rfl kw_2188 kw_2190 kw_134 kw_152 kw_2191 okX12_isSheet rfl (by decide) hl.1 rfl (Nat.le_of_ble_eq_true rfl) dX12_drawn_7 (by decide)) (fun v7 w7 => ?_)
  subst w7
  refine r_if_eq S 0 rfl dX12_drawn_10 (tgt := 40) (by decide) (fun _ => ?_) (fun c => absurd c (by decide))
  refine lv_iconst (v := (-1)) S.1 S.2.1 dX12_drawn_40 (by decide) ?_
  exact ci_ret (u := ()) S hr hlk rfl hK (hP.sub [] rfl) (hD.sub [] (by decide) rfl) hS (rfl) (by decide) (by decide) dX12_drawn_41
set_option maxHeartbeats 4000000 in
set_option maxRecDepth 100000 in
theorem kX11_quarrel (l : Launch) (D : va_G) (cy : Nat → ClassId) (x : Nat → Nat) (p0 : Int32) (p1 : Int32) (z0 : Int) (h0 : p0.toInt = z0) (z1 : Int) (h1 : p1.toInt = z1) : CI l D cy yX11_quarrel cX11_quarrel 7 (some .int) 1 21 0 0 [.ref (x 0), .int p0, .int p1] [((x 0), .inr (10, [.int 0, .int (-1), .ref (x 1), .ref (x 9), .int 0, .ref (x 10), .ref (x 13), .ref (x 16), .ref (x 29), .int 0, .int 0, .ref (x 30), .int 0, .ref (x 31), .ref (x 42), .int 0, .int 0, .null, .ref (x 43)]))] (fun (v : Int32) (u : Unit) => v = (-1)) (fun (u : Unit) => []) := by
  refine ci_go (by decide) (Nat.le_of_ble_eq_true rfl) (fun p e s m below meth c ls A hA S hr hlk hnm hP hK hD hl => ?_)
  have hS : va_S A s.heap s.heap [] := va_S.rf
  have hl : lv_has ls 7 [(0, .ref (x 0)), (1, .int p0), (2, .int p1)] := hl
  refine lv_aload_n S.1 S.2.1 dX11_quarrel_0 rfl (lv_at hl 0 rfl) ?_
  refine lv_iload_n S.1 S.2.1 dX11_quarrel_1 rfl (lv_at hl 1 rfl) ?_
  refine call_ri (runV_R (wc := [((x 0), .inr (10, [.int 0, .int (-1), .ref (x 1), .ref (x 9), .int 0, .ref (x 10), .ref (x 13), .ref (x 16), .ref (x 29), .int 0, .int 0, .ref (x 30), .int 0, .ref (x 31), .ref (x 42), .int 0, .int 0, .null, .ref (x 43)]))]) (As := [.int p0]) (rest := []) S (kX11_isSheet l D cy x p0 z0 h0) hK hP [0] rfl 0 10 rfl rfl kw_1279 kw_1281 kw_52 kw_144 kw_1282 okX11_isSheet rfl (by decide) hl.1 rfl (Nat.le_of_ble_eq_true rfl) dX11_quarrel_2 (by decide)) (fun v2 w2 => ?_)
  subst w2
  refine r_if_eq S 0 rfl dX11_quarrel_5 (tgt := 16) (by decide) (fun _ => ?_) (fun c => absurd c (by decide))
  refine lv_iconst (v := (-1)) S.1 S.2.1 dX11_quarrel_16 (by decide) ?_
  exact ci_ret (u := ()) S hr hlk rfl hK (hP.sub [] rfl) (hD.sub [] (by decide) rfl) hS (rfl) (by decide) (by decide) dX11_quarrel_17
set_option maxHeartbeats 4000000 in
set_option maxRecDepth 100000 in
theorem kX12_quarrel (l : Launch) (D : va_G) (cy : Nat → ClassId) (q : Nat → Nat) (p0 : Int32) (p1 : Int32) (z0 : Int) (h0 : p0.toInt = z0) (z1 : Int) (h1 : p1.toInt = z1) : CI l D cy yX12_quarrel cX12_quarrel 7 (some .int) 1 21 0 0 [.ref (q 0), .int p0, .int p1] [((q 0), .inr (11, (mO q 0 0 0 0 0 0 0 0 (-1) 1 0 0 0 0 0 0 0 0 0)))] (fun (v : Int32) (u : Unit) => v = (-1)) (fun (u : Unit) => []) := by
  refine ci_go (by decide) (Nat.le_of_ble_eq_true rfl) (fun p e s m below meth c ls A hA S hr hlk hnm hP hK hD hl => ?_)
  have hS : va_S A s.heap s.heap [] := va_S.rf
  have hl : lv_has ls 7 [(0, .ref (q 0)), (1, .int p0), (2, .int p1)] := hl
  refine lv_aload_n S.1 S.2.1 dX12_quarrel_0 rfl (lv_at hl 0 rfl) ?_
  refine lv_iconst (v := 0) S.1 S.2.1 dX12_quarrel_1 (by decide) ?_
  refine r_put S hK hP hD hS 0 11 rfl rfl inX12 0 (by decide) tyX12 tyX12_ok nmX12 kw_1510 (v := .int 0) rfl rfl rfl (Nat.le_of_ble_eq_true rfl) dX12_quarrel_2 (fun H locs hP hD hS => ?_)
  have hP : va_P D vwCl [((q 0), .inr (11, (mO q 0 0 0 0 0 0 0 0 (-1) 1 0 0 0 0 0 0 0 0 0)))] H := hP
  have hD : va_D A [((q 0), .inr (11, (mO q 0 0 0 0 0 0 0 0 (-1) 1 0 0 0 0 0 0 0 0 0)))] := hD
  refine lv_aload_n S.1 S.2.1 dX12_quarrel_5 rfl (lv_at hl 0 rfl) ?_
  refine lv_iload_n S.1 S.2.1 dX12_quarrel_6 rfl (lv_at hl 1 rfl) ?_
  refine call_ri (runV_R (wc := [((q 0), .inr (11, (mO q 0 0 0 0 0 0 0 0 (-1) 1 0 0 0 0 0 0 0 0 0)))]) (As := [.int p0]) (rest := []) S (kX12_isSheet l D cy q p0 z0 h0) hK hP [0] rfl 0 11 rfl rfl kw_2188 kw_2190 kw_134 kw_152 kw_2191 okX12_isSheet rfl (by decide) hl.1 rfl (Nat.le_of_ble_eq_true rfl) dX12_quarrel_7 (by decide)) (fun v7 w7 => ?_)
  subst w7
  refine r_if_eq S 0 rfl dX12_quarrel_10 (tgt := 21) (by decide) (fun _ => ?_) (fun c => absurd c (by decide))
  refine lv_iconst (v := (-1)) S.1 S.2.1 dX12_quarrel_21 (by decide) ?_
  exact ci_ret (u := ()) S hr hlk rfl hK (hP.sub [] rfl) (hD.sub [] (by decide) rfl) hS (rfl) (by decide) (by decide) dX12_quarrel_22
set_option maxHeartbeats 4000000 in
set_option maxRecDepth 100000 in
theorem kX11_question (l : Launch) (D : va_G) (cy : Nat → ClassId) (x : Nat → Nat) (p0 : Int32) (p1 : Int32) (p2 : Int32) (z0 : Int) (h0 : p0.toInt = z0) (z1 : Int) (h1 : p1.toInt = z1) (z2 : Int) (h2 : p2.toInt = z2) : CI l D cy yX11_question cX11_question 5 (some .boolean) 1 21 0 0 [.ref (x 0), .int p0, .int p1, .int p2] [((x 0), .inr (10, [.int 0, .int (-1), .ref (x 1), .ref (x 9), .int 0, .ref (x 10), .ref (x 13), .ref (x 16), .ref (x 29), .int 0, .int 0, .ref (x 30), .int 0, .ref (x 31), .ref (x 42), .int 0, .int 0, .null, .ref (x 43)])), ((x 1), .inr (2, [.ref (x 2), .ref (x 3), .ref (x 4), .ref (x 5), .ref (x 6), .int 0, .ref (x 7), .ref (x 8), .int 0])), ((x 6), .inl (cy 1, 96, .inl (fun _ => 0)))] (fun (v : Int32) (u : Unit) => (v = 1 ∧ (0 ≤ z0 ∧ z0 ≤ 11 ∧ 0 ≤ z1 ∧ z1 ≤ 7)) ∨ (v = 0 ∧ ¬ (0 ≤ z0 ∧ z0 ≤ 11 ∧ 0 ≤ z1 ∧ z1 ≤ 7))) (fun (u : Unit) => []) := by
  refine ci_go (by decide) (Nat.le_of_ble_eq_true rfl) (fun p e s m below meth c ls A hA S hr hlk hnm hP hK hD hl => ?_)
  have hS : va_S A s.heap s.heap [] := va_S.rf
  have hl : lv_has ls 5 [(0, .ref (x 0)), (1, .int p0), (2, .int p1), (3, .int p2)] := hl
  refine lv_iload_n S.1 S.2.1 dX11_question_0 rfl (lv_at hl 1 rfl) ?_
  refine lv_iload_n S.1 S.2.1 dX11_question_1 rfl (lv_at hl 2 rfl) ?_
  refine call_ri (runS_R (wc := []) (As := [.int p0, .int p1]) (rest := []) S (kX11_cellAt l D cy p0 p1 z0 h0 z1 h1) hK hP [] rfl kw_538 kw_539 kw_144 kw_540 okX11_cellAt rfl (by decide) hl.1 rfl (Nat.le_of_ble_eq_true rfl) dX11_question_2 (by decide)) (fun v2 w2 => ?_)
  rcases w2 with ⟨rfl, w2_0_0⟩ | ⟨cx_2, cl_2, rfl, w2_1_0, w2_1_1, w2_1_2, w2_1_3⟩
  · refine lv_istore (lv' := [(4, .int (-1)), (0, .ref (x 0)), (1, .int p0), (2, .int p1), (3, .int p2)]) S.1 S.2.1 dX11_question_5 hl (by decide) rfl (fun ls hl => ?_)
    refine lv_iload S.1 S.2.1 dX11_question_7 (lv_at hl 0 rfl) ?_
    refine lv_iconst (v := (-1)) S.1 S.2.1 dX11_question_9 (by decide) ?_
    refine r_icmp_ne S (-1) (-1) rfl rfl dX11_question_10 (tgt := 15) (by decide) (fun c => absurd c (by decide)) (fun _ => ?_)
    refine lv_iconst (v := 0) S.1 S.2.1 dX11_question_13 (by decide) ?_
    exact ci_ret (u := ()) S hr hlk (by decide) hK (hP.sub [] rfl) (hD.sub [] (by decide) rfl) hS (Or.inr (⟨rfl, (by omega)⟩)) (by decide) (by decide) dX11_question_14
  · refine lv_istore (lv' := [(4, .int (nI (12 * cl_2 + cx_2))), (0, .ref (x 0)), (1, .int p0), (2, .int p1), (3, .int p2)]) S.1 S.2.1 dX11_question_5 hl (by decide) rfl (fun ls hl => ?_)
    refine lv_iload S.1 S.2.1 dX11_question_7 (lv_at hl 0 rfl) ?_
    refine lv_iconst (v := (-1)) S.1 S.2.1 dX11_question_9 (by decide) ?_
    refine r_icmp_ne S ((12 * cl_2 + cx_2 : Nat) : Int) (-1) (nI_toInt (by omega)) rfl dX11_question_10 (tgt := 15) (by decide) (fun _ => ?_) (fun c => absurd c (by omega))
    refine lv_aload_n S.1 S.2.1 dX11_question_15 rfl (lv_at hl 1 rfl) ?_
    refine r_get S hK hP 0 10 rfl rfl inX11 2 (by decide) kw_470 (v := .ref (x 1)) rfl dX11_question_16 ?_
    refine r_get S hK hP 1 2 rfl rfl inX2 4 (by decide) kw_198 (v := .ref (x 6)) rfl dX11_question_19 ?_
    refine lv_iload S.1 S.2.1 dX11_question_22 (lv_at hl 0 rfl) ?_
    refine r_zald S hK hP 2 1 rfl rfl ((12 * cl_2 + cx_2)) rfl (by omega) (by decide) (v := 0) rfl dX11_question_24 ?_
    refine lv_iload_n S.1 S.2.1 dX11_question_25 rfl (lv_at hl 4 rfl) ?_
    refine r_icmp_ne S 0 z2 rfl h2 dX11_question_26 (tgt := 31) (by decide) (fun e_26_1 => ?_) (fun e_26_1 => ?_)
    · refine lv_iload_n S.1 S.2.1 dX11_question_31 rfl (lv_at hl 4 rfl) ?_
      refine r_if_eq S z2 h2 dX11_question_32 (tgt := 49) (by decide) (fun e_32_2 => ?_) (fun e_32_2 => ?_)
      · refine lv_aload_n S.1 S.2.1 dX11_question_49 rfl (lv_at hl 1 rfl) ?_
        refine r_get S hK hP 0 10 rfl rfl inX11 2 (by decide) kw_470 (v := .ref (x 1)) rfl dX11_question_50 ?_
        refine r_get S hK hP 1 2 rfl rfl inX2 4 (by decide) kw_198 (v := .ref (x 6)) rfl dX11_question_53 ?_
        refine lv_iload S.1 S.2.1 dX11_question_56 (lv_at hl 0 rfl) ?_
        refine lv_iload_n S.1 S.2.1 dX11_question_58 rfl (lv_at hl 4 rfl) ?_
        refine r_zast S hK hP hD hS 2 1 rfl rfl ((12 * cl_2 + cx_2)) rfl (by omega) (by decide) dX11_question_59 (fun H locs hP hD hS => ?_)
        have hP : va_P D vwCl [((x 0), .inr (10, [.int 0, .int (-1), .ref (x 1), .ref (x 9), .int 0, .ref (x 10), .ref (x 13), .ref (x 16), .ref (x 29), .int 0, .int 0, .ref (x 30), .int 0, .ref (x 31), .ref (x 42), .int 0, .int 0, .null, .ref (x 43)])), ((x 1), .inr (2, [.ref (x 2), .ref (x 3), .ref (x 4), .ref (x 5), .ref (x 6), .int 0, .ref (x 7), .ref (x 8), .int 0])), ((x 6), .inl (cy 1, 96, .inl (upd (fun _ => 0) ((12 * cl_2 + cx_2)) (vp_nar .boolean p2))))] H := hP
        have hD : va_D A [((x 0), .inr (10, [.int 0, .int (-1), .ref (x 1), .ref (x 9), .int 0, .ref (x 10), .ref (x 13), .ref (x 16), .ref (x 29), .int 0, .int 0, .ref (x 30), .int 0, .ref (x 31), .ref (x 42), .int 0, .int 0, .null, .ref (x 43)])), ((x 1), .inr (2, [.ref (x 2), .ref (x 3), .ref (x 4), .ref (x 5), .ref (x 6), .int 0, .ref (x 7), .ref (x 8), .int 0])), ((x 6), .inl (cy 1, 96, .inl (upd (fun _ => 0) ((12 * cl_2 + cx_2)) (vp_nar .boolean p2))))] := hD
        refine lv_aload_n S.1 S.2.1 dX11_question_60 rfl (lv_at hl 1 rfl) ?_
        refine r_get S hK hP 0 10 rfl rfl inX11 2 (by decide) kw_470 (v := .ref (x 1)) rfl dX11_question_61 ?_
        refine lv_dup S.1 S.2.1 dX11_question_64 rfl ?_
        refine r_get S hK hP 1 2 rfl rfl inX2 5 (by decide) kw_199 (v := .int 0) rfl dX11_question_65 ?_
        refine lv_iload_n S.1 S.2.1 dX11_question_68 rfl (lv_at hl 4 rfl) ?_
        refine r_if_eq S z2 h2 dX11_question_69 (tgt := 76) (by decide) (fun e_69_3 => ?_) (fun e_69_3 => ?_)
        · refine lv_iconst (v := (-1)) S.1 S.2.1 dX11_question_76 (by decide) ?_
          refine r_iadd S dX11_question_77 (v := (-1)) (by decide) ?_
          refine r_put S hK hP hD hS 1 2 rfl rfl inX2 5 (by decide) tyX2 tyX2_ok nmX2 kw_199 (v := .int (-1)) rfl rfl rfl (Nat.le_of_ble_eq_true rfl) dX11_question_78 (fun H locs hP hD hS => ?_)
          have hP : va_P D vwCl [((x 0), .inr (10, [.int 0, .int (-1), .ref (x 1), .ref (x 9), .int 0, .ref (x 10), .ref (x 13), .ref (x 16), .ref (x 29), .int 0, .int 0, .ref (x 30), .int 0, .ref (x 31), .ref (x 42), .int 0, .int 0, .null, .ref (x 43)])), ((x 1), .inr (2, [.ref (x 2), .ref (x 3), .ref (x 4), .ref (x 5), .ref (x 6), .int (-1), .ref (x 7), .ref (x 8), .int 0])), ((x 6), .inl (cy 1, 96, .inl (upd (fun _ => 0) ((12 * cl_2 + cx_2)) (vp_nar .boolean p2))))] H := hP
          have hD : va_D A [((x 0), .inr (10, [.int 0, .int (-1), .ref (x 1), .ref (x 9), .int 0, .ref (x 10), .ref (x 13), .ref (x 16), .ref (x 29), .int 0, .int 0, .ref (x 30), .int 0, .ref (x 31), .ref (x 42), .int 0, .int 0, .null, .ref (x 43)])), ((x 1), .inr (2, [.ref (x 2), .ref (x 3), .ref (x 4), .ref (x 5), .ref (x 6), .int (-1), .ref (x 7), .ref (x 8), .int 0])), ((x 6), .inl (cy 1, 96, .inl (upd (fun _ => 0) ((12 * cl_2 + cx_2)) (vp_nar .boolean p2))))] := hD
          refine lv_iconst (v := 1) S.1 S.2.1 dX11_question_81 (by decide) ?_
          exact ci_ret (u := ()) S hr hlk (by decide) hK (hP.sub [] rfl) (hD.sub [] (by decide) rfl) hS (Or.inl ⟨rfl, (by omega)⟩) (by decide) (by decide) dX11_question_82
        · refine lv_iconst (v := 1) S.1 S.2.1 dX11_question_72 (by decide) ?_
          refine lv_goto (tgt := 77) S.1 S.2.1 dX11_question_73 (by decide) ?_
          refine r_iadd S dX11_question_77 (v := 1) (by decide) ?_
          refine r_put S hK hP hD hS 1 2 rfl rfl inX2 5 (by decide) tyX2 tyX2_ok nmX2 kw_199 (v := .int 1) rfl rfl rfl (Nat.le_of_ble_eq_true rfl) dX11_question_78 (fun H locs hP hD hS => ?_)
          have hP : va_P D vwCl [((x 0), .inr (10, [.int 0, .int (-1), .ref (x 1), .ref (x 9), .int 0, .ref (x 10), .ref (x 13), .ref (x 16), .ref (x 29), .int 0, .int 0, .ref (x 30), .int 0, .ref (x 31), .ref (x 42), .int 0, .int 0, .null, .ref (x 43)])), ((x 1), .inr (2, [.ref (x 2), .ref (x 3), .ref (x 4), .ref (x 5), .ref (x 6), .int 1, .ref (x 7), .ref (x 8), .int 0])), ((x 6), .inl (cy 1, 96, .inl (upd (fun _ => 0) ((12 * cl_2 + cx_2)) (vp_nar .boolean p2))))] H := hP
          have hD : va_D A [((x 0), .inr (10, [.int 0, .int (-1), .ref (x 1), .ref (x 9), .int 0, .ref (x 10), .ref (x 13), .ref (x 16), .ref (x 29), .int 0, .int 0, .ref (x 30), .int 0, .ref (x 31), .ref (x 42), .int 0, .int 0, .null, .ref (x 43)])), ((x 1), .inr (2, [.ref (x 2), .ref (x 3), .ref (x 4), .ref (x 5), .ref (x 6), .int 1, .ref (x 7), .ref (x 8), .int 0])), ((x 6), .inl (cy 1, 96, .inl (upd (fun _ => 0) ((12 * cl_2 + cx_2)) (vp_nar .boolean p2))))] := hD
          refine lv_iconst (v := 1) S.1 S.2.1 dX11_question_81 (by decide) ?_
          exact ci_ret (u := ()) S hr hlk (by decide) hK (hP.sub [] rfl) (hD.sub [] (by decide) rfl) hS (Or.inl ⟨rfl, (by omega)⟩) (by decide) (by decide) dX11_question_82
      · refine lv_aload_n S.1 S.2.1 dX11_question_35 rfl (lv_at hl 1 rfl) ?_
        refine r_get S hK hP 0 10 rfl rfl inX11 2 (by decide) kw_470 (v := .ref (x 1)) rfl dX11_question_36 ?_
        refine r_get S hK hP 1 2 rfl rfl inX2 5 (by decide) kw_199 (v := .int 0) rfl dX11_question_39 ?_
        refine lv_bipush (v := 8) S.1 S.2.1 dX11_question_42 (by decide) ?_
        refine r_icmp_lt S 0 8 rfl rfl dX11_question_44 (tgt := 49) (by decide) (fun _ => ?_) (fun c => absurd c (by decide))
        refine lv_aload_n S.1 S.2.1 dX11_question_49 rfl (lv_at hl 1 rfl) ?_
        refine r_get S hK hP 0 10 rfl rfl inX11 2 (by decide) kw_470 (v := .ref (x 1)) rfl dX11_question_50 ?_
        refine r_get S hK hP 1 2 rfl rfl inX2 4 (by decide) kw_198 (v := .ref (x 6)) rfl dX11_question_53 ?_
        refine lv_iload S.1 S.2.1 dX11_question_56 (lv_at hl 0 rfl) ?_
        refine lv_iload_n S.1 S.2.1 dX11_question_58 rfl (lv_at hl 4 rfl) ?_
        refine r_zast S hK hP hD hS 2 1 rfl rfl ((12 * cl_2 + cx_2)) rfl (by omega) (by decide) dX11_question_59 (fun H locs hP hD hS => ?_)
        have hP : va_P D vwCl [((x 0), .inr (10, [.int 0, .int (-1), .ref (x 1), .ref (x 9), .int 0, .ref (x 10), .ref (x 13), .ref (x 16), .ref (x 29), .int 0, .int 0, .ref (x 30), .int 0, .ref (x 31), .ref (x 42), .int 0, .int 0, .null, .ref (x 43)])), ((x 1), .inr (2, [.ref (x 2), .ref (x 3), .ref (x 4), .ref (x 5), .ref (x 6), .int 0, .ref (x 7), .ref (x 8), .int 0])), ((x 6), .inl (cy 1, 96, .inl (upd (fun _ => 0) ((12 * cl_2 + cx_2)) (vp_nar .boolean p2))))] H := hP
        have hD : va_D A [((x 0), .inr (10, [.int 0, .int (-1), .ref (x 1), .ref (x 9), .int 0, .ref (x 10), .ref (x 13), .ref (x 16), .ref (x 29), .int 0, .int 0, .ref (x 30), .int 0, .ref (x 31), .ref (x 42), .int 0, .int 0, .null, .ref (x 43)])), ((x 1), .inr (2, [.ref (x 2), .ref (x 3), .ref (x 4), .ref (x 5), .ref (x 6), .int 0, .ref (x 7), .ref (x 8), .int 0])), ((x 6), .inl (cy 1, 96, .inl (upd (fun _ => 0) ((12 * cl_2 + cx_2)) (vp_nar .boolean p2))))] := hD
        refine lv_aload_n S.1 S.2.1 dX11_question_60 rfl (lv_at hl 1 rfl) ?_
        refine r_get S hK hP 0 10 rfl rfl inX11 2 (by decide) kw_470 (v := .ref (x 1)) rfl dX11_question_61 ?_
        refine lv_dup S.1 S.2.1 dX11_question_64 rfl ?_
        refine r_get S hK hP 1 2 rfl rfl inX2 5 (by decide) kw_199 (v := .int 0) rfl dX11_question_65 ?_
        refine lv_iload_n S.1 S.2.1 dX11_question_68 rfl (lv_at hl 4 rfl) ?_
        refine r_if_eq S z2 h2 dX11_question_69 (tgt := 76) (by decide) (fun e_69_3 => ?_) (fun e_69_3 => ?_)
        · refine lv_iconst (v := (-1)) S.1 S.2.1 dX11_question_76 (by decide) ?_
          refine r_iadd S dX11_question_77 (v := (-1)) (by decide) ?_
          refine r_put S hK hP hD hS 1 2 rfl rfl inX2 5 (by decide) tyX2 tyX2_ok nmX2 kw_199 (v := .int (-1)) rfl rfl rfl (Nat.le_of_ble_eq_true rfl) dX11_question_78 (fun H locs hP hD hS => ?_)
          have hP : va_P D vwCl [((x 0), .inr (10, [.int 0, .int (-1), .ref (x 1), .ref (x 9), .int 0, .ref (x 10), .ref (x 13), .ref (x 16), .ref (x 29), .int 0, .int 0, .ref (x 30), .int 0, .ref (x 31), .ref (x 42), .int 0, .int 0, .null, .ref (x 43)])), ((x 1), .inr (2, [.ref (x 2), .ref (x 3), .ref (x 4), .ref (x 5), .ref (x 6), .int (-1), .ref (x 7), .ref (x 8), .int 0])), ((x 6), .inl (cy 1, 96, .inl (upd (fun _ => 0) ((12 * cl_2 + cx_2)) (vp_nar .boolean p2))))] H := hP
          have hD : va_D A [((x 0), .inr (10, [.int 0, .int (-1), .ref (x 1), .ref (x 9), .int 0, .ref (x 10), .ref (x 13), .ref (x 16), .ref (x 29), .int 0, .int 0, .ref (x 30), .int 0, .ref (x 31), .ref (x 42), .int 0, .int 0, .null, .ref (x 43)])), ((x 1), .inr (2, [.ref (x 2), .ref (x 3), .ref (x 4), .ref (x 5), .ref (x 6), .int (-1), .ref (x 7), .ref (x 8), .int 0])), ((x 6), .inl (cy 1, 96, .inl (upd (fun _ => 0) ((12 * cl_2 + cx_2)) (vp_nar .boolean p2))))] := hD
          refine lv_iconst (v := 1) S.1 S.2.1 dX11_question_81 (by decide) ?_
          exact ci_ret (u := ()) S hr hlk (by decide) hK (hP.sub [] rfl) (hD.sub [] (by decide) rfl) hS (Or.inl ⟨rfl, (by omega)⟩) (by decide) (by decide) dX11_question_82
        · refine lv_iconst (v := 1) S.1 S.2.1 dX11_question_72 (by decide) ?_
          refine lv_goto (tgt := 77) S.1 S.2.1 dX11_question_73 (by decide) ?_
          refine r_iadd S dX11_question_77 (v := 1) (by decide) ?_
          refine r_put S hK hP hD hS 1 2 rfl rfl inX2 5 (by decide) tyX2 tyX2_ok nmX2 kw_199 (v := .int 1) rfl rfl rfl (Nat.le_of_ble_eq_true rfl) dX11_question_78 (fun H locs hP hD hS => ?_)
          have hP : va_P D vwCl [((x 0), .inr (10, [.int 0, .int (-1), .ref (x 1), .ref (x 9), .int 0, .ref (x 10), .ref (x 13), .ref (x 16), .ref (x 29), .int 0, .int 0, .ref (x 30), .int 0, .ref (x 31), .ref (x 42), .int 0, .int 0, .null, .ref (x 43)])), ((x 1), .inr (2, [.ref (x 2), .ref (x 3), .ref (x 4), .ref (x 5), .ref (x 6), .int 1, .ref (x 7), .ref (x 8), .int 0])), ((x 6), .inl (cy 1, 96, .inl (upd (fun _ => 0) ((12 * cl_2 + cx_2)) (vp_nar .boolean p2))))] H := hP
          have hD : va_D A [((x 0), .inr (10, [.int 0, .int (-1), .ref (x 1), .ref (x 9), .int 0, .ref (x 10), .ref (x 13), .ref (x 16), .ref (x 29), .int 0, .int 0, .ref (x 30), .int 0, .ref (x 31), .ref (x 42), .int 0, .int 0, .null, .ref (x 43)])), ((x 1), .inr (2, [.ref (x 2), .ref (x 3), .ref (x 4), .ref (x 5), .ref (x 6), .int 1, .ref (x 7), .ref (x 8), .int 0])), ((x 6), .inl (cy 1, 96, .inl (upd (fun _ => 0) ((12 * cl_2 + cx_2)) (vp_nar .boolean p2))))] := hD
          refine lv_iconst (v := 1) S.1 S.2.1 dX11_question_81 (by decide) ?_
          exact ci_ret (u := ()) S hr hlk (by decide) hK (hP.sub [] rfl) (hD.sub [] (by decide) rfl) hS (Or.inl ⟨rfl, (by omega)⟩) (by decide) (by decide) dX11_question_82
    · refine lv_iconst (v := 1) S.1 S.2.1 dX11_question_29 (by decide) ?_
      exact ci_ret (u := ()) S hr hlk (by decide) hK (hP.sub [] rfl) (hD.sub [] (by decide) rfl) hS (Or.inl ⟨rfl, (by omega)⟩) (by decide) (by decide) dX11_question_30
set_option maxHeartbeats 4000000 in
set_option maxRecDepth 100000 in
theorem kX12_question (l : Launch) (D : va_G) (cy : Nat → ClassId) (q : Nat → Nat) (p0 : Int32) (p1 : Int32) (p2 : Int32) (z0 : Int) (h0 : p0.toInt = z0) (z1 : Int) (h1 : p1.toInt = z1) (z2 : Int) (h2 : p2.toInt = z2) : CI l D cy yX12_question cX12_question 4 (some .boolean) 2 43 0 0 [.ref (q 0), .int p0, .int p1, .int p2] [((q 0), .inr (11, (mO q 0 0 0 0 0 0 0 0 (-1) 1 0 0 0 0 0 0 0 0 0))), ((q 82), .inl (cy 1, 96, .inl (fun _ => 0)))] (fun (v : Int32) (u : Unit) => (v = 1 ∧ (0 ≤ z0 ∧ z0 ≤ 11 ∧ 0 ≤ z1 ∧ z1 ≤ 7)) ∨ (v = 0 ∧ ¬ (0 ≤ z0 ∧ z0 ≤ 11 ∧ 0 ≤ z1 ∧ z1 ≤ 7))) (fun (u : Unit) => []) := by
  refine ci_go (by decide) (Nat.le_of_ble_eq_true rfl) (fun p e s m below meth c ls A hA S hr hlk hnm hP hK hD hl => ?_)
  have hS : va_S A s.heap s.heap [] := va_S.rf
  have hl : lv_has ls 4 [(0, .ref (q 0)), (1, .int p0), (2, .int p1), (3, .int p2)] := hl
  refine lv_aload_n S.1 S.2.1 dX12_question_0 rfl (lv_at hl 0 rfl) ?_
  refine lv_iconst (v := 0) S.1 S.2.1 dX12_question_1 (by decide) ?_
  refine r_put S hK hP hD hS 0 11 rfl rfl inX12 0 (by decide) tyX12 tyX12_ok nmX12 kw_1510 (v := .int 0) rfl rfl rfl (Nat.le_of_ble_eq_true rfl) dX12_question_2 (fun H locs hP hD hS => ?_)
  have hP : va_P D vwCl [((q 0), .inr (11, (mO q 0 0 0 0 0 0 0 0 (-1) 1 0 0 0 0 0 0 0 0 0))), ((q 82), .inl (cy 1, 96, .inl (fun _ => 0)))] H := hP
  have hD : va_D A [((q 0), .inr (11, (mO q 0 0 0 0 0 0 0 0 (-1) 1 0 0 0 0 0 0 0 0 0))), ((q 82), .inl (cy 1, 96, .inl (fun _ => 0)))] := hD
  refine lv_iload_n S.1 S.2.1 dX12_question_5 rfl (lv_at hl 1 rfl) ?_
  refine lv_iload_n S.1 S.2.1 dX12_question_6 rfl (lv_at hl 2 rfl) ?_
  refine call_ri (runS_R (wc := []) (As := [.int p0, .int p1]) (rest := []) S (kX12_isCell l D cy p0 p1 z0 h0 z1 h1) hK hP [] rfl kw_1903 kw_1904 kw_152 kw_1905 okX12_isCell rfl (by decide) hl.1 rfl (Nat.le_of_ble_eq_true rfl) dX12_question_7 (by decide)) (fun v7 w7 => ?_)
  rcases w7 with ⟨rfl, w7_0_0⟩ | ⟨rfl, w7_1_0⟩
  · refine r_if_eq S 1 rfl dX12_question_10 (tgt := 40) (by decide) (fun c => absurd c (by decide)) (fun _ => ?_)
    refine lv_iload_n S.1 S.2.1 dX12_question_13 rfl (lv_at hl 3 rfl) ?_
    refine r_if_eq S z2 h2 dX12_question_14 (tgt := 42) (by decide) (fun e_14_1 => ?_) (fun e_14_1 => ?_)
    · refine lv_aload_n S.1 S.2.1 dX12_question_42 rfl (lv_at hl 0 rfl) ?_
      refine r_get S hK hP 0 11 rfl rfl inX12 82 (by decide) kw_1592 (v := .ref (q 82)) rfl dX12_question_43 ?_
      refine lv_bipush (v := 12) S.1 S.2.1 dX12_question_46 (by decide) ?_
      refine lv_iload_n S.1 S.2.1 dX12_question_48 rfl (lv_at hl 2 rfl) ?_
      refine r_imul S dX12_question_49 (v := (12 * p1)) rfl ?_
      refine lv_iload_n S.1 S.2.1 dX12_question_50 rfl (lv_at hl 1 rfl) ?_
      refine r_iadd S dX12_question_51 (v := ((12 * p1) + p0)) rfl ?_
      refine lv_iload_n S.1 S.2.1 dX12_question_52 rfl (lv_at hl 3 rfl) ?_
      obtain ⟨j53_2, hj53_2, qj53_2, zj53_2⟩ := i_nat 96 (zadd (x := (12 * p1)) (y := p0) (X := (12 * z1)) (Y := z0) (zmul (x := 12) (y := p1) (X := 12) (Y := z1) rfl h1 (by omega) (by omega)) h0 (by omega) (by omega)) (by omega) (by omega)
      refine r_zast S hK hP hD hS 1 1 rfl rfl (j53_2) qj53_2 hj53_2 (by decide) dX12_question_53 (fun H locs hP hD hS => ?_)
      have hP : va_P D vwCl [((q 0), .inr (11, (mO q 0 0 0 0 0 0 0 0 (-1) 1 0 0 0 0 0 0 0 0 0))), ((q 82), .inl (cy 1, 96, .inl (upd (fun _ => 0) (j53_2) (vp_nar .boolean p2))))] H := hP
      have hD : va_D A [((q 0), .inr (11, (mO q 0 0 0 0 0 0 0 0 (-1) 1 0 0 0 0 0 0 0 0 0))), ((q 82), .inl (cy 1, 96, .inl (upd (fun _ => 0) (j53_2) (vp_nar .boolean p2))))] := hD
      refine lv_iconst (v := 1) S.1 S.2.1 dX12_question_54 (by decide) ?_
      exact ci_ret (u := ()) S hr hlk (by decide) hK (hP.sub [] rfl) (hD.sub [] (by decide) rfl) hS (Or.inl ⟨rfl, (by omega)⟩) (by decide) (by decide) dX12_question_55
    · refine lv_aload_n S.1 S.2.1 dX12_question_17 rfl (lv_at hl 0 rfl) ?_
      refine r_get S hK hP 0 11 rfl rfl inX12 82 (by decide) kw_1592 (v := .ref (q 82)) rfl dX12_question_18 ?_
      refine lv_bipush (v := 12) S.1 S.2.1 dX12_question_21 (by decide) ?_
      refine lv_iload_n S.1 S.2.1 dX12_question_23 rfl (lv_at hl 2 rfl) ?_
      refine r_imul S dX12_question_24 (v := (12 * p1)) rfl ?_
      refine lv_iload_n S.1 S.2.1 dX12_question_25 rfl (lv_at hl 1 rfl) ?_
      refine r_iadd S dX12_question_26 (v := ((12 * p1) + p0)) rfl ?_
      obtain ⟨j27_2, hj27_2, qj27_2, zj27_2⟩ := i_nat 96 (zadd (x := (12 * p1)) (y := p0) (X := (12 * z1)) (Y := z0) (zmul (x := 12) (y := p1) (X := 12) (Y := z1) rfl h1 (by omega) (by omega)) h0 (by omega) (by omega)) (by omega) (by omega)
      refine r_zald S hK hP 1 1 rfl rfl (j27_2) qj27_2 hj27_2 (by decide) (v := 0) rfl dX12_question_27 ?_
      refine r_if_ne S 0 rfl dX12_question_28 (tgt := 42) (by decide) (fun c => absurd c (by decide)) (fun _ => ?_)
      refine lv_aload_n S.1 S.2.1 dX12_question_31 rfl (lv_at hl 0 rfl) ?_
      refine call_ri (runV_R (wc := [((q 0), .inr (11, (mO q 0 0 0 0 0 0 0 0 (-1) 1 0 0 0 0 0 0 0 0 0))), ((q 82), .inl (cy 1, 96, .inl (fun _ => 0)))]) (As := []) (rest := []) S (kX12_asked l D cy q) hK hP [0, 1] rfl 0 11 rfl rfl kw_2216 kw_2218 kw_136 kw_152 kw_2219 okX12_asked rfl (by decide) hl.1 rfl (Nat.le_of_ble_eq_true rfl) dX12_question_32 (by decide)) (fun v32 w32 => ?_)
      subst w32
      refine lv_bipush (v := 8) S.1 S.2.1 dX12_question_35 (by decide) ?_
      refine r_icmp_ne S 0 8 rfl rfl dX12_question_37 (tgt := 42) (by decide) (fun _ => ?_) (fun c => absurd c (by decide))
      refine lv_aload_n S.1 S.2.1 dX12_question_42 rfl (lv_at hl 0 rfl) ?_
      refine r_get S hK hP 0 11 rfl rfl inX12 82 (by decide) kw_1592 (v := .ref (q 82)) rfl dX12_question_43 ?_
      refine lv_bipush (v := 12) S.1 S.2.1 dX12_question_46 (by decide) ?_
      refine lv_iload_n S.1 S.2.1 dX12_question_48 rfl (lv_at hl 2 rfl) ?_
      refine r_imul S dX12_question_49 (v := (12 * p1)) rfl ?_
      refine lv_iload_n S.1 S.2.1 dX12_question_50 rfl (lv_at hl 1 rfl) ?_
      refine r_iadd S dX12_question_51 (v := ((12 * p1) + p0)) rfl ?_
      refine lv_iload_n S.1 S.2.1 dX12_question_52 rfl (lv_at hl 3 rfl) ?_
      obtain ⟨j53_3, hj53_3, qj53_3, zj53_3⟩ := i_nat 96 (zadd (x := (12 * p1)) (y := p0) (X := (12 * z1)) (Y := z0) (zmul (x := 12) (y := p1) (X := 12) (Y := z1) rfl h1 (by omega) (by omega)) h0 (by omega) (by omega)) (by omega) (by omega)
      refine r_zast S hK hP hD hS 1 1 rfl rfl (j53_3) qj53_3 hj53_3 (by decide) dX12_question_53 (fun H locs hP hD hS => ?_)
      have hP : va_P D vwCl [((q 0), .inr (11, (mO q 0 0 0 0 0 0 0 0 (-1) 1 0 0 0 0 0 0 0 0 0))), ((q 82), .inl (cy 1, 96, .inl (upd (fun _ => 0) (j53_3) (vp_nar .boolean p2))))] H := hP
      have hD : va_D A [((q 0), .inr (11, (mO q 0 0 0 0 0 0 0 0 (-1) 1 0 0 0 0 0 0 0 0 0))), ((q 82), .inl (cy 1, 96, .inl (upd (fun _ => 0) (j53_3) (vp_nar .boolean p2))))] := hD
      refine lv_iconst (v := 1) S.1 S.2.1 dX12_question_54 (by decide) ?_
      exact ci_ret (u := ()) S hr hlk (by decide) hK (hP.sub [] rfl) (hD.sub [] (by decide) rfl) hS (Or.inl ⟨rfl, (by omega)⟩) (by decide) (by decide) dX12_question_55
  · refine r_if_eq S 0 rfl dX12_question_10 (tgt := 40) (by decide) (fun _ => ?_) (fun c => absurd c (by decide))
    refine lv_iconst (v := 0) S.1 S.2.1 dX12_question_40 (by decide) ?_
    exact ci_ret (u := ()) S hr hlk (by decide) hK (hP.sub [] rfl) (hD.sub [] (by decide) rfl) hS (Or.inr (⟨rfl, (by omega)⟩)) (by decide) (by decide) dX12_question_41
set_option maxHeartbeats 4000000 in
set_option maxRecDepth 100000 in
theorem kX11_place (l : Launch) (D : va_G) (cy : Nat → ClassId) (x : Nat → Nat) (p0 : Int32) (p1 : Int32) (p2 : Int32) (z0 : Int) (h0 : p0.toInt = z0) (z1 : Int) (h1 : p1.toInt = z1) (z2 : Int) (h2 : p2.toInt = z2) : CI l D cy yX11_place cX11_place 5 (some .int) 1 21 0 0 [.ref (x 0), .int p0, .int p1, .int p2] [((x 0), .inr (10, [.int 0, .int (-1), .ref (x 1), .ref (x 9), .int 0, .ref (x 10), .ref (x 13), .ref (x 16), .ref (x 29), .int 0, .int 0, .ref (x 30), .int 0, .ref (x 31), .ref (x 42), .int 0, .int 0, .null, .ref (x 43)])), ((x 1), .inr (2, [.ref (x 2), .ref (x 3), .ref (x 4), .ref (x 5), .ref (x 6), .int 0, .ref (x 7), .ref (x 8), .int 0])), ((x 7), .inl (cy 0, 8, .inl (fun _ => 0))), ((x 8), .inl (cy 0, 8, .inl (fun _ => 0)))] (fun (v : Int32) (u : Unit) => (v = 0 ∧ (0 ≤ z0 ∧ z0 ≤ 11 ∧ 0 ≤ z1 ∧ z1 ≤ 7 ∧ 1 ≤ z2 ∧ z2 ≤ 99)) ∨ (v = (-1) ∧ ¬ (0 ≤ z0 ∧ z0 ≤ 11 ∧ 0 ≤ z1 ∧ z1 ≤ 7 ∧ 1 ≤ z2 ∧ z2 ≤ 99))) (fun (u : Unit) => []) := by
  refine ci_go (by decide) (Nat.le_of_ble_eq_true rfl) (fun p e s m below meth c ls A hA S hr hlk hnm hP hK hD hl => ?_)
  have hS : va_S A s.heap s.heap [] := va_S.rf
  have hl : lv_has ls 5 [(0, .ref (x 0)), (1, .int p0), (2, .int p1), (3, .int p2)] := hl
  refine lv_iload_n S.1 S.2.1 dX11_place_0 rfl (lv_at hl 1 rfl) ?_
  refine lv_iload_n S.1 S.2.1 dX11_place_1 rfl (lv_at hl 2 rfl) ?_
  refine call_ri (runS_R (wc := []) (As := [.int p0, .int p1]) (rest := []) S (kX11_cellAt l D cy p0 p1 z0 h0 z1 h1) hK hP [] rfl kw_538 kw_539 kw_144 kw_540 okX11_cellAt rfl (by decide) hl.1 rfl (Nat.le_of_ble_eq_true rfl) dX11_place_2 (by decide)) (fun v2 w2 => ?_)
  rcases w2 with ⟨rfl, w2_0_0⟩ | ⟨cx_2, cl_2, rfl, w2_1_0, w2_1_1, w2_1_2, w2_1_3⟩
  · refine lv_istore (lv' := [(4, .int (-1)), (0, .ref (x 0)), (1, .int p0), (2, .int p1), (3, .int p2)]) S.1 S.2.1 dX11_place_5 hl (by decide) rfl (fun ls hl => ?_)
    refine lv_iload S.1 S.2.1 dX11_place_7 (lv_at hl 0 rfl) ?_
    refine lv_iconst (v := (-1)) S.1 S.2.1 dX11_place_9 (by decide) ?_
    refine r_icmp_eq S (-1) (-1) rfl rfl dX11_place_10 (tgt := 36) (by decide) (fun _ => ?_) (fun c => absurd c (by decide))
    refine lv_iconst (v := (-1)) S.1 S.2.1 dX11_place_36 (by decide) ?_
    exact ci_ret (u := ()) S hr hlk rfl hK (hP.sub [] rfl) (hD.sub [] (by decide) rfl) hS (Or.inr (⟨rfl, (by omega)⟩)) (by decide) (by decide) dX11_place_37
  · refine lv_istore (lv' := [(4, .int (nI (12 * cl_2 + cx_2))), (0, .ref (x 0)), (1, .int p0), (2, .int p1), (3, .int p2)]) S.1 S.2.1 dX11_place_5 hl (by decide) rfl (fun ls hl => ?_)
    refine lv_iload S.1 S.2.1 dX11_place_7 (lv_at hl 0 rfl) ?_
    refine lv_iconst (v := (-1)) S.1 S.2.1 dX11_place_9 (by decide) ?_
    refine r_icmp_eq S ((12 * cl_2 + cx_2 : Nat) : Int) (-1) (nI_toInt (by omega)) rfl dX11_place_10 (tgt := 36) (by decide) (fun c => absurd c (by omega)) (fun _ => ?_)
    refine lv_iload_n S.1 S.2.1 dX11_place_13 rfl (lv_at hl 4 rfl) ?_
    refine lv_iconst (v := 1) S.1 S.2.1 dX11_place_14 (by decide) ?_
    refine r_icmp_lt S z2 1 h2 rfl dX11_place_15 (tgt := 36) (by decide) (fun e_15_1 => ?_) (fun e_15_1 => ?_)
    · refine lv_iconst (v := (-1)) S.1 S.2.1 dX11_place_36 (by decide) ?_
      exact ci_ret (u := ()) S hr hlk rfl hK (hP.sub [] rfl) (hD.sub [] (by decide) rfl) hS (Or.inr (⟨rfl, (by omega)⟩)) (by decide) (by decide) dX11_place_37
    · refine lv_iload_n S.1 S.2.1 dX11_place_18 rfl (lv_at hl 4 rfl) ?_
      refine lv_bipush (v := 99) S.1 S.2.1 dX11_place_19 (by decide) ?_
      refine r_icmp_gt S z2 99 h2 rfl dX11_place_21 (tgt := 36) (by decide) (fun e_21_2 => ?_) (fun e_21_2 => ?_)
      · refine lv_iconst (v := (-1)) S.1 S.2.1 dX11_place_36 (by decide) ?_
        exact ci_ret (u := ()) S hr hlk rfl hK (hP.sub [] rfl) (hD.sub [] (by decide) rfl) hS (Or.inr (⟨rfl, (by omega)⟩)) (by decide) (by decide) dX11_place_37
      · refine lv_aload_n S.1 S.2.1 dX11_place_24 rfl (lv_at hl 1 rfl) ?_
        refine r_get S hK hP 0 10 rfl rfl inX11 2 (by decide) kw_470 (v := .ref (x 1)) rfl dX11_place_25 ?_
        refine r_get S hK hP 1 2 rfl rfl inX2 8 (by decide) kw_204 (v := .int 0) rfl dX11_place_28 ?_
        refine lv_bipush (v := 8) S.1 S.2.1 dX11_place_31 (by decide) ?_
        refine r_icmp_lt S 0 8 rfl rfl dX11_place_33 (tgt := 38) (by decide) (fun _ => ?_) (fun c => absurd c (by decide))
        refine lv_aload_n S.1 S.2.1 dX11_place_38 rfl (lv_at hl 1 rfl) ?_
        refine r_get S hK hP 0 10 rfl rfl inX11 2 (by decide) kw_470 (v := .ref (x 1)) rfl dX11_place_39 ?_
        refine r_get S hK hP 1 2 rfl rfl inX2 6 (by decide) kw_201 (v := .ref (x 7)) rfl dX11_place_42 ?_
        refine lv_aload_n S.1 S.2.1 dX11_place_45 rfl (lv_at hl 1 rfl) ?_
        refine r_get S hK hP 0 10 rfl rfl inX11 2 (by decide) kw_470 (v := .ref (x 1)) rfl dX11_place_46 ?_
        refine r_get S hK hP 1 2 rfl rfl inX2 8 (by decide) kw_204 (v := .int 0) rfl dX11_place_49 ?_
        refine lv_iload S.1 S.2.1 dX11_place_52 (lv_at hl 0 rfl) ?_
        refine r_iast S hK hP hD hS 2 0 rfl rfl (0) rfl (by decide) (by decide) dX11_place_54 (fun H locs hP hD hS => ?_)
        have hP : va_P D vwCl [((x 0), .inr (10, [.int 0, .int (-1), .ref (x 1), .ref (x 9), .int 0, .ref (x 10), .ref (x 13), .ref (x 16), .ref (x 29), .int 0, .int 0, .ref (x 30), .int 0, .ref (x 31), .ref (x 42), .int 0, .int 0, .null, .ref (x 43)])), ((x 1), .inr (2, [.ref (x 2), .ref (x 3), .ref (x 4), .ref (x 5), .ref (x 6), .int 0, .ref (x 7), .ref (x 8), .int 0])), ((x 7), .inl (cy 0, 8, .inl (upd (fun _ => 0) (0) (nI (12 * cl_2 + cx_2))))), ((x 8), .inl (cy 0, 8, .inl (fun _ => 0)))] H := hP
        have hD : va_D A [((x 0), .inr (10, [.int 0, .int (-1), .ref (x 1), .ref (x 9), .int 0, .ref (x 10), .ref (x 13), .ref (x 16), .ref (x 29), .int 0, .int 0, .ref (x 30), .int 0, .ref (x 31), .ref (x 42), .int 0, .int 0, .null, .ref (x 43)])), ((x 1), .inr (2, [.ref (x 2), .ref (x 3), .ref (x 4), .ref (x 5), .ref (x 6), .int 0, .ref (x 7), .ref (x 8), .int 0])), ((x 7), .inl (cy 0, 8, .inl (upd (fun _ => 0) (0) (nI (12 * cl_2 + cx_2))))), ((x 8), .inl (cy 0, 8, .inl (fun _ => 0)))] := hD
        refine lv_aload_n S.1 S.2.1 dX11_place_55 rfl (lv_at hl 1 rfl) ?_
        refine r_get S hK hP 0 10 rfl rfl inX11 2 (by decide) kw_470 (v := .ref (x 1)) rfl dX11_place_56 ?_
        refine r_get S hK hP 1 2 rfl rfl inX2 7 (by decide) kw_203 (v := .ref (x 8)) rfl dX11_place_59 ?_
        refine lv_aload_n S.1 S.2.1 dX11_place_62 rfl (lv_at hl 1 rfl) ?_
        refine r_get S hK hP 0 10 rfl rfl inX11 2 (by decide) kw_470 (v := .ref (x 1)) rfl dX11_place_63 ?_
        refine r_get S hK hP 1 2 rfl rfl inX2 8 (by decide) kw_204 (v := .int 0) rfl dX11_place_66 ?_
        refine lv_iload_n S.1 S.2.1 dX11_place_69 rfl (lv_at hl 4 rfl) ?_
        refine r_iast S hK hP hD hS 3 0 rfl rfl (0) rfl (by decide) (by decide) dX11_place_70 (fun H locs hP hD hS => ?_)
        have hP : va_P D vwCl [((x 0), .inr (10, [.int 0, .int (-1), .ref (x 1), .ref (x 9), .int 0, .ref (x 10), .ref (x 13), .ref (x 16), .ref (x 29), .int 0, .int 0, .ref (x 30), .int 0, .ref (x 31), .ref (x 42), .int 0, .int 0, .null, .ref (x 43)])), ((x 1), .inr (2, [.ref (x 2), .ref (x 3), .ref (x 4), .ref (x 5), .ref (x 6), .int 0, .ref (x 7), .ref (x 8), .int 0])), ((x 7), .inl (cy 0, 8, .inl (upd (fun _ => 0) (0) (nI (12 * cl_2 + cx_2))))), ((x 8), .inl (cy 0, 8, .inl (upd (fun _ => 0) (0) p2)))] H := hP
        have hD : va_D A [((x 0), .inr (10, [.int 0, .int (-1), .ref (x 1), .ref (x 9), .int 0, .ref (x 10), .ref (x 13), .ref (x 16), .ref (x 29), .int 0, .int 0, .ref (x 30), .int 0, .ref (x 31), .ref (x 42), .int 0, .int 0, .null, .ref (x 43)])), ((x 1), .inr (2, [.ref (x 2), .ref (x 3), .ref (x 4), .ref (x 5), .ref (x 6), .int 0, .ref (x 7), .ref (x 8), .int 0])), ((x 7), .inl (cy 0, 8, .inl (upd (fun _ => 0) (0) (nI (12 * cl_2 + cx_2))))), ((x 8), .inl (cy 0, 8, .inl (upd (fun _ => 0) (0) p2)))] := hD
        refine lv_aload_n S.1 S.2.1 dX11_place_71 rfl (lv_at hl 1 rfl) ?_
        refine r_get S hK hP 0 10 rfl rfl inX11 2 (by decide) kw_470 (v := .ref (x 1)) rfl dX11_place_72 ?_
        refine lv_dup S.1 S.2.1 dX11_place_75 rfl ?_
        refine r_get S hK hP 1 2 rfl rfl inX2 8 (by decide) kw_204 (v := .int 0) rfl dX11_place_76 ?_
        refine lv_dup_x1 S.1 S.2.1 dX11_place_79 rfl rfl ?_
        refine lv_iconst (v := 1) S.1 S.2.1 dX11_place_80 (by decide) ?_
        refine r_iadd S dX11_place_81 (v := 1) (by decide) ?_
        refine r_put S hK hP hD hS 1 2 rfl rfl inX2 8 (by decide) tyX2 tyX2_ok nmX2 kw_204 (v := .int 1) rfl rfl rfl (Nat.le_of_ble_eq_true rfl) dX11_place_82 (fun H locs hP hD hS => ?_)
        have hP : va_P D vwCl [((x 0), .inr (10, [.int 0, .int (-1), .ref (x 1), .ref (x 9), .int 0, .ref (x 10), .ref (x 13), .ref (x 16), .ref (x 29), .int 0, .int 0, .ref (x 30), .int 0, .ref (x 31), .ref (x 42), .int 0, .int 0, .null, .ref (x 43)])), ((x 1), .inr (2, [.ref (x 2), .ref (x 3), .ref (x 4), .ref (x 5), .ref (x 6), .int 0, .ref (x 7), .ref (x 8), .int 1])), ((x 7), .inl (cy 0, 8, .inl (upd (fun _ => 0) (0) (nI (12 * cl_2 + cx_2))))), ((x 8), .inl (cy 0, 8, .inl (upd (fun _ => 0) (0) p2)))] H := hP
        have hD : va_D A [((x 0), .inr (10, [.int 0, .int (-1), .ref (x 1), .ref (x 9), .int 0, .ref (x 10), .ref (x 13), .ref (x 16), .ref (x 29), .int 0, .int 0, .ref (x 30), .int 0, .ref (x 31), .ref (x 42), .int 0, .int 0, .null, .ref (x 43)])), ((x 1), .inr (2, [.ref (x 2), .ref (x 3), .ref (x 4), .ref (x 5), .ref (x 6), .int 0, .ref (x 7), .ref (x 8), .int 1])), ((x 7), .inl (cy 0, 8, .inl (upd (fun _ => 0) (0) (nI (12 * cl_2 + cx_2))))), ((x 8), .inl (cy 0, 8, .inl (upd (fun _ => 0) (0) p2)))] := hD
        exact ci_ret (u := ()) S hr hlk rfl hK (hP.sub [] rfl) (hD.sub [] (by decide) rfl) hS (Or.inl ⟨rfl, (by omega)⟩) (by decide) (by decide) dX11_place_85
set_option maxHeartbeats 4000000 in
set_option maxRecDepth 100000 in
theorem kX12_place (l : Launch) (D : va_G) (cy : Nat → ClassId) (q : Nat → Nat) (p0 : Int32) (p1 : Int32) (p2 : Int32) (z0 : Int) (h0 : p0.toInt = z0) (z1 : Int) (h1 : p1.toInt = z1) (z2 : Int) (h2 : p2.toInt = z2) : CI l D cy yX12_place cX12_place 4 (some .int) 2 43 0 0 [.ref (q 0), .int p0, .int p1, .int p2] [((q 0), .inr (11, (mO q 0 0 0 0 0 0 0 0 (-1) 1 0 0 0 0 0 0 0 0 0))), ((q 84), .inl (cy 0, 8, .inl (fun _ => 0))), ((q 85), .inl (cy 0, 8, .inl (fun _ => 0)))] (fun (v : Int32) (u : Unit) => (v = 0 ∧ (0 ≤ z0 ∧ z0 ≤ 11 ∧ 0 ≤ z1 ∧ z1 ≤ 7 ∧ 1 ≤ z2 ∧ z2 ≤ 99)) ∨ (v = (-1) ∧ ¬ (0 ≤ z0 ∧ z0 ≤ 11 ∧ 0 ≤ z1 ∧ z1 ≤ 7 ∧ 1 ≤ z2 ∧ z2 ≤ 99))) (fun (u : Unit) => []) := by
  refine ci_go (by decide) (Nat.le_of_ble_eq_true rfl) (fun p e s m below meth c ls A hA S hr hlk hnm hP hK hD hl => ?_)
  have hS : va_S A s.heap s.heap [] := va_S.rf
  have hl : lv_has ls 4 [(0, .ref (q 0)), (1, .int p0), (2, .int p1), (3, .int p2)] := hl
  refine lv_aload_n S.1 S.2.1 dX12_place_0 rfl (lv_at hl 0 rfl) ?_
  refine lv_iconst (v := 0) S.1 S.2.1 dX12_place_1 (by decide) ?_
  refine r_put S hK hP hD hS 0 11 rfl rfl inX12 0 (by decide) tyX12 tyX12_ok nmX12 kw_1510 (v := .int 0) rfl rfl rfl (Nat.le_of_ble_eq_true rfl) dX12_place_2 (fun H locs hP hD hS => ?_)
  have hP : va_P D vwCl [((q 0), .inr (11, (mO q 0 0 0 0 0 0 0 0 (-1) 1 0 0 0 0 0 0 0 0 0))), ((q 84), .inl (cy 0, 8, .inl (fun _ => 0))), ((q 85), .inl (cy 0, 8, .inl (fun _ => 0)))] H := hP
  have hD : va_D A [((q 0), .inr (11, (mO q 0 0 0 0 0 0 0 0 (-1) 1 0 0 0 0 0 0 0 0 0))), ((q 84), .inl (cy 0, 8, .inl (fun _ => 0))), ((q 85), .inl (cy 0, 8, .inl (fun _ => 0)))] := hD
  refine lv_iload_n S.1 S.2.1 dX12_place_5 rfl (lv_at hl 1 rfl) ?_
  refine lv_iload_n S.1 S.2.1 dX12_place_6 rfl (lv_at hl 2 rfl) ?_
  refine call_ri (runS_R (wc := []) (As := [.int p0, .int p1]) (rest := []) S (kX12_isCell l D cy p0 p1 z0 h0 z1 h1) hK hP [] rfl kw_1903 kw_1904 kw_152 kw_1905 okX12_isCell rfl (by decide) hl.1 rfl (Nat.le_of_ble_eq_true rfl) dX12_place_7 (by decide)) (fun v7 w7 => ?_)
  rcases w7 with ⟨rfl, w7_0_0⟩ | ⟨rfl, w7_1_0⟩
  · refine r_if_eq S 1 rfl dX12_place_10 (tgt := 32) (by decide) (fun c => absurd c (by decide)) (fun _ => ?_)
    refine lv_iload_n S.1 S.2.1 dX12_place_13 rfl (lv_at hl 3 rfl) ?_
    refine lv_iconst (v := 1) S.1 S.2.1 dX12_place_14 (by decide) ?_
    refine lv_bipush (v := 99) S.1 S.2.1 dX12_place_15 (by decide) ?_
    refine call_ri (runS_R (wc := []) (As := [.int p2, .int 1, .int 99]) (rest := []) S (kX12_within l D cy p2 1 99 z2 h2 1 rfl 99 rfl) hK hP [] rfl kw_1892 kw_1893 kw_152 kw_1894 okX12_within rfl (by decide) hl.1 rfl (Nat.le_of_ble_eq_true rfl) dX12_place_17 (by decide)) (fun v17 w17 => ?_)
    rcases w17 with ⟨rfl, w17_0_0⟩ | ⟨rfl, w17_1_0⟩
    · refine r_if_eq S 1 rfl dX12_place_20 (tgt := 32) (by decide) (fun c => absurd c (by decide)) (fun _ => ?_)
      refine lv_aload_n S.1 S.2.1 dX12_place_23 rfl (lv_at hl 0 rfl) ?_
      refine r_get S hK hP 0 11 rfl rfl inX12 83 (by decide) kw_1593 (v := .int 0) rfl dX12_place_24 ?_
      refine lv_bipush (v := 8) S.1 S.2.1 dX12_place_27 (by decide) ?_
      refine r_icmp_ne S 0 8 rfl rfl dX12_place_29 (tgt := 34) (by decide) (fun _ => ?_) (fun c => absurd c (by decide))
      refine lv_aload_n S.1 S.2.1 dX12_place_34 rfl (lv_at hl 0 rfl) ?_
      refine r_get S hK hP 0 11 rfl rfl inX12 84 (by decide) kw_1594 (v := .ref (q 84)) rfl dX12_place_35 ?_
      refine lv_aload_n S.1 S.2.1 dX12_place_38 rfl (lv_at hl 0 rfl) ?_
      refine r_get S hK hP 0 11 rfl rfl inX12 83 (by decide) kw_1593 (v := .int 0) rfl dX12_place_39 ?_
      refine lv_bipush (v := 12) S.1 S.2.1 dX12_place_42 (by decide) ?_
      refine lv_iload_n S.1 S.2.1 dX12_place_44 rfl (lv_at hl 2 rfl) ?_
      refine r_imul S dX12_place_45 (v := (12 * p1)) rfl ?_
      refine lv_iload_n S.1 S.2.1 dX12_place_46 rfl (lv_at hl 1 rfl) ?_
      refine r_iadd S dX12_place_47 (v := ((12 * p1) + p0)) rfl ?_
      refine r_iast S hK hP hD hS 1 0 rfl rfl (0) rfl (by decide) (by decide) dX12_place_48 (fun H locs hP hD hS => ?_)
      have hP : va_P D vwCl [((q 0), .inr (11, (mO q 0 0 0 0 0 0 0 0 (-1) 1 0 0 0 0 0 0 0 0 0))), ((q 84), .inl (cy 0, 8, .inl (upd (fun _ => 0) (0) ((12 * p1) + p0)))), ((q 85), .inl (cy 0, 8, .inl (fun _ => 0)))] H := hP
      have hD : va_D A [((q 0), .inr (11, (mO q 0 0 0 0 0 0 0 0 (-1) 1 0 0 0 0 0 0 0 0 0))), ((q 84), .inl (cy 0, 8, .inl (upd (fun _ => 0) (0) ((12 * p1) + p0)))), ((q 85), .inl (cy 0, 8, .inl (fun _ => 0)))] := hD
      refine lv_aload_n S.1 S.2.1 dX12_place_49 rfl (lv_at hl 0 rfl) ?_
      refine r_get S hK hP 0 11 rfl rfl inX12 85 (by decide) kw_1595 (v := .ref (q 85)) rfl dX12_place_50 ?_
      refine lv_aload_n S.1 S.2.1 dX12_place_53 rfl (lv_at hl 0 rfl) ?_
      refine r_get S hK hP 0 11 rfl rfl inX12 83 (by decide) kw_1593 (v := .int 0) rfl dX12_place_54 ?_
      refine lv_iload_n S.1 S.2.1 dX12_place_57 rfl (lv_at hl 3 rfl) ?_
      refine r_iast S hK hP hD hS 2 0 rfl rfl (0) rfl (by decide) (by decide) dX12_place_58 (fun H locs hP hD hS => ?_)
      have hP : va_P D vwCl [((q 0), .inr (11, (mO q 0 0 0 0 0 0 0 0 (-1) 1 0 0 0 0 0 0 0 0 0))), ((q 84), .inl (cy 0, 8, .inl (upd (fun _ => 0) (0) ((12 * p1) + p0)))), ((q 85), .inl (cy 0, 8, .inl (upd (fun _ => 0) (0) p2)))] H := hP
      have hD : va_D A [((q 0), .inr (11, (mO q 0 0 0 0 0 0 0 0 (-1) 1 0 0 0 0 0 0 0 0 0))), ((q 84), .inl (cy 0, 8, .inl (upd (fun _ => 0) (0) ((12 * p1) + p0)))), ((q 85), .inl (cy 0, 8, .inl (upd (fun _ => 0) (0) p2)))] := hD
      refine lv_aload_n S.1 S.2.1 dX12_place_59 rfl (lv_at hl 0 rfl) ?_
      refine lv_dup S.1 S.2.1 dX12_place_60 rfl ?_
      refine r_get S hK hP 0 11 rfl rfl inX12 83 (by decide) kw_1593 (v := .int 0) rfl dX12_place_61 ?_
      refine lv_iconst (v := 1) S.1 S.2.1 dX12_place_64 (by decide) ?_
      refine r_iadd S dX12_place_65 (v := 1) (by decide) ?_
      refine r_put S hK hP hD hS 0 11 rfl rfl inX12 83 (by decide) tyX12 tyX12_ok nmX12 kw_1593 (v := .int 1) rfl rfl rfl (Nat.le_of_ble_eq_true rfl) dX12_place_66 (fun H locs hP hD hS => ?_)
      have hP : va_P D vwCl [((q 0), .inr (11, (mO q 0 0 0 0 0 0 0 0 (-1) 1 0 0 0 0 0 0 0 0 1))), ((q 84), .inl (cy 0, 8, .inl (upd (fun _ => 0) (0) ((12 * p1) + p0)))), ((q 85), .inl (cy 0, 8, .inl (upd (fun _ => 0) (0) p2)))] H := hP
      have hD : va_D A [((q 0), .inr (11, (mO q 0 0 0 0 0 0 0 0 (-1) 1 0 0 0 0 0 0 0 0 1))), ((q 84), .inl (cy 0, 8, .inl (upd (fun _ => 0) (0) ((12 * p1) + p0)))), ((q 85), .inl (cy 0, 8, .inl (upd (fun _ => 0) (0) p2)))] := hD
      refine lv_aload_n S.1 S.2.1 dX12_place_69 rfl (lv_at hl 0 rfl) ?_
      refine r_get S hK hP 0 11 rfl rfl inX12 83 (by decide) kw_1593 (v := .int 1) rfl dX12_place_70 ?_
      refine lv_iconst (v := 1) S.1 S.2.1 dX12_place_73 (by decide) ?_
      refine r_isub S dX12_place_74 (v := 0) (by decide) ?_
      exact ci_ret (u := ()) S hr hlk rfl hK (hP.sub [] rfl) (hD.sub [] (by decide) rfl) hS (Or.inl ⟨rfl, (by omega)⟩) (by decide) (by decide) dX12_place_75
    · refine r_if_eq S 0 rfl dX12_place_20 (tgt := 32) (by decide) (fun _ => ?_) (fun c => absurd c (by decide))
      refine lv_iconst (v := (-1)) S.1 S.2.1 dX12_place_32 (by decide) ?_
      exact ci_ret (u := ()) S hr hlk rfl hK (hP.sub [] rfl) (hD.sub [] (by decide) rfl) hS (Or.inr (⟨rfl, (by omega)⟩)) (by decide) (by decide) dX12_place_33
  · refine r_if_eq S 0 rfl dX12_place_10 (tgt := 32) (by decide) (fun _ => ?_) (fun c => absurd c (by decide))
    refine lv_iconst (v := (-1)) S.1 S.2.1 dX12_place_32 (by decide) ?_
    exact ci_ret (u := ()) S hr hlk rfl hK (hP.sub [] rfl) (hD.sub [] (by decide) rfl) hS (Or.inr (⟨rfl, (by omega)⟩)) (by decide) (by decide) dX12_place_33
