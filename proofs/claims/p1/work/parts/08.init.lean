abbrev cJ7_fill_53178 : ByteArray := prog_28_method_103_code
def yJ7_fill_53178 : MethodName := ⟨"java/util/Arrays", "fill", "([II)V"⟩
theorem okJ7_fill_53178 : yok yJ7_fill_53178 2 := by decide +kernel
abbrev cJ7_fill_d0a16 : ByteArray := prog_28_method_101_code
def yJ7_fill_d0a16 : MethodName := ⟨"java/util/Arrays", "fill", "([JJ)V"⟩
theorem okJ7_fill_d0a16 : yok yJ7_fill_d0a16 2 := by decide +kernel
abbrev cX2_init : ByteArray := prog_4_method_1_code
def yX2_init : MethodName := ⟨RX2, "<init>", "()V"⟩
theorem okX2_init : yok yX2_init 0 := by decide +kernel
abbrev cX5_init : ByteArray := prog_7_method_1_code
def yX5_init : MethodName := ⟨RX5, "<init>", "()V"⟩
theorem okX5_init : yok yX5_init 0 := by decide +kernel
abbrev cX3_init : ByteArray := prog_5_method_1_code
def yX3_init : MethodName := ⟨RX3, "<init>", "()V"⟩
theorem okX3_init : yok yX3_init 0 := by decide +kernel
abbrev cX4_init : ByteArray := prog_6_method_1_code
def yX4_init : MethodName := ⟨RX4, "<init>", "()V"⟩
theorem okX4_init : yok yX4_init 0 := by decide +kernel
abbrev cX9_init : ByteArray := prog_11_method_1_code
def yX9_init : MethodName := ⟨RX9, "<init>", "()V"⟩
theorem okX9_init : yok yX9_init 0 := by decide +kernel
abbrev cX6_init : ByteArray := prog_8_method_1_code
def yX6_init : MethodName := ⟨RX6, "<init>", "([LLandSurvey$Sight;[LLandSurvey$Break;)V"⟩
theorem okX6_init : yok yX6_init 2 := by decide +kernel
theorem kw_185 : Cond.methodLink "LandSurvey$Land" 3 (⟨"java/lang/Object", "<init>", "()V"⟩ : MethodName) ∈ uu := uu_in (i := 185) (by decide +kernel) (by decide +kernel)
theorem kw_178 : Cond.instanceMethod (⟨"java/lang/Object", "<init>", "()V"⟩ : MethodName) ∈ uu := uu_in (i := 178) (by decide +kernel) (by decide +kernel)
theorem kw_224 : Cond.arrayClass .int ∈ uu := uu_in (i := 224) (by decide +kernel) (by decide +kernel)
theorem kw_189 : Cond.fieldLink "LandSurvey$Land" 9 "LandSurvey$Land" "height" "[I" ∈ uu := uu_in (i := 189) (by decide +kernel) (by decide +kernel)
theorem kw_225 : Cond.arrayClass .boolean ∈ uu := uu_in (i := 225) (by decide +kernel) (by decide +kernel)
theorem kw_191 : Cond.fieldLink "LandSurvey$Land" 15 "LandSurvey$Land" "covered" "[Z" ∈ uu := uu_in (i := 191) (by decide +kernel) (by decide +kernel)
theorem kw_193 : Cond.fieldLink "LandSurvey$Land" 19 "LandSurvey$Land" "turned" "[Z" ∈ uu := uu_in (i := 193) (by decide +kernel) (by decide +kernel)
theorem kw_195 : Cond.fieldLink "LandSurvey$Land" 22 "LandSurvey$Land" "owner" "[I" ∈ uu := uu_in (i := 195) (by decide +kernel) (by decide +kernel)
theorem kw_197 : Cond.fieldLink "LandSurvey$Land" 25 "LandSurvey$Land" "asked" "[Z" ∈ uu := uu_in (i := 197) (by decide +kernel) (by decide +kernel)
theorem kw_200 : Cond.fieldLink "LandSurvey$Land" 28 "LandSurvey$Land" "placeCell" "[I" ∈ uu := uu_in (i := 200) (by decide +kernel) (by decide +kernel)
theorem kw_202 : Cond.fieldLink "LandSurvey$Land" 31 "LandSurvey$Land" "placeCost" "[I" ∈ uu := uu_in (i := 202) (by decide +kernel) (by decide +kernel)
theorem kw_146 : Cond.initialized "java/util/Arrays" ∈ uu := uu_in (i := 146) (by decide +kernel) (by decide +kernel)
theorem kw_188 : Cond.code yJ7_fill_53178 prog_28_method_103_code 4 none ∈ uu := uu_in (i := 188) (by decide +kernel) (by decide +kernel)
theorem kw_186 : Cond.methodLink "LandSurvey$Land" 34 yJ7_fill_53178 ∈ uu := uu_in (i := 186) (by decide +kernel) (by decide +kernel)
theorem kw_187 : Cond.static yJ7_fill_53178 ∈ uu := uu_in (i := 187) (by decide +kernel) (by decide +kernel)
theorem kw_292 : Cond.methodLink "LandSurvey$Rules" 3 (⟨"java/lang/Object", "<init>", "()V"⟩ : MethodName) ∈ uu := uu_in (i := 292) (by decide +kernel) (by decide +kernel)
theorem kw_376 : Cond.arrayClass .long ∈ uu := uu_in (i := 376) (by decide +kernel) (by decide +kernel)
theorem kw_297 : Cond.fieldLink "LandSurvey$Rules" 9 "LandSurvey$Rules" "names" "[J" ∈ uu := uu_in (i := 297) (by decide +kernel) (by decide +kernel)
theorem kw_299 : Cond.fieldLink "LandSurvey$Rules" 15 "LandSurvey$Rules" "thin" "[I" ∈ uu := uu_in (i := 299) (by decide +kernel) (by decide +kernel)
theorem kw_302 : Cond.fieldLink "LandSurvey$Rules" 19 "LandSurvey$Rules" "thick" "[I" ∈ uu := uu_in (i := 302) (by decide +kernel) (by decide +kernel)
theorem kw_305 : Cond.fieldLink "LandSurvey$Rules" 22 "LandSurvey$Rules" "leastBelow" "[I" ∈ uu := uu_in (i := 305) (by decide +kernel) (by decide +kernel)
theorem kw_306 : Cond.fieldLink "LandSurvey$Rules" 25 "LandSurvey$Rules" "mostBelow" "[I" ∈ uu := uu_in (i := 306) (by decide +kernel) (by decide +kernel)
theorem kw_309 : Cond.fieldLink "LandSurvey$Rules" 28 "LandSurvey$Rules" "steep" "I" ∈ uu := uu_in (i := 309) (by decide +kernel) (by decide +kernel)
theorem kw_312 : Cond.fieldLink "LandSurvey$Rules" 32 "LandSurvey$Rules" "drift" "I" ∈ uu := uu_in (i := 312) (by decide +kernel) (by decide +kernel)
theorem kw_319 : Cond.fieldLink "LandSurvey$Rules" 35 "LandSurvey$Rules" "remainFrom" "[I" ∈ uu := uu_in (i := 319) (by decide +kernel) (by decide +kernel)
theorem kw_322 : Cond.fieldLink "LandSurvey$Rules" 38 "LandSurvey$Rules" "remainTo" "[I" ∈ uu := uu_in (i := 322) (by decide +kernel) (by decide +kernel)
theorem kw_327 : Cond.fieldLink "LandSurvey$Rules" 41 "LandSurvey$Rules" "lineKind" "[I" ∈ uu := uu_in (i := 327) (by decide +kernel) (by decide +kernel)
theorem kw_329 : Cond.fieldLink "LandSurvey$Rules" 44 "LandSurvey$Rules" "lineSays" "[I" ∈ uu := uu_in (i := 329) (by decide +kernel) (by decide +kernel)
theorem kw_332 : Cond.fieldLink "LandSurvey$Rules" 47 "LandSurvey$Rules" "lineEnd" "[I" ∈ uu := uu_in (i := 332) (by decide +kernel) (by decide +kernel)
theorem kw_334 : Cond.fieldLink "LandSurvey$Rules" 50 "LandSurvey$Rules" "code" "[I" ∈ uu := uu_in (i := 334) (by decide +kernel) (by decide +kernel)
theorem kw_336 : Cond.fieldLink "LandSurvey$Rules" 53 "LandSurvey$Rules" "stack" "[I" ∈ uu := uu_in (i := 336) (by decide +kernel) (by decide +kernel)
theorem kw_293 : Cond.methodLink "LandSurvey$Rules" 56 yJ7_fill_53178 ∈ uu := uu_in (i := 293) (by decide +kernel) (by decide +kernel)
theorem kw_233 : Cond.methodLink "LandSurvey$Reader" 3 (⟨"java/lang/Object", "<init>", "()V"⟩ : MethodName) ∈ uu := uu_in (i := 233) (by decide +kernel) (by decide +kernel)
theorem kw_279 : Cond.arrayClass .char ∈ uu := uu_in (i := 279) (by decide +kernel) (by decide +kernel)
theorem kw_234 : Cond.fieldLink "LandSurvey$Reader" 9 "LandSurvey$Reader" "tape" "[C" ∈ uu := uu_in (i := 234) (by decide +kernel) (by decide +kernel)
theorem kw_246 : Cond.fieldLink "LandSurvey$Reader" 15 "LandSurvey$Reader" "code" "[I" ∈ uu := uu_in (i := 246) (by decide +kernel) (by decide +kernel)
theorem kw_285 : Cond.methodLink "LandSurvey$RuleBook" 3 (⟨"java/lang/Object", "<init>", "()V"⟩ : MethodName) ∈ uu := uu_in (i := 285) (by decide +kernel) (by decide +kernel)
theorem kw_377 : Cond.fieldLink "LandSurvey$RuleBook" 9 "LandSurvey$RuleBook" "days" "[I" ∈ uu := uu_in (i := 377) (by decide +kernel) (by decide +kernel)
theorem kw_286 : Cond.classLink "LandSurvey$RuleBook" 15 "LandSurvey$Rules" ∈ uu := uu_in (i := 286) (by decide +kernel) (by decide +kernel)
theorem kw_378 : Cond.fieldLink "LandSurvey$RuleBook" 17 "LandSurvey$RuleBook" "read" "[LLandSurvey$Rules;" ∈ uu := uu_in (i := 378) (by decide +kernel) (by decide +kernel)
theorem kw_288 : Cond.instantiable "LandSurvey$Rules" 19 ∈ uu := uu_in (i := 288) (by decide +kernel) (by decide +kernel)
theorem kw_149 : Cond.initialized "LandSurvey$Rules" ∈ uu := uu_in (i := 149) (by decide +kernel) (by decide +kernel)
theorem kw_291 : Cond.code yX5_init prog_7_method_1_code 1 none ∈ uu := uu_in (i := 291) (by decide +kernel) (by decide +kernel)
theorem kw_289 : Cond.methodLink "LandSurvey$RuleBook" 21 yX5_init ∈ uu := uu_in (i := 289) (by decide +kernel) (by decide +kernel)
theorem kw_290 : Cond.instanceMethod yX5_init ∈ uu := uu_in (i := 290) (by decide +kernel) (by decide +kernel)
theorem kw_381 : Cond.fieldLink "LandSurvey$RuleBook" 22 "LandSurvey$RuleBook" "empty" "LLandSurvey$Rules;" ∈ uu := uu_in (i := 381) (by decide +kernel) (by decide +kernel)
theorem kw_407 : Cond.methodLink "LandSurvey$Slopes" 3 (⟨"java/lang/Object", "<init>", "()V"⟩ : MethodName) ∈ uu := uu_in (i := 407) (by decide +kernel) (by decide +kernel)
theorem kw_408 : Cond.fieldLink "LandSurvey$Slopes" 9 "LandSurvey$Slopes" "rise" "[I" ∈ uu := uu_in (i := 408) (by decide +kernel) (by decide +kernel)
theorem kw_409 : Cond.fieldLink "LandSurvey$Slopes" 15 "LandSurvey$Slopes" "blamed" "[J" ∈ uu := uu_in (i := 409) (by decide +kernel) (by decide +kernel)
theorem kw_411 : Cond.fieldLink "LandSurvey$Slopes" 19 "LandSurvey$Slopes" "came" "[I" ∈ uu := uu_in (i := 411) (by decide +kernel) (by decide +kernel)
theorem kw_401 : Cond.methodLink "LandSurvey$Search" 3 (⟨"java/lang/Object", "<init>", "()V"⟩ : MethodName) ∈ uu := uu_in (i := 401) (by decide +kernel) (by decide +kernel)
theorem kw_402 : Cond.classLink "LandSurvey$Search" 9 "LandSurvey$Slopes" ∈ uu := uu_in (i := 402) (by decide +kernel) (by decide +kernel)
theorem kw_403 : Cond.instantiable "LandSurvey$Slopes" 4 ∈ uu := uu_in (i := 403) (by decide +kernel) (by decide +kernel)
theorem kw_151 : Cond.initialized "LandSurvey$Slopes" ∈ uu := uu_in (i := 151) (by decide +kernel) (by decide +kernel)
theorem kw_406 : Cond.code yX9_init prog_11_method_1_code 1 none ∈ uu := uu_in (i := 406) (by decide +kernel) (by decide +kernel)
theorem kw_405 : Cond.instanceMethod yX9_init ∈ uu := uu_in (i := 405) (by decide +kernel) (by decide +kernel)
theorem kw_424 : Cond.fieldLink "LandSurvey$Search" 12 "LandSurvey$Search" "slopes" "LLandSurvey$Slopes;" ∈ uu := uu_in (i := 424) (by decide +kernel) (by decide +kernel)
theorem kw_430 : Cond.fieldLink "LandSurvey$Search" 18 "LandSurvey$Search" "reach" "[I" ∈ uu := uu_in (i := 430) (by decide +kernel) (by decide +kernel)
theorem kw_432 : Cond.fieldLink "LandSurvey$Search" 22 "LandSurvey$Search" "backReach" "[I" ∈ uu := uu_in (i := 432) (by decide +kernel) (by decide +kernel)
theorem kw_434 : Cond.fieldLink "LandSurvey$Search" 25 "LandSurvey$Search" "floor" "[I" ∈ uu := uu_in (i := 434) (by decide +kernel) (by decide +kernel)
theorem kw_435 : Cond.fieldLink "LandSurvey$Search" 28 "LandSurvey$Search" "floorBlamed" "[J" ∈ uu := uu_in (i := 435) (by decide +kernel) (by decide +kernel)
theorem kw_436 : Cond.fieldLink "LandSurvey$Search" 32 "LandSurvey$Search" "reachBlamed" "[J" ∈ uu := uu_in (i := 436) (by decide +kernel) (by decide +kernel)
theorem kw_437 : Cond.fieldLink "LandSurvey$Search" 35 "LandSurvey$Search" "walked" "[I" ∈ uu := uu_in (i := 437) (by decide +kernel) (by decide +kernel)
theorem kw_425 : Cond.fieldLink "LandSurvey$Search" 38 "LandSurvey$Search" "sights" "[LLandSurvey$Sight;" ∈ uu := uu_in (i := 425) (by decide +kernel) (by decide +kernel)
theorem kw_426 : Cond.fieldLink "LandSurvey$Search" 42 "LandSurvey$Search" "breaks" "[LLandSurvey$Break;" ∈ uu := uu_in (i := 426) (by decide +kernel) (by decide +kernel)
theorem dJ7_fill_53178_0 : decode cJ7_fill_53178 0 = .ok (.iconst 0, 1) := by decide +kernel
theorem dJ7_fill_53178_1 : decode cJ7_fill_53178 1 = .ok (.istore_n 2, 1) := by decide +kernel
theorem dJ7_fill_53178_2 : decode cJ7_fill_53178 2 = .ok (.aload_n 0, 1) := by decide +kernel
theorem dJ7_fill_53178_3 : decode cJ7_fill_53178 3 = .ok (.arraylength, 1) := by decide +kernel
theorem dJ7_fill_53178_4 : decode cJ7_fill_53178 4 = .ok (.istore_n 3, 1) := by decide +kernel
theorem dJ7_fill_53178_5 : decode cJ7_fill_53178 5 = .ok (.iload_n 2, 1) := by decide +kernel
theorem dJ7_fill_53178_6 : decode cJ7_fill_53178 6 = .ok (.iload_n 3, 1) := by decide +kernel
theorem dJ7_fill_53178_7 : decode cJ7_fill_53178 7 = .ok (.if_icmp .ge 13, 3) := by decide +kernel
theorem dJ7_fill_53178_20 : decode cJ7_fill_53178 20 = .ok (.return_, 1) := by decide +kernel
theorem dJ7_fill_53178_10 : decode cJ7_fill_53178 10 = .ok (.aload_n 0, 1) := by decide +kernel
theorem dJ7_fill_53178_11 : decode cJ7_fill_53178 11 = .ok (.iload_n 2, 1) := by decide +kernel
theorem dJ7_fill_53178_12 : decode cJ7_fill_53178 12 = .ok (.iload_n 1, 1) := by decide +kernel
theorem dJ7_fill_53178_13 : decode cJ7_fill_53178 13 = .ok (.iastore, 1) := by decide +kernel
theorem dJ7_fill_53178_14 : decode cJ7_fill_53178 14 = .ok (.iinc 2 1, 3) := by decide +kernel
theorem dJ7_fill_53178_17 : decode cJ7_fill_53178 17 = .ok (.goto (-12), 3) := by decide +kernel
theorem dJ7_fill_d0a16_0 : decode cJ7_fill_d0a16 0 = .ok (.iconst 0, 1) := by decide +kernel
theorem dJ7_fill_d0a16_1 : decode cJ7_fill_d0a16 1 = .ok (.istore_n 3, 1) := by decide +kernel
theorem dJ7_fill_d0a16_2 : decode cJ7_fill_d0a16 2 = .ok (.aload_n 0, 1) := by decide +kernel
theorem dJ7_fill_d0a16_3 : decode cJ7_fill_d0a16 3 = .ok (.arraylength, 1) := by decide +kernel
theorem dJ7_fill_d0a16_4 : decode cJ7_fill_d0a16 4 = .ok (.istore 4, 2) := by decide +kernel
theorem dJ7_fill_d0a16_6 : decode cJ7_fill_d0a16 6 = .ok (.iload_n 3, 1) := by decide +kernel
theorem dJ7_fill_d0a16_7 : decode cJ7_fill_d0a16 7 = .ok (.iload 4, 2) := by decide +kernel
theorem dJ7_fill_d0a16_9 : decode cJ7_fill_d0a16 9 = .ok (.if_icmp .ge 13, 3) := by decide +kernel
theorem dJ7_fill_d0a16_22 : decode cJ7_fill_d0a16 22 = .ok (.return_, 1) := by decide +kernel
theorem dJ7_fill_d0a16_12 : decode cJ7_fill_d0a16 12 = .ok (.aload_n 0, 1) := by decide +kernel
theorem dJ7_fill_d0a16_13 : decode cJ7_fill_d0a16 13 = .ok (.iload_n 3, 1) := by decide +kernel
theorem dJ7_fill_d0a16_14 : decode cJ7_fill_d0a16 14 = .ok (.lload_n 1, 1) := by decide +kernel
theorem dJ7_fill_d0a16_15 : decode cJ7_fill_d0a16 15 = .ok (.lastore, 1) := by decide +kernel
theorem dJ7_fill_d0a16_16 : decode cJ7_fill_d0a16 16 = .ok (.iinc 3 1, 3) := by decide +kernel
theorem dJ7_fill_d0a16_19 : decode cJ7_fill_d0a16 19 = .ok (.goto (-13), 3) := by decide +kernel
theorem dX2_init_0 : decode cX2_init 0 = .ok (.aload_n 0, 1) := by decide +kernel
theorem dX2_init_1 : decode cX2_init 1 = .ok (.invokespecial 3, 3) := by decide +kernel
theorem dX2_init_4 : decode cX2_init 4 = .ok (.aload_n 0, 1) := by decide +kernel
theorem dX2_init_5 : decode cX2_init 5 = .ok (.bipush 96, 2) := by decide +kernel
theorem dX2_init_7 : decode cX2_init 7 = .ok (.newarray .int, 2) := by decide +kernel
theorem dX2_init_9 : decode cX2_init 9 = .ok (.putfield 9, 3) := by decide +kernel
theorem dX2_init_12 : decode cX2_init 12 = .ok (.aload_n 0, 1) := by decide +kernel
theorem dX2_init_13 : decode cX2_init 13 = .ok (.bipush 96, 2) := by decide +kernel
theorem dX2_init_15 : decode cX2_init 15 = .ok (.newarray .boolean, 2) := by decide +kernel
theorem dX2_init_17 : decode cX2_init 17 = .ok (.putfield 15, 3) := by decide +kernel
theorem dX2_init_20 : decode cX2_init 20 = .ok (.aload_n 0, 1) := by decide +kernel
theorem dX2_init_21 : decode cX2_init 21 = .ok (.bipush 96, 2) := by decide +kernel
theorem dX2_init_23 : decode cX2_init 23 = .ok (.newarray .boolean, 2) := by decide +kernel
theorem dX2_init_25 : decode cX2_init 25 = .ok (.putfield 19, 3) := by decide +kernel
theorem dX2_init_28 : decode cX2_init 28 = .ok (.aload_n 0, 1) := by decide +kernel
theorem dX2_init_29 : decode cX2_init 29 = .ok (.bipush 96, 2) := by decide +kernel
theorem dX2_init_31 : decode cX2_init 31 = .ok (.newarray .int, 2) := by decide +kernel
theorem dX2_init_33 : decode cX2_init 33 = .ok (.putfield 22, 3) := by decide +kernel
theorem dX2_init_36 : decode cX2_init 36 = .ok (.aload_n 0, 1) := by decide +kernel
theorem dX2_init_37 : decode cX2_init 37 = .ok (.bipush 96, 2) := by decide +kernel
theorem dX2_init_39 : decode cX2_init 39 = .ok (.newarray .boolean, 2) := by decide +kernel
theorem dX2_init_41 : decode cX2_init 41 = .ok (.putfield 25, 3) := by decide +kernel
theorem dX2_init_44 : decode cX2_init 44 = .ok (.aload_n 0, 1) := by decide +kernel
theorem dX2_init_45 : decode cX2_init 45 = .ok (.bipush 8, 2) := by decide +kernel
theorem dX2_init_47 : decode cX2_init 47 = .ok (.newarray .int, 2) := by decide +kernel
theorem dX2_init_49 : decode cX2_init 49 = .ok (.putfield 28, 3) := by decide +kernel
theorem dX2_init_52 : decode cX2_init 52 = .ok (.aload_n 0, 1) := by decide +kernel
theorem dX2_init_53 : decode cX2_init 53 = .ok (.bipush 8, 2) := by decide +kernel
theorem dX2_init_55 : decode cX2_init 55 = .ok (.newarray .int, 2) := by decide +kernel
theorem dX2_init_57 : decode cX2_init 57 = .ok (.putfield 31, 3) := by decide +kernel
theorem dX2_init_60 : decode cX2_init 60 = .ok (.aload_n 0, 1) := by decide +kernel
theorem dX2_init_61 : decode cX2_init 61 = .ok (.getfield 9, 3) := by decide +kernel
theorem dX2_init_64 : decode cX2_init 64 = .ok (.sipush 500, 3) := by decide +kernel
theorem dX2_init_67 : decode cX2_init 67 = .ok (.invokestatic 34, 3) := by decide +kernel
theorem dX2_init_70 : decode cX2_init 70 = .ok (.aload_n 0, 1) := by decide +kernel
theorem dX2_init_71 : decode cX2_init 71 = .ok (.getfield 22, 3) := by decide +kernel
theorem dX2_init_74 : decode cX2_init 74 = .ok (.iconst (-1), 1) := by decide +kernel
theorem dX2_init_75 : decode cX2_init 75 = .ok (.invokestatic 34, 3) := by decide +kernel
theorem dX2_init_78 : decode cX2_init 78 = .ok (.return_, 1) := by decide +kernel
theorem dX5_init_0 : decode cX5_init 0 = .ok (.aload_n 0, 1) := by decide +kernel
theorem dX5_init_1 : decode cX5_init 1 = .ok (.invokespecial 3, 3) := by decide +kernel
theorem dX5_init_4 : decode cX5_init 4 = .ok (.aload_n 0, 1) := by decide +kernel
theorem dX5_init_5 : decode cX5_init 5 = .ok (.bipush 10, 2) := by decide +kernel
theorem dX5_init_7 : decode cX5_init 7 = .ok (.newarray .long, 2) := by decide +kernel
theorem dX5_init_9 : decode cX5_init 9 = .ok (.putfield 9, 3) := by decide +kernel
theorem dX5_init_12 : decode cX5_init 12 = .ok (.aload_n 0, 1) := by decide +kernel
theorem dX5_init_13 : decode cX5_init 13 = .ok (.bipush 10, 2) := by decide +kernel
theorem dX5_init_15 : decode cX5_init 15 = .ok (.newarray .int, 2) := by decide +kernel
theorem dX5_init_17 : decode cX5_init 17 = .ok (.putfield 15, 3) := by decide +kernel
theorem dX5_init_20 : decode cX5_init 20 = .ok (.aload_n 0, 1) := by decide +kernel
theorem dX5_init_21 : decode cX5_init 21 = .ok (.bipush 10, 2) := by decide +kernel
theorem dX5_init_23 : decode cX5_init 23 = .ok (.newarray .int, 2) := by decide +kernel
theorem dX5_init_25 : decode cX5_init 25 = .ok (.putfield 19, 3) := by decide +kernel
theorem dX5_init_28 : decode cX5_init 28 = .ok (.aload_n 0, 1) := by decide +kernel
theorem dX5_init_29 : decode cX5_init 29 = .ok (.bipush 20, 2) := by decide +kernel
theorem dX5_init_31 : decode cX5_init 31 = .ok (.newarray .int, 2) := by decide +kernel
theorem dX5_init_33 : decode cX5_init 33 = .ok (.putfield 22, 3) := by decide +kernel
theorem dX5_init_36 : decode cX5_init 36 = .ok (.aload_n 0, 1) := by decide +kernel
theorem dX5_init_37 : decode cX5_init 37 = .ok (.bipush 20, 2) := by decide +kernel
theorem dX5_init_39 : decode cX5_init 39 = .ok (.newarray .int, 2) := by decide +kernel
theorem dX5_init_41 : decode cX5_init 41 = .ok (.putfield 25, 3) := by decide +kernel
theorem dX5_init_44 : decode cX5_init 44 = .ok (.aload_n 0, 1) := by decide +kernel
theorem dX5_init_45 : decode cX5_init 45 = .ok (.bipush 10, 2) := by decide +kernel
theorem dX5_init_47 : decode cX5_init 47 = .ok (.putfield 28, 3) := by decide +kernel
theorem dX5_init_50 : decode cX5_init 50 = .ok (.aload_n 0, 1) := by decide +kernel
theorem dX5_init_51 : decode cX5_init 51 = .ok (.bipush 20, 2) := by decide +kernel
theorem dX5_init_53 : decode cX5_init 53 = .ok (.putfield 32, 3) := by decide +kernel
theorem dX5_init_56 : decode cX5_init 56 = .ok (.aload_n 0, 1) := by decide +kernel
theorem dX5_init_57 : decode cX5_init 57 = .ok (.bipush 10, 2) := by decide +kernel
theorem dX5_init_59 : decode cX5_init 59 = .ok (.newarray .int, 2) := by decide +kernel
theorem dX5_init_61 : decode cX5_init 61 = .ok (.putfield 35, 3) := by decide +kernel
theorem dX5_init_64 : decode cX5_init 64 = .ok (.aload_n 0, 1) := by decide +kernel
theorem dX5_init_65 : decode cX5_init 65 = .ok (.bipush 10, 2) := by decide +kernel
theorem dX5_init_67 : decode cX5_init 67 = .ok (.newarray .int, 2) := by decide +kernel
theorem dX5_init_69 : decode cX5_init 69 = .ok (.putfield 38, 3) := by decide +kernel
theorem dX5_init_72 : decode cX5_init 72 = .ok (.aload_n 0, 1) := by decide +kernel
theorem dX5_init_73 : decode cX5_init 73 = .ok (.bipush 24, 2) := by decide +kernel
theorem dX5_init_75 : decode cX5_init 75 = .ok (.newarray .int, 2) := by decide +kernel
theorem dX5_init_77 : decode cX5_init 77 = .ok (.putfield 41, 3) := by decide +kernel
theorem dX5_init_80 : decode cX5_init 80 = .ok (.aload_n 0, 1) := by decide +kernel
theorem dX5_init_81 : decode cX5_init 81 = .ok (.bipush 24, 2) := by decide +kernel
theorem dX5_init_83 : decode cX5_init 83 = .ok (.newarray .int, 2) := by decide +kernel
theorem dX5_init_85 : decode cX5_init 85 = .ok (.putfield 44, 3) := by decide +kernel
theorem dX5_init_88 : decode cX5_init 88 = .ok (.aload_n 0, 1) := by decide +kernel
theorem dX5_init_89 : decode cX5_init 89 = .ok (.bipush 24, 2) := by decide +kernel
theorem dX5_init_91 : decode cX5_init 91 = .ok (.newarray .int, 2) := by decide +kernel
theorem dX5_init_93 : decode cX5_init 93 = .ok (.putfield 47, 3) := by decide +kernel
theorem dX5_init_96 : decode cX5_init 96 = .ok (.aload_n 0, 1) := by decide +kernel
theorem dX5_init_97 : decode cX5_init 97 = .ok (.iconst 0, 1) := by decide +kernel
theorem dX5_init_98 : decode cX5_init 98 = .ok (.newarray .int, 2) := by decide +kernel
theorem dX5_init_100 : decode cX5_init 100 = .ok (.putfield 50, 3) := by decide +kernel
theorem dX5_init_103 : decode cX5_init 103 = .ok (.aload_n 0, 1) := by decide +kernel
theorem dX5_init_104 : decode cX5_init 104 = .ok (.bipush 32, 2) := by decide +kernel
theorem dX5_init_106 : decode cX5_init 106 = .ok (.newarray .int, 2) := by decide +kernel
theorem dX5_init_108 : decode cX5_init 108 = .ok (.putfield 53, 3) := by decide +kernel
theorem dX5_init_111 : decode cX5_init 111 = .ok (.aload_n 0, 1) := by decide +kernel
theorem dX5_init_112 : decode cX5_init 112 = .ok (.getfield 35, 3) := by decide +kernel
theorem dX5_init_115 : decode cX5_init 115 = .ok (.iconst (-1), 1) := by decide +kernel
theorem dX5_init_116 : decode cX5_init 116 = .ok (.invokestatic 56, 3) := by decide +kernel
theorem dX5_init_119 : decode cX5_init 119 = .ok (.return_, 1) := by decide +kernel
theorem dX3_init_0 : decode cX3_init 0 = .ok (.aload_n 0, 1) := by decide +kernel
theorem dX3_init_1 : decode cX3_init 1 = .ok (.invokespecial 3, 3) := by decide +kernel
theorem dX3_init_4 : decode cX3_init 4 = .ok (.aload_n 0, 1) := by decide +kernel
theorem dX3_init_5 : decode cX3_init 5 = .ok (.sipush 1500, 3) := by decide +kernel
theorem dX3_init_8 : decode cX3_init 8 = .ok (.newarray .char, 2) := by decide +kernel
theorem dX3_init_10 : decode cX3_init 10 = .ok (.putfield 9, 3) := by decide +kernel
theorem dX3_init_13 : decode cX3_init 13 = .ok (.aload_n 0, 1) := by decide +kernel
theorem dX3_init_14 : decode cX3_init 14 = .ok (.sipush 1500, 3) := by decide +kernel
theorem dX3_init_17 : decode cX3_init 17 = .ok (.newarray .int, 2) := by decide +kernel
theorem dX3_init_19 : decode cX3_init 19 = .ok (.putfield 15, 3) := by decide +kernel
theorem dX3_init_22 : decode cX3_init 22 = .ok (.return_, 1) := by decide +kernel
theorem dX4_init_0 : decode cX4_init 0 = .ok (.aload_n 0, 1) := by decide +kernel
theorem dX4_init_1 : decode cX4_init 1 = .ok (.invokespecial 3, 3) := by decide +kernel
theorem dX4_init_4 : decode cX4_init 4 = .ok (.aload_n 0, 1) := by decide +kernel
theorem dX4_init_5 : decode cX4_init 5 = .ok (.bipush 8, 2) := by decide +kernel
theorem dX4_init_7 : decode cX4_init 7 = .ok (.newarray .int, 2) := by decide +kernel
theorem dX4_init_9 : decode cX4_init 9 = .ok (.putfield 9, 3) := by decide +kernel
theorem dX4_init_12 : decode cX4_init 12 = .ok (.aload_n 0, 1) := by decide +kernel
theorem dX4_init_13 : decode cX4_init 13 = .ok (.bipush 8, 2) := by decide +kernel
theorem dX4_init_15 : decode cX4_init 15 = .ok (.anewarray 15, 3) := by decide +kernel
theorem dX4_init_18 : decode cX4_init 18 = .ok (.putfield 17, 3) := by decide +kernel
theorem dX4_init_21 : decode cX4_init 21 = .ok (.aload_n 0, 1) := by decide +kernel
theorem dX4_init_22 : decode cX4_init 22 = .ok (.new 15, 3) := by decide +kernel
theorem dX4_init_25 : decode cX4_init 25 = .ok (.dup, 1) := by decide +kernel
theorem dX4_init_26 : decode cX4_init 26 = .ok (.invokespecial 21, 3) := by decide +kernel
theorem dX4_init_29 : decode cX4_init 29 = .ok (.putfield 22, 3) := by decide +kernel
theorem dX4_init_32 : decode cX4_init 32 = .ok (.return_, 1) := by decide +kernel
theorem dX9_init_0 : decode cX9_init 0 = .ok (.aload_n 0, 1) := by decide +kernel
theorem dX9_init_1 : decode cX9_init 1 = .ok (.invokespecial 3, 3) := by decide +kernel
theorem dX9_init_4 : decode cX9_init 4 = .ok (.aload_n 0, 1) := by decide +kernel
theorem dX9_init_5 : decode cX9_init 5 = .ok (.sipush 384, 3) := by decide +kernel
theorem dX9_init_8 : decode cX9_init 8 = .ok (.newarray .int, 2) := by decide +kernel
theorem dX9_init_10 : decode cX9_init 10 = .ok (.putfield 9, 3) := by decide +kernel
theorem dX9_init_13 : decode cX9_init 13 = .ok (.aload_n 0, 1) := by decide +kernel
theorem dX9_init_14 : decode cX9_init 14 = .ok (.sipush 384, 3) := by decide +kernel
theorem dX9_init_17 : decode cX9_init 17 = .ok (.newarray .long, 2) := by decide +kernel
theorem dX9_init_19 : decode cX9_init 19 = .ok (.putfield 15, 3) := by decide +kernel
theorem dX9_init_22 : decode cX9_init 22 = .ok (.aload_n 0, 1) := by decide +kernel
theorem dX9_init_23 : decode cX9_init 23 = .ok (.bipush 96, 2) := by decide +kernel
theorem dX9_init_25 : decode cX9_init 25 = .ok (.newarray .int, 2) := by decide +kernel
theorem dX9_init_27 : decode cX9_init 27 = .ok (.putfield 19, 3) := by decide +kernel
theorem dX9_init_30 : decode cX9_init 30 = .ok (.return_, 1) := by decide +kernel
theorem dX6_init_0 : decode cX6_init 0 = .ok (.aload_n 0, 1) := by decide +kernel
theorem dX6_init_1 : decode cX6_init 1 = .ok (.invokespecial 3, 3) := by decide +kernel
theorem dX6_init_4 : decode cX6_init 4 = .ok (.aload_n 0, 1) := by decide +kernel
theorem dX6_init_5 : decode cX6_init 5 = .ok (.new 9, 3) := by decide +kernel
theorem dX6_init_8 : decode cX6_init 8 = .ok (.dup, 1) := by decide +kernel
theorem dX6_init_9 : decode cX6_init 9 = .ok (.invokespecial 11, 3) := by decide +kernel
theorem dX6_init_12 : decode cX6_init 12 = .ok (.putfield 12, 3) := by decide +kernel
theorem dX6_init_15 : decode cX6_init 15 = .ok (.aload_n 0, 1) := by decide +kernel
theorem dX6_init_16 : decode cX6_init 16 = .ok (.bipush 96, 2) := by decide +kernel
theorem dX6_init_18 : decode cX6_init 18 = .ok (.newarray .int, 2) := by decide +kernel
theorem dX6_init_20 : decode cX6_init 20 = .ok (.putfield 18, 3) := by decide +kernel
theorem dX6_init_23 : decode cX6_init 23 = .ok (.aload_n 0, 1) := by decide +kernel
theorem dX6_init_24 : decode cX6_init 24 = .ok (.bipush 96, 2) := by decide +kernel
theorem dX6_init_26 : decode cX6_init 26 = .ok (.newarray .int, 2) := by decide +kernel
theorem dX6_init_28 : decode cX6_init 28 = .ok (.putfield 22, 3) := by decide +kernel
theorem dX6_init_31 : decode cX6_init 31 = .ok (.aload_n 0, 1) := by decide +kernel
theorem dX6_init_32 : decode cX6_init 32 = .ok (.bipush 96, 2) := by decide +kernel
theorem dX6_init_34 : decode cX6_init 34 = .ok (.newarray .int, 2) := by decide +kernel
theorem dX6_init_36 : decode cX6_init 36 = .ok (.putfield 25, 3) := by decide +kernel
theorem dX6_init_39 : decode cX6_init 39 = .ok (.aload_n 0, 1) := by decide +kernel
theorem dX6_init_40 : decode cX6_init 40 = .ok (.bipush 96, 2) := by decide +kernel
theorem dX6_init_42 : decode cX6_init 42 = .ok (.newarray .long, 2) := by decide +kernel
theorem dX6_init_44 : decode cX6_init 44 = .ok (.putfield 28, 3) := by decide +kernel
theorem dX6_init_47 : decode cX6_init 47 = .ok (.aload_n 0, 1) := by decide +kernel
theorem dX6_init_48 : decode cX6_init 48 = .ok (.bipush 96, 2) := by decide +kernel
theorem dX6_init_50 : decode cX6_init 50 = .ok (.newarray .long, 2) := by decide +kernel
theorem dX6_init_52 : decode cX6_init 52 = .ok (.putfield 32, 3) := by decide +kernel
theorem dX6_init_55 : decode cX6_init 55 = .ok (.aload_n 0, 1) := by decide +kernel
theorem dX6_init_56 : decode cX6_init 56 = .ok (.bipush 96, 2) := by decide +kernel
theorem dX6_init_58 : decode cX6_init 58 = .ok (.newarray .int, 2) := by decide +kernel
theorem dX6_init_60 : decode cX6_init 60 = .ok (.putfield 35, 3) := by decide +kernel
theorem dX6_init_63 : decode cX6_init 63 = .ok (.aload_n 0, 1) := by decide +kernel
theorem dX6_init_64 : decode cX6_init 64 = .ok (.aload_n 1, 1) := by decide +kernel
theorem dX6_init_65 : decode cX6_init 65 = .ok (.putfield 38, 3) := by decide +kernel
theorem dX6_init_68 : decode cX6_init 68 = .ok (.aload_n 0, 1) := by decide +kernel
theorem dX6_init_69 : decode cX6_init 69 = .ok (.aload_n 2, 1) := by decide +kernel
theorem dX6_init_70 : decode cX6_init 70 = .ok (.putfield 42, 3) := by decide +kernel
theorem dX6_init_73 : decode cX6_init 73 = .ok (.return_, 1) := by decide +kernel
set_option maxHeartbeats 4000000 in
set_option maxRecDepth 100000 in
theorem kJ7_fill_53178 (l : Launch) (D : va_G) (cy : Nat → ClassId) (a : Nat) (n : Nat) (f : Nat → Int32) (v : Int32) (hn : n < 2 ^ 31) : CV l D cy yJ7_fill_53178 cJ7_fill_53178 4 none 0 0 0 0 [.ref a, .int v] [(a, .inl (cy 0, n, .inl f))] (fun (u : Unit) => True) (fun (u : Unit) => [(a, .inl (cy 0, n, .inl (fun _ => v)))]) := by
  refine cv_go (by decide) (Nat.le_of_ble_eq_true rfl) (fun p e s m below meth c ls A hA S hr hlk hnm hP hK hD hl => ?_)
  have hS : va_S A s.heap s.heap [] := va_S.rf
  have hl : lv_has ls 4 [(0, .ref a), (1, .int v)] := hl
  refine lv_iconst (v := 0) S.1 S.2.1 dJ7_fill_53178_0 (by decide) ?_
  refine lv_istore_n (lv' := [(2, .int 0), (0, .ref a), (1, .int v)]) S.1 S.2.1 dJ7_fill_53178_1 rfl hl (by decide) rfl (fun ls hl => ?_)
  refine lv_aload_n S.1 S.2.1 dJ7_fill_53178_2 rfl (lv_at hl 1 rfl) ?_
  refine r_alen S hK hP 0 0 rfl rfl (v := (nI (n))) rfl dJ7_fill_53178_3 ?_
  refine lv_istore_n (lv' := [(3, .int (nI (n))), (2, .int 0), (0, .ref a), (1, .int v)]) S.1 S.2.1 dJ7_fill_53178_4 rfl hl (by decide) rfl (fun ls hl => ?_)
  refine loopN (σ := (Nat → Int32)) 5 n (fun k xs9 => [(a, .inl (cy 0, n, .inl (xs9)))]) (fun k xs9 => [(3, .int (nI (n))), (2, .int (nI (k))), (0, .ref a), (1, .int v)]) (fun k xs9 => ∀ j : Nat, j < k → (xs9) j = v) (fun xs9 hJ H locs ls hP hD hS hl => ?_) (fun k xs9 hk hJ H locs ls hP hD hS hl ih => ?_) f (fun j hj => absurd hj (Nat.not_lt_zero j)) (hP.sub [0] rfl) (hD.sub [0] (by decide) rfl) hS (lv_sub hl [0, 1, 2, 3] rfl)
  · obtain ⟨g, rfl⟩ : ∃ z, z = xs9 := ⟨_, rfl⟩
    have hJ : ∀ j : Nat, j < n → g j = v := hJ
    have hP : va_P D vwCl [(a, .inl (cy 0, n, .inl g))] H := hP
    have hD : va_D A [(a, .inl (cy 0, n, .inl g))] := hD
    have hl : lv_has ls 4 [(3, .int (nI (n))), (2, .int (nI (n))), (0, .ref a), (1, .int v)] := hl
    have hP := arr_i 0 (fun _ => v) hP rfl hJ
    have hD := d_set (e1 := .inl (cy 0, n, .inl (fun _ => v))) 0 hD rfl
    have hP : va_P D vwCl [(a, .inl (cy 0, n, .inl (fun _ => v)))] H := hP
    have hD : va_D A [(a, .inl (cy 0, n, .inl (fun _ => v)))] := hD
    refine lv_iload_n S.1 S.2.1 dJ7_fill_53178_5 rfl (lv_at hl 1 rfl) ?_
    refine lv_iload_n S.1 S.2.1 dJ7_fill_53178_6 rfl (lv_at hl 0 rfl) ?_
    refine r_icmp_ge S ((n : Nat) : Int) ((n : Nat) : Int) (nI_toInt (by omega)) (nI_toInt (by omega)) dJ7_fill_53178_7 (tgt := 20) (by decide) (fun _ => ?_) (fun c => absurd c (by omega))
    exact cv_ret (u := ()) S hr hlk hK (hP.sub [0] rfl) (hD.sub [0] (by decide) rfl) hS (trivial) (by decide) (by decide) dJ7_fill_53178_20
  · obtain ⟨g, rfl⟩ : ∃ z, z = xs9 := ⟨_, rfl⟩
    have hJ : ∀ j : Nat, j < k → g j = v := hJ
    have hP : va_P D vwCl [(a, .inl (cy 0, n, .inl g))] H := hP
    have hD : va_D A [(a, .inl (cy 0, n, .inl g))] := hD
    have hl : lv_has ls 4 [(3, .int (nI (n))), (2, .int (nI (k))), (0, .ref a), (1, .int v)] := hl
    refine lv_iload_n S.1 S.2.1 dJ7_fill_53178_5 rfl (lv_at hl 1 rfl) ?_
    refine lv_iload_n S.1 S.2.1 dJ7_fill_53178_6 rfl (lv_at hl 0 rfl) ?_
    refine r_icmp_ge S ((k : Nat) : Int) ((n : Nat) : Int) (nI_toInt (by omega)) (nI_toInt (by omega)) dJ7_fill_53178_7 (tgt := 20) (by decide) (fun c => absurd c (by omega)) (fun _ => ?_)
    refine lv_aload_n S.1 S.2.1 dJ7_fill_53178_10 rfl (lv_at hl 2 rfl) ?_
    refine lv_iload_n S.1 S.2.1 dJ7_fill_53178_11 rfl (lv_at hl 1 rfl) ?_
    refine lv_iload_n S.1 S.2.1 dJ7_fill_53178_12 rfl (lv_at hl 3 rfl) ?_
    refine r_iast S hK hP hD hS 0 0 rfl rfl ((k)) rfl (by omega) hn dJ7_fill_53178_13 (fun H locs hP hD hS => ?_)
    have hP : va_P D vwCl [(a, .inl (cy 0, n, .inl (upd g ((k)) v)))] H := hP
    have hD : va_D A [(a, .inl (cy 0, n, .inl (upd g ((k)) v)))] := hD
    refine lv_iinc (v := (nI ((k) + 1))) (lv' := [(2, .int (nI ((k) + 1))), (3, .int (nI (n))), (0, .ref a), (1, .int v)]) S.1 S.2.1 dJ7_fill_53178_14 hl (k := 1) rfl (nI_1 (k)) (by decide) rfl (fun ls hl => ?_)
    refine lv_goto (tgt := 5) S.1 S.2.1 dJ7_fill_53178_17 (by decide) ?_
    exact ih (upd g (k) v) _ _ _ (lt_s (fun j hj => (pk_un (Nat.ne_of_lt hj)).trans (hJ j hj)) pk_us) (hP.sub [0] rfl) (hD.sub [0] (by decide) rfl) hS (lv_sub hl [1, 0, 2, 3] rfl)
set_option maxHeartbeats 4000000 in
set_option maxRecDepth 100000 in
theorem kJ7_fill_d0a16 (l : Launch) (D : va_G) (cy : Nat → ClassId) (a : Nat) (n : Nat) (f : Nat → Int64) (v : Int64) (hn : n < 2 ^ 31) : CV l D cy yJ7_fill_d0a16 cJ7_fill_d0a16 5 none 0 0 0 0 [.ref a, .long v] [(a, .inl (cy 2, n, .inr (.inl f)))] (fun (u : Unit) => True) (fun (u : Unit) => [(a, .inl (cy 2, n, .inr (.inl (fun _ => v))))]) := by
  refine cv_go (by decide) (Nat.le_of_ble_eq_true rfl) (fun p e s m below meth c ls A hA S hr hlk hnm hP hK hD hl => ?_)
  have hS : va_S A s.heap s.heap [] := va_S.rf
  have hl : lv_has ls 5 [(0, .ref a), (1, .long v)] := hl
  refine lv_iconst (v := 0) S.1 S.2.1 dJ7_fill_d0a16_0 (by decide) ?_
  refine lv_istore_n (lv' := [(3, .int 0), (0, .ref a), (1, .long v)]) S.1 S.2.1 dJ7_fill_d0a16_1 rfl hl (by decide) rfl (fun ls hl => ?_)
  refine lv_aload_n S.1 S.2.1 dJ7_fill_d0a16_2 rfl (lv_at hl 1 rfl) ?_
  refine r_alen S hK hP 0 2 rfl rfl (v := (nI (n))) rfl dJ7_fill_d0a16_3 ?_
  refine lv_istore (lv' := [(4, .int (nI (n))), (3, .int 0), (0, .ref a), (1, .long v)]) S.1 S.2.1 dJ7_fill_d0a16_4 hl (by decide) rfl (fun ls hl => ?_)
  refine loopN (σ := (Nat → Int64)) 6 n (fun k xs9 => [(a, .inl (cy 2, n, .inr (.inl (xs9))))]) (fun k xs9 => [(4, .int (nI (n))), (3, .int (nI (k))), (0, .ref a), (1, .long v)]) (fun k xs9 => ∀ j : Nat, j < k → (xs9) j = v) (fun xs9 hJ H locs ls hP hD hS hl => ?_) (fun k xs9 hk hJ H locs ls hP hD hS hl ih => ?_) f (fun j hj => absurd hj (Nat.not_lt_zero j)) (hP.sub [0] rfl) (hD.sub [0] (by decide) rfl) hS (lv_sub hl [0, 1, 2, 3] rfl)
  · obtain ⟨g, rfl⟩ : ∃ z, z = xs9 := ⟨_, rfl⟩
    have hJ : ∀ j : Nat, j < n → g j = v := hJ
    have hP : va_P D vwCl [(a, .inl (cy 2, n, .inr (.inl g)))] H := hP
    have hD : va_D A [(a, .inl (cy 2, n, .inr (.inl g)))] := hD
    have hl : lv_has ls 5 [(4, .int (nI (n))), (3, .int (nI (n))), (0, .ref a), (1, .long v)] := hl
    have hP := arr_l 0 (fun _ => v) hP rfl hJ
    have hD := d_set (e1 := .inl (cy 2, n, .inr (.inl (fun _ => v)))) 0 hD rfl
    have hP : va_P D vwCl [(a, .inl (cy 2, n, .inr (.inl (fun _ => v))))] H := hP
    have hD : va_D A [(a, .inl (cy 2, n, .inr (.inl (fun _ => v))))] := hD
    refine lv_iload_n S.1 S.2.1 dJ7_fill_d0a16_6 rfl (lv_at hl 1 rfl) ?_
    refine lv_iload S.1 S.2.1 dJ7_fill_d0a16_7 (lv_at hl 0 rfl) ?_
    refine r_icmp_ge S ((n : Nat) : Int) ((n : Nat) : Int) (nI_toInt (by omega)) (nI_toInt (by omega)) dJ7_fill_d0a16_9 (tgt := 22) (by decide) (fun _ => ?_) (fun c => absurd c (by omega))
    exact cv_ret (u := ()) S hr hlk hK (hP.sub [0] rfl) (hD.sub [0] (by decide) rfl) hS (trivial) (by decide) (by decide) dJ7_fill_d0a16_22
  · obtain ⟨g, rfl⟩ : ∃ z, z = xs9 := ⟨_, rfl⟩
    have hJ : ∀ j : Nat, j < k → g j = v := hJ
    have hP : va_P D vwCl [(a, .inl (cy 2, n, .inr (.inl g)))] H := hP
    have hD : va_D A [(a, .inl (cy 2, n, .inr (.inl g)))] := hD
    have hl : lv_has ls 5 [(4, .int (nI (n))), (3, .int (nI (k))), (0, .ref a), (1, .long v)] := hl
    refine lv_iload_n S.1 S.2.1 dJ7_fill_d0a16_6 rfl (lv_at hl 1 rfl) ?_
    refine lv_iload S.1 S.2.1 dJ7_fill_d0a16_7 (lv_at hl 0 rfl) ?_
    refine r_icmp_ge S ((k : Nat) : Int) ((n : Nat) : Int) (nI_toInt (by omega)) (nI_toInt (by omega)) dJ7_fill_d0a16_9 (tgt := 22) (by decide) (fun c => absurd c (by omega)) (fun _ => ?_)
    refine lv_aload_n S.1 S.2.1 dJ7_fill_d0a16_12 rfl (lv_at hl 2 rfl) ?_
    refine lv_iload_n S.1 S.2.1 dJ7_fill_d0a16_13 rfl (lv_at hl 1 rfl) ?_
    refine lv_lload_n S.1 S.2.1 dJ7_fill_d0a16_14 rfl (lv_at hl 3 rfl) ?_
    refine r_last S hK hP hD hS 0 2 rfl rfl ((k)) rfl (by omega) hn dJ7_fill_d0a16_15 (fun H locs hP hD hS => ?_)
    have hP : va_P D vwCl [(a, .inl (cy 2, n, .inr (.inl (vp_updL g ((k)) v))))] H := hP
    have hD : va_D A [(a, .inl (cy 2, n, .inr (.inl (vp_updL g ((k)) v))))] := hD
    refine lv_iinc (v := (nI ((k) + 1))) (lv' := [(3, .int (nI ((k) + 1))), (4, .int (nI (n))), (0, .ref a), (1, .long v)]) S.1 S.2.1 dJ7_fill_d0a16_16 hl (k := 1) rfl (nI_1 (k)) (by decide) rfl (fun ls hl => ?_)
    refine lv_goto (tgt := 6) S.1 S.2.1 dJ7_fill_d0a16_19 (by decide) ?_
    exact ih (vp_updL g (k) v) _ _ _ (lt_s (fun j hj => (pk_uLn (Nat.ne_of_lt hj)).trans (hJ j hj)) pk_uLs) (hP.sub [0] rfl) (hD.sub [0] (by decide) rfl) hS (lv_sub hl [1, 0, 2, 3] rfl)
set_option maxHeartbeats 4000000 in
set_option maxRecDepth 100000 in
theorem kX2_init (l : Launch) (D : va_G) (cy : Nat → ClassId) (a : Nat) : CV l D cy yX2_init cX2_init 1 none 1 23 7 496 [.ref a] [(a, .inr (2, [.null, .null, .null, .null, .null, .int 0, .null, .null, .int 0]))] (fun (u : (Nat) × (Nat) × (Nat) × (Nat) × (Nat) × (Nat) × (Nat)) => True) (fun (u : (Nat) × (Nat) × (Nat) × (Nat) × (Nat) × (Nat) × (Nat)) => [(a, .inr (2, [.ref (u.1), .ref (u.2.1), .ref (u.2.2.1), .ref (u.2.2.2.1), .ref (u.2.2.2.2.1), .int 0, .ref (u.2.2.2.2.2.1), .ref (u.2.2.2.2.2.2), .int 0])), ((u.1), .inl (cy 0, 96, .inl (fun _ => 500))), ((u.2.1), .inl (cy 1, 96, .inl (fun _ => 0))), ((u.2.2.1), .inl (cy 1, 96, .inl (fun _ => 0))), ((u.2.2.2.1), .inl (cy 0, 96, .inl (fun _ => (-1)))), ((u.2.2.2.2.1), .inl (cy 1, 96, .inl (fun _ => 0))), ((u.2.2.2.2.2.1), .inl (cy 0, 8, .inl (fun _ => 0))), ((u.2.2.2.2.2.2), .inl (cy 0, 8, .inl (fun _ => 0)))]) := by
  refine cv_go (by decide) (Nat.le_of_ble_eq_true rfl) (fun p e s m below meth c ls A hA S hr hlk hnm hP hK hD hl => ?_)
  have hS : va_S A s.heap s.heap [] := va_S.rf
  have hl : lv_has ls 1 [(0, .ref a)] := hl
  refine lv_aload_n S.1 S.2.1 dX2_init_0 rfl (lv_at hl 0 rfl) ?_
  refine r_oinit S kw_185 kw_178 kw_oi hl.1 dX2_init_1 (by decide) (Nat.le_of_ble_eq_true rfl) ?_
  refine lv_aload_n S.1 S.2.1 dX2_init_4 rfl (lv_at hl 0 rfl) ?_
  refine lv_bipush (v := 96) S.1 S.2.1 dX2_init_5 (by decide) ?_
  refine r_newa S (atype := .int) (ty := .int) rfl kw_224 hK hP hD hS hA 0 rfl (a0 := (96, .inl (fun _ => 0))) (fun _ => rfl) (by decide) (by decide) (by decide) (by decide) (by decide) dX2_init_7 (fun a7_1 H hP hD hS => ?_)
  have hP : va_P D vwCl [(a, .inr (2, [.null, .null, .null, .null, .null, .int 0, .null, .null, .int 0])), (a7_1, .inl (cy 0, 96, .inl (fun _ => 0)))] H := hP
  have hD : va_D A [(a, .inr (2, [.null, .null, .null, .null, .null, .int 0, .null, .null, .int 0])), (a7_1, .inl (cy 0, 96, .inl (fun _ => 0)))] := hD
  refine r_putF S hK hP hD hS 0 2 rfl rfl inX2 0 (by decide) tyX2 tyX2_ok nmX2 kw_189 (v := .ref a7_1) rfl hnm rfl rfl rfl (Nat.le_of_ble_eq_true rfl) dX2_init_9 (fun H locs hP hD hS => ?_)
  have hP : va_P D vwCl [(a, .inr (2, [.ref a7_1, .null, .null, .null, .null, .int 0, .null, .null, .int 0])), (a7_1, .inl (cy 0, 96, .inl (fun _ => 0)))] H := hP
  have hD : va_D A [(a, .inr (2, [.ref a7_1, .null, .null, .null, .null, .int 0, .null, .null, .int 0])), (a7_1, .inl (cy 0, 96, .inl (fun _ => 0)))] := hD
  refine lv_aload_n S.1 S.2.1 dX2_init_12 rfl (lv_at hl 0 rfl) ?_
  refine lv_bipush (v := 96) S.1 S.2.1 dX2_init_13 (by decide) ?_
  refine r_newa S (atype := .boolean) (ty := .boolean) rfl kw_225 hK hP hD hS hA 1 rfl (a0 := (96, .inl (fun _ => 0))) (fun _ => rfl) (by decide) (by decide) (by decide) (by decide) (by decide) dX2_init_15 (fun a15_2 H hP hD hS => ?_)
  have hP : va_P D vwCl [(a, .inr (2, [.ref a7_1, .null, .null, .null, .null, .int 0, .null, .null, .int 0])), (a7_1, .inl (cy 0, 96, .inl (fun _ => 0))), (a15_2, .inl (cy 1, 96, .inl (fun _ => 0)))] H := hP
  have hD : va_D A [(a, .inr (2, [.ref a7_1, .null, .null, .null, .null, .int 0, .null, .null, .int 0])), (a7_1, .inl (cy 0, 96, .inl (fun _ => 0))), (a15_2, .inl (cy 1, 96, .inl (fun _ => 0)))] := hD
  refine r_putF S hK hP hD hS 0 2 rfl rfl inX2 1 (by decide) tyX2 tyX2_ok nmX2 kw_191 (v := .ref a15_2) rfl hnm rfl rfl rfl (Nat.le_of_ble_eq_true rfl) dX2_init_17 (fun H locs hP hD hS => ?_)
  have hP : va_P D vwCl [(a, .inr (2, [.ref a7_1, .ref a15_2, .null, .null, .null, .int 0, .null, .null, .int 0])), (a7_1, .inl (cy 0, 96, .inl (fun _ => 0))), (a15_2, .inl (cy 1, 96, .inl (fun _ => 0)))] H := hP
  have hD : va_D A [(a, .inr (2, [.ref a7_1, .ref a15_2, .null, .null, .null, .int 0, .null, .null, .int 0])), (a7_1, .inl (cy 0, 96, .inl (fun _ => 0))), (a15_2, .inl (cy 1, 96, .inl (fun _ => 0)))] := hD
  refine lv_aload_n S.1 S.2.1 dX2_init_20 rfl (lv_at hl 0 rfl) ?_
  refine lv_bipush (v := 96) S.1 S.2.1 dX2_init_21 (by decide) ?_
  refine r_newa S (atype := .boolean) (ty := .boolean) rfl kw_225 hK hP hD hS hA 1 rfl (a0 := (96, .inl (fun _ => 0))) (fun _ => rfl) (by decide) (by decide) (by decide) (by decide) (by decide) dX2_init_23 (fun a23_3 H hP hD hS => ?_)
  have hP : va_P D vwCl [(a, .inr (2, [.ref a7_1, .ref a15_2, .null, .null, .null, .int 0, .null, .null, .int 0])), (a7_1, .inl (cy 0, 96, .inl (fun _ => 0))), (a15_2, .inl (cy 1, 96, .inl (fun _ => 0))), (a23_3, .inl (cy 1, 96, .inl (fun _ => 0)))] H := hP
  have hD : va_D A [(a, .inr (2, [.ref a7_1, .ref a15_2, .null, .null, .null, .int 0, .null, .null, .int 0])), (a7_1, .inl (cy 0, 96, .inl (fun _ => 0))), (a15_2, .inl (cy 1, 96, .inl (fun _ => 0))), (a23_3, .inl (cy 1, 96, .inl (fun _ => 0)))] := hD
  refine r_putF S hK hP hD hS 0 2 rfl rfl inX2 2 (by decide) tyX2 tyX2_ok nmX2 kw_193 (v := .ref a23_3) rfl hnm rfl rfl rfl (Nat.le_of_ble_eq_true rfl) dX2_init_25 (fun H locs hP hD hS => ?_)
  have hP : va_P D vwCl [(a, .inr (2, [.ref a7_1, .ref a15_2, .ref a23_3, .null, .null, .int 0, .null, .null, .int 0])), (a7_1, .inl (cy 0, 96, .inl (fun _ => 0))), (a15_2, .inl (cy 1, 96, .inl (fun _ => 0))), (a23_3, .inl (cy 1, 96, .inl (fun _ => 0)))] H := hP
  have hD : va_D A [(a, .inr (2, [.ref a7_1, .ref a15_2, .ref a23_3, .null, .null, .int 0, .null, .null, .int 0])), (a7_1, .inl (cy 0, 96, .inl (fun _ => 0))), (a15_2, .inl (cy 1, 96, .inl (fun _ => 0))), (a23_3, .inl (cy 1, 96, .inl (fun _ => 0)))] := hD
  refine lv_aload_n S.1 S.2.1 dX2_init_28 rfl (lv_at hl 0 rfl) ?_
  refine lv_bipush (v := 96) S.1 S.2.1 dX2_init_29 (by decide) ?_
  refine r_newa S (atype := .int) (ty := .int) rfl kw_224 hK hP hD hS hA 0 rfl (a0 := (96, .inl (fun _ => 0))) (fun _ => rfl) (by decide) (by decide) (by decide) (by decide) (by decide) dX2_init_31 (fun a31_4 H hP hD hS => ?_)
  have hP : va_P D vwCl [(a, .inr (2, [.ref a7_1, .ref a15_2, .ref a23_3, .null, .null, .int 0, .null, .null, .int 0])), (a7_1, .inl (cy 0, 96, .inl (fun _ => 0))), (a15_2, .inl (cy 1, 96, .inl (fun _ => 0))), (a23_3, .inl (cy 1, 96, .inl (fun _ => 0))), (a31_4, .inl (cy 0, 96, .inl (fun _ => 0)))] H := hP
  have hD : va_D A [(a, .inr (2, [.ref a7_1, .ref a15_2, .ref a23_3, .null, .null, .int 0, .null, .null, .int 0])), (a7_1, .inl (cy 0, 96, .inl (fun _ => 0))), (a15_2, .inl (cy 1, 96, .inl (fun _ => 0))), (a23_3, .inl (cy 1, 96, .inl (fun _ => 0))), (a31_4, .inl (cy 0, 96, .inl (fun _ => 0)))] := hD
  refine r_putF S hK hP hD hS 0 2 rfl rfl inX2 3 (by decide) tyX2 tyX2_ok nmX2 kw_195 (v := .ref a31_4) rfl hnm rfl rfl rfl (Nat.le_of_ble_eq_true rfl) dX2_init_33 (fun H locs hP hD hS => ?_)
  have hP : va_P D vwCl [(a, .inr (2, [.ref a7_1, .ref a15_2, .ref a23_3, .ref a31_4, .null, .int 0, .null, .null, .int 0])), (a7_1, .inl (cy 0, 96, .inl (fun _ => 0))), (a15_2, .inl (cy 1, 96, .inl (fun _ => 0))), (a23_3, .inl (cy 1, 96, .inl (fun _ => 0))), (a31_4, .inl (cy 0, 96, .inl (fun _ => 0)))] H := hP
  have hD : va_D A [(a, .inr (2, [.ref a7_1, .ref a15_2, .ref a23_3, .ref a31_4, .null, .int 0, .null, .null, .int 0])), (a7_1, .inl (cy 0, 96, .inl (fun _ => 0))), (a15_2, .inl (cy 1, 96, .inl (fun _ => 0))), (a23_3, .inl (cy 1, 96, .inl (fun _ => 0))), (a31_4, .inl (cy 0, 96, .inl (fun _ => 0)))] := hD
  refine lv_aload_n S.1 S.2.1 dX2_init_36 rfl (lv_at hl 0 rfl) ?_
  refine lv_bipush (v := 96) S.1 S.2.1 dX2_init_37 (by decide) ?_
  refine r_newa S (atype := .boolean) (ty := .boolean) rfl kw_225 hK hP hD hS hA 1 rfl (a0 := (96, .inl (fun _ => 0))) (fun _ => rfl) (by decide) (by decide) (by decide) (by decide) (by decide) dX2_init_39 (fun a39_5 H hP hD hS => ?_)
  have hP : va_P D vwCl [(a, .inr (2, [.ref a7_1, .ref a15_2, .ref a23_3, .ref a31_4, .null, .int 0, .null, .null, .int 0])), (a7_1, .inl (cy 0, 96, .inl (fun _ => 0))), (a15_2, .inl (cy 1, 96, .inl (fun _ => 0))), (a23_3, .inl (cy 1, 96, .inl (fun _ => 0))), (a31_4, .inl (cy 0, 96, .inl (fun _ => 0))), (a39_5, .inl (cy 1, 96, .inl (fun _ => 0)))] H := hP
  have hD : va_D A [(a, .inr (2, [.ref a7_1, .ref a15_2, .ref a23_3, .ref a31_4, .null, .int 0, .null, .null, .int 0])), (a7_1, .inl (cy 0, 96, .inl (fun _ => 0))), (a15_2, .inl (cy 1, 96, .inl (fun _ => 0))), (a23_3, .inl (cy 1, 96, .inl (fun _ => 0))), (a31_4, .inl (cy 0, 96, .inl (fun _ => 0))), (a39_5, .inl (cy 1, 96, .inl (fun _ => 0)))] := hD
  refine r_putF S hK hP hD hS 0 2 rfl rfl inX2 4 (by decide) tyX2 tyX2_ok nmX2 kw_197 (v := .ref a39_5) rfl hnm rfl rfl rfl (Nat.le_of_ble_eq_true rfl) dX2_init_41 (fun H locs hP hD hS => ?_)
  have hP : va_P D vwCl [(a, .inr (2, [.ref a7_1, .ref a15_2, .ref a23_3, .ref a31_4, .ref a39_5, .int 0, .null, .null, .int 0])), (a7_1, .inl (cy 0, 96, .inl (fun _ => 0))), (a15_2, .inl (cy 1, 96, .inl (fun _ => 0))), (a23_3, .inl (cy 1, 96, .inl (fun _ => 0))), (a31_4, .inl (cy 0, 96, .inl (fun _ => 0))), (a39_5, .inl (cy 1, 96, .inl (fun _ => 0)))] H := hP
  have hD : va_D A [(a, .inr (2, [.ref a7_1, .ref a15_2, .ref a23_3, .ref a31_4, .ref a39_5, .int 0, .null, .null, .int 0])), (a7_1, .inl (cy 0, 96, .inl (fun _ => 0))), (a15_2, .inl (cy 1, 96, .inl (fun _ => 0))), (a23_3, .inl (cy 1, 96, .inl (fun _ => 0))), (a31_4, .inl (cy 0, 96, .inl (fun _ => 0))), (a39_5, .inl (cy 1, 96, .inl (fun _ => 0)))] := hD
  refine lv_aload_n S.1 S.2.1 dX2_init_44 rfl (lv_at hl 0 rfl) ?_
  refine lv_bipush (v := 8) S.1 S.2.1 dX2_init_45 (by decide) ?_
  refine r_newa S (atype := .int) (ty := .int) rfl kw_224 hK hP hD hS hA 0 rfl (a0 := (8, .inl (fun _ => 0))) (fun _ => rfl) (by decide) (by decide) (by decide) (by decide) (by decide) dX2_init_47 (fun a47_6 H hP hD hS => ?_)
  have hP : va_P D vwCl [(a, .inr (2, [.ref a7_1, .ref a15_2, .ref a23_3, .ref a31_4, .ref a39_5, .int 0, .null, .null, .int 0])), (a7_1, .inl (cy 0, 96, .inl (fun _ => 0))), (a15_2, .inl (cy 1, 96, .inl (fun _ => 0))), (a23_3, .inl (cy 1, 96, .inl (fun _ => 0))), (a31_4, .inl (cy 0, 96, .inl (fun _ => 0))), (a39_5, .inl (cy 1, 96, .inl (fun _ => 0))), (a47_6, .inl (cy 0, 8, .inl (fun _ => 0)))] H := hP
  have hD : va_D A [(a, .inr (2, [.ref a7_1, .ref a15_2, .ref a23_3, .ref a31_4, .ref a39_5, .int 0, .null, .null, .int 0])), (a7_1, .inl (cy 0, 96, .inl (fun _ => 0))), (a15_2, .inl (cy 1, 96, .inl (fun _ => 0))), (a23_3, .inl (cy 1, 96, .inl (fun _ => 0))), (a31_4, .inl (cy 0, 96, .inl (fun _ => 0))), (a39_5, .inl (cy 1, 96, .inl (fun _ => 0))), (a47_6, .inl (cy 0, 8, .inl (fun _ => 0)))] := hD
  refine r_putF S hK hP hD hS 0 2 rfl rfl inX2 6 (by decide) tyX2 tyX2_ok nmX2 kw_200 (v := .ref a47_6) rfl hnm rfl rfl rfl (Nat.le_of_ble_eq_true rfl) dX2_init_49 (fun H locs hP hD hS => ?_)
  have hP : va_P D vwCl [(a, .inr (2, [.ref a7_1, .ref a15_2, .ref a23_3, .ref a31_4, .ref a39_5, .int 0, .ref a47_6, .null, .int 0])), (a7_1, .inl (cy 0, 96, .inl (fun _ => 0))), (a15_2, .inl (cy 1, 96, .inl (fun _ => 0))), (a23_3, .inl (cy 1, 96, .inl (fun _ => 0))), (a31_4, .inl (cy 0, 96, .inl (fun _ => 0))), (a39_5, .inl (cy 1, 96, .inl (fun _ => 0))), (a47_6, .inl (cy 0, 8, .inl (fun _ => 0)))] H := hP
  have hD : va_D A [(a, .inr (2, [.ref a7_1, .ref a15_2, .ref a23_3, .ref a31_4, .ref a39_5, .int 0, .ref a47_6, .null, .int 0])), (a7_1, .inl (cy 0, 96, .inl (fun _ => 0))), (a15_2, .inl (cy 1, 96, .inl (fun _ => 0))), (a23_3, .inl (cy 1, 96, .inl (fun _ => 0))), (a31_4, .inl (cy 0, 96, .inl (fun _ => 0))), (a39_5, .inl (cy 1, 96, .inl (fun _ => 0))), (a47_6, .inl (cy 0, 8, .inl (fun _ => 0)))] := hD
  refine lv_aload_n S.1 S.2.1 dX2_init_52 rfl (lv_at hl 0 rfl) ?_
  refine lv_bipush (v := 8) S.1 S.2.1 dX2_init_53 (by decide) ?_
  refine r_newa S (atype := .int) (ty := .int) rfl kw_224 hK hP hD hS hA 0 rfl (a0 := (8, .inl (fun _ => 0))) (fun _ => rfl) (by decide) (by decide) (by decide) (by decide) (by decide) dX2_init_55 (fun a55_7 H hP hD hS => ?_)
  have hP : va_P D vwCl [(a, .inr (2, [.ref a7_1, .ref a15_2, .ref a23_3, .ref a31_4, .ref a39_5, .int 0, .ref a47_6, .null, .int 0])), (a7_1, .inl (cy 0, 96, .inl (fun _ => 0))), (a15_2, .inl (cy 1, 96, .inl (fun _ => 0))), (a23_3, .inl (cy 1, 96, .inl (fun _ => 0))), (a31_4, .inl (cy 0, 96, .inl (fun _ => 0))), (a39_5, .inl (cy 1, 96, .inl (fun _ => 0))), (a47_6, .inl (cy 0, 8, .inl (fun _ => 0))), (a55_7, .inl (cy 0, 8, .inl (fun _ => 0)))] H := hP
  have hD : va_D A [(a, .inr (2, [.ref a7_1, .ref a15_2, .ref a23_3, .ref a31_4, .ref a39_5, .int 0, .ref a47_6, .null, .int 0])), (a7_1, .inl (cy 0, 96, .inl (fun _ => 0))), (a15_2, .inl (cy 1, 96, .inl (fun _ => 0))), (a23_3, .inl (cy 1, 96, .inl (fun _ => 0))), (a31_4, .inl (cy 0, 96, .inl (fun _ => 0))), (a39_5, .inl (cy 1, 96, .inl (fun _ => 0))), (a47_6, .inl (cy 0, 8, .inl (fun _ => 0))), (a55_7, .inl (cy 0, 8, .inl (fun _ => 0)))] := hD
  refine r_putF S hK hP hD hS 0 2 rfl rfl inX2 7 (by decide) tyX2 tyX2_ok nmX2 kw_202 (v := .ref a55_7) rfl hnm rfl rfl rfl (Nat.le_of_ble_eq_true rfl) dX2_init_57 (fun H locs hP hD hS => ?_)
  have hP : va_P D vwCl [(a, .inr (2, [.ref a7_1, .ref a15_2, .ref a23_3, .ref a31_4, .ref a39_5, .int 0, .ref a47_6, .ref a55_7, .int 0])), (a7_1, .inl (cy 0, 96, .inl (fun _ => 0))), (a15_2, .inl (cy 1, 96, .inl (fun _ => 0))), (a23_3, .inl (cy 1, 96, .inl (fun _ => 0))), (a31_4, .inl (cy 0, 96, .inl (fun _ => 0))), (a39_5, .inl (cy 1, 96, .inl (fun _ => 0))), (a47_6, .inl (cy 0, 8, .inl (fun _ => 0))), (a55_7, .inl (cy 0, 8, .inl (fun _ => 0)))] H := hP
  have hD : va_D A [(a, .inr (2, [.ref a7_1, .ref a15_2, .ref a23_3, .ref a31_4, .ref a39_5, .int 0, .ref a47_6, .ref a55_7, .int 0])), (a7_1, .inl (cy 0, 96, .inl (fun _ => 0))), (a15_2, .inl (cy 1, 96, .inl (fun _ => 0))), (a23_3, .inl (cy 1, 96, .inl (fun _ => 0))), (a31_4, .inl (cy 0, 96, .inl (fun _ => 0))), (a39_5, .inl (cy 1, 96, .inl (fun _ => 0))), (a47_6, .inl (cy 0, 8, .inl (fun _ => 0))), (a55_7, .inl (cy 0, 8, .inl (fun _ => 0)))] := hD
  refine lv_aload_n S.1 S.2.1 dX2_init_60 rfl (lv_at hl 0 rfl) ?_
  refine r_get S hK hP 0 2 rfl rfl inX2 0 (by decide) kw_189 (v := .ref a7_1) rfl dX2_init_61 ?_
  refine lv_sipush (v := 500) S.1 S.2.1 dX2_init_64 (by decide) ?_
  refine call_v (wr := [(a, .inr (2, [.ref a7_1, .ref a15_2, .ref a23_3, .ref a31_4, .ref a39_5, .int 0, .ref a47_6, .ref a55_7, .int 0])), (a15_2, .inl (cy 1, 96, .inl (fun _ => 0))), (a23_3, .inl (cy 1, 96, .inl (fun _ => 0))), (a31_4, .inl (cy 0, 96, .inl (fun _ => 0))), (a39_5, .inl (cy 1, 96, .inl (fun _ => 0))), (a47_6, .inl (cy 0, 8, .inl (fun _ => 0))), (a55_7, .inl (cy 0, 8, .inl (fun _ => 0)))]) (runS_C (wc := [(a7_1, .inl (cy 0, 96, .inl (fun _ => 0)))]) (As := [.ref a7_1, .int 500]) (rest := []) S (kJ7_fill_53178 l D cy a7_1 96 (fun _ => 0) 500 (by omega)) hK hP hD [1] (by decide) rfl kw_186 kw_187 kw_146 kw_188 okJ7_fill_53178 rfl (by decide) hl.1 rfl (Nat.le_of_ble_eq_true rfl) dX2_init_67 (by decide)) hP hD hS hA [1] [0, 2, 3, 4, 5, 6, 7] rfl rfl (by decide) (by decide) (fun u67 H locs w67 hP hD hS => ?_)
  have hP : va_P D vwCl [(a, .inr (2, [.ref a7_1, .ref a15_2, .ref a23_3, .ref a31_4, .ref a39_5, .int 0, .ref a47_6, .ref a55_7, .int 0])), (a15_2, .inl (cy 1, 96, .inl (fun _ => 0))), (a23_3, .inl (cy 1, 96, .inl (fun _ => 0))), (a31_4, .inl (cy 0, 96, .inl (fun _ => 0))), (a39_5, .inl (cy 1, 96, .inl (fun _ => 0))), (a47_6, .inl (cy 0, 8, .inl (fun _ => 0))), (a55_7, .inl (cy 0, 8, .inl (fun _ => 0))), (a7_1, .inl (cy 0, 96, .inl (fun _ => 500)))] H := hP
  have hD : va_D A [(a, .inr (2, [.ref a7_1, .ref a15_2, .ref a23_3, .ref a31_4, .ref a39_5, .int 0, .ref a47_6, .ref a55_7, .int 0])), (a15_2, .inl (cy 1, 96, .inl (fun _ => 0))), (a23_3, .inl (cy 1, 96, .inl (fun _ => 0))), (a31_4, .inl (cy 0, 96, .inl (fun _ => 0))), (a39_5, .inl (cy 1, 96, .inl (fun _ => 0))), (a47_6, .inl (cy 0, 8, .inl (fun _ => 0))), (a55_7, .inl (cy 0, 8, .inl (fun _ => 0))), (a7_1, .inl (cy 0, 96, .inl (fun _ => 500)))] := hD
  refine lv_aload_n S.1 S.2.1 dX2_init_70 rfl (lv_at hl 0 rfl) ?_
  refine r_get S hK hP 0 2 rfl rfl inX2 3 (by decide) kw_195 (v := .ref a31_4) rfl dX2_init_71 ?_
  refine lv_iconst (v := (-1)) S.1 S.2.1 dX2_init_74 (by decide) ?_
  refine call_v (wr := [(a, .inr (2, [.ref a7_1, .ref a15_2, .ref a23_3, .ref a31_4, .ref a39_5, .int 0, .ref a47_6, .ref a55_7, .int 0])), (a15_2, .inl (cy 1, 96, .inl (fun _ => 0))), (a23_3, .inl (cy 1, 96, .inl (fun _ => 0))), (a39_5, .inl (cy 1, 96, .inl (fun _ => 0))), (a47_6, .inl (cy 0, 8, .inl (fun _ => 0))), (a55_7, .inl (cy 0, 8, .inl (fun _ => 0))), (a7_1, .inl (cy 0, 96, .inl (fun _ => 500)))]) (runS_C (wc := [(a31_4, .inl (cy 0, 96, .inl (fun _ => 0)))]) (As := [.ref a31_4, .int (-1)]) (rest := []) S (kJ7_fill_53178 l D cy a31_4 96 (fun _ => 0) (-1) (by omega)) hK hP hD [3] (by decide) rfl kw_186 kw_187 kw_146 kw_188 okJ7_fill_53178 rfl (by decide) hl.1 rfl (Nat.le_of_ble_eq_true rfl) dX2_init_75 (by decide)) hP hD hS hA [3] [0, 1, 2, 4, 5, 6, 7] rfl rfl (by decide) (by decide) (fun u75 H locs w75 hP hD hS => ?_)
  have hP : va_P D vwCl [(a, .inr (2, [.ref a7_1, .ref a15_2, .ref a23_3, .ref a31_4, .ref a39_5, .int 0, .ref a47_6, .ref a55_7, .int 0])), (a15_2, .inl (cy 1, 96, .inl (fun _ => 0))), (a23_3, .inl (cy 1, 96, .inl (fun _ => 0))), (a39_5, .inl (cy 1, 96, .inl (fun _ => 0))), (a47_6, .inl (cy 0, 8, .inl (fun _ => 0))), (a55_7, .inl (cy 0, 8, .inl (fun _ => 0))), (a7_1, .inl (cy 0, 96, .inl (fun _ => 500))), (a31_4, .inl (cy 0, 96, .inl (fun _ => (-1))))] H := hP
  have hD : va_D A [(a, .inr (2, [.ref a7_1, .ref a15_2, .ref a23_3, .ref a31_4, .ref a39_5, .int 0, .ref a47_6, .ref a55_7, .int 0])), (a15_2, .inl (cy 1, 96, .inl (fun _ => 0))), (a23_3, .inl (cy 1, 96, .inl (fun _ => 0))), (a39_5, .inl (cy 1, 96, .inl (fun _ => 0))), (a47_6, .inl (cy 0, 8, .inl (fun _ => 0))), (a55_7, .inl (cy 0, 8, .inl (fun _ => 0))), (a7_1, .inl (cy 0, 96, .inl (fun _ => 500))), (a31_4, .inl (cy 0, 96, .inl (fun _ => (-1))))] := hD
  exact cv_ret (u := (a7_1, a15_2, a23_3, a31_4, a39_5, a47_6, a55_7)) S hr hlk hK (hP.sub [0, 6, 1, 2, 7, 3, 4, 5] rfl) (hD.sub [0, 6, 1, 2, 7, 3, 4, 5] (by decide) rfl) hS (trivial) (by decide) (by decide) dX2_init_78
set_option maxHeartbeats 4000000 in
set_option maxRecDepth 100000 in
theorem kX5_init (l : Launch) (D : va_G) (cy : Nat → ClassId) (a : Nat) : CV l D cy yX5_init cX5_init 1 none 1 23 12 194 [.ref a] [(a, .inr (5, [.int 0, .null, .null, .null, .null, .null, .int 0, .int 0, .int 0, .int 0, .int 0, .null, .null, .int 0, .null, .null, .null, .null, .null]))] (fun (u : (Nat) × (Nat) × (Nat) × (Nat) × (Nat) × (Nat) × (Nat) × (Nat) × (Nat) × (Nat) × (Nat) × (Nat)) => True) (fun (u : (Nat) × (Nat) × (Nat) × (Nat) × (Nat) × (Nat) × (Nat) × (Nat) × (Nat) × (Nat) × (Nat) × (Nat)) => [(a, .inr (5, [.int 0, .ref (u.1), .ref (u.2.1), .ref (u.2.2.1), .ref (u.2.2.2.1), .ref (u.2.2.2.2.1), .int 0, .int 10, .int 20, .int 0, .int 0, .ref (u.2.2.2.2.2.1), .ref (u.2.2.2.2.2.2.1), .int 0, .ref (u.2.2.2.2.2.2.2.1), .ref (u.2.2.2.2.2.2.2.2.1), .ref (u.2.2.2.2.2.2.2.2.2.1), .ref (u.2.2.2.2.2.2.2.2.2.2.1), .ref (u.2.2.2.2.2.2.2.2.2.2.2)])), ((u.1), .inl (cy 2, 10, .inr (.inl (fun _ => 0)))), ((u.2.1), .inl (cy 0, 10, .inl (fun _ => 0))), ((u.2.2.1), .inl (cy 0, 10, .inl (fun _ => 0))), ((u.2.2.2.1), .inl (cy 0, 20, .inl (fun _ => 0))), ((u.2.2.2.2.1), .inl (cy 0, 20, .inl (fun _ => 0))), ((u.2.2.2.2.2.1), .inl (cy 0, 10, .inl (fun _ => (-1)))), ((u.2.2.2.2.2.2.1), .inl (cy 0, 10, .inl (fun _ => 0))), ((u.2.2.2.2.2.2.2.1), .inl (cy 0, 24, .inl (fun _ => 0))), ((u.2.2.2.2.2.2.2.2.1), .inl (cy 0, 24, .inl (fun _ => 0))), ((u.2.2.2.2.2.2.2.2.2.1), .inl (cy 0, 24, .inl (fun _ => 0))), ((u.2.2.2.2.2.2.2.2.2.2.1), .inl (cy 0, 0, .inl (fun _ => 0))), ((u.2.2.2.2.2.2.2.2.2.2.2), .inl (cy 0, 32, .inl (fun _ => 0)))]) := by
  refine cv_go (by decide) (Nat.le_of_ble_eq_true rfl) (fun p e s m below meth c ls A hA S hr hlk hnm hP hK hD hl => ?_)
  have hS : va_S A s.heap s.heap [] := va_S.rf
  have hl : lv_has ls 1 [(0, .ref a)] := hl
  refine lv_aload_n S.1 S.2.1 dX5_init_0 rfl (lv_at hl 0 rfl) ?_
  refine r_oinit S kw_292 kw_178 kw_oi hl.1 dX5_init_1 (by decide) (Nat.le_of_ble_eq_true rfl) ?_
  refine lv_aload_n S.1 S.2.1 dX5_init_4 rfl (lv_at hl 0 rfl) ?_
  refine lv_bipush (v := 10) S.1 S.2.1 dX5_init_5 (by decide) ?_
  refine r_newa S (atype := .long) (ty := .long) rfl kw_376 hK hP hD hS hA 2 rfl (a0 := (10, .inr (.inl (fun _ => 0)))) (fun _ => rfl) (by decide) (by decide) (by decide) (by decide) (by decide) dX5_init_7 (fun a7_1 H hP hD hS => ?_)
  have hP : va_P D vwCl [(a, .inr (5, [.int 0, .null, .null, .null, .null, .null, .int 0, .int 0, .int 0, .int 0, .int 0, .null, .null, .int 0, .null, .null, .null, .null, .null])), (a7_1, .inl (cy 2, 10, .inr (.inl (fun _ => 0))))] H := hP
  have hD : va_D A [(a, .inr (5, [.int 0, .null, .null, .null, .null, .null, .int 0, .int 0, .int 0, .int 0, .int 0, .null, .null, .int 0, .null, .null, .null, .null, .null])), (a7_1, .inl (cy 2, 10, .inr (.inl (fun _ => 0))))] := hD
  refine r_putF S hK hP hD hS 0 5 rfl rfl inX5 1 (by decide) tyX5 tyX5_ok nmX5 kw_297 (v := .ref a7_1) rfl hnm rfl rfl rfl (Nat.le_of_ble_eq_true rfl) dX5_init_9 (fun H locs hP hD hS => ?_)
  have hP : va_P D vwCl [(a, .inr (5, [.int 0, .ref a7_1, .null, .null, .null, .null, .int 0, .int 0, .int 0, .int 0, .int 0, .null, .null, .int 0, .null, .null, .null, .null, .null])), (a7_1, .inl (cy 2, 10, .inr (.inl (fun _ => 0))))] H := hP
  have hD : va_D A [(a, .inr (5, [.int 0, .ref a7_1, .null, .null, .null, .null, .int 0, .int 0, .int 0, .int 0, .int 0, .null, .null, .int 0, .null, .null, .null, .null, .null])), (a7_1, .inl (cy 2, 10, .inr (.inl (fun _ => 0))))] := hD
  refine lv_aload_n S.1 S.2.1 dX5_init_12 rfl (lv_at hl 0 rfl) ?_
  refine lv_bipush (v := 10) S.1 S.2.1 dX5_init_13 (by decide) ?_
  refine r_newa S (atype := .int) (ty := .int) rfl kw_224 hK hP hD hS hA 0 rfl (a0 := (10, .inl (fun _ => 0))) (fun _ => rfl) (by decide) (by decide) (by decide) (by decide) (by decide) dX5_init_15 (fun a15_2 H hP hD hS => ?_)
  have hP : va_P D vwCl [(a, .inr (5, [.int 0, .ref a7_1, .null, .null, .null, .null, .int 0, .int 0, .int 0, .int 0, .int 0, .null, .null, .int 0, .null, .null, .null, .null, .null])), (a7_1, .inl (cy 2, 10, .inr (.inl (fun _ => 0)))), (a15_2, .inl (cy 0, 10, .inl (fun _ => 0)))] H := hP
  have hD : va_D A [(a, .inr (5, [.int 0, .ref a7_1, .null, .null, .null, .null, .int 0, .int 0, .int 0, .int 0, .int 0, .null, .null, .int 0, .null, .null, .null, .null, .null])), (a7_1, .inl (cy 2, 10, .inr (.inl (fun _ => 0)))), (a15_2, .inl (cy 0, 10, .inl (fun _ => 0)))] := hD
  refine r_putF S hK hP hD hS 0 5 rfl rfl inX5 2 (by decide) tyX5 tyX5_ok nmX5 kw_299 (v := .ref a15_2) rfl hnm rfl rfl rfl (Nat.le_of_ble_eq_true rfl) dX5_init_17 (fun H locs hP hD hS => ?_)
  have hP : va_P D vwCl [(a, .inr (5, [.int 0, .ref a7_1, .ref a15_2, .null, .null, .null, .int 0, .int 0, .int 0, .int 0, .int 0, .null, .null, .int 0, .null, .null, .null, .null, .null])), (a7_1, .inl (cy 2, 10, .inr (.inl (fun _ => 0)))), (a15_2, .inl (cy 0, 10, .inl (fun _ => 0)))] H := hP
  have hD : va_D A [(a, .inr (5, [.int 0, .ref a7_1, .ref a15_2, .null, .null, .null, .int 0, .int 0, .int 0, .int 0, .int 0, .null, .null, .int 0, .null, .null, .null, .null, .null])), (a7_1, .inl (cy 2, 10, .inr (.inl (fun _ => 0)))), (a15_2, .inl (cy 0, 10, .inl (fun _ => 0)))] := hD
  refine lv_aload_n S.1 S.2.1 dX5_init_20 rfl (lv_at hl 0 rfl) ?_
  refine lv_bipush (v := 10) S.1 S.2.1 dX5_init_21 (by decide) ?_
  refine r_newa S (atype := .int) (ty := .int) rfl kw_224 hK hP hD hS hA 0 rfl (a0 := (10, .inl (fun _ => 0))) (fun _ => rfl) (by decide) (by decide) (by decide) (by decide) (by decide) dX5_init_23 (fun a23_3 H hP hD hS => ?_)
  have hP : va_P D vwCl [(a, .inr (5, [.int 0, .ref a7_1, .ref a15_2, .null, .null, .null, .int 0, .int 0, .int 0, .int 0, .int 0, .null, .null, .int 0, .null, .null, .null, .null, .null])), (a7_1, .inl (cy 2, 10, .inr (.inl (fun _ => 0)))), (a15_2, .inl (cy 0, 10, .inl (fun _ => 0))), (a23_3, .inl (cy 0, 10, .inl (fun _ => 0)))] H := hP
  have hD : va_D A [(a, .inr (5, [.int 0, .ref a7_1, .ref a15_2, .null, .null, .null, .int 0, .int 0, .int 0, .int 0, .int 0, .null, .null, .int 0, .null, .null, .null, .null, .null])), (a7_1, .inl (cy 2, 10, .inr (.inl (fun _ => 0)))), (a15_2, .inl (cy 0, 10, .inl (fun _ => 0))), (a23_3, .inl (cy 0, 10, .inl (fun _ => 0)))] := hD
  refine r_putF S hK hP hD hS 0 5 rfl rfl inX5 3 (by decide) tyX5 tyX5_ok nmX5 kw_302 (v := .ref a23_3) rfl hnm rfl rfl rfl (Nat.le_of_ble_eq_true rfl) dX5_init_25 (fun H locs hP hD hS => ?_)
  have hP : va_P D vwCl [(a, .inr (5, [.int 0, .ref a7_1, .ref a15_2, .ref a23_3, .null, .null, .int 0, .int 0, .int 0, .int 0, .int 0, .null, .null, .int 0, .null, .null, .null, .null, .null])), (a7_1, .inl (cy 2, 10, .inr (.inl (fun _ => 0)))), (a15_2, .inl (cy 0, 10, .inl (fun _ => 0))), (a23_3, .inl (cy 0, 10, .inl (fun _ => 0)))] H := hP
  have hD : va_D A [(a, .inr (5, [.int 0, .ref a7_1, .ref a15_2, .ref a23_3, .null, .null, .int 0, .int 0, .int 0, .int 0, .int 0, .null, .null, .int 0, .null, .null, .null, .null, .null])), (a7_1, .inl (cy 2, 10, .inr (.inl (fun _ => 0)))), (a15_2, .inl (cy 0, 10, .inl (fun _ => 0))), (a23_3, .inl (cy 0, 10, .inl (fun _ => 0)))] := hD
  refine lv_aload_n S.1 S.2.1 dX5_init_28 rfl (lv_at hl 0 rfl) ?_
  refine lv_bipush (v := 20) S.1 S.2.1 dX5_init_29 (by decide) ?_
  refine r_newa S (atype := .int) (ty := .int) rfl kw_224 hK hP hD hS hA 0 rfl (a0 := (20, .inl (fun _ => 0))) (fun _ => rfl) (by decide) (by decide) (by decide) (by decide) (by decide) dX5_init_31 (fun a31_4 H hP hD hS => ?_)
  have hP : va_P D vwCl [(a, .inr (5, [.int 0, .ref a7_1, .ref a15_2, .ref a23_3, .null, .null, .int 0, .int 0, .int 0, .int 0, .int 0, .null, .null, .int 0, .null, .null, .null, .null, .null])), (a7_1, .inl (cy 2, 10, .inr (.inl (fun _ => 0)))), (a15_2, .inl (cy 0, 10, .inl (fun _ => 0))), (a23_3, .inl (cy 0, 10, .inl (fun _ => 0))), (a31_4, .inl (cy 0, 20, .inl (fun _ => 0)))] H := hP
  have hD : va_D A [(a, .inr (5, [.int 0, .ref a7_1, .ref a15_2, .ref a23_3, .null, .null, .int 0, .int 0, .int 0, .int 0, .int 0, .null, .null, .int 0, .null, .null, .null, .null, .null])), (a7_1, .inl (cy 2, 10, .inr (.inl (fun _ => 0)))), (a15_2, .inl (cy 0, 10, .inl (fun _ => 0))), (a23_3, .inl (cy 0, 10, .inl (fun _ => 0))), (a31_4, .inl (cy 0, 20, .inl (fun _ => 0)))] := hD
  refine r_putF S hK hP hD hS 0 5 rfl rfl inX5 4 (by decide) tyX5 tyX5_ok nmX5 kw_305 (v := .ref a31_4) rfl hnm rfl rfl rfl (Nat.le_of_ble_eq_true rfl) dX5_init_33 (fun H locs hP hD hS => ?_)
  have hP : va_P D vwCl [(a, .inr (5, [.int 0, .ref a7_1, .ref a15_2, .ref a23_3, .ref a31_4, .null, .int 0, .int 0, .int 0, .int 0, .int 0, .null, .null, .int 0, .null, .null, .null, .null, .null])), (a7_1, .inl (cy 2, 10, .inr (.inl (fun _ => 0)))), (a15_2, .inl (cy 0, 10, .inl (fun _ => 0))), (a23_3, .inl (cy 0, 10, .inl (fun _ => 0))), (a31_4, .inl (cy 0, 20, .inl (fun _ => 0)))] H := hP
  have hD : va_D A [(a, .inr (5, [.int 0, .ref a7_1, .ref a15_2, .ref a23_3, .ref a31_4, .null, .int 0, .int 0, .int 0, .int 0, .int 0, .null, .null, .int 0, .null, .null, .null, .null, .null])), (a7_1, .inl (cy 2, 10, .inr (.inl (fun _ => 0)))), (a15_2, .inl (cy 0, 10, .inl (fun _ => 0))), (a23_3, .inl (cy 0, 10, .inl (fun _ => 0))), (a31_4, .inl (cy 0, 20, .inl (fun _ => 0)))] := hD
  refine lv_aload_n S.1 S.2.1 dX5_init_36 rfl (lv_at hl 0 rfl) ?_
  refine lv_bipush (v := 20) S.1 S.2.1 dX5_init_37 (by decide) ?_
  refine r_newa S (atype := .int) (ty := .int) rfl kw_224 hK hP hD hS hA 0 rfl (a0 := (20, .inl (fun _ => 0))) (fun _ => rfl) (by decide) (by decide) (by decide) (by decide) (by decide) dX5_init_39 (fun a39_5 H hP hD hS => ?_)
  have hP : va_P D vwCl [(a, .inr (5, [.int 0, .ref a7_1, .ref a15_2, .ref a23_3, .ref a31_4, .null, .int 0, .int 0, .int 0, .int 0, .int 0, .null, .null, .int 0, .null, .null, .null, .null, .null])), (a7_1, .inl (cy 2, 10, .inr (.inl (fun _ => 0)))), (a15_2, .inl (cy 0, 10, .inl (fun _ => 0))), (a23_3, .inl (cy 0, 10, .inl (fun _ => 0))), (a31_4, .inl (cy 0, 20, .inl (fun _ => 0))), (a39_5, .inl (cy 0, 20, .inl (fun _ => 0)))] H := hP
  have hD : va_D A [(a, .inr (5, [.int 0, .ref a7_1, .ref a15_2, .ref a23_3, .ref a31_4, .null, .int 0, .int 0, .int 0, .int 0, .int 0, .null, .null, .int 0, .null, .null, .null, .null, .null])), (a7_1, .inl (cy 2, 10, .inr (.inl (fun _ => 0)))), (a15_2, .inl (cy 0, 10, .inl (fun _ => 0))), (a23_3, .inl (cy 0, 10, .inl (fun _ => 0))), (a31_4, .inl (cy 0, 20, .inl (fun _ => 0))), (a39_5, .inl (cy 0, 20, .inl (fun _ => 0)))] := hD
  refine r_putF S hK hP hD hS 0 5 rfl rfl inX5 5 (by decide) tyX5 tyX5_ok nmX5 kw_306 (v := .ref a39_5) rfl hnm rfl rfl rfl (Nat.le_of_ble_eq_true rfl) dX5_init_41 (fun H locs hP hD hS => ?_)
  have hP : va_P D vwCl [(a, .inr (5, [.int 0, .ref a7_1, .ref a15_2, .ref a23_3, .ref a31_4, .ref a39_5, .int 0, .int 0, .int 0, .int 0, .int 0, .null, .null, .int 0, .null, .null, .null, .null, .null])), (a7_1, .inl (cy 2, 10, .inr (.inl (fun _ => 0)))), (a15_2, .inl (cy 0, 10, .inl (fun _ => 0))), (a23_3, .inl (cy 0, 10, .inl (fun _ => 0))), (a31_4, .inl (cy 0, 20, .inl (fun _ => 0))), (a39_5, .inl (cy 0, 20, .inl (fun _ => 0)))] H := hP
  have hD : va_D A [(a, .inr (5, [.int 0, .ref a7_1, .ref a15_2, .ref a23_3, .ref a31_4, .ref a39_5, .int 0, .int 0, .int 0, .int 0, .int 0, .null, .null, .int 0, .null, .null, .null, .null, .null])), (a7_1, .inl (cy 2, 10, .inr (.inl (fun _ => 0)))), (a15_2, .inl (cy 0, 10, .inl (fun _ => 0))), (a23_3, .inl (cy 0, 10, .inl (fun _ => 0))), (a31_4, .inl (cy 0, 20, .inl (fun _ => 0))), (a39_5, .inl (cy 0, 20, .inl (fun _ => 0)))] := hD
  refine lv_aload_n S.1 S.2.1 dX5_init_44 rfl (lv_at hl 0 rfl) ?_
  refine lv_bipush (v := 10) S.1 S.2.1 dX5_init_45 (by decide) ?_
  refine r_put S hK hP hD hS 0 5 rfl rfl inX5 7 (by decide) tyX5 tyX5_ok nmX5 kw_309 (v := .int 10) rfl rfl rfl (Nat.le_of_ble_eq_true rfl) dX5_init_47 (fun H locs hP hD hS => ?_)
  have hP : va_P D vwCl [(a, .inr (5, [.int 0, .ref a7_1, .ref a15_2, .ref a23_3, .ref a31_4, .ref a39_5, .int 0, .int 10, .int 0, .int 0, .int 0, .null, .null, .int 0, .null, .null, .null, .null, .null])), (a7_1, .inl (cy 2, 10, .inr (.inl (fun _ => 0)))), (a15_2, .inl (cy 0, 10, .inl (fun _ => 0))), (a23_3, .inl (cy 0, 10, .inl (fun _ => 0))), (a31_4, .inl (cy 0, 20, .inl (fun _ => 0))), (a39_5, .inl (cy 0, 20, .inl (fun _ => 0)))] H := hP
  have hD : va_D A [(a, .inr (5, [.int 0, .ref a7_1, .ref a15_2, .ref a23_3, .ref a31_4, .ref a39_5, .int 0, .int 10, .int 0, .int 0, .int 0, .null, .null, .int 0, .null, .null, .null, .null, .null])), (a7_1, .inl (cy 2, 10, .inr (.inl (fun _ => 0)))), (a15_2, .inl (cy 0, 10, .inl (fun _ => 0))), (a23_3, .inl (cy 0, 10, .inl (fun _ => 0))), (a31_4, .inl (cy 0, 20, .inl (fun _ => 0))), (a39_5, .inl (cy 0, 20, .inl (fun _ => 0)))] := hD
  refine lv_aload_n S.1 S.2.1 dX5_init_50 rfl (lv_at hl 0 rfl) ?_
  refine lv_bipush (v := 20) S.1 S.2.1 dX5_init_51 (by decide) ?_
  refine r_put S hK hP hD hS 0 5 rfl rfl inX5 8 (by decide) tyX5 tyX5_ok nmX5 kw_312 (v := .int 20) rfl rfl rfl (Nat.le_of_ble_eq_true rfl) dX5_init_53 (fun H locs hP hD hS => ?_)
  have hP : va_P D vwCl [(a, .inr (5, [.int 0, .ref a7_1, .ref a15_2, .ref a23_3, .ref a31_4, .ref a39_5, .int 0, .int 10, .int 20, .int 0, .int 0, .null, .null, .int 0, .null, .null, .null, .null, .null])), (a7_1, .inl (cy 2, 10, .inr (.inl (fun _ => 0)))), (a15_2, .inl (cy 0, 10, .inl (fun _ => 0))), (a23_3, .inl (cy 0, 10, .inl (fun _ => 0))), (a31_4, .inl (cy 0, 20, .inl (fun _ => 0))), (a39_5, .inl (cy 0, 20, .inl (fun _ => 0)))] H := hP
  have hD : va_D A [(a, .inr (5, [.int 0, .ref a7_1, .ref a15_2, .ref a23_3, .ref a31_4, .ref a39_5, .int 0, .int 10, .int 20, .int 0, .int 0, .null, .null, .int 0, .null, .null, .null, .null, .null])), (a7_1, .inl (cy 2, 10, .inr (.inl (fun _ => 0)))), (a15_2, .inl (cy 0, 10, .inl (fun _ => 0))), (a23_3, .inl (cy 0, 10, .inl (fun _ => 0))), (a31_4, .inl (cy 0, 20, .inl (fun _ => 0))), (a39_5, .inl (cy 0, 20, .inl (fun _ => 0)))] := hD
  refine lv_aload_n S.1 S.2.1 dX5_init_56 rfl (lv_at hl 0 rfl) ?_
  refine lv_bipush (v := 10) S.1 S.2.1 dX5_init_57 (by decide) ?_
  refine r_newa S (atype := .int) (ty := .int) rfl kw_224 hK hP hD hS hA 0 rfl (a0 := (10, .inl (fun _ => 0))) (fun _ => rfl) (by decide) (by decide) (by decide) (by decide) (by decide) dX5_init_59 (fun a59_6 H hP hD hS => ?_)
  have hP : va_P D vwCl [(a, .inr (5, [.int 0, .ref a7_1, .ref a15_2, .ref a23_3, .ref a31_4, .ref a39_5, .int 0, .int 10, .int 20, .int 0, .int 0, .null, .null, .int 0, .null, .null, .null, .null, .null])), (a7_1, .inl (cy 2, 10, .inr (.inl (fun _ => 0)))), (a15_2, .inl (cy 0, 10, .inl (fun _ => 0))), (a23_3, .inl (cy 0, 10, .inl (fun _ => 0))), (a31_4, .inl (cy 0, 20, .inl (fun _ => 0))), (a39_5, .inl (cy 0, 20, .inl (fun _ => 0))), (a59_6, .inl (cy 0, 10, .inl (fun _ => 0)))] H := hP
  have hD : va_D A [(a, .inr (5, [.int 0, .ref a7_1, .ref a15_2, .ref a23_3, .ref a31_4, .ref a39_5, .int 0, .int 10, .int 20, .int 0, .int 0, .null, .null, .int 0, .null, .null, .null, .null, .null])), (a7_1, .inl (cy 2, 10, .inr (.inl (fun _ => 0)))), (a15_2, .inl (cy 0, 10, .inl (fun _ => 0))), (a23_3, .inl (cy 0, 10, .inl (fun _ => 0))), (a31_4, .inl (cy 0, 20, .inl (fun _ => 0))), (a39_5, .inl (cy 0, 20, .inl (fun _ => 0))), (a59_6, .inl (cy 0, 10, .inl (fun _ => 0)))] := hD
  refine r_putF S hK hP hD hS 0 5 rfl rfl inX5 11 (by decide) tyX5 tyX5_ok nmX5 kw_319 (v := .ref a59_6) rfl hnm rfl rfl rfl (Nat.le_of_ble_eq_true rfl) dX5_init_61 (fun H locs hP hD hS => ?_)
  have hP : va_P D vwCl [(a, .inr (5, [.int 0, .ref a7_1, .ref a15_2, .ref a23_3, .ref a31_4, .ref a39_5, .int 0, .int 10, .int 20, .int 0, .int 0, .ref a59_6, .null, .int 0, .null, .null, .null, .null, .null])), (a7_1, .inl (cy 2, 10, .inr (.inl (fun _ => 0)))), (a15_2, .inl (cy 0, 10, .inl (fun _ => 0))), (a23_3, .inl (cy 0, 10, .inl (fun _ => 0))), (a31_4, .inl (cy 0, 20, .inl (fun _ => 0))), (a39_5, .inl (cy 0, 20, .inl (fun _ => 0))), (a59_6, .inl (cy 0, 10, .inl (fun _ => 0)))] H := hP
  have hD : va_D A [(a, .inr (5, [.int 0, .ref a7_1, .ref a15_2, .ref a23_3, .ref a31_4, .ref a39_5, .int 0, .int 10, .int 20, .int 0, .int 0, .ref a59_6, .null, .int 0, .null, .null, .null, .null, .null])), (a7_1, .inl (cy 2, 10, .inr (.inl (fun _ => 0)))), (a15_2, .inl (cy 0, 10, .inl (fun _ => 0))), (a23_3, .inl (cy 0, 10, .inl (fun _ => 0))), (a31_4, .inl (cy 0, 20, .inl (fun _ => 0))), (a39_5, .inl (cy 0, 20, .inl (fun _ => 0))), (a59_6, .inl (cy 0, 10, .inl (fun _ => 0)))] := hD
  refine lv_aload_n S.1 S.2.1 dX5_init_64 rfl (lv_at hl 0 rfl) ?_
  refine lv_bipush (v := 10) S.1 S.2.1 dX5_init_65 (by decide) ?_
  refine r_newa S (atype := .int) (ty := .int) rfl kw_224 hK hP hD hS hA 0 rfl (a0 := (10, .inl (fun _ => 0))) (fun _ => rfl) (by decide) (by decide) (by decide) (by decide) (by decide) dX5_init_67 (fun a67_7 H hP hD hS => ?_)
  have hP : va_P D vwCl [(a, .inr (5, [.int 0, .ref a7_1, .ref a15_2, .ref a23_3, .ref a31_4, .ref a39_5, .int 0, .int 10, .int 20, .int 0, .int 0, .ref a59_6, .null, .int 0, .null, .null, .null, .null, .null])), (a7_1, .inl (cy 2, 10, .inr (.inl (fun _ => 0)))), (a15_2, .inl (cy 0, 10, .inl (fun _ => 0))), (a23_3, .inl (cy 0, 10, .inl (fun _ => 0))), (a31_4, .inl (cy 0, 20, .inl (fun _ => 0))), (a39_5, .inl (cy 0, 20, .inl (fun _ => 0))), (a59_6, .inl (cy 0, 10, .inl (fun _ => 0))), (a67_7, .inl (cy 0, 10, .inl (fun _ => 0)))] H := hP
  have hD : va_D A [(a, .inr (5, [.int 0, .ref a7_1, .ref a15_2, .ref a23_3, .ref a31_4, .ref a39_5, .int 0, .int 10, .int 20, .int 0, .int 0, .ref a59_6, .null, .int 0, .null, .null, .null, .null, .null])), (a7_1, .inl (cy 2, 10, .inr (.inl (fun _ => 0)))), (a15_2, .inl (cy 0, 10, .inl (fun _ => 0))), (a23_3, .inl (cy 0, 10, .inl (fun _ => 0))), (a31_4, .inl (cy 0, 20, .inl (fun _ => 0))), (a39_5, .inl (cy 0, 20, .inl (fun _ => 0))), (a59_6, .inl (cy 0, 10, .inl (fun _ => 0))), (a67_7, .inl (cy 0, 10, .inl (fun _ => 0)))] := hD
  refine r_putF S hK hP hD hS 0 5 rfl rfl inX5 12 (by decide) tyX5 tyX5_ok nmX5 kw_322 (v := .ref a67_7) rfl hnm rfl rfl rfl (Nat.le_of_ble_eq_true rfl) dX5_init_69 (fun H locs hP hD hS => ?_)
  have hP : va_P D vwCl [(a, .inr (5, [.int 0, .ref a7_1, .ref a15_2, .ref a23_3, .ref a31_4, .ref a39_5, .int 0, .int 10, .int 20, .int 0, .int 0, .ref a59_6, .ref a67_7, .int 0, .null, .null, .null, .null, .null])), (a7_1, .inl (cy 2, 10, .inr (.inl (fun _ => 0)))), (a15_2, .inl (cy 0, 10, .inl (fun _ => 0))), (a23_3, .inl (cy 0, 10, .inl (fun _ => 0))), (a31_4, .inl (cy 0, 20, .inl (fun _ => 0))), (a39_5, .inl (cy 0, 20, .inl (fun _ => 0))), (a59_6, .inl (cy 0, 10, .inl (fun _ => 0))), (a67_7, .inl (cy 0, 10, .inl (fun _ => 0)))] H := hP
  have hD : va_D A [(a, .inr (5, [.int 0, .ref a7_1, .ref a15_2, .ref a23_3, .ref a31_4, .ref a39_5, .int 0, .int 10, .int 20, .int 0, .int 0, .ref a59_6, .ref a67_7, .int 0, .null, .null, .null, .null, .null])), (a7_1, .inl (cy 2, 10, .inr (.inl (fun _ => 0)))), (a15_2, .inl (cy 0, 10, .inl (fun _ => 0))), (a23_3, .inl (cy 0, 10, .inl (fun _ => 0))), (a31_4, .inl (cy 0, 20, .inl (fun _ => 0))), (a39_5, .inl (cy 0, 20, .inl (fun _ => 0))), (a59_6, .inl (cy 0, 10, .inl (fun _ => 0))), (a67_7, .inl (cy 0, 10, .inl (fun _ => 0)))] := hD
  refine lv_aload_n S.1 S.2.1 dX5_init_72 rfl (lv_at hl 0 rfl) ?_
  refine lv_bipush (v := 24) S.1 S.2.1 dX5_init_73 (by decide) ?_
  refine r_newa S (atype := .int) (ty := .int) rfl kw_224 hK hP hD hS hA 0 rfl (a0 := (24, .inl (fun _ => 0))) (fun _ => rfl) (by decide) (by decide) (by decide) (by decide) (by decide) dX5_init_75 (fun a75_8 H hP hD hS => ?_)
  have hP : va_P D vwCl [(a, .inr (5, [.int 0, .ref a7_1, .ref a15_2, .ref a23_3, .ref a31_4, .ref a39_5, .int 0, .int 10, .int 20, .int 0, .int 0, .ref a59_6, .ref a67_7, .int 0, .null, .null, .null, .null, .null])), (a7_1, .inl (cy 2, 10, .inr (.inl (fun _ => 0)))), (a15_2, .inl (cy 0, 10, .inl (fun _ => 0))), (a23_3, .inl (cy 0, 10, .inl (fun _ => 0))), (a31_4, .inl (cy 0, 20, .inl (fun _ => 0))), (a39_5, .inl (cy 0, 20, .inl (fun _ => 0))), (a59_6, .inl (cy 0, 10, .inl (fun _ => 0))), (a67_7, .inl (cy 0, 10, .inl (fun _ => 0))), (a75_8, .inl (cy 0, 24, .inl (fun _ => 0)))] H := hP
  have hD : va_D A [(a, .inr (5, [.int 0, .ref a7_1, .ref a15_2, .ref a23_3, .ref a31_4, .ref a39_5, .int 0, .int 10, .int 20, .int 0, .int 0, .ref a59_6, .ref a67_7, .int 0, .null, .null, .null, .null, .null])), (a7_1, .inl (cy 2, 10, .inr (.inl (fun _ => 0)))), (a15_2, .inl (cy 0, 10, .inl (fun _ => 0))), (a23_3, .inl (cy 0, 10, .inl (fun _ => 0))), (a31_4, .inl (cy 0, 20, .inl (fun _ => 0))), (a39_5, .inl (cy 0, 20, .inl (fun _ => 0))), (a59_6, .inl (cy 0, 10, .inl (fun _ => 0))), (a67_7, .inl (cy 0, 10, .inl (fun _ => 0))), (a75_8, .inl (cy 0, 24, .inl (fun _ => 0)))] := hD
  refine r_putF S hK hP hD hS 0 5 rfl rfl inX5 14 (by decide) tyX5 tyX5_ok nmX5 kw_327 (v := .ref a75_8) rfl hnm rfl rfl rfl (Nat.le_of_ble_eq_true rfl) dX5_init_77 (fun H locs hP hD hS => ?_)
  have hP : va_P D vwCl [(a, .inr (5, [.int 0, .ref a7_1, .ref a15_2, .ref a23_3, .ref a31_4, .ref a39_5, .int 0, .int 10, .int 20, .int 0, .int 0, .ref a59_6, .ref a67_7, .int 0, .ref a75_8, .null, .null, .null, .null])), (a7_1, .inl (cy 2, 10, .inr (.inl (fun _ => 0)))), (a15_2, .inl (cy 0, 10, .inl (fun _ => 0))), (a23_3, .inl (cy 0, 10, .inl (fun _ => 0))), (a31_4, .inl (cy 0, 20, .inl (fun _ => 0))), (a39_5, .inl (cy 0, 20, .inl (fun _ => 0))), (a59_6, .inl (cy 0, 10, .inl (fun _ => 0))), (a67_7, .inl (cy 0, 10, .inl (fun _ => 0))), (a75_8, .inl (cy 0, 24, .inl (fun _ => 0)))] H := hP
  have hD : va_D A [(a, .inr (5, [.int 0, .ref a7_1, .ref a15_2, .ref a23_3, .ref a31_4, .ref a39_5, .int 0, .int 10, .int 20, .int 0, .int 0, .ref a59_6, .ref a67_7, .int 0, .ref a75_8, .null, .null, .null, .null])), (a7_1, .inl (cy 2, 10, .inr (.inl (fun _ => 0)))), (a15_2, .inl (cy 0, 10, .inl (fun _ => 0))), (a23_3, .inl (cy 0, 10, .inl (fun _ => 0))), (a31_4, .inl (cy 0, 20, .inl (fun _ => 0))), (a39_5, .inl (cy 0, 20, .inl (fun _ => 0))), (a59_6, .inl (cy 0, 10, .inl (fun _ => 0))), (a67_7, .inl (cy 0, 10, .inl (fun _ => 0))), (a75_8, .inl (cy 0, 24, .inl (fun _ => 0)))] := hD
  refine lv_aload_n S.1 S.2.1 dX5_init_80 rfl (lv_at hl 0 rfl) ?_
  refine lv_bipush (v := 24) S.1 S.2.1 dX5_init_81 (by decide) ?_
  refine r_newa S (atype := .int) (ty := .int) rfl kw_224 hK hP hD hS hA 0 rfl (a0 := (24, .inl (fun _ => 0))) (fun _ => rfl) (by decide) (by decide) (by decide) (by decide) (by decide) dX5_init_83 (fun a83_9 H hP hD hS => ?_)
  have hP : va_P D vwCl [(a, .inr (5, [.int 0, .ref a7_1, .ref a15_2, .ref a23_3, .ref a31_4, .ref a39_5, .int 0, .int 10, .int 20, .int 0, .int 0, .ref a59_6, .ref a67_7, .int 0, .ref a75_8, .null, .null, .null, .null])), (a7_1, .inl (cy 2, 10, .inr (.inl (fun _ => 0)))), (a15_2, .inl (cy 0, 10, .inl (fun _ => 0))), (a23_3, .inl (cy 0, 10, .inl (fun _ => 0))), (a31_4, .inl (cy 0, 20, .inl (fun _ => 0))), (a39_5, .inl (cy 0, 20, .inl (fun _ => 0))), (a59_6, .inl (cy 0, 10, .inl (fun _ => 0))), (a67_7, .inl (cy 0, 10, .inl (fun _ => 0))), (a75_8, .inl (cy 0, 24, .inl (fun _ => 0))), (a83_9, .inl (cy 0, 24, .inl (fun _ => 0)))] H := hP
  have hD : va_D A [(a, .inr (5, [.int 0, .ref a7_1, .ref a15_2, .ref a23_3, .ref a31_4, .ref a39_5, .int 0, .int 10, .int 20, .int 0, .int 0, .ref a59_6, .ref a67_7, .int 0, .ref a75_8, .null, .null, .null, .null])), (a7_1, .inl (cy 2, 10, .inr (.inl (fun _ => 0)))), (a15_2, .inl (cy 0, 10, .inl (fun _ => 0))), (a23_3, .inl (cy 0, 10, .inl (fun _ => 0))), (a31_4, .inl (cy 0, 20, .inl (fun _ => 0))), (a39_5, .inl (cy 0, 20, .inl (fun _ => 0))), (a59_6, .inl (cy 0, 10, .inl (fun _ => 0))), (a67_7, .inl (cy 0, 10, .inl (fun _ => 0))), (a75_8, .inl (cy 0, 24, .inl (fun _ => 0))), (a83_9, .inl (cy 0, 24, .inl (fun _ => 0)))] := hD
  refine r_putF S hK hP hD hS 0 5 rfl rfl inX5 15 (by decide) tyX5 tyX5_ok nmX5 kw_329 (v := .ref a83_9) rfl hnm rfl rfl rfl (Nat.le_of_ble_eq_true rfl) dX5_init_85 (fun H locs hP hD hS => ?_)
  have hP : va_P D vwCl [(a, .inr (5, [.int 0, .ref a7_1, .ref a15_2, .ref a23_3, .ref a31_4, .ref a39_5, .int 0, .int 10, .int 20, .int 0, .int 0, .ref a59_6, .ref a67_7, .int 0, .ref a75_8, .ref a83_9, .null, .null, .null])), (a7_1, .inl (cy 2, 10, .inr (.inl (fun _ => 0)))), (a15_2, .inl (cy 0, 10, .inl (fun _ => 0))), (a23_3, .inl (cy 0, 10, .inl (fun _ => 0))), (a31_4, .inl (cy 0, 20, .inl (fun _ => 0))), (a39_5, .inl (cy 0, 20, .inl (fun _ => 0))), (a59_6, .inl (cy 0, 10, .inl (fun _ => 0))), (a67_7, .inl (cy 0, 10, .inl (fun _ => 0))), (a75_8, .inl (cy 0, 24, .inl (fun _ => 0))), (a83_9, .inl (cy 0, 24, .inl (fun _ => 0)))] H := hP
  have hD : va_D A [(a, .inr (5, [.int 0, .ref a7_1, .ref a15_2, .ref a23_3, .ref a31_4, .ref a39_5, .int 0, .int 10, .int 20, .int 0, .int 0, .ref a59_6, .ref a67_7, .int 0, .ref a75_8, .ref a83_9, .null, .null, .null])), (a7_1, .inl (cy 2, 10, .inr (.inl (fun _ => 0)))), (a15_2, .inl (cy 0, 10, .inl (fun _ => 0))), (a23_3, .inl (cy 0, 10, .inl (fun _ => 0))), (a31_4, .inl (cy 0, 20, .inl (fun _ => 0))), (a39_5, .inl (cy 0, 20, .inl (fun _ => 0))), (a59_6, .inl (cy 0, 10, .inl (fun _ => 0))), (a67_7, .inl (cy 0, 10, .inl (fun _ => 0))), (a75_8, .inl (cy 0, 24, .inl (fun _ => 0))), (a83_9, .inl (cy 0, 24, .inl (fun _ => 0)))] := hD
  refine lv_aload_n S.1 S.2.1 dX5_init_88 rfl (lv_at hl 0 rfl) ?_
  refine lv_bipush (v := 24) S.1 S.2.1 dX5_init_89 (by decide) ?_
  refine r_newa S (atype := .int) (ty := .int) rfl kw_224 hK hP hD hS hA 0 rfl (a0 := (24, .inl (fun _ => 0))) (fun _ => rfl) (by decide) (by decide) (by decide) (by decide) (by decide) dX5_init_91 (fun a91_10 H hP hD hS => ?_)
  have hP : va_P D vwCl [(a, .inr (5, [.int 0, .ref a7_1, .ref a15_2, .ref a23_3, .ref a31_4, .ref a39_5, .int 0, .int 10, .int 20, .int 0, .int 0, .ref a59_6, .ref a67_7, .int 0, .ref a75_8, .ref a83_9, .null, .null, .null])), (a7_1, .inl (cy 2, 10, .inr (.inl (fun _ => 0)))), (a15_2, .inl (cy 0, 10, .inl (fun _ => 0))), (a23_3, .inl (cy 0, 10, .inl (fun _ => 0))), (a31_4, .inl (cy 0, 20, .inl (fun _ => 0))), (a39_5, .inl (cy 0, 20, .inl (fun _ => 0))), (a59_6, .inl (cy 0, 10, .inl (fun _ => 0))), (a67_7, .inl (cy 0, 10, .inl (fun _ => 0))), (a75_8, .inl (cy 0, 24, .inl (fun _ => 0))), (a83_9, .inl (cy 0, 24, .inl (fun _ => 0))), (a91_10, .inl (cy 0, 24, .inl (fun _ => 0)))] H := hP
  have hD : va_D A [(a, .inr (5, [.int 0, .ref a7_1, .ref a15_2, .ref a23_3, .ref a31_4, .ref a39_5, .int 0, .int 10, .int 20, .int 0, .int 0, .ref a59_6, .ref a67_7, .int 0, .ref a75_8, .ref a83_9, .null, .null, .null])), (a7_1, .inl (cy 2, 10, .inr (.inl (fun _ => 0)))), (a15_2, .inl (cy 0, 10, .inl (fun _ => 0))), (a23_3, .inl (cy 0, 10, .inl (fun _ => 0))), (a31_4, .inl (cy 0, 20, .inl (fun _ => 0))), (a39_5, .inl (cy 0, 20, .inl (fun _ => 0))), (a59_6, .inl (cy 0, 10, .inl (fun _ => 0))), (a67_7, .inl (cy 0, 10, .inl (fun _ => 0))), (a75_8, .inl (cy 0, 24, .inl (fun _ => 0))), (a83_9, .inl (cy 0, 24, .inl (fun _ => 0))), (a91_10, .inl (cy 0, 24, .inl (fun _ => 0)))] := hD
  refine r_putF S hK hP hD hS 0 5 rfl rfl inX5 16 (by decide) tyX5 tyX5_ok nmX5 kw_332 (v := .ref a91_10) rfl hnm rfl rfl rfl (Nat.le_of_ble_eq_true rfl) dX5_init_93 (fun H locs hP hD hS => ?_)
  have hP : va_P D vwCl [(a, .inr (5, [.int 0, .ref a7_1, .ref a15_2, .ref a23_3, .ref a31_4, .ref a39_5, .int 0, .int 10, .int 20, .int 0, .int 0, .ref a59_6, .ref a67_7, .int 0, .ref a75_8, .ref a83_9, .ref a91_10, .null, .null])), (a7_1, .inl (cy 2, 10, .inr (.inl (fun _ => 0)))), (a15_2, .inl (cy 0, 10, .inl (fun _ => 0))), (a23_3, .inl (cy 0, 10, .inl (fun _ => 0))), (a31_4, .inl (cy 0, 20, .inl (fun _ => 0))), (a39_5, .inl (cy 0, 20, .inl (fun _ => 0))), (a59_6, .inl (cy 0, 10, .inl (fun _ => 0))), (a67_7, .inl (cy 0, 10, .inl (fun _ => 0))), (a75_8, .inl (cy 0, 24, .inl (fun _ => 0))), (a83_9, .inl (cy 0, 24, .inl (fun _ => 0))), (a91_10, .inl (cy 0, 24, .inl (fun _ => 0)))] H := hP
  have hD : va_D A [(a, .inr (5, [.int 0, .ref a7_1, .ref a15_2, .ref a23_3, .ref a31_4, .ref a39_5, .int 0, .int 10, .int 20, .int 0, .int 0, .ref a59_6, .ref a67_7, .int 0, .ref a75_8, .ref a83_9, .ref a91_10, .null, .null])), (a7_1, .inl (cy 2, 10, .inr (.inl (fun _ => 0)))), (a15_2, .inl (cy 0, 10, .inl (fun _ => 0))), (a23_3, .inl (cy 0, 10, .inl (fun _ => 0))), (a31_4, .inl (cy 0, 20, .inl (fun _ => 0))), (a39_5, .inl (cy 0, 20, .inl (fun _ => 0))), (a59_6, .inl (cy 0, 10, .inl (fun _ => 0))), (a67_7, .inl (cy 0, 10, .inl (fun _ => 0))), (a75_8, .inl (cy 0, 24, .inl (fun _ => 0))), (a83_9, .inl (cy 0, 24, .inl (fun _ => 0))), (a91_10, .inl (cy 0, 24, .inl (fun _ => 0)))] := hD
  refine lv_aload_n S.1 S.2.1 dX5_init_96 rfl (lv_at hl 0 rfl) ?_
  refine lv_iconst (v := 0) S.1 S.2.1 dX5_init_97 (by decide) ?_
  refine r_newa S (atype := .int) (ty := .int) rfl kw_224 hK hP hD hS hA 0 rfl (a0 := (0, .inl (fun _ => 0))) (fun _ => rfl) (by decide) (by decide) (by decide) (by decide) (by decide) dX5_init_98 (fun a98_11 H hP hD hS => ?_)
  have hP : va_P D vwCl [(a, .inr (5, [.int 0, .ref a7_1, .ref a15_2, .ref a23_3, .ref a31_4, .ref a39_5, .int 0, .int 10, .int 20, .int 0, .int 0, .ref a59_6, .ref a67_7, .int 0, .ref a75_8, .ref a83_9, .ref a91_10, .null, .null])), (a7_1, .inl (cy 2, 10, .inr (.inl (fun _ => 0)))), (a15_2, .inl (cy 0, 10, .inl (fun _ => 0))), (a23_3, .inl (cy 0, 10, .inl (fun _ => 0))), (a31_4, .inl (cy 0, 20, .inl (fun _ => 0))), (a39_5, .inl (cy 0, 20, .inl (fun _ => 0))), (a59_6, .inl (cy 0, 10, .inl (fun _ => 0))), (a67_7, .inl (cy 0, 10, .inl (fun _ => 0))), (a75_8, .inl (cy 0, 24, .inl (fun _ => 0))), (a83_9, .inl (cy 0, 24, .inl (fun _ => 0))), (a91_10, .inl (cy 0, 24, .inl (fun _ => 0))), (a98_11, .inl (cy 0, 0, .inl (fun _ => 0)))] H := hP
  have hD : va_D A [(a, .inr (5, [.int 0, .ref a7_1, .ref a15_2, .ref a23_3, .ref a31_4, .ref a39_5, .int 0, .int 10, .int 20, .int 0, .int 0, .ref a59_6, .ref a67_7, .int 0, .ref a75_8, .ref a83_9, .ref a91_10, .null, .null])), (a7_1, .inl (cy 2, 10, .inr (.inl (fun _ => 0)))), (a15_2, .inl (cy 0, 10, .inl (fun _ => 0))), (a23_3, .inl (cy 0, 10, .inl (fun _ => 0))), (a31_4, .inl (cy 0, 20, .inl (fun _ => 0))), (a39_5, .inl (cy 0, 20, .inl (fun _ => 0))), (a59_6, .inl (cy 0, 10, .inl (fun _ => 0))), (a67_7, .inl (cy 0, 10, .inl (fun _ => 0))), (a75_8, .inl (cy 0, 24, .inl (fun _ => 0))), (a83_9, .inl (cy 0, 24, .inl (fun _ => 0))), (a91_10, .inl (cy 0, 24, .inl (fun _ => 0))), (a98_11, .inl (cy 0, 0, .inl (fun _ => 0)))] := hD
  refine r_put S hK hP hD hS 0 5 rfl rfl inX5 17 (by decide) tyX5 tyX5_ok nmX5 kw_334 (v := .ref a98_11) rfl rfl rfl (Nat.le_of_ble_eq_true rfl) dX5_init_100 (fun H locs hP hD hS => ?_)
  have hP : va_P D vwCl [(a, .inr (5, [.int 0, .ref a7_1, .ref a15_2, .ref a23_3, .ref a31_4, .ref a39_5, .int 0, .int 10, .int 20, .int 0, .int 0, .ref a59_6, .ref a67_7, .int 0, .ref a75_8, .ref a83_9, .ref a91_10, .ref a98_11, .null])), (a7_1, .inl (cy 2, 10, .inr (.inl (fun _ => 0)))), (a15_2, .inl (cy 0, 10, .inl (fun _ => 0))), (a23_3, .inl (cy 0, 10, .inl (fun _ => 0))), (a31_4, .inl (cy 0, 20, .inl (fun _ => 0))), (a39_5, .inl (cy 0, 20, .inl (fun _ => 0))), (a59_6, .inl (cy 0, 10, .inl (fun _ => 0))), (a67_7, .inl (cy 0, 10, .inl (fun _ => 0))), (a75_8, .inl (cy 0, 24, .inl (fun _ => 0))), (a83_9, .inl (cy 0, 24, .inl (fun _ => 0))), (a91_10, .inl (cy 0, 24, .inl (fun _ => 0))), (a98_11, .inl (cy 0, 0, .inl (fun _ => 0)))] H := hP
  have hD : va_D A [(a, .inr (5, [.int 0, .ref a7_1, .ref a15_2, .ref a23_3, .ref a31_4, .ref a39_5, .int 0, .int 10, .int 20, .int 0, .int 0, .ref a59_6, .ref a67_7, .int 0, .ref a75_8, .ref a83_9, .ref a91_10, .ref a98_11, .null])), (a7_1, .inl (cy 2, 10, .inr (.inl (fun _ => 0)))), (a15_2, .inl (cy 0, 10, .inl (fun _ => 0))), (a23_3, .inl (cy 0, 10, .inl (fun _ => 0))), (a31_4, .inl (cy 0, 20, .inl (fun _ => 0))), (a39_5, .inl (cy 0, 20, .inl (fun _ => 0))), (a59_6, .inl (cy 0, 10, .inl (fun _ => 0))), (a67_7, .inl (cy 0, 10, .inl (fun _ => 0))), (a75_8, .inl (cy 0, 24, .inl (fun _ => 0))), (a83_9, .inl (cy 0, 24, .inl (fun _ => 0))), (a91_10, .inl (cy 0, 24, .inl (fun _ => 0))), (a98_11, .inl (cy 0, 0, .inl (fun _ => 0)))] := hD
  refine lv_aload_n S.1 S.2.1 dX5_init_103 rfl (lv_at hl 0 rfl) ?_
  refine lv_bipush (v := 32) S.1 S.2.1 dX5_init_104 (by decide) ?_
  refine r_newa S (atype := .int) (ty := .int) rfl kw_224 hK hP hD hS hA 0 rfl (a0 := (32, .inl (fun _ => 0))) (fun _ => rfl) (by decide) (by decide) (by decide) (by decide) (by decide) dX5_init_106 (fun a106_12 H hP hD hS => ?_)
  have hP : va_P D vwCl [(a, .inr (5, [.int 0, .ref a7_1, .ref a15_2, .ref a23_3, .ref a31_4, .ref a39_5, .int 0, .int 10, .int 20, .int 0, .int 0, .ref a59_6, .ref a67_7, .int 0, .ref a75_8, .ref a83_9, .ref a91_10, .ref a98_11, .null])), (a7_1, .inl (cy 2, 10, .inr (.inl (fun _ => 0)))), (a15_2, .inl (cy 0, 10, .inl (fun _ => 0))), (a23_3, .inl (cy 0, 10, .inl (fun _ => 0))), (a31_4, .inl (cy 0, 20, .inl (fun _ => 0))), (a39_5, .inl (cy 0, 20, .inl (fun _ => 0))), (a59_6, .inl (cy 0, 10, .inl (fun _ => 0))), (a67_7, .inl (cy 0, 10, .inl (fun _ => 0))), (a75_8, .inl (cy 0, 24, .inl (fun _ => 0))), (a83_9, .inl (cy 0, 24, .inl (fun _ => 0))), (a91_10, .inl (cy 0, 24, .inl (fun _ => 0))), (a98_11, .inl (cy 0, 0, .inl (fun _ => 0))), (a106_12, .inl (cy 0, 32, .inl (fun _ => 0)))] H := hP
  have hD : va_D A [(a, .inr (5, [.int 0, .ref a7_1, .ref a15_2, .ref a23_3, .ref a31_4, .ref a39_5, .int 0, .int 10, .int 20, .int 0, .int 0, .ref a59_6, .ref a67_7, .int 0, .ref a75_8, .ref a83_9, .ref a91_10, .ref a98_11, .null])), (a7_1, .inl (cy 2, 10, .inr (.inl (fun _ => 0)))), (a15_2, .inl (cy 0, 10, .inl (fun _ => 0))), (a23_3, .inl (cy 0, 10, .inl (fun _ => 0))), (a31_4, .inl (cy 0, 20, .inl (fun _ => 0))), (a39_5, .inl (cy 0, 20, .inl (fun _ => 0))), (a59_6, .inl (cy 0, 10, .inl (fun _ => 0))), (a67_7, .inl (cy 0, 10, .inl (fun _ => 0))), (a75_8, .inl (cy 0, 24, .inl (fun _ => 0))), (a83_9, .inl (cy 0, 24, .inl (fun _ => 0))), (a91_10, .inl (cy 0, 24, .inl (fun _ => 0))), (a98_11, .inl (cy 0, 0, .inl (fun _ => 0))), (a106_12, .inl (cy 0, 32, .inl (fun _ => 0)))] := hD
  refine r_putF S hK hP hD hS 0 5 rfl rfl inX5 18 (by decide) tyX5 tyX5_ok nmX5 kw_336 (v := .ref a106_12) rfl hnm rfl rfl rfl (Nat.le_of_ble_eq_true rfl) dX5_init_108 (fun H locs hP hD hS => ?_)
  have hP : va_P D vwCl [(a, .inr (5, [.int 0, .ref a7_1, .ref a15_2, .ref a23_3, .ref a31_4, .ref a39_5, .int 0, .int 10, .int 20, .int 0, .int 0, .ref a59_6, .ref a67_7, .int 0, .ref a75_8, .ref a83_9, .ref a91_10, .ref a98_11, .ref a106_12])), (a7_1, .inl (cy 2, 10, .inr (.inl (fun _ => 0)))), (a15_2, .inl (cy 0, 10, .inl (fun _ => 0))), (a23_3, .inl (cy 0, 10, .inl (fun _ => 0))), (a31_4, .inl (cy 0, 20, .inl (fun _ => 0))), (a39_5, .inl (cy 0, 20, .inl (fun _ => 0))), (a59_6, .inl (cy 0, 10, .inl (fun _ => 0))), (a67_7, .inl (cy 0, 10, .inl (fun _ => 0))), (a75_8, .inl (cy 0, 24, .inl (fun _ => 0))), (a83_9, .inl (cy 0, 24, .inl (fun _ => 0))), (a91_10, .inl (cy 0, 24, .inl (fun _ => 0))), (a98_11, .inl (cy 0, 0, .inl (fun _ => 0))), (a106_12, .inl (cy 0, 32, .inl (fun _ => 0)))] H := hP
  have hD : va_D A [(a, .inr (5, [.int 0, .ref a7_1, .ref a15_2, .ref a23_3, .ref a31_4, .ref a39_5, .int 0, .int 10, .int 20, .int 0, .int 0, .ref a59_6, .ref a67_7, .int 0, .ref a75_8, .ref a83_9, .ref a91_10, .ref a98_11, .ref a106_12])), (a7_1, .inl (cy 2, 10, .inr (.inl (fun _ => 0)))), (a15_2, .inl (cy 0, 10, .inl (fun _ => 0))), (a23_3, .inl (cy 0, 10, .inl (fun _ => 0))), (a31_4, .inl (cy 0, 20, .inl (fun _ => 0))), (a39_5, .inl (cy 0, 20, .inl (fun _ => 0))), (a59_6, .inl (cy 0, 10, .inl (fun _ => 0))), (a67_7, .inl (cy 0, 10, .inl (fun _ => 0))), (a75_8, .inl (cy 0, 24, .inl (fun _ => 0))), (a83_9, .inl (cy 0, 24, .inl (fun _ => 0))), (a91_10, .inl (cy 0, 24, .inl (fun _ => 0))), (a98_11, .inl (cy 0, 0, .inl (fun _ => 0))), (a106_12, .inl (cy 0, 32, .inl (fun _ => 0)))] := hD
  refine lv_aload_n S.1 S.2.1 dX5_init_111 rfl (lv_at hl 0 rfl) ?_
  refine r_get S hK hP 0 5 rfl rfl inX5 11 (by decide) kw_319 (v := .ref a59_6) rfl dX5_init_112 ?_
  refine lv_iconst (v := (-1)) S.1 S.2.1 dX5_init_115 (by decide) ?_
  refine call_v (wr := [(a, .inr (5, [.int 0, .ref a7_1, .ref a15_2, .ref a23_3, .ref a31_4, .ref a39_5, .int 0, .int 10, .int 20, .int 0, .int 0, .ref a59_6, .ref a67_7, .int 0, .ref a75_8, .ref a83_9, .ref a91_10, .ref a98_11, .ref a106_12])), (a7_1, .inl (cy 2, 10, .inr (.inl (fun _ => 0)))), (a15_2, .inl (cy 0, 10, .inl (fun _ => 0))), (a23_3, .inl (cy 0, 10, .inl (fun _ => 0))), (a31_4, .inl (cy 0, 20, .inl (fun _ => 0))), (a39_5, .inl (cy 0, 20, .inl (fun _ => 0))), (a67_7, .inl (cy 0, 10, .inl (fun _ => 0))), (a75_8, .inl (cy 0, 24, .inl (fun _ => 0))), (a83_9, .inl (cy 0, 24, .inl (fun _ => 0))), (a91_10, .inl (cy 0, 24, .inl (fun _ => 0))), (a98_11, .inl (cy 0, 0, .inl (fun _ => 0))), (a106_12, .inl (cy 0, 32, .inl (fun _ => 0)))]) (runS_C (wc := [(a59_6, .inl (cy 0, 10, .inl (fun _ => 0)))]) (As := [.ref a59_6, .int (-1)]) (rest := []) S (kJ7_fill_53178 l D cy a59_6 10 (fun _ => 0) (-1) (by omega)) hK hP hD [6] (by decide) rfl kw_293 kw_187 kw_146 kw_188 okJ7_fill_53178 rfl (by decide) hl.1 rfl (Nat.le_of_ble_eq_true rfl) dX5_init_116 (by decide)) hP hD hS hA [6] [0, 1, 2, 3, 4, 5, 7, 8, 9, 10, 11, 12] rfl rfl (by decide) (by decide) (fun u116 H locs w116 hP hD hS => ?_)
  have hP : va_P D vwCl [(a, .inr (5, [.int 0, .ref a7_1, .ref a15_2, .ref a23_3, .ref a31_4, .ref a39_5, .int 0, .int 10, .int 20, .int 0, .int 0, .ref a59_6, .ref a67_7, .int 0, .ref a75_8, .ref a83_9, .ref a91_10, .ref a98_11, .ref a106_12])), (a7_1, .inl (cy 2, 10, .inr (.inl (fun _ => 0)))), (a15_2, .inl (cy 0, 10, .inl (fun _ => 0))), (a23_3, .inl (cy 0, 10, .inl (fun _ => 0))), (a31_4, .inl (cy 0, 20, .inl (fun _ => 0))), (a39_5, .inl (cy 0, 20, .inl (fun _ => 0))), (a67_7, .inl (cy 0, 10, .inl (fun _ => 0))), (a75_8, .inl (cy 0, 24, .inl (fun _ => 0))), (a83_9, .inl (cy 0, 24, .inl (fun _ => 0))), (a91_10, .inl (cy 0, 24, .inl (fun _ => 0))), (a98_11, .inl (cy 0, 0, .inl (fun _ => 0))), (a106_12, .inl (cy 0, 32, .inl (fun _ => 0))), (a59_6, .inl (cy 0, 10, .inl (fun _ => (-1))))] H := hP
  have hD : va_D A [(a, .inr (5, [.int 0, .ref a7_1, .ref a15_2, .ref a23_3, .ref a31_4, .ref a39_5, .int 0, .int 10, .int 20, .int 0, .int 0, .ref a59_6, .ref a67_7, .int 0, .ref a75_8, .ref a83_9, .ref a91_10, .ref a98_11, .ref a106_12])), (a7_1, .inl (cy 2, 10, .inr (.inl (fun _ => 0)))), (a15_2, .inl (cy 0, 10, .inl (fun _ => 0))), (a23_3, .inl (cy 0, 10, .inl (fun _ => 0))), (a31_4, .inl (cy 0, 20, .inl (fun _ => 0))), (a39_5, .inl (cy 0, 20, .inl (fun _ => 0))), (a67_7, .inl (cy 0, 10, .inl (fun _ => 0))), (a75_8, .inl (cy 0, 24, .inl (fun _ => 0))), (a83_9, .inl (cy 0, 24, .inl (fun _ => 0))), (a91_10, .inl (cy 0, 24, .inl (fun _ => 0))), (a98_11, .inl (cy 0, 0, .inl (fun _ => 0))), (a106_12, .inl (cy 0, 32, .inl (fun _ => 0))), (a59_6, .inl (cy 0, 10, .inl (fun _ => (-1))))] := hD
  exact cv_ret (u := (a7_1, a15_2, a23_3, a31_4, a39_5, a59_6, a67_7, a75_8, a83_9, a91_10, a98_11, a106_12)) S hr hlk hK (hP.sub [0, 1, 2, 3, 4, 5, 12, 6, 7, 8, 9, 10, 11] rfl) (hD.sub [0, 1, 2, 3, 4, 5, 12, 6, 7, 8, 9, 10, 11] (by decide) rfl) hS (trivial) (by decide) (by decide) dX5_init_119
set_option maxHeartbeats 4000000 in
set_option maxRecDepth 100000 in
theorem kX3_init (l : Launch) (D : va_G) (cy : Nat → ClassId) (a : Nat) : CV l D cy yX3_init cX3_init 1 none 1 20 2 3000 [.ref a] [(a, .inr (3, [.null, .int 0, .int 0, .int 0, .int 0, .long 0, .null, .int 0, .int 0, .int 0, .int 0, .null, .int 0, .null]))] (fun (u : (Nat) × (Nat)) => True) (fun (u : (Nat) × (Nat)) => [(a, .inr (3, [.ref (u.1), .int 0, .int 0, .int 0, .int 0, .long 0, .null, .int 0, .int 0, .int 0, .int 0, .ref (u.2), .int 0, .null])), ((u.1), .inl (cy 3, 1500, .inl (fun _ => 0))), ((u.2), .inl (cy 0, 1500, .inl (fun _ => 0)))]) := by
  refine cv_go (by decide) (Nat.le_of_ble_eq_true rfl) (fun p e s m below meth c ls A hA S hr hlk hnm hP hK hD hl => ?_)
  have hS : va_S A s.heap s.heap [] := va_S.rf
  have hl : lv_has ls 1 [(0, .ref a)] := hl
  refine lv_aload_n S.1 S.2.1 dX3_init_0 rfl (lv_at hl 0 rfl) ?_
  refine r_oinit S kw_233 kw_178 kw_oi hl.1 dX3_init_1 (by decide) (Nat.le_of_ble_eq_true rfl) ?_
  refine lv_aload_n S.1 S.2.1 dX3_init_4 rfl (lv_at hl 0 rfl) ?_
  refine lv_sipush (v := 1500) S.1 S.2.1 dX3_init_5 (by decide) ?_
  refine r_newa S (atype := .char) (ty := .char) rfl kw_279 hK hP hD hS hA 3 rfl (a0 := (1500, .inl (fun _ => 0))) (fun _ => rfl) (by decide) (by decide) (by decide) (by decide) (by decide) dX3_init_8 (fun a8_1 H hP hD hS => ?_)
  have hP : va_P D vwCl [(a, .inr (3, [.null, .int 0, .int 0, .int 0, .int 0, .long 0, .null, .int 0, .int 0, .int 0, .int 0, .null, .int 0, .null])), (a8_1, .inl (cy 3, 1500, .inl (fun _ => 0)))] H := hP
  have hD : va_D A [(a, .inr (3, [.null, .int 0, .int 0, .int 0, .int 0, .long 0, .null, .int 0, .int 0, .int 0, .int 0, .null, .int 0, .null])), (a8_1, .inl (cy 3, 1500, .inl (fun _ => 0)))] := hD
  refine r_putF S hK hP hD hS 0 3 rfl rfl inX3 0 (by decide) tyX3 tyX3_ok nmX3 kw_234 (v := .ref a8_1) rfl hnm rfl rfl rfl (Nat.le_of_ble_eq_true rfl) dX3_init_10 (fun H locs hP hD hS => ?_)
  have hP : va_P D vwCl [(a, .inr (3, [.ref a8_1, .int 0, .int 0, .int 0, .int 0, .long 0, .null, .int 0, .int 0, .int 0, .int 0, .null, .int 0, .null])), (a8_1, .inl (cy 3, 1500, .inl (fun _ => 0)))] H := hP
  have hD : va_D A [(a, .inr (3, [.ref a8_1, .int 0, .int 0, .int 0, .int 0, .long 0, .null, .int 0, .int 0, .int 0, .int 0, .null, .int 0, .null])), (a8_1, .inl (cy 3, 1500, .inl (fun _ => 0)))] := hD
  refine lv_aload_n S.1 S.2.1 dX3_init_13 rfl (lv_at hl 0 rfl) ?_
  refine lv_sipush (v := 1500) S.1 S.2.1 dX3_init_14 (by decide) ?_
  refine r_newa S (atype := .int) (ty := .int) rfl kw_224 hK hP hD hS hA 0 rfl (a0 := (1500, .inl (fun _ => 0))) (fun _ => rfl) (by decide) (by decide) (by decide) (by decide) (by decide) dX3_init_17 (fun a17_2 H hP hD hS => ?_)
  have hP : va_P D vwCl [(a, .inr (3, [.ref a8_1, .int 0, .int 0, .int 0, .int 0, .long 0, .null, .int 0, .int 0, .int 0, .int 0, .null, .int 0, .null])), (a8_1, .inl (cy 3, 1500, .inl (fun _ => 0))), (a17_2, .inl (cy 0, 1500, .inl (fun _ => 0)))] H := hP
  have hD : va_D A [(a, .inr (3, [.ref a8_1, .int 0, .int 0, .int 0, .int 0, .long 0, .null, .int 0, .int 0, .int 0, .int 0, .null, .int 0, .null])), (a8_1, .inl (cy 3, 1500, .inl (fun _ => 0))), (a17_2, .inl (cy 0, 1500, .inl (fun _ => 0)))] := hD
  refine r_putF S hK hP hD hS 0 3 rfl rfl inX3 11 (by decide) tyX3 tyX3_ok nmX3 kw_246 (v := .ref a17_2) rfl hnm rfl rfl rfl (Nat.le_of_ble_eq_true rfl) dX3_init_19 (fun H locs hP hD hS => ?_)
  have hP : va_P D vwCl [(a, .inr (3, [.ref a8_1, .int 0, .int 0, .int 0, .int 0, .long 0, .null, .int 0, .int 0, .int 0, .int 0, .ref a17_2, .int 0, .null])), (a8_1, .inl (cy 3, 1500, .inl (fun _ => 0))), (a17_2, .inl (cy 0, 1500, .inl (fun _ => 0)))] H := hP
  have hD : va_D A [(a, .inr (3, [.ref a8_1, .int 0, .int 0, .int 0, .int 0, .long 0, .null, .int 0, .int 0, .int 0, .int 0, .ref a17_2, .int 0, .null])), (a8_1, .inl (cy 3, 1500, .inl (fun _ => 0))), (a17_2, .inl (cy 0, 1500, .inl (fun _ => 0)))] := hD
  exact cv_ret (u := (a8_1, a17_2)) S hr hlk hK (hP.sub [0, 1, 2] rfl) (hD.sub [0, 1, 2] (by decide) rfl) hS (trivial) (by decide) (by decide) dX3_init_22
set_option maxHeartbeats 4000000 in
set_option maxRecDepth 100000 in
theorem kX4_init (l : Launch) (D : va_G) (cy : Nat → ClassId) (a : Nat) : CV l D cy yX4_init cX4_init 1 none 2 43 15 229 [.ref a] [(a, .inr (4, [.null, .null, .int 0, .null]))] (fun (u : (Nat) × (Nat) × (Nat) × (Nat) × (Nat) × (Nat) × (Nat) × (Nat) × (Nat) × (Nat) × (Nat) × (Nat) × (Nat) × (Nat) × (Nat)) => True) (fun (u : (Nat) × (Nat) × (Nat) × (Nat) × (Nat) × (Nat) × (Nat) × (Nat) × (Nat) × (Nat) × (Nat) × (Nat) × (Nat) × (Nat) × (Nat)) => [(a, .inr (4, [.ref (u.1), .ref (u.2.1), .int 0, .ref (u.2.2.1)])), ((u.1), .inl (cy 0, 8, .inl (fun _ => 0))), ((u.2.1), .inl (cy 8, 8, .inr (.inr (.inr (.inr (fun _ => none)))))), ((u.2.2.1), .inr (5, [.int 0, .ref (u.2.2.2.1), .ref (u.2.2.2.2.1), .ref (u.2.2.2.2.2.1), .ref (u.2.2.2.2.2.2.1), .ref (u.2.2.2.2.2.2.2.1), .int 0, .int 10, .int 20, .int 0, .int 0, .ref (u.2.2.2.2.2.2.2.2.1), .ref (u.2.2.2.2.2.2.2.2.2.1), .int 0, .ref (u.2.2.2.2.2.2.2.2.2.2.1), .ref (u.2.2.2.2.2.2.2.2.2.2.2.1), .ref (u.2.2.2.2.2.2.2.2.2.2.2.2.1), .ref (u.2.2.2.2.2.2.2.2.2.2.2.2.2.1), .ref (u.2.2.2.2.2.2.2.2.2.2.2.2.2.2)])), ((u.2.2.2.1), .inl (cy 2, 10, .inr (.inl (fun _ => 0)))), ((u.2.2.2.2.1), .inl (cy 0, 10, .inl (fun _ => 0))), ((u.2.2.2.2.2.1), .inl (cy 0, 10, .inl (fun _ => 0))), ((u.2.2.2.2.2.2.1), .inl (cy 0, 20, .inl (fun _ => 0))), ((u.2.2.2.2.2.2.2.1), .inl (cy 0, 20, .inl (fun _ => 0))), ((u.2.2.2.2.2.2.2.2.1), .inl (cy 0, 10, .inl (fun _ => (-1)))), ((u.2.2.2.2.2.2.2.2.2.1), .inl (cy 0, 10, .inl (fun _ => 0))), ((u.2.2.2.2.2.2.2.2.2.2.1), .inl (cy 0, 24, .inl (fun _ => 0))), ((u.2.2.2.2.2.2.2.2.2.2.2.1), .inl (cy 0, 24, .inl (fun _ => 0))), ((u.2.2.2.2.2.2.2.2.2.2.2.2.1), .inl (cy 0, 24, .inl (fun _ => 0))), ((u.2.2.2.2.2.2.2.2.2.2.2.2.2.1), .inl (cy 0, 0, .inl (fun _ => 0))), ((u.2.2.2.2.2.2.2.2.2.2.2.2.2.2), .inl (cy 0, 32, .inl (fun _ => 0)))]) := by
  refine cv_go (by decide) (Nat.le_of_ble_eq_true rfl) (fun p e s m below meth c ls A hA S hr hlk hnm hP hK hD hl => ?_)
  have hS : va_S A s.heap s.heap [] := va_S.rf
  have hl : lv_has ls 1 [(0, .ref a)] := hl
  refine lv_aload_n S.1 S.2.1 dX4_init_0 rfl (lv_at hl 0 rfl) ?_
  refine r_oinit S kw_285 kw_178 kw_oi hl.1 dX4_init_1 (by decide) (Nat.le_of_ble_eq_true rfl) ?_
  refine lv_aload_n S.1 S.2.1 dX4_init_4 rfl (lv_at hl 0 rfl) ?_
  refine lv_bipush (v := 8) S.1 S.2.1 dX4_init_5 (by decide) ?_
  refine r_newa S (atype := .int) (ty := .int) rfl kw_224 hK hP hD hS hA 0 rfl (a0 := (8, .inl (fun _ => 0))) (fun _ => rfl) (by decide) (by decide) (by decide) (by decide) (by decide) dX4_init_7 (fun a7_1 H hP hD hS => ?_)
  have hP : va_P D vwCl [(a, .inr (4, [.null, .null, .int 0, .null])), (a7_1, .inl (cy 0, 8, .inl (fun _ => 0)))] H := hP
  have hD : va_D A [(a, .inr (4, [.null, .null, .int 0, .null])), (a7_1, .inl (cy 0, 8, .inl (fun _ => 0)))] := hD
  refine r_putF S hK hP hD hS 0 4 rfl rfl inX4 0 (by decide) tyX4 tyX4_ok nmX4 kw_377 (v := .ref a7_1) rfl hnm rfl rfl rfl (Nat.le_of_ble_eq_true rfl) dX4_init_9 (fun H locs hP hD hS => ?_)
  have hP : va_P D vwCl [(a, .inr (4, [.ref a7_1, .null, .int 0, .null])), (a7_1, .inl (cy 0, 8, .inl (fun _ => 0)))] H := hP
  have hD : va_D A [(a, .inr (4, [.ref a7_1, .null, .int 0, .null])), (a7_1, .inl (cy 0, 8, .inl (fun _ => 0)))] := hD
  refine lv_aload_n S.1 S.2.1 dX4_init_12 rfl (lv_at hl 0 rfl) ?_
  refine lv_bipush (v := 8) S.1 S.2.1 dX4_init_13 (by decide) ?_
  refine r_newq S kw_286 hK.2.1.2.2.2.2 hK hP hD hS hA 8 rfl (by decide) (N' := 8) (by decide) (by decide) (by decide) (by decide) dX4_init_15 (fun a15_2 H hP hD hS => ?_)
  have hP : va_P D vwCl [(a, .inr (4, [.ref a7_1, .null, .int 0, .null])), (a7_1, .inl (cy 0, 8, .inl (fun _ => 0))), (a15_2, .inl (cy 8, 8, .inr (.inr (.inr (.inr (fun _ => none))))))] H := hP
  have hD : va_D A [(a, .inr (4, [.ref a7_1, .null, .int 0, .null])), (a7_1, .inl (cy 0, 8, .inl (fun _ => 0))), (a15_2, .inl (cy 8, 8, .inr (.inr (.inr (.inr (fun _ => none))))))] := hD
  refine r_putF S hK hP hD hS 0 4 rfl rfl inX4 1 (by decide) tyX4 tyX4_ok nmX4 kw_378 (v := .ref a15_2) rfl hnm rfl rfl rfl (Nat.le_of_ble_eq_true rfl) dX4_init_18 (fun H locs hP hD hS => ?_)
  have hP : va_P D vwCl [(a, .inr (4, [.ref a7_1, .ref a15_2, .int 0, .null])), (a7_1, .inl (cy 0, 8, .inl (fun _ => 0))), (a15_2, .inl (cy 8, 8, .inr (.inr (.inr (.inr (fun _ => none))))))] H := hP
  have hD : va_D A [(a, .inr (4, [.ref a7_1, .ref a15_2, .int 0, .null])), (a7_1, .inl (cy 0, 8, .inl (fun _ => 0))), (a15_2, .inl (cy 8, 8, .inr (.inr (.inr (.inr (fun _ => none))))))] := hD
  refine lv_aload_n S.1 S.2.1 dX4_init_21 rfl (lv_at hl 0 rfl) ?_
  refine r_new S (ci := 5) inX5 tyX5 tyX5_ok kw_286 kw_288 kw_149 hK hP hD hS hA rfl (fs := [.int 0, .null, .null, .null, .null, .null, .int 0, .int 0, .int 0, .int 0, .int 0, .null, .null, .int 0, .null, .null, .null, .null, .null]) rfl (by decide) (by decide) dX4_init_22 (fun a22_3 H hP hD hS => ?_)
  have hP : va_P D vwCl [(a, .inr (4, [.ref a7_1, .ref a15_2, .int 0, .null])), (a7_1, .inl (cy 0, 8, .inl (fun _ => 0))), (a15_2, .inl (cy 8, 8, .inr (.inr (.inr (.inr (fun _ => none)))))), (a22_3, .inr (5, [.int 0, .null, .null, .null, .null, .null, .int 0, .int 0, .int 0, .int 0, .int 0, .null, .null, .int 0, .null, .null, .null, .null, .null]))] H := hP
  have hD : va_D A [(a, .inr (4, [.ref a7_1, .ref a15_2, .int 0, .null])), (a7_1, .inl (cy 0, 8, .inl (fun _ => 0))), (a15_2, .inl (cy 8, 8, .inr (.inr (.inr (.inr (fun _ => none)))))), (a22_3, .inr (5, [.int 0, .null, .null, .null, .null, .null, .int 0, .int 0, .int 0, .int 0, .int 0, .null, .null, .int 0, .null, .null, .null, .null, .null]))] := hD
  refine lv_dup S.1 S.2.1 dX4_init_25 rfl ?_
  refine call_v (wr := [(a, .inr (4, [.ref a7_1, .ref a15_2, .int 0, .null])), (a7_1, .inl (cy 0, 8, .inl (fun _ => 0))), (a15_2, .inl (cy 8, 8, .inr (.inr (.inr (.inr (fun _ => none))))))]) (runI_C (wc := [(a22_3, .inr (5, [.int 0, .null, .null, .null, .null, .null, .int 0, .int 0, .int 0, .int 0, .int 0, .null, .null, .int 0, .null, .null, .null, .null, .null]))]) (As := []) (rest := [.ref a22_3, .ref a]) S (kX5_init l D cy a22_3) hK hP hD [3] (by decide) rfl kw_289 kw_290 kw_149 kw_291 okX5_init rfl rfl (by decide) hl.1 rfl (Nat.le_of_ble_eq_true rfl) dX4_init_26 (by decide)) hP hD hS hA [3] [0, 1, 2] rfl rfl (by decide) (by decide) (fun u26 H locs w26 hP hD hS => ?_)
  obtain ⟨names_26, thin_26, thick_26, leastBelow_26, mostBelow_26, remainFrom_26, remainTo_26, lineKind_26, lineSays_26, lineEnd_26, code_26, stack_26⟩ := u26
  have hP : va_P D vwCl [(a, .inr (4, [.ref a7_1, .ref a15_2, .int 0, .null])), (a7_1, .inl (cy 0, 8, .inl (fun _ => 0))), (a15_2, .inl (cy 8, 8, .inr (.inr (.inr (.inr (fun _ => none)))))), (a22_3, .inr (5, [.int 0, .ref names_26, .ref thin_26, .ref thick_26, .ref leastBelow_26, .ref mostBelow_26, .int 0, .int 10, .int 20, .int 0, .int 0, .ref remainFrom_26, .ref remainTo_26, .int 0, .ref lineKind_26, .ref lineSays_26, .ref lineEnd_26, .ref code_26, .ref stack_26])), (names_26, .inl (cy 2, 10, .inr (.inl (fun _ => 0)))), (thin_26, .inl (cy 0, 10, .inl (fun _ => 0))), (thick_26, .inl (cy 0, 10, .inl (fun _ => 0))), (leastBelow_26, .inl (cy 0, 20, .inl (fun _ => 0))), (mostBelow_26, .inl (cy 0, 20, .inl (fun _ => 0))), (remainFrom_26, .inl (cy 0, 10, .inl (fun _ => (-1)))), (remainTo_26, .inl (cy 0, 10, .inl (fun _ => 0))), (lineKind_26, .inl (cy 0, 24, .inl (fun _ => 0))), (lineSays_26, .inl (cy 0, 24, .inl (fun _ => 0))), (lineEnd_26, .inl (cy 0, 24, .inl (fun _ => 0))), (code_26, .inl (cy 0, 0, .inl (fun _ => 0))), (stack_26, .inl (cy 0, 32, .inl (fun _ => 0)))] H := hP
  have hD : va_D A [(a, .inr (4, [.ref a7_1, .ref a15_2, .int 0, .null])), (a7_1, .inl (cy 0, 8, .inl (fun _ => 0))), (a15_2, .inl (cy 8, 8, .inr (.inr (.inr (.inr (fun _ => none)))))), (a22_3, .inr (5, [.int 0, .ref names_26, .ref thin_26, .ref thick_26, .ref leastBelow_26, .ref mostBelow_26, .int 0, .int 10, .int 20, .int 0, .int 0, .ref remainFrom_26, .ref remainTo_26, .int 0, .ref lineKind_26, .ref lineSays_26, .ref lineEnd_26, .ref code_26, .ref stack_26])), (names_26, .inl (cy 2, 10, .inr (.inl (fun _ => 0)))), (thin_26, .inl (cy 0, 10, .inl (fun _ => 0))), (thick_26, .inl (cy 0, 10, .inl (fun _ => 0))), (leastBelow_26, .inl (cy 0, 20, .inl (fun _ => 0))), (mostBelow_26, .inl (cy 0, 20, .inl (fun _ => 0))), (remainFrom_26, .inl (cy 0, 10, .inl (fun _ => (-1)))), (remainTo_26, .inl (cy 0, 10, .inl (fun _ => 0))), (lineKind_26, .inl (cy 0, 24, .inl (fun _ => 0))), (lineSays_26, .inl (cy 0, 24, .inl (fun _ => 0))), (lineEnd_26, .inl (cy 0, 24, .inl (fun _ => 0))), (code_26, .inl (cy 0, 0, .inl (fun _ => 0))), (stack_26, .inl (cy 0, 32, .inl (fun _ => 0)))] := hD
  refine r_putF S hK hP hD hS 0 4 rfl rfl inX4 3 (by decide) tyX4 tyX4_ok nmX4 kw_381 (v := .ref a22_3) rfl hnm rfl rfl rfl (Nat.le_of_ble_eq_true rfl) dX4_init_29 (fun H locs hP hD hS => ?_)
  have hP : va_P D vwCl [(a, .inr (4, [.ref a7_1, .ref a15_2, .int 0, .ref a22_3])), (a7_1, .inl (cy 0, 8, .inl (fun _ => 0))), (a15_2, .inl (cy 8, 8, .inr (.inr (.inr (.inr (fun _ => none)))))), (a22_3, .inr (5, [.int 0, .ref names_26, .ref thin_26, .ref thick_26, .ref leastBelow_26, .ref mostBelow_26, .int 0, .int 10, .int 20, .int 0, .int 0, .ref remainFrom_26, .ref remainTo_26, .int 0, .ref lineKind_26, .ref lineSays_26, .ref lineEnd_26, .ref code_26, .ref stack_26])), (names_26, .inl (cy 2, 10, .inr (.inl (fun _ => 0)))), (thin_26, .inl (cy 0, 10, .inl (fun _ => 0))), (thick_26, .inl (cy 0, 10, .inl (fun _ => 0))), (leastBelow_26, .inl (cy 0, 20, .inl (fun _ => 0))), (mostBelow_26, .inl (cy 0, 20, .inl (fun _ => 0))), (remainFrom_26, .inl (cy 0, 10, .inl (fun _ => (-1)))), (remainTo_26, .inl (cy 0, 10, .inl (fun _ => 0))), (lineKind_26, .inl (cy 0, 24, .inl (fun _ => 0))), (lineSays_26, .inl (cy 0, 24, .inl (fun _ => 0))), (lineEnd_26, .inl (cy 0, 24, .inl (fun _ => 0))), (code_26, .inl (cy 0, 0, .inl (fun _ => 0))), (stack_26, .inl (cy 0, 32, .inl (fun _ => 0)))] H := hP
  have hD : va_D A [(a, .inr (4, [.ref a7_1, .ref a15_2, .int 0, .ref a22_3])), (a7_1, .inl (cy 0, 8, .inl (fun _ => 0))), (a15_2, .inl (cy 8, 8, .inr (.inr (.inr (.inr (fun _ => none)))))), (a22_3, .inr (5, [.int 0, .ref names_26, .ref thin_26, .ref thick_26, .ref leastBelow_26, .ref mostBelow_26, .int 0, .int 10, .int 20, .int 0, .int 0, .ref remainFrom_26, .ref remainTo_26, .int 0, .ref lineKind_26, .ref lineSays_26, .ref lineEnd_26, .ref code_26, .ref stack_26])), (names_26, .inl (cy 2, 10, .inr (.inl (fun _ => 0)))), (thin_26, .inl (cy 0, 10, .inl (fun _ => 0))), (thick_26, .inl (cy 0, 10, .inl (fun _ => 0))), (leastBelow_26, .inl (cy 0, 20, .inl (fun _ => 0))), (mostBelow_26, .inl (cy 0, 20, .inl (fun _ => 0))), (remainFrom_26, .inl (cy 0, 10, .inl (fun _ => (-1)))), (remainTo_26, .inl (cy 0, 10, .inl (fun _ => 0))), (lineKind_26, .inl (cy 0, 24, .inl (fun _ => 0))), (lineSays_26, .inl (cy 0, 24, .inl (fun _ => 0))), (lineEnd_26, .inl (cy 0, 24, .inl (fun _ => 0))), (code_26, .inl (cy 0, 0, .inl (fun _ => 0))), (stack_26, .inl (cy 0, 32, .inl (fun _ => 0)))] := hD
  exact cv_ret (u := (a7_1, a15_2, a22_3, names_26, thin_26, thick_26, leastBelow_26, mostBelow_26, remainFrom_26, remainTo_26, lineKind_26, lineSays_26, lineEnd_26, code_26, stack_26)) S hr hlk hK (hP.sub [0, 1, 2, 3, 4, 5, 6, 7, 8, 9, 10, 11, 12, 13, 14, 15] rfl) (hD.sub [0, 1, 2, 3, 4, 5, 6, 7, 8, 9, 10, 11, 12, 13, 14, 15] (by decide) rfl) hS (trivial) (by decide) (by decide) dX4_init_32
set_option maxHeartbeats 4000000 in
set_option maxRecDepth 100000 in
theorem kX9_init (l : Launch) (D : va_G) (cy : Nat → ClassId) (a : Nat) : CV l D cy yX9_init cX9_init 1 none 1 20 3 864 [.ref a] [(a, .inr (9, [.null, .null, .null, .int 0]))] (fun (u : (Nat) × (Nat) × (Nat)) => True) (fun (u : (Nat) × (Nat) × (Nat)) => [(a, .inr (9, [.ref (u.1), .ref (u.2.1), .ref (u.2.2), .int 0])), ((u.1), .inl (cy 0, 384, .inl (fun _ => 0))), ((u.2.1), .inl (cy 2, 384, .inr (.inl (fun _ => 0)))), ((u.2.2), .inl (cy 0, 96, .inl (fun _ => 0)))]) := by
  refine cv_go (by decide) (Nat.le_of_ble_eq_true rfl) (fun p e s m below meth c ls A hA S hr hlk hnm hP hK hD hl => ?_)
  have hS : va_S A s.heap s.heap [] := va_S.rf
  have hl : lv_has ls 1 [(0, .ref a)] := hl
  refine lv_aload_n S.1 S.2.1 dX9_init_0 rfl (lv_at hl 0 rfl) ?_
  refine r_oinit S kw_407 kw_178 kw_oi hl.1 dX9_init_1 (by decide) (Nat.le_of_ble_eq_true rfl) ?_
  refine lv_aload_n S.1 S.2.1 dX9_init_4 rfl (lv_at hl 0 rfl) ?_
  refine lv_sipush (v := 384) S.1 S.2.1 dX9_init_5 (by decide) ?_
  refine r_newa S (atype := .int) (ty := .int) rfl kw_224 hK hP hD hS hA 0 rfl (a0 := (384, .inl (fun _ => 0))) (fun _ => rfl) (by decide) (by decide) (by decide) (by decide) (by decide) dX9_init_8 (fun a8_1 H hP hD hS => ?_)
  have hP : va_P D vwCl [(a, .inr (9, [.null, .null, .null, .int 0])), (a8_1, .inl (cy 0, 384, .inl (fun _ => 0)))] H := hP
  have hD : va_D A [(a, .inr (9, [.null, .null, .null, .int 0])), (a8_1, .inl (cy 0, 384, .inl (fun _ => 0)))] := hD
  refine r_putF S hK hP hD hS 0 9 rfl rfl inX9 0 (by decide) tyX9 tyX9_ok nmX9 kw_408 (v := .ref a8_1) rfl hnm rfl rfl rfl (Nat.le_of_ble_eq_true rfl) dX9_init_10 (fun H locs hP hD hS => ?_)
  have hP : va_P D vwCl [(a, .inr (9, [.ref a8_1, .null, .null, .int 0])), (a8_1, .inl (cy 0, 384, .inl (fun _ => 0)))] H := hP
  have hD : va_D A [(a, .inr (9, [.ref a8_1, .null, .null, .int 0])), (a8_1, .inl (cy 0, 384, .inl (fun _ => 0)))] := hD
  refine lv_aload_n S.1 S.2.1 dX9_init_13 rfl (lv_at hl 0 rfl) ?_
  refine lv_sipush (v := 384) S.1 S.2.1 dX9_init_14 (by decide) ?_
  refine r_newa S (atype := .long) (ty := .long) rfl kw_376 hK hP hD hS hA 2 rfl (a0 := (384, .inr (.inl (fun _ => 0)))) (fun _ => rfl) (by decide) (by decide) (by decide) (by decide) (by decide) dX9_init_17 (fun a17_2 H hP hD hS => ?_)
  have hP : va_P D vwCl [(a, .inr (9, [.ref a8_1, .null, .null, .int 0])), (a8_1, .inl (cy 0, 384, .inl (fun _ => 0))), (a17_2, .inl (cy 2, 384, .inr (.inl (fun _ => 0))))] H := hP
  have hD : va_D A [(a, .inr (9, [.ref a8_1, .null, .null, .int 0])), (a8_1, .inl (cy 0, 384, .inl (fun _ => 0))), (a17_2, .inl (cy 2, 384, .inr (.inl (fun _ => 0))))] := hD
  refine r_putF S hK hP hD hS 0 9 rfl rfl inX9 1 (by decide) tyX9 tyX9_ok nmX9 kw_409 (v := .ref a17_2) rfl hnm rfl rfl rfl (Nat.le_of_ble_eq_true rfl) dX9_init_19 (fun H locs hP hD hS => ?_)
  have hP : va_P D vwCl [(a, .inr (9, [.ref a8_1, .ref a17_2, .null, .int 0])), (a8_1, .inl (cy 0, 384, .inl (fun _ => 0))), (a17_2, .inl (cy 2, 384, .inr (.inl (fun _ => 0))))] H := hP
  have hD : va_D A [(a, .inr (9, [.ref a8_1, .ref a17_2, .null, .int 0])), (a8_1, .inl (cy 0, 384, .inl (fun _ => 0))), (a17_2, .inl (cy 2, 384, .inr (.inl (fun _ => 0))))] := hD
  refine lv_aload_n S.1 S.2.1 dX9_init_22 rfl (lv_at hl 0 rfl) ?_
  refine lv_bipush (v := 96) S.1 S.2.1 dX9_init_23 (by decide) ?_
  refine r_newa S (atype := .int) (ty := .int) rfl kw_224 hK hP hD hS hA 0 rfl (a0 := (96, .inl (fun _ => 0))) (fun _ => rfl) (by decide) (by decide) (by decide) (by decide) (by decide) dX9_init_25 (fun a25_3 H hP hD hS => ?_)
  have hP : va_P D vwCl [(a, .inr (9, [.ref a8_1, .ref a17_2, .null, .int 0])), (a8_1, .inl (cy 0, 384, .inl (fun _ => 0))), (a17_2, .inl (cy 2, 384, .inr (.inl (fun _ => 0)))), (a25_3, .inl (cy 0, 96, .inl (fun _ => 0)))] H := hP
  have hD : va_D A [(a, .inr (9, [.ref a8_1, .ref a17_2, .null, .int 0])), (a8_1, .inl (cy 0, 384, .inl (fun _ => 0))), (a17_2, .inl (cy 2, 384, .inr (.inl (fun _ => 0)))), (a25_3, .inl (cy 0, 96, .inl (fun _ => 0)))] := hD
  refine r_putF S hK hP hD hS 0 9 rfl rfl inX9 2 (by decide) tyX9 tyX9_ok nmX9 kw_411 (v := .ref a25_3) rfl hnm rfl rfl rfl (Nat.le_of_ble_eq_true rfl) dX9_init_27 (fun H locs hP hD hS => ?_)
  have hP : va_P D vwCl [(a, .inr (9, [.ref a8_1, .ref a17_2, .ref a25_3, .int 0])), (a8_1, .inl (cy 0, 384, .inl (fun _ => 0))), (a17_2, .inl (cy 2, 384, .inr (.inl (fun _ => 0)))), (a25_3, .inl (cy 0, 96, .inl (fun _ => 0)))] H := hP
  have hD : va_D A [(a, .inr (9, [.ref a8_1, .ref a17_2, .ref a25_3, .int 0])), (a8_1, .inl (cy 0, 384, .inl (fun _ => 0))), (a17_2, .inl (cy 2, 384, .inr (.inl (fun _ => 0)))), (a25_3, .inl (cy 0, 96, .inl (fun _ => 0)))] := hD
  exact cv_ret (u := (a8_1, a17_2, a25_3)) S hr hlk hK (hP.sub [0, 1, 2, 3] rfl) (hD.sub [0, 1, 2, 3] (by decide) rfl) hS (trivial) (by decide) (by decide) dX9_init_30
set_option maxHeartbeats 4000000 in
set_option maxRecDepth 100000 in
theorem kX6_init (l : Launch) (D : va_G) (cy : Nat → ClassId) (a : Nat) (sg : Nat) (bk : Nat) : CV l D cy yX6_init cX6_init 3 none 2 40 10 1444 [.ref a, .ref sg, .ref bk] [(a, .inr (6, [.null, .null, .null, .int 0, .int 0, .int 0, .null, .null, .null, .null, .null, .null, .int 0]))] (fun (u : (Nat) × (Nat) × (Nat) × (Nat) × (Nat) × (Nat) × (Nat) × (Nat) × (Nat) × (Nat)) => True) (fun (u : (Nat) × (Nat) × (Nat) × (Nat) × (Nat) × (Nat) × (Nat) × (Nat) × (Nat) × (Nat)) => [(a, .inr (6, [.ref (u.1), .ref sg, .ref bk, .int 0, .int 0, .int 0, .ref (u.2.1), .ref (u.2.2.1), .ref (u.2.2.2.1), .ref (u.2.2.2.2.1), .ref (u.2.2.2.2.2.1), .ref (u.2.2.2.2.2.2.1), .int 0])), ((u.2.1), .inl (cy 0, 96, .inl (fun _ => 0))), ((u.2.2.1), .inl (cy 0, 96, .inl (fun _ => 0))), ((u.2.2.2.1), .inl (cy 0, 96, .inl (fun _ => 0))), ((u.2.2.2.2.1), .inl (cy 2, 96, .inr (.inl (fun _ => 0)))), ((u.2.2.2.2.2.1), .inl (cy 2, 96, .inr (.inl (fun _ => 0)))), ((u.2.2.2.2.2.2.1), .inl (cy 0, 96, .inl (fun _ => 0))), ((u.1), .inr (9, [.ref (u.2.2.2.2.2.2.2.1), .ref (u.2.2.2.2.2.2.2.2.1), .ref (u.2.2.2.2.2.2.2.2.2), .int 0])), ((u.2.2.2.2.2.2.2.1), .inl (cy 0, 384, .inl (fun _ => 0))), ((u.2.2.2.2.2.2.2.2.1), .inl (cy 2, 384, .inr (.inl (fun _ => 0)))), ((u.2.2.2.2.2.2.2.2.2), .inl (cy 0, 96, .inl (fun _ => 0)))]) := by
  refine cv_go (by decide) (Nat.le_of_ble_eq_true rfl) (fun p e s m below meth c ls A hA S hr hlk hnm hP hK hD hl => ?_)
  have hS : va_S A s.heap s.heap [] := va_S.rf
  have hl : lv_has ls 3 [(0, .ref a), (1, .ref sg), (2, .ref bk)] := hl
  refine lv_aload_n S.1 S.2.1 dX6_init_0 rfl (lv_at hl 0 rfl) ?_
  refine r_oinit S kw_401 kw_178 kw_oi hl.1 dX6_init_1 (by decide) (Nat.le_of_ble_eq_true rfl) ?_
  refine lv_aload_n S.1 S.2.1 dX6_init_4 rfl (lv_at hl 0 rfl) ?_
  refine r_new S (ci := 9) inX9 tyX9 tyX9_ok kw_402 kw_403 kw_151 hK hP hD hS hA rfl (fs := [.null, .null, .null, .int 0]) rfl (by decide) (by decide) dX6_init_5 (fun a5_1 H hP hD hS => ?_)
  have hP : va_P D vwCl [(a, .inr (6, [.null, .null, .null, .int 0, .int 0, .int 0, .null, .null, .null, .null, .null, .null, .int 0])), (a5_1, .inr (9, [.null, .null, .null, .int 0]))] H := hP
  have hD : va_D A [(a, .inr (6, [.null, .null, .null, .int 0, .int 0, .int 0, .null, .null, .null, .null, .null, .null, .int 0])), (a5_1, .inr (9, [.null, .null, .null, .int 0]))] := hD
  refine lv_dup S.1 S.2.1 dX6_init_8 rfl ?_
  refine call_v (wr := [(a, .inr (6, [.null, .null, .null, .int 0, .int 0, .int 0, .null, .null, .null, .null, .null, .null, .int 0]))]) (runIN_C "LandSurvey" (wc := [(a5_1, .inr (9, [.null, .null, .null, .int 0]))]) (As := []) (rest := [.ref a5_1, .ref a]) S (kX9_init l D cy a5_1) hK hP hD [1] (by decide) rfl hK.2.2.2.2 kw_405 kw_151 kw_406 okX9_init rfl rfl (by decide) hl.1 rfl (Nat.le_of_ble_eq_true rfl) dX6_init_9 (by decide)) hP hD hS hA [1] [0] rfl rfl (by decide) (by decide) (fun u9 H locs w9 hP hD hS => ?_)
  obtain ⟨rise_9, blamed_9, came_9⟩ := u9
  have hP : va_P D vwCl [(a, .inr (6, [.null, .null, .null, .int 0, .int 0, .int 0, .null, .null, .null, .null, .null, .null, .int 0])), (a5_1, .inr (9, [.ref rise_9, .ref blamed_9, .ref came_9, .int 0])), (rise_9, .inl (cy 0, 384, .inl (fun _ => 0))), (blamed_9, .inl (cy 2, 384, .inr (.inl (fun _ => 0)))), (came_9, .inl (cy 0, 96, .inl (fun _ => 0)))] H := hP
  have hD : va_D A [(a, .inr (6, [.null, .null, .null, .int 0, .int 0, .int 0, .null, .null, .null, .null, .null, .null, .int 0])), (a5_1, .inr (9, [.ref rise_9, .ref blamed_9, .ref came_9, .int 0])), (rise_9, .inl (cy 0, 384, .inl (fun _ => 0))), (blamed_9, .inl (cy 2, 384, .inr (.inl (fun _ => 0)))), (came_9, .inl (cy 0, 96, .inl (fun _ => 0)))] := hD
  refine r_putF S hK hP hD hS 0 6 rfl rfl inX6 0 (by decide) tyX6 tyX6_ok nmX6 kw_424 (v := .ref a5_1) rfl hnm rfl rfl rfl (Nat.le_of_ble_eq_true rfl) dX6_init_12 (fun H locs hP hD hS => ?_)
  have hP : va_P D vwCl [(a, .inr (6, [.ref a5_1, .null, .null, .int 0, .int 0, .int 0, .null, .null, .null, .null, .null, .null, .int 0])), (a5_1, .inr (9, [.ref rise_9, .ref blamed_9, .ref came_9, .int 0])), (rise_9, .inl (cy 0, 384, .inl (fun _ => 0))), (blamed_9, .inl (cy 2, 384, .inr (.inl (fun _ => 0)))), (came_9, .inl (cy 0, 96, .inl (fun _ => 0)))] H := hP
  have hD : va_D A [(a, .inr (6, [.ref a5_1, .null, .null, .int 0, .int 0, .int 0, .null, .null, .null, .null, .null, .null, .int 0])), (a5_1, .inr (9, [.ref rise_9, .ref blamed_9, .ref came_9, .int 0])), (rise_9, .inl (cy 0, 384, .inl (fun _ => 0))), (blamed_9, .inl (cy 2, 384, .inr (.inl (fun _ => 0)))), (came_9, .inl (cy 0, 96, .inl (fun _ => 0)))] := hD
  refine lv_aload_n S.1 S.2.1 dX6_init_15 rfl (lv_at hl 0 rfl) ?_
  refine lv_bipush (v := 96) S.1 S.2.1 dX6_init_16 (by decide) ?_
  refine r_newa S (atype := .int) (ty := .int) rfl kw_224 hK hP hD hS hA 0 rfl (a0 := (96, .inl (fun _ => 0))) (fun _ => rfl) (by decide) (by decide) (by decide) (by decide) (by decide) dX6_init_18 (fun a18_2 H hP hD hS => ?_)
  have hP : va_P D vwCl [(a, .inr (6, [.ref a5_1, .null, .null, .int 0, .int 0, .int 0, .null, .null, .null, .null, .null, .null, .int 0])), (a5_1, .inr (9, [.ref rise_9, .ref blamed_9, .ref came_9, .int 0])), (rise_9, .inl (cy 0, 384, .inl (fun _ => 0))), (blamed_9, .inl (cy 2, 384, .inr (.inl (fun _ => 0)))), (came_9, .inl (cy 0, 96, .inl (fun _ => 0))), (a18_2, .inl (cy 0, 96, .inl (fun _ => 0)))] H := hP
  have hD : va_D A [(a, .inr (6, [.ref a5_1, .null, .null, .int 0, .int 0, .int 0, .null, .null, .null, .null, .null, .null, .int 0])), (a5_1, .inr (9, [.ref rise_9, .ref blamed_9, .ref came_9, .int 0])), (rise_9, .inl (cy 0, 384, .inl (fun _ => 0))), (blamed_9, .inl (cy 2, 384, .inr (.inl (fun _ => 0)))), (came_9, .inl (cy 0, 96, .inl (fun _ => 0))), (a18_2, .inl (cy 0, 96, .inl (fun _ => 0)))] := hD
  refine r_putF S hK hP hD hS 0 6 rfl rfl inX6 6 (by decide) tyX6 tyX6_ok nmX6 kw_430 (v := .ref a18_2) rfl hnm rfl rfl rfl (Nat.le_of_ble_eq_true rfl) dX6_init_20 (fun H locs hP hD hS => ?_)
  have hP : va_P D vwCl [(a, .inr (6, [.ref a5_1, .null, .null, .int 0, .int 0, .int 0, .ref a18_2, .null, .null, .null, .null, .null, .int 0])), (a5_1, .inr (9, [.ref rise_9, .ref blamed_9, .ref came_9, .int 0])), (rise_9, .inl (cy 0, 384, .inl (fun _ => 0))), (blamed_9, .inl (cy 2, 384, .inr (.inl (fun _ => 0)))), (came_9, .inl (cy 0, 96, .inl (fun _ => 0))), (a18_2, .inl (cy 0, 96, .inl (fun _ => 0)))] H := hP
  have hD : va_D A [(a, .inr (6, [.ref a5_1, .null, .null, .int 0, .int 0, .int 0, .ref a18_2, .null, .null, .null, .null, .null, .int 0])), (a5_1, .inr (9, [.ref rise_9, .ref blamed_9, .ref came_9, .int 0])), (rise_9, .inl (cy 0, 384, .inl (fun _ => 0))), (blamed_9, .inl (cy 2, 384, .inr (.inl (fun _ => 0)))), (came_9, .inl (cy 0, 96, .inl (fun _ => 0))), (a18_2, .inl (cy 0, 96, .inl (fun _ => 0)))] := hD
  refine lv_aload_n S.1 S.2.1 dX6_init_23 rfl (lv_at hl 0 rfl) ?_
  refine lv_bipush (v := 96) S.1 S.2.1 dX6_init_24 (by decide) ?_
  refine r_newa S (atype := .int) (ty := .int) rfl kw_224 hK hP hD hS hA 0 rfl (a0 := (96, .inl (fun _ => 0))) (fun _ => rfl) (by decide) (by decide) (by decide) (by decide) (by decide) dX6_init_26 (fun a26_3 H hP hD hS => ?_)
  have hP : va_P D vwCl [(a, .inr (6, [.ref a5_1, .null, .null, .int 0, .int 0, .int 0, .ref a18_2, .null, .null, .null, .null, .null, .int 0])), (a5_1, .inr (9, [.ref rise_9, .ref blamed_9, .ref came_9, .int 0])), (rise_9, .inl (cy 0, 384, .inl (fun _ => 0))), (blamed_9, .inl (cy 2, 384, .inr (.inl (fun _ => 0)))), (came_9, .inl (cy 0, 96, .inl (fun _ => 0))), (a18_2, .inl (cy 0, 96, .inl (fun _ => 0))), (a26_3, .inl (cy 0, 96, .inl (fun _ => 0)))] H := hP
  have hD : va_D A [(a, .inr (6, [.ref a5_1, .null, .null, .int 0, .int 0, .int 0, .ref a18_2, .null, .null, .null, .null, .null, .int 0])), (a5_1, .inr (9, [.ref rise_9, .ref blamed_9, .ref came_9, .int 0])), (rise_9, .inl (cy 0, 384, .inl (fun _ => 0))), (blamed_9, .inl (cy 2, 384, .inr (.inl (fun _ => 0)))), (came_9, .inl (cy 0, 96, .inl (fun _ => 0))), (a18_2, .inl (cy 0, 96, .inl (fun _ => 0))), (a26_3, .inl (cy 0, 96, .inl (fun _ => 0)))] := hD
  refine r_putF S hK hP hD hS 0 6 rfl rfl inX6 7 (by decide) tyX6 tyX6_ok nmX6 kw_432 (v := .ref a26_3) rfl hnm rfl rfl rfl (Nat.le_of_ble_eq_true rfl) dX6_init_28 (fun H locs hP hD hS => ?_)
  have hP : va_P D vwCl [(a, .inr (6, [.ref a5_1, .null, .null, .int 0, .int 0, .int 0, .ref a18_2, .ref a26_3, .null, .null, .null, .null, .int 0])), (a5_1, .inr (9, [.ref rise_9, .ref blamed_9, .ref came_9, .int 0])), (rise_9, .inl (cy 0, 384, .inl (fun _ => 0))), (blamed_9, .inl (cy 2, 384, .inr (.inl (fun _ => 0)))), (came_9, .inl (cy 0, 96, .inl (fun _ => 0))), (a18_2, .inl (cy 0, 96, .inl (fun _ => 0))), (a26_3, .inl (cy 0, 96, .inl (fun _ => 0)))] H := hP
  have hD : va_D A [(a, .inr (6, [.ref a5_1, .null, .null, .int 0, .int 0, .int 0, .ref a18_2, .ref a26_3, .null, .null, .null, .null, .int 0])), (a5_1, .inr (9, [.ref rise_9, .ref blamed_9, .ref came_9, .int 0])), (rise_9, .inl (cy 0, 384, .inl (fun _ => 0))), (blamed_9, .inl (cy 2, 384, .inr (.inl (fun _ => 0)))), (came_9, .inl (cy 0, 96, .inl (fun _ => 0))), (a18_2, .inl (cy 0, 96, .inl (fun _ => 0))), (a26_3, .inl (cy 0, 96, .inl (fun _ => 0)))] := hD
  refine lv_aload_n S.1 S.2.1 dX6_init_31 rfl (lv_at hl 0 rfl) ?_
  refine lv_bipush (v := 96) S.1 S.2.1 dX6_init_32 (by decide) ?_
  refine r_newa S (atype := .int) (ty := .int) rfl kw_224 hK hP hD hS hA 0 rfl (a0 := (96, .inl (fun _ => 0))) (fun _ => rfl) (by decide) (by decide) (by decide) (by decide) (by decide) dX6_init_34 (fun a34_4 H hP hD hS => ?_)
  have hP : va_P D vwCl [(a, .inr (6, [.ref a5_1, .null, .null, .int 0, .int 0, .int 0, .ref a18_2, .ref a26_3, .null, .null, .null, .null, .int 0])), (a5_1, .inr (9, [.ref rise_9, .ref blamed_9, .ref came_9, .int 0])), (rise_9, .inl (cy 0, 384, .inl (fun _ => 0))), (blamed_9, .inl (cy 2, 384, .inr (.inl (fun _ => 0)))), (came_9, .inl (cy 0, 96, .inl (fun _ => 0))), (a18_2, .inl (cy 0, 96, .inl (fun _ => 0))), (a26_3, .inl (cy 0, 96, .inl (fun _ => 0))), (a34_4, .inl (cy 0, 96, .inl (fun _ => 0)))] H := hP
  have hD : va_D A [(a, .inr (6, [.ref a5_1, .null, .null, .int 0, .int 0, .int 0, .ref a18_2, .ref a26_3, .null, .null, .null, .null, .int 0])), (a5_1, .inr (9, [.ref rise_9, .ref blamed_9, .ref came_9, .int 0])), (rise_9, .inl (cy 0, 384, .inl (fun _ => 0))), (blamed_9, .inl (cy 2, 384, .inr (.inl (fun _ => 0)))), (came_9, .inl (cy 0, 96, .inl (fun _ => 0))), (a18_2, .inl (cy 0, 96, .inl (fun _ => 0))), (a26_3, .inl (cy 0, 96, .inl (fun _ => 0))), (a34_4, .inl (cy 0, 96, .inl (fun _ => 0)))] := hD
  refine r_putF S hK hP hD hS 0 6 rfl rfl inX6 8 (by decide) tyX6 tyX6_ok nmX6 kw_434 (v := .ref a34_4) rfl hnm rfl rfl rfl (Nat.le_of_ble_eq_true rfl) dX6_init_36 (fun H locs hP hD hS => ?_)
  have hP : va_P D vwCl [(a, .inr (6, [.ref a5_1, .null, .null, .int 0, .int 0, .int 0, .ref a18_2, .ref a26_3, .ref a34_4, .null, .null, .null, .int 0])), (a5_1, .inr (9, [.ref rise_9, .ref blamed_9, .ref came_9, .int 0])), (rise_9, .inl (cy 0, 384, .inl (fun _ => 0))), (blamed_9, .inl (cy 2, 384, .inr (.inl (fun _ => 0)))), (came_9, .inl (cy 0, 96, .inl (fun _ => 0))), (a18_2, .inl (cy 0, 96, .inl (fun _ => 0))), (a26_3, .inl (cy 0, 96, .inl (fun _ => 0))), (a34_4, .inl (cy 0, 96, .inl (fun _ => 0)))] H := hP
  have hD : va_D A [(a, .inr (6, [.ref a5_1, .null, .null, .int 0, .int 0, .int 0, .ref a18_2, .ref a26_3, .ref a34_4, .null, .null, .null, .int 0])), (a5_1, .inr (9, [.ref rise_9, .ref blamed_9, .ref came_9, .int 0])), (rise_9, .inl (cy 0, 384, .inl (fun _ => 0))), (blamed_9, .inl (cy 2, 384, .inr (.inl (fun _ => 0)))), (came_9, .inl (cy 0, 96, .inl (fun _ => 0))), (a18_2, .inl (cy 0, 96, .inl (fun _ => 0))), (a26_3, .inl (cy 0, 96, .inl (fun _ => 0))), (a34_4, .inl (cy 0, 96, .inl (fun _ => 0)))] := hD
  refine lv_aload_n S.1 S.2.1 dX6_init_39 rfl (lv_at hl 0 rfl) ?_
  refine lv_bipush (v := 96) S.1 S.2.1 dX6_init_40 (by decide) ?_
  refine r_newa S (atype := .long) (ty := .long) rfl kw_376 hK hP hD hS hA 2 rfl (a0 := (96, .inr (.inl (fun _ => 0)))) (fun _ => rfl) (by decide) (by decide) (by decide) (by decide) (by decide) dX6_init_42 (fun a42_5 H hP hD hS => ?_)
  have hP : va_P D vwCl [(a, .inr (6, [.ref a5_1, .null, .null, .int 0, .int 0, .int 0, .ref a18_2, .ref a26_3, .ref a34_4, .null, .null, .null, .int 0])), (a5_1, .inr (9, [.ref rise_9, .ref blamed_9, .ref came_9, .int 0])), (rise_9, .inl (cy 0, 384, .inl (fun _ => 0))), (blamed_9, .inl (cy 2, 384, .inr (.inl (fun _ => 0)))), (came_9, .inl (cy 0, 96, .inl (fun _ => 0))), (a18_2, .inl (cy 0, 96, .inl (fun _ => 0))), (a26_3, .inl (cy 0, 96, .inl (fun _ => 0))), (a34_4, .inl (cy 0, 96, .inl (fun _ => 0))), (a42_5, .inl (cy 2, 96, .inr (.inl (fun _ => 0))))] H := hP
  have hD : va_D A [(a, .inr (6, [.ref a5_1, .null, .null, .int 0, .int 0, .int 0, .ref a18_2, .ref a26_3, .ref a34_4, .null, .null, .null, .int 0])), (a5_1, .inr (9, [.ref rise_9, .ref blamed_9, .ref came_9, .int 0])), (rise_9, .inl (cy 0, 384, .inl (fun _ => 0))), (blamed_9, .inl (cy 2, 384, .inr (.inl (fun _ => 0)))), (came_9, .inl (cy 0, 96, .inl (fun _ => 0))), (a18_2, .inl (cy 0, 96, .inl (fun _ => 0))), (a26_3, .inl (cy 0, 96, .inl (fun _ => 0))), (a34_4, .inl (cy 0, 96, .inl (fun _ => 0))), (a42_5, .inl (cy 2, 96, .inr (.inl (fun _ => 0))))] := hD
  refine r_putF S hK hP hD hS 0 6 rfl rfl inX6 9 (by decide) tyX6 tyX6_ok nmX6 kw_435 (v := .ref a42_5) rfl hnm rfl rfl rfl (Nat.le_of_ble_eq_true rfl) dX6_init_44 (fun H locs hP hD hS => ?_)
  have hP : va_P D vwCl [(a, .inr (6, [.ref a5_1, .null, .null, .int 0, .int 0, .int 0, .ref a18_2, .ref a26_3, .ref a34_4, .ref a42_5, .null, .null, .int 0])), (a5_1, .inr (9, [.ref rise_9, .ref blamed_9, .ref came_9, .int 0])), (rise_9, .inl (cy 0, 384, .inl (fun _ => 0))), (blamed_9, .inl (cy 2, 384, .inr (.inl (fun _ => 0)))), (came_9, .inl (cy 0, 96, .inl (fun _ => 0))), (a18_2, .inl (cy 0, 96, .inl (fun _ => 0))), (a26_3, .inl (cy 0, 96, .inl (fun _ => 0))), (a34_4, .inl (cy 0, 96, .inl (fun _ => 0))), (a42_5, .inl (cy 2, 96, .inr (.inl (fun _ => 0))))] H := hP
  have hD : va_D A [(a, .inr (6, [.ref a5_1, .null, .null, .int 0, .int 0, .int 0, .ref a18_2, .ref a26_3, .ref a34_4, .ref a42_5, .null, .null, .int 0])), (a5_1, .inr (9, [.ref rise_9, .ref blamed_9, .ref came_9, .int 0])), (rise_9, .inl (cy 0, 384, .inl (fun _ => 0))), (blamed_9, .inl (cy 2, 384, .inr (.inl (fun _ => 0)))), (came_9, .inl (cy 0, 96, .inl (fun _ => 0))), (a18_2, .inl (cy 0, 96, .inl (fun _ => 0))), (a26_3, .inl (cy 0, 96, .inl (fun _ => 0))), (a34_4, .inl (cy 0, 96, .inl (fun _ => 0))), (a42_5, .inl (cy 2, 96, .inr (.inl (fun _ => 0))))] := hD
  refine lv_aload_n S.1 S.2.1 dX6_init_47 rfl (lv_at hl 0 rfl) ?_
  refine lv_bipush (v := 96) S.1 S.2.1 dX6_init_48 (by decide) ?_
  refine r_newa S (atype := .long) (ty := .long) rfl kw_376 hK hP hD hS hA 2 rfl (a0 := (96, .inr (.inl (fun _ => 0)))) (fun _ => rfl) (by decide) (by decide) (by decide) (by decide) (by decide) dX6_init_50 (fun a50_6 H hP hD hS => ?_)
  have hP : va_P D vwCl [(a, .inr (6, [.ref a5_1, .null, .null, .int 0, .int 0, .int 0, .ref a18_2, .ref a26_3, .ref a34_4, .ref a42_5, .null, .null, .int 0])), (a5_1, .inr (9, [.ref rise_9, .ref blamed_9, .ref came_9, .int 0])), (rise_9, .inl (cy 0, 384, .inl (fun _ => 0))), (blamed_9, .inl (cy 2, 384, .inr (.inl (fun _ => 0)))), (came_9, .inl (cy 0, 96, .inl (fun _ => 0))), (a18_2, .inl (cy 0, 96, .inl (fun _ => 0))), (a26_3, .inl (cy 0, 96, .inl (fun _ => 0))), (a34_4, .inl (cy 0, 96, .inl (fun _ => 0))), (a42_5, .inl (cy 2, 96, .inr (.inl (fun _ => 0)))), (a50_6, .inl (cy 2, 96, .inr (.inl (fun _ => 0))))] H := hP
  have hD : va_D A [(a, .inr (6, [.ref a5_1, .null, .null, .int 0, .int 0, .int 0, .ref a18_2, .ref a26_3, .ref a34_4, .ref a42_5, .null, .null, .int 0])), (a5_1, .inr (9, [.ref rise_9, .ref blamed_9, .ref came_9, .int 0])), (rise_9, .inl (cy 0, 384, .inl (fun _ => 0))), (blamed_9, .inl (cy 2, 384, .inr (.inl (fun _ => 0)))), (came_9, .inl (cy 0, 96, .inl (fun _ => 0))), (a18_2, .inl (cy 0, 96, .inl (fun _ => 0))), (a26_3, .inl (cy 0, 96, .inl (fun _ => 0))), (a34_4, .inl (cy 0, 96, .inl (fun _ => 0))), (a42_5, .inl (cy 2, 96, .inr (.inl (fun _ => 0)))), (a50_6, .inl (cy 2, 96, .inr (.inl (fun _ => 0))))] := hD
  refine r_putF S hK hP hD hS 0 6 rfl rfl inX6 10 (by decide) tyX6 tyX6_ok nmX6 kw_436 (v := .ref a50_6) rfl hnm rfl rfl rfl (Nat.le_of_ble_eq_true rfl) dX6_init_52 (fun H locs hP hD hS => ?_)
  have hP : va_P D vwCl [(a, .inr (6, [.ref a5_1, .null, .null, .int 0, .int 0, .int 0, .ref a18_2, .ref a26_3, .ref a34_4, .ref a42_5, .ref a50_6, .null, .int 0])), (a5_1, .inr (9, [.ref rise_9, .ref blamed_9, .ref came_9, .int 0])), (rise_9, .inl (cy 0, 384, .inl (fun _ => 0))), (blamed_9, .inl (cy 2, 384, .inr (.inl (fun _ => 0)))), (came_9, .inl (cy 0, 96, .inl (fun _ => 0))), (a18_2, .inl (cy 0, 96, .inl (fun _ => 0))), (a26_3, .inl (cy 0, 96, .inl (fun _ => 0))), (a34_4, .inl (cy 0, 96, .inl (fun _ => 0))), (a42_5, .inl (cy 2, 96, .inr (.inl (fun _ => 0)))), (a50_6, .inl (cy 2, 96, .inr (.inl (fun _ => 0))))] H := hP
  have hD : va_D A [(a, .inr (6, [.ref a5_1, .null, .null, .int 0, .int 0, .int 0, .ref a18_2, .ref a26_3, .ref a34_4, .ref a42_5, .ref a50_6, .null, .int 0])), (a5_1, .inr (9, [.ref rise_9, .ref blamed_9, .ref came_9, .int 0])), (rise_9, .inl (cy 0, 384, .inl (fun _ => 0))), (blamed_9, .inl (cy 2, 384, .inr (.inl (fun _ => 0)))), (came_9, .inl (cy 0, 96, .inl (fun _ => 0))), (a18_2, .inl (cy 0, 96, .inl (fun _ => 0))), (a26_3, .inl (cy 0, 96, .inl (fun _ => 0))), (a34_4, .inl (cy 0, 96, .inl (fun _ => 0))), (a42_5, .inl (cy 2, 96, .inr (.inl (fun _ => 0)))), (a50_6, .inl (cy 2, 96, .inr (.inl (fun _ => 0))))] := hD
  refine lv_aload_n S.1 S.2.1 dX6_init_55 rfl (lv_at hl 0 rfl) ?_
  refine lv_bipush (v := 96) S.1 S.2.1 dX6_init_56 (by decide) ?_
  refine r_newa S (atype := .int) (ty := .int) rfl kw_224 hK hP hD hS hA 0 rfl (a0 := (96, .inl (fun _ => 0))) (fun _ => rfl) (by decide) (by decide) (by decide) (by decide) (by decide) dX6_init_58 (fun a58_7 H hP hD hS => ?_)
  have hP : va_P D vwCl [(a, .inr (6, [.ref a5_1, .null, .null, .int 0, .int 0, .int 0, .ref a18_2, .ref a26_3, .ref a34_4, .ref a42_5, .ref a50_6, .null, .int 0])), (a5_1, .inr (9, [.ref rise_9, .ref blamed_9, .ref came_9, .int 0])), (rise_9, .inl (cy 0, 384, .inl (fun _ => 0))), (blamed_9, .inl (cy 2, 384, .inr (.inl (fun _ => 0)))), (came_9, .inl (cy 0, 96, .inl (fun _ => 0))), (a18_2, .inl (cy 0, 96, .inl (fun _ => 0))), (a26_3, .inl (cy 0, 96, .inl (fun _ => 0))), (a34_4, .inl (cy 0, 96, .inl (fun _ => 0))), (a42_5, .inl (cy 2, 96, .inr (.inl (fun _ => 0)))), (a50_6, .inl (cy 2, 96, .inr (.inl (fun _ => 0)))), (a58_7, .inl (cy 0, 96, .inl (fun _ => 0)))] H := hP
  have hD : va_D A [(a, .inr (6, [.ref a5_1, .null, .null, .int 0, .int 0, .int 0, .ref a18_2, .ref a26_3, .ref a34_4, .ref a42_5, .ref a50_6, .null, .int 0])), (a5_1, .inr (9, [.ref rise_9, .ref blamed_9, .ref came_9, .int 0])), (rise_9, .inl (cy 0, 384, .inl (fun _ => 0))), (blamed_9, .inl (cy 2, 384, .inr (.inl (fun _ => 0)))), (came_9, .inl (cy 0, 96, .inl (fun _ => 0))), (a18_2, .inl (cy 0, 96, .inl (fun _ => 0))), (a26_3, .inl (cy 0, 96, .inl (fun _ => 0))), (a34_4, .inl (cy 0, 96, .inl (fun _ => 0))), (a42_5, .inl (cy 2, 96, .inr (.inl (fun _ => 0)))), (a50_6, .inl (cy 2, 96, .inr (.inl (fun _ => 0)))), (a58_7, .inl (cy 0, 96, .inl (fun _ => 0)))] := hD
  refine r_putF S hK hP hD hS 0 6 rfl rfl inX6 11 (by decide) tyX6 tyX6_ok nmX6 kw_437 (v := .ref a58_7) rfl hnm rfl rfl rfl (Nat.le_of_ble_eq_true rfl) dX6_init_60 (fun H locs hP hD hS => ?_)
  have hP : va_P D vwCl [(a, .inr (6, [.ref a5_1, .null, .null, .int 0, .int 0, .int 0, .ref a18_2, .ref a26_3, .ref a34_4, .ref a42_5, .ref a50_6, .ref a58_7, .int 0])), (a5_1, .inr (9, [.ref rise_9, .ref blamed_9, .ref came_9, .int 0])), (rise_9, .inl (cy 0, 384, .inl (fun _ => 0))), (blamed_9, .inl (cy 2, 384, .inr (.inl (fun _ => 0)))), (came_9, .inl (cy 0, 96, .inl (fun _ => 0))), (a18_2, .inl (cy 0, 96, .inl (fun _ => 0))), (a26_3, .inl (cy 0, 96, .inl (fun _ => 0))), (a34_4, .inl (cy 0, 96, .inl (fun _ => 0))), (a42_5, .inl (cy 2, 96, .inr (.inl (fun _ => 0)))), (a50_6, .inl (cy 2, 96, .inr (.inl (fun _ => 0)))), (a58_7, .inl (cy 0, 96, .inl (fun _ => 0)))] H := hP
  have hD : va_D A [(a, .inr (6, [.ref a5_1, .null, .null, .int 0, .int 0, .int 0, .ref a18_2, .ref a26_3, .ref a34_4, .ref a42_5, .ref a50_6, .ref a58_7, .int 0])), (a5_1, .inr (9, [.ref rise_9, .ref blamed_9, .ref came_9, .int 0])), (rise_9, .inl (cy 0, 384, .inl (fun _ => 0))), (blamed_9, .inl (cy 2, 384, .inr (.inl (fun _ => 0)))), (came_9, .inl (cy 0, 96, .inl (fun _ => 0))), (a18_2, .inl (cy 0, 96, .inl (fun _ => 0))), (a26_3, .inl (cy 0, 96, .inl (fun _ => 0))), (a34_4, .inl (cy 0, 96, .inl (fun _ => 0))), (a42_5, .inl (cy 2, 96, .inr (.inl (fun _ => 0)))), (a50_6, .inl (cy 2, 96, .inr (.inl (fun _ => 0)))), (a58_7, .inl (cy 0, 96, .inl (fun _ => 0)))] := hD
  refine lv_aload_n S.1 S.2.1 dX6_init_63 rfl (lv_at hl 0 rfl) ?_
  refine lv_aload_n S.1 S.2.1 dX6_init_64 rfl (lv_at hl 1 rfl) ?_
  refine r_putF S hK hP hD hS 0 6 rfl rfl inX6 1 (by decide) tyX6 tyX6_ok nmX6 kw_425 (v := .ref sg) rfl hnm rfl rfl rfl (Nat.le_of_ble_eq_true rfl) dX6_init_65 (fun H locs hP hD hS => ?_)
  have hP : va_P D vwCl [(a, .inr (6, [.ref a5_1, .ref sg, .null, .int 0, .int 0, .int 0, .ref a18_2, .ref a26_3, .ref a34_4, .ref a42_5, .ref a50_6, .ref a58_7, .int 0])), (a5_1, .inr (9, [.ref rise_9, .ref blamed_9, .ref came_9, .int 0])), (rise_9, .inl (cy 0, 384, .inl (fun _ => 0))), (blamed_9, .inl (cy 2, 384, .inr (.inl (fun _ => 0)))), (came_9, .inl (cy 0, 96, .inl (fun _ => 0))), (a18_2, .inl (cy 0, 96, .inl (fun _ => 0))), (a26_3, .inl (cy 0, 96, .inl (fun _ => 0))), (a34_4, .inl (cy 0, 96, .inl (fun _ => 0))), (a42_5, .inl (cy 2, 96, .inr (.inl (fun _ => 0)))), (a50_6, .inl (cy 2, 96, .inr (.inl (fun _ => 0)))), (a58_7, .inl (cy 0, 96, .inl (fun _ => 0)))] H := hP
  have hD : va_D A [(a, .inr (6, [.ref a5_1, .ref sg, .null, .int 0, .int 0, .int 0, .ref a18_2, .ref a26_3, .ref a34_4, .ref a42_5, .ref a50_6, .ref a58_7, .int 0])), (a5_1, .inr (9, [.ref rise_9, .ref blamed_9, .ref came_9, .int 0])), (rise_9, .inl (cy 0, 384, .inl (fun _ => 0))), (blamed_9, .inl (cy 2, 384, .inr (.inl (fun _ => 0)))), (came_9, .inl (cy 0, 96, .inl (fun _ => 0))), (a18_2, .inl (cy 0, 96, .inl (fun _ => 0))), (a26_3, .inl (cy 0, 96, .inl (fun _ => 0))), (a34_4, .inl (cy 0, 96, .inl (fun _ => 0))), (a42_5, .inl (cy 2, 96, .inr (.inl (fun _ => 0)))), (a50_6, .inl (cy 2, 96, .inr (.inl (fun _ => 0)))), (a58_7, .inl (cy 0, 96, .inl (fun _ => 0)))] := hD
  refine lv_aload_n S.1 S.2.1 dX6_init_68 rfl (lv_at hl 0 rfl) ?_
  refine lv_aload_n S.1 S.2.1 dX6_init_69 rfl (lv_at hl 2 rfl) ?_
  refine r_putF S hK hP hD hS 0 6 rfl rfl inX6 2 (by decide) tyX6 tyX6_ok nmX6 kw_426 (v := .ref bk) rfl hnm rfl rfl rfl (Nat.le_of_ble_eq_true rfl) dX6_init_70 (fun H locs hP hD hS => ?_)
  have hP : va_P D vwCl [(a, .inr (6, [.ref a5_1, .ref sg, .ref bk, .int 0, .int 0, .int 0, .ref a18_2, .ref a26_3, .ref a34_4, .ref a42_5, .ref a50_6, .ref a58_7, .int 0])), (a5_1, .inr (9, [.ref rise_9, .ref blamed_9, .ref came_9, .int 0])), (rise_9, .inl (cy 0, 384, .inl (fun _ => 0))), (blamed_9, .inl (cy 2, 384, .inr (.inl (fun _ => 0)))), (came_9, .inl (cy 0, 96, .inl (fun _ => 0))), (a18_2, .inl (cy 0, 96, .inl (fun _ => 0))), (a26_3, .inl (cy 0, 96, .inl (fun _ => 0))), (a34_4, .inl (cy 0, 96, .inl (fun _ => 0))), (a42_5, .inl (cy 2, 96, .inr (.inl (fun _ => 0)))), (a50_6, .inl (cy 2, 96, .inr (.inl (fun _ => 0)))), (a58_7, .inl (cy 0, 96, .inl (fun _ => 0)))] H := hP
  have hD : va_D A [(a, .inr (6, [.ref a5_1, .ref sg, .ref bk, .int 0, .int 0, .int 0, .ref a18_2, .ref a26_3, .ref a34_4, .ref a42_5, .ref a50_6, .ref a58_7, .int 0])), (a5_1, .inr (9, [.ref rise_9, .ref blamed_9, .ref came_9, .int 0])), (rise_9, .inl (cy 0, 384, .inl (fun _ => 0))), (blamed_9, .inl (cy 2, 384, .inr (.inl (fun _ => 0)))), (came_9, .inl (cy 0, 96, .inl (fun _ => 0))), (a18_2, .inl (cy 0, 96, .inl (fun _ => 0))), (a26_3, .inl (cy 0, 96, .inl (fun _ => 0))), (a34_4, .inl (cy 0, 96, .inl (fun _ => 0))), (a42_5, .inl (cy 2, 96, .inr (.inl (fun _ => 0)))), (a50_6, .inl (cy 2, 96, .inr (.inl (fun _ => 0)))), (a58_7, .inl (cy 0, 96, .inl (fun _ => 0)))] := hD
  exact cv_ret (u := (a5_1, a18_2, a26_3, a34_4, a42_5, a50_6, a58_7, rise_9, blamed_9, came_9)) S hr hlk hK (hP.sub [0, 5, 6, 7, 8, 9, 10, 1, 2, 3, 4] rfl) (hD.sub [0, 5, 6, 7, 8, 9, 10, 1, 2, 3, 4] (by decide) rfl) hS (trivial) (by decide) (by decide) dX6_init_73
