abbrev cX11_cost : ByteArray := prog_1_method_16_code
def yX11_cost : MethodName := ⟨RX11, "cost", "(I)I"⟩
theorem okX11_cost : yok yX11_cost 1 := by decide +kernel
abbrev cX11_doubted : ByteArray := prog_1_method_17_code
def yX11_doubted : MethodName := ⟨RX11, "doubted", "(II)I"⟩
theorem okX11_doubted : yok yX11_doubted 2 := by decide +kernel
abbrev cX11_best : ByteArray := prog_1_method_18_code
def yX11_best : MethodName := ⟨RX11, "best", "(I)I"⟩
theorem okX11_best : yok yX11_best 1 := by decide +kernel
abbrev cX11_kept : ByteArray := prog_1_method_19_code
def yX11_kept : MethodName := ⟨RX11, "kept", "(I)I"⟩
theorem okX11_kept : yok yX11_kept 1 := by decide +kernel
abbrev cX11_lies : ByteArray := prog_1_method_21_code
def yX11_lies : MethodName := ⟨RX11, "lies", "(III)I"⟩
theorem okX11_lies : yok yX11_lies 3 := by decide +kernel
abbrev cX11_line : ByteArray := prog_1_method_22_code
def yX11_line : MethodName := ⟨RX11, "line", "(III)I"⟩
theorem okX11_line : yok yX11_line 3 := by decide +kernel
abbrev cX11_water : ByteArray := prog_1_method_24_code
def yX11_water : MethodName := ⟨RX11, "water", "(III)I"⟩
theorem okX11_water : yok yX11_water 3 := by decide +kernel
abbrev cX11_seam : ByteArray := prog_1_method_25_code
def yX11_seam : MethodName := ⟨RX11, "seam", "(III)I"⟩
theorem okX11_seam : yok yX11_seam 3 := by decide +kernel
abbrev cX11_stale : ByteArray := prog_1_method_29_code
def yX11_stale : MethodName := ⟨RX11, "stale", "(I)I"⟩
theorem okX11_stale : yok yX11_stale 1 := by decide +kernel
abbrev cX11_doubles : ByteArray := prog_1_method_30_code
def yX11_doubles : MethodName := ⟨RX11, "doubles", "(III)I"⟩
theorem okX11_doubles : yok yX11_doubles 3 := by decide +kernel
abbrev cX11_doubt : ByteArray := prog_1_method_34_code
def yX11_doubt : MethodName := ⟨RX11, "doubt", "()I"⟩
theorem okX11_doubt : yok yX11_doubt 0 := by decide +kernel
abbrev cX11_left : ByteArray := prog_1_method_35_code
def yX11_left : MethodName := ⟨RX11, "left", "(I)I"⟩
theorem okX11_left : yok yX11_left 1 := by decide +kernel
abbrev cX11_next : ByteArray := prog_1_method_36_code
def yX11_next : MethodName := ⟨RX11, "next", "()I"⟩
theorem okX11_next : yok yX11_next 0 := by decide +kernel
abbrev cX11_count : ByteArray := prog_1_method_37_code
def yX11_count : MethodName := ⟨RX11, "count", "(I)I"⟩
theorem okX11_count : yok yX11_count 1 := by decide +kernel
abbrev cX11_sheet : ByteArray := prog_1_method_26_code
def yX11_sheet : MethodName := ⟨RX11, "sheet", "(IIII)I"⟩
theorem okX11_sheet : yok yX11_sheet 4 := by decide +kernel
theorem kw_955 : Cond.code yX11_groundOf prog_1_method_52_code 3 (some (.object "LandSurvey$Ground")) ∈ uu := uu_in (i := 955) (by decide +kernel) (by decide +kernel)
theorem kw_952 : Cond.methodLink "LandSurvey" 197 yX11_groundOf ∈ uu := uu_in (i := 952) (by decide +kernel) (by decide +kernel)
theorem kw_954 : Cond.instanceMethod yX11_groundOf ∈ uu := uu_in (i := 954) (by decide +kernel) (by decide +kernel)
theorem kw_21 : Cond.selects "LandSurvey" yX11_groundOf yX11_groundOf ∈ uu := uu_in (i := 21) (by decide +kernel) (by decide +kernel)
theorem kw_1015 : Cond.fieldLink "LandSurvey" 218 "LandSurvey$Ground" "set" "I" ∈ uu := uu_in (i := 1015) (by decide +kernel) (by decide +kernel)
theorem kw_1024 : Cond.fieldLink "LandSurvey" 221 "LandSurvey$Ground" "doubted" "J" ∈ uu := uu_in (i := 1024) (by decide +kernel) (by decide +kernel)
theorem kw_169 : Cond.initialized "java/lang/Long" ∈ uu := uu_in (i := 169) (by decide +kernel) (by decide +kernel)
theorem kw_1155 : Cond.code yJ13_bitCount_95d88 prog_20_method_50_code 2 (some .int) ∈ uu := uu_in (i := 1155) (by decide +kernel) (by decide +kernel)
theorem kw_1153 : Cond.methodLink "LandSurvey" 225 yJ13_bitCount_95d88 ∈ uu := uu_in (i := 1153) (by decide +kernel) (by decide +kernel)
theorem kw_1154 : Cond.static yJ13_bitCount_95d88 ∈ uu := uu_in (i := 1154) (by decide +kernel) (by decide +kernel)
theorem kw_1148 : Cond.code yX11_countKept prog_1_method_55_code 3 (some .int) ∈ uu := uu_in (i := 1148) (by decide +kernel) (by decide +kernel)
theorem kw_1145 : Cond.methodLink "LandSurvey" 211 yX11_countKept ∈ uu := uu_in (i := 1145) (by decide +kernel) (by decide +kernel)
theorem kw_1147 : Cond.instanceMethod yX11_countKept ∈ uu := uu_in (i := 1147) (by decide +kernel) (by decide +kernel)
theorem kw_37 : Cond.selects "LandSurvey" yX11_countKept yX11_countKept ∈ uu := uu_in (i := 37) (by decide +kernel) (by decide +kernel)
theorem kw_1170 : Cond.code yX11_prepare prog_1_method_56_code 2 (some .boolean) ∈ uu := uu_in (i := 1170) (by decide +kernel) (by decide +kernel)
theorem kw_1167 : Cond.methodLink "LandSurvey" 253 yX11_prepare ∈ uu := uu_in (i := 1167) (by decide +kernel) (by decide +kernel)
theorem kw_1169 : Cond.instanceMethod yX11_prepare ∈ uu := uu_in (i := 1169) (by decide +kernel) (by decide +kernel)
theorem kw_39 : Cond.selects "LandSurvey" yX11_prepare yX11_prepare ∈ uu := uu_in (i := 39) (by decide +kernel) (by decide +kernel)
theorem kw_646 : Cond.code yX11_neighbour prog_1_method_39_code 2 (some .int) ∈ uu := uu_in (i := 646) (by decide +kernel) (by decide +kernel)
theorem kw_644 : Cond.methodLink "LandSurvey" 118 yX11_neighbour ∈ uu := uu_in (i := 644) (by decide +kernel) (by decide +kernel)
theorem kw_645 : Cond.static yX11_neighbour ∈ uu := uu_in (i := 645) (by decide +kernel) (by decide +kernel)
theorem kw_1195 : Cond.code yX11_gatherLineFacts prog_1_method_62_code 11 none ∈ uu := uu_in (i := 1195) (by decide +kernel) (by decide +kernel)
theorem kw_1192 : Cond.methodLink "LandSurvey" 259 yX11_gatherLineFacts ∈ uu := uu_in (i := 1192) (by decide +kernel) (by decide +kernel)
theorem kw_1194 : Cond.instanceMethod yX11_gatherLineFacts ∈ uu := uu_in (i := 1194) (by decide +kernel) (by decide +kernel)
theorem kw_42 : Cond.selects "LandSurvey" yX11_gatherLineFacts yX11_gatherLineFacts ∈ uu := uu_in (i := 42) (by decide +kernel) (by decide +kernel)
theorem kw_980 : Cond.code yX5_firstThatTells prog_7_method_10_code 4 (some .int) ∈ uu := uu_in (i := 980) (by decide +kernel) (by decide +kernel)
theorem kw_977 : Cond.methodLink "LandSurvey" 263 yX5_firstThatTells ∈ uu := uu_in (i := 977) (by decide +kernel) (by decide +kernel)
theorem kw_978 : Cond.instanceMethod yX5_firstThatTells ∈ uu := uu_in (i := 978) (by decide +kernel) (by decide +kernel)
theorem kw_979 : Cond.selects "LandSurvey$Rules" yX5_firstThatTells yX5_firstThatTells ∈ uu := uu_in (i := 979) (by decide +kernel) (by decide +kernel)
theorem kw_1209 : Cond.code yX11_allKeptKnown prog_1_method_57_code 2 (some .boolean) ∈ uu := uu_in (i := 1209) (by decide +kernel) (by decide +kernel)
theorem kw_1206 : Cond.methodLink "LandSurvey" 275 yX11_allKeptKnown ∈ uu := uu_in (i := 1206) (by decide +kernel) (by decide +kernel)
theorem kw_1208 : Cond.instanceMethod yX11_allKeptKnown ∈ uu := uu_in (i := 1208) (by decide +kernel) (by decide +kernel)
theorem kw_43 : Cond.selects "LandSurvey" yX11_allKeptKnown yX11_allKeptKnown ∈ uu := uu_in (i := 43) (by decide +kernel) (by decide +kernel)
theorem kw_1247 : Cond.code yX11_isRock prog_1_method_42_code 2 (some .boolean) ∈ uu := uu_in (i := 1247) (by decide +kernel) (by decide +kernel)
theorem kw_1244 : Cond.methodLink "LandSurvey" 272 yX11_isRock ∈ uu := uu_in (i := 1244) (by decide +kernel) (by decide +kernel)
theorem kw_1246 : Cond.instanceMethod yX11_isRock ∈ uu := uu_in (i := 1246) (by decide +kernel) (by decide +kernel)
theorem kw_48 : Cond.selects "LandSurvey" yX11_isRock yX11_isRock ∈ uu := uu_in (i := 48) (by decide +kernel) (by decide +kernel)
theorem kw_1297 : Cond.code yX11_isHand prog_1_method_44_code 1 (some .boolean) ∈ uu := uu_in (i := 1297) (by decide +kernel) (by decide +kernel)
theorem kw_1295 : Cond.methodLink "LandSurvey" 315 yX11_isHand ∈ uu := uu_in (i := 1295) (by decide +kernel) (by decide +kernel)
theorem kw_1296 : Cond.static yX11_isHand ∈ uu := uu_in (i := 1296) (by decide +kernel) (by decide +kernel)
theorem kw_1316 : Cond.code yX11_knownBest prog_1_method_58_code 1 (some (.object "LandSurvey$Ground")) ∈ uu := uu_in (i := 1316) (by decide +kernel) (by decide +kernel)
theorem kw_1313 : Cond.methodLink "LandSurvey" 346 yX11_knownBest ∈ uu := uu_in (i := 1313) (by decide +kernel) (by decide +kernel)
theorem kw_1315 : Cond.instanceMethod yX11_knownBest ∈ uu := uu_in (i := 1315) (by decide +kernel) (by decide +kernel)
theorem kw_53 : Cond.selects "LandSurvey" yX11_knownBest yX11_knownBest ∈ uu := uu_in (i := 53) (by decide +kernel) (by decide +kernel)
theorem kw_1352 : Cond.code yX11_countSaying prog_1_method_50_code 4 (some .int) ∈ uu := uu_in (i := 1352) (by decide +kernel) (by decide +kernel)
theorem kw_1349 : Cond.methodLink "LandSurvey" 365 yX11_countSaying ∈ uu := uu_in (i := 1349) (by decide +kernel) (by decide +kernel)
theorem kw_1351 : Cond.instanceMethod yX11_countSaying ∈ uu := uu_in (i := 1351) (by decide +kernel) (by decide +kernel)
theorem kw_57 : Cond.selects "LandSurvey" yX11_countSaying yX11_countSaying ∈ uu := uu_in (i := 57) (by decide +kernel) (by decide +kernel)
theorem kw_380 : Cond.fieldLink "LandSurvey" 369 "LandSurvey$RuleBook" "size" "I" ∈ uu := uu_in (i := 380) (by decide +kernel) (by decide +kernel)
theorem kw_1360 : Cond.code yX11_countCertain prog_1_method_61_code 3 (some .int) ∈ uu := uu_in (i := 1360) (by decide +kernel) (by decide +kernel)
theorem kw_1357 : Cond.methodLink "LandSurvey" 372 yX11_countCertain ∈ uu := uu_in (i := 1357) (by decide +kernel) (by decide +kernel)
theorem kw_1359 : Cond.instanceMethod yX11_countCertain ∈ uu := uu_in (i := 1359) (by decide +kernel) (by decide +kernel)
theorem kw_59 : Cond.selects "LandSurvey" yX11_countCertain yX11_countCertain ∈ uu := uu_in (i := 59) (by decide +kernel) (by decide +kernel)
theorem kw_1264 : Cond.instantiable "LandSurvey$Sheet" 1 ∈ uu := uu_in (i := 1264) (by decide +kernel) (by decide +kernel)
theorem kw_171 : Cond.initialized "LandSurvey$Sheet" ∈ uu := uu_in (i := 171) (by decide +kernel) (by decide +kernel)
theorem kw_1267 : Cond.code yX7_init prog_9_method_1_code 1 none ∈ uu := uu_in (i := 1267) (by decide +kernel) (by decide +kernel)
theorem kw_1265 : Cond.methodLink "LandSurvey" 308 yX7_init ∈ uu := uu_in (i := 1265) (by decide +kernel) (by decide +kernel)
theorem kw_1266 : Cond.instanceMethod yX7_init ∈ uu := uu_in (i := 1266) (by decide +kernel) (by decide +kernel)
theorem kw_1271 : Cond.fieldLink "LandSurvey" 309 "LandSurvey$Sheet" "bits" "[I" ∈ uu := uu_in (i := 1271) (by decide +kernel) (by decide +kernel)
theorem dX11_cost_0 : decode cX11_cost 0 = .ok (.aload_n 0, 1) := by decide +kernel
theorem dX11_cost_1 : decode cX11_cost 1 = .ok (.iload_n 1, 1) := by decide +kernel
theorem dX11_cost_2 : decode cX11_cost 2 = .ok (.invokevirtual 197, 3) := by decide +kernel
theorem dX11_cost_5 : decode cX11_cost 5 = .ok (.astore_n 2, 1) := by decide +kernel
theorem dX11_cost_6 : decode cX11_cost 6 = .ok (.aload_n 2, 1) := by decide +kernel
theorem dX11_cost_7 : decode cX11_cost 7 = .ok (.ifnonnull 7, 3) := by decide +kernel
theorem dX11_cost_14 : decode cX11_cost 14 = .ok (.aload_n 2, 1) := by decide +kernel
theorem dX11_cost_15 : decode cX11_cost 15 = .ok (.getfield 201, 3) := by decide +kernel
theorem dX11_cost_18 : decode cX11_cost 18 = .ok (.ireturn, 1) := by decide +kernel
theorem dX11_cost_10 : decode cX11_cost 10 = .ok (.iconst (-1), 1) := by decide +kernel
theorem dX11_cost_11 : decode cX11_cost 11 = .ok (.goto 7, 3) := by decide +kernel
theorem dX11_doubted_0 : decode cX11_doubted 0 = .ok (.aload_n 0, 1) := by decide +kernel
theorem dX11_doubted_1 : decode cX11_doubted 1 = .ok (.iload_n 1, 1) := by decide +kernel
theorem dX11_doubted_2 : decode cX11_doubted 2 = .ok (.invokevirtual 197, 3) := by decide +kernel
theorem dX11_doubted_5 : decode cX11_doubted 5 = .ok (.astore_n 3, 1) := by decide +kernel
theorem dX11_doubted_6 : decode cX11_doubted 6 = .ok (.aload_n 3, 1) := by decide +kernel
theorem dX11_doubted_7 : decode cX11_doubted 7 = .ok (.ifnull 7, 3) := by decide +kernel
theorem dX11_doubted_10 : decode cX11_doubted 10 = .ok (.iload_n 2, 1) := by decide +kernel
theorem dX11_doubted_11 : decode cX11_doubted 11 = .ok (.ifCond .ge 5, 3) := by decide +kernel
theorem dX11_doubted_16 : decode cX11_doubted 16 = .ok (.iload_n 2, 1) := by decide +kernel
theorem dX11_doubted_17 : decode cX11_doubted 17 = .ok (.istore 4, 2) := by decide +kernel
theorem dX11_doubted_19 : decode cX11_doubted 19 = .ok (.iconst 0, 1) := by decide +kernel
theorem dX11_doubted_20 : decode cX11_doubted 20 = .ok (.istore 5, 2) := by decide +kernel
theorem dX11_doubted_22 : decode cX11_doubted 22 = .ok (.iload 5, 2) := by decide +kernel
theorem dX11_doubted_24 : decode cX11_doubted 24 = .ok (.aload_n 0, 1) := by decide +kernel
theorem dX11_doubted_25 : decode cX11_doubted 25 = .ok (.getfield 102, 3) := by decide +kernel
theorem dX11_doubted_28 : decode cX11_doubted 28 = .ok (.if_icmp .ge 29, 3) := by decide +kernel
theorem dX11_doubted_57 : decode cX11_doubted 57 = .ok (.iconst (-1), 1) := by decide +kernel
theorem dX11_doubted_58 : decode cX11_doubted 58 = .ok (.ireturn, 1) := by decide +kernel
theorem dX11_doubted_14 : decode cX11_doubted 14 = .ok (.iconst (-1), 1) := by decide +kernel
theorem dX11_doubted_15 : decode cX11_doubted 15 = .ok (.ireturn, 1) := by decide +kernel
theorem dX11_best_0 : decode cX11_best 0 = .ok (.aload_n 0, 1) := by decide +kernel
theorem dX11_best_1 : decode cX11_best 1 = .ok (.invokevirtual 207, 3) := by decide +kernel
theorem dX11_best_4 : decode cX11_best 4 = .ok (.pop, 1) := by decide +kernel
theorem dX11_best_5 : decode cX11_best 5 = .ok (.iload_n 1, 1) := by decide +kernel
theorem dX11_best_6 : decode cX11_best 6 = .ok (.iconst 3, 1) := by decide +kernel
theorem dX11_best_7 : decode cX11_best 7 = .ok (.if_icmp .ne 8, 3) := by decide +kernel
theorem dX11_best_15 : decode cX11_best 15 = .ok (.aload_n 0, 1) := by decide +kernel
theorem dX11_best_16 : decode cX11_best 16 = .ok (.getfield 214, 3) := by decide +kernel
theorem dX11_best_19 : decode cX11_best 19 = .ok (.ifnonnull 5, 3) := by decide +kernel
theorem dX11_best_24 : decode cX11_best 24 = .ok (.iload_n 1, 1) := by decide +kernel
theorem dX11_best_25 : decode cX11_best 25 = .ok (.tableswitch 54 0 2 #[27, 35, 43], 27) := by decide +kernel
theorem dX11_best_52 : decode cX11_best 52 = .ok (.aload_n 0, 1) := by decide +kernel
theorem dX11_best_53 : decode cX11_best 53 = .ok (.getfield 214, 3) := by decide +kernel
theorem dX11_best_56 : decode cX11_best 56 = .ok (.getfield 218, 3) := by decide +kernel
theorem dX11_best_59 : decode cX11_best 59 = .ok (.ireturn, 1) := by decide +kernel
theorem dX11_best_60 : decode cX11_best 60 = .ok (.aload_n 0, 1) := by decide +kernel
theorem dX11_best_61 : decode cX11_best 61 = .ok (.getfield 214, 3) := by decide +kernel
theorem dX11_best_64 : decode cX11_best 64 = .ok (.getfield 201, 3) := by decide +kernel
theorem dX11_best_67 : decode cX11_best 67 = .ok (.ireturn, 1) := by decide +kernel
theorem dX11_best_68 : decode cX11_best 68 = .ok (.aload_n 0, 1) := by decide +kernel
theorem dX11_best_69 : decode cX11_best 69 = .ok (.getfield 214, 3) := by decide +kernel
theorem dX11_best_72 : decode cX11_best 72 = .ok (.getfield 221, 3) := by decide +kernel
theorem dX11_best_75 : decode cX11_best 75 = .ok (.invokestatic 225, 3) := by decide +kernel
theorem dX11_best_78 : decode cX11_best 78 = .ok (.ireturn, 1) := by decide +kernel
theorem dX11_best_79 : decode cX11_best 79 = .ok (.iconst (-1), 1) := by decide +kernel
theorem dX11_best_80 : decode cX11_best 80 = .ok (.ireturn, 1) := by decide +kernel
theorem dX11_best_10 : decode cX11_best 10 = .ok (.aload_n 0, 1) := by decide +kernel
theorem dX11_best_11 : decode cX11_best 11 = .ok (.invokevirtual 211, 3) := by decide +kernel
theorem dX11_best_14 : decode cX11_best 14 = .ok (.ireturn, 1) := by decide +kernel
theorem dX11_kept_0 : decode cX11_kept 0 = .ok (.aload_n 0, 1) := by decide +kernel
theorem dX11_kept_1 : decode cX11_kept 1 = .ok (.iload_n 1, 1) := by decide +kernel
theorem dX11_kept_2 : decode cX11_kept 2 = .ok (.invokevirtual 231, 3) := by decide +kernel
theorem dX11_kept_5 : decode cX11_kept 5 = .ok (.ifCond .ne 5, 3) := by decide +kernel
theorem dX11_kept_10 : decode cX11_kept 10 = .ok (.aload_n 0, 1) := by decide +kernel
theorem dX11_kept_11 : decode cX11_kept 11 = .ok (.invokevirtual 207, 3) := by decide +kernel
theorem dX11_kept_14 : decode cX11_kept 14 = .ok (.pop, 1) := by decide +kernel
theorem dX11_kept_15 : decode cX11_kept 15 = .ok (.aload_n 0, 1) := by decide +kernel
theorem dX11_kept_16 : decode cX11_kept 16 = .ok (.iload_n 1, 1) := by decide +kernel
theorem dX11_kept_17 : decode cX11_kept 17 = .ok (.invokevirtual 234, 3) := by decide +kernel
theorem dX11_kept_20 : decode cX11_kept 20 = .ok (.ifCond .eq 7, 3) := by decide +kernel
theorem dX11_kept_23 : decode cX11_kept 23 = .ok (.iconst 1, 1) := by decide +kernel
theorem dX11_kept_24 : decode cX11_kept 24 = .ok (.goto 4, 3) := by decide +kernel
theorem dX11_kept_28 : decode cX11_kept 28 = .ok (.ireturn, 1) := by decide +kernel
theorem dX11_kept_8 : decode cX11_kept 8 = .ok (.iconst (-1), 1) := by decide +kernel
theorem dX11_kept_9 : decode cX11_kept 9 = .ok (.ireturn, 1) := by decide +kernel
theorem dX11_lies_0 : decode cX11_lies 0 = .ok (.iload_n 1, 1) := by decide +kernel
theorem dX11_lies_1 : decode cX11_lies 1 = .ok (.iload_n 2, 1) := by decide +kernel
theorem dX11_lies_2 : decode cX11_lies 2 = .ok (.invokestatic 85, 3) := by decide +kernel
theorem dX11_lies_5 : decode cX11_lies 5 = .ok (.istore 4, 2) := by decide +kernel
theorem dX11_lies_7 : decode cX11_lies 7 = .ok (.iload 4, 2) := by decide +kernel
theorem dX11_lies_9 : decode cX11_lies 9 = .ok (.iconst (-1), 1) := by decide +kernel
theorem dX11_lies_10 : decode cX11_lies 10 = .ok (.if_icmp .eq 21, 3) := by decide +kernel
theorem dX11_lies_31 : decode cX11_lies 31 = .ok (.iconst (-1), 1) := by decide +kernel
theorem dX11_lies_32 : decode cX11_lies 32 = .ok (.ireturn, 1) := by decide +kernel
theorem dX11_lies_13 : decode cX11_lies 13 = .ok (.iload_n 3, 1) := by decide +kernel
theorem dX11_lies_14 : decode cX11_lies 14 = .ok (.ifCond .lt 17, 3) := by decide +kernel
theorem dX11_lies_17 : decode cX11_lies 17 = .ok (.iload_n 3, 1) := by decide +kernel
theorem dX11_lies_18 : decode cX11_lies 18 = .ok (.sipush 2000, 3) := by decide +kernel
theorem dX11_lies_21 : decode cX11_lies 21 = .ok (.if_icmp .gt 10, 3) := by decide +kernel
theorem dX11_lies_24 : decode cX11_lies 24 = .ok (.aload_n 0, 1) := by decide +kernel
theorem dX11_lies_25 : decode cX11_lies 25 = .ok (.invokevirtual 253, 3) := by decide +kernel
theorem dX11_lies_28 : decode cX11_lies 28 = .ok (.ifCond .ne 5, 3) := by decide +kernel
theorem dX11_lies_33 : decode cX11_lies 33 = .ok (.aload_n 0, 1) := by decide +kernel
theorem dX11_lies_34 : decode cX11_lies 34 = .ok (.iload 4, 2) := by decide +kernel
theorem dX11_lies_36 : decode cX11_lies 36 = .ok (.iload_n 3, 1) := by decide +kernel
theorem dX11_lies_37 : decode cX11_lies 37 = .ok (.invokevirtual 256, 3) := by decide +kernel
theorem dX11_lies_40 : decode cX11_lies 40 = .ok (.ireturn, 1) := by decide +kernel
theorem dX11_line_0 : decode cX11_line 0 = .ok (.iload_n 1, 1) := by decide +kernel
theorem dX11_line_1 : decode cX11_line 1 = .ok (.iload_n 2, 1) := by decide +kernel
theorem dX11_line_2 : decode cX11_line 2 = .ok (.invokestatic 85, 3) := by decide +kernel
theorem dX11_line_5 : decode cX11_line 5 = .ok (.istore 4, 2) := by decide +kernel
theorem dX11_line_7 : decode cX11_line 7 = .ok (.iload 4, 2) := by decide +kernel
theorem dX11_line_9 : decode cX11_line 9 = .ok (.iconst (-1), 1) := by decide +kernel
theorem dX11_line_10 : decode cX11_line 10 = .ok (.if_icmp .eq 12, 3) := by decide +kernel
theorem dX11_line_22 : decode cX11_line 22 = .ok (.iconst (-1), 1) := by decide +kernel
theorem dX11_line_23 : decode cX11_line 23 = .ok (.ireturn, 1) := by decide +kernel
theorem dX11_line_13 : decode cX11_line 13 = .ok (.iload_n 3, 1) := by decide +kernel
theorem dX11_line_14 : decode cX11_line 14 = .ok (.ifCond .lt 8, 3) := by decide +kernel
theorem dX11_line_17 : decode cX11_line 17 = .ok (.iload_n 3, 1) := by decide +kernel
theorem dX11_line_18 : decode cX11_line 18 = .ok (.iconst 4, 1) := by decide +kernel
theorem dX11_line_19 : decode cX11_line 19 = .ok (.if_icmp .lt 5, 3) := by decide +kernel
theorem dX11_line_24 : decode cX11_line 24 = .ok (.iload 4, 2) := by decide +kernel
theorem dX11_line_26 : decode cX11_line 26 = .ok (.iload_n 3, 1) := by decide +kernel
theorem dX11_line_27 : decode cX11_line 27 = .ok (.invokestatic 118, 3) := by decide +kernel
theorem dX11_line_30 : decode cX11_line 30 = .ok (.istore 5, 2) := by decide +kernel
theorem dX11_line_32 : decode cX11_line 32 = .ok (.iload 5, 2) := by decide +kernel
theorem dX11_line_34 : decode cX11_line 34 = .ok (.iconst (-1), 1) := by decide +kernel
theorem dX11_line_35 : decode cX11_line 35 = .ok (.if_icmp .eq 10, 3) := by decide +kernel
theorem dX11_line_45 : decode cX11_line 45 = .ok (.iconst (-1), 1) := by decide +kernel
theorem dX11_line_46 : decode cX11_line 46 = .ok (.ireturn, 1) := by decide +kernel
theorem dX11_line_38 : decode cX11_line 38 = .ok (.aload_n 0, 1) := by decide +kernel
theorem dX11_line_39 : decode cX11_line 39 = .ok (.invokevirtual 253, 3) := by decide +kernel
theorem dX11_line_42 : decode cX11_line 42 = .ok (.ifCond .ne 5, 3) := by decide +kernel
theorem dX11_line_47 : decode cX11_line 47 = .ok (.aload_n 0, 1) := by decide +kernel
theorem dX11_line_48 : decode cX11_line 48 = .ok (.iload 4, 2) := by decide +kernel
theorem dX11_line_50 : decode cX11_line 50 = .ok (.iload 5, 2) := by decide +kernel
theorem dX11_line_52 : decode cX11_line 52 = .ok (.invokevirtual 259, 3) := by decide +kernel
theorem dX11_line_55 : decode cX11_line 55 = .ok (.aload_n 0, 1) := by decide +kernel
theorem dX11_line_56 : decode cX11_line 56 = .ok (.getfield 44, 3) := by decide +kernel
theorem dX11_line_59 : decode cX11_line 59 = .ok (.iconst 2, 1) := by decide +kernel
theorem dX11_line_60 : decode cX11_line 60 = .ok (.aload_n 0, 1) := by decide +kernel
theorem dX11_line_61 : decode cX11_line 61 = .ok (.getfield 74, 3) := by decide +kernel
theorem dX11_line_64 : decode cX11_line 64 = .ok (.invokevirtual 263, 3) := by decide +kernel
theorem dX11_line_67 : decode cX11_line 67 = .ok (.istore 6, 2) := by decide +kernel
theorem dX11_line_69 : decode cX11_line 69 = .ok (.iload 6, 2) := by decide +kernel
theorem dX11_line_71 : decode cX11_line 71 = .ok (.iconst (-1), 1) := by decide +kernel
theorem dX11_line_72 : decode cX11_line 72 = .ok (.if_icmp .eq 14, 3) := by decide +kernel
theorem dX11_line_86 : decode cX11_line 86 = .ok (.aload_n 0, 1) := by decide +kernel
theorem dX11_line_87 : decode cX11_line 87 = .ok (.getfield 74, 3) := by decide +kernel
theorem dX11_line_90 : decode cX11_line 90 = .ok (.bipush 8, 2) := by decide +kernel
theorem dX11_line_92 : decode cX11_line 92 = .ok (.iaload, 1) := by decide +kernel
theorem dX11_line_93 : decode cX11_line 93 = .ok (.sipush 1000, 3) := by decide +kernel
theorem dX11_line_96 : decode cX11_line 96 = .ok (.if_icmp .ne 5, 3) := by decide +kernel
theorem dX11_line_101 : decode cX11_line 101 = .ok (.aload_n 0, 1) := by decide +kernel
theorem dX11_line_102 : decode cX11_line 102 = .ok (.getfield 74, 3) := by decide +kernel
theorem dX11_line_105 : decode cX11_line 105 = .ok (.bipush 9, 2) := by decide +kernel
theorem dX11_line_107 : decode cX11_line 107 = .ok (.iaload, 1) := by decide +kernel
theorem dX11_line_108 : decode cX11_line 108 = .ok (.sipush 1000, 3) := by decide +kernel
theorem dX11_line_111 : decode cX11_line 111 = .ok (.if_icmp .ne 5, 3) := by decide +kernel
theorem dX11_line_116 : decode cX11_line 116 = .ok (.aload_n 0, 1) := by decide +kernel
theorem dX11_line_117 : decode cX11_line 117 = .ok (.getfield 74, 3) := by decide +kernel
theorem dX11_line_120 : decode cX11_line 120 = .ok (.bipush 10, 2) := by decide +kernel
theorem dX11_line_122 : decode cX11_line 122 = .ok (.iaload, 1) := by decide +kernel
theorem dX11_line_123 : decode cX11_line 123 = .ok (.sipush 1000, 3) := by decide +kernel
theorem dX11_line_126 : decode cX11_line 126 = .ok (.if_icmp .ne 7, 3) := by decide +kernel
theorem dX11_line_133 : decode cX11_line 133 = .ok (.iconst 1, 1) := by decide +kernel
theorem dX11_line_134 : decode cX11_line 134 = .ok (.ireturn, 1) := by decide +kernel
theorem dX11_water_0 : decode cX11_water 0 = .ok (.iload_n 1, 1) := by decide +kernel
theorem dX11_water_1 : decode cX11_water 1 = .ok (.iload_n 2, 1) := by decide +kernel
theorem dX11_water_2 : decode cX11_water 2 = .ok (.invokestatic 85, 3) := by decide +kernel
theorem dX11_water_5 : decode cX11_water 5 = .ok (.istore 4, 2) := by decide +kernel
theorem dX11_water_7 : decode cX11_water 7 = .ok (.iload 4, 2) := by decide +kernel
theorem dX11_water_9 : decode cX11_water 9 = .ok (.iconst (-1), 1) := by decide +kernel
theorem dX11_water_10 : decode cX11_water 10 = .ok (.if_icmp .eq 26, 3) := by decide +kernel
theorem dX11_water_36 : decode cX11_water 36 = .ok (.iconst (-1), 1) := by decide +kernel
theorem dX11_water_37 : decode cX11_water 37 = .ok (.ireturn, 1) := by decide +kernel
theorem dX11_water_13 : decode cX11_water 13 = .ok (.iload_n 3, 1) := by decide +kernel
theorem dX11_water_14 : decode cX11_water 14 = .ok (.ifCond .lt 22, 3) := by decide +kernel
theorem dX11_water_17 : decode cX11_water 17 = .ok (.iload_n 3, 1) := by decide +kernel
theorem dX11_water_18 : decode cX11_water 18 = .ok (.iconst 1, 1) := by decide +kernel
theorem dX11_water_19 : decode cX11_water 19 = .ok (.if_icmp .gt 17, 3) := by decide +kernel
theorem dX11_water_22 : decode cX11_water 22 = .ok (.aload_n 0, 1) := by decide +kernel
theorem dX11_water_23 : decode cX11_water 23 = .ok (.invokevirtual 253, 3) := by decide +kernel
theorem dX11_water_26 : decode cX11_water 26 = .ok (.ifCond .eq 10, 3) := by decide +kernel
theorem dX11_water_29 : decode cX11_water 29 = .ok (.aload_n 0, 1) := by decide +kernel
theorem dX11_water_30 : decode cX11_water 30 = .ok (.invokevirtual 275, 3) := by decide +kernel
theorem dX11_water_33 : decode cX11_water 33 = .ok (.ifCond .ne 5, 3) := by decide +kernel
theorem dX11_seam_0 : decode cX11_seam 0 = .ok (.iload_n 2, 1) := by decide +kernel
theorem dX11_seam_1 : decode cX11_seam 1 = .ok (.ifCond .lt 17, 3) := by decide +kernel
theorem dX11_seam_18 : decode cX11_seam 18 = .ok (.iconst (-1), 1) := by decide +kernel
theorem dX11_seam_19 : decode cX11_seam 19 = .ok (.ireturn, 1) := by decide +kernel
theorem dX11_seam_4 : decode cX11_seam 4 = .ok (.iload_n 2, 1) := by decide +kernel
theorem dX11_seam_5 : decode cX11_seam 5 = .ok (.iconst 4, 1) := by decide +kernel
theorem dX11_seam_6 : decode cX11_seam 6 = .ok (.if_icmp .ge 12, 3) := by decide +kernel
theorem dX11_seam_9 : decode cX11_seam 9 = .ok (.iload_n 3, 1) := by decide +kernel
theorem dX11_seam_10 : decode cX11_seam 10 = .ok (.ifCond .lt 8, 3) := by decide +kernel
theorem dX11_seam_13 : decode cX11_seam 13 = .ok (.iload_n 3, 1) := by decide +kernel
theorem dX11_seam_14 : decode cX11_seam 14 = .ok (.iconst 1, 1) := by decide +kernel
theorem dX11_seam_15 : decode cX11_seam 15 = .ok (.if_icmp .le 5, 3) := by decide +kernel
theorem dX11_seam_20 : decode cX11_seam 20 = .ok (.aload_n 0, 1) := by decide +kernel
theorem dX11_seam_21 : decode cX11_seam 21 = .ok (.invokevirtual 253, 3) := by decide +kernel
theorem dX11_seam_24 : decode cX11_seam 24 = .ok (.ifCond .eq 18, 3) := by decide +kernel
theorem dX11_seam_27 : decode cX11_seam 27 = .ok (.aload_n 0, 1) := by decide +kernel
theorem dX11_seam_28 : decode cX11_seam 28 = .ok (.iload_n 1, 1) := by decide +kernel
theorem dX11_seam_29 : decode cX11_seam 29 = .ok (.invokevirtual 272, 3) := by decide +kernel
theorem dX11_seam_32 : decode cX11_seam 32 = .ok (.ifCond .eq 10, 3) := by decide +kernel
theorem dX11_seam_42 : decode cX11_seam 42 = .ok (.iconst (-1), 1) := by decide +kernel
theorem dX11_seam_43 : decode cX11_seam 43 = .ok (.ireturn, 1) := by decide +kernel
theorem dX11_stale_0 : decode cX11_stale 0 = .ok (.aload_n 0, 1) := by decide +kernel
theorem dX11_stale_1 : decode cX11_stale 1 = .ok (.iload_n 1, 1) := by decide +kernel
theorem dX11_stale_2 : decode cX11_stale 2 = .ok (.invokevirtual 312, 3) := by decide +kernel
theorem dX11_stale_5 : decode cX11_stale 5 = .ok (.ifCond .eq 10, 3) := by decide +kernel
theorem dX11_stale_15 : decode cX11_stale 15 = .ok (.iconst (-1), 1) := by decide +kernel
theorem dX11_stale_16 : decode cX11_stale 16 = .ok (.ireturn, 1) := by decide +kernel
theorem dX11_doubles_0 : decode cX11_doubles 0 = .ok (.iload_n 1, 1) := by decide +kernel
theorem dX11_doubles_1 : decode cX11_doubles 1 = .ok (.invokestatic 315, 3) := by decide +kernel
theorem dX11_doubles_4 : decode cX11_doubles 4 = .ok (.ifCond .eq 24, 3) := by decide +kernel
theorem dX11_doubles_7 : decode cX11_doubles 7 = .ok (.iload_n 2, 1) := by decide +kernel
theorem dX11_doubles_8 : decode cX11_doubles 8 = .ok (.invokestatic 315, 3) := by decide +kernel
theorem dX11_doubles_11 : decode cX11_doubles 11 = .ok (.ifCond .eq 17, 3) := by decide +kernel
theorem dX11_doubles_14 : decode cX11_doubles 14 = .ok (.iload_n 1, 1) := by decide +kernel
theorem dX11_doubles_15 : decode cX11_doubles 15 = .ok (.iload_n 2, 1) := by decide +kernel
theorem dX11_doubles_16 : decode cX11_doubles 16 = .ok (.if_icmp .eq 12, 3) := by decide +kernel
theorem dX11_doubles_28 : decode cX11_doubles 28 = .ok (.iconst (-1), 1) := by decide +kernel
theorem dX11_doubles_29 : decode cX11_doubles 29 = .ok (.ireturn, 1) := by decide +kernel
theorem dX11_doubles_19 : decode cX11_doubles 19 = .ok (.iload_n 3, 1) := by decide +kernel
theorem dX11_doubles_20 : decode cX11_doubles 20 = .ok (.ifCond .lt 8, 3) := by decide +kernel
theorem dX11_doubles_23 : decode cX11_doubles 23 = .ok (.iload_n 3, 1) := by decide +kernel
theorem dX11_doubles_24 : decode cX11_doubles 24 = .ok (.iconst 1, 1) := by decide +kernel
theorem dX11_doubles_25 : decode cX11_doubles 25 = .ok (.if_icmp .le 5, 3) := by decide +kernel
theorem dX11_doubles_30 : decode cX11_doubles 30 = .ok (.aload_n 0, 1) := by decide +kernel
theorem dX11_doubles_31 : decode cX11_doubles 31 = .ok (.invokevirtual 169, 3) := by decide +kernel
theorem dX11_doubles_34 : decode cX11_doubles 34 = .ok (.iconst 0, 1) := by decide +kernel
theorem dX11_doubles_35 : decode cX11_doubles 35 = .ok (.istore 4, 2) := by decide +kernel
theorem dX11_doubles_37 : decode cX11_doubles 37 = .ok (.iconst 0, 1) := by decide +kernel
theorem dX11_doubles_38 : decode cX11_doubles 38 = .ok (.istore 5, 2) := by decide +kernel
theorem dX11_doubles_40 : decode cX11_doubles 40 = .ok (.iload 5, 2) := by decide +kernel
theorem dX11_doubles_42 : decode cX11_doubles 42 = .ok (.aload_n 0, 1) := by decide +kernel
theorem dX11_doubles_43 : decode cX11_doubles 43 = .ok (.getfield 102, 3) := by decide +kernel
theorem dX11_doubles_46 : decode cX11_doubles 46 = .ok (.if_icmp .ge 112, 3) := by decide +kernel
theorem dX11_doubles_158 : decode cX11_doubles 158 = .ok (.iload 4, 2) := by decide +kernel
theorem dX11_doubles_160 : decode cX11_doubles 160 = .ok (.ireturn, 1) := by decide +kernel
theorem dX11_doubt_0 : decode cX11_doubt 0 = .ok (.aload_n 0, 1) := by decide +kernel
theorem dX11_doubt_1 : decode cX11_doubt 1 = .ok (.invokevirtual 346, 3) := by decide +kernel
theorem dX11_doubt_4 : decode cX11_doubt 4 = .ok (.astore_n 1, 1) := by decide +kernel
theorem dX11_doubt_5 : decode cX11_doubt 5 = .ok (.aload_n 1, 1) := by decide +kernel
theorem dX11_doubt_6 : decode cX11_doubt 6 = .ok (.ifnonnull 7, 3) := by decide +kernel
theorem dX11_doubt_9 : decode cX11_doubt 9 = .ok (.iconst (-1), 1) := by decide +kernel
theorem dX11_doubt_10 : decode cX11_doubt 10 = .ok (.goto 8, 3) := by decide +kernel
theorem dX11_doubt_18 : decode cX11_doubt 18 = .ok (.ireturn, 1) := by decide +kernel
theorem dX11_left_0 : decode cX11_left 0 = .ok (.iload_n 1, 1) := by decide +kernel
theorem dX11_left_1 : decode cX11_left 1 = .ok (.ifCond .lt 14, 3) := by decide +kernel
theorem dX11_left_15 : decode cX11_left 15 = .ok (.iconst (-1), 1) := by decide +kernel
theorem dX11_left_16 : decode cX11_left 16 = .ok (.ireturn, 1) := by decide +kernel
theorem dX11_left_4 : decode cX11_left 4 = .ok (.iload_n 1, 1) := by decide +kernel
theorem dX11_left_5 : decode cX11_left 5 = .ok (.aload_n 0, 1) := by decide +kernel
theorem dX11_left_6 : decode cX11_left 6 = .ok (.getfield 16, 3) := by decide +kernel
theorem dX11_left_9 : decode cX11_left 9 = .ok (.getfield 337, 3) := by decide +kernel
theorem dX11_left_12 : decode cX11_left 12 = .ok (.if_icmp .lt 5, 3) := by decide +kernel
theorem dX11_next_0 : decode cX11_next 0 = .ok (.aload_n 0, 1) := by decide +kernel
theorem dX11_next_1 : decode cX11_next 1 = .ok (.invokevirtual 346, 3) := by decide +kernel
theorem dX11_next_4 : decode cX11_next 4 = .ok (.astore_n 1, 1) := by decide +kernel
theorem dX11_next_5 : decode cX11_next 5 = .ok (.aload_n 1, 1) := by decide +kernel
theorem dX11_next_6 : decode cX11_next 6 = .ok (.ifnonnull 5, 3) := by decide +kernel
theorem dX11_next_9 : decode cX11_next 9 = .ok (.iconst (-1), 1) := by decide +kernel
theorem dX11_next_10 : decode cX11_next 10 = .ok (.ireturn, 1) := by decide +kernel
theorem dX11_count_0 : decode cX11_count 0 = .ok (.aload_n 0, 1) := by decide +kernel
theorem dX11_count_1 : decode cX11_count 1 = .ok (.invokevirtual 169, 3) := by decide +kernel
theorem dX11_count_4 : decode cX11_count 4 = .ok (.iload_n 1, 1) := by decide +kernel
theorem dX11_count_5 : decode cX11_count 5 = .ok (.tableswitch 160 0 12 #[67, 72, 77, 82, 88, 96, 101, 106, 112, 120, 128, 144, 152], 67) := by decide +kernel
theorem dX11_count_72 : decode cX11_count 72 = .ok (.aload_n 0, 1) := by decide +kernel
theorem dX11_count_73 : decode cX11_count 73 = .ok (.getfield 78, 3) := by decide +kernel
theorem dX11_count_76 : decode cX11_count 76 = .ok (.ireturn, 1) := by decide +kernel
theorem dX11_count_77 : decode cX11_count 77 = .ok (.aload_n 0, 1) := by decide +kernel
theorem dX11_count_78 : decode cX11_count 78 = .ok (.invokevirtual 362, 3) := by decide +kernel
theorem dX11_count_81 : decode cX11_count 81 = .ok (.ireturn, 1) := by decide +kernel
theorem dX11_count_82 : decode cX11_count 82 = .ok (.aload_n 0, 1) := by decide +kernel
theorem dX11_count_83 : decode cX11_count 83 = .ok (.getfield 102, 3) := by decide +kernel
theorem dX11_count_86 : decode cX11_count 86 = .ok (.ireturn, 1) := by decide +kernel
theorem dX11_count_87 : decode cX11_count 87 = .ok (.aload_n 0, 1) := by decide +kernel
theorem dX11_count_88 : decode cX11_count 88 = .ok (.iconst 0, 1) := by decide +kernel
theorem dX11_count_89 : decode cX11_count 89 = .ok (.invokevirtual 365, 3) := by decide +kernel
theorem dX11_count_92 : decode cX11_count 92 = .ok (.ireturn, 1) := by decide +kernel
theorem dX11_count_93 : decode cX11_count 93 = .ok (.aload_n 0, 1) := by decide +kernel
theorem dX11_count_94 : decode cX11_count 94 = .ok (.getfield 44, 3) := by decide +kernel
theorem dX11_count_97 : decode cX11_count 97 = .ok (.getfield 284, 3) := by decide +kernel
theorem dX11_count_100 : decode cX11_count 100 = .ok (.ireturn, 1) := by decide +kernel
theorem dX11_count_101 : decode cX11_count 101 = .ok (.aload_n 0, 1) := by decide +kernel
theorem dX11_count_102 : decode cX11_count 102 = .ok (.getfield 157, 3) := by decide +kernel
theorem dX11_count_105 : decode cX11_count 105 = .ok (.ireturn, 1) := by decide +kernel
theorem dX11_count_106 : decode cX11_count 106 = .ok (.aload_n 0, 1) := by decide +kernel
theorem dX11_count_107 : decode cX11_count 107 = .ok (.getfield 305, 3) := by decide +kernel
theorem dX11_count_110 : decode cX11_count 110 = .ok (.ireturn, 1) := by decide +kernel
theorem dX11_count_111 : decode cX11_count 111 = .ok (.aload_n 0, 1) := by decide +kernel
theorem dX11_count_112 : decode cX11_count 112 = .ok (.iconst 1, 1) := by decide +kernel
theorem dX11_count_113 : decode cX11_count 113 = .ok (.invokevirtual 365, 3) := by decide +kernel
theorem dX11_count_116 : decode cX11_count 116 = .ok (.ireturn, 1) := by decide +kernel
theorem dX11_count_117 : decode cX11_count 117 = .ok (.aload_n 0, 1) := by decide +kernel
theorem dX11_count_118 : decode cX11_count 118 = .ok (.getfield 36, 3) := by decide +kernel
theorem dX11_count_121 : decode cX11_count 121 = .ok (.getfield 369, 3) := by decide +kernel
theorem dX11_count_124 : decode cX11_count 124 = .ok (.ireturn, 1) := by decide +kernel
theorem dX11_count_125 : decode cX11_count 125 = .ok (.aload_n 0, 1) := by decide +kernel
theorem dX11_count_126 : decode cX11_count 126 = .ok (.getfield 29, 3) := by decide +kernel
theorem dX11_count_129 : decode cX11_count 129 = .ok (.getfield 143, 3) := by decide +kernel
theorem dX11_count_132 : decode cX11_count 132 = .ok (.ireturn, 1) := by decide +kernel
theorem dX11_count_133 : decode cX11_count 133 = .ok (.aload_n 0, 1) := by decide +kernel
theorem dX11_count_134 : decode cX11_count 134 = .ok (.invokevirtual 253, 3) := by decide +kernel
theorem dX11_count_137 : decode cX11_count 137 = .ok (.ifCond .eq 10, 3) := by decide +kernel
theorem dX11_count_140 : decode cX11_count 140 = .ok (.aload_n 0, 1) := by decide +kernel
theorem dX11_count_141 : decode cX11_count 141 = .ok (.invokevirtual 372, 3) := by decide +kernel
theorem dX11_count_144 : decode cX11_count 144 = .ok (.goto 4, 3) := by decide +kernel
theorem dX11_count_148 : decode cX11_count 148 = .ok (.ireturn, 1) := by decide +kernel
theorem dX11_count_149 : decode cX11_count 149 = .ok (.aload_n 0, 1) := by decide +kernel
theorem dX11_count_150 : decode cX11_count 150 = .ok (.getfield 16, 3) := by decide +kernel
theorem dX11_count_153 : decode cX11_count 153 = .ok (.getfield 334, 3) := by decide +kernel
theorem dX11_count_156 : decode cX11_count 156 = .ok (.ireturn, 1) := by decide +kernel
theorem dX11_count_157 : decode cX11_count 157 = .ok (.aload_n 0, 1) := by decide +kernel
theorem dX11_count_158 : decode cX11_count 158 = .ok (.getfield 16, 3) := by decide +kernel
theorem dX11_count_161 : decode cX11_count 161 = .ok (.getfield 337, 3) := by decide +kernel
theorem dX11_count_164 : decode cX11_count 164 = .ok (.ireturn, 1) := by decide +kernel
theorem dX11_count_165 : decode cX11_count 165 = .ok (.iconst (-1), 1) := by decide +kernel
theorem dX11_count_166 : decode cX11_count 166 = .ok (.ireturn, 1) := by decide +kernel
theorem dX11_sheet_0 : decode cX11_sheet 0 = .ok (.iload_n 1, 1) := by decide +kernel
theorem dX11_sheet_1 : decode cX11_sheet 1 = .ok (.iload_n 2, 1) := by decide +kernel
theorem dX11_sheet_2 : decode cX11_sheet 2 = .ok (.invokestatic 85, 3) := by decide +kernel
theorem dX11_sheet_5 : decode cX11_sheet 5 = .ok (.istore 5, 2) := by decide +kernel
theorem dX11_sheet_7 : decode cX11_sheet 7 = .ok (.iload_n 3, 1) := by decide +kernel
theorem dX11_sheet_8 : decode cX11_sheet 8 = .ok (.iload 4, 2) := by decide +kernel
theorem dX11_sheet_10 : decode cX11_sheet 10 = .ok (.invokestatic 85, 3) := by decide +kernel
theorem dX11_sheet_13 : decode cX11_sheet 13 = .ok (.istore 6, 2) := by decide +kernel
theorem dX11_sheet_15 : decode cX11_sheet 15 = .ok (.iload 5, 2) := by decide +kernel
theorem dX11_sheet_17 : decode cX11_sheet 17 = .ok (.iconst (-1), 1) := by decide +kernel
theorem dX11_sheet_18 : decode cX11_sheet 18 = .ok (.if_icmp .eq 20, 3) := by decide +kernel
theorem dX11_sheet_38 : decode cX11_sheet 38 = .ok (.iconst (-1), 1) := by decide +kernel
theorem dX11_sheet_39 : decode cX11_sheet 39 = .ok (.ireturn, 1) := by decide +kernel
theorem dX11_sheet_21 : decode cX11_sheet 21 = .ok (.iload 6, 2) := by decide +kernel
theorem dX11_sheet_23 : decode cX11_sheet 23 = .ok (.iconst (-1), 1) := by decide +kernel
theorem dX11_sheet_24 : decode cX11_sheet 24 = .ok (.if_icmp .eq 14, 3) := by decide +kernel
theorem dX11_sheet_27 : decode cX11_sheet 27 = .ok (.iload_n 1, 1) := by decide +kernel
theorem dX11_sheet_28 : decode cX11_sheet 28 = .ok (.iload_n 3, 1) := by decide +kernel
theorem dX11_sheet_29 : decode cX11_sheet 29 = .ok (.if_icmp .gt 9, 3) := by decide +kernel
theorem dX11_sheet_32 : decode cX11_sheet 32 = .ok (.iload_n 2, 1) := by decide +kernel
theorem dX11_sheet_33 : decode cX11_sheet 33 = .ok (.iload 4, 2) := by decide +kernel
theorem dX11_sheet_35 : decode cX11_sheet 35 = .ok (.if_icmp .le 5, 3) := by decide +kernel
theorem dX11_sheet_40 : decode cX11_sheet 40 = .ok (.aload_n 0, 1) := by decide +kernel
theorem dX11_sheet_41 : decode cX11_sheet 41 = .ok (.getfield 305, 3) := by decide +kernel
theorem dX11_sheet_44 : decode cX11_sheet 44 = .ok (.bipush 10, 2) := by decide +kernel
theorem dX11_sheet_46 : decode cX11_sheet 46 = .ok (.if_icmp .ge 10, 3) := by decide +kernel
theorem dX11_sheet_49 : decode cX11_sheet 49 = .ok (.aload_n 0, 1) := by decide +kernel
theorem dX11_sheet_50 : decode cX11_sheet 50 = .ok (.invokevirtual 253, 3) := by decide +kernel
theorem dX11_sheet_53 : decode cX11_sheet 53 = .ok (.ifCond .ne 5, 3) := by decide +kernel
theorem dX11_sheet_58 : decode cX11_sheet 58 = .ok (.new 53, 3) := by decide +kernel
theorem dX11_sheet_61 : decode cX11_sheet 61 = .ok (.dup, 1) := by decide +kernel
theorem dX11_sheet_62 : decode cX11_sheet 62 = .ok (.invokespecial 308, 3) := by decide +kernel
theorem dX11_sheet_65 : decode cX11_sheet 65 = .ok (.astore 7, 2) := by decide +kernel
theorem dX11_sheet_67 : decode cX11_sheet 67 = .ok (.iload_n 2, 1) := by decide +kernel
theorem dX11_sheet_68 : decode cX11_sheet 68 = .ok (.istore 8, 2) := by decide +kernel
theorem dX11_sheet_70 : decode cX11_sheet 70 = .ok (.iload 8, 2) := by decide +kernel
theorem dX11_sheet_72 : decode cX11_sheet 72 = .ok (.iload 4, 2) := by decide +kernel
theorem dX11_sheet_74 : decode cX11_sheet 74 = .ok (.if_icmp .gt 49, 3) := by decide +kernel
theorem dX11_sheet_123 : decode cX11_sheet 123 = .ok (.aload_n 0, 1) := by decide +kernel
theorem dX11_sheet_124 : decode cX11_sheet 124 = .ok (.getfield 55, 3) := by decide +kernel
theorem dX11_sheet_127 : decode cX11_sheet 127 = .ok (.aload_n 0, 1) := by decide +kernel
theorem dX11_sheet_128 : decode cX11_sheet 128 = .ok (.getfield 305, 3) := by decide +kernel
theorem dX11_sheet_131 : decode cX11_sheet 131 = .ok (.aload 7, 2) := by decide +kernel
theorem dX11_sheet_133 : decode cX11_sheet 133 = .ok (.aastore, 1) := by decide +kernel
theorem dX11_sheet_134 : decode cX11_sheet 134 = .ok (.aload_n 0, 1) := by decide +kernel
theorem dX11_sheet_135 : decode cX11_sheet 135 = .ok (.dup, 1) := by decide +kernel
theorem dX11_sheet_136 : decode cX11_sheet 136 = .ok (.getfield 305, 3) := by decide +kernel
theorem dX11_sheet_139 : decode cX11_sheet 139 = .ok (.dup_x1, 1) := by decide +kernel
theorem dX11_sheet_140 : decode cX11_sheet 140 = .ok (.iconst 1, 1) := by decide +kernel
theorem dX11_sheet_141 : decode cX11_sheet 141 = .ok (.iadd, 1) := by decide +kernel
theorem dX11_sheet_142 : decode cX11_sheet 142 = .ok (.putfield 305, 3) := by decide +kernel
theorem dX11_sheet_145 : decode cX11_sheet 145 = .ok (.ireturn, 1) := by decide +kernel
theorem dX11_sheet_77 : decode cX11_sheet 77 = .ok (.iload_n 1, 1) := by decide +kernel
theorem dX11_sheet_78 : decode cX11_sheet 78 = .ok (.istore 9, 2) := by decide +kernel
theorem dX11_sheet_80 : decode cX11_sheet 80 = .ok (.iload 9, 2) := by decide +kernel
theorem dX11_sheet_82 : decode cX11_sheet 82 = .ok (.iload_n 3, 1) := by decide +kernel
theorem dX11_sheet_83 : decode cX11_sheet 83 = .ok (.if_icmp .gt 34, 3) := by decide +kernel
theorem dX11_sheet_117 : decode cX11_sheet 117 = .ok (.iinc 8 1, 3) := by decide +kernel
theorem dX11_sheet_120 : decode cX11_sheet 120 = .ok (.goto (-50), 3) := by decide +kernel
theorem dX11_sheet_86 : decode cX11_sheet 86 = .ok (.bipush 12, 2) := by decide +kernel
theorem dX11_sheet_88 : decode cX11_sheet 88 = .ok (.iload 8, 2) := by decide +kernel
theorem dX11_sheet_90 : decode cX11_sheet 90 = .ok (.imul, 1) := by decide +kernel
theorem dX11_sheet_91 : decode cX11_sheet 91 = .ok (.iload 9, 2) := by decide +kernel
theorem dX11_sheet_93 : decode cX11_sheet 93 = .ok (.iadd, 1) := by decide +kernel
theorem dX11_sheet_94 : decode cX11_sheet 94 = .ok (.istore 10, 2) := by decide +kernel
theorem dX11_sheet_96 : decode cX11_sheet 96 = .ok (.aload 7, 2) := by decide +kernel
theorem dX11_sheet_98 : decode cX11_sheet 98 = .ok (.getfield 309, 3) := by decide +kernel
theorem dX11_sheet_101 : decode cX11_sheet 101 = .ok (.iload 10, 2) := by decide +kernel
theorem dX11_sheet_103 : decode cX11_sheet 103 = .ok (.aload_n 0, 1) := by decide +kernel
theorem dX11_sheet_104 : decode cX11_sheet 104 = .ok (.iload 10, 2) := by decide +kernel
theorem dX11_sheet_106 : decode cX11_sheet 106 = .ok (.iconst 0, 1) := by decide +kernel
theorem dX11_sheet_107 : decode cX11_sheet 107 = .ok (.invokevirtual 256, 3) := by decide +kernel
theorem dX11_sheet_110 : decode cX11_sheet 110 = .ok (.iastore, 1) := by decide +kernel
theorem dX11_sheet_111 : decode cX11_sheet 111 = .ok (.iinc 9 1, 3) := by decide +kernel
theorem dX11_sheet_114 : decode cX11_sheet 114 = .ok (.goto (-34), 3) := by decide +kernel
set_option maxHeartbeats 4000000 in
set_option maxRecDepth 100000 in
theorem kX11_cost (l : Launch) (D : va_G) (cy : Nat → ClassId) (x : Nat → Nat) (p0 : Int32) (z0 : Int) (h0 : p0.toInt = z0) : CI l D cy yX11_cost cX11_cost 3 (some .int) 7 177 3 201 [.ref (x 0), .int p0] [((x 0), .inr (10, [.int 0, .int (-1), .ref (x 1), .ref (x 9), .int 0, .ref (x 10), .ref (x 13), .ref (x 16), .ref (x 29), .int 0, .int 0, .ref (x 30), .int 0, .ref (x 31), .ref (x 42), .int 0, .int 0, .null, .ref (x 43)])), ((x 13), .inr (4, [.ref (x 14), .ref (x 15), .int 0, .ref (x 16)])), ((x 16), .inr (5, [.int 0, .ref (x 17), .ref (x 18), .ref (x 19), .ref (x 20), .ref (x 21), .int 0, .int 10, .int 20, .int 0, .int 0, .ref (x 22), .ref (x 23), .int 0, .ref (x 24), .ref (x 25), .ref (x 26), .ref (x 27), .ref (x 28)])), ((x 42), .inl (cy 7, 16, .inr (.inr (.inr (.inr (fun _ => none)))))), ((x 31), .inr (6, [.ref (x 32), .ref (x 9), .ref (x 29), .int 0, .int 0, .int 0, .ref (x 36), .ref (x 37), .ref (x 38), .ref (x 39), .ref (x 40), .ref (x 41), .int 0])), ((x 32), .inr (9, [.ref (x 33), .ref (x 34), .ref (x 35), .int 0])), ((x 33), .inl (cy 0, 384, .inl (fun _ => 0))), ((x 34), .inl (cy 2, 384, .inr (.inl (fun _ => 0)))), ((x 35), .inl (cy 0, 96, .inl (fun _ => 0))), ((x 36), .inl (cy 0, 96, .inl (fun _ => 0))), ((x 38), .inl (cy 0, 96, .inl (fun _ => 0)))] (fun (v : Int32) (u : Unit) => (v = 0 ∧ (z0 = 0)) ∨ (v = (-1) ∧ ¬ (z0 = 0))) (fun (u : Unit) => []) := by
  refine ci_go (by decide) (Nat.le_of_ble_eq_true rfl) (fun p e s m below meth c ls A hA S hr hlk hnm hP hK hD hl => ?_)
  have hS : va_S A s.heap s.heap [] := va_S.rf
  have hl : lv_has ls 3 [(0, .ref (x 0)), (1, .int p0)] := hl
  by_cases hz0 : z0 = 0
  · have e0 : p0 = 0 := Int32.toInt_inj.mp (by rw [h0, hz0]; rfl)
    subst e0
    have hl : lv_has ls 3 [(0, .ref (x 0)), (1, .int 0)] := hl
    refine lv_aload_n S.1 S.2.1 dX11_cost_0 rfl (lv_at hl 0 rfl) ?_
    refine lv_iload_n S.1 S.2.1 dX11_cost_1 rfl (lv_at hl 1 rfl) ?_
    refine call_q (wr := []) (runV_C (wc := [((x 0), .inr (10, [.int 0, .int (-1), .ref (x 1), .ref (x 9), .int 0, .ref (x 10), .ref (x 13), .ref (x 16), .ref (x 29), .int 0, .int 0, .ref (x 30), .int 0, .ref (x 31), .ref (x 42), .int 0, .int 0, .null, .ref (x 43)])), ((x 13), .inr (4, [.ref (x 14), .ref (x 15), .int 0, .ref (x 16)])), ((x 16), .inr (5, [.int 0, .ref (x 17), .ref (x 18), .ref (x 19), .ref (x 20), .ref (x 21), .int 0, .int 10, .int 20, .int 0, .int 0, .ref (x 22), .ref (x 23), .int 0, .ref (x 24), .ref (x 25), .ref (x 26), .ref (x 27), .ref (x 28)])), ((x 42), .inl (cy 7, 16, .inr (.inr (.inr (.inr (fun _ => none)))))), ((x 31), .inr (6, [.ref (x 32), .ref (x 9), .ref (x 29), .int 0, .int 0, .int 0, .ref (x 36), .ref (x 37), .ref (x 38), .ref (x 39), .ref (x 40), .ref (x 41), .int 0])), ((x 32), .inr (9, [.ref (x 33), .ref (x 34), .ref (x 35), .int 0])), ((x 33), .inl (cy 0, 384, .inl (fun _ => 0))), ((x 34), .inl (cy 2, 384, .inr (.inl (fun _ => 0)))), ((x 35), .inl (cy 0, 96, .inl (fun _ => 0))), ((x 36), .inl (cy 0, 96, .inl (fun _ => 0))), ((x 38), .inl (cy 0, 96, .inl (fun _ => 0)))]) (As := [.int 0]) (rest := []) S (kX11_groundOf_a l D cy x) hK hP hD [0, 1, 2, 3, 4, 5, 6, 7, 8, 9, 10] (by decide) rfl 0 10 rfl rfl kw_952 kw_954 kw_21 kw_144 kw_955 okX11_groundOf rfl (by decide) hl.1 rfl (Nat.le_of_ble_eq_true rfl) dX11_cost_2 (by decide)) hP hD hS hA [0, 1, 2, 3, 4, 5, 6, 7, 8, 9, 10] [] rfl rfl (by decide) (by decide) (fun v2 u2 H locs w2 hP hD hS => ?_)
    obtain ⟨g_2, lo_2, hi_2⟩ := u2
    have hP : va_P D vwCl [((x 0), .inr (10, [.int 0, .int (-1), .ref (x 1), .ref (x 9), .int 0, .ref (x 10), .ref (x 13), .ref (x 16), .ref (x 29), .int 0, .int 0, .ref (x 30), .int 0, .ref (x 31), .ref (x 42), .int 1, .int 0, .null, .ref (x 43)])), ((x 13), .inr (4, [.ref (x 14), .ref (x 15), .int 0, .ref (x 16)])), ((x 16), .inr (5, [.int 0, .ref (x 17), .ref (x 18), .ref (x 19), .ref (x 20), .ref (x 21), .int 0, .int 10, .int 20, .int 0, .int 0, .ref (x 22), .ref (x 23), .int 0, .ref (x 24), .ref (x 25), .ref (x 26), .ref (x 27), .ref (x 28)])), ((x 42), .inl (cy 7, 16, .inr (.inr (.inr (.inr (va_up (fun _ => none) (0) (some g_2))))))), ((x 31), .inr (6, [.ref (x 32), .ref (x 9), .ref (x 29), .int 0, .int 0, .int 10, .ref (x 36), .ref (x 37), .ref (x 38), .ref (x 39), .ref (x 40), .ref (x 41), .int 1])), ((x 32), .inr (9, [.ref (x 33), .ref (x 34), .ref (x 35), .int 0])), ((x 33), .inl (cy 0, 384, .inl (fun _ => 10))), ((x 34), .inl (cy 2, 384, .inr (.inl (fun _ => 0)))), ((x 35), .inl (cy 0, 96, .inl (fun _ => (-1)))), ((x 36), .inl (cy 0, 96, .inl (fun _ => 0))), ((x 38), .inl (cy 0, 96, .inl (fun _ => (-268435456)))), (g_2, .inr (1, [.int 0, .int 1, .int 1, .int 0, .long 0, .int 0, .int 0, .ref lo_2, .ref hi_2])), (lo_2, .inl (cy 0, 96, .inl (fun _ => 0))), (hi_2, .inl (cy 0, 96, .inl (fun _ => 0)))] H := hP
    have hD : va_D A [((x 0), .inr (10, [.int 0, .int (-1), .ref (x 1), .ref (x 9), .int 0, .ref (x 10), .ref (x 13), .ref (x 16), .ref (x 29), .int 0, .int 0, .ref (x 30), .int 0, .ref (x 31), .ref (x 42), .int 1, .int 0, .null, .ref (x 43)])), ((x 13), .inr (4, [.ref (x 14), .ref (x 15), .int 0, .ref (x 16)])), ((x 16), .inr (5, [.int 0, .ref (x 17), .ref (x 18), .ref (x 19), .ref (x 20), .ref (x 21), .int 0, .int 10, .int 20, .int 0, .int 0, .ref (x 22), .ref (x 23), .int 0, .ref (x 24), .ref (x 25), .ref (x 26), .ref (x 27), .ref (x 28)])), ((x 42), .inl (cy 7, 16, .inr (.inr (.inr (.inr (va_up (fun _ => none) (0) (some g_2))))))), ((x 31), .inr (6, [.ref (x 32), .ref (x 9), .ref (x 29), .int 0, .int 0, .int 10, .ref (x 36), .ref (x 37), .ref (x 38), .ref (x 39), .ref (x 40), .ref (x 41), .int 1])), ((x 32), .inr (9, [.ref (x 33), .ref (x 34), .ref (x 35), .int 0])), ((x 33), .inl (cy 0, 384, .inl (fun _ => 10))), ((x 34), .inl (cy 2, 384, .inr (.inl (fun _ => 0)))), ((x 35), .inl (cy 0, 96, .inl (fun _ => (-1)))), ((x 36), .inl (cy 0, 96, .inl (fun _ => 0))), ((x 38), .inl (cy 0, 96, .inl (fun _ => (-268435456)))), (g_2, .inr (1, [.int 0, .int 1, .int 1, .int 0, .long 0, .int 0, .int 0, .ref lo_2, .ref hi_2])), (lo_2, .inl (cy 0, 96, .inl (fun _ => 0))), (hi_2, .inl (cy 0, 96, .inl (fun _ => 0)))] := hD
    subst w2
    refine lv_astore_n (lv' := [(2, .ref g_2), (0, .ref (x 0)), (1, .int 0)]) S.1 S.2.1 dX11_cost_5 rfl hl (by decide) rfl (fun ls hl => ?_)
    refine lv_aload_n S.1 S.2.1 dX11_cost_6 rfl (lv_at hl 0 rfl) ?_
    refine lv_ifnonnull (tgt := 14) S.1 S.2.1 dX11_cost_7 (by decide) ?_
    refine lv_aload_n S.1 S.2.1 dX11_cost_14 rfl (lv_at hl 0 rfl) ?_
    refine r_get S hK hP 11 1 rfl rfl inX1 3 (by decide) kw_1021 (v := .int 0) rfl dX11_cost_15 ?_
    exact ci_ret (u := ()) S hr hlk rfl hK (hP.sub [] rfl) (hD.sub [] (by decide) rfl) hS (Or.inl ⟨rfl, (by omega)⟩) (by decide) (by decide) dX11_cost_18
  · refine lv_aload_n S.1 S.2.1 dX11_cost_0 rfl (lv_at hl 0 rfl) ?_
    refine lv_iload_n S.1 S.2.1 dX11_cost_1 rfl (lv_at hl 1 rfl) ?_
    refine call_rq (runV_R (wc := [((x 0), .inr (10, [.int 0, .int (-1), .ref (x 1), .ref (x 9), .int 0, .ref (x 10), .ref (x 13), .ref (x 16), .ref (x 29), .int 0, .int 0, .ref (x 30), .int 0, .ref (x 31), .ref (x 42), .int 0, .int 0, .null, .ref (x 43)]))]) (As := [.int p0]) (rest := []) S (kX11_groundOf_b l D cy x p0 z0 h0 (by omega)) hK hP [0] rfl 0 10 rfl rfl kw_952 kw_954 kw_21 kw_144 kw_955 okX11_groundOf rfl (by decide) hl.1 rfl (Nat.le_of_ble_eq_true rfl) dX11_cost_2 (by decide)) (fun v2 w2 => ?_)
    subst w2
    refine lv_astore_nN (lv' := [(2, .null), (0, .ref (x 0)), (1, .int p0)]) S.1 S.2.1 dX11_cost_5 rfl hl (by decide) rfl (fun ls hl => ?_)
    refine lv_aload_nN S.1 S.2.1 dX11_cost_6 rfl (lv_at hl 0 rfl) ?_
    refine lv_ifnonnullN S.1 S.2.1 dX11_cost_7 ?_
    refine lv_iconst (v := (-1)) S.1 S.2.1 dX11_cost_10 (by decide) ?_
    refine lv_goto (tgt := 18) S.1 S.2.1 dX11_cost_11 (by decide) ?_
    exact ci_ret (u := ()) S hr hlk rfl hK (hP.sub [] rfl) (hD.sub [] (by decide) rfl) hS (Or.inr (⟨rfl, (by omega)⟩)) (by decide) (by decide) dX11_cost_18
set_option maxHeartbeats 4000000 in
set_option maxRecDepth 100000 in
theorem kX11_doubted (l : Launch) (D : va_G) (cy : Nat → ClassId) (x : Nat → Nat) (p0 : Int32) (p1 : Int32) (z0 : Int) (h0 : p0.toInt = z0) (z1 : Int) (h1 : p1.toInt = z1) : CI l D cy yX11_doubted cX11_doubted 6 (some .int) 7 177 3 201 [.ref (x 0), .int p0, .int p1] [((x 0), .inr (10, [.int 0, .int (-1), .ref (x 1), .ref (x 9), .int 0, .ref (x 10), .ref (x 13), .ref (x 16), .ref (x 29), .int 0, .int 0, .ref (x 30), .int 0, .ref (x 31), .ref (x 42), .int 0, .int 0, .null, .ref (x 43)])), ((x 13), .inr (4, [.ref (x 14), .ref (x 15), .int 0, .ref (x 16)])), ((x 16), .inr (5, [.int 0, .ref (x 17), .ref (x 18), .ref (x 19), .ref (x 20), .ref (x 21), .int 0, .int 10, .int 20, .int 0, .int 0, .ref (x 22), .ref (x 23), .int 0, .ref (x 24), .ref (x 25), .ref (x 26), .ref (x 27), .ref (x 28)])), ((x 42), .inl (cy 7, 16, .inr (.inr (.inr (.inr (fun _ => none)))))), ((x 31), .inr (6, [.ref (x 32), .ref (x 9), .ref (x 29), .int 0, .int 0, .int 0, .ref (x 36), .ref (x 37), .ref (x 38), .ref (x 39), .ref (x 40), .ref (x 41), .int 0])), ((x 32), .inr (9, [.ref (x 33), .ref (x 34), .ref (x 35), .int 0])), ((x 33), .inl (cy 0, 384, .inl (fun _ => 0))), ((x 34), .inl (cy 2, 384, .inr (.inl (fun _ => 0)))), ((x 35), .inl (cy 0, 96, .inl (fun _ => 0))), ((x 36), .inl (cy 0, 96, .inl (fun _ => 0))), ((x 38), .inl (cy 0, 96, .inl (fun _ => 0)))] (fun (v : Int32) (u : Unit) => v = (-1)) (fun (u : Unit) => []) := by
  refine ci_go (by decide) (Nat.le_of_ble_eq_true rfl) (fun p e s m below meth c ls A hA S hr hlk hnm hP hK hD hl => ?_)
  have hS : va_S A s.heap s.heap [] := va_S.rf
  have hl : lv_has ls 6 [(0, .ref (x 0)), (1, .int p0), (2, .int p1)] := hl
  by_cases hz0 : z0 = 0
  · have e0 : p0 = 0 := Int32.toInt_inj.mp (by rw [h0, hz0]; rfl)
    subst e0
    have hl : lv_has ls 6 [(0, .ref (x 0)), (1, .int 0), (2, .int p1)] := hl
    refine lv_aload_n S.1 S.2.1 dX11_doubted_0 rfl (lv_at hl 0 rfl) ?_
    refine lv_iload_n S.1 S.2.1 dX11_doubted_1 rfl (lv_at hl 1 rfl) ?_
    refine call_q (wr := []) (runV_C (wc := [((x 0), .inr (10, [.int 0, .int (-1), .ref (x 1), .ref (x 9), .int 0, .ref (x 10), .ref (x 13), .ref (x 16), .ref (x 29), .int 0, .int 0, .ref (x 30), .int 0, .ref (x 31), .ref (x 42), .int 0, .int 0, .null, .ref (x 43)])), ((x 13), .inr (4, [.ref (x 14), .ref (x 15), .int 0, .ref (x 16)])), ((x 16), .inr (5, [.int 0, .ref (x 17), .ref (x 18), .ref (x 19), .ref (x 20), .ref (x 21), .int 0, .int 10, .int 20, .int 0, .int 0, .ref (x 22), .ref (x 23), .int 0, .ref (x 24), .ref (x 25), .ref (x 26), .ref (x 27), .ref (x 28)])), ((x 42), .inl (cy 7, 16, .inr (.inr (.inr (.inr (fun _ => none)))))), ((x 31), .inr (6, [.ref (x 32), .ref (x 9), .ref (x 29), .int 0, .int 0, .int 0, .ref (x 36), .ref (x 37), .ref (x 38), .ref (x 39), .ref (x 40), .ref (x 41), .int 0])), ((x 32), .inr (9, [.ref (x 33), .ref (x 34), .ref (x 35), .int 0])), ((x 33), .inl (cy 0, 384, .inl (fun _ => 0))), ((x 34), .inl (cy 2, 384, .inr (.inl (fun _ => 0)))), ((x 35), .inl (cy 0, 96, .inl (fun _ => 0))), ((x 36), .inl (cy 0, 96, .inl (fun _ => 0))), ((x 38), .inl (cy 0, 96, .inl (fun _ => 0)))]) (As := [.int 0]) (rest := []) S (kX11_groundOf_a l D cy x) hK hP hD [0, 1, 2, 3, 4, 5, 6, 7, 8, 9, 10] (by decide) rfl 0 10 rfl rfl kw_952 kw_954 kw_21 kw_144 kw_955 okX11_groundOf rfl (by decide) hl.1 rfl (Nat.le_of_ble_eq_true rfl) dX11_doubted_2 (by decide)) hP hD hS hA [0, 1, 2, 3, 4, 5, 6, 7, 8, 9, 10] [] rfl rfl (by decide) (by decide) (fun v2 u2 H locs w2 hP hD hS => ?_)
    obtain ⟨g_2, lo_2, hi_2⟩ := u2
    have hP : va_P D vwCl [((x 0), .inr (10, [.int 0, .int (-1), .ref (x 1), .ref (x 9), .int 0, .ref (x 10), .ref (x 13), .ref (x 16), .ref (x 29), .int 0, .int 0, .ref (x 30), .int 0, .ref (x 31), .ref (x 42), .int 1, .int 0, .null, .ref (x 43)])), ((x 13), .inr (4, [.ref (x 14), .ref (x 15), .int 0, .ref (x 16)])), ((x 16), .inr (5, [.int 0, .ref (x 17), .ref (x 18), .ref (x 19), .ref (x 20), .ref (x 21), .int 0, .int 10, .int 20, .int 0, .int 0, .ref (x 22), .ref (x 23), .int 0, .ref (x 24), .ref (x 25), .ref (x 26), .ref (x 27), .ref (x 28)])), ((x 42), .inl (cy 7, 16, .inr (.inr (.inr (.inr (va_up (fun _ => none) (0) (some g_2))))))), ((x 31), .inr (6, [.ref (x 32), .ref (x 9), .ref (x 29), .int 0, .int 0, .int 10, .ref (x 36), .ref (x 37), .ref (x 38), .ref (x 39), .ref (x 40), .ref (x 41), .int 1])), ((x 32), .inr (9, [.ref (x 33), .ref (x 34), .ref (x 35), .int 0])), ((x 33), .inl (cy 0, 384, .inl (fun _ => 10))), ((x 34), .inl (cy 2, 384, .inr (.inl (fun _ => 0)))), ((x 35), .inl (cy 0, 96, .inl (fun _ => (-1)))), ((x 36), .inl (cy 0, 96, .inl (fun _ => 0))), ((x 38), .inl (cy 0, 96, .inl (fun _ => (-268435456)))), (g_2, .inr (1, [.int 0, .int 1, .int 1, .int 0, .long 0, .int 0, .int 0, .ref lo_2, .ref hi_2])), (lo_2, .inl (cy 0, 96, .inl (fun _ => 0))), (hi_2, .inl (cy 0, 96, .inl (fun _ => 0)))] H := hP
    have hD : va_D A [((x 0), .inr (10, [.int 0, .int (-1), .ref (x 1), .ref (x 9), .int 0, .ref (x 10), .ref (x 13), .ref (x 16), .ref (x 29), .int 0, .int 0, .ref (x 30), .int 0, .ref (x 31), .ref (x 42), .int 1, .int 0, .null, .ref (x 43)])), ((x 13), .inr (4, [.ref (x 14), .ref (x 15), .int 0, .ref (x 16)])), ((x 16), .inr (5, [.int 0, .ref (x 17), .ref (x 18), .ref (x 19), .ref (x 20), .ref (x 21), .int 0, .int 10, .int 20, .int 0, .int 0, .ref (x 22), .ref (x 23), .int 0, .ref (x 24), .ref (x 25), .ref (x 26), .ref (x 27), .ref (x 28)])), ((x 42), .inl (cy 7, 16, .inr (.inr (.inr (.inr (va_up (fun _ => none) (0) (some g_2))))))), ((x 31), .inr (6, [.ref (x 32), .ref (x 9), .ref (x 29), .int 0, .int 0, .int 10, .ref (x 36), .ref (x 37), .ref (x 38), .ref (x 39), .ref (x 40), .ref (x 41), .int 1])), ((x 32), .inr (9, [.ref (x 33), .ref (x 34), .ref (x 35), .int 0])), ((x 33), .inl (cy 0, 384, .inl (fun _ => 10))), ((x 34), .inl (cy 2, 384, .inr (.inl (fun _ => 0)))), ((x 35), .inl (cy 0, 96, .inl (fun _ => (-1)))), ((x 36), .inl (cy 0, 96, .inl (fun _ => 0))), ((x 38), .inl (cy 0, 96, .inl (fun _ => (-268435456)))), (g_2, .inr (1, [.int 0, .int 1, .int 1, .int 0, .long 0, .int 0, .int 0, .ref lo_2, .ref hi_2])), (lo_2, .inl (cy 0, 96, .inl (fun _ => 0))), (hi_2, .inl (cy 0, 96, .inl (fun _ => 0)))] := hD
    subst w2
    refine lv_astore_n (lv' := [(3, .ref g_2), (0, .ref (x 0)), (1, .int 0), (2, .int p1)]) S.1 S.2.1 dX11_doubted_5 rfl hl (by decide) rfl (fun ls hl => ?_)
    refine lv_aload_n S.1 S.2.1 dX11_doubted_6 rfl (lv_at hl 0 rfl) ?_
    refine lv_ifnull S.1 S.2.1 dX11_doubted_7 ?_
    refine lv_iload_n S.1 S.2.1 dX11_doubted_10 rfl (lv_at hl 3 rfl) ?_
    refine r_if_ge S z1 h1 dX11_doubted_11 (tgt := 16) (by decide) (fun e_11_1 => ?_) (fun e_11_1 => ?_)
    · refine lv_iload_n S.1 S.2.1 dX11_doubted_16 rfl (lv_at hl 3 rfl) ?_
      refine lv_istore (lv' := [(4, .int p1), (3, .ref g_2), (0, .ref (x 0)), (1, .int 0), (2, .int p1)]) S.1 S.2.1 dX11_doubted_17 hl (by decide) rfl (fun ls hl => ?_)
      refine lv_iconst (v := 0) S.1 S.2.1 dX11_doubted_19 (by decide) ?_
      refine lv_istore (lv' := [(5, .int 0), (4, .int p1), (3, .ref g_2), (0, .ref (x 0)), (1, .int 0), (2, .int p1)]) S.1 S.2.1 dX11_doubted_20 hl (by decide) rfl (fun ls hl => ?_)
      refine lv_iload S.1 S.2.1 dX11_doubted_22 (lv_at hl 0 rfl) ?_
      refine lv_aload_n S.1 S.2.1 dX11_doubted_24 rfl (lv_at hl 3 rfl) ?_
      refine r_get S hK hP 0 10 rfl rfl inX11 4 (by decide) kw_472 (v := .int 0) rfl dX11_doubted_25 ?_
      refine r_icmp_ge S 0 0 rfl rfl dX11_doubted_28 (tgt := 57) (by decide) (fun _ => ?_) (fun c => absurd c (by decide))
      refine lv_iconst (v := (-1)) S.1 S.2.1 dX11_doubted_57 (by decide) ?_
      exact ci_ret (u := ()) S hr hlk rfl hK (hP.sub [] rfl) (hD.sub [] (by decide) rfl) hS (rfl) (by decide) (by decide) dX11_doubted_58
    · refine lv_iconst (v := (-1)) S.1 S.2.1 dX11_doubted_14 (by decide) ?_
      exact ci_ret (u := ()) S hr hlk rfl hK (hP.sub [] rfl) (hD.sub [] (by decide) rfl) hS (rfl) (by decide) (by decide) dX11_doubted_15
  · refine lv_aload_n S.1 S.2.1 dX11_doubted_0 rfl (lv_at hl 0 rfl) ?_
    refine lv_iload_n S.1 S.2.1 dX11_doubted_1 rfl (lv_at hl 1 rfl) ?_
    refine call_rq (runV_R (wc := [((x 0), .inr (10, [.int 0, .int (-1), .ref (x 1), .ref (x 9), .int 0, .ref (x 10), .ref (x 13), .ref (x 16), .ref (x 29), .int 0, .int 0, .ref (x 30), .int 0, .ref (x 31), .ref (x 42), .int 0, .int 0, .null, .ref (x 43)]))]) (As := [.int p0]) (rest := []) S (kX11_groundOf_b l D cy x p0 z0 h0 (by omega)) hK hP [0] rfl 0 10 rfl rfl kw_952 kw_954 kw_21 kw_144 kw_955 okX11_groundOf rfl (by decide) hl.1 rfl (Nat.le_of_ble_eq_true rfl) dX11_doubted_2 (by decide)) (fun v2 w2 => ?_)
    subst w2
    refine lv_astore_nN (lv' := [(3, .null), (0, .ref (x 0)), (1, .int p0), (2, .int p1)]) S.1 S.2.1 dX11_doubted_5 rfl hl (by decide) rfl (fun ls hl => ?_)
    refine lv_aload_nN S.1 S.2.1 dX11_doubted_6 rfl (lv_at hl 0 rfl) ?_
    refine lv_ifnullN (tgt := 14) S.1 S.2.1 dX11_doubted_7 (by decide) ?_
    refine lv_iconst (v := (-1)) S.1 S.2.1 dX11_doubted_14 (by decide) ?_
    exact ci_ret (u := ()) S hr hlk rfl hK (hP.sub [] rfl) (hD.sub [] (by decide) rfl) hS (rfl) (by decide) (by decide) dX11_doubted_15
set_option maxHeartbeats 4000000 in
set_option maxRecDepth 100000 in
theorem kX11_best (l : Launch) (D : va_G) (cy : Nat → ClassId) (x : Nat → Nat) (p0 : Int32) (z0 : Int) (h0 : p0.toInt = z0) : CI l D cy yX11_best cX11_best 2 (some .int) 7 177 3 201 [.ref (x 0), .int p0] [((x 0), .inr (10, [.int 0, .int (-1), .ref (x 1), .ref (x 9), .int 0, .ref (x 10), .ref (x 13), .ref (x 16), .ref (x 29), .int 0, .int 0, .ref (x 30), .int 0, .ref (x 31), .ref (x 42), .int 0, .int 0, .null, .ref (x 43)])), ((x 13), .inr (4, [.ref (x 14), .ref (x 15), .int 0, .ref (x 16)])), ((x 16), .inr (5, [.int 0, .ref (x 17), .ref (x 18), .ref (x 19), .ref (x 20), .ref (x 21), .int 0, .int 10, .int 20, .int 0, .int 0, .ref (x 22), .ref (x 23), .int 0, .ref (x 24), .ref (x 25), .ref (x 26), .ref (x 27), .ref (x 28)])), ((x 42), .inl (cy 7, 16, .inr (.inr (.inr (.inr (fun _ => none)))))), ((x 31), .inr (6, [.ref (x 32), .ref (x 9), .ref (x 29), .int 0, .int 0, .int 0, .ref (x 36), .ref (x 37), .ref (x 38), .ref (x 39), .ref (x 40), .ref (x 41), .int 0])), ((x 32), .inr (9, [.ref (x 33), .ref (x 34), .ref (x 35), .int 0])), ((x 33), .inl (cy 0, 384, .inl (fun _ => 0))), ((x 34), .inl (cy 2, 384, .inr (.inl (fun _ => 0)))), ((x 35), .inl (cy 0, 96, .inl (fun _ => 0))), ((x 36), .inl (cy 0, 96, .inl (fun _ => 0))), ((x 38), .inl (cy 0, 96, .inl (fun _ => 0)))] (fun (v : Int32) (u : Unit) => (v = 1 ∧ z0 = 3) ∨ (v = 0 ∧ 0 ≤ z0 ∧ z0 ≤ 2) ∨ (v = (-1) ∧ ¬ (0 ≤ z0 ∧ z0 ≤ 3))) (fun (u : Unit) => []) := by
  refine ci_go (by decide) (Nat.le_of_ble_eq_true rfl) (fun p e s m below meth c ls A hA S hr hlk hnm hP hK hD hl => ?_)
  have hS : va_S A s.heap s.heap [] := va_S.rf
  have hl : lv_has ls 2 [(0, .ref (x 0)), (1, .int p0)] := hl
  refine lv_aload_n S.1 S.2.1 dX11_best_0 rfl (lv_at hl 0 rfl) ?_
  refine call_i (wr := []) (runV_C (wc := [((x 0), .inr (10, [.int 0, .int (-1), .ref (x 1), .ref (x 9), .int 0, .ref (x 10), .ref (x 13), .ref (x 16), .ref (x 29), .int 0, .int 0, .ref (x 30), .int 0, .ref (x 31), .ref (x 42), .int 0, .int 0, .null, .ref (x 43)])), ((x 13), .inr (4, [.ref (x 14), .ref (x 15), .int 0, .ref (x 16)])), ((x 16), .inr (5, [.int 0, .ref (x 17), .ref (x 18), .ref (x 19), .ref (x 20), .ref (x 21), .int 0, .int 10, .int 20, .int 0, .int 0, .ref (x 22), .ref (x 23), .int 0, .ref (x 24), .ref (x 25), .ref (x 26), .ref (x 27), .ref (x 28)])), ((x 42), .inl (cy 7, 16, .inr (.inr (.inr (.inr (fun _ => none)))))), ((x 31), .inr (6, [.ref (x 32), .ref (x 9), .ref (x 29), .int 0, .int 0, .int 0, .ref (x 36), .ref (x 37), .ref (x 38), .ref (x 39), .ref (x 40), .ref (x 41), .int 0])), ((x 32), .inr (9, [.ref (x 33), .ref (x 34), .ref (x 35), .int 0])), ((x 33), .inl (cy 0, 384, .inl (fun _ => 0))), ((x 34), .inl (cy 2, 384, .inr (.inl (fun _ => 0)))), ((x 35), .inl (cy 0, 96, .inl (fun _ => 0))), ((x 36), .inl (cy 0, 96, .inl (fun _ => 0))), ((x 38), .inl (cy 0, 96, .inl (fun _ => 0)))]) (As := []) (rest := []) S (kX11_judge_a l D cy x) hK hP hD [0, 1, 2, 3, 4, 5, 6, 7, 8, 9, 10] (by decide) rfl 0 10 rfl rfl kw_1141 kw_1143 kw_36 kw_144 kw_1144 okX11_judge rfl (by decide) hl.1 rfl (Nat.le_of_ble_eq_true rfl) dX11_best_1 (by decide)) hP hD hS hA [0, 1, 2, 3, 4, 5, 6, 7, 8, 9, 10] [] rfl rfl (by decide) (by decide) (fun v1 u1 H locs w1 hP hD hS => ?_)
  obtain ⟨g_1, lo_1, hi_1⟩ := u1
  have hP : va_P D vwCl [((x 0), .inr (10, [.int 0, .int (-1), .ref (x 1), .ref (x 9), .int 0, .ref (x 10), .ref (x 13), .ref (x 16), .ref (x 29), .int 0, .int 0, .ref (x 30), .int 0, .ref (x 31), .ref (x 42), .int 1, .int 1, .ref g_1, .ref (x 43)])), ((x 13), .inr (4, [.ref (x 14), .ref (x 15), .int 0, .ref (x 16)])), ((x 16), .inr (5, [.int 0, .ref (x 17), .ref (x 18), .ref (x 19), .ref (x 20), .ref (x 21), .int 0, .int 10, .int 20, .int 0, .int 0, .ref (x 22), .ref (x 23), .int 0, .ref (x 24), .ref (x 25), .ref (x 26), .ref (x 27), .ref (x 28)])), ((x 42), .inl (cy 7, 16, .inr (.inr (.inr (.inr (va_up (fun _ => none) (0) (some g_1))))))), ((x 31), .inr (6, [.ref (x 32), .ref (x 9), .ref (x 29), .int 0, .int 0, .int 10, .ref (x 36), .ref (x 37), .ref (x 38), .ref (x 39), .ref (x 40), .ref (x 41), .int 1])), ((x 32), .inr (9, [.ref (x 33), .ref (x 34), .ref (x 35), .int 0])), ((x 33), .inl (cy 0, 384, .inl (fun _ => 10))), ((x 34), .inl (cy 2, 384, .inr (.inl (fun _ => 0)))), ((x 35), .inl (cy 0, 96, .inl (fun _ => (-1)))), ((x 36), .inl (cy 0, 96, .inl (fun _ => 0))), ((x 38), .inl (cy 0, 96, .inl (fun _ => (-268435456)))), (g_1, .inr (1, [.int 0, .int 1, .int 1, .int 0, .long 0, .int 0, .int 0, .ref lo_1, .ref hi_1])), (lo_1, .inl (cy 0, 96, .inl (fun _ => 0))), (hi_1, .inl (cy 0, 96, .inl (fun _ => 0)))] H := hP
  have hD : va_D A [((x 0), .inr (10, [.int 0, .int (-1), .ref (x 1), .ref (x 9), .int 0, .ref (x 10), .ref (x 13), .ref (x 16), .ref (x 29), .int 0, .int 0, .ref (x 30), .int 0, .ref (x 31), .ref (x 42), .int 1, .int 1, .ref g_1, .ref (x 43)])), ((x 13), .inr (4, [.ref (x 14), .ref (x 15), .int 0, .ref (x 16)])), ((x 16), .inr (5, [.int 0, .ref (x 17), .ref (x 18), .ref (x 19), .ref (x 20), .ref (x 21), .int 0, .int 10, .int 20, .int 0, .int 0, .ref (x 22), .ref (x 23), .int 0, .ref (x 24), .ref (x 25), .ref (x 26), .ref (x 27), .ref (x 28)])), ((x 42), .inl (cy 7, 16, .inr (.inr (.inr (.inr (va_up (fun _ => none) (0) (some g_1))))))), ((x 31), .inr (6, [.ref (x 32), .ref (x 9), .ref (x 29), .int 0, .int 0, .int 10, .ref (x 36), .ref (x 37), .ref (x 38), .ref (x 39), .ref (x 40), .ref (x 41), .int 1])), ((x 32), .inr (9, [.ref (x 33), .ref (x 34), .ref (x 35), .int 0])), ((x 33), .inl (cy 0, 384, .inl (fun _ => 10))), ((x 34), .inl (cy 2, 384, .inr (.inl (fun _ => 0)))), ((x 35), .inl (cy 0, 96, .inl (fun _ => (-1)))), ((x 36), .inl (cy 0, 96, .inl (fun _ => 0))), ((x 38), .inl (cy 0, 96, .inl (fun _ => (-268435456)))), (g_1, .inr (1, [.int 0, .int 1, .int 1, .int 0, .long 0, .int 0, .int 0, .ref lo_1, .ref hi_1])), (lo_1, .inl (cy 0, 96, .inl (fun _ => 0))), (hi_1, .inl (cy 0, 96, .inl (fun _ => 0)))] := hD
  subst w1
  refine lv_pop S.1 S.2.1 dX11_best_4 rfl ?_
  refine lv_iload_n S.1 S.2.1 dX11_best_5 rfl (lv_at hl 1 rfl) ?_
  refine lv_iconst (v := 3) S.1 S.2.1 dX11_best_6 (by decide) ?_
  refine r_icmp_ne S z0 3 h0 rfl dX11_best_7 (tgt := 15) (by decide) (fun e_7_1 => ?_) (fun e_7_1 => ?_)
  · refine lv_aload_n S.1 S.2.1 dX11_best_15 rfl (lv_at hl 0 rfl) ?_
    refine r_get S hK hP 0 10 rfl rfl inX11 17 (by decide) kw_485 (v := .ref g_1) rfl dX11_best_16 ?_
    refine lv_ifnonnull (tgt := 24) S.1 S.2.1 dX11_best_19 (by decide) ?_
    refine lv_iload_n S.1 S.2.1 dX11_best_24 rfl (lv_at hl 1 rfl) ?_
    by_cases e_25_2 : z0 = 0
    · have hz : (p0).toInt = 0 := (h0).trans e_25_2
      refine lv_tableIn (tgt := 52) S.1 S.2.1 dX11_best_25 (by rw [hz]; decide) (by rw [hz]; decide) (off := 27) (by rw [hz]; decide) (by decide) ?_
      refine lv_aload_n S.1 S.2.1 dX11_best_52 rfl (lv_at hl 0 rfl) ?_
      refine r_get S hK hP 0 10 rfl rfl inX11 17 (by decide) kw_485 (v := .ref g_1) rfl dX11_best_53 ?_
      refine r_get S hK hP 11 1 rfl rfl inX1 0 (by decide) kw_1015 (v := .int 0) rfl dX11_best_56 ?_
      exact ci_ret (u := ()) S hr hlk rfl hK (hP.sub [] rfl) (hD.sub [] (by decide) rfl) hS (Or.inr (Or.inl ⟨rfl, (by omega)⟩)) (by decide) (by decide) dX11_best_59
    · by_cases e_25_3 : z0 = 1
      · have hz : (p0).toInt = 1 := (h0).trans e_25_3
        refine lv_tableIn (tgt := 60) S.1 S.2.1 dX11_best_25 (by rw [hz]; decide) (by rw [hz]; decide) (off := 35) (by rw [hz]; decide) (by decide) ?_
        refine lv_aload_n S.1 S.2.1 dX11_best_60 rfl (lv_at hl 0 rfl) ?_
        refine r_get S hK hP 0 10 rfl rfl inX11 17 (by decide) kw_485 (v := .ref g_1) rfl dX11_best_61 ?_
        refine r_get S hK hP 11 1 rfl rfl inX1 3 (by decide) kw_1021 (v := .int 0) rfl dX11_best_64 ?_
        exact ci_ret (u := ()) S hr hlk rfl hK (hP.sub [] rfl) (hD.sub [] (by decide) rfl) hS (Or.inr (Or.inl ⟨rfl, (by omega)⟩)) (by decide) (by decide) dX11_best_67
      · by_cases e_25_4 : z0 = 2
        · have hz : (p0).toInt = 2 := (h0).trans e_25_4
          refine lv_tableIn (tgt := 68) S.1 S.2.1 dX11_best_25 (by rw [hz]; decide) (by rw [hz]; decide) (off := 43) (by rw [hz]; decide) (by decide) ?_
          refine lv_aload_n S.1 S.2.1 dX11_best_68 rfl (lv_at hl 0 rfl) ?_
          refine r_get S hK hP 0 10 rfl rfl inX11 17 (by decide) kw_485 (v := .ref g_1) rfl dX11_best_69 ?_
          refine r_get S hK hP 11 1 rfl rfl inX1 4 (by decide) kw_1024 (v := .long 0) rfl dX11_best_72 ?_
          refine call_ri (runS_R (wc := []) (As := [.long 0]) (rest := []) S (kJ13_bitCount_95d88 l D cy) hK hP [] rfl kw_1153 kw_1154 kw_169 kw_1155 okJ13_bitCount_95d88 rfl (by decide) hl.1 rfl (Nat.le_of_ble_eq_true rfl) dX11_best_75 (by decide)) (fun v75 w75 => ?_)
          subst w75
          exact ci_ret (u := ()) S hr hlk rfl hK (hP.sub [] rfl) (hD.sub [] (by decide) rfl) hS (Or.inr (Or.inl ⟨rfl, (by omega)⟩)) (by decide) (by decide) dX11_best_78
        · have hz : (p0).toInt = z0 := h0
          refine lv_tableOut (tgt := 79) S.1 S.2.1 dX11_best_25 (by rw [hz]; omega) (by decide) ?_
          refine lv_iconst (v := (-1)) S.1 S.2.1 dX11_best_79 (by decide) ?_
          exact ci_ret (u := ()) S hr hlk rfl hK (hP.sub [] rfl) (hD.sub [] (by decide) rfl) hS (Or.inr (Or.inr (⟨rfl, (by omega)⟩))) (by decide) (by decide) dX11_best_80
  · refine lv_aload_n S.1 S.2.1 dX11_best_10 rfl (lv_at hl 0 rfl) ?_
    refine call_ri (runV_R (wc := [((x 0), .inr (10, [.int 0, .int (-1), .ref (x 1), .ref (x 9), .int 0, .ref (x 10), .ref (x 13), .ref (x 16), .ref (x 29), .int 0, .int 0, .ref (x 30), .int 0, .ref (x 31), .ref (x 42), .int 1, .int 1, .ref g_1, .ref (x 43)])), ((x 42), .inl (cy 7, 16, .inr (.inr (.inr (.inr (va_up (fun _ => none) (0) (some g_1))))))), (g_1, .inr (1, [.int 0, .int 1, .int 1, .int 0, .long 0, .int 0, .int 0, .ref lo_1, .ref hi_1]))]) (As := []) (rest := []) S (kX11_countKept l D cy x g_1 lo_1 hi_1) hK hP [0, 3, 11] rfl 0 10 rfl rfl kw_1145 kw_1147 kw_37 kw_144 kw_1148 okX11_countKept rfl (by decide) hl.1 rfl (Nat.le_of_ble_eq_true rfl) dX11_best_11 (by decide)) (fun v11 w11 => ?_)
    subst w11
    exact ci_ret (u := ()) S hr hlk rfl hK (hP.sub [] rfl) (hD.sub [] (by decide) rfl) hS (Or.inl ⟨rfl, (by omega)⟩) (by decide) (by decide) dX11_best_14
set_option maxHeartbeats 4000000 in
set_option maxRecDepth 100000 in
theorem kX11_kept (l : Launch) (D : va_G) (cy : Nat → ClassId) (x : Nat → Nat) (p0 : Int32) (z0 : Int) (h0 : p0.toInt = z0) : CI l D cy yX11_kept cX11_kept 2 (some .int) 7 177 3 201 [.ref (x 0), .int p0] [((x 0), .inr (10, [.int 0, .int (-1), .ref (x 1), .ref (x 9), .int 0, .ref (x 10), .ref (x 13), .ref (x 16), .ref (x 29), .int 0, .int 0, .ref (x 30), .int 0, .ref (x 31), .ref (x 42), .int 0, .int 0, .null, .ref (x 43)])), ((x 13), .inr (4, [.ref (x 14), .ref (x 15), .int 0, .ref (x 16)])), ((x 16), .inr (5, [.int 0, .ref (x 17), .ref (x 18), .ref (x 19), .ref (x 20), .ref (x 21), .int 0, .int 10, .int 20, .int 0, .int 0, .ref (x 22), .ref (x 23), .int 0, .ref (x 24), .ref (x 25), .ref (x 26), .ref (x 27), .ref (x 28)])), ((x 42), .inl (cy 7, 16, .inr (.inr (.inr (.inr (fun _ => none)))))), ((x 31), .inr (6, [.ref (x 32), .ref (x 9), .ref (x 29), .int 0, .int 0, .int 0, .ref (x 36), .ref (x 37), .ref (x 38), .ref (x 39), .ref (x 40), .ref (x 41), .int 0])), ((x 32), .inr (9, [.ref (x 33), .ref (x 34), .ref (x 35), .int 0])), ((x 33), .inl (cy 0, 384, .inl (fun _ => 0))), ((x 34), .inl (cy 2, 384, .inr (.inl (fun _ => 0)))), ((x 35), .inl (cy 0, 96, .inl (fun _ => 0))), ((x 36), .inl (cy 0, 96, .inl (fun _ => 0))), ((x 38), .inl (cy 0, 96, .inl (fun _ => 0)))] (fun (v : Int32) (u : Unit) => (v = 1 ∧ (z0 = 0)) ∨ (v = (-1) ∧ ¬ (z0 = 0))) (fun (u : Unit) => []) := by
  refine ci_go (by decide) (Nat.le_of_ble_eq_true rfl) (fun p e s m below meth c ls A hA S hr hlk hnm hP hK hD hl => ?_)
  have hS : va_S A s.heap s.heap [] := va_S.rf
  have hl : lv_has ls 2 [(0, .ref (x 0)), (1, .int p0)] := hl
  by_cases hz0 : z0 = 0
  · have e0 : p0 = 0 := Int32.toInt_inj.mp (by rw [h0, hz0]; rfl)
    subst e0
    have hl : lv_has ls 2 [(0, .ref (x 0)), (1, .int 0)] := hl
    refine lv_aload_n S.1 S.2.1 dX11_kept_0 rfl (lv_at hl 0 rfl) ?_
    refine lv_iload_n S.1 S.2.1 dX11_kept_1 rfl (lv_at hl 1 rfl) ?_
    refine call_ri (runV_R (wc := [((x 0), .inr (10, [.int 0, .int (-1), .ref (x 1), .ref (x 9), .int 0, .ref (x 10), .ref (x 13), .ref (x 16), .ref (x 29), .int 0, .int 0, .ref (x 30), .int 0, .ref (x 31), .ref (x 42), .int 0, .int 0, .null, .ref (x 43)]))]) (As := [.int 0]) (rest := []) S (kX11_isSet_a l D cy x) hK hP [0] rfl 0 10 rfl rfl kw_956 kw_958 kw_22 kw_144 kw_959 okX11_isSet rfl (by decide) hl.1 rfl (Nat.le_of_ble_eq_true rfl) dX11_kept_2 (by decide)) (fun v2 w2 => ?_)
    subst w2
    refine r_if_ne S 1 rfl dX11_kept_5 (tgt := 10) (by decide) (fun _ => ?_) (fun c => absurd c (by decide))
    refine lv_aload_n S.1 S.2.1 dX11_kept_10 rfl (lv_at hl 0 rfl) ?_
    refine call_i (wr := []) (runV_C (wc := [((x 0), .inr (10, [.int 0, .int (-1), .ref (x 1), .ref (x 9), .int 0, .ref (x 10), .ref (x 13), .ref (x 16), .ref (x 29), .int 0, .int 0, .ref (x 30), .int 0, .ref (x 31), .ref (x 42), .int 0, .int 0, .null, .ref (x 43)])), ((x 13), .inr (4, [.ref (x 14), .ref (x 15), .int 0, .ref (x 16)])), ((x 16), .inr (5, [.int 0, .ref (x 17), .ref (x 18), .ref (x 19), .ref (x 20), .ref (x 21), .int 0, .int 10, .int 20, .int 0, .int 0, .ref (x 22), .ref (x 23), .int 0, .ref (x 24), .ref (x 25), .ref (x 26), .ref (x 27), .ref (x 28)])), ((x 42), .inl (cy 7, 16, .inr (.inr (.inr (.inr (fun _ => none)))))), ((x 31), .inr (6, [.ref (x 32), .ref (x 9), .ref (x 29), .int 0, .int 0, .int 0, .ref (x 36), .ref (x 37), .ref (x 38), .ref (x 39), .ref (x 40), .ref (x 41), .int 0])), ((x 32), .inr (9, [.ref (x 33), .ref (x 34), .ref (x 35), .int 0])), ((x 33), .inl (cy 0, 384, .inl (fun _ => 0))), ((x 34), .inl (cy 2, 384, .inr (.inl (fun _ => 0)))), ((x 35), .inl (cy 0, 96, .inl (fun _ => 0))), ((x 36), .inl (cy 0, 96, .inl (fun _ => 0))), ((x 38), .inl (cy 0, 96, .inl (fun _ => 0)))]) (As := []) (rest := []) S (kX11_judge_a l D cy x) hK hP hD [0, 1, 2, 3, 4, 5, 6, 7, 8, 9, 10] (by decide) rfl 0 10 rfl rfl kw_1141 kw_1143 kw_36 kw_144 kw_1144 okX11_judge rfl (by decide) hl.1 rfl (Nat.le_of_ble_eq_true rfl) dX11_kept_11 (by decide)) hP hD hS hA [0, 1, 2, 3, 4, 5, 6, 7, 8, 9, 10] [] rfl rfl (by decide) (by decide) (fun v11 u11 H locs w11 hP hD hS => ?_)
    obtain ⟨g_11, lo_11, hi_11⟩ := u11
    have hP : va_P D vwCl [((x 0), .inr (10, [.int 0, .int (-1), .ref (x 1), .ref (x 9), .int 0, .ref (x 10), .ref (x 13), .ref (x 16), .ref (x 29), .int 0, .int 0, .ref (x 30), .int 0, .ref (x 31), .ref (x 42), .int 1, .int 1, .ref g_11, .ref (x 43)])), ((x 13), .inr (4, [.ref (x 14), .ref (x 15), .int 0, .ref (x 16)])), ((x 16), .inr (5, [.int 0, .ref (x 17), .ref (x 18), .ref (x 19), .ref (x 20), .ref (x 21), .int 0, .int 10, .int 20, .int 0, .int 0, .ref (x 22), .ref (x 23), .int 0, .ref (x 24), .ref (x 25), .ref (x 26), .ref (x 27), .ref (x 28)])), ((x 42), .inl (cy 7, 16, .inr (.inr (.inr (.inr (va_up (fun _ => none) (0) (some g_11))))))), ((x 31), .inr (6, [.ref (x 32), .ref (x 9), .ref (x 29), .int 0, .int 0, .int 10, .ref (x 36), .ref (x 37), .ref (x 38), .ref (x 39), .ref (x 40), .ref (x 41), .int 1])), ((x 32), .inr (9, [.ref (x 33), .ref (x 34), .ref (x 35), .int 0])), ((x 33), .inl (cy 0, 384, .inl (fun _ => 10))), ((x 34), .inl (cy 2, 384, .inr (.inl (fun _ => 0)))), ((x 35), .inl (cy 0, 96, .inl (fun _ => (-1)))), ((x 36), .inl (cy 0, 96, .inl (fun _ => 0))), ((x 38), .inl (cy 0, 96, .inl (fun _ => (-268435456)))), (g_11, .inr (1, [.int 0, .int 1, .int 1, .int 0, .long 0, .int 0, .int 0, .ref lo_11, .ref hi_11])), (lo_11, .inl (cy 0, 96, .inl (fun _ => 0))), (hi_11, .inl (cy 0, 96, .inl (fun _ => 0)))] H := hP
    have hD : va_D A [((x 0), .inr (10, [.int 0, .int (-1), .ref (x 1), .ref (x 9), .int 0, .ref (x 10), .ref (x 13), .ref (x 16), .ref (x 29), .int 0, .int 0, .ref (x 30), .int 0, .ref (x 31), .ref (x 42), .int 1, .int 1, .ref g_11, .ref (x 43)])), ((x 13), .inr (4, [.ref (x 14), .ref (x 15), .int 0, .ref (x 16)])), ((x 16), .inr (5, [.int 0, .ref (x 17), .ref (x 18), .ref (x 19), .ref (x 20), .ref (x 21), .int 0, .int 10, .int 20, .int 0, .int 0, .ref (x 22), .ref (x 23), .int 0, .ref (x 24), .ref (x 25), .ref (x 26), .ref (x 27), .ref (x 28)])), ((x 42), .inl (cy 7, 16, .inr (.inr (.inr (.inr (va_up (fun _ => none) (0) (some g_11))))))), ((x 31), .inr (6, [.ref (x 32), .ref (x 9), .ref (x 29), .int 0, .int 0, .int 10, .ref (x 36), .ref (x 37), .ref (x 38), .ref (x 39), .ref (x 40), .ref (x 41), .int 1])), ((x 32), .inr (9, [.ref (x 33), .ref (x 34), .ref (x 35), .int 0])), ((x 33), .inl (cy 0, 384, .inl (fun _ => 10))), ((x 34), .inl (cy 2, 384, .inr (.inl (fun _ => 0)))), ((x 35), .inl (cy 0, 96, .inl (fun _ => (-1)))), ((x 36), .inl (cy 0, 96, .inl (fun _ => 0))), ((x 38), .inl (cy 0, 96, .inl (fun _ => (-268435456)))), (g_11, .inr (1, [.int 0, .int 1, .int 1, .int 0, .long 0, .int 0, .int 0, .ref lo_11, .ref hi_11])), (lo_11, .inl (cy 0, 96, .inl (fun _ => 0))), (hi_11, .inl (cy 0, 96, .inl (fun _ => 0)))] := hD
    subst w11
    refine lv_pop S.1 S.2.1 dX11_kept_14 rfl ?_
    refine lv_aload_n S.1 S.2.1 dX11_kept_15 rfl (lv_at hl 0 rfl) ?_
    refine lv_iload_n S.1 S.2.1 dX11_kept_16 rfl (lv_at hl 1 rfl) ?_
    refine call_ri (runV_R (wc := [((x 0), .inr (10, [.int 0, .int (-1), .ref (x 1), .ref (x 9), .int 0, .ref (x 10), .ref (x 13), .ref (x 16), .ref (x 29), .int 0, .int 0, .ref (x 30), .int 0, .ref (x 31), .ref (x 42), .int 1, .int 1, .ref g_11, .ref (x 43)])), ((x 42), .inl (cy 7, 16, .inr (.inr (.inr (.inr (va_up (fun _ => none) (0) (some g_11))))))), (g_11, .inr (1, [.int 0, .int 1, .int 1, .int 0, .long 0, .int 0, .int 0, .ref lo_11, .ref hi_11]))]) (As := [.int 0]) (rest := []) S (kX11_isKept l D cy x g_11 lo_11 hi_11) hK hP [0, 3, 11] rfl 0 10 rfl rfl kw_1149 kw_1151 kw_38 kw_144 kw_1152 okX11_isKept rfl (by decide) hl.1 rfl (Nat.le_of_ble_eq_true rfl) dX11_kept_17 (by decide)) (fun v17 w17 => ?_)
    subst w17
    refine r_if_eq S 1 rfl dX11_kept_20 (tgt := 27) (by decide) (fun c => absurd c (by decide)) (fun _ => ?_)
    refine lv_iconst (v := 1) S.1 S.2.1 dX11_kept_23 (by decide) ?_
    refine lv_goto (tgt := 28) S.1 S.2.1 dX11_kept_24 (by decide) ?_
    exact ci_ret (u := ()) S hr hlk rfl hK (hP.sub [] rfl) (hD.sub [] (by decide) rfl) hS (Or.inl ⟨rfl, (by omega)⟩) (by decide) (by decide) dX11_kept_28
  · refine lv_aload_n S.1 S.2.1 dX11_kept_0 rfl (lv_at hl 0 rfl) ?_
    refine lv_iload_n S.1 S.2.1 dX11_kept_1 rfl (lv_at hl 1 rfl) ?_
    refine call_ri (runV_R (wc := [((x 0), .inr (10, [.int 0, .int (-1), .ref (x 1), .ref (x 9), .int 0, .ref (x 10), .ref (x 13), .ref (x 16), .ref (x 29), .int 0, .int 0, .ref (x 30), .int 0, .ref (x 31), .ref (x 42), .int 0, .int 0, .null, .ref (x 43)]))]) (As := [.int p0]) (rest := []) S (kX11_isSet_b l D cy x p0 z0 h0 (by omega)) hK hP [0] rfl 0 10 rfl rfl kw_956 kw_958 kw_22 kw_144 kw_959 okX11_isSet rfl (by decide) hl.1 rfl (Nat.le_of_ble_eq_true rfl) dX11_kept_2 (by decide)) (fun v2 w2 => ?_)
    subst w2
    refine r_if_ne S 0 rfl dX11_kept_5 (tgt := 10) (by decide) (fun c => absurd c (by decide)) (fun _ => ?_)
    refine lv_iconst (v := (-1)) S.1 S.2.1 dX11_kept_8 (by decide) ?_
    exact ci_ret (u := ()) S hr hlk rfl hK (hP.sub [] rfl) (hD.sub [] (by decide) rfl) hS (Or.inr (⟨rfl, (by omega)⟩)) (by decide) (by decide) dX11_kept_9
set_option maxHeartbeats 4000000 in
set_option maxRecDepth 100000 in
theorem kX11_lies (l : Launch) (D : va_G) (cy : Nat → ClassId) (x : Nat → Nat) (p0 : Int32) (p1 : Int32) (p2 : Int32) (z0 : Int) (h0 : p0.toInt = z0) (z1 : Int) (h1 : p1.toInt = z1) (z2 : Int) (h2 : p2.toInt = z2) : CI l D cy yX11_lies cX11_lies 5 (some .int) 8 198 3 201 [.ref (x 0), .int p0, .int p1, .int p2] [((x 0), .inr (10, [.int 0, .int (-1), .ref (x 1), .ref (x 9), .int 0, .ref (x 10), .ref (x 13), .ref (x 16), .ref (x 29), .int 0, .int 0, .ref (x 30), .int 0, .ref (x 31), .ref (x 42), .int 0, .int 0, .null, .ref (x 43)])), ((x 13), .inr (4, [.ref (x 14), .ref (x 15), .int 0, .ref (x 16)])), ((x 16), .inr (5, [.int 0, .ref (x 17), .ref (x 18), .ref (x 19), .ref (x 20), .ref (x 21), .int 0, .int 10, .int 20, .int 0, .int 0, .ref (x 22), .ref (x 23), .int 0, .ref (x 24), .ref (x 25), .ref (x 26), .ref (x 27), .ref (x 28)])), ((x 42), .inl (cy 7, 16, .inr (.inr (.inr (.inr (fun _ => none)))))), ((x 31), .inr (6, [.ref (x 32), .ref (x 9), .ref (x 29), .int 0, .int 0, .int 0, .ref (x 36), .ref (x 37), .ref (x 38), .ref (x 39), .ref (x 40), .ref (x 41), .int 0])), ((x 32), .inr (9, [.ref (x 33), .ref (x 34), .ref (x 35), .int 0])), ((x 33), .inl (cy 0, 384, .inl (fun _ => 0))), ((x 34), .inl (cy 2, 384, .inr (.inl (fun _ => 0)))), ((x 35), .inl (cy 0, 96, .inl (fun _ => 0))), ((x 36), .inl (cy 0, 96, .inl (fun _ => 0))), ((x 38), .inl (cy 0, 96, .inl (fun _ => 0)))] (fun (v : Int32) (u : Unit) => (v = 3072 ∧ (0 ≤ z0 ∧ z0 ≤ 11 ∧ 0 ≤ z1 ∧ z1 ≤ 7 ∧ 0 ≤ z2 ∧ z2 ≤ 2000)) ∨ (v = (-1) ∧ ¬ (0 ≤ z0 ∧ z0 ≤ 11 ∧ 0 ≤ z1 ∧ z1 ≤ 7 ∧ 0 ≤ z2 ∧ z2 ≤ 2000))) (fun (u : Unit) => []) := by
  refine ci_go (by decide) (Nat.le_of_ble_eq_true rfl) (fun p e s m below meth c ls A hA S hr hlk hnm hP hK hD hl => ?_)
  have hS : va_S A s.heap s.heap [] := va_S.rf
  have hl : lv_has ls 5 [(0, .ref (x 0)), (1, .int p0), (2, .int p1), (3, .int p2)] := hl
  refine lv_iload_n S.1 S.2.1 dX11_lies_0 rfl (lv_at hl 1 rfl) ?_
  refine lv_iload_n S.1 S.2.1 dX11_lies_1 rfl (lv_at hl 2 rfl) ?_
  refine call_ri (runS_R (wc := []) (As := [.int p0, .int p1]) (rest := []) S (kX11_cellAt l D cy p0 p1 z0 h0 z1 h1) hK hP [] rfl kw_538 kw_539 kw_144 kw_540 okX11_cellAt rfl (by decide) hl.1 rfl (Nat.le_of_ble_eq_true rfl) dX11_lies_2 (by decide)) (fun v2 w2 => ?_)
  rcases w2 with ⟨rfl, w2_0_0⟩ | ⟨cx_2, cl_2, rfl, w2_1_0, w2_1_1, w2_1_2, w2_1_3⟩
  · refine lv_istore (lv' := [(4, .int (-1)), (0, .ref (x 0)), (1, .int p0), (2, .int p1), (3, .int p2)]) S.1 S.2.1 dX11_lies_5 hl (by decide) rfl (fun ls hl => ?_)
    refine lv_iload S.1 S.2.1 dX11_lies_7 (lv_at hl 0 rfl) ?_
    refine lv_iconst (v := (-1)) S.1 S.2.1 dX11_lies_9 (by decide) ?_
    refine r_icmp_eq S (-1) (-1) rfl rfl dX11_lies_10 (tgt := 31) (by decide) (fun _ => ?_) (fun c => absurd c (by decide))
    refine lv_iconst (v := (-1)) S.1 S.2.1 dX11_lies_31 (by decide) ?_
    exact ci_ret (u := ()) S hr hlk rfl hK (hP.sub [] rfl) (hD.sub [] (by decide) rfl) hS (Or.inr (⟨rfl, (by omega)⟩)) (by decide) (by decide) dX11_lies_32
  · refine lv_istore (lv' := [(4, .int (nI (12 * cl_2 + cx_2))), (0, .ref (x 0)), (1, .int p0), (2, .int p1), (3, .int p2)]) S.1 S.2.1 dX11_lies_5 hl (by decide) rfl (fun ls hl => ?_)
    refine lv_iload S.1 S.2.1 dX11_lies_7 (lv_at hl 0 rfl) ?_
    refine lv_iconst (v := (-1)) S.1 S.2.1 dX11_lies_9 (by decide) ?_
    refine r_icmp_eq S ((12 * cl_2 + cx_2 : Nat) : Int) (-1) (nI_toInt (by omega)) rfl dX11_lies_10 (tgt := 31) (by decide) (fun c => absurd c (by omega)) (fun _ => ?_)
    refine lv_iload_n S.1 S.2.1 dX11_lies_13 rfl (lv_at hl 4 rfl) ?_
    refine r_if_lt S z2 h2 dX11_lies_14 (tgt := 31) (by decide) (fun e_14_1 => ?_) (fun e_14_1 => ?_)
    · refine lv_iconst (v := (-1)) S.1 S.2.1 dX11_lies_31 (by decide) ?_
      exact ci_ret (u := ()) S hr hlk rfl hK (hP.sub [] rfl) (hD.sub [] (by decide) rfl) hS (Or.inr (⟨rfl, (by omega)⟩)) (by decide) (by decide) dX11_lies_32
    · refine lv_iload_n S.1 S.2.1 dX11_lies_17 rfl (lv_at hl 4 rfl) ?_
      refine lv_sipush (v := 2000) S.1 S.2.1 dX11_lies_18 (by decide) ?_
      refine r_icmp_gt S z2 2000 h2 rfl dX11_lies_21 (tgt := 31) (by decide) (fun e_21_2 => ?_) (fun e_21_2 => ?_)
      · refine lv_iconst (v := (-1)) S.1 S.2.1 dX11_lies_31 (by decide) ?_
        exact ci_ret (u := ()) S hr hlk rfl hK (hP.sub [] rfl) (hD.sub [] (by decide) rfl) hS (Or.inr (⟨rfl, (by omega)⟩)) (by decide) (by decide) dX11_lies_32
      · refine lv_aload_n S.1 S.2.1 dX11_lies_24 rfl (lv_at hl 1 rfl) ?_
        refine call_i (wr := []) (runV_C (wc := [((x 0), .inr (10, [.int 0, .int (-1), .ref (x 1), .ref (x 9), .int 0, .ref (x 10), .ref (x 13), .ref (x 16), .ref (x 29), .int 0, .int 0, .ref (x 30), .int 0, .ref (x 31), .ref (x 42), .int 0, .int 0, .null, .ref (x 43)])), ((x 13), .inr (4, [.ref (x 14), .ref (x 15), .int 0, .ref (x 16)])), ((x 16), .inr (5, [.int 0, .ref (x 17), .ref (x 18), .ref (x 19), .ref (x 20), .ref (x 21), .int 0, .int 10, .int 20, .int 0, .int 0, .ref (x 22), .ref (x 23), .int 0, .ref (x 24), .ref (x 25), .ref (x 26), .ref (x 27), .ref (x 28)])), ((x 42), .inl (cy 7, 16, .inr (.inr (.inr (.inr (fun _ => none)))))), ((x 31), .inr (6, [.ref (x 32), .ref (x 9), .ref (x 29), .int 0, .int 0, .int 0, .ref (x 36), .ref (x 37), .ref (x 38), .ref (x 39), .ref (x 40), .ref (x 41), .int 0])), ((x 32), .inr (9, [.ref (x 33), .ref (x 34), .ref (x 35), .int 0])), ((x 33), .inl (cy 0, 384, .inl (fun _ => 0))), ((x 34), .inl (cy 2, 384, .inr (.inl (fun _ => 0)))), ((x 35), .inl (cy 0, 96, .inl (fun _ => 0))), ((x 36), .inl (cy 0, 96, .inl (fun _ => 0))), ((x 38), .inl (cy 0, 96, .inl (fun _ => 0)))]) (As := []) (rest := []) S (kX11_prepare_a l D cy x) hK hP hD [0, 1, 2, 3, 4, 5, 6, 7, 8, 9, 10] (by decide) rfl 0 10 rfl rfl kw_1167 kw_1169 kw_39 kw_144 kw_1170 okX11_prepare rfl (by decide) hl.1 rfl (Nat.le_of_ble_eq_true rfl) dX11_lies_25 (by decide)) hP hD hS hA [0, 1, 2, 3, 4, 5, 6, 7, 8, 9, 10] [] rfl rfl (by decide) (by decide) (fun v25 u25 H locs w25 hP hD hS => ?_)
        obtain ⟨g_25, lo_25, hi_25⟩ := u25
        have hP : va_P D vwCl [((x 0), .inr (10, [.int 0, .int (-1), .ref (x 1), .ref (x 9), .int 0, .ref (x 10), .ref (x 13), .ref (x 16), .ref (x 29), .int 0, .int 0, .ref (x 30), .int 0, .ref (x 31), .ref (x 42), .int 1, .int 1, .ref g_25, .ref (x 43)])), ((x 13), .inr (4, [.ref (x 14), .ref (x 15), .int 0, .ref (x 16)])), ((x 16), .inr (5, [.int 0, .ref (x 17), .ref (x 18), .ref (x 19), .ref (x 20), .ref (x 21), .int 0, .int 10, .int 20, .int 0, .int 0, .ref (x 22), .ref (x 23), .int 0, .ref (x 24), .ref (x 25), .ref (x 26), .ref (x 27), .ref (x 28)])), ((x 42), .inl (cy 7, 16, .inr (.inr (.inr (.inr (va_up (fun _ => none) (0) (some g_25))))))), ((x 31), .inr (6, [.ref (x 32), .ref (x 9), .ref (x 29), .int 0, .int 0, .int 10, .ref (x 36), .ref (x 37), .ref (x 38), .ref (x 39), .ref (x 40), .ref (x 41), .int 1])), ((x 32), .inr (9, [.ref (x 33), .ref (x 34), .ref (x 35), .int 0])), ((x 33), .inl (cy 0, 384, .inl (fun _ => 10))), ((x 34), .inl (cy 2, 384, .inr (.inl (fun _ => 0)))), ((x 35), .inl (cy 0, 96, .inl (fun _ => (-1)))), ((x 36), .inl (cy 0, 96, .inl (fun _ => 0))), ((x 38), .inl (cy 0, 96, .inl (fun _ => (-268435456)))), (g_25, .inr (1, [.int 0, .int 1, .int 1, .int 0, .long 0, .int 0, .int 0, .ref lo_25, .ref hi_25])), (lo_25, .inl (cy 0, 96, .inl (fun _ => 0))), (hi_25, .inl (cy 0, 96, .inl (fun _ => 0)))] H := hP
        have hD : va_D A [((x 0), .inr (10, [.int 0, .int (-1), .ref (x 1), .ref (x 9), .int 0, .ref (x 10), .ref (x 13), .ref (x 16), .ref (x 29), .int 0, .int 0, .ref (x 30), .int 0, .ref (x 31), .ref (x 42), .int 1, .int 1, .ref g_25, .ref (x 43)])), ((x 13), .inr (4, [.ref (x 14), .ref (x 15), .int 0, .ref (x 16)])), ((x 16), .inr (5, [.int 0, .ref (x 17), .ref (x 18), .ref (x 19), .ref (x 20), .ref (x 21), .int 0, .int 10, .int 20, .int 0, .int 0, .ref (x 22), .ref (x 23), .int 0, .ref (x 24), .ref (x 25), .ref (x 26), .ref (x 27), .ref (x 28)])), ((x 42), .inl (cy 7, 16, .inr (.inr (.inr (.inr (va_up (fun _ => none) (0) (some g_25))))))), ((x 31), .inr (6, [.ref (x 32), .ref (x 9), .ref (x 29), .int 0, .int 0, .int 10, .ref (x 36), .ref (x 37), .ref (x 38), .ref (x 39), .ref (x 40), .ref (x 41), .int 1])), ((x 32), .inr (9, [.ref (x 33), .ref (x 34), .ref (x 35), .int 0])), ((x 33), .inl (cy 0, 384, .inl (fun _ => 10))), ((x 34), .inl (cy 2, 384, .inr (.inl (fun _ => 0)))), ((x 35), .inl (cy 0, 96, .inl (fun _ => (-1)))), ((x 36), .inl (cy 0, 96, .inl (fun _ => 0))), ((x 38), .inl (cy 0, 96, .inl (fun _ => (-268435456)))), (g_25, .inr (1, [.int 0, .int 1, .int 1, .int 0, .long 0, .int 0, .int 0, .ref lo_25, .ref hi_25])), (lo_25, .inl (cy 0, 96, .inl (fun _ => 0))), (hi_25, .inl (cy 0, 96, .inl (fun _ => 0)))] := hD
        subst w25
        refine r_if_ne S 1 rfl dX11_lies_28 (tgt := 33) (by decide) (fun _ => ?_) (fun c => absurd c (by decide))
        refine lv_aload_n S.1 S.2.1 dX11_lies_33 rfl (lv_at hl 1 rfl) ?_
        refine lv_iload S.1 S.2.1 dX11_lies_34 (lv_at hl 0 rfl) ?_
        refine lv_iload_n S.1 S.2.1 dX11_lies_36 rfl (lv_at hl 4 rfl) ?_
        refine call_ri (runV_R (wc := [((x 0), .inr (10, [.int 0, .int (-1), .ref (x 1), .ref (x 9), .int 0, .ref (x 10), .ref (x 13), .ref (x 16), .ref (x 29), .int 0, .int 0, .ref (x 30), .int 0, .ref (x 31), .ref (x 42), .int 1, .int 1, .ref g_25, .ref (x 43)])), ((x 16), .inr (5, [.int 0, .ref (x 17), .ref (x 18), .ref (x 19), .ref (x 20), .ref (x 21), .int 0, .int 10, .int 20, .int 0, .int 0, .ref (x 22), .ref (x 23), .int 0, .ref (x 24), .ref (x 25), .ref (x 26), .ref (x 27), .ref (x 28)])), ((x 42), .inl (cy 7, 16, .inr (.inr (.inr (.inr (va_up (fun _ => none) (0) (some g_25))))))), (g_25, .inr (1, [.int 0, .int 1, .int 1, .int 0, .long 0, .int 0, .int 0, .ref lo_25, .ref hi_25]))]) (As := [.int (nI (12 * cl_2 + cx_2)), .int p2]) (rest := []) S (kX11_mayLieByAll l D cy x g_25 lo_25 hi_25 (nI (12 * cl_2 + cx_2)) p2 ((12 * cl_2 + cx_2 : Nat) : Int) (nI_toInt (by omega)) z2 h2) hK hP [0, 2, 3, 11] rfl 0 10 rfl rfl kw_1180 kw_1182 kw_40 kw_144 kw_1183 okX11_mayLieByAll rfl (by decide) hl.1 rfl (Nat.le_of_ble_eq_true rfl) dX11_lies_37 (by decide)) (fun v37 w37 => ?_)
        subst w37
        exact ci_ret (u := ()) S hr hlk rfl hK (hP.sub [] rfl) (hD.sub [] (by decide) rfl) hS (Or.inl ⟨rfl, (by omega)⟩) (by decide) (by decide) dX11_lies_40
set_option maxHeartbeats 4000000 in
set_option maxRecDepth 100000 in
theorem kX11_line (l : Launch) (D : va_G) (cy : Nat → ClassId) (x : Nat → Nat) (p0 : Int32) (p1 : Int32) (p2 : Int32) (z0 : Int) (h0 : p0.toInt = z0) (z1 : Int) (h1 : p1.toInt = z1) (z2 : Int) (h2 : p2.toInt = z2) : CI l D cy yX11_line cX11_line 7 (some .int) 8 198 3 201 [.ref (x 0), .int p0, .int p1, .int p2] [((x 0), .inr (10, [.int 0, .int (-1), .ref (x 1), .ref (x 9), .int 0, .ref (x 10), .ref (x 13), .ref (x 16), .ref (x 29), .int 0, .int 0, .ref (x 30), .int 0, .ref (x 31), .ref (x 42), .int 0, .int 0, .null, .ref (x 43)])), ((x 13), .inr (4, [.ref (x 14), .ref (x 15), .int 0, .ref (x 16)])), ((x 16), .inr (5, [.int 0, .ref (x 17), .ref (x 18), .ref (x 19), .ref (x 20), .ref (x 21), .int 0, .int 10, .int 20, .int 0, .int 0, .ref (x 22), .ref (x 23), .int 0, .ref (x 24), .ref (x 25), .ref (x 26), .ref (x 27), .ref (x 28)])), ((x 42), .inl (cy 7, 16, .inr (.inr (.inr (.inr (fun _ => none)))))), ((x 31), .inr (6, [.ref (x 32), .ref (x 9), .ref (x 29), .int 0, .int 0, .int 0, .ref (x 36), .ref (x 37), .ref (x 38), .ref (x 39), .ref (x 40), .ref (x 41), .int 0])), ((x 32), .inr (9, [.ref (x 33), .ref (x 34), .ref (x 35), .int 0])), ((x 33), .inl (cy 0, 384, .inl (fun _ => 0))), ((x 34), .inl (cy 2, 384, .inr (.inl (fun _ => 0)))), ((x 35), .inl (cy 0, 96, .inl (fun _ => 0))), ((x 36), .inl (cy 0, 96, .inl (fun _ => 0))), ((x 38), .inl (cy 0, 96, .inl (fun _ => 0))), ((x 43), .inl (cy 0, 12, .inl (fun _ => 0)))] (fun (v : Int32) (u : Unit) => (v = 1 ∧ ((0 ≤ z0 ∧ z0 ≤ 11 ∧ 0 ≤ z1 ∧ z1 ≤ 7 ∧ ((z2 = 0 ∧ 0 < z0) ∨ (z2 = 1 ∧ z0 < 11) ∨ (z2 = 2 ∧ 0 < z1) ∨ (z2 = 3 ∧ z1 < 7))))) ∨ (v = (-1) ∧ (¬ (0 ≤ z0 ∧ z0 ≤ 11 ∧ 0 ≤ z1 ∧ z1 ≤ 7 ∧ ((z2 = 0 ∧ 0 < z0) ∨ (z2 = 1 ∧ z0 < 11) ∨ (z2 = 2 ∧ 0 < z1) ∨ (z2 = 3 ∧ z1 < 7)))))) (fun (u : Unit) => []) := by
  refine ci_go (by decide) (Nat.le_of_ble_eq_true rfl) (fun p e s m below meth c ls A hA S hr hlk hnm hP hK hD hl => ?_)
  have hS : va_S A s.heap s.heap [] := va_S.rf
  have hl : lv_has ls 7 [(0, .ref (x 0)), (1, .int p0), (2, .int p1), (3, .int p2)] := hl
  refine lv_iload_n S.1 S.2.1 dX11_line_0 rfl (lv_at hl 1 rfl) ?_
  refine lv_iload_n S.1 S.2.1 dX11_line_1 rfl (lv_at hl 2 rfl) ?_
  refine call_ri (runS_R (wc := []) (As := [.int p0, .int p1]) (rest := []) S (kX11_cellAt l D cy p0 p1 z0 h0 z1 h1) hK hP [] rfl kw_538 kw_539 kw_144 kw_540 okX11_cellAt rfl (by decide) hl.1 rfl (Nat.le_of_ble_eq_true rfl) dX11_line_2 (by decide)) (fun v2 w2 => ?_)
  rcases w2 with ⟨rfl, w2_0_0⟩ | ⟨cx_2, cl_2, rfl, w2_1_0, w2_1_1, w2_1_2, w2_1_3⟩
  · refine lv_istore (lv' := [(4, .int (-1)), (0, .ref (x 0)), (1, .int p0), (2, .int p1), (3, .int p2)]) S.1 S.2.1 dX11_line_5 hl (by decide) rfl (fun ls hl => ?_)
    refine lv_iload S.1 S.2.1 dX11_line_7 (lv_at hl 0 rfl) ?_
    refine lv_iconst (v := (-1)) S.1 S.2.1 dX11_line_9 (by decide) ?_
    refine r_icmp_eq S (-1) (-1) rfl rfl dX11_line_10 (tgt := 22) (by decide) (fun _ => ?_) (fun c => absurd c (by decide))
    refine lv_iconst (v := (-1)) S.1 S.2.1 dX11_line_22 (by decide) ?_
    exact ci_ret (u := ()) S hr hlk rfl hK (hP.sub [] rfl) (hD.sub [] (by decide) rfl) hS (Or.inr (⟨rfl, (by omega)⟩)) (by decide) (by decide) dX11_line_23
  · refine lv_istore (lv' := [(4, .int (nI (12 * cl_2 + cx_2))), (0, .ref (x 0)), (1, .int p0), (2, .int p1), (3, .int p2)]) S.1 S.2.1 dX11_line_5 hl (by decide) rfl (fun ls hl => ?_)
    refine lv_iload S.1 S.2.1 dX11_line_7 (lv_at hl 0 rfl) ?_
    refine lv_iconst (v := (-1)) S.1 S.2.1 dX11_line_9 (by decide) ?_
    refine r_icmp_eq S ((12 * cl_2 + cx_2 : Nat) : Int) (-1) (nI_toInt (by omega)) rfl dX11_line_10 (tgt := 22) (by decide) (fun c => absurd c (by omega)) (fun _ => ?_)
    refine lv_iload_n S.1 S.2.1 dX11_line_13 rfl (lv_at hl 4 rfl) ?_
    refine r_if_lt S z2 h2 dX11_line_14 (tgt := 22) (by decide) (fun e_14_1 => ?_) (fun e_14_1 => ?_)
    · refine lv_iconst (v := (-1)) S.1 S.2.1 dX11_line_22 (by decide) ?_
      exact ci_ret (u := ()) S hr hlk rfl hK (hP.sub [] rfl) (hD.sub [] (by decide) rfl) hS (Or.inr (⟨rfl, (by omega)⟩)) (by decide) (by decide) dX11_line_23
    · refine lv_iload_n S.1 S.2.1 dX11_line_17 rfl (lv_at hl 4 rfl) ?_
      refine lv_iconst (v := 4) S.1 S.2.1 dX11_line_18 (by decide) ?_
      refine r_icmp_lt S z2 4 h2 rfl dX11_line_19 (tgt := 24) (by decide) (fun e_19_2 => ?_) (fun e_19_2 => ?_)
      · refine lv_iload S.1 S.2.1 dX11_line_24 (lv_at hl 0 rfl) ?_
        refine lv_iload_n S.1 S.2.1 dX11_line_26 rfl (lv_at hl 4 rfl) ?_
        refine call_ri (runS_R (wc := []) (As := [.int (nI (12 * cl_2 + cx_2)), .int p2]) (rest := []) S (kX11_neighbour l D cy (12 * cl_2 + cx_2) p2 z2 h2 (by omega)) hK hP [] rfl kw_644 kw_645 kw_144 kw_646 okX11_neighbour rfl (by decide) hl.1 rfl (Nat.le_of_ble_eq_true rfl) dX11_line_27 (by decide)) (fun v27 w27 => ?_)
        rcases w27 with ⟨rfl, w27_0_0⟩ | ⟨nj_27, rfl, w27_1_0, w27_1_1⟩
        · refine lv_istore (lv' := [(5, .int (-1)), (4, .int (nI (12 * cl_2 + cx_2))), (0, .ref (x 0)), (1, .int p0), (2, .int p1), (3, .int p2)]) S.1 S.2.1 dX11_line_30 hl (by decide) rfl (fun ls hl => ?_)
          refine lv_iload S.1 S.2.1 dX11_line_32 (lv_at hl 0 rfl) ?_
          refine lv_iconst (v := (-1)) S.1 S.2.1 dX11_line_34 (by decide) ?_
          refine r_icmp_eq S (-1) (-1) rfl rfl dX11_line_35 (tgt := 45) (by decide) (fun _ => ?_) (fun c => absurd c (by decide))
          refine lv_iconst (v := (-1)) S.1 S.2.1 dX11_line_45 (by decide) ?_
          exact ci_ret (u := ()) S hr hlk rfl hK (hP.sub [] rfl) (hD.sub [] (by decide) rfl) hS (Or.inr (⟨rfl, (by omega)⟩)) (by decide) (by decide) dX11_line_46
        · refine lv_istore (lv' := [(5, .int (nI (nj_27))), (4, .int (nI (12 * cl_2 + cx_2))), (0, .ref (x 0)), (1, .int p0), (2, .int p1), (3, .int p2)]) S.1 S.2.1 dX11_line_30 hl (by decide) rfl (fun ls hl => ?_)
          refine lv_iload S.1 S.2.1 dX11_line_32 (lv_at hl 0 rfl) ?_
          refine lv_iconst (v := (-1)) S.1 S.2.1 dX11_line_34 (by decide) ?_
          refine r_icmp_eq S ((nj_27 : Nat) : Int) (-1) (nI_toInt (by omega)) rfl dX11_line_35 (tgt := 45) (by decide) (fun c => absurd c (by omega)) (fun _ => ?_)
          refine lv_aload_n S.1 S.2.1 dX11_line_38 rfl (lv_at hl 2 rfl) ?_
          refine call_i (wr := [((x 43), .inl (cy 0, 12, .inl (fun _ => 0)))]) (runV_C (wc := [((x 0), .inr (10, [.int 0, .int (-1), .ref (x 1), .ref (x 9), .int 0, .ref (x 10), .ref (x 13), .ref (x 16), .ref (x 29), .int 0, .int 0, .ref (x 30), .int 0, .ref (x 31), .ref (x 42), .int 0, .int 0, .null, .ref (x 43)])), ((x 13), .inr (4, [.ref (x 14), .ref (x 15), .int 0, .ref (x 16)])), ((x 16), .inr (5, [.int 0, .ref (x 17), .ref (x 18), .ref (x 19), .ref (x 20), .ref (x 21), .int 0, .int 10, .int 20, .int 0, .int 0, .ref (x 22), .ref (x 23), .int 0, .ref (x 24), .ref (x 25), .ref (x 26), .ref (x 27), .ref (x 28)])), ((x 42), .inl (cy 7, 16, .inr (.inr (.inr (.inr (fun _ => none)))))), ((x 31), .inr (6, [.ref (x 32), .ref (x 9), .ref (x 29), .int 0, .int 0, .int 0, .ref (x 36), .ref (x 37), .ref (x 38), .ref (x 39), .ref (x 40), .ref (x 41), .int 0])), ((x 32), .inr (9, [.ref (x 33), .ref (x 34), .ref (x 35), .int 0])), ((x 33), .inl (cy 0, 384, .inl (fun _ => 0))), ((x 34), .inl (cy 2, 384, .inr (.inl (fun _ => 0)))), ((x 35), .inl (cy 0, 96, .inl (fun _ => 0))), ((x 36), .inl (cy 0, 96, .inl (fun _ => 0))), ((x 38), .inl (cy 0, 96, .inl (fun _ => 0)))]) (As := []) (rest := []) S (kX11_prepare_a l D cy x) hK hP hD [0, 1, 2, 3, 4, 5, 6, 7, 8, 9, 10] (by decide) rfl 0 10 rfl rfl kw_1167 kw_1169 kw_39 kw_144 kw_1170 okX11_prepare rfl (by decide) hl.1 rfl (Nat.le_of_ble_eq_true rfl) dX11_line_39 (by decide)) hP hD hS hA [0, 1, 2, 3, 4, 5, 6, 7, 8, 9, 10] [11] rfl rfl (by decide) (by decide) (fun v39 u39 H locs w39 hP hD hS => ?_)
          obtain ⟨g_39, lo_39, hi_39⟩ := u39
          have hP : va_P D vwCl [((x 43), .inl (cy 0, 12, .inl (fun _ => 0))), ((x 0), .inr (10, [.int 0, .int (-1), .ref (x 1), .ref (x 9), .int 0, .ref (x 10), .ref (x 13), .ref (x 16), .ref (x 29), .int 0, .int 0, .ref (x 30), .int 0, .ref (x 31), .ref (x 42), .int 1, .int 1, .ref g_39, .ref (x 43)])), ((x 13), .inr (4, [.ref (x 14), .ref (x 15), .int 0, .ref (x 16)])), ((x 16), .inr (5, [.int 0, .ref (x 17), .ref (x 18), .ref (x 19), .ref (x 20), .ref (x 21), .int 0, .int 10, .int 20, .int 0, .int 0, .ref (x 22), .ref (x 23), .int 0, .ref (x 24), .ref (x 25), .ref (x 26), .ref (x 27), .ref (x 28)])), ((x 42), .inl (cy 7, 16, .inr (.inr (.inr (.inr (va_up (fun _ => none) (0) (some g_39))))))), ((x 31), .inr (6, [.ref (x 32), .ref (x 9), .ref (x 29), .int 0, .int 0, .int 10, .ref (x 36), .ref (x 37), .ref (x 38), .ref (x 39), .ref (x 40), .ref (x 41), .int 1])), ((x 32), .inr (9, [.ref (x 33), .ref (x 34), .ref (x 35), .int 0])), ((x 33), .inl (cy 0, 384, .inl (fun _ => 10))), ((x 34), .inl (cy 2, 384, .inr (.inl (fun _ => 0)))), ((x 35), .inl (cy 0, 96, .inl (fun _ => (-1)))), ((x 36), .inl (cy 0, 96, .inl (fun _ => 0))), ((x 38), .inl (cy 0, 96, .inl (fun _ => (-268435456)))), (g_39, .inr (1, [.int 0, .int 1, .int 1, .int 0, .long 0, .int 0, .int 0, .ref lo_39, .ref hi_39])), (lo_39, .inl (cy 0, 96, .inl (fun _ => 0))), (hi_39, .inl (cy 0, 96, .inl (fun _ => 0)))] H := hP
          have hD : va_D A [((x 43), .inl (cy 0, 12, .inl (fun _ => 0))), ((x 0), .inr (10, [.int 0, .int (-1), .ref (x 1), .ref (x 9), .int 0, .ref (x 10), .ref (x 13), .ref (x 16), .ref (x 29), .int 0, .int 0, .ref (x 30), .int 0, .ref (x 31), .ref (x 42), .int 1, .int 1, .ref g_39, .ref (x 43)])), ((x 13), .inr (4, [.ref (x 14), .ref (x 15), .int 0, .ref (x 16)])), ((x 16), .inr (5, [.int 0, .ref (x 17), .ref (x 18), .ref (x 19), .ref (x 20), .ref (x 21), .int 0, .int 10, .int 20, .int 0, .int 0, .ref (x 22), .ref (x 23), .int 0, .ref (x 24), .ref (x 25), .ref (x 26), .ref (x 27), .ref (x 28)])), ((x 42), .inl (cy 7, 16, .inr (.inr (.inr (.inr (va_up (fun _ => none) (0) (some g_39))))))), ((x 31), .inr (6, [.ref (x 32), .ref (x 9), .ref (x 29), .int 0, .int 0, .int 10, .ref (x 36), .ref (x 37), .ref (x 38), .ref (x 39), .ref (x 40), .ref (x 41), .int 1])), ((x 32), .inr (9, [.ref (x 33), .ref (x 34), .ref (x 35), .int 0])), ((x 33), .inl (cy 0, 384, .inl (fun _ => 10))), ((x 34), .inl (cy 2, 384, .inr (.inl (fun _ => 0)))), ((x 35), .inl (cy 0, 96, .inl (fun _ => (-1)))), ((x 36), .inl (cy 0, 96, .inl (fun _ => 0))), ((x 38), .inl (cy 0, 96, .inl (fun _ => (-268435456)))), (g_39, .inr (1, [.int 0, .int 1, .int 1, .int 0, .long 0, .int 0, .int 0, .ref lo_39, .ref hi_39])), (lo_39, .inl (cy 0, 96, .inl (fun _ => 0))), (hi_39, .inl (cy 0, 96, .inl (fun _ => 0)))] := hD
          subst w39
          refine r_if_ne S 1 rfl dX11_line_42 (tgt := 47) (by decide) (fun _ => ?_) (fun c => absurd c (by decide))
          refine lv_aload_n S.1 S.2.1 dX11_line_47 rfl (lv_at hl 2 rfl) ?_
          refine lv_iload S.1 S.2.1 dX11_line_48 (lv_at hl 1 rfl) ?_
          refine lv_iload S.1 S.2.1 dX11_line_50 (lv_at hl 0 rfl) ?_
          refine call_v (wr := [((x 13), .inr (4, [.ref (x 14), .ref (x 15), .int 0, .ref (x 16)])), ((x 31), .inr (6, [.ref (x 32), .ref (x 9), .ref (x 29), .int 0, .int 0, .int 10, .ref (x 36), .ref (x 37), .ref (x 38), .ref (x 39), .ref (x 40), .ref (x 41), .int 1])), ((x 32), .inr (9, [.ref (x 33), .ref (x 34), .ref (x 35), .int 0])), ((x 33), .inl (cy 0, 384, .inl (fun _ => 10))), ((x 34), .inl (cy 2, 384, .inr (.inl (fun _ => 0)))), ((x 35), .inl (cy 0, 96, .inl (fun _ => (-1)))), ((x 36), .inl (cy 0, 96, .inl (fun _ => 0))), ((x 38), .inl (cy 0, 96, .inl (fun _ => (-268435456)))), (lo_39, .inl (cy 0, 96, .inl (fun _ => 0))), (hi_39, .inl (cy 0, 96, .inl (fun _ => 0)))]) (runV_C (wc := [((x 0), .inr (10, [.int 0, .int (-1), .ref (x 1), .ref (x 9), .int 0, .ref (x 10), .ref (x 13), .ref (x 16), .ref (x 29), .int 0, .int 0, .ref (x 30), .int 0, .ref (x 31), .ref (x 42), .int 1, .int 1, .ref g_39, .ref (x 43)])), ((x 16), .inr (5, [.int 0, .ref (x 17), .ref (x 18), .ref (x 19), .ref (x 20), .ref (x 21), .int 0, .int 10, .int 20, .int 0, .int 0, .ref (x 22), .ref (x 23), .int 0, .ref (x 24), .ref (x 25), .ref (x 26), .ref (x 27), .ref (x 28)])), ((x 42), .inl (cy 7, 16, .inr (.inr (.inr (.inr (va_up (fun _ => none) (0) (some g_39))))))), (g_39, .inr (1, [.int 0, .int 1, .int 1, .int 0, .long 0, .int 0, .int 0, .ref lo_39, .ref hi_39])), ((x 43), .inl (cy 0, 12, .inl (fun _ => 0)))]) (As := [.int (nI (12 * cl_2 + cx_2)), .int (nI (nj_27))]) (rest := []) S (kX11_gatherLineFacts l D cy x g_39 lo_39 hi_39 (nI (12 * cl_2 + cx_2)) (nI (nj_27)) ((12 * cl_2 + cx_2 : Nat) : Int) (nI_toInt (by omega)) ((nj_27 : Nat) : Int) (nI_toInt (by omega))) hK hP hD [1, 3, 4, 12, 0] (by decide) rfl 0 10 rfl rfl kw_1192 kw_1194 kw_42 kw_144 kw_1195 okX11_gatherLineFacts rfl (by decide) hl.1 rfl (Nat.le_of_ble_eq_true rfl) dX11_line_52 (by decide)) hP hD hS hA [1, 3, 4, 12, 0] [2, 5, 6, 7, 8, 9, 10, 11, 13, 14] rfl rfl (by decide) (by decide) (fun u52 H locs w52 hP hD hS => ?_)
          have hP : va_P D vwCl [((x 13), .inr (4, [.ref (x 14), .ref (x 15), .int 0, .ref (x 16)])), ((x 31), .inr (6, [.ref (x 32), .ref (x 9), .ref (x 29), .int 0, .int 0, .int 10, .ref (x 36), .ref (x 37), .ref (x 38), .ref (x 39), .ref (x 40), .ref (x 41), .int 1])), ((x 32), .inr (9, [.ref (x 33), .ref (x 34), .ref (x 35), .int 0])), ((x 33), .inl (cy 0, 384, .inl (fun _ => 10))), ((x 34), .inl (cy 2, 384, .inr (.inl (fun _ => 0)))), ((x 35), .inl (cy 0, 96, .inl (fun _ => (-1)))), ((x 36), .inl (cy 0, 96, .inl (fun _ => 0))), ((x 38), .inl (cy 0, 96, .inl (fun _ => (-268435456)))), (lo_39, .inl (cy 0, 96, .inl (fun _ => 0))), (hi_39, .inl (cy 0, 96, .inl (fun _ => 0))), ((x 0), .inr (10, [.int 0, .int (-1), .ref (x 1), .ref (x 9), .int 0, .ref (x 10), .ref (x 13), .ref (x 16), .ref (x 29), .int 0, .int 0, .ref (x 30), .int 0, .ref (x 31), .ref (x 42), .int 1, .int 1, .ref g_39, .ref (x 43)])), ((x 16), .inr (5, [.int 0, .ref (x 17), .ref (x 18), .ref (x 19), .ref (x 20), .ref (x 21), .int 0, .int 10, .int 20, .int 0, .int 0, .ref (x 22), .ref (x 23), .int 0, .ref (x 24), .ref (x 25), .ref (x 26), .ref (x 27), .ref (x 28)])), ((x 42), .inl (cy 7, 16, .inr (.inr (.inr (.inr (va_up (fun _ => none) (0) (some g_39))))))), (g_39, .inr (1, [.int 0, .int 1, .int 1, .int 0, .long 0, .int 0, .int 0, .ref lo_39, .ref hi_39])), ((x 43), .inl (cy 0, 12, .inl (upd (upd (upd (upd (fun _ => 0) (8) 0) (9) 0) (10) 0) (11) 1)))] H := hP
          have hD : va_D A [((x 13), .inr (4, [.ref (x 14), .ref (x 15), .int 0, .ref (x 16)])), ((x 31), .inr (6, [.ref (x 32), .ref (x 9), .ref (x 29), .int 0, .int 0, .int 10, .ref (x 36), .ref (x 37), .ref (x 38), .ref (x 39), .ref (x 40), .ref (x 41), .int 1])), ((x 32), .inr (9, [.ref (x 33), .ref (x 34), .ref (x 35), .int 0])), ((x 33), .inl (cy 0, 384, .inl (fun _ => 10))), ((x 34), .inl (cy 2, 384, .inr (.inl (fun _ => 0)))), ((x 35), .inl (cy 0, 96, .inl (fun _ => (-1)))), ((x 36), .inl (cy 0, 96, .inl (fun _ => 0))), ((x 38), .inl (cy 0, 96, .inl (fun _ => (-268435456)))), (lo_39, .inl (cy 0, 96, .inl (fun _ => 0))), (hi_39, .inl (cy 0, 96, .inl (fun _ => 0))), ((x 0), .inr (10, [.int 0, .int (-1), .ref (x 1), .ref (x 9), .int 0, .ref (x 10), .ref (x 13), .ref (x 16), .ref (x 29), .int 0, .int 0, .ref (x 30), .int 0, .ref (x 31), .ref (x 42), .int 1, .int 1, .ref g_39, .ref (x 43)])), ((x 16), .inr (5, [.int 0, .ref (x 17), .ref (x 18), .ref (x 19), .ref (x 20), .ref (x 21), .int 0, .int 10, .int 20, .int 0, .int 0, .ref (x 22), .ref (x 23), .int 0, .ref (x 24), .ref (x 25), .ref (x 26), .ref (x 27), .ref (x 28)])), ((x 42), .inl (cy 7, 16, .inr (.inr (.inr (.inr (va_up (fun _ => none) (0) (some g_39))))))), (g_39, .inr (1, [.int 0, .int 1, .int 1, .int 0, .long 0, .int 0, .int 0, .ref lo_39, .ref hi_39])), ((x 43), .inl (cy 0, 12, .inl (upd (upd (upd (upd (fun _ => 0) (8) 0) (9) 0) (10) 0) (11) 1)))] := hD
          refine lv_aload_n S.1 S.2.1 dX11_line_55 rfl (lv_at hl 2 rfl) ?_
          refine r_get S hK hP 10 10 rfl rfl inX11 7 (by decide) kw_475 (v := .ref (x 16)) rfl dX11_line_56 ?_
          refine lv_iconst (v := 2) S.1 S.2.1 dX11_line_59 (by decide) ?_
          refine lv_aload_n S.1 S.2.1 dX11_line_60 rfl (lv_at hl 2 rfl) ?_
          refine r_get S hK hP 10 10 rfl rfl inX11 18 (by decide) kw_486 (v := .ref (x 43)) rfl dX11_line_61 ?_
          refine call_ri (runV_R (wc := [((x 16), .inr (5, [.int 0, .ref (x 17), .ref (x 18), .ref (x 19), .ref (x 20), .ref (x 21), .int 0, .int 10, .int 20, .int 0, .int 0, .ref (x 22), .ref (x 23), .int 0, .ref (x 24), .ref (x 25), .ref (x 26), .ref (x 27), .ref (x 28)]))]) (As := [.int 2, .ref (x 43)]) (rest := []) S (kX5_firstThatTells l D cy x) hK hP [11] rfl 0 5 rfl rfl kw_977 kw_978 kw_979 kw_149 kw_980 okX5_firstThatTells rfl (by decide) hl.1 rfl (Nat.le_of_ble_eq_true rfl) dX11_line_64 (by decide)) (fun v64 w64 => ?_)
          subst w64
          refine lv_istore (lv' := [(6, .int (-1)), (5, .int (nI (nj_27))), (4, .int (nI (12 * cl_2 + cx_2))), (0, .ref (x 0)), (1, .int p0), (2, .int p1), (3, .int p2)]) S.1 S.2.1 dX11_line_67 hl (by decide) rfl (fun ls hl => ?_)
          refine lv_iload S.1 S.2.1 dX11_line_69 (lv_at hl 0 rfl) ?_
          refine lv_iconst (v := (-1)) S.1 S.2.1 dX11_line_71 (by decide) ?_
          refine r_icmp_eq S (-1) (-1) rfl rfl dX11_line_72 (tgt := 86) (by decide) (fun _ => ?_) (fun c => absurd c (by decide))
          refine lv_aload_n S.1 S.2.1 dX11_line_86 rfl (lv_at hl 3 rfl) ?_
          refine r_get S hK hP 10 10 rfl rfl inX11 18 (by decide) kw_486 (v := .ref (x 43)) rfl dX11_line_87 ?_
          refine lv_bipush (v := 8) S.1 S.2.1 dX11_line_90 (by decide) ?_
          refine r_iald S hK hP 14 0 rfl rfl (8) rfl (by decide) (by decide) (v := 0) rfl dX11_line_92 ?_
          refine lv_sipush (v := 1000) S.1 S.2.1 dX11_line_93 (by decide) ?_
          refine r_icmp_ne S 0 1000 rfl rfl dX11_line_96 (tgt := 101) (by decide) (fun _ => ?_) (fun c => absurd c (by decide))
          refine lv_aload_n S.1 S.2.1 dX11_line_101 rfl (lv_at hl 3 rfl) ?_
          refine r_get S hK hP 10 10 rfl rfl inX11 18 (by decide) kw_486 (v := .ref (x 43)) rfl dX11_line_102 ?_
          refine lv_bipush (v := 9) S.1 S.2.1 dX11_line_105 (by decide) ?_
          refine r_iald S hK hP 14 0 rfl rfl (9) rfl (by decide) (by decide) (v := 0) rfl dX11_line_107 ?_
          refine lv_sipush (v := 1000) S.1 S.2.1 dX11_line_108 (by decide) ?_
          refine r_icmp_ne S 0 1000 rfl rfl dX11_line_111 (tgt := 116) (by decide) (fun _ => ?_) (fun c => absurd c (by decide))
          refine lv_aload_n S.1 S.2.1 dX11_line_116 rfl (lv_at hl 3 rfl) ?_
          refine r_get S hK hP 10 10 rfl rfl inX11 18 (by decide) kw_486 (v := .ref (x 43)) rfl dX11_line_117 ?_
          refine lv_bipush (v := 10) S.1 S.2.1 dX11_line_120 (by decide) ?_
          refine r_iald S hK hP 14 0 rfl rfl (10) rfl (by decide) (by decide) (v := 0) rfl dX11_line_122 ?_
          refine lv_sipush (v := 1000) S.1 S.2.1 dX11_line_123 (by decide) ?_
          refine r_icmp_ne S 0 1000 rfl rfl dX11_line_126 (tgt := 133) (by decide) (fun _ => ?_) (fun c => absurd c (by decide))
          refine lv_iconst (v := 1) S.1 S.2.1 dX11_line_133 (by decide) ?_
          exact ci_ret (u := ()) S hr hlk rfl hK (hP.sub [] rfl) (hD.sub [] (by decide) rfl) hS (Or.inl ⟨rfl, (by omega)⟩) (by decide) (by decide) dX11_line_134
      · refine lv_iconst (v := (-1)) S.1 S.2.1 dX11_line_22 (by decide) ?_
        exact ci_ret (u := ()) S hr hlk rfl hK (hP.sub [] rfl) (hD.sub [] (by decide) rfl) hS (Or.inr (⟨rfl, (by omega)⟩)) (by decide) (by decide) dX11_line_23
set_option maxHeartbeats 4000000 in
set_option maxRecDepth 100000 in
theorem kX11_water (l : Launch) (D : va_G) (cy : Nat → ClassId) (x : Nat → Nat) (p0 : Int32) (p1 : Int32) (p2 : Int32) (z0 : Int) (h0 : p0.toInt = z0) (z1 : Int) (h1 : p1.toInt = z1) (z2 : Int) (h2 : p2.toInt = z2) : CI l D cy yX11_water cX11_water 8 (some .int) 8 198 3 201 [.ref (x 0), .int p0, .int p1, .int p2] [((x 0), .inr (10, [.int 0, .int (-1), .ref (x 1), .ref (x 9), .int 0, .ref (x 10), .ref (x 13), .ref (x 16), .ref (x 29), .int 0, .int 0, .ref (x 30), .int 0, .ref (x 31), .ref (x 42), .int 0, .int 0, .null, .ref (x 43)])), ((x 13), .inr (4, [.ref (x 14), .ref (x 15), .int 0, .ref (x 16)])), ((x 16), .inr (5, [.int 0, .ref (x 17), .ref (x 18), .ref (x 19), .ref (x 20), .ref (x 21), .int 0, .int 10, .int 20, .int 0, .int 0, .ref (x 22), .ref (x 23), .int 0, .ref (x 24), .ref (x 25), .ref (x 26), .ref (x 27), .ref (x 28)])), ((x 42), .inl (cy 7, 16, .inr (.inr (.inr (.inr (fun _ => none)))))), ((x 31), .inr (6, [.ref (x 32), .ref (x 9), .ref (x 29), .int 0, .int 0, .int 0, .ref (x 36), .ref (x 37), .ref (x 38), .ref (x 39), .ref (x 40), .ref (x 41), .int 0])), ((x 32), .inr (9, [.ref (x 33), .ref (x 34), .ref (x 35), .int 0])), ((x 33), .inl (cy 0, 384, .inl (fun _ => 0))), ((x 34), .inl (cy 2, 384, .inr (.inl (fun _ => 0)))), ((x 35), .inl (cy 0, 96, .inl (fun _ => 0))), ((x 36), .inl (cy 0, 96, .inl (fun _ => 0))), ((x 38), .inl (cy 0, 96, .inl (fun _ => 0)))] (fun (v : Int32) (u : Unit) => v = (-1)) (fun (u : Unit) => []) := by
  refine ci_go (by decide) (Nat.le_of_ble_eq_true rfl) (fun p e s m below meth c ls A hA S hr hlk hnm hP hK hD hl => ?_)
  have hS : va_S A s.heap s.heap [] := va_S.rf
  have hl : lv_has ls 8 [(0, .ref (x 0)), (1, .int p0), (2, .int p1), (3, .int p2)] := hl
  refine lv_iload_n S.1 S.2.1 dX11_water_0 rfl (lv_at hl 1 rfl) ?_
  refine lv_iload_n S.1 S.2.1 dX11_water_1 rfl (lv_at hl 2 rfl) ?_
  refine call_ri (runS_R (wc := []) (As := [.int p0, .int p1]) (rest := []) S (kX11_cellAt l D cy p0 p1 z0 h0 z1 h1) hK hP [] rfl kw_538 kw_539 kw_144 kw_540 okX11_cellAt rfl (by decide) hl.1 rfl (Nat.le_of_ble_eq_true rfl) dX11_water_2 (by decide)) (fun v2 w2 => ?_)
  rcases w2 with ⟨rfl, w2_0_0⟩ | ⟨cx_2, cl_2, rfl, w2_1_0, w2_1_1, w2_1_2, w2_1_3⟩
  · refine lv_istore (lv' := [(4, .int (-1)), (0, .ref (x 0)), (1, .int p0), (2, .int p1), (3, .int p2)]) S.1 S.2.1 dX11_water_5 hl (by decide) rfl (fun ls hl => ?_)
    refine lv_iload S.1 S.2.1 dX11_water_7 (lv_at hl 0 rfl) ?_
    refine lv_iconst (v := (-1)) S.1 S.2.1 dX11_water_9 (by decide) ?_
    refine r_icmp_eq S (-1) (-1) rfl rfl dX11_water_10 (tgt := 36) (by decide) (fun _ => ?_) (fun c => absurd c (by decide))
    refine lv_iconst (v := (-1)) S.1 S.2.1 dX11_water_36 (by decide) ?_
    exact ci_ret (u := ()) S hr hlk rfl hK (hP.sub [] rfl) (hD.sub [] (by decide) rfl) hS (rfl) (by decide) (by decide) dX11_water_37
  · refine lv_istore (lv' := [(4, .int (nI (12 * cl_2 + cx_2))), (0, .ref (x 0)), (1, .int p0), (2, .int p1), (3, .int p2)]) S.1 S.2.1 dX11_water_5 hl (by decide) rfl (fun ls hl => ?_)
    refine lv_iload S.1 S.2.1 dX11_water_7 (lv_at hl 0 rfl) ?_
    refine lv_iconst (v := (-1)) S.1 S.2.1 dX11_water_9 (by decide) ?_
    refine r_icmp_eq S ((12 * cl_2 + cx_2 : Nat) : Int) (-1) (nI_toInt (by omega)) rfl dX11_water_10 (tgt := 36) (by decide) (fun c => absurd c (by omega)) (fun _ => ?_)
    refine lv_iload_n S.1 S.2.1 dX11_water_13 rfl (lv_at hl 4 rfl) ?_
    refine r_if_lt S z2 h2 dX11_water_14 (tgt := 36) (by decide) (fun e_14_1 => ?_) (fun e_14_1 => ?_)
    · refine lv_iconst (v := (-1)) S.1 S.2.1 dX11_water_36 (by decide) ?_
      exact ci_ret (u := ()) S hr hlk rfl hK (hP.sub [] rfl) (hD.sub [] (by decide) rfl) hS (rfl) (by decide) (by decide) dX11_water_37
    · refine lv_iload_n S.1 S.2.1 dX11_water_17 rfl (lv_at hl 4 rfl) ?_
      refine lv_iconst (v := 1) S.1 S.2.1 dX11_water_18 (by decide) ?_
      refine r_icmp_gt S z2 1 h2 rfl dX11_water_19 (tgt := 36) (by decide) (fun e_19_2 => ?_) (fun e_19_2 => ?_)
      · refine lv_iconst (v := (-1)) S.1 S.2.1 dX11_water_36 (by decide) ?_
        exact ci_ret (u := ()) S hr hlk rfl hK (hP.sub [] rfl) (hD.sub [] (by decide) rfl) hS (rfl) (by decide) (by decide) dX11_water_37
      · refine lv_aload_n S.1 S.2.1 dX11_water_22 rfl (lv_at hl 1 rfl) ?_
        refine call_i (wr := []) (runV_C (wc := [((x 0), .inr (10, [.int 0, .int (-1), .ref (x 1), .ref (x 9), .int 0, .ref (x 10), .ref (x 13), .ref (x 16), .ref (x 29), .int 0, .int 0, .ref (x 30), .int 0, .ref (x 31), .ref (x 42), .int 0, .int 0, .null, .ref (x 43)])), ((x 13), .inr (4, [.ref (x 14), .ref (x 15), .int 0, .ref (x 16)])), ((x 16), .inr (5, [.int 0, .ref (x 17), .ref (x 18), .ref (x 19), .ref (x 20), .ref (x 21), .int 0, .int 10, .int 20, .int 0, .int 0, .ref (x 22), .ref (x 23), .int 0, .ref (x 24), .ref (x 25), .ref (x 26), .ref (x 27), .ref (x 28)])), ((x 42), .inl (cy 7, 16, .inr (.inr (.inr (.inr (fun _ => none)))))), ((x 31), .inr (6, [.ref (x 32), .ref (x 9), .ref (x 29), .int 0, .int 0, .int 0, .ref (x 36), .ref (x 37), .ref (x 38), .ref (x 39), .ref (x 40), .ref (x 41), .int 0])), ((x 32), .inr (9, [.ref (x 33), .ref (x 34), .ref (x 35), .int 0])), ((x 33), .inl (cy 0, 384, .inl (fun _ => 0))), ((x 34), .inl (cy 2, 384, .inr (.inl (fun _ => 0)))), ((x 35), .inl (cy 0, 96, .inl (fun _ => 0))), ((x 36), .inl (cy 0, 96, .inl (fun _ => 0))), ((x 38), .inl (cy 0, 96, .inl (fun _ => 0)))]) (As := []) (rest := []) S (kX11_prepare_a l D cy x) hK hP hD [0, 1, 2, 3, 4, 5, 6, 7, 8, 9, 10] (by decide) rfl 0 10 rfl rfl kw_1167 kw_1169 kw_39 kw_144 kw_1170 okX11_prepare rfl (by decide) hl.1 rfl (Nat.le_of_ble_eq_true rfl) dX11_water_23 (by decide)) hP hD hS hA [0, 1, 2, 3, 4, 5, 6, 7, 8, 9, 10] [] rfl rfl (by decide) (by decide) (fun v23 u23 H locs w23 hP hD hS => ?_)
        obtain ⟨g_23, lo_23, hi_23⟩ := u23
        have hP : va_P D vwCl [((x 0), .inr (10, [.int 0, .int (-1), .ref (x 1), .ref (x 9), .int 0, .ref (x 10), .ref (x 13), .ref (x 16), .ref (x 29), .int 0, .int 0, .ref (x 30), .int 0, .ref (x 31), .ref (x 42), .int 1, .int 1, .ref g_23, .ref (x 43)])), ((x 13), .inr (4, [.ref (x 14), .ref (x 15), .int 0, .ref (x 16)])), ((x 16), .inr (5, [.int 0, .ref (x 17), .ref (x 18), .ref (x 19), .ref (x 20), .ref (x 21), .int 0, .int 10, .int 20, .int 0, .int 0, .ref (x 22), .ref (x 23), .int 0, .ref (x 24), .ref (x 25), .ref (x 26), .ref (x 27), .ref (x 28)])), ((x 42), .inl (cy 7, 16, .inr (.inr (.inr (.inr (va_up (fun _ => none) (0) (some g_23))))))), ((x 31), .inr (6, [.ref (x 32), .ref (x 9), .ref (x 29), .int 0, .int 0, .int 10, .ref (x 36), .ref (x 37), .ref (x 38), .ref (x 39), .ref (x 40), .ref (x 41), .int 1])), ((x 32), .inr (9, [.ref (x 33), .ref (x 34), .ref (x 35), .int 0])), ((x 33), .inl (cy 0, 384, .inl (fun _ => 10))), ((x 34), .inl (cy 2, 384, .inr (.inl (fun _ => 0)))), ((x 35), .inl (cy 0, 96, .inl (fun _ => (-1)))), ((x 36), .inl (cy 0, 96, .inl (fun _ => 0))), ((x 38), .inl (cy 0, 96, .inl (fun _ => (-268435456)))), (g_23, .inr (1, [.int 0, .int 1, .int 1, .int 0, .long 0, .int 0, .int 0, .ref lo_23, .ref hi_23])), (lo_23, .inl (cy 0, 96, .inl (fun _ => 0))), (hi_23, .inl (cy 0, 96, .inl (fun _ => 0)))] H := hP
        have hD : va_D A [((x 0), .inr (10, [.int 0, .int (-1), .ref (x 1), .ref (x 9), .int 0, .ref (x 10), .ref (x 13), .ref (x 16), .ref (x 29), .int 0, .int 0, .ref (x 30), .int 0, .ref (x 31), .ref (x 42), .int 1, .int 1, .ref g_23, .ref (x 43)])), ((x 13), .inr (4, [.ref (x 14), .ref (x 15), .int 0, .ref (x 16)])), ((x 16), .inr (5, [.int 0, .ref (x 17), .ref (x 18), .ref (x 19), .ref (x 20), .ref (x 21), .int 0, .int 10, .int 20, .int 0, .int 0, .ref (x 22), .ref (x 23), .int 0, .ref (x 24), .ref (x 25), .ref (x 26), .ref (x 27), .ref (x 28)])), ((x 42), .inl (cy 7, 16, .inr (.inr (.inr (.inr (va_up (fun _ => none) (0) (some g_23))))))), ((x 31), .inr (6, [.ref (x 32), .ref (x 9), .ref (x 29), .int 0, .int 0, .int 10, .ref (x 36), .ref (x 37), .ref (x 38), .ref (x 39), .ref (x 40), .ref (x 41), .int 1])), ((x 32), .inr (9, [.ref (x 33), .ref (x 34), .ref (x 35), .int 0])), ((x 33), .inl (cy 0, 384, .inl (fun _ => 10))), ((x 34), .inl (cy 2, 384, .inr (.inl (fun _ => 0)))), ((x 35), .inl (cy 0, 96, .inl (fun _ => (-1)))), ((x 36), .inl (cy 0, 96, .inl (fun _ => 0))), ((x 38), .inl (cy 0, 96, .inl (fun _ => (-268435456)))), (g_23, .inr (1, [.int 0, .int 1, .int 1, .int 0, .long 0, .int 0, .int 0, .ref lo_23, .ref hi_23])), (lo_23, .inl (cy 0, 96, .inl (fun _ => 0))), (hi_23, .inl (cy 0, 96, .inl (fun _ => 0)))] := hD
        subst w23
        refine r_if_eq S 1 rfl dX11_water_26 (tgt := 36) (by decide) (fun c => absurd c (by decide)) (fun _ => ?_)
        refine lv_aload_n S.1 S.2.1 dX11_water_29 rfl (lv_at hl 1 rfl) ?_
        refine call_ri (runV_R (wc := [((x 0), .inr (10, [.int 0, .int (-1), .ref (x 1), .ref (x 9), .int 0, .ref (x 10), .ref (x 13), .ref (x 16), .ref (x 29), .int 0, .int 0, .ref (x 30), .int 0, .ref (x 31), .ref (x 42), .int 1, .int 1, .ref g_23, .ref (x 43)])), ((x 42), .inl (cy 7, 16, .inr (.inr (.inr (.inr (va_up (fun _ => none) (0) (some g_23))))))), (g_23, .inr (1, [.int 0, .int 1, .int 1, .int 0, .long 0, .int 0, .int 0, .ref lo_23, .ref hi_23]))]) (As := []) (rest := []) S (kX11_allKeptKnown l D cy x g_23 lo_23 hi_23) hK hP [0, 3, 11] rfl 0 10 rfl rfl kw_1206 kw_1208 kw_43 kw_144 kw_1209 okX11_allKeptKnown rfl (by decide) hl.1 rfl (Nat.le_of_ble_eq_true rfl) dX11_water_30 (by decide)) (fun v30 w30 => ?_)
        subst w30
        refine r_if_ne S 0 rfl dX11_water_33 (tgt := 38) (by decide) (fun c => absurd c (by decide)) (fun _ => ?_)
        refine lv_iconst (v := (-1)) S.1 S.2.1 dX11_water_36 (by decide) ?_
        exact ci_ret (u := ()) S hr hlk rfl hK (hP.sub [] rfl) (hD.sub [] (by decide) rfl) hS (rfl) (by decide) (by decide) dX11_water_37
set_option maxHeartbeats 4000000 in
set_option maxRecDepth 100000 in
theorem kX11_seam (l : Launch) (D : va_G) (cy : Nat → ClassId) (x : Nat → Nat) (p0 : Int32) (p1 : Int32) (p2 : Int32) (z0 : Int) (h0 : p0.toInt = z0) (z1 : Int) (h1 : p1.toInt = z1) (z2 : Int) (h2 : p2.toInt = z2) : CI l D cy yX11_seam cX11_seam 6 (some .int) 8 198 3 201 [.ref (x 0), .int p0, .int p1, .int p2] [((x 0), .inr (10, [.int 0, .int (-1), .ref (x 1), .ref (x 9), .int 0, .ref (x 10), .ref (x 13), .ref (x 16), .ref (x 29), .int 0, .int 0, .ref (x 30), .int 0, .ref (x 31), .ref (x 42), .int 0, .int 0, .null, .ref (x 43)])), ((x 13), .inr (4, [.ref (x 14), .ref (x 15), .int 0, .ref (x 16)])), ((x 16), .inr (5, [.int 0, .ref (x 17), .ref (x 18), .ref (x 19), .ref (x 20), .ref (x 21), .int 0, .int 10, .int 20, .int 0, .int 0, .ref (x 22), .ref (x 23), .int 0, .ref (x 24), .ref (x 25), .ref (x 26), .ref (x 27), .ref (x 28)])), ((x 42), .inl (cy 7, 16, .inr (.inr (.inr (.inr (fun _ => none)))))), ((x 31), .inr (6, [.ref (x 32), .ref (x 9), .ref (x 29), .int 0, .int 0, .int 0, .ref (x 36), .ref (x 37), .ref (x 38), .ref (x 39), .ref (x 40), .ref (x 41), .int 0])), ((x 32), .inr (9, [.ref (x 33), .ref (x 34), .ref (x 35), .int 0])), ((x 33), .inl (cy 0, 384, .inl (fun _ => 0))), ((x 34), .inl (cy 2, 384, .inr (.inl (fun _ => 0)))), ((x 35), .inl (cy 0, 96, .inl (fun _ => 0))), ((x 36), .inl (cy 0, 96, .inl (fun _ => 0))), ((x 38), .inl (cy 0, 96, .inl (fun _ => 0)))] (fun (v : Int32) (u : Unit) => v = (-1)) (fun (u : Unit) => []) := by
  refine ci_go (by decide) (Nat.le_of_ble_eq_true rfl) (fun p e s m below meth c ls A hA S hr hlk hnm hP hK hD hl => ?_)
  have hS : va_S A s.heap s.heap [] := va_S.rf
  have hl : lv_has ls 6 [(0, .ref (x 0)), (1, .int p0), (2, .int p1), (3, .int p2)] := hl
  refine lv_iload_n S.1 S.2.1 dX11_seam_0 rfl (lv_at hl 2 rfl) ?_
  refine r_if_lt S z1 h1 dX11_seam_1 (tgt := 18) (by decide) (fun e_1_1 => ?_) (fun e_1_1 => ?_)
  · refine lv_iconst (v := (-1)) S.1 S.2.1 dX11_seam_18 (by decide) ?_
    exact ci_ret (u := ()) S hr hlk rfl hK (hP.sub [] rfl) (hD.sub [] (by decide) rfl) hS (rfl) (by decide) (by decide) dX11_seam_19
  · refine lv_iload_n S.1 S.2.1 dX11_seam_4 rfl (lv_at hl 2 rfl) ?_
    refine lv_iconst (v := 4) S.1 S.2.1 dX11_seam_5 (by decide) ?_
    refine r_icmp_ge S z1 4 h1 rfl dX11_seam_6 (tgt := 18) (by decide) (fun e_6_2 => ?_) (fun e_6_2 => ?_)
    · refine lv_iconst (v := (-1)) S.1 S.2.1 dX11_seam_18 (by decide) ?_
      exact ci_ret (u := ()) S hr hlk rfl hK (hP.sub [] rfl) (hD.sub [] (by decide) rfl) hS (rfl) (by decide) (by decide) dX11_seam_19
    · refine lv_iload_n S.1 S.2.1 dX11_seam_9 rfl (lv_at hl 3 rfl) ?_
      refine r_if_lt S z2 h2 dX11_seam_10 (tgt := 18) (by decide) (fun e_10_3 => ?_) (fun e_10_3 => ?_)
      · refine lv_iconst (v := (-1)) S.1 S.2.1 dX11_seam_18 (by decide) ?_
        exact ci_ret (u := ()) S hr hlk rfl hK (hP.sub [] rfl) (hD.sub [] (by decide) rfl) hS (rfl) (by decide) (by decide) dX11_seam_19
      · refine lv_iload_n S.1 S.2.1 dX11_seam_13 rfl (lv_at hl 3 rfl) ?_
        refine lv_iconst (v := 1) S.1 S.2.1 dX11_seam_14 (by decide) ?_
        refine r_icmp_le S z2 1 h2 rfl dX11_seam_15 (tgt := 20) (by decide) (fun e_15_4 => ?_) (fun e_15_4 => ?_)
        · refine lv_aload_n S.1 S.2.1 dX11_seam_20 rfl (lv_at hl 0 rfl) ?_
          refine call_i (wr := []) (runV_C (wc := [((x 0), .inr (10, [.int 0, .int (-1), .ref (x 1), .ref (x 9), .int 0, .ref (x 10), .ref (x 13), .ref (x 16), .ref (x 29), .int 0, .int 0, .ref (x 30), .int 0, .ref (x 31), .ref (x 42), .int 0, .int 0, .null, .ref (x 43)])), ((x 13), .inr (4, [.ref (x 14), .ref (x 15), .int 0, .ref (x 16)])), ((x 16), .inr (5, [.int 0, .ref (x 17), .ref (x 18), .ref (x 19), .ref (x 20), .ref (x 21), .int 0, .int 10, .int 20, .int 0, .int 0, .ref (x 22), .ref (x 23), .int 0, .ref (x 24), .ref (x 25), .ref (x 26), .ref (x 27), .ref (x 28)])), ((x 42), .inl (cy 7, 16, .inr (.inr (.inr (.inr (fun _ => none)))))), ((x 31), .inr (6, [.ref (x 32), .ref (x 9), .ref (x 29), .int 0, .int 0, .int 0, .ref (x 36), .ref (x 37), .ref (x 38), .ref (x 39), .ref (x 40), .ref (x 41), .int 0])), ((x 32), .inr (9, [.ref (x 33), .ref (x 34), .ref (x 35), .int 0])), ((x 33), .inl (cy 0, 384, .inl (fun _ => 0))), ((x 34), .inl (cy 2, 384, .inr (.inl (fun _ => 0)))), ((x 35), .inl (cy 0, 96, .inl (fun _ => 0))), ((x 36), .inl (cy 0, 96, .inl (fun _ => 0))), ((x 38), .inl (cy 0, 96, .inl (fun _ => 0)))]) (As := []) (rest := []) S (kX11_prepare_a l D cy x) hK hP hD [0, 1, 2, 3, 4, 5, 6, 7, 8, 9, 10] (by decide) rfl 0 10 rfl rfl kw_1167 kw_1169 kw_39 kw_144 kw_1170 okX11_prepare rfl (by decide) hl.1 rfl (Nat.le_of_ble_eq_true rfl) dX11_seam_21 (by decide)) hP hD hS hA [0, 1, 2, 3, 4, 5, 6, 7, 8, 9, 10] [] rfl rfl (by decide) (by decide) (fun v21 u21 H locs w21 hP hD hS => ?_)
          obtain ⟨g_21, lo_21, hi_21⟩ := u21
          have hP : va_P D vwCl [((x 0), .inr (10, [.int 0, .int (-1), .ref (x 1), .ref (x 9), .int 0, .ref (x 10), .ref (x 13), .ref (x 16), .ref (x 29), .int 0, .int 0, .ref (x 30), .int 0, .ref (x 31), .ref (x 42), .int 1, .int 1, .ref g_21, .ref (x 43)])), ((x 13), .inr (4, [.ref (x 14), .ref (x 15), .int 0, .ref (x 16)])), ((x 16), .inr (5, [.int 0, .ref (x 17), .ref (x 18), .ref (x 19), .ref (x 20), .ref (x 21), .int 0, .int 10, .int 20, .int 0, .int 0, .ref (x 22), .ref (x 23), .int 0, .ref (x 24), .ref (x 25), .ref (x 26), .ref (x 27), .ref (x 28)])), ((x 42), .inl (cy 7, 16, .inr (.inr (.inr (.inr (va_up (fun _ => none) (0) (some g_21))))))), ((x 31), .inr (6, [.ref (x 32), .ref (x 9), .ref (x 29), .int 0, .int 0, .int 10, .ref (x 36), .ref (x 37), .ref (x 38), .ref (x 39), .ref (x 40), .ref (x 41), .int 1])), ((x 32), .inr (9, [.ref (x 33), .ref (x 34), .ref (x 35), .int 0])), ((x 33), .inl (cy 0, 384, .inl (fun _ => 10))), ((x 34), .inl (cy 2, 384, .inr (.inl (fun _ => 0)))), ((x 35), .inl (cy 0, 96, .inl (fun _ => (-1)))), ((x 36), .inl (cy 0, 96, .inl (fun _ => 0))), ((x 38), .inl (cy 0, 96, .inl (fun _ => (-268435456)))), (g_21, .inr (1, [.int 0, .int 1, .int 1, .int 0, .long 0, .int 0, .int 0, .ref lo_21, .ref hi_21])), (lo_21, .inl (cy 0, 96, .inl (fun _ => 0))), (hi_21, .inl (cy 0, 96, .inl (fun _ => 0)))] H := hP
          have hD : va_D A [((x 0), .inr (10, [.int 0, .int (-1), .ref (x 1), .ref (x 9), .int 0, .ref (x 10), .ref (x 13), .ref (x 16), .ref (x 29), .int 0, .int 0, .ref (x 30), .int 0, .ref (x 31), .ref (x 42), .int 1, .int 1, .ref g_21, .ref (x 43)])), ((x 13), .inr (4, [.ref (x 14), .ref (x 15), .int 0, .ref (x 16)])), ((x 16), .inr (5, [.int 0, .ref (x 17), .ref (x 18), .ref (x 19), .ref (x 20), .ref (x 21), .int 0, .int 10, .int 20, .int 0, .int 0, .ref (x 22), .ref (x 23), .int 0, .ref (x 24), .ref (x 25), .ref (x 26), .ref (x 27), .ref (x 28)])), ((x 42), .inl (cy 7, 16, .inr (.inr (.inr (.inr (va_up (fun _ => none) (0) (some g_21))))))), ((x 31), .inr (6, [.ref (x 32), .ref (x 9), .ref (x 29), .int 0, .int 0, .int 10, .ref (x 36), .ref (x 37), .ref (x 38), .ref (x 39), .ref (x 40), .ref (x 41), .int 1])), ((x 32), .inr (9, [.ref (x 33), .ref (x 34), .ref (x 35), .int 0])), ((x 33), .inl (cy 0, 384, .inl (fun _ => 10))), ((x 34), .inl (cy 2, 384, .inr (.inl (fun _ => 0)))), ((x 35), .inl (cy 0, 96, .inl (fun _ => (-1)))), ((x 36), .inl (cy 0, 96, .inl (fun _ => 0))), ((x 38), .inl (cy 0, 96, .inl (fun _ => (-268435456)))), (g_21, .inr (1, [.int 0, .int 1, .int 1, .int 0, .long 0, .int 0, .int 0, .ref lo_21, .ref hi_21])), (lo_21, .inl (cy 0, 96, .inl (fun _ => 0))), (hi_21, .inl (cy 0, 96, .inl (fun _ => 0)))] := hD
          subst w21
          refine r_if_eq S 1 rfl dX11_seam_24 (tgt := 42) (by decide) (fun c => absurd c (by decide)) (fun _ => ?_)
          refine lv_aload_n S.1 S.2.1 dX11_seam_27 rfl (lv_at hl 0 rfl) ?_
          refine lv_iload_n S.1 S.2.1 dX11_seam_28 rfl (lv_at hl 1 rfl) ?_
          refine call_ri (runV_R (wc := [((x 0), .inr (10, [.int 0, .int (-1), .ref (x 1), .ref (x 9), .int 0, .ref (x 10), .ref (x 13), .ref (x 16), .ref (x 29), .int 0, .int 0, .ref (x 30), .int 0, .ref (x 31), .ref (x 42), .int 1, .int 1, .ref g_21, .ref (x 43)])), ((x 16), .inr (5, [.int 0, .ref (x 17), .ref (x 18), .ref (x 19), .ref (x 20), .ref (x 21), .int 0, .int 10, .int 20, .int 0, .int 0, .ref (x 22), .ref (x 23), .int 0, .ref (x 24), .ref (x 25), .ref (x 26), .ref (x 27), .ref (x 28)]))]) (As := [.int p0]) (rest := []) S (kX11_isRock l D cy x g_21 lo_21 hi_21 p0 z0 h0) hK hP [0, 2] rfl 0 10 rfl rfl kw_1244 kw_1246 kw_48 kw_144 kw_1247 okX11_isRock rfl (by decide) hl.1 rfl (Nat.le_of_ble_eq_true rfl) dX11_seam_29 (by decide)) (fun v29 w29 => ?_)
          subst w29
          refine r_if_eq S 0 rfl dX11_seam_32 (tgt := 42) (by decide) (fun _ => ?_) (fun c => absurd c (by decide))
          refine lv_iconst (v := (-1)) S.1 S.2.1 dX11_seam_42 (by decide) ?_
          exact ci_ret (u := ()) S hr hlk rfl hK (hP.sub [] rfl) (hD.sub [] (by decide) rfl) hS (rfl) (by decide) (by decide) dX11_seam_43
        · refine lv_iconst (v := (-1)) S.1 S.2.1 dX11_seam_18 (by decide) ?_
          exact ci_ret (u := ()) S hr hlk rfl hK (hP.sub [] rfl) (hD.sub [] (by decide) rfl) hS (rfl) (by decide) (by decide) dX11_seam_19
set_option maxHeartbeats 4000000 in
set_option maxRecDepth 100000 in
theorem kX11_stale (l : Launch) (D : va_G) (cy : Nat → ClassId) (x : Nat → Nat) (p0 : Int32) (z0 : Int) (h0 : p0.toInt = z0) : CI l D cy yX11_stale cX11_stale 5 (some .int) 1 21 0 0 [.ref (x 0), .int p0] [((x 0), .inr (10, [.int 0, .int (-1), .ref (x 1), .ref (x 9), .int 0, .ref (x 10), .ref (x 13), .ref (x 16), .ref (x 29), .int 0, .int 0, .ref (x 30), .int 0, .ref (x 31), .ref (x 42), .int 0, .int 0, .null, .ref (x 43)]))] (fun (v : Int32) (u : Unit) => v = (-1)) (fun (u : Unit) => []) := by
  refine ci_go (by decide) (Nat.le_of_ble_eq_true rfl) (fun p e s m below meth c ls A hA S hr hlk hnm hP hK hD hl => ?_)
  have hS : va_S A s.heap s.heap [] := va_S.rf
  have hl : lv_has ls 5 [(0, .ref (x 0)), (1, .int p0)] := hl
  refine lv_aload_n S.1 S.2.1 dX11_stale_0 rfl (lv_at hl 0 rfl) ?_
  refine lv_iload_n S.1 S.2.1 dX11_stale_1 rfl (lv_at hl 1 rfl) ?_
  refine call_ri (runV_R (wc := [((x 0), .inr (10, [.int 0, .int (-1), .ref (x 1), .ref (x 9), .int 0, .ref (x 10), .ref (x 13), .ref (x 16), .ref (x 29), .int 0, .int 0, .ref (x 30), .int 0, .ref (x 31), .ref (x 42), .int 0, .int 0, .null, .ref (x 43)]))]) (As := [.int p0]) (rest := []) S (kX11_isSheet l D cy x p0 z0 h0) hK hP [0] rfl 0 10 rfl rfl kw_1279 kw_1281 kw_52 kw_144 kw_1282 okX11_isSheet rfl (by decide) hl.1 rfl (Nat.le_of_ble_eq_true rfl) dX11_stale_2 (by decide)) (fun v2 w2 => ?_)
  subst w2
  refine r_if_eq S 0 rfl dX11_stale_5 (tgt := 15) (by decide) (fun _ => ?_) (fun c => absurd c (by decide))
  refine lv_iconst (v := (-1)) S.1 S.2.1 dX11_stale_15 (by decide) ?_
  exact ci_ret (u := ()) S hr hlk rfl hK (hP.sub [] rfl) (hD.sub [] (by decide) rfl) hS (rfl) (by decide) (by decide) dX11_stale_16
set_option maxHeartbeats 4000000 in
set_option maxRecDepth 100000 in
theorem kX11_doubles (l : Launch) (D : va_G) (cy : Nat → ClassId) (x : Nat → Nat) (p0 : Int32) (p1 : Int32) (p2 : Int32) (z0 : Int) (h0 : p0.toInt = z0) (z1 : Int) (h1 : p1.toInt = z1) (z2 : Int) (h2 : p2.toInt = z2) : CI l D cy yX11_doubles cX11_doubles 7 (some .int) 3 62 3 201 [.ref (x 0), .int p0, .int p1, .int p2] [((x 0), .inr (10, [.int 0, .int (-1), .ref (x 1), .ref (x 9), .int 0, .ref (x 10), .ref (x 13), .ref (x 16), .ref (x 29), .int 0, .int 0, .ref (x 30), .int 0, .ref (x 31), .ref (x 42), .int 0, .int 0, .null, .ref (x 43)])), ((x 13), .inr (4, [.ref (x 14), .ref (x 15), .int 0, .ref (x 16)])), ((x 16), .inr (5, [.int 0, .ref (x 17), .ref (x 18), .ref (x 19), .ref (x 20), .ref (x 21), .int 0, .int 10, .int 20, .int 0, .int 0, .ref (x 22), .ref (x 23), .int 0, .ref (x 24), .ref (x 25), .ref (x 26), .ref (x 27), .ref (x 28)])), ((x 42), .inl (cy 7, 16, .inr (.inr (.inr (.inr (fun _ => none)))))), ((x 31), .inr (6, [.ref (x 32), .ref (x 9), .ref (x 29), .int 0, .int 0, .int 0, .ref (x 36), .ref (x 37), .ref (x 38), .ref (x 39), .ref (x 40), .ref (x 41), .int 0]))] (fun (v : Int32) (u : Unit) => (v = 0 ∧ (0 ≤ z0 ∧ z0 ≤ 5 ∧ 0 ≤ z1 ∧ z1 ≤ 5 ∧ ¬ z0 = z1 ∧ 0 ≤ z2 ∧ z2 ≤ 1)) ∨ (v = (-1) ∧ ¬ (0 ≤ z0 ∧ z0 ≤ 5 ∧ 0 ≤ z1 ∧ z1 ≤ 5 ∧ ¬ z0 = z1 ∧ 0 ≤ z2 ∧ z2 ≤ 1))) (fun (u : Unit) => []) := by
  refine ci_go (by decide) (Nat.le_of_ble_eq_true rfl) (fun p e s m below meth c ls A hA S hr hlk hnm hP hK hD hl => ?_)
  have hS : va_S A s.heap s.heap [] := va_S.rf
  have hl : lv_has ls 7 [(0, .ref (x 0)), (1, .int p0), (2, .int p1), (3, .int p2)] := hl
  refine lv_iload_n S.1 S.2.1 dX11_doubles_0 rfl (lv_at hl 1 rfl) ?_
  refine call_ri (runS_R (wc := []) (As := [.int p0]) (rest := []) S (kX11_isHand l D cy p0 z0 h0) hK hP [] rfl kw_1295 kw_1296 kw_144 kw_1297 okX11_isHand rfl (by decide) hl.1 rfl (Nat.le_of_ble_eq_true rfl) dX11_doubles_1 (by decide)) (fun v1 w1 => ?_)
  rcases w1 with ⟨rfl, w1_0_0⟩ | ⟨rfl, w1_1_0⟩
  · refine r_if_eq S 1 rfl dX11_doubles_4 (tgt := 28) (by decide) (fun c => absurd c (by decide)) (fun _ => ?_)
    refine lv_iload_n S.1 S.2.1 dX11_doubles_7 rfl (lv_at hl 2 rfl) ?_
    refine call_ri (runS_R (wc := []) (As := [.int p1]) (rest := []) S (kX11_isHand l D cy p1 z1 h1) hK hP [] rfl kw_1295 kw_1296 kw_144 kw_1297 okX11_isHand rfl (by decide) hl.1 rfl (Nat.le_of_ble_eq_true rfl) dX11_doubles_8 (by decide)) (fun v8 w8 => ?_)
    rcases w8 with ⟨rfl, w8_0_0⟩ | ⟨rfl, w8_1_0⟩
    · refine r_if_eq S 1 rfl dX11_doubles_11 (tgt := 28) (by decide) (fun c => absurd c (by decide)) (fun _ => ?_)
      refine lv_iload_n S.1 S.2.1 dX11_doubles_14 rfl (lv_at hl 1 rfl) ?_
      refine lv_iload_n S.1 S.2.1 dX11_doubles_15 rfl (lv_at hl 2 rfl) ?_
      refine r_icmp_eq S z0 z1 h0 h1 dX11_doubles_16 (tgt := 28) (by decide) (fun e_16_1 => ?_) (fun e_16_1 => ?_)
      · refine lv_iconst (v := (-1)) S.1 S.2.1 dX11_doubles_28 (by decide) ?_
        exact ci_ret (u := ()) S hr hlk rfl hK (hP.sub [] rfl) (hD.sub [] (by decide) rfl) hS (Or.inr (⟨rfl, (by omega)⟩)) (by decide) (by decide) dX11_doubles_29
      · refine lv_iload_n S.1 S.2.1 dX11_doubles_19 rfl (lv_at hl 3 rfl) ?_
        refine r_if_lt S z2 h2 dX11_doubles_20 (tgt := 28) (by decide) (fun e_20_2 => ?_) (fun e_20_2 => ?_)
        · refine lv_iconst (v := (-1)) S.1 S.2.1 dX11_doubles_28 (by decide) ?_
          exact ci_ret (u := ()) S hr hlk rfl hK (hP.sub [] rfl) (hD.sub [] (by decide) rfl) hS (Or.inr (⟨rfl, (by omega)⟩)) (by decide) (by decide) dX11_doubles_29
        · refine lv_iload_n S.1 S.2.1 dX11_doubles_23 rfl (lv_at hl 3 rfl) ?_
          refine lv_iconst (v := 1) S.1 S.2.1 dX11_doubles_24 (by decide) ?_
          refine r_icmp_le S z2 1 h2 rfl dX11_doubles_25 (tgt := 30) (by decide) (fun e_25_3 => ?_) (fun e_25_3 => ?_)
          · refine lv_aload_n S.1 S.2.1 dX11_doubles_30 rfl (lv_at hl 0 rfl) ?_
            refine call_v (wr := []) (runV_C (wc := [((x 0), .inr (10, [.int 0, .int (-1), .ref (x 1), .ref (x 9), .int 0, .ref (x 10), .ref (x 13), .ref (x 16), .ref (x 29), .int 0, .int 0, .ref (x 30), .int 0, .ref (x 31), .ref (x 42), .int 0, .int 0, .null, .ref (x 43)])), ((x 13), .inr (4, [.ref (x 14), .ref (x 15), .int 0, .ref (x 16)])), ((x 16), .inr (5, [.int 0, .ref (x 17), .ref (x 18), .ref (x 19), .ref (x 20), .ref (x 21), .int 0, .int 10, .int 20, .int 0, .int 0, .ref (x 22), .ref (x 23), .int 0, .ref (x 24), .ref (x 25), .ref (x 26), .ref (x 27), .ref (x 28)])), ((x 42), .inl (cy 7, 16, .inr (.inr (.inr (.inr (fun _ => none)))))), ((x 31), .inr (6, [.ref (x 32), .ref (x 9), .ref (x 29), .int 0, .int 0, .int 0, .ref (x 36), .ref (x 37), .ref (x 38), .ref (x 39), .ref (x 40), .ref (x 41), .int 0]))]) (As := []) (rest := []) S (kX11_settle_a l D cy x) hK hP hD [0, 1, 2, 3, 4] (by decide) rfl 0 10 rfl rfl kw_960 kw_962 kw_23 kw_144 kw_963 okX11_settle rfl (by decide) hl.1 rfl (Nat.le_of_ble_eq_true rfl) dX11_doubles_31 (by decide)) hP hD hS hA [0, 1, 2, 3, 4] [] rfl rfl (by decide) (by decide) (fun u31 H locs w31 hP hD hS => ?_)
            obtain ⟨g_31, lo_31, hi_31⟩ := u31
            have hP : va_P D vwCl [((x 0), .inr (10, [.int 0, .int (-1), .ref (x 1), .ref (x 9), .int 0, .ref (x 10), .ref (x 13), .ref (x 16), .ref (x 29), .int 0, .int 0, .ref (x 30), .int 0, .ref (x 31), .ref (x 42), .int 1, .int 0, .null, .ref (x 43)])), ((x 13), .inr (4, [.ref (x 14), .ref (x 15), .int 0, .ref (x 16)])), ((x 16), .inr (5, [.int 0, .ref (x 17), .ref (x 18), .ref (x 19), .ref (x 20), .ref (x 21), .int 0, .int 10, .int 20, .int 0, .int 0, .ref (x 22), .ref (x 23), .int 0, .ref (x 24), .ref (x 25), .ref (x 26), .ref (x 27), .ref (x 28)])), ((x 42), .inl (cy 7, 16, .inr (.inr (.inr (.inr (va_up (fun _ => none) (0) (some g_31))))))), ((x 31), .inr (6, [.ref (x 32), .ref (x 9), .ref (x 29), .int 0, .int 0, .int 10, .ref (x 36), .ref (x 37), .ref (x 38), .ref (x 39), .ref (x 40), .ref (x 41), .int 0])), (g_31, .inr (1, [.int 0, .int 0, .int 0, .int 0, .long 0, .int 0, .int 0, .ref lo_31, .ref hi_31])), (lo_31, .inl (cy 0, 96, .inl (fun _ => 0))), (hi_31, .inl (cy 0, 96, .inl (fun _ => 0)))] H := hP
            have hD : va_D A [((x 0), .inr (10, [.int 0, .int (-1), .ref (x 1), .ref (x 9), .int 0, .ref (x 10), .ref (x 13), .ref (x 16), .ref (x 29), .int 0, .int 0, .ref (x 30), .int 0, .ref (x 31), .ref (x 42), .int 1, .int 0, .null, .ref (x 43)])), ((x 13), .inr (4, [.ref (x 14), .ref (x 15), .int 0, .ref (x 16)])), ((x 16), .inr (5, [.int 0, .ref (x 17), .ref (x 18), .ref (x 19), .ref (x 20), .ref (x 21), .int 0, .int 10, .int 20, .int 0, .int 0, .ref (x 22), .ref (x 23), .int 0, .ref (x 24), .ref (x 25), .ref (x 26), .ref (x 27), .ref (x 28)])), ((x 42), .inl (cy 7, 16, .inr (.inr (.inr (.inr (va_up (fun _ => none) (0) (some g_31))))))), ((x 31), .inr (6, [.ref (x 32), .ref (x 9), .ref (x 29), .int 0, .int 0, .int 10, .ref (x 36), .ref (x 37), .ref (x 38), .ref (x 39), .ref (x 40), .ref (x 41), .int 0])), (g_31, .inr (1, [.int 0, .int 0, .int 0, .int 0, .long 0, .int 0, .int 0, .ref lo_31, .ref hi_31])), (lo_31, .inl (cy 0, 96, .inl (fun _ => 0))), (hi_31, .inl (cy 0, 96, .inl (fun _ => 0)))] := hD
            refine lv_iconst (v := 0) S.1 S.2.1 dX11_doubles_34 (by decide) ?_
            refine lv_istore (lv' := [(4, .int 0), (0, .ref (x 0)), (1, .int p0), (2, .int p1), (3, .int p2)]) S.1 S.2.1 dX11_doubles_35 hl (by decide) rfl (fun ls hl => ?_)
            refine lv_iconst (v := 0) S.1 S.2.1 dX11_doubles_37 (by decide) ?_
            refine lv_istore (lv' := [(5, .int 0), (4, .int 0), (0, .ref (x 0)), (1, .int p0), (2, .int p1), (3, .int p2)]) S.1 S.2.1 dX11_doubles_38 hl (by decide) rfl (fun ls hl => ?_)
            refine lv_iload S.1 S.2.1 dX11_doubles_40 (lv_at hl 0 rfl) ?_
            refine lv_aload_n S.1 S.2.1 dX11_doubles_42 rfl (lv_at hl 2 rfl) ?_
            refine r_get S hK hP 0 10 rfl rfl inX11 4 (by decide) kw_472 (v := .int 0) rfl dX11_doubles_43 ?_
            refine r_icmp_ge S 0 0 rfl rfl dX11_doubles_46 (tgt := 158) (by decide) (fun _ => ?_) (fun c => absurd c (by decide))
            refine lv_iload S.1 S.2.1 dX11_doubles_158 (lv_at hl 1 rfl) ?_
            exact ci_ret (u := ()) S hr hlk rfl hK (hP.sub [] rfl) (hD.sub [] (by decide) rfl) hS (Or.inl ⟨rfl, (by omega)⟩) (by decide) (by decide) dX11_doubles_160
          · refine lv_iconst (v := (-1)) S.1 S.2.1 dX11_doubles_28 (by decide) ?_
            exact ci_ret (u := ()) S hr hlk rfl hK (hP.sub [] rfl) (hD.sub [] (by decide) rfl) hS (Or.inr (⟨rfl, (by omega)⟩)) (by decide) (by decide) dX11_doubles_29
    · refine r_if_eq S 0 rfl dX11_doubles_11 (tgt := 28) (by decide) (fun _ => ?_) (fun c => absurd c (by decide))
      refine lv_iconst (v := (-1)) S.1 S.2.1 dX11_doubles_28 (by decide) ?_
      exact ci_ret (u := ()) S hr hlk rfl hK (hP.sub [] rfl) (hD.sub [] (by decide) rfl) hS (Or.inr (⟨rfl, (by omega)⟩)) (by decide) (by decide) dX11_doubles_29
  · refine r_if_eq S 0 rfl dX11_doubles_4 (tgt := 28) (by decide) (fun _ => ?_) (fun c => absurd c (by decide))
    refine lv_iconst (v := (-1)) S.1 S.2.1 dX11_doubles_28 (by decide) ?_
    exact ci_ret (u := ()) S hr hlk rfl hK (hP.sub [] rfl) (hD.sub [] (by decide) rfl) hS (Or.inr (⟨rfl, (by omega)⟩)) (by decide) (by decide) dX11_doubles_29
set_option maxHeartbeats 4000000 in
set_option maxRecDepth 100000 in
theorem kX11_doubt (l : Launch) (D : va_G) (cy : Nat → ClassId) (x : Nat → Nat) : CI l D cy yX11_doubt cX11_doubt 2 (some .int) 8 197 3 201 [.ref (x 0)] [((x 0), .inr (10, [.int 0, .int (-1), .ref (x 1), .ref (x 9), .int 0, .ref (x 10), .ref (x 13), .ref (x 16), .ref (x 29), .int 0, .int 0, .ref (x 30), .int 0, .ref (x 31), .ref (x 42), .int 0, .int 0, .null, .ref (x 43)])), ((x 13), .inr (4, [.ref (x 14), .ref (x 15), .int 0, .ref (x 16)])), ((x 16), .inr (5, [.int 0, .ref (x 17), .ref (x 18), .ref (x 19), .ref (x 20), .ref (x 21), .int 0, .int 10, .int 20, .int 0, .int 0, .ref (x 22), .ref (x 23), .int 0, .ref (x 24), .ref (x 25), .ref (x 26), .ref (x 27), .ref (x 28)])), ((x 42), .inl (cy 7, 16, .inr (.inr (.inr (.inr (fun _ => none)))))), ((x 31), .inr (6, [.ref (x 32), .ref (x 9), .ref (x 29), .int 0, .int 0, .int 0, .ref (x 36), .ref (x 37), .ref (x 38), .ref (x 39), .ref (x 40), .ref (x 41), .int 0])), ((x 32), .inr (9, [.ref (x 33), .ref (x 34), .ref (x 35), .int 0])), ((x 33), .inl (cy 0, 384, .inl (fun _ => 0))), ((x 34), .inl (cy 2, 384, .inr (.inl (fun _ => 0)))), ((x 35), .inl (cy 0, 96, .inl (fun _ => 0))), ((x 36), .inl (cy 0, 96, .inl (fun _ => 0))), ((x 38), .inl (cy 0, 96, .inl (fun _ => 0)))] (fun (v : Int32) (u : Unit) => v = (-1)) (fun (u : Unit) => []) := by
  refine ci_go (by decide) (Nat.le_of_ble_eq_true rfl) (fun p e s m below meth c ls A hA S hr hlk hnm hP hK hD hl => ?_)
  have hS : va_S A s.heap s.heap [] := va_S.rf
  have hl : lv_has ls 2 [(0, .ref (x 0))] := hl
  refine lv_aload_n S.1 S.2.1 dX11_doubt_0 rfl (lv_at hl 0 rfl) ?_
  refine call_q (wr := []) (runV_C (wc := [((x 0), .inr (10, [.int 0, .int (-1), .ref (x 1), .ref (x 9), .int 0, .ref (x 10), .ref (x 13), .ref (x 16), .ref (x 29), .int 0, .int 0, .ref (x 30), .int 0, .ref (x 31), .ref (x 42), .int 0, .int 0, .null, .ref (x 43)])), ((x 13), .inr (4, [.ref (x 14), .ref (x 15), .int 0, .ref (x 16)])), ((x 16), .inr (5, [.int 0, .ref (x 17), .ref (x 18), .ref (x 19), .ref (x 20), .ref (x 21), .int 0, .int 10, .int 20, .int 0, .int 0, .ref (x 22), .ref (x 23), .int 0, .ref (x 24), .ref (x 25), .ref (x 26), .ref (x 27), .ref (x 28)])), ((x 42), .inl (cy 7, 16, .inr (.inr (.inr (.inr (fun _ => none)))))), ((x 31), .inr (6, [.ref (x 32), .ref (x 9), .ref (x 29), .int 0, .int 0, .int 0, .ref (x 36), .ref (x 37), .ref (x 38), .ref (x 39), .ref (x 40), .ref (x 41), .int 0])), ((x 32), .inr (9, [.ref (x 33), .ref (x 34), .ref (x 35), .int 0])), ((x 33), .inl (cy 0, 384, .inl (fun _ => 0))), ((x 34), .inl (cy 2, 384, .inr (.inl (fun _ => 0)))), ((x 35), .inl (cy 0, 96, .inl (fun _ => 0))), ((x 36), .inl (cy 0, 96, .inl (fun _ => 0))), ((x 38), .inl (cy 0, 96, .inl (fun _ => 0)))]) (As := []) (rest := []) S (kX11_knownBest l D cy x) hK hP hD [0, 1, 2, 3, 4, 5, 6, 7, 8, 9, 10] (by decide) rfl 0 10 rfl rfl kw_1313 kw_1315 kw_53 kw_144 kw_1316 okX11_knownBest rfl (by decide) hl.1 rfl (Nat.le_of_ble_eq_true rfl) dX11_doubt_1 (by decide)) hP hD hS hA [0, 1, 2, 3, 4, 5, 6, 7, 8, 9, 10] [] rfl rfl (by decide) (by decide) (fun v1 u1 H locs w1 hP hD hS => ?_)
  have hP : va_P D vwCl [] H := hP
  have hD : va_D A [] := hD
  subst w1
  refine lv_astore_nN (lv' := [(1, .null), (0, .ref (x 0))]) S.1 S.2.1 dX11_doubt_4 rfl hl (by decide) rfl (fun ls hl => ?_)
  refine lv_aload_nN S.1 S.2.1 dX11_doubt_5 rfl (lv_at hl 0 rfl) ?_
  refine lv_ifnonnullN S.1 S.2.1 dX11_doubt_6 ?_
  refine lv_iconst (v := (-1)) S.1 S.2.1 dX11_doubt_9 (by decide) ?_
  refine lv_goto (tgt := 18) S.1 S.2.1 dX11_doubt_10 (by decide) ?_
  exact ci_ret (u := ()) S hr hlk rfl hK (hP.sub [] rfl) (hD.sub [] (by decide) rfl) hS (rfl) (by decide) (by decide) dX11_doubt_18
set_option maxHeartbeats 4000000 in
set_option maxRecDepth 100000 in
theorem kX11_left (l : Launch) (D : va_G) (cy : Nat → ClassId) (x : Nat → Nat) (p0 : Int32) (z0 : Int) (h0 : p0.toInt = z0) : CI l D cy yX11_left cX11_left 3 (some .int) 0 0 0 0 [.ref (x 0), .int p0] [((x 0), .inr (10, [.int 0, .int (-1), .ref (x 1), .ref (x 9), .int 0, .ref (x 10), .ref (x 13), .ref (x 16), .ref (x 29), .int 0, .int 0, .ref (x 30), .int 0, .ref (x 31), .ref (x 42), .int 0, .int 0, .null, .ref (x 43)])), ((x 1), .inr (2, [.ref (x 2), .ref (x 3), .ref (x 4), .ref (x 5), .ref (x 6), .int 0, .ref (x 7), .ref (x 8), .int 0]))] (fun (v : Int32) (u : Unit) => v = (-1)) (fun (u : Unit) => []) := by
  refine ci_go (by decide) (Nat.le_of_ble_eq_true rfl) (fun p e s m below meth c ls A hA S hr hlk hnm hP hK hD hl => ?_)
  have hS : va_S A s.heap s.heap [] := va_S.rf
  have hl : lv_has ls 3 [(0, .ref (x 0)), (1, .int p0)] := hl
  refine lv_iload_n S.1 S.2.1 dX11_left_0 rfl (lv_at hl 1 rfl) ?_
  refine r_if_lt S z0 h0 dX11_left_1 (tgt := 15) (by decide) (fun e_1_1 => ?_) (fun e_1_1 => ?_)
  · refine lv_iconst (v := (-1)) S.1 S.2.1 dX11_left_15 (by decide) ?_
    exact ci_ret (u := ()) S hr hlk rfl hK (hP.sub [] rfl) (hD.sub [] (by decide) rfl) hS (rfl) (by decide) (by decide) dX11_left_16
  · refine lv_iload_n S.1 S.2.1 dX11_left_4 rfl (lv_at hl 1 rfl) ?_
    refine lv_aload_n S.1 S.2.1 dX11_left_5 rfl (lv_at hl 0 rfl) ?_
    refine r_get S hK hP 0 10 rfl rfl inX11 2 (by decide) kw_470 (v := .ref (x 1)) rfl dX11_left_6 ?_
    refine r_get S hK hP 1 2 rfl rfl inX2 8 (by decide) kw_204 (v := .int 0) rfl dX11_left_9 ?_
    refine r_icmp_lt S z0 0 h0 rfl dX11_left_12 (tgt := 17) (by decide) (fun c => absurd c (by omega)) (fun _ => ?_)
    refine lv_iconst (v := (-1)) S.1 S.2.1 dX11_left_15 (by decide) ?_
    exact ci_ret (u := ()) S hr hlk rfl hK (hP.sub [] rfl) (hD.sub [] (by decide) rfl) hS (rfl) (by decide) (by decide) dX11_left_16
set_option maxHeartbeats 4000000 in
set_option maxRecDepth 100000 in
theorem kX11_next (l : Launch) (D : va_G) (cy : Nat → ClassId) (x : Nat → Nat) : CI l D cy yX11_next cX11_next 11 (some .int) 8 197 3 201 [.ref (x 0)] [((x 0), .inr (10, [.int 0, .int (-1), .ref (x 1), .ref (x 9), .int 0, .ref (x 10), .ref (x 13), .ref (x 16), .ref (x 29), .int 0, .int 0, .ref (x 30), .int 0, .ref (x 31), .ref (x 42), .int 0, .int 0, .null, .ref (x 43)])), ((x 13), .inr (4, [.ref (x 14), .ref (x 15), .int 0, .ref (x 16)])), ((x 16), .inr (5, [.int 0, .ref (x 17), .ref (x 18), .ref (x 19), .ref (x 20), .ref (x 21), .int 0, .int 10, .int 20, .int 0, .int 0, .ref (x 22), .ref (x 23), .int 0, .ref (x 24), .ref (x 25), .ref (x 26), .ref (x 27), .ref (x 28)])), ((x 42), .inl (cy 7, 16, .inr (.inr (.inr (.inr (fun _ => none)))))), ((x 31), .inr (6, [.ref (x 32), .ref (x 9), .ref (x 29), .int 0, .int 0, .int 0, .ref (x 36), .ref (x 37), .ref (x 38), .ref (x 39), .ref (x 40), .ref (x 41), .int 0])), ((x 32), .inr (9, [.ref (x 33), .ref (x 34), .ref (x 35), .int 0])), ((x 33), .inl (cy 0, 384, .inl (fun _ => 0))), ((x 34), .inl (cy 2, 384, .inr (.inl (fun _ => 0)))), ((x 35), .inl (cy 0, 96, .inl (fun _ => 0))), ((x 36), .inl (cy 0, 96, .inl (fun _ => 0))), ((x 38), .inl (cy 0, 96, .inl (fun _ => 0)))] (fun (v : Int32) (u : Unit) => v = (-1)) (fun (u : Unit) => []) := by
  refine ci_go (by decide) (Nat.le_of_ble_eq_true rfl) (fun p e s m below meth c ls A hA S hr hlk hnm hP hK hD hl => ?_)
  have hS : va_S A s.heap s.heap [] := va_S.rf
  have hl : lv_has ls 11 [(0, .ref (x 0))] := hl
  refine lv_aload_n S.1 S.2.1 dX11_next_0 rfl (lv_at hl 0 rfl) ?_
  refine call_q (wr := []) (runV_C (wc := [((x 0), .inr (10, [.int 0, .int (-1), .ref (x 1), .ref (x 9), .int 0, .ref (x 10), .ref (x 13), .ref (x 16), .ref (x 29), .int 0, .int 0, .ref (x 30), .int 0, .ref (x 31), .ref (x 42), .int 0, .int 0, .null, .ref (x 43)])), ((x 13), .inr (4, [.ref (x 14), .ref (x 15), .int 0, .ref (x 16)])), ((x 16), .inr (5, [.int 0, .ref (x 17), .ref (x 18), .ref (x 19), .ref (x 20), .ref (x 21), .int 0, .int 10, .int 20, .int 0, .int 0, .ref (x 22), .ref (x 23), .int 0, .ref (x 24), .ref (x 25), .ref (x 26), .ref (x 27), .ref (x 28)])), ((x 42), .inl (cy 7, 16, .inr (.inr (.inr (.inr (fun _ => none)))))), ((x 31), .inr (6, [.ref (x 32), .ref (x 9), .ref (x 29), .int 0, .int 0, .int 0, .ref (x 36), .ref (x 37), .ref (x 38), .ref (x 39), .ref (x 40), .ref (x 41), .int 0])), ((x 32), .inr (9, [.ref (x 33), .ref (x 34), .ref (x 35), .int 0])), ((x 33), .inl (cy 0, 384, .inl (fun _ => 0))), ((x 34), .inl (cy 2, 384, .inr (.inl (fun _ => 0)))), ((x 35), .inl (cy 0, 96, .inl (fun _ => 0))), ((x 36), .inl (cy 0, 96, .inl (fun _ => 0))), ((x 38), .inl (cy 0, 96, .inl (fun _ => 0)))]) (As := []) (rest := []) S (kX11_knownBest l D cy x) hK hP hD [0, 1, 2, 3, 4, 5, 6, 7, 8, 9, 10] (by decide) rfl 0 10 rfl rfl kw_1313 kw_1315 kw_53 kw_144 kw_1316 okX11_knownBest rfl (by decide) hl.1 rfl (Nat.le_of_ble_eq_true rfl) dX11_next_1 (by decide)) hP hD hS hA [0, 1, 2, 3, 4, 5, 6, 7, 8, 9, 10] [] rfl rfl (by decide) (by decide) (fun v1 u1 H locs w1 hP hD hS => ?_)
  have hP : va_P D vwCl [] H := hP
  have hD : va_D A [] := hD
  subst w1
  refine lv_astore_nN (lv' := [(1, .null), (0, .ref (x 0))]) S.1 S.2.1 dX11_next_4 rfl hl (by decide) rfl (fun ls hl => ?_)
  refine lv_aload_nN S.1 S.2.1 dX11_next_5 rfl (lv_at hl 0 rfl) ?_
  refine lv_ifnonnullN S.1 S.2.1 dX11_next_6 ?_
  refine lv_iconst (v := (-1)) S.1 S.2.1 dX11_next_9 (by decide) ?_
  exact ci_ret (u := ()) S hr hlk rfl hK (hP.sub [] rfl) (hD.sub [] (by decide) rfl) hS (rfl) (by decide) (by decide) dX11_next_10
set_option maxHeartbeats 4000000 in
set_option maxRecDepth 100000 in
theorem kX11_count (l : Launch) (D : va_G) (cy : Nat → ClassId) (x : Nat → Nat) (p0 : Int32) (z0 : Int) (h0 : p0.toInt = z0) : CI l D cy yX11_count cX11_count 2 (some .int) 8 198 3 201 [.ref (x 0), .int p0] [((x 0), .inr (10, [.int 0, .int (-1), .ref (x 1), .ref (x 9), .int 0, .ref (x 10), .ref (x 13), .ref (x 16), .ref (x 29), .int 0, .int 0, .ref (x 30), .int 0, .ref (x 31), .ref (x 42), .int 0, .int 0, .null, .ref (x 43)])), ((x 13), .inr (4, [.ref (x 14), .ref (x 15), .int 0, .ref (x 16)])), ((x 16), .inr (5, [.int 0, .ref (x 17), .ref (x 18), .ref (x 19), .ref (x 20), .ref (x 21), .int 0, .int 10, .int 20, .int 0, .int 0, .ref (x 22), .ref (x 23), .int 0, .ref (x 24), .ref (x 25), .ref (x 26), .ref (x 27), .ref (x 28)])), ((x 42), .inl (cy 7, 16, .inr (.inr (.inr (.inr (fun _ => none)))))), ((x 31), .inr (6, [.ref (x 32), .ref (x 9), .ref (x 29), .int 0, .int 0, .int 0, .ref (x 36), .ref (x 37), .ref (x 38), .ref (x 39), .ref (x 40), .ref (x 41), .int 0])), ((x 32), .inr (9, [.ref (x 33), .ref (x 34), .ref (x 35), .int 0])), ((x 33), .inl (cy 0, 384, .inl (fun _ => 0))), ((x 34), .inl (cy 2, 384, .inr (.inl (fun _ => 0)))), ((x 35), .inl (cy 0, 96, .inl (fun _ => 0))), ((x 36), .inl (cy 0, 96, .inl (fun _ => 0))), ((x 38), .inl (cy 0, 96, .inl (fun _ => 0))), ((x 1), .inr (2, [.ref (x 2), .ref (x 3), .ref (x 4), .ref (x 5), .ref (x 6), .int 0, .ref (x 7), .ref (x 8), .int 0])), ((x 10), .inr (3, [.ref (x 11), .int 0, .int 0, .int 0, .int 0, .long 0, .null, .int 0, .int 0, .int 0, .int 0, .ref (x 12), .int 0, .null]))] (fun (v : Int32) (u : Unit) => (v = 0 ∧ (0 ≤ z0 ∧ z0 ≤ 12)) ∨ (v = (-1) ∧ ¬ (0 ≤ z0 ∧ z0 ≤ 12))) (fun (u : Unit) => []) := by
  refine ci_go (by decide) (Nat.le_of_ble_eq_true rfl) (fun p e s m below meth c ls A hA S hr hlk hnm hP hK hD hl => ?_)
  have hS : va_S A s.heap s.heap [] := va_S.rf
  have hl : lv_has ls 2 [(0, .ref (x 0)), (1, .int p0)] := hl
  refine lv_aload_n S.1 S.2.1 dX11_count_0 rfl (lv_at hl 0 rfl) ?_
  refine call_v (wr := [((x 32), .inr (9, [.ref (x 33), .ref (x 34), .ref (x 35), .int 0])), ((x 33), .inl (cy 0, 384, .inl (fun _ => 0))), ((x 34), .inl (cy 2, 384, .inr (.inl (fun _ => 0)))), ((x 35), .inl (cy 0, 96, .inl (fun _ => 0))), ((x 36), .inl (cy 0, 96, .inl (fun _ => 0))), ((x 38), .inl (cy 0, 96, .inl (fun _ => 0))), ((x 1), .inr (2, [.ref (x 2), .ref (x 3), .ref (x 4), .ref (x 5), .ref (x 6), .int 0, .ref (x 7), .ref (x 8), .int 0])), ((x 10), .inr (3, [.ref (x 11), .int 0, .int 0, .int 0, .int 0, .long 0, .null, .int 0, .int 0, .int 0, .int 0, .ref (x 12), .int 0, .null]))]) (runV_C (wc := [((x 0), .inr (10, [.int 0, .int (-1), .ref (x 1), .ref (x 9), .int 0, .ref (x 10), .ref (x 13), .ref (x 16), .ref (x 29), .int 0, .int 0, .ref (x 30), .int 0, .ref (x 31), .ref (x 42), .int 0, .int 0, .null, .ref (x 43)])), ((x 13), .inr (4, [.ref (x 14), .ref (x 15), .int 0, .ref (x 16)])), ((x 16), .inr (5, [.int 0, .ref (x 17), .ref (x 18), .ref (x 19), .ref (x 20), .ref (x 21), .int 0, .int 10, .int 20, .int 0, .int 0, .ref (x 22), .ref (x 23), .int 0, .ref (x 24), .ref (x 25), .ref (x 26), .ref (x 27), .ref (x 28)])), ((x 42), .inl (cy 7, 16, .inr (.inr (.inr (.inr (fun _ => none)))))), ((x 31), .inr (6, [.ref (x 32), .ref (x 9), .ref (x 29), .int 0, .int 0, .int 0, .ref (x 36), .ref (x 37), .ref (x 38), .ref (x 39), .ref (x 40), .ref (x 41), .int 0]))]) (As := []) (rest := []) S (kX11_settle_a l D cy x) hK hP hD [0, 1, 2, 3, 4] (by decide) rfl 0 10 rfl rfl kw_960 kw_962 kw_23 kw_144 kw_963 okX11_settle rfl (by decide) hl.1 rfl (Nat.le_of_ble_eq_true rfl) dX11_count_1 (by decide)) hP hD hS hA [0, 1, 2, 3, 4] [5, 6, 7, 8, 9, 10, 11, 12] rfl rfl (by decide) (by decide) (fun u1 H locs w1 hP hD hS => ?_)
  obtain ⟨g_1, lo_1, hi_1⟩ := u1
  have hP : va_P D vwCl [((x 32), .inr (9, [.ref (x 33), .ref (x 34), .ref (x 35), .int 0])), ((x 33), .inl (cy 0, 384, .inl (fun _ => 0))), ((x 34), .inl (cy 2, 384, .inr (.inl (fun _ => 0)))), ((x 35), .inl (cy 0, 96, .inl (fun _ => 0))), ((x 36), .inl (cy 0, 96, .inl (fun _ => 0))), ((x 38), .inl (cy 0, 96, .inl (fun _ => 0))), ((x 1), .inr (2, [.ref (x 2), .ref (x 3), .ref (x 4), .ref (x 5), .ref (x 6), .int 0, .ref (x 7), .ref (x 8), .int 0])), ((x 10), .inr (3, [.ref (x 11), .int 0, .int 0, .int 0, .int 0, .long 0, .null, .int 0, .int 0, .int 0, .int 0, .ref (x 12), .int 0, .null])), ((x 0), .inr (10, [.int 0, .int (-1), .ref (x 1), .ref (x 9), .int 0, .ref (x 10), .ref (x 13), .ref (x 16), .ref (x 29), .int 0, .int 0, .ref (x 30), .int 0, .ref (x 31), .ref (x 42), .int 1, .int 0, .null, .ref (x 43)])), ((x 13), .inr (4, [.ref (x 14), .ref (x 15), .int 0, .ref (x 16)])), ((x 16), .inr (5, [.int 0, .ref (x 17), .ref (x 18), .ref (x 19), .ref (x 20), .ref (x 21), .int 0, .int 10, .int 20, .int 0, .int 0, .ref (x 22), .ref (x 23), .int 0, .ref (x 24), .ref (x 25), .ref (x 26), .ref (x 27), .ref (x 28)])), ((x 42), .inl (cy 7, 16, .inr (.inr (.inr (.inr (va_up (fun _ => none) (0) (some g_1))))))), ((x 31), .inr (6, [.ref (x 32), .ref (x 9), .ref (x 29), .int 0, .int 0, .int 10, .ref (x 36), .ref (x 37), .ref (x 38), .ref (x 39), .ref (x 40), .ref (x 41), .int 0])), (g_1, .inr (1, [.int 0, .int 0, .int 0, .int 0, .long 0, .int 0, .int 0, .ref lo_1, .ref hi_1])), (lo_1, .inl (cy 0, 96, .inl (fun _ => 0))), (hi_1, .inl (cy 0, 96, .inl (fun _ => 0)))] H := hP
  have hD : va_D A [((x 32), .inr (9, [.ref (x 33), .ref (x 34), .ref (x 35), .int 0])), ((x 33), .inl (cy 0, 384, .inl (fun _ => 0))), ((x 34), .inl (cy 2, 384, .inr (.inl (fun _ => 0)))), ((x 35), .inl (cy 0, 96, .inl (fun _ => 0))), ((x 36), .inl (cy 0, 96, .inl (fun _ => 0))), ((x 38), .inl (cy 0, 96, .inl (fun _ => 0))), ((x 1), .inr (2, [.ref (x 2), .ref (x 3), .ref (x 4), .ref (x 5), .ref (x 6), .int 0, .ref (x 7), .ref (x 8), .int 0])), ((x 10), .inr (3, [.ref (x 11), .int 0, .int 0, .int 0, .int 0, .long 0, .null, .int 0, .int 0, .int 0, .int 0, .ref (x 12), .int 0, .null])), ((x 0), .inr (10, [.int 0, .int (-1), .ref (x 1), .ref (x 9), .int 0, .ref (x 10), .ref (x 13), .ref (x 16), .ref (x 29), .int 0, .int 0, .ref (x 30), .int 0, .ref (x 31), .ref (x 42), .int 1, .int 0, .null, .ref (x 43)])), ((x 13), .inr (4, [.ref (x 14), .ref (x 15), .int 0, .ref (x 16)])), ((x 16), .inr (5, [.int 0, .ref (x 17), .ref (x 18), .ref (x 19), .ref (x 20), .ref (x 21), .int 0, .int 10, .int 20, .int 0, .int 0, .ref (x 22), .ref (x 23), .int 0, .ref (x 24), .ref (x 25), .ref (x 26), .ref (x 27), .ref (x 28)])), ((x 42), .inl (cy 7, 16, .inr (.inr (.inr (.inr (va_up (fun _ => none) (0) (some g_1))))))), ((x 31), .inr (6, [.ref (x 32), .ref (x 9), .ref (x 29), .int 0, .int 0, .int 10, .ref (x 36), .ref (x 37), .ref (x 38), .ref (x 39), .ref (x 40), .ref (x 41), .int 0])), (g_1, .inr (1, [.int 0, .int 0, .int 0, .int 0, .long 0, .int 0, .int 0, .ref lo_1, .ref hi_1])), (lo_1, .inl (cy 0, 96, .inl (fun _ => 0))), (hi_1, .inl (cy 0, 96, .inl (fun _ => 0)))] := hD
  refine lv_iload_n S.1 S.2.1 dX11_count_4 rfl (lv_at hl 1 rfl) ?_
  by_cases e_5_1 : z0 = 0
  · have hz : (p0).toInt = 0 := (h0).trans e_5_1
    refine lv_tableIn (tgt := 72) S.1 S.2.1 dX11_count_5 (by rw [hz]; decide) (by rw [hz]; decide) (off := 67) (by rw [hz]; decide) (by decide) ?_
    refine lv_aload_n S.1 S.2.1 dX11_count_72 rfl (lv_at hl 0 rfl) ?_
    refine r_get S hK hP 8 10 rfl rfl inX11 0 (by decide) kw_468 (v := .int 0) rfl dX11_count_73 ?_
    exact ci_ret (u := ()) S hr hlk rfl hK (hP.sub [] rfl) (hD.sub [] (by decide) rfl) hS (Or.inl ⟨rfl, (by omega)⟩) (by decide) (by decide) dX11_count_76
  · by_cases e_5_2 : z0 = 1
    · have hz : (p0).toInt = 1 := (h0).trans e_5_2
      refine lv_tableIn (tgt := 77) S.1 S.2.1 dX11_count_5 (by rw [hz]; decide) (by rw [hz]; decide) (off := 72) (by rw [hz]; decide) (by decide) ?_
      refine lv_aload_n S.1 S.2.1 dX11_count_77 rfl (lv_at hl 0 rfl) ?_
      refine call_ri (runV_R (wc := [((x 0), .inr (10, [.int 0, .int (-1), .ref (x 1), .ref (x 9), .int 0, .ref (x 10), .ref (x 13), .ref (x 16), .ref (x 29), .int 0, .int 0, .ref (x 30), .int 0, .ref (x 31), .ref (x 42), .int 1, .int 0, .null, .ref (x 43)]))]) (As := []) (rest := []) S (kX11_dayShown_a l D cy x) hK hP [8] rfl 0 10 rfl rfl kw_964 kw_966 kw_24 kw_144 kw_967 okX11_dayShown rfl (by decide) hl.1 rfl (Nat.le_of_ble_eq_true rfl) dX11_count_78 (by decide)) (fun v78 w78 => ?_)
      subst w78
      exact ci_ret (u := ()) S hr hlk rfl hK (hP.sub [] rfl) (hD.sub [] (by decide) rfl) hS (Or.inl ⟨rfl, (by omega)⟩) (by decide) (by decide) dX11_count_81
    · by_cases e_5_3 : z0 = 2
      · have hz : (p0).toInt = 2 := (h0).trans e_5_3
        refine lv_tableIn (tgt := 82) S.1 S.2.1 dX11_count_5 (by rw [hz]; decide) (by rw [hz]; decide) (off := 77) (by rw [hz]; decide) (by decide) ?_
        refine lv_aload_n S.1 S.2.1 dX11_count_82 rfl (lv_at hl 0 rfl) ?_
        refine r_get S hK hP 8 10 rfl rfl inX11 4 (by decide) kw_472 (v := .int 0) rfl dX11_count_83 ?_
        exact ci_ret (u := ()) S hr hlk rfl hK (hP.sub [] rfl) (hD.sub [] (by decide) rfl) hS (Or.inl ⟨rfl, (by omega)⟩) (by decide) (by decide) dX11_count_86
      · by_cases e_5_4 : z0 = 3
        · have hz : (p0).toInt = 3 := (h0).trans e_5_4
          refine lv_tableIn (tgt := 87) S.1 S.2.1 dX11_count_5 (by rw [hz]; decide) (by rw [hz]; decide) (off := 82) (by rw [hz]; decide) (by decide) ?_
          refine lv_aload_n S.1 S.2.1 dX11_count_87 rfl (lv_at hl 0 rfl) ?_
          refine lv_iconst (v := 0) S.1 S.2.1 dX11_count_88 (by decide) ?_
          refine call_ri (runV_R (wc := [((x 0), .inr (10, [.int 0, .int (-1), .ref (x 1), .ref (x 9), .int 0, .ref (x 10), .ref (x 13), .ref (x 16), .ref (x 29), .int 0, .int 0, .ref (x 30), .int 0, .ref (x 31), .ref (x 42), .int 1, .int 0, .null, .ref (x 43)]))]) (As := [.int 0]) (rest := []) S (kX11_countSaying l D cy x 0 0 rfl) hK hP [8] rfl 0 10 rfl rfl kw_1349 kw_1351 kw_57 kw_144 kw_1352 okX11_countSaying rfl (by decide) hl.1 rfl (Nat.le_of_ble_eq_true rfl) dX11_count_89 (by decide)) (fun v89 w89 => ?_)
          subst w89
          exact ci_ret (u := ()) S hr hlk rfl hK (hP.sub [] rfl) (hD.sub [] (by decide) rfl) hS (Or.inl ⟨rfl, (by omega)⟩) (by decide) (by decide) dX11_count_92
        · by_cases e_5_5 : z0 = 4
          · have hz : (p0).toInt = 4 := (h0).trans e_5_5
            refine lv_tableIn (tgt := 93) S.1 S.2.1 dX11_count_5 (by rw [hz]; decide) (by rw [hz]; decide) (off := 88) (by rw [hz]; decide) (by decide) ?_
            refine lv_aload_n S.1 S.2.1 dX11_count_93 rfl (lv_at hl 0 rfl) ?_
            refine r_get S hK hP 8 10 rfl rfl inX11 7 (by decide) kw_475 (v := .ref (x 16)) rfl dX11_count_94 ?_
            refine r_get S hK hP 10 5 rfl rfl inX5 0 (by decide) kw_296 (v := .int 0) rfl dX11_count_97 ?_
            exact ci_ret (u := ()) S hr hlk rfl hK (hP.sub [] rfl) (hD.sub [] (by decide) rfl) hS (Or.inl ⟨rfl, (by omega)⟩) (by decide) (by decide) dX11_count_100
          · by_cases e_5_6 : z0 = 5
            · have hz : (p0).toInt = 5 := (h0).trans e_5_6
              refine lv_tableIn (tgt := 101) S.1 S.2.1 dX11_count_5 (by rw [hz]; decide) (by rw [hz]; decide) (off := 96) (by rw [hz]; decide) (by decide) ?_
              refine lv_aload_n S.1 S.2.1 dX11_count_101 rfl (lv_at hl 0 rfl) ?_
              refine r_get S hK hP 8 10 rfl rfl inX11 9 (by decide) kw_477 (v := .int 0) rfl dX11_count_102 ?_
              exact ci_ret (u := ()) S hr hlk rfl hK (hP.sub [] rfl) (hD.sub [] (by decide) rfl) hS (Or.inl ⟨rfl, (by omega)⟩) (by decide) (by decide) dX11_count_105
            · by_cases e_5_7 : z0 = 6
              · have hz : (p0).toInt = 6 := (h0).trans e_5_7
                refine lv_tableIn (tgt := 106) S.1 S.2.1 dX11_count_5 (by rw [hz]; decide) (by rw [hz]; decide) (off := 101) (by rw [hz]; decide) (by decide) ?_
                refine lv_aload_n S.1 S.2.1 dX11_count_106 rfl (lv_at hl 0 rfl) ?_
                refine r_get S hK hP 8 10 rfl rfl inX11 12 (by decide) kw_480 (v := .int 0) rfl dX11_count_107 ?_
                exact ci_ret (u := ()) S hr hlk rfl hK (hP.sub [] rfl) (hD.sub [] (by decide) rfl) hS (Or.inl ⟨rfl, (by omega)⟩) (by decide) (by decide) dX11_count_110
              · by_cases e_5_8 : z0 = 7
                · have hz : (p0).toInt = 7 := (h0).trans e_5_8
                  refine lv_tableIn (tgt := 111) S.1 S.2.1 dX11_count_5 (by rw [hz]; decide) (by rw [hz]; decide) (off := 106) (by rw [hz]; decide) (by decide) ?_
                  refine lv_aload_n S.1 S.2.1 dX11_count_111 rfl (lv_at hl 0 rfl) ?_
                  refine lv_iconst (v := 1) S.1 S.2.1 dX11_count_112 (by decide) ?_
                  refine call_ri (runV_R (wc := [((x 0), .inr (10, [.int 0, .int (-1), .ref (x 1), .ref (x 9), .int 0, .ref (x 10), .ref (x 13), .ref (x 16), .ref (x 29), .int 0, .int 0, .ref (x 30), .int 0, .ref (x 31), .ref (x 42), .int 1, .int 0, .null, .ref (x 43)]))]) (As := [.int 1]) (rest := []) S (kX11_countSaying l D cy x 1 1 rfl) hK hP [8] rfl 0 10 rfl rfl kw_1349 kw_1351 kw_57 kw_144 kw_1352 okX11_countSaying rfl (by decide) hl.1 rfl (Nat.le_of_ble_eq_true rfl) dX11_count_113 (by decide)) (fun v113 w113 => ?_)
                  subst w113
                  exact ci_ret (u := ()) S hr hlk rfl hK (hP.sub [] rfl) (hD.sub [] (by decide) rfl) hS (Or.inl ⟨rfl, (by omega)⟩) (by decide) (by decide) dX11_count_116
                · by_cases e_5_9 : z0 = 8
                  · have hz : (p0).toInt = 8 := (h0).trans e_5_9
                    refine lv_tableIn (tgt := 117) S.1 S.2.1 dX11_count_5 (by rw [hz]; decide) (by rw [hz]; decide) (off := 112) (by rw [hz]; decide) (by decide) ?_
                    refine lv_aload_n S.1 S.2.1 dX11_count_117 rfl (lv_at hl 0 rfl) ?_
                    refine r_get S hK hP 8 10 rfl rfl inX11 6 (by decide) kw_474 (v := .ref (x 13)) rfl dX11_count_118 ?_
                    refine r_get S hK hP 9 4 rfl rfl inX4 2 (by decide) kw_380 (v := .int 0) rfl dX11_count_121 ?_
                    exact ci_ret (u := ()) S hr hlk rfl hK (hP.sub [] rfl) (hD.sub [] (by decide) rfl) hS (Or.inl ⟨rfl, (by omega)⟩) (by decide) (by decide) dX11_count_124
                  · by_cases e_5_10 : z0 = 9
                    · have hz : (p0).toInt = 9 := (h0).trans e_5_10
                      refine lv_tableIn (tgt := 125) S.1 S.2.1 dX11_count_5 (by rw [hz]; decide) (by rw [hz]; decide) (off := 120) (by rw [hz]; decide) (by decide) ?_
                      refine lv_aload_n S.1 S.2.1 dX11_count_125 rfl (lv_at hl 0 rfl) ?_
                      refine r_get S hK hP 8 10 rfl rfl inX11 5 (by decide) kw_473 (v := .ref (x 10)) rfl dX11_count_126 ?_
                      refine r_get S hK hP 7 3 rfl rfl inX3 1 (by decide) kw_236 (v := .int 0) rfl dX11_count_129 ?_
                      exact ci_ret (u := ()) S hr hlk rfl hK (hP.sub [] rfl) (hD.sub [] (by decide) rfl) hS (Or.inl ⟨rfl, (by omega)⟩) (by decide) (by decide) dX11_count_132
                    · by_cases e_5_11 : z0 = 10
                      · have hz : (p0).toInt = 10 := (h0).trans e_5_11
                        refine lv_tableIn (tgt := 133) S.1 S.2.1 dX11_count_5 (by rw [hz]; decide) (by rw [hz]; decide) (off := 128) (by rw [hz]; decide) (by decide) ?_
                        refine lv_aload_n S.1 S.2.1 dX11_count_133 rfl (lv_at hl 0 rfl) ?_
                        refine call_i (wr := [((x 1), .inr (2, [.ref (x 2), .ref (x 3), .ref (x 4), .ref (x 5), .ref (x 6), .int 0, .ref (x 7), .ref (x 8), .int 0])), ((x 10), .inr (3, [.ref (x 11), .int 0, .int 0, .int 0, .int 0, .long 0, .null, .int 0, .int 0, .int 0, .int 0, .ref (x 12), .int 0, .null]))]) (runV_C (wc := [((x 0), .inr (10, [.int 0, .int (-1), .ref (x 1), .ref (x 9), .int 0, .ref (x 10), .ref (x 13), .ref (x 16), .ref (x 29), .int 0, .int 0, .ref (x 30), .int 0, .ref (x 31), .ref (x 42), .int 1, .int 0, .null, .ref (x 43)])), ((x 13), .inr (4, [.ref (x 14), .ref (x 15), .int 0, .ref (x 16)])), ((x 16), .inr (5, [.int 0, .ref (x 17), .ref (x 18), .ref (x 19), .ref (x 20), .ref (x 21), .int 0, .int 10, .int 20, .int 0, .int 0, .ref (x 22), .ref (x 23), .int 0, .ref (x 24), .ref (x 25), .ref (x 26), .ref (x 27), .ref (x 28)])), ((x 42), .inl (cy 7, 16, .inr (.inr (.inr (.inr (va_up (fun _ => none) (0) (some g_1))))))), ((x 31), .inr (6, [.ref (x 32), .ref (x 9), .ref (x 29), .int 0, .int 0, .int 10, .ref (x 36), .ref (x 37), .ref (x 38), .ref (x 39), .ref (x 40), .ref (x 41), .int 0])), ((x 32), .inr (9, [.ref (x 33), .ref (x 34), .ref (x 35), .int 0])), ((x 33), .inl (cy 0, 384, .inl (fun _ => 0))), ((x 34), .inl (cy 2, 384, .inr (.inl (fun _ => 0)))), ((x 35), .inl (cy 0, 96, .inl (fun _ => 0))), ((x 36), .inl (cy 0, 96, .inl (fun _ => 0))), ((x 38), .inl (cy 0, 96, .inl (fun _ => 0))), (g_1, .inr (1, [.int 0, .int 0, .int 0, .int 0, .long 0, .int 0, .int 0, .ref lo_1, .ref hi_1])), (lo_1, .inl (cy 0, 96, .inl (fun _ => 0))), (hi_1, .inl (cy 0, 96, .inl (fun _ => 0)))]) (As := []) (rest := []) S (kX11_prepare_b l D cy x g_1 lo_1 hi_1) hK hP hD [8, 9, 10, 11, 12, 0, 1, 2, 3, 4, 5, 13, 14, 15] (by decide) rfl 0 10 rfl rfl kw_1167 kw_1169 kw_39 kw_144 kw_1170 okX11_prepare rfl (by decide) hl.1 rfl (Nat.le_of_ble_eq_true rfl) dX11_count_134 (by decide)) hP hD hS hA [8, 9, 10, 11, 12, 0, 1, 2, 3, 4, 5, 13, 14, 15] [6, 7] rfl rfl (by decide) (by decide) (fun v134 u134 H locs w134 hP hD hS => ?_)
                        have hP : va_P D vwCl [((x 1), .inr (2, [.ref (x 2), .ref (x 3), .ref (x 4), .ref (x 5), .ref (x 6), .int 0, .ref (x 7), .ref (x 8), .int 0])), ((x 10), .inr (3, [.ref (x 11), .int 0, .int 0, .int 0, .int 0, .long 0, .null, .int 0, .int 0, .int 0, .int 0, .ref (x 12), .int 0, .null])), ((x 0), .inr (10, [.int 0, .int (-1), .ref (x 1), .ref (x 9), .int 0, .ref (x 10), .ref (x 13), .ref (x 16), .ref (x 29), .int 0, .int 0, .ref (x 30), .int 0, .ref (x 31), .ref (x 42), .int 1, .int 1, .ref g_1, .ref (x 43)])), ((x 13), .inr (4, [.ref (x 14), .ref (x 15), .int 0, .ref (x 16)])), ((x 16), .inr (5, [.int 0, .ref (x 17), .ref (x 18), .ref (x 19), .ref (x 20), .ref (x 21), .int 0, .int 10, .int 20, .int 0, .int 0, .ref (x 22), .ref (x 23), .int 0, .ref (x 24), .ref (x 25), .ref (x 26), .ref (x 27), .ref (x 28)])), ((x 42), .inl (cy 7, 16, .inr (.inr (.inr (.inr (va_up (fun _ => none) (0) (some g_1))))))), ((x 31), .inr (6, [.ref (x 32), .ref (x 9), .ref (x 29), .int 0, .int 0, .int 10, .ref (x 36), .ref (x 37), .ref (x 38), .ref (x 39), .ref (x 40), .ref (x 41), .int 1])), ((x 32), .inr (9, [.ref (x 33), .ref (x 34), .ref (x 35), .int 0])), ((x 33), .inl (cy 0, 384, .inl (fun _ => 10))), ((x 34), .inl (cy 2, 384, .inr (.inl (fun _ => 0)))), ((x 35), .inl (cy 0, 96, .inl (fun _ => (-1)))), ((x 36), .inl (cy 0, 96, .inl (fun _ => 0))), ((x 38), .inl (cy 0, 96, .inl (fun _ => (-268435456)))), (g_1, .inr (1, [.int 0, .int 1, .int 1, .int 0, .long 0, .int 0, .int 0, .ref lo_1, .ref hi_1])), (lo_1, .inl (cy 0, 96, .inl (fun _ => 0))), (hi_1, .inl (cy 0, 96, .inl (fun _ => 0)))] H := hP
                        have hD : va_D A [((x 1), .inr (2, [.ref (x 2), .ref (x 3), .ref (x 4), .ref (x 5), .ref (x 6), .int 0, .ref (x 7), .ref (x 8), .int 0])), ((x 10), .inr (3, [.ref (x 11), .int 0, .int 0, .int 0, .int 0, .long 0, .null, .int 0, .int 0, .int 0, .int 0, .ref (x 12), .int 0, .null])), ((x 0), .inr (10, [.int 0, .int (-1), .ref (x 1), .ref (x 9), .int 0, .ref (x 10), .ref (x 13), .ref (x 16), .ref (x 29), .int 0, .int 0, .ref (x 30), .int 0, .ref (x 31), .ref (x 42), .int 1, .int 1, .ref g_1, .ref (x 43)])), ((x 13), .inr (4, [.ref (x 14), .ref (x 15), .int 0, .ref (x 16)])), ((x 16), .inr (5, [.int 0, .ref (x 17), .ref (x 18), .ref (x 19), .ref (x 20), .ref (x 21), .int 0, .int 10, .int 20, .int 0, .int 0, .ref (x 22), .ref (x 23), .int 0, .ref (x 24), .ref (x 25), .ref (x 26), .ref (x 27), .ref (x 28)])), ((x 42), .inl (cy 7, 16, .inr (.inr (.inr (.inr (va_up (fun _ => none) (0) (some g_1))))))), ((x 31), .inr (6, [.ref (x 32), .ref (x 9), .ref (x 29), .int 0, .int 0, .int 10, .ref (x 36), .ref (x 37), .ref (x 38), .ref (x 39), .ref (x 40), .ref (x 41), .int 1])), ((x 32), .inr (9, [.ref (x 33), .ref (x 34), .ref (x 35), .int 0])), ((x 33), .inl (cy 0, 384, .inl (fun _ => 10))), ((x 34), .inl (cy 2, 384, .inr (.inl (fun _ => 0)))), ((x 35), .inl (cy 0, 96, .inl (fun _ => (-1)))), ((x 36), .inl (cy 0, 96, .inl (fun _ => 0))), ((x 38), .inl (cy 0, 96, .inl (fun _ => (-268435456)))), (g_1, .inr (1, [.int 0, .int 1, .int 1, .int 0, .long 0, .int 0, .int 0, .ref lo_1, .ref hi_1])), (lo_1, .inl (cy 0, 96, .inl (fun _ => 0))), (hi_1, .inl (cy 0, 96, .inl (fun _ => 0)))] := hD
                        subst w134
                        refine r_if_eq S 1 rfl dX11_count_137 (tgt := 147) (by decide) (fun c => absurd c (by decide)) (fun _ => ?_)
                        refine lv_aload_n S.1 S.2.1 dX11_count_140 rfl (lv_at hl 0 rfl) ?_
                        refine call_ri (runV_R (wc := [((x 0), .inr (10, [.int 0, .int (-1), .ref (x 1), .ref (x 9), .int 0, .ref (x 10), .ref (x 13), .ref (x 16), .ref (x 29), .int 0, .int 0, .ref (x 30), .int 0, .ref (x 31), .ref (x 42), .int 1, .int 1, .ref g_1, .ref (x 43)])), ((x 16), .inr (5, [.int 0, .ref (x 17), .ref (x 18), .ref (x 19), .ref (x 20), .ref (x 21), .int 0, .int 10, .int 20, .int 0, .int 0, .ref (x 22), .ref (x 23), .int 0, .ref (x 24), .ref (x 25), .ref (x 26), .ref (x 27), .ref (x 28)])), ((x 42), .inl (cy 7, 16, .inr (.inr (.inr (.inr (va_up (fun _ => none) (0) (some g_1))))))), (g_1, .inr (1, [.int 0, .int 1, .int 1, .int 0, .long 0, .int 0, .int 0, .ref lo_1, .ref hi_1]))]) (As := []) (rest := []) S (kX11_countCertain l D cy x g_1 lo_1 hi_1) hK hP [2, 4, 5, 13] rfl 0 10 rfl rfl kw_1357 kw_1359 kw_59 kw_144 kw_1360 okX11_countCertain rfl (by decide) hl.1 rfl (Nat.le_of_ble_eq_true rfl) dX11_count_141 (by decide)) (fun v141 w141 => ?_)
                        subst w141
                        refine lv_goto (tgt := 148) S.1 S.2.1 dX11_count_144 (by decide) ?_
                        exact ci_ret (u := ()) S hr hlk rfl hK (hP.sub [] rfl) (hD.sub [] (by decide) rfl) hS (Or.inl ⟨rfl, (by omega)⟩) (by decide) (by decide) dX11_count_148
                      · by_cases e_5_12 : z0 = 11
                        · have hz : (p0).toInt = 11 := (h0).trans e_5_12
                          refine lv_tableIn (tgt := 149) S.1 S.2.1 dX11_count_5 (by rw [hz]; decide) (by rw [hz]; decide) (off := 144) (by rw [hz]; decide) (by decide) ?_
                          refine lv_aload_n S.1 S.2.1 dX11_count_149 rfl (lv_at hl 0 rfl) ?_
                          refine r_get S hK hP 8 10 rfl rfl inX11 2 (by decide) kw_470 (v := .ref (x 1)) rfl dX11_count_150 ?_
                          refine r_get S hK hP 6 2 rfl rfl inX2 5 (by decide) kw_199 (v := .int 0) rfl dX11_count_153 ?_
                          exact ci_ret (u := ()) S hr hlk rfl hK (hP.sub [] rfl) (hD.sub [] (by decide) rfl) hS (Or.inl ⟨rfl, (by omega)⟩) (by decide) (by decide) dX11_count_156
                        · by_cases e_5_13 : z0 = 12
                          · have hz : (p0).toInt = 12 := (h0).trans e_5_13
                            refine lv_tableIn (tgt := 157) S.1 S.2.1 dX11_count_5 (by rw [hz]; decide) (by rw [hz]; decide) (off := 152) (by rw [hz]; decide) (by decide) ?_
                            refine lv_aload_n S.1 S.2.1 dX11_count_157 rfl (lv_at hl 0 rfl) ?_
                            refine r_get S hK hP 8 10 rfl rfl inX11 2 (by decide) kw_470 (v := .ref (x 1)) rfl dX11_count_158 ?_
                            refine r_get S hK hP 6 2 rfl rfl inX2 8 (by decide) kw_204 (v := .int 0) rfl dX11_count_161 ?_
                            exact ci_ret (u := ()) S hr hlk rfl hK (hP.sub [] rfl) (hD.sub [] (by decide) rfl) hS (Or.inl ⟨rfl, (by omega)⟩) (by decide) (by decide) dX11_count_164
                          · have hz : (p0).toInt = z0 := h0
                            refine lv_tableOut (tgt := 165) S.1 S.2.1 dX11_count_5 (by rw [hz]; omega) (by decide) ?_
                            refine lv_iconst (v := (-1)) S.1 S.2.1 dX11_count_165 (by decide) ?_
                            exact ci_ret (u := ()) S hr hlk rfl hK (hP.sub [] rfl) (hD.sub [] (by decide) rfl) hS (Or.inr (⟨rfl, (by omega)⟩)) (by decide) (by decide) dX11_count_166
set_option maxHeartbeats 4000000 in
set_option maxRecDepth 100000 in
theorem kX11_sheet (l : Launch) (D : va_G) (cy : Nat → ClassId) (x : Nat → Nat) (p0 : Int32) (p1 : Int32) (p2 : Int32) (p3 : Int32) (z0 : Int) (h0 : p0.toInt = z0) (z1 : Int) (h1 : p1.toInt = z1) (z2 : Int) (h2 : p2.toInt = z2) (z3 : Int) (h3 : p3.toInt = z3) : CI l D cy yX11_sheet cX11_sheet 11 (some .int) 8 198 5 298 [.ref (x 0), .int p0, .int p1, .int p2, .int p3] [((x 0), .inr (10, [.int 0, .int (-1), .ref (x 1), .ref (x 9), .int 0, .ref (x 10), .ref (x 13), .ref (x 16), .ref (x 29), .int 0, .int 0, .ref (x 30), .int 0, .ref (x 31), .ref (x 42), .int 0, .int 0, .null, .ref (x 43)])), ((x 13), .inr (4, [.ref (x 14), .ref (x 15), .int 0, .ref (x 16)])), ((x 16), .inr (5, [.int 0, .ref (x 17), .ref (x 18), .ref (x 19), .ref (x 20), .ref (x 21), .int 0, .int 10, .int 20, .int 0, .int 0, .ref (x 22), .ref (x 23), .int 0, .ref (x 24), .ref (x 25), .ref (x 26), .ref (x 27), .ref (x 28)])), ((x 42), .inl (cy 7, 16, .inr (.inr (.inr (.inr (fun _ => none)))))), ((x 31), .inr (6, [.ref (x 32), .ref (x 9), .ref (x 29), .int 0, .int 0, .int 0, .ref (x 36), .ref (x 37), .ref (x 38), .ref (x 39), .ref (x 40), .ref (x 41), .int 0])), ((x 32), .inr (9, [.ref (x 33), .ref (x 34), .ref (x 35), .int 0])), ((x 33), .inl (cy 0, 384, .inl (fun _ => 0))), ((x 34), .inl (cy 2, 384, .inr (.inl (fun _ => 0)))), ((x 35), .inl (cy 0, 96, .inl (fun _ => 0))), ((x 36), .inl (cy 0, 96, .inl (fun _ => 0))), ((x 38), .inl (cy 0, 96, .inl (fun _ => 0))), ((x 30), .inl (cy 6, 10, .inr (.inr (.inr (.inr (fun _ => none))))))] (fun (v : Int32) (u : Unit) => (v = 0 ∧ (0 ≤ z0 ∧ z0 ≤ 11 ∧ 0 ≤ z1 ∧ z1 ≤ 7 ∧ 0 ≤ z2 ∧ z2 ≤ 11 ∧ 0 ≤ z3 ∧ z3 ≤ 7 ∧ z0 ≤ z2 ∧ z1 ≤ z3)) ∨ (v = (-1) ∧ ¬ (0 ≤ z0 ∧ z0 ≤ 11 ∧ 0 ≤ z1 ∧ z1 ≤ 7 ∧ 0 ≤ z2 ∧ z2 ≤ 11 ∧ 0 ≤ z3 ∧ z3 ≤ 7 ∧ z0 ≤ z2 ∧ z1 ≤ z3))) (fun (u : Unit) => []) := by
  refine ci_go (by decide) (Nat.le_of_ble_eq_true rfl) (fun p e s m below meth c ls A hA S hr hlk hnm hP hK hD hl => ?_)
  have hS : va_S A s.heap s.heap [] := va_S.rf
  have hl : lv_has ls 11 [(0, .ref (x 0)), (1, .int p0), (2, .int p1), (3, .int p2), (4, .int p3)] := hl
  refine lv_iload_n S.1 S.2.1 dX11_sheet_0 rfl (lv_at hl 1 rfl) ?_
  refine lv_iload_n S.1 S.2.1 dX11_sheet_1 rfl (lv_at hl 2 rfl) ?_
  refine call_ri (runS_R (wc := []) (As := [.int p0, .int p1]) (rest := []) S (kX11_cellAt l D cy p0 p1 z0 h0 z1 h1) hK hP [] rfl kw_538 kw_539 kw_144 kw_540 okX11_cellAt rfl (by decide) hl.1 rfl (Nat.le_of_ble_eq_true rfl) dX11_sheet_2 (by decide)) (fun v2 w2 => ?_)
  rcases w2 with ⟨rfl, w2_0_0⟩ | ⟨cx_2, cl_2, rfl, w2_1_0, w2_1_1, w2_1_2, w2_1_3⟩
  · refine lv_istore (lv' := [(5, .int (-1)), (0, .ref (x 0)), (1, .int p0), (2, .int p1), (3, .int p2), (4, .int p3)]) S.1 S.2.1 dX11_sheet_5 hl (by decide) rfl (fun ls hl => ?_)
    refine lv_iload_n S.1 S.2.1 dX11_sheet_7 rfl (lv_at hl 4 rfl) ?_
    refine lv_iload S.1 S.2.1 dX11_sheet_8 (lv_at hl 5 rfl) ?_
    refine call_ri (runS_R (wc := []) (As := [.int p2, .int p3]) (rest := []) S (kX11_cellAt l D cy p2 p3 z2 h2 z3 h3) hK hP [] rfl kw_538 kw_539 kw_144 kw_540 okX11_cellAt rfl (by decide) hl.1 rfl (Nat.le_of_ble_eq_true rfl) dX11_sheet_10 (by decide)) (fun v10 w10 => ?_)
    rcases w10 with ⟨rfl, w10_0_0⟩ | ⟨cx_10, cl_10, rfl, w10_1_0, w10_1_1, w10_1_2, w10_1_3⟩
    · refine lv_istore (lv' := [(6, .int (-1)), (5, .int (-1)), (0, .ref (x 0)), (1, .int p0), (2, .int p1), (3, .int p2), (4, .int p3)]) S.1 S.2.1 dX11_sheet_13 hl (by decide) rfl (fun ls hl => ?_)
      refine lv_iload S.1 S.2.1 dX11_sheet_15 (lv_at hl 1 rfl) ?_
      refine lv_iconst (v := (-1)) S.1 S.2.1 dX11_sheet_17 (by decide) ?_
      refine r_icmp_eq S (-1) (-1) rfl rfl dX11_sheet_18 (tgt := 38) (by decide) (fun _ => ?_) (fun c => absurd c (by decide))
      refine lv_iconst (v := (-1)) S.1 S.2.1 dX11_sheet_38 (by decide) ?_
      exact ci_ret (u := ()) S hr hlk rfl hK (hP.sub [] rfl) (hD.sub [] (by decide) rfl) hS (Or.inr (⟨rfl, (by omega)⟩)) (by decide) (by decide) dX11_sheet_39
    · refine lv_istore (lv' := [(6, .int (nI (12 * cl_10 + cx_10))), (5, .int (-1)), (0, .ref (x 0)), (1, .int p0), (2, .int p1), (3, .int p2), (4, .int p3)]) S.1 S.2.1 dX11_sheet_13 hl (by decide) rfl (fun ls hl => ?_)
      refine lv_iload S.1 S.2.1 dX11_sheet_15 (lv_at hl 1 rfl) ?_
      refine lv_iconst (v := (-1)) S.1 S.2.1 dX11_sheet_17 (by decide) ?_
      refine r_icmp_eq S (-1) (-1) rfl rfl dX11_sheet_18 (tgt := 38) (by decide) (fun _ => ?_) (fun c => absurd c (by decide))
      refine lv_iconst (v := (-1)) S.1 S.2.1 dX11_sheet_38 (by decide) ?_
      exact ci_ret (u := ()) S hr hlk rfl hK (hP.sub [] rfl) (hD.sub [] (by decide) rfl) hS (Or.inr (⟨rfl, (by omega)⟩)) (by decide) (by decide) dX11_sheet_39
  · refine lv_istore (lv' := [(5, .int (nI (12 * cl_2 + cx_2))), (0, .ref (x 0)), (1, .int p0), (2, .int p1), (3, .int p2), (4, .int p3)]) S.1 S.2.1 dX11_sheet_5 hl (by decide) rfl (fun ls hl => ?_)
    refine lv_iload_n S.1 S.2.1 dX11_sheet_7 rfl (lv_at hl 4 rfl) ?_
    refine lv_iload S.1 S.2.1 dX11_sheet_8 (lv_at hl 5 rfl) ?_
    refine call_ri (runS_R (wc := []) (As := [.int p2, .int p3]) (rest := []) S (kX11_cellAt l D cy p2 p3 z2 h2 z3 h3) hK hP [] rfl kw_538 kw_539 kw_144 kw_540 okX11_cellAt rfl (by decide) hl.1 rfl (Nat.le_of_ble_eq_true rfl) dX11_sheet_10 (by decide)) (fun v10 w10 => ?_)
    rcases w10 with ⟨rfl, w10_0_0⟩ | ⟨cx_10, cl_10, rfl, w10_1_0, w10_1_1, w10_1_2, w10_1_3⟩
    · refine lv_istore (lv' := [(6, .int (-1)), (5, .int (nI (12 * cl_2 + cx_2))), (0, .ref (x 0)), (1, .int p0), (2, .int p1), (3, .int p2), (4, .int p3)]) S.1 S.2.1 dX11_sheet_13 hl (by decide) rfl (fun ls hl => ?_)
      refine lv_iload S.1 S.2.1 dX11_sheet_15 (lv_at hl 1 rfl) ?_
      refine lv_iconst (v := (-1)) S.1 S.2.1 dX11_sheet_17 (by decide) ?_
      refine r_icmp_eq S ((12 * cl_2 + cx_2 : Nat) : Int) (-1) (nI_toInt (by omega)) rfl dX11_sheet_18 (tgt := 38) (by decide) (fun c => absurd c (by omega)) (fun _ => ?_)
      refine lv_iload S.1 S.2.1 dX11_sheet_21 (lv_at hl 0 rfl) ?_
      refine lv_iconst (v := (-1)) S.1 S.2.1 dX11_sheet_23 (by decide) ?_
      refine r_icmp_eq S (-1) (-1) rfl rfl dX11_sheet_24 (tgt := 38) (by decide) (fun _ => ?_) (fun c => absurd c (by decide))
      refine lv_iconst (v := (-1)) S.1 S.2.1 dX11_sheet_38 (by decide) ?_
      exact ci_ret (u := ()) S hr hlk rfl hK (hP.sub [] rfl) (hD.sub [] (by decide) rfl) hS (Or.inr (⟨rfl, (by omega)⟩)) (by decide) (by decide) dX11_sheet_39
    · refine lv_istore (lv' := [(6, .int (nI (12 * cl_10 + cx_10))), (5, .int (nI (12 * cl_2 + cx_2))), (0, .ref (x 0)), (1, .int p0), (2, .int p1), (3, .int p2), (4, .int p3)]) S.1 S.2.1 dX11_sheet_13 hl (by decide) rfl (fun ls hl => ?_)
      refine lv_iload S.1 S.2.1 dX11_sheet_15 (lv_at hl 1 rfl) ?_
      refine lv_iconst (v := (-1)) S.1 S.2.1 dX11_sheet_17 (by decide) ?_
      refine r_icmp_eq S ((12 * cl_2 + cx_2 : Nat) : Int) (-1) (nI_toInt (by omega)) rfl dX11_sheet_18 (tgt := 38) (by decide) (fun c => absurd c (by omega)) (fun _ => ?_)
      refine lv_iload S.1 S.2.1 dX11_sheet_21 (lv_at hl 0 rfl) ?_
      refine lv_iconst (v := (-1)) S.1 S.2.1 dX11_sheet_23 (by decide) ?_
      refine r_icmp_eq S ((12 * cl_10 + cx_10 : Nat) : Int) (-1) (nI_toInt (by omega)) rfl dX11_sheet_24 (tgt := 38) (by decide) (fun c => absurd c (by omega)) (fun _ => ?_)
      refine lv_iload_n S.1 S.2.1 dX11_sheet_27 rfl (lv_at hl 3 rfl) ?_
      refine lv_iload_n S.1 S.2.1 dX11_sheet_28 rfl (lv_at hl 5 rfl) ?_
      refine r_icmp_gt S z0 z2 h0 h2 dX11_sheet_29 (tgt := 38) (by decide) (fun e_29_1 => ?_) (fun e_29_1 => ?_)
      · refine lv_iconst (v := (-1)) S.1 S.2.1 dX11_sheet_38 (by decide) ?_
        exact ci_ret (u := ()) S hr hlk rfl hK (hP.sub [] rfl) (hD.sub [] (by decide) rfl) hS (Or.inr (⟨rfl, (by omega)⟩)) (by decide) (by decide) dX11_sheet_39
      · refine lv_iload_n S.1 S.2.1 dX11_sheet_32 rfl (lv_at hl 4 rfl) ?_
        refine lv_iload S.1 S.2.1 dX11_sheet_33 (lv_at hl 6 rfl) ?_
        refine r_icmp_le S z1 z3 h1 h3 dX11_sheet_35 (tgt := 40) (by decide) (fun e_35_2 => ?_) (fun e_35_2 => ?_)
        · refine lv_aload_n S.1 S.2.1 dX11_sheet_40 rfl (lv_at hl 2 rfl) ?_
          refine r_get S hK hP 0 10 rfl rfl inX11 12 (by decide) kw_480 (v := .int 0) rfl dX11_sheet_41 ?_
          refine lv_bipush (v := 10) S.1 S.2.1 dX11_sheet_44 (by decide) ?_
          refine r_icmp_ge S 0 10 rfl rfl dX11_sheet_46 (tgt := 56) (by decide) (fun c => absurd c (by decide)) (fun _ => ?_)
          refine lv_aload_n S.1 S.2.1 dX11_sheet_49 rfl (lv_at hl 2 rfl) ?_
          refine call_i (wr := [((x 30), .inl (cy 6, 10, .inr (.inr (.inr (.inr (fun _ => none))))))]) (runV_C (wc := [((x 0), .inr (10, [.int 0, .int (-1), .ref (x 1), .ref (x 9), .int 0, .ref (x 10), .ref (x 13), .ref (x 16), .ref (x 29), .int 0, .int 0, .ref (x 30), .int 0, .ref (x 31), .ref (x 42), .int 0, .int 0, .null, .ref (x 43)])), ((x 13), .inr (4, [.ref (x 14), .ref (x 15), .int 0, .ref (x 16)])), ((x 16), .inr (5, [.int 0, .ref (x 17), .ref (x 18), .ref (x 19), .ref (x 20), .ref (x 21), .int 0, .int 10, .int 20, .int 0, .int 0, .ref (x 22), .ref (x 23), .int 0, .ref (x 24), .ref (x 25), .ref (x 26), .ref (x 27), .ref (x 28)])), ((x 42), .inl (cy 7, 16, .inr (.inr (.inr (.inr (fun _ => none)))))), ((x 31), .inr (6, [.ref (x 32), .ref (x 9), .ref (x 29), .int 0, .int 0, .int 0, .ref (x 36), .ref (x 37), .ref (x 38), .ref (x 39), .ref (x 40), .ref (x 41), .int 0])), ((x 32), .inr (9, [.ref (x 33), .ref (x 34), .ref (x 35), .int 0])), ((x 33), .inl (cy 0, 384, .inl (fun _ => 0))), ((x 34), .inl (cy 2, 384, .inr (.inl (fun _ => 0)))), ((x 35), .inl (cy 0, 96, .inl (fun _ => 0))), ((x 36), .inl (cy 0, 96, .inl (fun _ => 0))), ((x 38), .inl (cy 0, 96, .inl (fun _ => 0)))]) (As := []) (rest := []) S (kX11_prepare_a l D cy x) hK hP hD [0, 1, 2, 3, 4, 5, 6, 7, 8, 9, 10] (by decide) rfl 0 10 rfl rfl kw_1167 kw_1169 kw_39 kw_144 kw_1170 okX11_prepare rfl (by decide) hl.1 rfl (Nat.le_of_ble_eq_true rfl) dX11_sheet_50 (by decide)) hP hD hS hA [0, 1, 2, 3, 4, 5, 6, 7, 8, 9, 10] [11] rfl rfl (by decide) (by decide) (fun v50 u50 H locs w50 hP hD hS => ?_)
          obtain ⟨g_50, lo_50, hi_50⟩ := u50
          have hP : va_P D vwCl [((x 30), .inl (cy 6, 10, .inr (.inr (.inr (.inr (fun _ => none)))))), ((x 0), .inr (10, [.int 0, .int (-1), .ref (x 1), .ref (x 9), .int 0, .ref (x 10), .ref (x 13), .ref (x 16), .ref (x 29), .int 0, .int 0, .ref (x 30), .int 0, .ref (x 31), .ref (x 42), .int 1, .int 1, .ref g_50, .ref (x 43)])), ((x 13), .inr (4, [.ref (x 14), .ref (x 15), .int 0, .ref (x 16)])), ((x 16), .inr (5, [.int 0, .ref (x 17), .ref (x 18), .ref (x 19), .ref (x 20), .ref (x 21), .int 0, .int 10, .int 20, .int 0, .int 0, .ref (x 22), .ref (x 23), .int 0, .ref (x 24), .ref (x 25), .ref (x 26), .ref (x 27), .ref (x 28)])), ((x 42), .inl (cy 7, 16, .inr (.inr (.inr (.inr (va_up (fun _ => none) (0) (some g_50))))))), ((x 31), .inr (6, [.ref (x 32), .ref (x 9), .ref (x 29), .int 0, .int 0, .int 10, .ref (x 36), .ref (x 37), .ref (x 38), .ref (x 39), .ref (x 40), .ref (x 41), .int 1])), ((x 32), .inr (9, [.ref (x 33), .ref (x 34), .ref (x 35), .int 0])), ((x 33), .inl (cy 0, 384, .inl (fun _ => 10))), ((x 34), .inl (cy 2, 384, .inr (.inl (fun _ => 0)))), ((x 35), .inl (cy 0, 96, .inl (fun _ => (-1)))), ((x 36), .inl (cy 0, 96, .inl (fun _ => 0))), ((x 38), .inl (cy 0, 96, .inl (fun _ => (-268435456)))), (g_50, .inr (1, [.int 0, .int 1, .int 1, .int 0, .long 0, .int 0, .int 0, .ref lo_50, .ref hi_50])), (lo_50, .inl (cy 0, 96, .inl (fun _ => 0))), (hi_50, .inl (cy 0, 96, .inl (fun _ => 0)))] H := hP
          have hD : va_D A [((x 30), .inl (cy 6, 10, .inr (.inr (.inr (.inr (fun _ => none)))))), ((x 0), .inr (10, [.int 0, .int (-1), .ref (x 1), .ref (x 9), .int 0, .ref (x 10), .ref (x 13), .ref (x 16), .ref (x 29), .int 0, .int 0, .ref (x 30), .int 0, .ref (x 31), .ref (x 42), .int 1, .int 1, .ref g_50, .ref (x 43)])), ((x 13), .inr (4, [.ref (x 14), .ref (x 15), .int 0, .ref (x 16)])), ((x 16), .inr (5, [.int 0, .ref (x 17), .ref (x 18), .ref (x 19), .ref (x 20), .ref (x 21), .int 0, .int 10, .int 20, .int 0, .int 0, .ref (x 22), .ref (x 23), .int 0, .ref (x 24), .ref (x 25), .ref (x 26), .ref (x 27), .ref (x 28)])), ((x 42), .inl (cy 7, 16, .inr (.inr (.inr (.inr (va_up (fun _ => none) (0) (some g_50))))))), ((x 31), .inr (6, [.ref (x 32), .ref (x 9), .ref (x 29), .int 0, .int 0, .int 10, .ref (x 36), .ref (x 37), .ref (x 38), .ref (x 39), .ref (x 40), .ref (x 41), .int 1])), ((x 32), .inr (9, [.ref (x 33), .ref (x 34), .ref (x 35), .int 0])), ((x 33), .inl (cy 0, 384, .inl (fun _ => 10))), ((x 34), .inl (cy 2, 384, .inr (.inl (fun _ => 0)))), ((x 35), .inl (cy 0, 96, .inl (fun _ => (-1)))), ((x 36), .inl (cy 0, 96, .inl (fun _ => 0))), ((x 38), .inl (cy 0, 96, .inl (fun _ => (-268435456)))), (g_50, .inr (1, [.int 0, .int 1, .int 1, .int 0, .long 0, .int 0, .int 0, .ref lo_50, .ref hi_50])), (lo_50, .inl (cy 0, 96, .inl (fun _ => 0))), (hi_50, .inl (cy 0, 96, .inl (fun _ => 0)))] := hD
          subst w50
          refine r_if_ne S 1 rfl dX11_sheet_53 (tgt := 58) (by decide) (fun _ => ?_) (fun c => absurd c (by decide))
          obtain ⟨ax, hax, qax, zax⟩ := i_nat 12 h0 (by omega) (by omega)
          have hl : lv_has ls 11 [(6, .int (nI (12 * cl_10 + cx_10))), (5, .int (nI (12 * cl_2 + cx_2))), (0, .ref (x 0)), (1, .int (nI ax)), (2, .int p1), (3, .int p2), (4, .int p3)] := by rw [← qax]; exact hl
          obtain ⟨ay, hay, qay, zay⟩ := i_nat 8 h1 (by omega) (by omega)
          have hl : lv_has ls 11 [(6, .int (nI (12 * cl_10 + cx_10))), (5, .int (nI (12 * cl_2 + cx_2))), (0, .ref (x 0)), (1, .int (nI ax)), (2, .int (nI ay)), (3, .int p2), (4, .int p3)] := by rw [← qay]; exact hl
          obtain ⟨bx, hbx, qbx, zbx⟩ := i_nat 12 h2 (by omega) (by omega)
          have hl : lv_has ls 11 [(6, .int (nI (12 * cl_10 + cx_10))), (5, .int (nI (12 * cl_2 + cx_2))), (0, .ref (x 0)), (1, .int (nI ax)), (2, .int (nI ay)), (3, .int (nI bx)), (4, .int p3)] := by rw [← qbx]; exact hl
          obtain ⟨bw, hbw, qbw, zbw⟩ := i_nat 8 h3 (by omega) (by omega)
          have hl : lv_has ls 11 [(6, .int (nI (12 * cl_10 + cx_10))), (5, .int (nI (12 * cl_2 + cx_2))), (0, .ref (x 0)), (1, .int (nI ax)), (2, .int (nI ay)), (3, .int (nI bx)), (4, .int (nI bw))] := by rw [← qbw]; exact hl
          refine r_new S (ci := 7) inX7 tyX7 tyX7_ok kw_394 kw_1264 kw_171 hK hP hD hS hA rfl (fs := [.null]) rfl (by decide) (by decide) dX11_sheet_58 (fun a58_3 H hP hD hS => ?_)
          have hP : va_P D vwCl [((x 30), .inl (cy 6, 10, .inr (.inr (.inr (.inr (fun _ => none)))))), ((x 0), .inr (10, [.int 0, .int (-1), .ref (x 1), .ref (x 9), .int 0, .ref (x 10), .ref (x 13), .ref (x 16), .ref (x 29), .int 0, .int 0, .ref (x 30), .int 0, .ref (x 31), .ref (x 42), .int 1, .int 1, .ref g_50, .ref (x 43)])), ((x 13), .inr (4, [.ref (x 14), .ref (x 15), .int 0, .ref (x 16)])), ((x 16), .inr (5, [.int 0, .ref (x 17), .ref (x 18), .ref (x 19), .ref (x 20), .ref (x 21), .int 0, .int 10, .int 20, .int 0, .int 0, .ref (x 22), .ref (x 23), .int 0, .ref (x 24), .ref (x 25), .ref (x 26), .ref (x 27), .ref (x 28)])), ((x 42), .inl (cy 7, 16, .inr (.inr (.inr (.inr (va_up (fun _ => none) (0) (some g_50))))))), ((x 31), .inr (6, [.ref (x 32), .ref (x 9), .ref (x 29), .int 0, .int 0, .int 10, .ref (x 36), .ref (x 37), .ref (x 38), .ref (x 39), .ref (x 40), .ref (x 41), .int 1])), ((x 32), .inr (9, [.ref (x 33), .ref (x 34), .ref (x 35), .int 0])), ((x 33), .inl (cy 0, 384, .inl (fun _ => 10))), ((x 34), .inl (cy 2, 384, .inr (.inl (fun _ => 0)))), ((x 35), .inl (cy 0, 96, .inl (fun _ => (-1)))), ((x 36), .inl (cy 0, 96, .inl (fun _ => 0))), ((x 38), .inl (cy 0, 96, .inl (fun _ => (-268435456)))), (g_50, .inr (1, [.int 0, .int 1, .int 1, .int 0, .long 0, .int 0, .int 0, .ref lo_50, .ref hi_50])), (lo_50, .inl (cy 0, 96, .inl (fun _ => 0))), (hi_50, .inl (cy 0, 96, .inl (fun _ => 0))), (a58_3, .inr (7, [.null]))] H := hP
          have hD : va_D A [((x 30), .inl (cy 6, 10, .inr (.inr (.inr (.inr (fun _ => none)))))), ((x 0), .inr (10, [.int 0, .int (-1), .ref (x 1), .ref (x 9), .int 0, .ref (x 10), .ref (x 13), .ref (x 16), .ref (x 29), .int 0, .int 0, .ref (x 30), .int 0, .ref (x 31), .ref (x 42), .int 1, .int 1, .ref g_50, .ref (x 43)])), ((x 13), .inr (4, [.ref (x 14), .ref (x 15), .int 0, .ref (x 16)])), ((x 16), .inr (5, [.int 0, .ref (x 17), .ref (x 18), .ref (x 19), .ref (x 20), .ref (x 21), .int 0, .int 10, .int 20, .int 0, .int 0, .ref (x 22), .ref (x 23), .int 0, .ref (x 24), .ref (x 25), .ref (x 26), .ref (x 27), .ref (x 28)])), ((x 42), .inl (cy 7, 16, .inr (.inr (.inr (.inr (va_up (fun _ => none) (0) (some g_50))))))), ((x 31), .inr (6, [.ref (x 32), .ref (x 9), .ref (x 29), .int 0, .int 0, .int 10, .ref (x 36), .ref (x 37), .ref (x 38), .ref (x 39), .ref (x 40), .ref (x 41), .int 1])), ((x 32), .inr (9, [.ref (x 33), .ref (x 34), .ref (x 35), .int 0])), ((x 33), .inl (cy 0, 384, .inl (fun _ => 10))), ((x 34), .inl (cy 2, 384, .inr (.inl (fun _ => 0)))), ((x 35), .inl (cy 0, 96, .inl (fun _ => (-1)))), ((x 36), .inl (cy 0, 96, .inl (fun _ => 0))), ((x 38), .inl (cy 0, 96, .inl (fun _ => (-268435456)))), (g_50, .inr (1, [.int 0, .int 1, .int 1, .int 0, .long 0, .int 0, .int 0, .ref lo_50, .ref hi_50])), (lo_50, .inl (cy 0, 96, .inl (fun _ => 0))), (hi_50, .inl (cy 0, 96, .inl (fun _ => 0))), (a58_3, .inr (7, [.null]))] := hD
          refine lv_dup S.1 S.2.1 dX11_sheet_61 rfl ?_
          refine call_v (wr := [((x 30), .inl (cy 6, 10, .inr (.inr (.inr (.inr (fun _ => none)))))), ((x 0), .inr (10, [.int 0, .int (-1), .ref (x 1), .ref (x 9), .int 0, .ref (x 10), .ref (x 13), .ref (x 16), .ref (x 29), .int 0, .int 0, .ref (x 30), .int 0, .ref (x 31), .ref (x 42), .int 1, .int 1, .ref g_50, .ref (x 43)])), ((x 13), .inr (4, [.ref (x 14), .ref (x 15), .int 0, .ref (x 16)])), ((x 16), .inr (5, [.int 0, .ref (x 17), .ref (x 18), .ref (x 19), .ref (x 20), .ref (x 21), .int 0, .int 10, .int 20, .int 0, .int 0, .ref (x 22), .ref (x 23), .int 0, .ref (x 24), .ref (x 25), .ref (x 26), .ref (x 27), .ref (x 28)])), ((x 42), .inl (cy 7, 16, .inr (.inr (.inr (.inr (va_up (fun _ => none) (0) (some g_50))))))), ((x 31), .inr (6, [.ref (x 32), .ref (x 9), .ref (x 29), .int 0, .int 0, .int 10, .ref (x 36), .ref (x 37), .ref (x 38), .ref (x 39), .ref (x 40), .ref (x 41), .int 1])), ((x 32), .inr (9, [.ref (x 33), .ref (x 34), .ref (x 35), .int 0])), ((x 33), .inl (cy 0, 384, .inl (fun _ => 10))), ((x 34), .inl (cy 2, 384, .inr (.inl (fun _ => 0)))), ((x 35), .inl (cy 0, 96, .inl (fun _ => (-1)))), ((x 36), .inl (cy 0, 96, .inl (fun _ => 0))), ((x 38), .inl (cy 0, 96, .inl (fun _ => (-268435456)))), (g_50, .inr (1, [.int 0, .int 1, .int 1, .int 0, .long 0, .int 0, .int 0, .ref lo_50, .ref hi_50])), (lo_50, .inl (cy 0, 96, .inl (fun _ => 0))), (hi_50, .inl (cy 0, 96, .inl (fun _ => 0)))]) (runI_C (wc := [(a58_3, .inr (7, [.null]))]) (As := []) (rest := [.ref a58_3]) S (kX7_init l D cy a58_3) hK hP hD [15] (by decide) rfl kw_1265 kw_1266 kw_171 kw_1267 okX7_init rfl rfl (by decide) hl.1 rfl (Nat.le_of_ble_eq_true rfl) dX11_sheet_62 (by decide)) hP hD hS hA [15] [0, 1, 2, 3, 4, 5, 6, 7, 8, 9, 10, 11, 12, 13, 14] rfl rfl (by decide) (by decide) (fun u62 H locs w62 hP hD hS => ?_)
          obtain ⟨bits_62, rfl⟩ : ∃ z, z = u62 := ⟨_, rfl⟩
          have hP : va_P D vwCl [((x 30), .inl (cy 6, 10, .inr (.inr (.inr (.inr (fun _ => none)))))), ((x 0), .inr (10, [.int 0, .int (-1), .ref (x 1), .ref (x 9), .int 0, .ref (x 10), .ref (x 13), .ref (x 16), .ref (x 29), .int 0, .int 0, .ref (x 30), .int 0, .ref (x 31), .ref (x 42), .int 1, .int 1, .ref g_50, .ref (x 43)])), ((x 13), .inr (4, [.ref (x 14), .ref (x 15), .int 0, .ref (x 16)])), ((x 16), .inr (5, [.int 0, .ref (x 17), .ref (x 18), .ref (x 19), .ref (x 20), .ref (x 21), .int 0, .int 10, .int 20, .int 0, .int 0, .ref (x 22), .ref (x 23), .int 0, .ref (x 24), .ref (x 25), .ref (x 26), .ref (x 27), .ref (x 28)])), ((x 42), .inl (cy 7, 16, .inr (.inr (.inr (.inr (va_up (fun _ => none) (0) (some g_50))))))), ((x 31), .inr (6, [.ref (x 32), .ref (x 9), .ref (x 29), .int 0, .int 0, .int 10, .ref (x 36), .ref (x 37), .ref (x 38), .ref (x 39), .ref (x 40), .ref (x 41), .int 1])), ((x 32), .inr (9, [.ref (x 33), .ref (x 34), .ref (x 35), .int 0])), ((x 33), .inl (cy 0, 384, .inl (fun _ => 10))), ((x 34), .inl (cy 2, 384, .inr (.inl (fun _ => 0)))), ((x 35), .inl (cy 0, 96, .inl (fun _ => (-1)))), ((x 36), .inl (cy 0, 96, .inl (fun _ => 0))), ((x 38), .inl (cy 0, 96, .inl (fun _ => (-268435456)))), (g_50, .inr (1, [.int 0, .int 1, .int 1, .int 0, .long 0, .int 0, .int 0, .ref lo_50, .ref hi_50])), (lo_50, .inl (cy 0, 96, .inl (fun _ => 0))), (hi_50, .inl (cy 0, 96, .inl (fun _ => 0))), (a58_3, .inr (7, [.ref bits_62])), (bits_62, .inl (cy 0, 96, .inl (fun _ => (-1))))] H := hP
          have hD : va_D A [((x 30), .inl (cy 6, 10, .inr (.inr (.inr (.inr (fun _ => none)))))), ((x 0), .inr (10, [.int 0, .int (-1), .ref (x 1), .ref (x 9), .int 0, .ref (x 10), .ref (x 13), .ref (x 16), .ref (x 29), .int 0, .int 0, .ref (x 30), .int 0, .ref (x 31), .ref (x 42), .int 1, .int 1, .ref g_50, .ref (x 43)])), ((x 13), .inr (4, [.ref (x 14), .ref (x 15), .int 0, .ref (x 16)])), ((x 16), .inr (5, [.int 0, .ref (x 17), .ref (x 18), .ref (x 19), .ref (x 20), .ref (x 21), .int 0, .int 10, .int 20, .int 0, .int 0, .ref (x 22), .ref (x 23), .int 0, .ref (x 24), .ref (x 25), .ref (x 26), .ref (x 27), .ref (x 28)])), ((x 42), .inl (cy 7, 16, .inr (.inr (.inr (.inr (va_up (fun _ => none) (0) (some g_50))))))), ((x 31), .inr (6, [.ref (x 32), .ref (x 9), .ref (x 29), .int 0, .int 0, .int 10, .ref (x 36), .ref (x 37), .ref (x 38), .ref (x 39), .ref (x 40), .ref (x 41), .int 1])), ((x 32), .inr (9, [.ref (x 33), .ref (x 34), .ref (x 35), .int 0])), ((x 33), .inl (cy 0, 384, .inl (fun _ => 10))), ((x 34), .inl (cy 2, 384, .inr (.inl (fun _ => 0)))), ((x 35), .inl (cy 0, 96, .inl (fun _ => (-1)))), ((x 36), .inl (cy 0, 96, .inl (fun _ => 0))), ((x 38), .inl (cy 0, 96, .inl (fun _ => (-268435456)))), (g_50, .inr (1, [.int 0, .int 1, .int 1, .int 0, .long 0, .int 0, .int 0, .ref lo_50, .ref hi_50])), (lo_50, .inl (cy 0, 96, .inl (fun _ => 0))), (hi_50, .inl (cy 0, 96, .inl (fun _ => 0))), (a58_3, .inr (7, [.ref bits_62])), (bits_62, .inl (cy 0, 96, .inl (fun _ => (-1))))] := hD
          refine lv_astore (lv' := [(7, .ref a58_3), (6, .int (nI (12 * cl_10 + cx_10))), (5, .int (nI (12 * cl_2 + cx_2))), (0, .ref (x 0)), (1, .int (nI ax)), (2, .int (nI ay)), (3, .int (nI bx)), (4, .int (nI bw))]) S.1 S.2.1 dX11_sheet_65 hl (by decide) rfl (fun ls hl => ?_)
          refine lv_iload_n S.1 S.2.1 dX11_sheet_67 rfl (lv_at hl 5 rfl) ?_
          refine lv_istore (lv' := [(8, .int (nI ay)), (7, .ref a58_3), (6, .int (nI (12 * cl_10 + cx_10))), (5, .int (nI (12 * cl_2 + cx_2))), (0, .ref (x 0)), (1, .int (nI ax)), (2, .int (nI ay)), (3, .int (nI bx)), (4, .int (nI bw))]) S.1 S.2.1 dX11_sheet_68 hl (by decide) rfl (fun ls hl => ?_)
          refine loopN (σ := (Nat → Int32)) 70 (bw + 1 - ay) (fun k xs9 => [((x 30), .inl (cy 6, 10, .inr (.inr (.inr (.inr (fun _ => none)))))), ((x 0), .inr (10, [.int 0, .int (-1), .ref (x 1), .ref (x 9), .int 0, .ref (x 10), .ref (x 13), .ref (x 16), .ref (x 29), .int 0, .int 0, .ref (x 30), .int 0, .ref (x 31), .ref (x 42), .int 1, .int 1, .ref g_50, .ref (x 43)])), ((x 13), .inr (4, [.ref (x 14), .ref (x 15), .int 0, .ref (x 16)])), ((x 16), .inr (5, [.int 0, .ref (x 17), .ref (x 18), .ref (x 19), .ref (x 20), .ref (x 21), .int 0, .int 10, .int 20, .int 0, .int 0, .ref (x 22), .ref (x 23), .int 0, .ref (x 24), .ref (x 25), .ref (x 26), .ref (x 27), .ref (x 28)])), ((x 42), .inl (cy 7, 16, .inr (.inr (.inr (.inr (va_up (fun _ => none) (0) (some g_50))))))), ((x 31), .inr (6, [.ref (x 32), .ref (x 9), .ref (x 29), .int 0, .int 0, .int 10, .ref (x 36), .ref (x 37), .ref (x 38), .ref (x 39), .ref (x 40), .ref (x 41), .int 1])), ((x 32), .inr (9, [.ref (x 33), .ref (x 34), .ref (x 35), .int 0])), ((x 33), .inl (cy 0, 384, .inl (fun _ => 10))), ((x 34), .inl (cy 2, 384, .inr (.inl (fun _ => 0)))), ((x 35), .inl (cy 0, 96, .inl (fun _ => (-1)))), ((x 36), .inl (cy 0, 96, .inl (fun _ => 0))), ((x 38), .inl (cy 0, 96, .inl (fun _ => (-268435456)))), (g_50, .inr (1, [.int 0, .int 1, .int 1, .int 0, .long 0, .int 0, .int 0, .ref lo_50, .ref hi_50])), (lo_50, .inl (cy 0, 96, .inl (fun _ => 0))), (hi_50, .inl (cy 0, 96, .inl (fun _ => 0))), (a58_3, .inr (7, [.ref bits_62])), (bits_62, .inl (cy 0, 96, .inl (xs9)))]) (fun k xs9 => [(8, .int (nI (ay + k))), (7, .ref a58_3), (6, .int (nI (12 * cl_10 + cx_10))), (5, .int (nI (12 * cl_2 + cx_2))), (0, .ref (x 0)), (1, .int (nI ax)), (2, .int (nI ay)), (3, .int (nI bx)), (4, .int (nI bw))]) (fun k xs9 => True) (fun xs9 hJ H locs ls hP hD hS hl => ?_) (fun k xs9 hk hJ H locs ls hP hD hS hl ih => ?_) (fun _ => (-1)) trivial (hP.sub [0, 1, 2, 3, 4, 5, 6, 7, 8, 9, 10, 11, 12, 13, 14, 15, 16] rfl) (hD.sub [0, 1, 2, 3, 4, 5, 6, 7, 8, 9, 10, 11, 12, 13, 14, 15, 16] (by decide) rfl) hS (lv_sub hl [0, 1, 2, 3, 4, 5, 6, 7, 8] rfl)
          · obtain ⟨g, rfl⟩ : ∃ z, z = xs9 := ⟨_, rfl⟩
            have hP : va_P D vwCl [((x 30), .inl (cy 6, 10, .inr (.inr (.inr (.inr (fun _ => none)))))), ((x 0), .inr (10, [.int 0, .int (-1), .ref (x 1), .ref (x 9), .int 0, .ref (x 10), .ref (x 13), .ref (x 16), .ref (x 29), .int 0, .int 0, .ref (x 30), .int 0, .ref (x 31), .ref (x 42), .int 1, .int 1, .ref g_50, .ref (x 43)])), ((x 13), .inr (4, [.ref (x 14), .ref (x 15), .int 0, .ref (x 16)])), ((x 16), .inr (5, [.int 0, .ref (x 17), .ref (x 18), .ref (x 19), .ref (x 20), .ref (x 21), .int 0, .int 10, .int 20, .int 0, .int 0, .ref (x 22), .ref (x 23), .int 0, .ref (x 24), .ref (x 25), .ref (x 26), .ref (x 27), .ref (x 28)])), ((x 42), .inl (cy 7, 16, .inr (.inr (.inr (.inr (va_up (fun _ => none) (0) (some g_50))))))), ((x 31), .inr (6, [.ref (x 32), .ref (x 9), .ref (x 29), .int 0, .int 0, .int 10, .ref (x 36), .ref (x 37), .ref (x 38), .ref (x 39), .ref (x 40), .ref (x 41), .int 1])), ((x 32), .inr (9, [.ref (x 33), .ref (x 34), .ref (x 35), .int 0])), ((x 33), .inl (cy 0, 384, .inl (fun _ => 10))), ((x 34), .inl (cy 2, 384, .inr (.inl (fun _ => 0)))), ((x 35), .inl (cy 0, 96, .inl (fun _ => (-1)))), ((x 36), .inl (cy 0, 96, .inl (fun _ => 0))), ((x 38), .inl (cy 0, 96, .inl (fun _ => (-268435456)))), (g_50, .inr (1, [.int 0, .int 1, .int 1, .int 0, .long 0, .int 0, .int 0, .ref lo_50, .ref hi_50])), (lo_50, .inl (cy 0, 96, .inl (fun _ => 0))), (hi_50, .inl (cy 0, 96, .inl (fun _ => 0))), (a58_3, .inr (7, [.ref bits_62])), (bits_62, .inl (cy 0, 96, .inl g))] H := hP
            have hD : va_D A [((x 30), .inl (cy 6, 10, .inr (.inr (.inr (.inr (fun _ => none)))))), ((x 0), .inr (10, [.int 0, .int (-1), .ref (x 1), .ref (x 9), .int 0, .ref (x 10), .ref (x 13), .ref (x 16), .ref (x 29), .int 0, .int 0, .ref (x 30), .int 0, .ref (x 31), .ref (x 42), .int 1, .int 1, .ref g_50, .ref (x 43)])), ((x 13), .inr (4, [.ref (x 14), .ref (x 15), .int 0, .ref (x 16)])), ((x 16), .inr (5, [.int 0, .ref (x 17), .ref (x 18), .ref (x 19), .ref (x 20), .ref (x 21), .int 0, .int 10, .int 20, .int 0, .int 0, .ref (x 22), .ref (x 23), .int 0, .ref (x 24), .ref (x 25), .ref (x 26), .ref (x 27), .ref (x 28)])), ((x 42), .inl (cy 7, 16, .inr (.inr (.inr (.inr (va_up (fun _ => none) (0) (some g_50))))))), ((x 31), .inr (6, [.ref (x 32), .ref (x 9), .ref (x 29), .int 0, .int 0, .int 10, .ref (x 36), .ref (x 37), .ref (x 38), .ref (x 39), .ref (x 40), .ref (x 41), .int 1])), ((x 32), .inr (9, [.ref (x 33), .ref (x 34), .ref (x 35), .int 0])), ((x 33), .inl (cy 0, 384, .inl (fun _ => 10))), ((x 34), .inl (cy 2, 384, .inr (.inl (fun _ => 0)))), ((x 35), .inl (cy 0, 96, .inl (fun _ => (-1)))), ((x 36), .inl (cy 0, 96, .inl (fun _ => 0))), ((x 38), .inl (cy 0, 96, .inl (fun _ => (-268435456)))), (g_50, .inr (1, [.int 0, .int 1, .int 1, .int 0, .long 0, .int 0, .int 0, .ref lo_50, .ref hi_50])), (lo_50, .inl (cy 0, 96, .inl (fun _ => 0))), (hi_50, .inl (cy 0, 96, .inl (fun _ => 0))), (a58_3, .inr (7, [.ref bits_62])), (bits_62, .inl (cy 0, 96, .inl g))] := hD
            have hl : lv_has ls 11 [(8, .int (nI (ay + (bw + 1 - ay)))), (7, .ref a58_3), (6, .int (nI (12 * cl_10 + cx_10))), (5, .int (nI (12 * cl_2 + cx_2))), (0, .ref (x 0)), (1, .int (nI ax)), (2, .int (nI ay)), (3, .int (nI bx)), (4, .int (nI bw))] := hl
            refine lv_iload S.1 S.2.1 dX11_sheet_70 (lv_at hl 0 rfl) ?_
            refine lv_iload S.1 S.2.1 dX11_sheet_72 (lv_at hl 8 rfl) ?_
            refine r_icmp_gt S ((ay + (bw + 1 - ay) : Nat) : Int) (bw : Int) (nI_toInt (by omega)) (nI_toInt (by omega)) dX11_sheet_74 (tgt := 123) (by decide) (fun _ => ?_) (fun c => absurd c (by omega))
            refine lv_aload_n S.1 S.2.1 dX11_sheet_123 rfl (lv_at hl 4 rfl) ?_
            refine r_get S hK hP 1 10 rfl rfl inX11 11 (by decide) kw_479 (v := .ref (x 30)) rfl dX11_sheet_124 ?_
            refine lv_aload_n S.1 S.2.1 dX11_sheet_127 rfl (lv_at hl 4 rfl) ?_
            refine r_get S hK hP 1 10 rfl rfl inX11 12 (by decide) kw_480 (v := .int 0) rfl dX11_sheet_128 ?_
            refine lv_aload S.1 S.2.1 dX11_sheet_131 (lv_at hl 1 rfl) ?_
            refine r_aast S hK hP hD hS 0 6 15 7 rfl rfl rfl rfl (0) rfl (by decide) (by decide) dX11_sheet_133 (fun H locs hP hD hS => ?_)
            have hP : va_P D vwCl [((x 30), .inl (cy 6, 10, .inr (.inr (.inr (.inr (va_up (fun _ => none) (0) (some a58_3))))))), ((x 0), .inr (10, [.int 0, .int (-1), .ref (x 1), .ref (x 9), .int 0, .ref (x 10), .ref (x 13), .ref (x 16), .ref (x 29), .int 0, .int 0, .ref (x 30), .int 0, .ref (x 31), .ref (x 42), .int 1, .int 1, .ref g_50, .ref (x 43)])), ((x 13), .inr (4, [.ref (x 14), .ref (x 15), .int 0, .ref (x 16)])), ((x 16), .inr (5, [.int 0, .ref (x 17), .ref (x 18), .ref (x 19), .ref (x 20), .ref (x 21), .int 0, .int 10, .int 20, .int 0, .int 0, .ref (x 22), .ref (x 23), .int 0, .ref (x 24), .ref (x 25), .ref (x 26), .ref (x 27), .ref (x 28)])), ((x 42), .inl (cy 7, 16, .inr (.inr (.inr (.inr (va_up (fun _ => none) (0) (some g_50))))))), ((x 31), .inr (6, [.ref (x 32), .ref (x 9), .ref (x 29), .int 0, .int 0, .int 10, .ref (x 36), .ref (x 37), .ref (x 38), .ref (x 39), .ref (x 40), .ref (x 41), .int 1])), ((x 32), .inr (9, [.ref (x 33), .ref (x 34), .ref (x 35), .int 0])), ((x 33), .inl (cy 0, 384, .inl (fun _ => 10))), ((x 34), .inl (cy 2, 384, .inr (.inl (fun _ => 0)))), ((x 35), .inl (cy 0, 96, .inl (fun _ => (-1)))), ((x 36), .inl (cy 0, 96, .inl (fun _ => 0))), ((x 38), .inl (cy 0, 96, .inl (fun _ => (-268435456)))), (g_50, .inr (1, [.int 0, .int 1, .int 1, .int 0, .long 0, .int 0, .int 0, .ref lo_50, .ref hi_50])), (lo_50, .inl (cy 0, 96, .inl (fun _ => 0))), (hi_50, .inl (cy 0, 96, .inl (fun _ => 0))), (a58_3, .inr (7, [.ref bits_62])), (bits_62, .inl (cy 0, 96, .inl g))] H := hP
            have hD : va_D A [((x 30), .inl (cy 6, 10, .inr (.inr (.inr (.inr (va_up (fun _ => none) (0) (some a58_3))))))), ((x 0), .inr (10, [.int 0, .int (-1), .ref (x 1), .ref (x 9), .int 0, .ref (x 10), .ref (x 13), .ref (x 16), .ref (x 29), .int 0, .int 0, .ref (x 30), .int 0, .ref (x 31), .ref (x 42), .int 1, .int 1, .ref g_50, .ref (x 43)])), ((x 13), .inr (4, [.ref (x 14), .ref (x 15), .int 0, .ref (x 16)])), ((x 16), .inr (5, [.int 0, .ref (x 17), .ref (x 18), .ref (x 19), .ref (x 20), .ref (x 21), .int 0, .int 10, .int 20, .int 0, .int 0, .ref (x 22), .ref (x 23), .int 0, .ref (x 24), .ref (x 25), .ref (x 26), .ref (x 27), .ref (x 28)])), ((x 42), .inl (cy 7, 16, .inr (.inr (.inr (.inr (va_up (fun _ => none) (0) (some g_50))))))), ((x 31), .inr (6, [.ref (x 32), .ref (x 9), .ref (x 29), .int 0, .int 0, .int 10, .ref (x 36), .ref (x 37), .ref (x 38), .ref (x 39), .ref (x 40), .ref (x 41), .int 1])), ((x 32), .inr (9, [.ref (x 33), .ref (x 34), .ref (x 35), .int 0])), ((x 33), .inl (cy 0, 384, .inl (fun _ => 10))), ((x 34), .inl (cy 2, 384, .inr (.inl (fun _ => 0)))), ((x 35), .inl (cy 0, 96, .inl (fun _ => (-1)))), ((x 36), .inl (cy 0, 96, .inl (fun _ => 0))), ((x 38), .inl (cy 0, 96, .inl (fun _ => (-268435456)))), (g_50, .inr (1, [.int 0, .int 1, .int 1, .int 0, .long 0, .int 0, .int 0, .ref lo_50, .ref hi_50])), (lo_50, .inl (cy 0, 96, .inl (fun _ => 0))), (hi_50, .inl (cy 0, 96, .inl (fun _ => 0))), (a58_3, .inr (7, [.ref bits_62])), (bits_62, .inl (cy 0, 96, .inl g))] := hD
            refine lv_aload_n S.1 S.2.1 dX11_sheet_134 rfl (lv_at hl 4 rfl) ?_
            refine lv_dup S.1 S.2.1 dX11_sheet_135 rfl ?_
            refine r_get S hK hP 1 10 rfl rfl inX11 12 (by decide) kw_480 (v := .int 0) rfl dX11_sheet_136 ?_
            refine lv_dup_x1 S.1 S.2.1 dX11_sheet_139 rfl rfl ?_
            refine lv_iconst (v := 1) S.1 S.2.1 dX11_sheet_140 (by decide) ?_
            refine r_iadd S dX11_sheet_141 (v := 1) (by decide) ?_
            refine r_put S hK hP hD hS 1 10 rfl rfl inX11 12 (by decide) tyX11 tyX11_ok nmX11 kw_480 (v := .int 1) rfl rfl rfl (Nat.le_of_ble_eq_true rfl) dX11_sheet_142 (fun H locs hP hD hS => ?_)
            have hP : va_P D vwCl [((x 30), .inl (cy 6, 10, .inr (.inr (.inr (.inr (va_up (fun _ => none) (0) (some a58_3))))))), ((x 0), .inr (10, [.int 0, .int (-1), .ref (x 1), .ref (x 9), .int 0, .ref (x 10), .ref (x 13), .ref (x 16), .ref (x 29), .int 0, .int 0, .ref (x 30), .int 1, .ref (x 31), .ref (x 42), .int 1, .int 1, .ref g_50, .ref (x 43)])), ((x 13), .inr (4, [.ref (x 14), .ref (x 15), .int 0, .ref (x 16)])), ((x 16), .inr (5, [.int 0, .ref (x 17), .ref (x 18), .ref (x 19), .ref (x 20), .ref (x 21), .int 0, .int 10, .int 20, .int 0, .int 0, .ref (x 22), .ref (x 23), .int 0, .ref (x 24), .ref (x 25), .ref (x 26), .ref (x 27), .ref (x 28)])), ((x 42), .inl (cy 7, 16, .inr (.inr (.inr (.inr (va_up (fun _ => none) (0) (some g_50))))))), ((x 31), .inr (6, [.ref (x 32), .ref (x 9), .ref (x 29), .int 0, .int 0, .int 10, .ref (x 36), .ref (x 37), .ref (x 38), .ref (x 39), .ref (x 40), .ref (x 41), .int 1])), ((x 32), .inr (9, [.ref (x 33), .ref (x 34), .ref (x 35), .int 0])), ((x 33), .inl (cy 0, 384, .inl (fun _ => 10))), ((x 34), .inl (cy 2, 384, .inr (.inl (fun _ => 0)))), ((x 35), .inl (cy 0, 96, .inl (fun _ => (-1)))), ((x 36), .inl (cy 0, 96, .inl (fun _ => 0))), ((x 38), .inl (cy 0, 96, .inl (fun _ => (-268435456)))), (g_50, .inr (1, [.int 0, .int 1, .int 1, .int 0, .long 0, .int 0, .int 0, .ref lo_50, .ref hi_50])), (lo_50, .inl (cy 0, 96, .inl (fun _ => 0))), (hi_50, .inl (cy 0, 96, .inl (fun _ => 0))), (a58_3, .inr (7, [.ref bits_62])), (bits_62, .inl (cy 0, 96, .inl g))] H := hP
            have hD : va_D A [((x 30), .inl (cy 6, 10, .inr (.inr (.inr (.inr (va_up (fun _ => none) (0) (some a58_3))))))), ((x 0), .inr (10, [.int 0, .int (-1), .ref (x 1), .ref (x 9), .int 0, .ref (x 10), .ref (x 13), .ref (x 16), .ref (x 29), .int 0, .int 0, .ref (x 30), .int 1, .ref (x 31), .ref (x 42), .int 1, .int 1, .ref g_50, .ref (x 43)])), ((x 13), .inr (4, [.ref (x 14), .ref (x 15), .int 0, .ref (x 16)])), ((x 16), .inr (5, [.int 0, .ref (x 17), .ref (x 18), .ref (x 19), .ref (x 20), .ref (x 21), .int 0, .int 10, .int 20, .int 0, .int 0, .ref (x 22), .ref (x 23), .int 0, .ref (x 24), .ref (x 25), .ref (x 26), .ref (x 27), .ref (x 28)])), ((x 42), .inl (cy 7, 16, .inr (.inr (.inr (.inr (va_up (fun _ => none) (0) (some g_50))))))), ((x 31), .inr (6, [.ref (x 32), .ref (x 9), .ref (x 29), .int 0, .int 0, .int 10, .ref (x 36), .ref (x 37), .ref (x 38), .ref (x 39), .ref (x 40), .ref (x 41), .int 1])), ((x 32), .inr (9, [.ref (x 33), .ref (x 34), .ref (x 35), .int 0])), ((x 33), .inl (cy 0, 384, .inl (fun _ => 10))), ((x 34), .inl (cy 2, 384, .inr (.inl (fun _ => 0)))), ((x 35), .inl (cy 0, 96, .inl (fun _ => (-1)))), ((x 36), .inl (cy 0, 96, .inl (fun _ => 0))), ((x 38), .inl (cy 0, 96, .inl (fun _ => (-268435456)))), (g_50, .inr (1, [.int 0, .int 1, .int 1, .int 0, .long 0, .int 0, .int 0, .ref lo_50, .ref hi_50])), (lo_50, .inl (cy 0, 96, .inl (fun _ => 0))), (hi_50, .inl (cy 0, 96, .inl (fun _ => 0))), (a58_3, .inr (7, [.ref bits_62])), (bits_62, .inl (cy 0, 96, .inl g))] := hD
            exact ci_ret (u := ()) S hr hlk rfl hK (hP.sub [] rfl) (hD.sub [] (by decide) rfl) hS (Or.inl ⟨rfl, (by omega)⟩) (by decide) (by decide) dX11_sheet_145
          · obtain ⟨g, rfl⟩ : ∃ z, z = xs9 := ⟨_, rfl⟩
            have hP : va_P D vwCl [((x 30), .inl (cy 6, 10, .inr (.inr (.inr (.inr (fun _ => none)))))), ((x 0), .inr (10, [.int 0, .int (-1), .ref (x 1), .ref (x 9), .int 0, .ref (x 10), .ref (x 13), .ref (x 16), .ref (x 29), .int 0, .int 0, .ref (x 30), .int 0, .ref (x 31), .ref (x 42), .int 1, .int 1, .ref g_50, .ref (x 43)])), ((x 13), .inr (4, [.ref (x 14), .ref (x 15), .int 0, .ref (x 16)])), ((x 16), .inr (5, [.int 0, .ref (x 17), .ref (x 18), .ref (x 19), .ref (x 20), .ref (x 21), .int 0, .int 10, .int 20, .int 0, .int 0, .ref (x 22), .ref (x 23), .int 0, .ref (x 24), .ref (x 25), .ref (x 26), .ref (x 27), .ref (x 28)])), ((x 42), .inl (cy 7, 16, .inr (.inr (.inr (.inr (va_up (fun _ => none) (0) (some g_50))))))), ((x 31), .inr (6, [.ref (x 32), .ref (x 9), .ref (x 29), .int 0, .int 0, .int 10, .ref (x 36), .ref (x 37), .ref (x 38), .ref (x 39), .ref (x 40), .ref (x 41), .int 1])), ((x 32), .inr (9, [.ref (x 33), .ref (x 34), .ref (x 35), .int 0])), ((x 33), .inl (cy 0, 384, .inl (fun _ => 10))), ((x 34), .inl (cy 2, 384, .inr (.inl (fun _ => 0)))), ((x 35), .inl (cy 0, 96, .inl (fun _ => (-1)))), ((x 36), .inl (cy 0, 96, .inl (fun _ => 0))), ((x 38), .inl (cy 0, 96, .inl (fun _ => (-268435456)))), (g_50, .inr (1, [.int 0, .int 1, .int 1, .int 0, .long 0, .int 0, .int 0, .ref lo_50, .ref hi_50])), (lo_50, .inl (cy 0, 96, .inl (fun _ => 0))), (hi_50, .inl (cy 0, 96, .inl (fun _ => 0))), (a58_3, .inr (7, [.ref bits_62])), (bits_62, .inl (cy 0, 96, .inl g))] H := hP
            have hD : va_D A [((x 30), .inl (cy 6, 10, .inr (.inr (.inr (.inr (fun _ => none)))))), ((x 0), .inr (10, [.int 0, .int (-1), .ref (x 1), .ref (x 9), .int 0, .ref (x 10), .ref (x 13), .ref (x 16), .ref (x 29), .int 0, .int 0, .ref (x 30), .int 0, .ref (x 31), .ref (x 42), .int 1, .int 1, .ref g_50, .ref (x 43)])), ((x 13), .inr (4, [.ref (x 14), .ref (x 15), .int 0, .ref (x 16)])), ((x 16), .inr (5, [.int 0, .ref (x 17), .ref (x 18), .ref (x 19), .ref (x 20), .ref (x 21), .int 0, .int 10, .int 20, .int 0, .int 0, .ref (x 22), .ref (x 23), .int 0, .ref (x 24), .ref (x 25), .ref (x 26), .ref (x 27), .ref (x 28)])), ((x 42), .inl (cy 7, 16, .inr (.inr (.inr (.inr (va_up (fun _ => none) (0) (some g_50))))))), ((x 31), .inr (6, [.ref (x 32), .ref (x 9), .ref (x 29), .int 0, .int 0, .int 10, .ref (x 36), .ref (x 37), .ref (x 38), .ref (x 39), .ref (x 40), .ref (x 41), .int 1])), ((x 32), .inr (9, [.ref (x 33), .ref (x 34), .ref (x 35), .int 0])), ((x 33), .inl (cy 0, 384, .inl (fun _ => 10))), ((x 34), .inl (cy 2, 384, .inr (.inl (fun _ => 0)))), ((x 35), .inl (cy 0, 96, .inl (fun _ => (-1)))), ((x 36), .inl (cy 0, 96, .inl (fun _ => 0))), ((x 38), .inl (cy 0, 96, .inl (fun _ => (-268435456)))), (g_50, .inr (1, [.int 0, .int 1, .int 1, .int 0, .long 0, .int 0, .int 0, .ref lo_50, .ref hi_50])), (lo_50, .inl (cy 0, 96, .inl (fun _ => 0))), (hi_50, .inl (cy 0, 96, .inl (fun _ => 0))), (a58_3, .inr (7, [.ref bits_62])), (bits_62, .inl (cy 0, 96, .inl g))] := hD
            have hl : lv_has ls 11 [(8, .int (nI (ay + k))), (7, .ref a58_3), (6, .int (nI (12 * cl_10 + cx_10))), (5, .int (nI (12 * cl_2 + cx_2))), (0, .ref (x 0)), (1, .int (nI ax)), (2, .int (nI ay)), (3, .int (nI bx)), (4, .int (nI bw))] := hl
            refine lv_iload S.1 S.2.1 dX11_sheet_70 (lv_at hl 0 rfl) ?_
            refine lv_iload S.1 S.2.1 dX11_sheet_72 (lv_at hl 8 rfl) ?_
            refine r_icmp_gt S ((ay + k : Nat) : Int) (bw : Int) (nI_toInt (by omega)) (nI_toInt (by omega)) dX11_sheet_74 (tgt := 123) (by decide) (fun c => absurd c (by omega)) (fun _ => ?_)
            refine lv_iload_n S.1 S.2.1 dX11_sheet_77 rfl (lv_at hl 5 rfl) ?_
            refine lv_istore (lv' := [(9, .int (nI ax)), (8, .int (nI (ay + k))), (7, .ref a58_3), (6, .int (nI (12 * cl_10 + cx_10))), (5, .int (nI (12 * cl_2 + cx_2))), (0, .ref (x 0)), (1, .int (nI ax)), (2, .int (nI ay)), (3, .int (nI bx)), (4, .int (nI bw))]) S.1 S.2.1 dX11_sheet_78 hl (by decide) rfl (fun ls hl => ?_)
            refine loopN (σ := (Nat → Int32)) 80 (bx + 1 - ax) (fun k2 xs9 => [((x 30), .inl (cy 6, 10, .inr (.inr (.inr (.inr (fun _ => none)))))), ((x 0), .inr (10, [.int 0, .int (-1), .ref (x 1), .ref (x 9), .int 0, .ref (x 10), .ref (x 13), .ref (x 16), .ref (x 29), .int 0, .int 0, .ref (x 30), .int 0, .ref (x 31), .ref (x 42), .int 1, .int 1, .ref g_50, .ref (x 43)])), ((x 13), .inr (4, [.ref (x 14), .ref (x 15), .int 0, .ref (x 16)])), ((x 16), .inr (5, [.int 0, .ref (x 17), .ref (x 18), .ref (x 19), .ref (x 20), .ref (x 21), .int 0, .int 10, .int 20, .int 0, .int 0, .ref (x 22), .ref (x 23), .int 0, .ref (x 24), .ref (x 25), .ref (x 26), .ref (x 27), .ref (x 28)])), ((x 42), .inl (cy 7, 16, .inr (.inr (.inr (.inr (va_up (fun _ => none) (0) (some g_50))))))), ((x 31), .inr (6, [.ref (x 32), .ref (x 9), .ref (x 29), .int 0, .int 0, .int 10, .ref (x 36), .ref (x 37), .ref (x 38), .ref (x 39), .ref (x 40), .ref (x 41), .int 1])), ((x 32), .inr (9, [.ref (x 33), .ref (x 34), .ref (x 35), .int 0])), ((x 33), .inl (cy 0, 384, .inl (fun _ => 10))), ((x 34), .inl (cy 2, 384, .inr (.inl (fun _ => 0)))), ((x 35), .inl (cy 0, 96, .inl (fun _ => (-1)))), ((x 36), .inl (cy 0, 96, .inl (fun _ => 0))), ((x 38), .inl (cy 0, 96, .inl (fun _ => (-268435456)))), (g_50, .inr (1, [.int 0, .int 1, .int 1, .int 0, .long 0, .int 0, .int 0, .ref lo_50, .ref hi_50])), (lo_50, .inl (cy 0, 96, .inl (fun _ => 0))), (hi_50, .inl (cy 0, 96, .inl (fun _ => 0))), (a58_3, .inr (7, [.ref bits_62])), (bits_62, .inl (cy 0, 96, .inl (xs9)))]) (fun k2 xs9 => [(9, .int (nI (ax + k2))), (8, .int (nI (ay + k))), (7, .ref a58_3), (6, .int (nI (12 * cl_10 + cx_10))), (5, .int (nI (12 * cl_2 + cx_2))), (0, .ref (x 0)), (1, .int (nI ax)), (2, .int (nI ay)), (3, .int (nI bx)), (4, .int (nI bw))]) (fun k2 xs9 => True) (fun xs9 hJ2 H locs ls hP hD hS hl => ?_) (fun k2 xs9 hk2 hJ2 H locs ls hP hD hS hl ih2 => ?_) g trivial (hP.sub [0, 1, 2, 3, 4, 5, 6, 7, 8, 9, 10, 11, 12, 13, 14, 15, 16] rfl) (hD.sub [0, 1, 2, 3, 4, 5, 6, 7, 8, 9, 10, 11, 12, 13, 14, 15, 16] (by decide) rfl) hS (lv_sub hl [0, 1, 2, 3, 4, 5, 6, 7, 8, 9] rfl)
            · obtain ⟨gg, rfl⟩ : ∃ z, z = xs9 := ⟨_, rfl⟩
              have hP : va_P D vwCl [((x 30), .inl (cy 6, 10, .inr (.inr (.inr (.inr (fun _ => none)))))), ((x 0), .inr (10, [.int 0, .int (-1), .ref (x 1), .ref (x 9), .int 0, .ref (x 10), .ref (x 13), .ref (x 16), .ref (x 29), .int 0, .int 0, .ref (x 30), .int 0, .ref (x 31), .ref (x 42), .int 1, .int 1, .ref g_50, .ref (x 43)])), ((x 13), .inr (4, [.ref (x 14), .ref (x 15), .int 0, .ref (x 16)])), ((x 16), .inr (5, [.int 0, .ref (x 17), .ref (x 18), .ref (x 19), .ref (x 20), .ref (x 21), .int 0, .int 10, .int 20, .int 0, .int 0, .ref (x 22), .ref (x 23), .int 0, .ref (x 24), .ref (x 25), .ref (x 26), .ref (x 27), .ref (x 28)])), ((x 42), .inl (cy 7, 16, .inr (.inr (.inr (.inr (va_up (fun _ => none) (0) (some g_50))))))), ((x 31), .inr (6, [.ref (x 32), .ref (x 9), .ref (x 29), .int 0, .int 0, .int 10, .ref (x 36), .ref (x 37), .ref (x 38), .ref (x 39), .ref (x 40), .ref (x 41), .int 1])), ((x 32), .inr (9, [.ref (x 33), .ref (x 34), .ref (x 35), .int 0])), ((x 33), .inl (cy 0, 384, .inl (fun _ => 10))), ((x 34), .inl (cy 2, 384, .inr (.inl (fun _ => 0)))), ((x 35), .inl (cy 0, 96, .inl (fun _ => (-1)))), ((x 36), .inl (cy 0, 96, .inl (fun _ => 0))), ((x 38), .inl (cy 0, 96, .inl (fun _ => (-268435456)))), (g_50, .inr (1, [.int 0, .int 1, .int 1, .int 0, .long 0, .int 0, .int 0, .ref lo_50, .ref hi_50])), (lo_50, .inl (cy 0, 96, .inl (fun _ => 0))), (hi_50, .inl (cy 0, 96, .inl (fun _ => 0))), (a58_3, .inr (7, [.ref bits_62])), (bits_62, .inl (cy 0, 96, .inl gg))] H := hP
              have hD : va_D A [((x 30), .inl (cy 6, 10, .inr (.inr (.inr (.inr (fun _ => none)))))), ((x 0), .inr (10, [.int 0, .int (-1), .ref (x 1), .ref (x 9), .int 0, .ref (x 10), .ref (x 13), .ref (x 16), .ref (x 29), .int 0, .int 0, .ref (x 30), .int 0, .ref (x 31), .ref (x 42), .int 1, .int 1, .ref g_50, .ref (x 43)])), ((x 13), .inr (4, [.ref (x 14), .ref (x 15), .int 0, .ref (x 16)])), ((x 16), .inr (5, [.int 0, .ref (x 17), .ref (x 18), .ref (x 19), .ref (x 20), .ref (x 21), .int 0, .int 10, .int 20, .int 0, .int 0, .ref (x 22), .ref (x 23), .int 0, .ref (x 24), .ref (x 25), .ref (x 26), .ref (x 27), .ref (x 28)])), ((x 42), .inl (cy 7, 16, .inr (.inr (.inr (.inr (va_up (fun _ => none) (0) (some g_50))))))), ((x 31), .inr (6, [.ref (x 32), .ref (x 9), .ref (x 29), .int 0, .int 0, .int 10, .ref (x 36), .ref (x 37), .ref (x 38), .ref (x 39), .ref (x 40), .ref (x 41), .int 1])), ((x 32), .inr (9, [.ref (x 33), .ref (x 34), .ref (x 35), .int 0])), ((x 33), .inl (cy 0, 384, .inl (fun _ => 10))), ((x 34), .inl (cy 2, 384, .inr (.inl (fun _ => 0)))), ((x 35), .inl (cy 0, 96, .inl (fun _ => (-1)))), ((x 36), .inl (cy 0, 96, .inl (fun _ => 0))), ((x 38), .inl (cy 0, 96, .inl (fun _ => (-268435456)))), (g_50, .inr (1, [.int 0, .int 1, .int 1, .int 0, .long 0, .int 0, .int 0, .ref lo_50, .ref hi_50])), (lo_50, .inl (cy 0, 96, .inl (fun _ => 0))), (hi_50, .inl (cy 0, 96, .inl (fun _ => 0))), (a58_3, .inr (7, [.ref bits_62])), (bits_62, .inl (cy 0, 96, .inl gg))] := hD
              have hl : lv_has ls 11 [(9, .int (nI (ax + (bx + 1 - ax)))), (8, .int (nI (ay + k))), (7, .ref a58_3), (6, .int (nI (12 * cl_10 + cx_10))), (5, .int (nI (12 * cl_2 + cx_2))), (0, .ref (x 0)), (1, .int (nI ax)), (2, .int (nI ay)), (3, .int (nI bx)), (4, .int (nI bw))] := hl
              refine lv_iload S.1 S.2.1 dX11_sheet_80 (lv_at hl 0 rfl) ?_
              refine lv_iload_n S.1 S.2.1 dX11_sheet_82 rfl (lv_at hl 8 rfl) ?_
              refine r_icmp_gt S ((ax + (bx + 1 - ax) : Nat) : Int) (bx : Int) (nI_toInt (by omega)) (nI_toInt (by omega)) dX11_sheet_83 (tgt := 117) (by decide) (fun _ => ?_) (fun c => absurd c (by omega))
              refine lv_iinc (v := (nI ((ay + k) + 1))) (lv' := [(8, .int (nI ((ay + k) + 1))), (9, .int (nI (ax + (bx + 1 - ax)))), (7, .ref a58_3), (6, .int (nI (12 * cl_10 + cx_10))), (5, .int (nI (12 * cl_2 + cx_2))), (0, .ref (x 0)), (1, .int (nI ax)), (2, .int (nI ay)), (3, .int (nI bx)), (4, .int (nI bw))]) S.1 S.2.1 dX11_sheet_117 hl (k := 1) rfl (nI_1 (ay + k)) (by decide) rfl (fun ls hl => ?_)
              refine lv_goto (tgt := 70) S.1 S.2.1 dX11_sheet_120 (by decide) ?_
              exact ih gg _ _ _ trivial (hP.sub [0, 1, 2, 3, 4, 5, 6, 7, 8, 9, 10, 11, 12, 13, 14, 15, 16] rfl) (hD.sub [0, 1, 2, 3, 4, 5, 6, 7, 8, 9, 10, 11, 12, 13, 14, 15, 16] (by decide) rfl) hS (lv_sub hl [0, 2, 3, 4, 5, 6, 7, 8, 9] rfl)
            · obtain ⟨gg, rfl⟩ : ∃ z, z = xs9 := ⟨_, rfl⟩
              have hP : va_P D vwCl [((x 30), .inl (cy 6, 10, .inr (.inr (.inr (.inr (fun _ => none)))))), ((x 0), .inr (10, [.int 0, .int (-1), .ref (x 1), .ref (x 9), .int 0, .ref (x 10), .ref (x 13), .ref (x 16), .ref (x 29), .int 0, .int 0, .ref (x 30), .int 0, .ref (x 31), .ref (x 42), .int 1, .int 1, .ref g_50, .ref (x 43)])), ((x 13), .inr (4, [.ref (x 14), .ref (x 15), .int 0, .ref (x 16)])), ((x 16), .inr (5, [.int 0, .ref (x 17), .ref (x 18), .ref (x 19), .ref (x 20), .ref (x 21), .int 0, .int 10, .int 20, .int 0, .int 0, .ref (x 22), .ref (x 23), .int 0, .ref (x 24), .ref (x 25), .ref (x 26), .ref (x 27), .ref (x 28)])), ((x 42), .inl (cy 7, 16, .inr (.inr (.inr (.inr (va_up (fun _ => none) (0) (some g_50))))))), ((x 31), .inr (6, [.ref (x 32), .ref (x 9), .ref (x 29), .int 0, .int 0, .int 10, .ref (x 36), .ref (x 37), .ref (x 38), .ref (x 39), .ref (x 40), .ref (x 41), .int 1])), ((x 32), .inr (9, [.ref (x 33), .ref (x 34), .ref (x 35), .int 0])), ((x 33), .inl (cy 0, 384, .inl (fun _ => 10))), ((x 34), .inl (cy 2, 384, .inr (.inl (fun _ => 0)))), ((x 35), .inl (cy 0, 96, .inl (fun _ => (-1)))), ((x 36), .inl (cy 0, 96, .inl (fun _ => 0))), ((x 38), .inl (cy 0, 96, .inl (fun _ => (-268435456)))), (g_50, .inr (1, [.int 0, .int 1, .int 1, .int 0, .long 0, .int 0, .int 0, .ref lo_50, .ref hi_50])), (lo_50, .inl (cy 0, 96, .inl (fun _ => 0))), (hi_50, .inl (cy 0, 96, .inl (fun _ => 0))), (a58_3, .inr (7, [.ref bits_62])), (bits_62, .inl (cy 0, 96, .inl gg))] H := hP
              have hD : va_D A [((x 30), .inl (cy 6, 10, .inr (.inr (.inr (.inr (fun _ => none)))))), ((x 0), .inr (10, [.int 0, .int (-1), .ref (x 1), .ref (x 9), .int 0, .ref (x 10), .ref (x 13), .ref (x 16), .ref (x 29), .int 0, .int 0, .ref (x 30), .int 0, .ref (x 31), .ref (x 42), .int 1, .int 1, .ref g_50, .ref (x 43)])), ((x 13), .inr (4, [.ref (x 14), .ref (x 15), .int 0, .ref (x 16)])), ((x 16), .inr (5, [.int 0, .ref (x 17), .ref (x 18), .ref (x 19), .ref (x 20), .ref (x 21), .int 0, .int 10, .int 20, .int 0, .int 0, .ref (x 22), .ref (x 23), .int 0, .ref (x 24), .ref (x 25), .ref (x 26), .ref (x 27), .ref (x 28)])), ((x 42), .inl (cy 7, 16, .inr (.inr (.inr (.inr (va_up (fun _ => none) (0) (some g_50))))))), ((x 31), .inr (6, [.ref (x 32), .ref (x 9), .ref (x 29), .int 0, .int 0, .int 10, .ref (x 36), .ref (x 37), .ref (x 38), .ref (x 39), .ref (x 40), .ref (x 41), .int 1])), ((x 32), .inr (9, [.ref (x 33), .ref (x 34), .ref (x 35), .int 0])), ((x 33), .inl (cy 0, 384, .inl (fun _ => 10))), ((x 34), .inl (cy 2, 384, .inr (.inl (fun _ => 0)))), ((x 35), .inl (cy 0, 96, .inl (fun _ => (-1)))), ((x 36), .inl (cy 0, 96, .inl (fun _ => 0))), ((x 38), .inl (cy 0, 96, .inl (fun _ => (-268435456)))), (g_50, .inr (1, [.int 0, .int 1, .int 1, .int 0, .long 0, .int 0, .int 0, .ref lo_50, .ref hi_50])), (lo_50, .inl (cy 0, 96, .inl (fun _ => 0))), (hi_50, .inl (cy 0, 96, .inl (fun _ => 0))), (a58_3, .inr (7, [.ref bits_62])), (bits_62, .inl (cy 0, 96, .inl gg))] := hD
              have hl : lv_has ls 11 [(9, .int (nI (ax + k2))), (8, .int (nI (ay + k))), (7, .ref a58_3), (6, .int (nI (12 * cl_10 + cx_10))), (5, .int (nI (12 * cl_2 + cx_2))), (0, .ref (x 0)), (1, .int (nI ax)), (2, .int (nI ay)), (3, .int (nI bx)), (4, .int (nI bw))] := hl
              refine lv_iload S.1 S.2.1 dX11_sheet_80 (lv_at hl 0 rfl) ?_
              refine lv_iload_n S.1 S.2.1 dX11_sheet_82 rfl (lv_at hl 8 rfl) ?_
              refine r_icmp_gt S ((ax + k2 : Nat) : Int) (bx : Int) (nI_toInt (by omega)) (nI_toInt (by omega)) dX11_sheet_83 (tgt := 117) (by decide) (fun c => absurd c (by omega)) (fun _ => ?_)
              refine lv_bipush (v := 12) S.1 S.2.1 dX11_sheet_86 (by decide) ?_
              refine lv_iload S.1 S.2.1 dX11_sheet_88 (lv_at hl 1 rfl) ?_
              refine r_imul S dX11_sheet_90 (v := (nI (12 * (ay + k)))) (pk_mul (12) ((ay + k))) ?_
              refine lv_iload S.1 S.2.1 dX11_sheet_91 (lv_at hl 0 rfl) ?_
              refine r_iadd S dX11_sheet_93 (v := (nI ((12 * (ay + k)) + (ax + k2)))) (nI_add ((12 * (ay + k))) ((ax + k2))) ?_
              refine lv_istore (lv' := [(10, .int (nI ((12 * (ay + k)) + (ax + k2)))), (9, .int (nI (ax + k2))), (8, .int (nI (ay + k))), (7, .ref a58_3), (6, .int (nI (12 * cl_10 + cx_10))), (5, .int (nI (12 * cl_2 + cx_2))), (0, .ref (x 0)), (1, .int (nI ax)), (2, .int (nI ay)), (3, .int (nI bx)), (4, .int (nI bw))]) S.1 S.2.1 dX11_sheet_94 hl (by decide) rfl (fun ls hl => ?_)
              refine lv_aload S.1 S.2.1 dX11_sheet_96 (lv_at hl 3 rfl) ?_
              refine r_get S hK hP 15 7 rfl rfl inX7 0 (by decide) kw_1271 (v := .ref bits_62) rfl dX11_sheet_98 ?_
              refine lv_iload S.1 S.2.1 dX11_sheet_101 (lv_at hl 0 rfl) ?_
              refine lv_aload_n S.1 S.2.1 dX11_sheet_103 rfl (lv_at hl 6 rfl) ?_
              refine lv_iload S.1 S.2.1 dX11_sheet_104 (lv_at hl 0 rfl) ?_
              refine lv_iconst (v := 0) S.1 S.2.1 dX11_sheet_106 (by decide) ?_
              refine call_ri (runV_R (wc := [((x 0), .inr (10, [.int 0, .int (-1), .ref (x 1), .ref (x 9), .int 0, .ref (x 10), .ref (x 13), .ref (x 16), .ref (x 29), .int 0, .int 0, .ref (x 30), .int 0, .ref (x 31), .ref (x 42), .int 1, .int 1, .ref g_50, .ref (x 43)])), ((x 16), .inr (5, [.int 0, .ref (x 17), .ref (x 18), .ref (x 19), .ref (x 20), .ref (x 21), .int 0, .int 10, .int 20, .int 0, .int 0, .ref (x 22), .ref (x 23), .int 0, .ref (x 24), .ref (x 25), .ref (x 26), .ref (x 27), .ref (x 28)])), ((x 42), .inl (cy 7, 16, .inr (.inr (.inr (.inr (va_up (fun _ => none) (0) (some g_50))))))), (g_50, .inr (1, [.int 0, .int 1, .int 1, .int 0, .long 0, .int 0, .int 0, .ref lo_50, .ref hi_50]))]) (As := [.int (nI ((12 * (ay + k)) + (ax + k2))), .int 0]) (rest := [.int (nI ((12 * (ay + k)) + (ax + k2))), .ref bits_62]) S (kX11_mayLieByAll l D cy x g_50 lo_50 hi_50 (nI ((12 * (ay + k)) + (ax + k2))) 0 (((12 * (ay + k)) + (ax + k2) : Nat) : Int) (nI_toInt (by omega)) 0 rfl) hK hP [1, 3, 4, 12] rfl 0 10 rfl rfl kw_1180 kw_1182 kw_40 kw_144 kw_1183 okX11_mayLieByAll rfl (by decide) hl.1 rfl (Nat.le_of_ble_eq_true rfl) dX11_sheet_107 (by decide)) (fun v107 w107 => ?_)
              subst w107
              refine r_iast S hK hP hD hS 16 0 rfl rfl (((12 * (ay + k)) + (ax + k2))) rfl (by omega) (by decide) dX11_sheet_110 (fun H locs hP hD hS => ?_)
              have hP : va_P D vwCl [((x 30), .inl (cy 6, 10, .inr (.inr (.inr (.inr (fun _ => none)))))), ((x 0), .inr (10, [.int 0, .int (-1), .ref (x 1), .ref (x 9), .int 0, .ref (x 10), .ref (x 13), .ref (x 16), .ref (x 29), .int 0, .int 0, .ref (x 30), .int 0, .ref (x 31), .ref (x 42), .int 1, .int 1, .ref g_50, .ref (x 43)])), ((x 13), .inr (4, [.ref (x 14), .ref (x 15), .int 0, .ref (x 16)])), ((x 16), .inr (5, [.int 0, .ref (x 17), .ref (x 18), .ref (x 19), .ref (x 20), .ref (x 21), .int 0, .int 10, .int 20, .int 0, .int 0, .ref (x 22), .ref (x 23), .int 0, .ref (x 24), .ref (x 25), .ref (x 26), .ref (x 27), .ref (x 28)])), ((x 42), .inl (cy 7, 16, .inr (.inr (.inr (.inr (va_up (fun _ => none) (0) (some g_50))))))), ((x 31), .inr (6, [.ref (x 32), .ref (x 9), .ref (x 29), .int 0, .int 0, .int 10, .ref (x 36), .ref (x 37), .ref (x 38), .ref (x 39), .ref (x 40), .ref (x 41), .int 1])), ((x 32), .inr (9, [.ref (x 33), .ref (x 34), .ref (x 35), .int 0])), ((x 33), .inl (cy 0, 384, .inl (fun _ => 10))), ((x 34), .inl (cy 2, 384, .inr (.inl (fun _ => 0)))), ((x 35), .inl (cy 0, 96, .inl (fun _ => (-1)))), ((x 36), .inl (cy 0, 96, .inl (fun _ => 0))), ((x 38), .inl (cy 0, 96, .inl (fun _ => (-268435456)))), (g_50, .inr (1, [.int 0, .int 1, .int 1, .int 0, .long 0, .int 0, .int 0, .ref lo_50, .ref hi_50])), (lo_50, .inl (cy 0, 96, .inl (fun _ => 0))), (hi_50, .inl (cy 0, 96, .inl (fun _ => 0))), (a58_3, .inr (7, [.ref bits_62])), (bits_62, .inl (cy 0, 96, .inl (upd gg (((12 * (ay + k)) + (ax + k2))) 3072)))] H := hP
              have hD : va_D A [((x 30), .inl (cy 6, 10, .inr (.inr (.inr (.inr (fun _ => none)))))), ((x 0), .inr (10, [.int 0, .int (-1), .ref (x 1), .ref (x 9), .int 0, .ref (x 10), .ref (x 13), .ref (x 16), .ref (x 29), .int 0, .int 0, .ref (x 30), .int 0, .ref (x 31), .ref (x 42), .int 1, .int 1, .ref g_50, .ref (x 43)])), ((x 13), .inr (4, [.ref (x 14), .ref (x 15), .int 0, .ref (x 16)])), ((x 16), .inr (5, [.int 0, .ref (x 17), .ref (x 18), .ref (x 19), .ref (x 20), .ref (x 21), .int 0, .int 10, .int 20, .int 0, .int 0, .ref (x 22), .ref (x 23), .int 0, .ref (x 24), .ref (x 25), .ref (x 26), .ref (x 27), .ref (x 28)])), ((x 42), .inl (cy 7, 16, .inr (.inr (.inr (.inr (va_up (fun _ => none) (0) (some g_50))))))), ((x 31), .inr (6, [.ref (x 32), .ref (x 9), .ref (x 29), .int 0, .int 0, .int 10, .ref (x 36), .ref (x 37), .ref (x 38), .ref (x 39), .ref (x 40), .ref (x 41), .int 1])), ((x 32), .inr (9, [.ref (x 33), .ref (x 34), .ref (x 35), .int 0])), ((x 33), .inl (cy 0, 384, .inl (fun _ => 10))), ((x 34), .inl (cy 2, 384, .inr (.inl (fun _ => 0)))), ((x 35), .inl (cy 0, 96, .inl (fun _ => (-1)))), ((x 36), .inl (cy 0, 96, .inl (fun _ => 0))), ((x 38), .inl (cy 0, 96, .inl (fun _ => (-268435456)))), (g_50, .inr (1, [.int 0, .int 1, .int 1, .int 0, .long 0, .int 0, .int 0, .ref lo_50, .ref hi_50])), (lo_50, .inl (cy 0, 96, .inl (fun _ => 0))), (hi_50, .inl (cy 0, 96, .inl (fun _ => 0))), (a58_3, .inr (7, [.ref bits_62])), (bits_62, .inl (cy 0, 96, .inl (upd gg (((12 * (ay + k)) + (ax + k2))) 3072)))] := hD
              refine lv_iinc (v := (nI ((ax + k2) + 1))) (lv' := [(9, .int (nI ((ax + k2) + 1))), (10, .int (nI ((12 * (ay + k)) + (ax + k2)))), (8, .int (nI (ay + k))), (7, .ref a58_3), (6, .int (nI (12 * cl_10 + cx_10))), (5, .int (nI (12 * cl_2 + cx_2))), (0, .ref (x 0)), (1, .int (nI ax)), (2, .int (nI ay)), (3, .int (nI bx)), (4, .int (nI bw))]) S.1 S.2.1 dX11_sheet_111 hl (k := 1) rfl (nI_1 (ax + k2)) (by decide) rfl (fun ls hl => ?_)
              refine lv_goto (tgt := 80) S.1 S.2.1 dX11_sheet_114 (by decide) ?_
              exact ih2 (upd gg (((12 * (ay + k)) + (ax + k2))) 3072) _ _ _ trivial (hP.sub [0, 1, 2, 3, 4, 5, 6, 7, 8, 9, 10, 11, 12, 13, 14, 15, 16] rfl) (hD.sub [0, 1, 2, 3, 4, 5, 6, 7, 8, 9, 10, 11, 12, 13, 14, 15, 16] (by decide) rfl) hS (lv_sub hl [0, 2, 3, 4, 5, 6, 7, 8, 9, 10] rfl)
        · refine lv_iconst (v := (-1)) S.1 S.2.1 dX11_sheet_38 (by decide) ?_
          exact ci_ret (u := ()) S hr hlk rfl hK (hP.sub [] rfl) (hD.sub [] (by decide) rfl) hS (Or.inr (⟨rfl, (by omega)⟩)) (by decide) (by decide) dX11_sheet_39
