abbrev cX11_cellAt : ByteArray := prog_1_method_38_code
def yX11_cellAt : MethodName := ⟨RX11, "cellAt", "(II)I"⟩
theorem okX11_cellAt : yok yX11_cellAt 2 := by decide +kernel
theorem dX11_cellAt_0 : decode cX11_cellAt 0 = .ok (.iload_n 0, 1) := by decide +kernel
theorem dX11_cellAt_1 : decode cX11_cellAt 1 = .ok (.ifCond .lt 19, 3) := by decide +kernel
theorem dX11_cellAt_20 : decode cX11_cellAt 20 = .ok (.iconst (-1), 1) := by decide +kernel
theorem dX11_cellAt_21 : decode cX11_cellAt 21 = .ok (.ireturn, 1) := by decide +kernel
theorem dX11_cellAt_4 : decode cX11_cellAt 4 = .ok (.iload_n 0, 1) := by decide +kernel
theorem dX11_cellAt_5 : decode cX11_cellAt 5 = .ok (.bipush 12, 2) := by decide +kernel
theorem dX11_cellAt_7 : decode cX11_cellAt 7 = .ok (.if_icmp .ge 13, 3) := by decide +kernel
theorem dX11_cellAt_10 : decode cX11_cellAt 10 = .ok (.iload_n 1, 1) := by decide +kernel
theorem dX11_cellAt_11 : decode cX11_cellAt 11 = .ok (.ifCond .lt 9, 3) := by decide +kernel
theorem dX11_cellAt_14 : decode cX11_cellAt 14 = .ok (.iload_n 1, 1) := by decide +kernel
theorem dX11_cellAt_15 : decode cX11_cellAt 15 = .ok (.bipush 8, 2) := by decide +kernel
theorem dX11_cellAt_17 : decode cX11_cellAt 17 = .ok (.if_icmp .lt 5, 3) := by decide +kernel
theorem dX11_cellAt_22 : decode cX11_cellAt 22 = .ok (.bipush 12, 2) := by decide +kernel
theorem dX11_cellAt_24 : decode cX11_cellAt 24 = .ok (.iload_n 1, 1) := by decide +kernel
theorem dX11_cellAt_25 : decode cX11_cellAt 25 = .ok (.imul, 1) := by decide +kernel
theorem dX11_cellAt_26 : decode cX11_cellAt 26 = .ok (.iload_n 0, 1) := by decide +kernel
theorem dX11_cellAt_27 : decode cX11_cellAt 27 = .ok (.iadd, 1) := by decide +kernel
theorem dX11_cellAt_28 : decode cX11_cellAt 28 = .ok (.ireturn, 1) := by decide +kernel
abbrev cX11_neighbour : ByteArray := prog_1_method_39_code
def yX11_neighbour : MethodName := ⟨RX11, "neighbour", "(II)I"⟩
theorem okX11_neighbour : yok yX11_neighbour 2 := by decide +kernel
theorem dX11_neighbour_0 : decode cX11_neighbour 0 = .ok (.iload_n 1, 1) := by decide +kernel
theorem dX11_neighbour_1 : decode cX11_neighbour 1 = .ok (.tableswitch 93 0 3 #[31, 46, 63, 78], 31) := by decide +kernel
theorem dX11_neighbour_32 : decode cX11_neighbour 32 = .ok (.iload_n 0, 1) := by decide +kernel
theorem dX11_neighbour_33 : decode cX11_neighbour 33 = .ok (.bipush 12, 2) := by decide +kernel
theorem dX11_neighbour_35 : decode cX11_neighbour 35 = .ok (.irem, 1) := by decide +kernel
theorem dX11_neighbour_36 : decode cX11_neighbour 36 = .ok (.ifCond .le 9, 3) := by decide +kernel
theorem dX11_neighbour_45 : decode cX11_neighbour 45 = .ok (.iconst (-1), 1) := by decide +kernel
theorem dX11_neighbour_46 : decode cX11_neighbour 46 = .ok (.ireturn, 1) := by decide +kernel
theorem dX11_neighbour_39 : decode cX11_neighbour 39 = .ok (.iload_n 0, 1) := by decide +kernel
theorem dX11_neighbour_40 : decode cX11_neighbour 40 = .ok (.iconst 1, 1) := by decide +kernel
theorem dX11_neighbour_41 : decode cX11_neighbour 41 = .ok (.isub, 1) := by decide +kernel
theorem dX11_neighbour_42 : decode cX11_neighbour 42 = .ok (.goto 4, 3) := by decide +kernel
theorem dX11_neighbour_47 : decode cX11_neighbour 47 = .ok (.iload_n 0, 1) := by decide +kernel
theorem dX11_neighbour_48 : decode cX11_neighbour 48 = .ok (.bipush 12, 2) := by decide +kernel
theorem dX11_neighbour_50 : decode cX11_neighbour 50 = .ok (.irem, 1) := by decide +kernel
theorem dX11_neighbour_51 : decode cX11_neighbour 51 = .ok (.bipush 11, 2) := by decide +kernel
theorem dX11_neighbour_53 : decode cX11_neighbour 53 = .ok (.if_icmp .ge 9, 3) := by decide +kernel
theorem dX11_neighbour_62 : decode cX11_neighbour 62 = .ok (.iconst (-1), 1) := by decide +kernel
theorem dX11_neighbour_63 : decode cX11_neighbour 63 = .ok (.ireturn, 1) := by decide +kernel
theorem dX11_neighbour_56 : decode cX11_neighbour 56 = .ok (.iload_n 0, 1) := by decide +kernel
theorem dX11_neighbour_57 : decode cX11_neighbour 57 = .ok (.iconst 1, 1) := by decide +kernel
theorem dX11_neighbour_58 : decode cX11_neighbour 58 = .ok (.iadd, 1) := by decide +kernel
theorem dX11_neighbour_59 : decode cX11_neighbour 59 = .ok (.goto 4, 3) := by decide +kernel
theorem dX11_neighbour_64 : decode cX11_neighbour 64 = .ok (.iload_n 0, 1) := by decide +kernel
theorem dX11_neighbour_65 : decode cX11_neighbour 65 = .ok (.bipush 12, 2) := by decide +kernel
theorem dX11_neighbour_67 : decode cX11_neighbour 67 = .ok (.if_icmp .lt 10, 3) := by decide +kernel
theorem dX11_neighbour_77 : decode cX11_neighbour 77 = .ok (.iconst (-1), 1) := by decide +kernel
theorem dX11_neighbour_78 : decode cX11_neighbour 78 = .ok (.ireturn, 1) := by decide +kernel
theorem dX11_neighbour_70 : decode cX11_neighbour 70 = .ok (.iload_n 0, 1) := by decide +kernel
theorem dX11_neighbour_71 : decode cX11_neighbour 71 = .ok (.bipush 12, 2) := by decide +kernel
theorem dX11_neighbour_73 : decode cX11_neighbour 73 = .ok (.isub, 1) := by decide +kernel
theorem dX11_neighbour_74 : decode cX11_neighbour 74 = .ok (.goto 4, 3) := by decide +kernel
theorem dX11_neighbour_79 : decode cX11_neighbour 79 = .ok (.iload_n 0, 1) := by decide +kernel
theorem dX11_neighbour_80 : decode cX11_neighbour 80 = .ok (.bipush 84, 2) := by decide +kernel
theorem dX11_neighbour_82 : decode cX11_neighbour 82 = .ok (.if_icmp .ge 10, 3) := by decide +kernel
theorem dX11_neighbour_92 : decode cX11_neighbour 92 = .ok (.iconst (-1), 1) := by decide +kernel
theorem dX11_neighbour_93 : decode cX11_neighbour 93 = .ok (.ireturn, 1) := by decide +kernel
theorem dX11_neighbour_85 : decode cX11_neighbour 85 = .ok (.iload_n 0, 1) := by decide +kernel
theorem dX11_neighbour_86 : decode cX11_neighbour 86 = .ok (.bipush 12, 2) := by decide +kernel
theorem dX11_neighbour_88 : decode cX11_neighbour 88 = .ok (.iadd, 1) := by decide +kernel
theorem dX11_neighbour_89 : decode cX11_neighbour 89 = .ok (.goto 4, 3) := by decide +kernel
theorem dX11_neighbour_94 : decode cX11_neighbour 94 = .ok (.iconst (-1), 1) := by decide +kernel
theorem dX11_neighbour_95 : decode cX11_neighbour 95 = .ok (.ireturn, 1) := by decide +kernel
abbrev cX11_isSight : ByteArray := prog_1_method_40_code
def yX11_isSight : MethodName := ⟨RX11, "isSight", "(I)Z"⟩
theorem okX11_isSight : yok yX11_isSight 1 := by decide +kernel
theorem dX11_isSight_0 : decode cX11_isSight 0 = .ok (.iload_n 1, 1) := by decide +kernel
theorem dX11_isSight_1 : decode cX11_isSight 1 = .ok (.ifCond .lt 15, 3) := by decide +kernel
theorem dX11_isSight_16 : decode cX11_isSight 16 = .ok (.iconst 0, 1) := by decide +kernel
theorem dX11_isSight_17 : decode cX11_isSight 17 = .ok (.ireturn, 1) := by decide +kernel
theorem dX11_isSight_4 : decode cX11_isSight 4 = .ok (.iload_n 1, 1) := by decide +kernel
theorem dX11_isSight_5 : decode cX11_isSight 5 = .ok (.aload_n 0, 1) := by decide +kernel
theorem dX11_isSight_6 : decode cX11_isSight 6 = .ok (.getfield 102, 3) := by decide +kernel
theorem kw_472 : Cond.fieldLink "LandSurvey" 102 "LandSurvey" "sightCount" "I" ∈ uu := uu_in (i := 472) (by decide +kernel) (by decide +kernel)
theorem fk_LandSurvey_102 : fkI "LandSurvey" 102 10 4 RX11 TX11 19 := ⟨rfl, rfl, inX11, by decide, kw_472, by decide⟩
theorem dX11_isSight_9 : decode cX11_isSight 9 = .ok (.if_icmp .ge 7, 3) := by decide +kernel
theorem dX11_isSight_12 : decode cX11_isSight 12 = .ok (.iconst 1, 1) := by decide +kernel
theorem dX11_isSight_13 : decode cX11_isSight 13 = .ok (.goto 4, 3) := by decide +kernel
abbrev cX11_isSheet : ByteArray := prog_1_method_41_code
def yX11_isSheet : MethodName := ⟨RX11, "isSheet", "(I)Z"⟩
theorem okX11_isSheet : yok yX11_isSheet 1 := by decide +kernel
theorem dX11_isSheet_0 : decode cX11_isSheet 0 = .ok (.iload_n 1, 1) := by decide +kernel
theorem dX11_isSheet_1 : decode cX11_isSheet 1 = .ok (.ifCond .lt 15, 3) := by decide +kernel
theorem dX11_isSheet_16 : decode cX11_isSheet 16 = .ok (.iconst 0, 1) := by decide +kernel
theorem dX11_isSheet_17 : decode cX11_isSheet 17 = .ok (.ireturn, 1) := by decide +kernel
theorem dX11_isSheet_4 : decode cX11_isSheet 4 = .ok (.iload_n 1, 1) := by decide +kernel
theorem dX11_isSheet_5 : decode cX11_isSheet 5 = .ok (.aload_n 0, 1) := by decide +kernel
theorem dX11_isSheet_6 : decode cX11_isSheet 6 = .ok (.getfield 305, 3) := by decide +kernel
theorem kw_480 : Cond.fieldLink "LandSurvey" 305 "LandSurvey" "sheetCount" "I" ∈ uu := uu_in (i := 480) (by decide +kernel) (by decide +kernel)
theorem fk_LandSurvey_305 : fkI "LandSurvey" 305 10 12 RX11 TX11 19 := ⟨rfl, rfl, inX11, by decide, kw_480, by decide⟩
theorem dX11_isSheet_9 : decode cX11_isSheet 9 = .ok (.if_icmp .ge 7, 3) := by decide +kernel
theorem dX11_isSheet_12 : decode cX11_isSheet 12 = .ok (.iconst 1, 1) := by decide +kernel
theorem dX11_isSheet_13 : decode cX11_isSheet 13 = .ok (.goto 4, 3) := by decide +kernel
abbrev cX11_isHand : ByteArray := prog_1_method_44_code
def yX11_isHand : MethodName := ⟨RX11, "isHand", "(I)Z"⟩
theorem okX11_isHand : yok yX11_isHand 1 := by decide +kernel
theorem dX11_isHand_0 : decode cX11_isHand 0 = .ok (.iload_n 0, 1) := by decide +kernel
theorem dX11_isHand_1 : decode cX11_isHand 1 = .ok (.ifCond .lt 13, 3) := by decide +kernel
theorem dX11_isHand_14 : decode cX11_isHand 14 = .ok (.iconst 0, 1) := by decide +kernel
theorem dX11_isHand_15 : decode cX11_isHand 15 = .ok (.ireturn, 1) := by decide +kernel
theorem dX11_isHand_4 : decode cX11_isHand 4 = .ok (.iload_n 0, 1) := by decide +kernel
theorem dX11_isHand_5 : decode cX11_isHand 5 = .ok (.bipush 6, 2) := by decide +kernel
theorem dX11_isHand_7 : decode cX11_isHand 7 = .ok (.if_icmp .ge 7, 3) := by decide +kernel
theorem dX11_isHand_10 : decode cX11_isHand 10 = .ok (.iconst 1, 1) := by decide +kernel
theorem dX11_isHand_11 : decode cX11_isHand 11 = .ok (.goto 4, 3) := by decide +kernel
abbrev cX11_dayShown : ByteArray := prog_1_method_45_code
def yX11_dayShown : MethodName := ⟨RX11, "dayShown", "()I"⟩
theorem okX11_dayShown : yok yX11_dayShown 0 := by decide +kernel
theorem dX11_dayShown_0 : decode cX11_dayShown 0 = .ok (.aload_n 0, 1) := by decide +kernel
theorem dX11_dayShown_1 : decode cX11_dayShown 1 = .ok (.getfield 9, 3) := by decide +kernel
theorem kw_469 : Cond.fieldLink "LandSurvey" 9 "LandSurvey" "viewTold" "I" ∈ uu := uu_in (i := 469) (by decide +kernel) (by decide +kernel)
theorem fk_LandSurvey_9 : fkI "LandSurvey" 9 10 1 RX11 TX11 19 := ⟨rfl, rfl, inX11, by decide, kw_469, by decide⟩
theorem dX11_dayShown_4 : decode cX11_dayShown 4 = .ok (.iconst (-1), 1) := by decide +kernel
theorem dX11_dayShown_5 : decode cX11_dayShown 5 = .ok (.if_icmp .ne 10, 3) := by decide +kernel
theorem dX11_dayShown_15 : decode cX11_dayShown 15 = .ok (.aload_n 0, 1) := by decide +kernel
theorem dX11_dayShown_16 : decode cX11_dayShown 16 = .ok (.getfield 9, 3) := by decide +kernel
theorem dX11_dayShown_19 : decode cX11_dayShown 19 = .ok (.ireturn, 1) := by decide +kernel
theorem dX11_dayShown_8 : decode cX11_dayShown 8 = .ok (.aload_n 0, 1) := by decide +kernel
theorem dX11_dayShown_9 : decode cX11_dayShown 9 = .ok (.getfield 78, 3) := by decide +kernel
theorem kw_468 : Cond.fieldLink "LandSurvey" 78 "LandSurvey" "now" "I" ∈ uu := uu_in (i := 468) (by decide +kernel) (by decide +kernel)
theorem fk_LandSurvey_78 : fkI "LandSurvey" 78 10 0 RX11 TX11 19 := ⟨rfl, rfl, inX11, by decide, kw_468, by decide⟩
theorem dX11_dayShown_12 : decode cX11_dayShown 12 = .ok (.goto 7, 3) := by decide +kernel
abbrev cX11_days : ByteArray := prog_1_method_2_code
def yX11_days : MethodName := ⟨RX11, "days", "(I)I"⟩
theorem okX11_days : yok yX11_days 1 := by decide +kernel
theorem dX11_days_0 : decode cX11_days 0 = .ok (.iload_n 1, 1) := by decide +kernel
theorem dX11_days_1 : decode cX11_days 1 = .ok (.ifCond .lt 22, 3) := by decide +kernel
theorem dX11_days_23 : decode cX11_days 23 = .ok (.iconst (-1), 1) := by decide +kernel
theorem dX11_days_24 : decode cX11_days 24 = .ok (.ireturn, 1) := by decide +kernel
theorem dX11_days_4 : decode cX11_days 4 = .ok (.iload_n 1, 1) := by decide +kernel
theorem dX11_days_5 : decode cX11_days 5 = .ok (.sipush 1000, 3) := by decide +kernel
theorem dX11_days_8 : decode cX11_days 8 = .ok (.if_icmp .gt 15, 3) := by decide +kernel
theorem dX11_days_11 : decode cX11_days 11 = .ok (.aload_n 0, 1) := by decide +kernel
theorem dX11_days_12 : decode cX11_days 12 = .ok (.getfield 78, 3) := by decide +kernel
theorem dX11_days_15 : decode cX11_days 15 = .ok (.iload_n 1, 1) := by decide +kernel
theorem dX11_days_16 : decode cX11_days 16 = .ok (.iadd, 1) := by decide +kernel
theorem dX11_days_17 : decode cX11_days 17 = .ok (.sipush 9999, 3) := by decide +kernel
theorem dX11_days_20 : decode cX11_days 20 = .ok (.if_icmp .le 5, 3) := by decide +kernel
theorem dX11_days_25 : decode cX11_days 25 = .ok (.aload_n 0, 1) := by decide +kernel
theorem dX11_days_26 : decode cX11_days 26 = .ok (.dup, 1) := by decide +kernel
theorem dX11_days_27 : decode cX11_days 27 = .ok (.getfield 78, 3) := by decide +kernel
theorem dX11_days_30 : decode cX11_days 30 = .ok (.iload_n 1, 1) := by decide +kernel
theorem dX11_days_31 : decode cX11_days 31 = .ok (.iadd, 1) := by decide +kernel
theorem dX11_days_32 : decode cX11_days 32 = .ok (.putfield 78, 3) := by decide +kernel
theorem pk_LandSurvey_0 : pk RX11 TX11 19 0 tyX11 false := ⟨tyX11_ok, nmX11, rfl⟩
theorem dX11_days_35 : decode cX11_days 35 = .ok (.aload_n 0, 1) := by decide +kernel
theorem dX11_days_36 : decode cX11_days 36 = .ok (.getfield 78, 3) := by decide +kernel
theorem dX11_days_39 : decode cX11_days 39 = .ok (.ireturn, 1) := by decide +kernel
abbrev cX11_view : ByteArray := prog_1_method_3_code
def yX11_view : MethodName := ⟨RX11, "view", "(I)Z"⟩
theorem okX11_view : yok yX11_view 1 := by decide +kernel
theorem kw_483 : Cond.fieldLink "LandSurvey" 81 "LandSurvey" "settled" "Z" ∈ uu := uu_in (i := 483) (by decide +kernel) (by decide +kernel)
theorem fk_LandSurvey_81 : fkI "LandSurvey" 81 10 15 RX11 TX11 19 := ⟨rfl, rfl, inX11, by decide, kw_483, by decide⟩
theorem dX11_view_0 : decode cX11_view 0 = .ok (.iload_n 1, 1) := by decide +kernel
theorem dX11_view_1 : decode cX11_view 1 = .ok (.ifCond .lt 11, 3) := by decide +kernel
theorem dX11_view_12 : decode cX11_view 12 = .ok (.iconst 0, 1) := by decide +kernel
theorem dX11_view_13 : decode cX11_view 13 = .ok (.ireturn, 1) := by decide +kernel
theorem dX11_view_4 : decode cX11_view 4 = .ok (.iload_n 1, 1) := by decide +kernel
theorem dX11_view_5 : decode cX11_view 5 = .ok (.aload_n 0, 1) := by decide +kernel
theorem dX11_view_6 : decode cX11_view 6 = .ok (.getfield 78, 3) := by decide +kernel
theorem dX11_view_9 : decode cX11_view 9 = .ok (.if_icmp .le 5, 3) := by decide +kernel
theorem dX11_view_14 : decode cX11_view 14 = .ok (.aload_n 0, 1) := by decide +kernel
theorem dX11_view_15 : decode cX11_view 15 = .ok (.iload_n 1, 1) := by decide +kernel
theorem dX11_view_16 : decode cX11_view 16 = .ok (.aload_n 0, 1) := by decide +kernel
theorem dX11_view_17 : decode cX11_view 17 = .ok (.getfield 78, 3) := by decide +kernel
theorem dX11_view_20 : decode cX11_view 20 = .ok (.if_icmp .ne 7, 3) := by decide +kernel
theorem dX11_view_27 : decode cX11_view 27 = .ok (.iload_n 1, 1) := by decide +kernel
theorem dX11_view_28 : decode cX11_view 28 = .ok (.putfield 9, 3) := by decide +kernel
theorem pk_LandSurvey_1 : pk RX11 TX11 19 1 tyX11 false := ⟨tyX11_ok, nmX11, rfl⟩
theorem dX11_view_31 : decode cX11_view 31 = .ok (.aload_n 0, 1) := by decide +kernel
theorem dX11_view_32 : decode cX11_view 32 = .ok (.iconst 0, 1) := by decide +kernel
theorem dX11_view_33 : decode cX11_view 33 = .ok (.putfield 81, 3) := by decide +kernel
theorem pk_LandSurvey_15 : pk RX11 TX11 19 15 tyX11 false := ⟨tyX11_ok, nmX11, rfl⟩
theorem dX11_view_36 : decode cX11_view 36 = .ok (.iconst 1, 1) := by decide +kernel
theorem dX11_view_37 : decode cX11_view 37 = .ok (.ireturn, 1) := by decide +kernel
theorem dX11_view_23 : decode cX11_view 23 = .ok (.iconst (-1), 1) := by decide +kernel
theorem dX11_view_24 : decode cX11_view 24 = .ok (.goto 4, 3) := by decide +kernel
abbrev cX11_cell : ByteArray := prog_1_method_4_code
def yX11_cell : MethodName := ⟨RX11, "cell", "(IIIZ)Z"⟩
theorem okX11_cell : yok yX11_cell 4 := by decide +kernel
theorem dX11_cell_0 : decode cX11_cell 0 = .ok (.iload_n 1, 1) := by decide +kernel
theorem dX11_cell_1 : decode cX11_cell 1 = .ok (.iload_n 2, 1) := by decide +kernel
theorem dX11_cell_2 : decode cX11_cell 2 = .ok (.invokestatic 85, 3) := by decide +kernel
theorem kw_540 : Cond.code yX11_cellAt prog_1_method_38_code 2 (some .int) ∈ uu := uu_in (i := 540) (by decide +kernel) (by decide +kernel)
theorem kw_144 : Cond.initialized "LandSurvey" ∈ uu := uu_in (i := 144) (by decide +kernel) (by decide +kernel)
theorem kw_538 : Cond.methodLink "LandSurvey" 85 yX11_cellAt ∈ uu := uu_in (i := 538) (by decide +kernel) (by decide +kernel)
theorem kw_539 : Cond.static yX11_cellAt ∈ uu := uu_in (i := 539) (by decide +kernel) (by decide +kernel)
theorem lk_LandSurvey_85 : lkS "LandSurvey" 85 yX11_cellAt cX11_cellAt 2 (some .int) 2 := ⟨kw_538, kw_539, kw_144, kw_540, okX11_cellAt⟩
theorem dX11_cell_5 : decode cX11_cell 5 = .ok (.istore 5, 2) := by decide +kernel
theorem dX11_cell_7 : decode cX11_cell 7 = .ok (.iload 5, 2) := by decide +kernel
theorem dX11_cell_9 : decode cX11_cell 9 = .ok (.iconst (-1), 1) := by decide +kernel
theorem dX11_cell_10 : decode cX11_cell 10 = .ok (.if_icmp .eq 14, 3) := by decide +kernel
theorem dX11_cell_24 : decode cX11_cell 24 = .ok (.iconst 0, 1) := by decide +kernel
theorem dX11_cell_25 : decode cX11_cell 25 = .ok (.ireturn, 1) := by decide +kernel
theorem dX11_cell_13 : decode cX11_cell 13 = .ok (.iload_n 3, 1) := by decide +kernel
theorem dX11_cell_14 : decode cX11_cell 14 = .ok (.ifCond .lt 10, 3) := by decide +kernel
theorem dX11_cell_17 : decode cX11_cell 17 = .ok (.iload_n 3, 1) := by decide +kernel
theorem dX11_cell_18 : decode cX11_cell 18 = .ok (.sipush 999, 3) := by decide +kernel
theorem dX11_cell_21 : decode cX11_cell 21 = .ok (.if_icmp .le 5, 3) := by decide +kernel
theorem dX11_cell_26 : decode cX11_cell 26 = .ok (.aload_n 0, 1) := by decide +kernel
theorem dX11_cell_27 : decode cX11_cell 27 = .ok (.getfield 16, 3) := by decide +kernel
theorem kw_470 : Cond.fieldLink "LandSurvey" 16 "LandSurvey" "land" "LLandSurvey$Land;" ∈ uu := uu_in (i := 470) (by decide +kernel) (by decide +kernel)
theorem fk_LandSurvey_16 : fkR "LandSurvey" 16 10 2 RX11 TX11 19 := ⟨rfl, rfl, inX11, by decide, kw_470, by decide⟩
theorem dX11_cell_30 : decode cX11_cell 30 = .ok (.getfield 89, 3) := by decide +kernel
theorem kw_190 : Cond.fieldLink "LandSurvey" 89 "LandSurvey$Land" "height" "[I" ∈ uu := uu_in (i := 190) (by decide +kernel) (by decide +kernel)
theorem fk_LandSurvey_89 : fkR "LandSurvey" 89 2 0 RX2 TX2 9 := ⟨rfl, rfl, inX2, by decide, kw_190, by decide⟩
theorem dX11_cell_33 : decode cX11_cell 33 = .ok (.iload 5, 2) := by decide +kernel
theorem dX11_cell_35 : decode cX11_cell 35 = .ok (.iload_n 3, 1) := by decide +kernel
theorem dX11_cell_36 : decode cX11_cell 36 = .ok (.iastore, 1) := by decide +kernel
theorem dX11_cell_37 : decode cX11_cell 37 = .ok (.aload_n 0, 1) := by decide +kernel
theorem dX11_cell_38 : decode cX11_cell 38 = .ok (.getfield 16, 3) := by decide +kernel
theorem dX11_cell_41 : decode cX11_cell 41 = .ok (.getfield 92, 3) := by decide +kernel
theorem kw_192 : Cond.fieldLink "LandSurvey" 92 "LandSurvey$Land" "covered" "[Z" ∈ uu := uu_in (i := 192) (by decide +kernel) (by decide +kernel)
theorem fk_LandSurvey_92 : fkR "LandSurvey" 92 2 1 RX2 TX2 9 := ⟨rfl, rfl, inX2, by decide, kw_192, by decide⟩
theorem dX11_cell_44 : decode cX11_cell 44 = .ok (.iload 5, 2) := by decide +kernel
theorem dX11_cell_46 : decode cX11_cell 46 = .ok (.iload 4, 2) := by decide +kernel
theorem dX11_cell_48 : decode cX11_cell 48 = .ok (.ifCond .ne 7, 3) := by decide +kernel
theorem dX11_cell_55 : decode cX11_cell 55 = .ok (.iconst 0, 1) := by decide +kernel
theorem dX11_cell_56 : decode cX11_cell 56 = .ok (.bastore, 1) := by decide +kernel
theorem dX11_cell_57 : decode cX11_cell 57 = .ok (.aload_n 0, 1) := by decide +kernel
theorem dX11_cell_58 : decode cX11_cell 58 = .ok (.iconst 0, 1) := by decide +kernel
theorem dX11_cell_59 : decode cX11_cell 59 = .ok (.putfield 81, 3) := by decide +kernel
theorem dX11_cell_62 : decode cX11_cell 62 = .ok (.iconst 1, 1) := by decide +kernel
theorem dX11_cell_63 : decode cX11_cell 63 = .ok (.ireturn, 1) := by decide +kernel
theorem dX11_cell_51 : decode cX11_cell 51 = .ok (.iconst 1, 1) := by decide +kernel
theorem dX11_cell_52 : decode cX11_cell 52 = .ok (.goto 4, 3) := by decide +kernel
abbrev cX11_fold : ByteArray := prog_1_method_5_code
def yX11_fold : MethodName := ⟨RX11, "fold", "(IIZ)Z"⟩
theorem okX11_fold : yok yX11_fold 3 := by decide +kernel
theorem dX11_fold_0 : decode cX11_fold 0 = .ok (.iload_n 1, 1) := by decide +kernel
theorem dX11_fold_1 : decode cX11_fold 1 = .ok (.iload_n 2, 1) := by decide +kernel
theorem dX11_fold_2 : decode cX11_fold 2 = .ok (.invokestatic 85, 3) := by decide +kernel
theorem dX11_fold_5 : decode cX11_fold 5 = .ok (.istore 4, 2) := by decide +kernel
theorem dX11_fold_7 : decode cX11_fold 7 = .ok (.iload 4, 2) := by decide +kernel
theorem dX11_fold_9 : decode cX11_fold 9 = .ok (.iconst (-1), 1) := by decide +kernel
theorem dX11_fold_10 : decode cX11_fold 10 = .ok (.if_icmp .ne 5, 3) := by decide +kernel
theorem dX11_fold_15 : decode cX11_fold 15 = .ok (.aload_n 0, 1) := by decide +kernel
theorem dX11_fold_16 : decode cX11_fold 16 = .ok (.getfield 16, 3) := by decide +kernel
theorem dX11_fold_19 : decode cX11_fold 19 = .ok (.getfield 96, 3) := by decide +kernel
theorem kw_194 : Cond.fieldLink "LandSurvey" 96 "LandSurvey$Land" "turned" "[Z" ∈ uu := uu_in (i := 194) (by decide +kernel) (by decide +kernel)
theorem fk_LandSurvey_96 : fkR "LandSurvey" 96 2 2 RX2 TX2 9 := ⟨rfl, rfl, inX2, by decide, kw_194, by decide⟩
theorem dX11_fold_22 : decode cX11_fold 22 = .ok (.iload 4, 2) := by decide +kernel
theorem dX11_fold_24 : decode cX11_fold 24 = .ok (.iload_n 3, 1) := by decide +kernel
theorem dX11_fold_25 : decode cX11_fold 25 = .ok (.bastore, 1) := by decide +kernel
theorem dX11_fold_26 : decode cX11_fold 26 = .ok (.aload_n 0, 1) := by decide +kernel
theorem dX11_fold_27 : decode cX11_fold 27 = .ok (.iconst 0, 1) := by decide +kernel
theorem dX11_fold_28 : decode cX11_fold 28 = .ok (.putfield 81, 3) := by decide +kernel
theorem dX11_fold_31 : decode cX11_fold 31 = .ok (.iconst 1, 1) := by decide +kernel
theorem dX11_fold_32 : decode cX11_fold 32 = .ok (.ireturn, 1) := by decide +kernel
theorem dX11_fold_13 : decode cX11_fold 13 = .ok (.iconst 0, 1) := by decide +kernel
theorem dX11_fold_14 : decode cX11_fold 14 = .ok (.ireturn, 1) := by decide +kernel
abbrev cX11_own : ByteArray := prog_1_method_6_code
def yX11_own : MethodName := ⟨RX11, "own", "(III)Z"⟩
theorem okX11_own : yok yX11_own 3 := by decide +kernel
theorem dX11_own_0 : decode cX11_own 0 = .ok (.iload_n 1, 1) := by decide +kernel
theorem dX11_own_1 : decode cX11_own 1 = .ok (.iload_n 2, 1) := by decide +kernel
theorem dX11_own_2 : decode cX11_own 2 = .ok (.invokestatic 85, 3) := by decide +kernel
theorem dX11_own_5 : decode cX11_own 5 = .ok (.istore 4, 2) := by decide +kernel
theorem dX11_own_7 : decode cX11_own 7 = .ok (.iload 4, 2) := by decide +kernel
theorem dX11_own_9 : decode cX11_own 9 = .ok (.iconst (-1), 1) := by decide +kernel
theorem dX11_own_10 : decode cX11_own 10 = .ok (.if_icmp .eq 13, 3) := by decide +kernel
theorem dX11_own_23 : decode cX11_own 23 = .ok (.iconst 0, 1) := by decide +kernel
theorem dX11_own_24 : decode cX11_own 24 = .ok (.ireturn, 1) := by decide +kernel
theorem dX11_own_13 : decode cX11_own 13 = .ok (.iload_n 3, 1) := by decide +kernel
theorem dX11_own_14 : decode cX11_own 14 = .ok (.iconst (-1), 1) := by decide +kernel
theorem dX11_own_15 : decode cX11_own 15 = .ok (.if_icmp .lt 8, 3) := by decide +kernel
theorem dX11_own_18 : decode cX11_own 18 = .ok (.iload_n 3, 1) := by decide +kernel
theorem dX11_own_19 : decode cX11_own 19 = .ok (.iconst 4, 1) := by decide +kernel
theorem dX11_own_20 : decode cX11_own 20 = .ok (.if_icmp .lt 5, 3) := by decide +kernel
theorem dX11_own_25 : decode cX11_own 25 = .ok (.aload_n 0, 1) := by decide +kernel
theorem dX11_own_26 : decode cX11_own 26 = .ok (.getfield 16, 3) := by decide +kernel
theorem dX11_own_29 : decode cX11_own 29 = .ok (.getfield 99, 3) := by decide +kernel
theorem kw_196 : Cond.fieldLink "LandSurvey" 99 "LandSurvey$Land" "owner" "[I" ∈ uu := uu_in (i := 196) (by decide +kernel) (by decide +kernel)
theorem fk_LandSurvey_99 : fkR "LandSurvey" 99 2 3 RX2 TX2 9 := ⟨rfl, rfl, inX2, by decide, kw_196, by decide⟩
theorem dX11_own_32 : decode cX11_own 32 = .ok (.iload 4, 2) := by decide +kernel
theorem dX11_own_34 : decode cX11_own 34 = .ok (.iload_n 3, 1) := by decide +kernel
theorem dX11_own_35 : decode cX11_own 35 = .ok (.iastore, 1) := by decide +kernel
theorem dX11_own_36 : decode cX11_own 36 = .ok (.iconst 1, 1) := by decide +kernel
theorem dX11_own_37 : decode cX11_own 37 = .ok (.ireturn, 1) := by decide +kernel
abbrev cX11_rivalry : ByteArray := prog_1_method_14_code
def yX11_rivalry : MethodName := ⟨RX11, "rivalry", "(I)Z"⟩
theorem okX11_rivalry : yok yX11_rivalry 1 := by decide +kernel
theorem kw_478 : Cond.fieldLink "LandSurvey" 163 "LandSurvey" "margin" "I" ∈ uu := uu_in (i := 478) (by decide +kernel) (by decide +kernel)
theorem fk_LandSurvey_163 : fkI "LandSurvey" 163 10 10 RX11 TX11 19 := ⟨rfl, rfl, inX11, by decide, kw_478, by decide⟩
theorem dX11_rivalry_0 : decode cX11_rivalry 0 = .ok (.iload_n 1, 1) := by decide +kernel
theorem dX11_rivalry_1 : decode cX11_rivalry 1 = .ok (.ifCond .lt 10, 3) := by decide +kernel
theorem dX11_rivalry_11 : decode cX11_rivalry 11 = .ok (.iconst 0, 1) := by decide +kernel
theorem dX11_rivalry_12 : decode cX11_rivalry 12 = .ok (.ireturn, 1) := by decide +kernel
theorem dX11_rivalry_4 : decode cX11_rivalry 4 = .ok (.iload_n 1, 1) := by decide +kernel
theorem dX11_rivalry_5 : decode cX11_rivalry 5 = .ok (.sipush 999, 3) := by decide +kernel
theorem dX11_rivalry_8 : decode cX11_rivalry 8 = .ok (.if_icmp .le 5, 3) := by decide +kernel
theorem dX11_rivalry_13 : decode cX11_rivalry 13 = .ok (.aload_n 0, 1) := by decide +kernel
theorem dX11_rivalry_14 : decode cX11_rivalry 14 = .ok (.iload_n 1, 1) := by decide +kernel
theorem dX11_rivalry_15 : decode cX11_rivalry 15 = .ok (.putfield 163, 3) := by decide +kernel
theorem pk_LandSurvey_10 : pk RX11 TX11 19 10 tyX11 false := ⟨tyX11_ok, nmX11, rfl⟩
theorem dX11_rivalry_18 : decode cX11_rivalry 18 = .ok (.iconst 1, 1) := by decide +kernel
theorem dX11_rivalry_19 : decode cX11_rivalry 19 = .ok (.ireturn, 1) := by decide +kernel
abbrev cX1_doubts : ByteArray := prog_3_method_2_code
def yX1_doubts : MethodName := ⟨RX1, "doubts", "(I)Z"⟩
theorem okX1_doubts : yok yX1_doubts 1 := by decide +kernel
theorem dX1_doubts_0 : decode cX1_doubts 0 = .ok (.aload_n 0, 1) := by decide +kernel
theorem dX1_doubts_1 : decode cX1_doubts 1 = .ok (.getfield 22, 3) := by decide +kernel
theorem kw_1022 : Cond.fieldLink "LandSurvey$Ground" 22 "LandSurvey$Ground" "doubted" "J" ∈ uu := uu_in (i := 1022) (by decide +kernel) (by decide +kernel)
theorem fk_LandSurvey_Ground_22 : fkJ "LandSurvey$Ground" 22 1 4 RX1 TX1 9 := ⟨rfl, rfl, inX1, by decide, kw_1022, by decide⟩
theorem dX1_doubts_4 : decode cX1_doubts 4 = .ok (.iload_n 1, 1) := by decide +kernel
theorem dX1_doubts_5 : decode cX1_doubts 5 = .ok (.lshr, 1) := by decide +kernel
theorem dX1_doubts_6 : decode cX1_doubts 6 = .ok (.lconst 1, 1) := by decide +kernel
theorem dX1_doubts_7 : decode cX1_doubts 7 = .ok (.land, 1) := by decide +kernel
theorem dX1_doubts_8 : decode cX1_doubts 8 = .ok (.lconst 0, 1) := by decide +kernel
theorem dX1_doubts_9 : decode cX1_doubts 9 = .ok (.lcmp, 1) := by decide +kernel
theorem dX1_doubts_10 : decode cX1_doubts 10 = .ok (.ifCond .eq 7, 3) := by decide +kernel
theorem dX1_doubts_17 : decode cX1_doubts 17 = .ok (.iconst 0, 1) := by decide +kernel
theorem dX1_doubts_18 : decode cX1_doubts 18 = .ok (.ireturn, 1) := by decide +kernel
theorem dX1_doubts_13 : decode cX1_doubts 13 = .ok (.iconst 1, 1) := by decide +kernel
theorem dX1_doubts_14 : decode cX1_doubts 14 = .ok (.goto 4, 3) := by decide +kernel
abbrev cX8_isInView : ByteArray := prog_10_method_2_code
def yX8_isInView : MethodName := ⟨RX8, "isInView", "(I)Z"⟩
theorem okX8_isInView : yok yX8_isInView 1 := by decide +kernel
theorem dX8_isInView_0 : decode cX8_isInView 0 = .ok (.aload_n 0, 1) := by decide +kernel
theorem dX8_isInView_1 : decode cX8_isInView 1 = .ok (.getfield 45, 3) := by decide +kernel
theorem kw_569 : Cond.fieldLink "LandSurvey$Sight" 45 "LandSurvey$Sight" "day" "I" ∈ uu := uu_in (i := 569) (by decide +kernel) (by decide +kernel)
theorem fk_LandSurvey_Sight_45 : fkI "LandSurvey$Sight" 45 8 5 RX8 TX8 19 := ⟨rfl, rfl, inX8, by decide, kw_569, by decide⟩
theorem dX8_isInView_4 : decode cX8_isInView 4 = .ok (.iload_n 1, 1) := by decide +kernel
theorem dX8_isInView_5 : decode cX8_isInView 5 = .ok (.if_icmp .gt 23, 3) := by decide +kernel
theorem dX8_isInView_28 : decode cX8_isInView 28 = .ok (.iconst 0, 1) := by decide +kernel
theorem dX8_isInView_29 : decode cX8_isInView 29 = .ok (.ireturn, 1) := by decide +kernel
theorem dX8_isInView_8 : decode cX8_isInView 8 = .ok (.aload_n 0, 1) := by decide +kernel
theorem dX8_isInView_9 : decode cX8_isInView 9 = .ok (.getfield 9, 3) := by decide +kernel
theorem kw_570 : Cond.fieldLink "LandSurvey$Sight" 9 "LandSurvey$Sight" "withdrawn" "I" ∈ uu := uu_in (i := 570) (by decide +kernel) (by decide +kernel)
theorem fk_LandSurvey_Sight_9 : fkI "LandSurvey$Sight" 9 8 6 RX8 TX8 19 := ⟨rfl, rfl, inX8, by decide, kw_570, by decide⟩
theorem dX8_isInView_12 : decode cX8_isInView 12 = .ok (.iconst (-1), 1) := by decide +kernel
theorem dX8_isInView_13 : decode cX8_isInView 13 = .ok (.if_icmp .eq 11, 3) := by decide +kernel
theorem dX8_isInView_24 : decode cX8_isInView 24 = .ok (.iconst 1, 1) := by decide +kernel
theorem dX8_isInView_25 : decode cX8_isInView 25 = .ok (.goto 4, 3) := by decide +kernel
theorem dX8_isInView_16 : decode cX8_isInView 16 = .ok (.aload_n 0, 1) := by decide +kernel
theorem dX8_isInView_17 : decode cX8_isInView 17 = .ok (.getfield 9, 3) := by decide +kernel
theorem dX8_isInView_20 : decode cX8_isInView 20 = .ok (.iload_n 1, 1) := by decide +kernel
theorem dX8_isInView_21 : decode cX8_isInView 21 = .ok (.if_icmp .le 7, 3) := by decide +kernel
abbrev cX5_joined : ByteArray := prog_7_method_12_code
def yX5_joined : MethodName := ⟨RX5, "joined", "(III)I"⟩
theorem okX5_joined : yok yX5_joined 3 := by decide +kernel
theorem dX5_joined_0 : decode cX5_joined 0 = .ok (.iload_n 0, 1) := by decide +kernel
theorem dX5_joined_1 : decode cX5_joined 1 = .ok (.tableswitch 79 (-25) (-21) #[65, 54, 43, 39, 35], 35) := by decide +kernel
theorem dX5_joined_66 : decode cX5_joined 66 = .ok (.iload_n 1, 1) := by decide +kernel
theorem dX5_joined_67 : decode cX5_joined 67 = .ok (.ifCond .eq 11, 3) := by decide +kernel
theorem dX5_joined_78 : decode cX5_joined 78 = .ok (.iconst 0, 1) := by decide +kernel
theorem dX5_joined_79 : decode cX5_joined 79 = .ok (.ireturn, 1) := by decide +kernel
theorem dX5_joined_70 : decode cX5_joined 70 = .ok (.iload_n 2, 1) := by decide +kernel
theorem dX5_joined_71 : decode cX5_joined 71 = .ok (.ifCond .eq 7, 3) := by decide +kernel
theorem dX5_joined_74 : decode cX5_joined 74 = .ok (.iconst 1, 1) := by decide +kernel
theorem dX5_joined_75 : decode cX5_joined 75 = .ok (.goto 4, 3) := by decide +kernel
theorem dX5_joined_55 : decode cX5_joined 55 = .ok (.iload_n 1, 1) := by decide +kernel
theorem dX5_joined_56 : decode cX5_joined 56 = .ok (.iload_n 2, 1) := by decide +kernel
theorem dX5_joined_57 : decode cX5_joined 57 = .ok (.if_icmp .ne 7, 3) := by decide +kernel
theorem dX5_joined_64 : decode cX5_joined 64 = .ok (.iconst 0, 1) := by decide +kernel
theorem dX5_joined_65 : decode cX5_joined 65 = .ok (.ireturn, 1) := by decide +kernel
theorem dX5_joined_60 : decode cX5_joined 60 = .ok (.iconst 1, 1) := by decide +kernel
theorem dX5_joined_61 : decode cX5_joined 61 = .ok (.goto 4, 3) := by decide +kernel
theorem dX5_joined_44 : decode cX5_joined 44 = .ok (.iload_n 1, 1) := by decide +kernel
theorem dX5_joined_45 : decode cX5_joined 45 = .ok (.iload_n 2, 1) := by decide +kernel
theorem dX5_joined_46 : decode cX5_joined 46 = .ok (.if_icmp .ge 7, 3) := by decide +kernel
theorem dX5_joined_53 : decode cX5_joined 53 = .ok (.iconst 0, 1) := by decide +kernel
theorem dX5_joined_54 : decode cX5_joined 54 = .ok (.ireturn, 1) := by decide +kernel
theorem dX5_joined_49 : decode cX5_joined 49 = .ok (.iconst 1, 1) := by decide +kernel
theorem dX5_joined_50 : decode cX5_joined 50 = .ok (.goto 4, 3) := by decide +kernel
theorem dX5_joined_40 : decode cX5_joined 40 = .ok (.iload_n 1, 1) := by decide +kernel
theorem dX5_joined_41 : decode cX5_joined 41 = .ok (.iload_n 2, 1) := by decide +kernel
theorem dX5_joined_42 : decode cX5_joined 42 = .ok (.isub, 1) := by decide +kernel
theorem dX5_joined_43 : decode cX5_joined 43 = .ok (.ireturn, 1) := by decide +kernel
theorem dX5_joined_36 : decode cX5_joined 36 = .ok (.iload_n 1, 1) := by decide +kernel
theorem dX5_joined_37 : decode cX5_joined 37 = .ok (.iload_n 2, 1) := by decide +kernel
theorem dX5_joined_38 : decode cX5_joined 38 = .ok (.iadd, 1) := by decide +kernel
theorem dX5_joined_39 : decode cX5_joined 39 = .ok (.ireturn, 1) := by decide +kernel
theorem dX5_joined_80 : decode cX5_joined 80 = .ok (.iload_n 1, 1) := by decide +kernel
theorem dX5_joined_81 : decode cX5_joined 81 = .ok (.ifCond .ne 7, 3) := by decide +kernel
theorem dX5_joined_88 : decode cX5_joined 88 = .ok (.iconst 1, 1) := by decide +kernel
theorem dX5_joined_89 : decode cX5_joined 89 = .ok (.goto 4, 3) := by decide +kernel
theorem dX5_joined_93 : decode cX5_joined 93 = .ok (.ireturn, 1) := by decide +kernel
theorem dX5_joined_84 : decode cX5_joined 84 = .ok (.iload_n 2, 1) := by decide +kernel
theorem dX5_joined_85 : decode cX5_joined 85 = .ok (.ifCond .eq 7, 3) := by decide +kernel
theorem dX5_joined_92 : decode cX5_joined 92 = .ok (.iconst 0, 1) := by decide +kernel
def wr_k_X11_cellAt : List Nat := []
set_option maxRecDepth 100000 in
set_option maxHeartbeats 4000000 in
theorem k_X11_cellAt (l : Launch) (D : va_G) (cy : Nat → ClassId) (w : Nat → Nat) (z0 : Nat)  {h : Hp} {a0 : Int} {a1 : Int}  (O : Okh h) (fa0 : (-2147483648) ≤ a0 ∧ a0 ≤ 2147483647) (fa1 : (-2147483648) ≤ a1 ∧ a1 ≤ 2147483647) : MI l D cy w z0 yX11_cellAt cX11_cellAt 2 (some .int) 0 0 0 0 [.inl a0, .inl a1] h (fun v h1 => Okh h1 ∧ Fx wr_k_X11_cellAt h h1 ∧ ((-1) ≤ v ∧ v ≤ 95) ∧ (v = -1 ∨ (0 ≤ a0 ∧ a0 ≤ 11 ∧ 0 ≤ a1 ∧ a1 ≤ 7 ∧ v = 12 * a1 + a0))) := by
  refine hm_go (by decide +kernel) (Nat.le_of_ble_eq_true rfl) (fun p e s m below meth c C hr hn => ?_)
  refine g_iload_n C rfl 0 rfl dX11_cellAt_0 ?_
  refine g_if_lt C fa0 20 (by decide) dX11_cellAt_1 (fun q1 => ?_) (fun q2 => ?_)
  · have f3 : (-2147483648 : Int) ≤ a0 ∧ a0 ≤ (-1 : Int) := r_lt fa0 (il 0) q1 (by decide) (by decide)
    refine g_iconst C dX11_cellAt_20 ?_
    exact g_iret C hr rfl (iw (il (-1)) (by decide) (by decide)) ⟨O, Fx.rf, (iw (il (-1)) (by decide) (by decide)), (by omega)⟩ (by decide) (by decide) dX11_cellAt_21
  · have f4 : (0 : Int) ≤ a0 ∧ a0 ≤ (2147483647 : Int) := r_ge fa0 (il 0) q2 (by decide) (by decide)
    refine g_iload_n C rfl 0 rfl dX11_cellAt_4 ?_
    refine g_bipush C (by decide) dX11_cellAt_5 ?_
    refine g_icmp_ge C (iw f4 (by decide) (by decide)) (iw (il 12) (by decide) (by decide)) 20 (by decide) dX11_cellAt_7 (fun q5 => ?_) (fun q6 => ?_)
    · have f7 : (12 : Int) ≤ a0 ∧ a0 ≤ (2147483647 : Int) := r_ge f4 (il 12) q5 (by decide) (by decide)
      refine g_iconst C dX11_cellAt_20 ?_
      exact g_iret C hr rfl (iw (il (-1)) (by decide) (by decide)) ⟨O, Fx.rf, (iw (il (-1)) (by decide) (by decide)), (by omega)⟩ (by decide) (by decide) dX11_cellAt_21
    · have f8 : (0 : Int) ≤ a0 ∧ a0 ≤ (11 : Int) := r_lt f4 (il 12) q6 (by decide) (by decide)
      refine g_iload_n C rfl 1 rfl dX11_cellAt_10 ?_
      refine g_if_lt C fa1 20 (by decide) dX11_cellAt_11 (fun q9 => ?_) (fun q10 => ?_)
      · have f11 : (-2147483648 : Int) ≤ a1 ∧ a1 ≤ (-1 : Int) := r_lt fa1 (il 0) q9 (by decide) (by decide)
        refine g_iconst C dX11_cellAt_20 ?_
        exact g_iret C hr rfl (iw (il (-1)) (by decide) (by decide)) ⟨O, Fx.rf, (iw (il (-1)) (by decide) (by decide)), (by omega)⟩ (by decide) (by decide) dX11_cellAt_21
      · have f12 : (0 : Int) ≤ a1 ∧ a1 ≤ (2147483647 : Int) := r_ge fa1 (il 0) q10 (by decide) (by decide)
        refine g_iload_n C rfl 1 rfl dX11_cellAt_14 ?_
        refine g_bipush C (by decide) dX11_cellAt_15 ?_
        refine g_icmp_lt C (iw f12 (by decide) (by decide)) (iw (il 8) (by decide) (by decide)) 22 (by decide) dX11_cellAt_17 (fun q13 => ?_) (fun q14 => ?_)
        · have f15 : (0 : Int) ≤ a1 ∧ a1 ≤ (7 : Int) := r_lt f12 (il 8) q13 (by decide) (by decide)
          refine g_bipush C (by decide) dX11_cellAt_22 ?_
          refine g_iload_n C rfl 1 rfl dX11_cellAt_24 ?_
          have f16 : (0 : Int) ≤ (12 * a1) ∧ (12 * a1) ≤ (84 : Int) := ia_mul (by decide) f15 (by decide) (by decide)
          refine g_imul C dX11_cellAt_25 ?_
          refine g_iload_n C rfl 0 rfl dX11_cellAt_26 ?_
          have f17 : (0 : Int) ≤ ((12 * a1) + a0) ∧ ((12 * a1) + a0) ≤ (95 : Int) := ia_add f16 f8 (by decide) (by decide)
          refine g_iadd C dX11_cellAt_27 ?_
          exact g_iret C hr rfl (iw f17 (by decide) (by decide)) ⟨O, Fx.rf, (iw f17 (by decide) (by decide)), (by omega)⟩ (by decide) (by decide) dX11_cellAt_28
        · have f18 : (8 : Int) ≤ a1 ∧ a1 ≤ (2147483647 : Int) := r_ge f12 (il 8) q14 (by decide) (by decide)
          refine g_iconst C dX11_cellAt_20 ?_
          exact g_iret C hr rfl (iw (il (-1)) (by decide) (by decide)) ⟨O, Fx.rf, (iw (il (-1)) (by decide) (by decide)), (by omega)⟩ (by decide) (by decide) dX11_cellAt_21
def wr_k_X11_neighbour : List Nat := []
set_option maxRecDepth 100000 in
set_option maxHeartbeats 4000000 in
theorem k_X11_neighbour (l : Launch) (D : va_G) (cy : Nat → ClassId) (w : Nat → Nat) (z0 : Nat)  {h : Hp} {a0 : Int} {a1 : Int}  (O : Okh h) (fa0 : 0 ≤ a0 ∧ a0 ≤ 95) (fa1 : (-2147483648) ≤ a1 ∧ a1 ≤ 2147483647) : MI l D cy w z0 yX11_neighbour cX11_neighbour 2 (some .int) 0 0 0 0 [.inl a0, .inl a1] h (fun v h1 => Okh h1 ∧ Fx wr_k_X11_neighbour h h1 ∧ ((-1) ≤ v ∧ v ≤ 95)) := by
  refine hm_go (by decide +kernel) (Nat.le_of_ble_eq_true rfl) (fun p e s m below meth c C hr hn => ?_)
  refine g_iload_n C rfl 1 rfl dX11_neighbour_0 ?_
  rcases Classical.em (a1 = 0) with q1 | q2
  · refine g_tin (kv := 0) C q1 (by decide) 32 (by decide) (by decide) rfl (by decide) dX11_neighbour_1 ?_
    have f3 : (0 : Int) ≤ a1 ∧ a1 ≤ (0 : Int) := ii fa1 (r_eq (il 0) q1) (by decide) (by decide)
    refine g_iload_n C rfl 0 rfl dX11_neighbour_32 ?_
    refine g_bipush C (by decide) dX11_neighbour_33 ?_
    refine g_iremE (k := 12) C (iw fa0 (by decide) (by decide)) (by decide) (by decide) dX11_neighbour_35 ?_
    have f4 : (0 : Int) ≤ (a0 % 12) ∧ (a0 % 12) ≤ (11 : Int) := iv_rem (by decide) (by decide)
    refine g_if_le C (iw f4 (by decide) (by decide)) 45 (by decide) dX11_neighbour_36 (fun q5 => ?_) (fun q6 => ?_)
    · have f7 : (0 : Int) ≤ (a0 % 12) ∧ (a0 % 12) ≤ (0 : Int) := r_le f4 (il 0) q5 (by decide) (by decide)
      refine g_iconst C dX11_neighbour_45 ?_
      exact g_iret C hr rfl (iw (il (-1)) (by decide) (by decide)) ⟨O, Fx.rf, (iw (il (-1)) (by decide) (by decide))⟩ (by decide) (by decide) dX11_neighbour_46
    · have f8 : (1 : Int) ≤ (a0 % 12) ∧ (a0 % 12) ≤ (11 : Int) := r_gt f4 (il 0) q6 (by decide) (by decide)
      refine g_iload_n C rfl 0 rfl dX11_neighbour_39 ?_
      refine g_iconst C dX11_neighbour_40 ?_
      have f9 : (-1 : Int) ≤ (a0 - 1) ∧ (a0 - 1) ≤ (94 : Int) := ia_sub fa0 (il 1) (by decide) (by decide)
      refine g_isub C dX11_neighbour_41 ?_
      refine g_goto C 46 (by decide) dX11_neighbour_42 ?_
      exact g_iret C hr rfl (iw f9 (by decide) (by decide)) ⟨O, Fx.rf, (iw f9 (by decide) (by decide))⟩ (by decide) (by decide) dX11_neighbour_46
  · rcases Classical.em (a1 = 1) with q10 | q11
    · refine g_tin (kv := 1) C q10 (by decide) 47 (by decide) (by decide) rfl (by decide) dX11_neighbour_1 ?_
      have f12 : (1 : Int) ≤ a1 ∧ a1 ≤ (1 : Int) := ii fa1 (r_eq (il 1) q10) (by decide) (by decide)
      refine g_iload_n C rfl 0 rfl dX11_neighbour_47 ?_
      refine g_bipush C (by decide) dX11_neighbour_48 ?_
      refine g_iremE (k := 12) C (iw fa0 (by decide) (by decide)) (by decide) (by decide) dX11_neighbour_50 ?_
      have f13 : (0 : Int) ≤ (a0 % 12) ∧ (a0 % 12) ≤ (11 : Int) := iv_rem (by decide) (by decide)
      refine g_bipush C (by decide) dX11_neighbour_51 ?_
      refine g_icmp_ge C (iw f13 (by decide) (by decide)) (iw (il 11) (by decide) (by decide)) 62 (by decide) dX11_neighbour_53 (fun q14 => ?_) (fun q15 => ?_)
      · have f16 : (11 : Int) ≤ (a0 % 12) ∧ (a0 % 12) ≤ (11 : Int) := r_ge f13 (il 11) q14 (by decide) (by decide)
        refine g_iconst C dX11_neighbour_62 ?_
        exact g_iret C hr rfl (iw (il (-1)) (by decide) (by decide)) ⟨O, Fx.rf, (iw (il (-1)) (by decide) (by decide))⟩ (by decide) (by decide) dX11_neighbour_63
      · have f17 : (0 : Int) ≤ (a0 % 12) ∧ (a0 % 12) ≤ (10 : Int) := r_lt f13 (il 11) q15 (by decide) (by decide)
        refine g_iload_n C rfl 0 rfl dX11_neighbour_56 ?_
        refine g_iconst C dX11_neighbour_57 ?_
        have f18 : (1 : Int) ≤ (a0 + 1) ∧ (a0 + 1) ≤ (96 : Int) := ia_add fa0 (il 1) (by decide) (by decide)
        refine g_iadd C dX11_neighbour_58 ?_
        refine g_goto C 63 (by decide) dX11_neighbour_59 ?_
        exact g_iret C hr rfl (iw f18 (by decide) (by decide)) ⟨O, Fx.rf, (by omega)⟩ (by decide) (by decide) dX11_neighbour_63
    · rcases Classical.em (a1 = 2) with q19 | q20
      · refine g_tin (kv := 2) C q19 (by decide) 64 (by decide) (by decide) rfl (by decide) dX11_neighbour_1 ?_
        have f21 : (2 : Int) ≤ a1 ∧ a1 ≤ (2 : Int) := ii fa1 (r_eq (il 2) q19) (by decide) (by decide)
        refine g_iload_n C rfl 0 rfl dX11_neighbour_64 ?_
        refine g_bipush C (by decide) dX11_neighbour_65 ?_
        refine g_icmp_lt C (iw fa0 (by decide) (by decide)) (iw (il 12) (by decide) (by decide)) 77 (by decide) dX11_neighbour_67 (fun q22 => ?_) (fun q23 => ?_)
        · have f24 : (0 : Int) ≤ a0 ∧ a0 ≤ (11 : Int) := r_lt fa0 (il 12) q22 (by decide) (by decide)
          refine g_iconst C dX11_neighbour_77 ?_
          exact g_iret C hr rfl (iw (il (-1)) (by decide) (by decide)) ⟨O, Fx.rf, (iw (il (-1)) (by decide) (by decide))⟩ (by decide) (by decide) dX11_neighbour_78
        · have f25 : (12 : Int) ≤ a0 ∧ a0 ≤ (95 : Int) := r_ge fa0 (il 12) q23 (by decide) (by decide)
          refine g_iload_n C rfl 0 rfl dX11_neighbour_70 ?_
          refine g_bipush C (by decide) dX11_neighbour_71 ?_
          have f26 : (0 : Int) ≤ (a0 - 12) ∧ (a0 - 12) ≤ (83 : Int) := ia_sub f25 (il 12) (by decide) (by decide)
          refine g_isub C dX11_neighbour_73 ?_
          refine g_goto C 78 (by decide) dX11_neighbour_74 ?_
          exact g_iret C hr rfl (iw f26 (by decide) (by decide)) ⟨O, Fx.rf, (iw f26 (by decide) (by decide))⟩ (by decide) (by decide) dX11_neighbour_78
      · rcases Classical.em (a1 = 3) with q27 | q28
        · refine g_tin (kv := 3) C q27 (by decide) 79 (by decide) (by decide) rfl (by decide) dX11_neighbour_1 ?_
          have f29 : (3 : Int) ≤ a1 ∧ a1 ≤ (3 : Int) := ii fa1 (r_eq (il 3) q27) (by decide) (by decide)
          refine g_iload_n C rfl 0 rfl dX11_neighbour_79 ?_
          refine g_bipush C (by decide) dX11_neighbour_80 ?_
          refine g_icmp_ge C (iw fa0 (by decide) (by decide)) (iw (il 84) (by decide) (by decide)) 92 (by decide) dX11_neighbour_82 (fun q30 => ?_) (fun q31 => ?_)
          · have f32 : (84 : Int) ≤ a0 ∧ a0 ≤ (95 : Int) := r_ge fa0 (il 84) q30 (by decide) (by decide)
            refine g_iconst C dX11_neighbour_92 ?_
            exact g_iret C hr rfl (iw (il (-1)) (by decide) (by decide)) ⟨O, Fx.rf, (iw (il (-1)) (by decide) (by decide))⟩ (by decide) (by decide) dX11_neighbour_93
          · have f33 : (0 : Int) ≤ a0 ∧ a0 ≤ (83 : Int) := r_lt fa0 (il 84) q31 (by decide) (by decide)
            refine g_iload_n C rfl 0 rfl dX11_neighbour_85 ?_
            refine g_bipush C (by decide) dX11_neighbour_86 ?_
            have f34 : (12 : Int) ≤ (a0 + 12) ∧ (a0 + 12) ≤ (95 : Int) := ia_add f33 (il 12) (by decide) (by decide)
            refine g_iadd C dX11_neighbour_88 ?_
            refine g_goto C 93 (by decide) dX11_neighbour_89 ?_
            exact g_iret C hr rfl (iw f34 (by decide) (by decide)) ⟨O, Fx.rf, (iw f34 (by decide) (by decide))⟩ (by decide) (by decide) dX11_neighbour_93
        · refine g_tout C fa1 94 (by omega) (by decide) dX11_neighbour_1 ?_
          refine g_iconst C dX11_neighbour_94 ?_
          exact g_iret C hr rfl (iw (il (-1)) (by decide) (by decide)) ⟨O, Fx.rf, (iw (il (-1)) (by decide) (by decide))⟩ (by decide) (by decide) dX11_neighbour_95
def wr_k_X11_isSight : List Nat := []
set_option maxRecDepth 100000 in
set_option maxHeartbeats 4000000 in
theorem k_X11_isSight (l : Launch) (D : va_G) (cy : Nat → ClassId) (w : Nat → Nat) (z0 : Nat)  {h : Hp} {a0 : Nat} {a1 : Int}  (O : Okh h) (ta0 : Tg h a0 = 11) (fa1 : (-2147483648) ≤ a1 ∧ a1 ≤ 2147483647) : MI l D cy w z0 yX11_isSight cX11_isSight 2 (some .boolean) 0 0 0 0 [.inr (.inr a0), .inl a1] h (fun v h1 => Okh h1 ∧ Fx wr_k_X11_isSight h h1 ∧ (0 ≤ v ∧ v ≤ 1) ∧ (v = 1 → 0 ≤ a1 ∧ a1 < Iv h a0 4)) := by
  refine hm_go (by decide +kernel) (Nat.le_of_ble_eq_true rfl) (fun p e s m below meth c C hr hn => ?_)
  refine g_iload_n C rfl 1 rfl dX11_isSight_0 ?_
  refine g_if_lt C fa1 16 (by decide) dX11_isSight_1 (fun q1 => ?_) (fun q2 => ?_)
  · have f3 : (-2147483648 : Int) ≤ a1 ∧ a1 ≤ (-1 : Int) := r_lt fa1 (il 0) q1 (by decide) (by decide)
    refine g_iconst C dX11_isSight_16 ?_
    exact g_iret C hr (nar_z2 (iw (il 0) (by decide) (by decide))).1 (iw (il 0) (by decide) (by decide)) ⟨O, Fx.rf, (iw (il 0) (by decide) (by decide)), (by omega)⟩ (by decide) (by decide) dX11_isSight_17
  · have f4 : (0 : Int) ≤ a1 ∧ a1 ≤ (2147483647 : Int) := r_ge fa1 (il 0) q2 (by decide) (by decide)
    refine g_iload_n C rfl 1 rfl dX11_isSight_4 ?_
    refine g_aload_n C rfl 0 rfl dX11_isSight_5 ?_
    obtain ⟨v5, e6⟩ : ∃ z, Iv h a0 4 = z := ⟨_, rfl⟩
    have f7 := ok_I O ta0 rI_11_4 e6
    refine gf_I C fk_LandSurvey_102 rfl ta0 e6 dX11_isSight_6 ?_
    refine g_icmp_ge C (iw f4 (by decide) (by decide)) (iw f7 (by decide) (by decide)) 16 (by decide) dX11_isSight_9 (fun q8 => ?_) (fun q9 => ?_)
    · refine g_iconst C dX11_isSight_16 ?_
      exact g_iret C hr (nar_z2 (iw (il 0) (by decide) (by decide))).1 (iw (il 0) (by decide) (by decide)) ⟨O, Fx.rf, (iw (il 0) (by decide) (by decide)), (by omega)⟩ (by decide) (by decide) dX11_isSight_17
    · have f10 : (0 : Int) ≤ a1 ∧ a1 ≤ (39 : Int) := r_lt f4 f7 q9 (by decide) (by decide)
      have f11 : (1 : Int) ≤ v5 ∧ v5 ≤ (40 : Int) := r_gt f7 f4 q9 (by decide) (by decide)
      refine g_iconst C dX11_isSight_12 ?_
      refine g_goto C 17 (by decide) dX11_isSight_13 ?_
      exact g_iret C hr (nar_z2 (iw (il 1) (by decide) (by decide))).1 (iw (il 1) (by decide) (by decide)) ⟨O, Fx.rf, (iw (il 1) (by decide) (by decide)), (by omega)⟩ (by decide) (by decide) dX11_isSight_17
def wr_k_X11_isSheet : List Nat := []
set_option maxRecDepth 100000 in
set_option maxHeartbeats 4000000 in
theorem k_X11_isSheet (l : Launch) (D : va_G) (cy : Nat → ClassId) (w : Nat → Nat) (z0 : Nat)  {h : Hp} {a0 : Nat} {a1 : Int}  (O : Okh h) (ta0 : Tg h a0 = 11) (fa1 : (-2147483648) ≤ a1 ∧ a1 ≤ 2147483647) : MI l D cy w z0 yX11_isSheet cX11_isSheet 2 (some .boolean) 0 0 0 0 [.inr (.inr a0), .inl a1] h (fun v h1 => Okh h1 ∧ Fx wr_k_X11_isSheet h h1 ∧ (0 ≤ v ∧ v ≤ 1) ∧ (v = 1 → 0 ≤ a1 ∧ a1 < Iv h a0 12)) := by
  refine hm_go (by decide +kernel) (Nat.le_of_ble_eq_true rfl) (fun p e s m below meth c C hr hn => ?_)
  refine g_iload_n C rfl 1 rfl dX11_isSheet_0 ?_
  refine g_if_lt C fa1 16 (by decide) dX11_isSheet_1 (fun q1 => ?_) (fun q2 => ?_)
  · have f3 : (-2147483648 : Int) ≤ a1 ∧ a1 ≤ (-1 : Int) := r_lt fa1 (il 0) q1 (by decide) (by decide)
    refine g_iconst C dX11_isSheet_16 ?_
    exact g_iret C hr (nar_z2 (iw (il 0) (by decide) (by decide))).1 (iw (il 0) (by decide) (by decide)) ⟨O, Fx.rf, (iw (il 0) (by decide) (by decide)), (by omega)⟩ (by decide) (by decide) dX11_isSheet_17
  · have f4 : (0 : Int) ≤ a1 ∧ a1 ≤ (2147483647 : Int) := r_ge fa1 (il 0) q2 (by decide) (by decide)
    refine g_iload_n C rfl 1 rfl dX11_isSheet_4 ?_
    refine g_aload_n C rfl 0 rfl dX11_isSheet_5 ?_
    obtain ⟨v5, e6⟩ : ∃ z, Iv h a0 12 = z := ⟨_, rfl⟩
    have f7 := ok_I O ta0 rI_11_12 e6
    refine gf_I C fk_LandSurvey_305 rfl ta0 e6 dX11_isSheet_6 ?_
    refine g_icmp_ge C (iw f4 (by decide) (by decide)) (iw f7 (by decide) (by decide)) 16 (by decide) dX11_isSheet_9 (fun q8 => ?_) (fun q9 => ?_)
    · refine g_iconst C dX11_isSheet_16 ?_
      exact g_iret C hr (nar_z2 (iw (il 0) (by decide) (by decide))).1 (iw (il 0) (by decide) (by decide)) ⟨O, Fx.rf, (iw (il 0) (by decide) (by decide)), (by omega)⟩ (by decide) (by decide) dX11_isSheet_17
    · have f10 : (0 : Int) ≤ a1 ∧ a1 ≤ (9 : Int) := r_lt f4 f7 q9 (by decide) (by decide)
      have f11 : (1 : Int) ≤ v5 ∧ v5 ≤ (10 : Int) := r_gt f7 f4 q9 (by decide) (by decide)
      refine g_iconst C dX11_isSheet_12 ?_
      refine g_goto C 17 (by decide) dX11_isSheet_13 ?_
      exact g_iret C hr (nar_z2 (iw (il 1) (by decide) (by decide))).1 (iw (il 1) (by decide) (by decide)) ⟨O, Fx.rf, (iw (il 1) (by decide) (by decide)), (by omega)⟩ (by decide) (by decide) dX11_isSheet_17
def wr_k_X11_isHand : List Nat := []
set_option maxRecDepth 100000 in
set_option maxHeartbeats 4000000 in
theorem k_X11_isHand (l : Launch) (D : va_G) (cy : Nat → ClassId) (w : Nat → Nat) (z0 : Nat)  {h : Hp} {a0 : Int}  (O : Okh h) (fa0 : (-2147483648) ≤ a0 ∧ a0 ≤ 2147483647) : MI l D cy w z0 yX11_isHand cX11_isHand 1 (some .boolean) 0 0 0 0 [.inl a0] h (fun v h1 => Okh h1 ∧ Fx wr_k_X11_isHand h h1 ∧ (0 ≤ v ∧ v ≤ 1)) := by
  refine hm_go (by decide +kernel) (Nat.le_of_ble_eq_true rfl) (fun p e s m below meth c C hr hn => ?_)
  refine g_iload_n C rfl 0 rfl dX11_isHand_0 ?_
  refine g_if_lt C fa0 14 (by decide) dX11_isHand_1 (fun q1 => ?_) (fun q2 => ?_)
  · have f3 : (-2147483648 : Int) ≤ a0 ∧ a0 ≤ (-1 : Int) := r_lt fa0 (il 0) q1 (by decide) (by decide)
    refine g_iconst C dX11_isHand_14 ?_
    exact g_iret C hr (nar_z2 (iw (il 0) (by decide) (by decide))).1 (iw (il 0) (by decide) (by decide)) ⟨O, Fx.rf, (iw (il 0) (by decide) (by decide))⟩ (by decide) (by decide) dX11_isHand_15
  · have f4 : (0 : Int) ≤ a0 ∧ a0 ≤ (2147483647 : Int) := r_ge fa0 (il 0) q2 (by decide) (by decide)
    refine g_iload_n C rfl 0 rfl dX11_isHand_4 ?_
    refine g_bipush C (by decide) dX11_isHand_5 ?_
    refine g_icmp_ge C (iw f4 (by decide) (by decide)) (iw (il 6) (by decide) (by decide)) 14 (by decide) dX11_isHand_7 (fun q5 => ?_) (fun q6 => ?_)
    · have f7 : (6 : Int) ≤ a0 ∧ a0 ≤ (2147483647 : Int) := r_ge f4 (il 6) q5 (by decide) (by decide)
      refine g_iconst C dX11_isHand_14 ?_
      exact g_iret C hr (nar_z2 (iw (il 0) (by decide) (by decide))).1 (iw (il 0) (by decide) (by decide)) ⟨O, Fx.rf, (iw (il 0) (by decide) (by decide))⟩ (by decide) (by decide) dX11_isHand_15
    · have f8 : (0 : Int) ≤ a0 ∧ a0 ≤ (5 : Int) := r_lt f4 (il 6) q6 (by decide) (by decide)
      refine g_iconst C dX11_isHand_10 ?_
      refine g_goto C 15 (by decide) dX11_isHand_11 ?_
      exact g_iret C hr (nar_z2 (iw (il 1) (by decide) (by decide))).1 (iw (il 1) (by decide) (by decide)) ⟨O, Fx.rf, (iw (il 1) (by decide) (by decide))⟩ (by decide) (by decide) dX11_isHand_15
def wr_k_X11_dayShown : List Nat := []
set_option maxRecDepth 100000 in
set_option maxHeartbeats 4000000 in
theorem k_X11_dayShown (l : Launch) (D : va_G) (cy : Nat → ClassId) (w : Nat → Nat) (z0 : Nat)  {h : Hp} {a0 : Nat}  (O : Okh h) (ta0 : Tg h a0 = 11) : MI l D cy w z0 yX11_dayShown cX11_dayShown 1 (some .int) 0 0 0 0 [.inr (.inr a0)] h (fun v h1 => Okh h1 ∧ Fx wr_k_X11_dayShown h h1 ∧ (0 ≤ v ∧ v ≤ 9999)) := by
  refine hm_go (by decide +kernel) (Nat.le_of_ble_eq_true rfl) (fun p e s m below meth c C hr hn => ?_)
  refine g_aload_n C rfl 0 rfl dX11_dayShown_0 ?_
  obtain ⟨v1, e2⟩ : ∃ z, Iv h a0 1 = z := ⟨_, rfl⟩
  have f3 := ok_I O ta0 rI_11_1 e2
  refine gf_I C fk_LandSurvey_9 rfl ta0 e2 dX11_dayShown_1 ?_
  refine g_iconst C dX11_dayShown_4 ?_
  refine g_icmp_ne C (iw f3 (by decide) (by decide)) (iw (il (-1)) (by decide) (by decide)) 15 (by decide) dX11_dayShown_5 (fun q4 => ?_) (fun q5 => ?_)
  · have f6 : (0 : Int) ≤ v1 ∧ v1 ≤ (9999 : Int) := r_nl f3 q4
    refine g_aload_n C rfl 0 rfl dX11_dayShown_15 ?_
    refine gf_I C fk_LandSurvey_9 rfl ta0 e2 dX11_dayShown_16 ?_
    exact g_iret C hr rfl (iw f6 (by decide) (by decide)) ⟨O, Fx.rf, f6⟩ (by decide) (by decide) dX11_dayShown_19
  · have f7 : (-1 : Int) ≤ v1 ∧ v1 ≤ (-1 : Int) := ii f3 (r_eq (il (-1)) q5) (by decide) (by decide)
    refine g_aload_n C rfl 0 rfl dX11_dayShown_8 ?_
    obtain ⟨v8, e9⟩ : ∃ z, Iv h a0 0 = z := ⟨_, rfl⟩
    have f10 := ok_I O ta0 rI_11_0 e9
    refine gf_I C fk_LandSurvey_78 rfl ta0 e9 dX11_dayShown_9 ?_
    refine g_goto C 19 (by decide) dX11_dayShown_12 ?_
    exact g_iret C hr rfl (iw f10 (by decide) (by decide)) ⟨O, Fx.rf, f10⟩ (by decide) (by decide) dX11_dayShown_19
def wr_k_X11_days : List Nat := [2200]
set_option maxRecDepth 100000 in
set_option maxHeartbeats 4000000 in
theorem k_X11_days (l : Launch) (D : va_G) (cy : Nat → ClassId) (w : Nat → Nat) (z0 : Nat)  {h : Hp} {a0 : Nat} {a1 : Int}  (O : Okh h) (ta0 : Tg h a0 = 11) (fa1 : (-2147483648) ≤ a1 ∧ a1 ≤ 2147483647) : MI l D cy w z0 yX11_days cX11_days 2 (some .int) 0 0 0 0 [.inr (.inr a0), .inl a1] h (fun v h1 => Okh h1 ∧ Fx wr_k_X11_days h h1 ∧ ((-1) ≤ v ∧ v ≤ 9999)) := by
  refine hm_go (by decide +kernel) (Nat.le_of_ble_eq_true rfl) (fun p e s m below meth c C hr hn => ?_)
  refine g_iload_n C rfl 1 rfl dX11_days_0 ?_
  refine g_if_lt C fa1 23 (by decide) dX11_days_1 (fun q1 => ?_) (fun q2 => ?_)
  · have f3 : (-2147483648 : Int) ≤ a1 ∧ a1 ≤ (-1 : Int) := r_lt fa1 (il 0) q1 (by decide) (by decide)
    refine g_iconst C dX11_days_23 ?_
    exact g_iret C hr rfl (iw (il (-1)) (by decide) (by decide)) ⟨O, Fx.rf, (iw (il (-1)) (by decide) (by decide))⟩ (by decide) (by decide) dX11_days_24
  · have f4 : (0 : Int) ≤ a1 ∧ a1 ≤ (2147483647 : Int) := r_ge fa1 (il 0) q2 (by decide) (by decide)
    refine g_iload_n C rfl 1 rfl dX11_days_4 ?_
    refine g_sipush C (by decide) dX11_days_5 ?_
    refine g_icmp_gt C (iw f4 (by decide) (by decide)) (iw (il 1000) (by decide) (by decide)) 23 (by decide) dX11_days_8 (fun q5 => ?_) (fun q6 => ?_)
    · have f7 : (1001 : Int) ≤ a1 ∧ a1 ≤ (2147483647 : Int) := r_gt f4 (il 1000) q5 (by decide) (by decide)
      refine g_iconst C dX11_days_23 ?_
      exact g_iret C hr rfl (iw (il (-1)) (by decide) (by decide)) ⟨O, Fx.rf, (iw (il (-1)) (by decide) (by decide))⟩ (by decide) (by decide) dX11_days_24
    · have f8 : (0 : Int) ≤ a1 ∧ a1 ≤ (1000 : Int) := r_le f4 (il 1000) q6 (by decide) (by decide)
      refine g_aload_n C rfl 0 rfl dX11_days_11 ?_
      obtain ⟨v9, e10⟩ : ∃ z, Iv h a0 0 = z := ⟨_, rfl⟩
      have f11 := ok_I O ta0 rI_11_0 e10
      refine gf_I C fk_LandSurvey_78 rfl ta0 e10 dX11_days_12 ?_
      refine g_iload_n C rfl 1 rfl dX11_days_15 ?_
      have f12 : (0 : Int) ≤ (v9 + a1) ∧ (v9 + a1) ≤ (10999 : Int) := ia_add f11 f8 (by decide) (by decide)
      refine g_iadd C dX11_days_16 ?_
      refine g_sipush C (by decide) dX11_days_17 ?_
      refine g_icmp_le C (iw f12 (by decide) (by decide)) (iw (il 9999) (by decide) (by decide)) 25 (by decide) dX11_days_20 (fun q13 => ?_) (fun q14 => ?_)
      · have f15 : (0 : Int) ≤ (v9 + a1) ∧ (v9 + a1) ≤ (9999 : Int) := r_le f12 (il 9999) q13 (by decide) (by decide)
        refine g_aload_n C rfl 0 rfl dX11_days_25 ?_
        refine g_dup C rfl dX11_days_26 ?_
        refine gf_I C fk_LandSurvey_78 rfl ta0 e10 dX11_days_27 ?_
        refine g_iload_n C rfl 1 rfl dX11_days_30 ?_
        refine g_iadd C dX11_days_31 ?_
        refine gp_I C fk_LandSurvey_78 pk_LandSurvey_0 rfl ta0 (iw f15 (by decide) (by decide)) (nf_i _) dX11_days_32 (fun h17 hh16 => ?_)
        have O18 := O.pI ta0 hh16 rI_11_0 f15 nofun
        refine g_aload_n C rfl 0 rfl dX11_days_35 ?_
        have e19 : Tg h17 a0 = 11 := ((pIT hh16).trans ta0)
        refine gf_I C fk_LandSurvey_78 rfl e19 (pI_e hh16) dX11_days_36 ?_
        exact g_iret C hr rfl (iw f15 (by decide) (by decide)) ⟨O18, ((Fx.rf (wr := wr_k_X11_days)).pI ta0 hh16 rfl), (iw f15 (by decide) (by decide))⟩ (by decide) (by decide) dX11_days_39
      · have f20 : (10000 : Int) ≤ (v9 + a1) ∧ (v9 + a1) ≤ (10999 : Int) := r_gt f12 (il 9999) q14 (by decide) (by decide)
        refine g_iconst C dX11_days_23 ?_
        exact g_iret C hr rfl (iw (il (-1)) (by decide) (by decide)) ⟨O, Fx.rf, (iw (il (-1)) (by decide) (by decide))⟩ (by decide) (by decide) dX11_days_24
def wr_k_X11_view : List Nat := [2201, 2215]
set_option maxRecDepth 100000 in
set_option maxHeartbeats 4000000 in
theorem k_X11_view (l : Launch) (D : va_G) (cy : Nat → ClassId) (w : Nat → Nat) (z0 : Nat)  {h : Hp} {a0 : Nat} {a1 : Int}  (O : Okh h) (ta0 : Tg h a0 = 11) (fa1 : (-2147483648) ≤ a1 ∧ a1 ≤ 2147483647) : MI l D cy w z0 yX11_view cX11_view 2 (some .boolean) 0 0 0 0 [.inr (.inr a0), .inl a1] h (fun v h1 => Okh h1 ∧ Fx wr_k_X11_view h h1 ∧ (0 ≤ v ∧ v ≤ 1)) := by
  refine hm_go (by decide +kernel) (Nat.le_of_ble_eq_true rfl) (fun p e s m below meth c C hr hn => ?_)
  refine g_iload_n C rfl 1 rfl dX11_view_0 ?_
  refine g_if_lt C fa1 12 (by decide) dX11_view_1 (fun q1 => ?_) (fun q2 => ?_)
  · have f3 : (-2147483648 : Int) ≤ a1 ∧ a1 ≤ (-1 : Int) := r_lt fa1 (il 0) q1 (by decide) (by decide)
    refine g_iconst C dX11_view_12 ?_
    exact g_iret C hr (nar_z2 (iw (il 0) (by decide) (by decide))).1 (iw (il 0) (by decide) (by decide)) ⟨O, Fx.rf, (iw (il 0) (by decide) (by decide))⟩ (by decide) (by decide) dX11_view_13
  · have f4 : (0 : Int) ≤ a1 ∧ a1 ≤ (2147483647 : Int) := r_ge fa1 (il 0) q2 (by decide) (by decide)
    refine g_iload_n C rfl 1 rfl dX11_view_4 ?_
    refine g_aload_n C rfl 0 rfl dX11_view_5 ?_
    obtain ⟨v5, e6⟩ : ∃ z, Iv h a0 0 = z := ⟨_, rfl⟩
    have f7 := ok_I O ta0 rI_11_0 e6
    refine gf_I C fk_LandSurvey_78 rfl ta0 e6 dX11_view_6 ?_
    refine g_icmp_le C (iw f4 (by decide) (by decide)) (iw f7 (by decide) (by decide)) 14 (by decide) dX11_view_9 (fun q8 => ?_) (fun q9 => ?_)
    · have f10 : (0 : Int) ≤ a1 ∧ a1 ≤ (9999 : Int) := r_le f4 f7 q8 (by decide) (by decide)
      refine g_aload_n C rfl 0 rfl dX11_view_14 ?_
      refine g_iload_n C rfl 1 rfl dX11_view_15 ?_
      refine g_aload_n C rfl 0 rfl dX11_view_16 ?_
      refine gf_I C fk_LandSurvey_78 rfl ta0 e6 dX11_view_17 ?_
      refine g_icmp_ne C (iw f10 (by decide) (by decide)) (iw f7 (by decide) (by decide)) 27 (by decide) dX11_view_20 (fun q11 => ?_) (fun q12 => ?_)
      · refine g_iload_n C rfl 1 rfl dX11_view_27 ?_
        refine gp_I C fk_LandSurvey_9 pk_LandSurvey_1 rfl ta0 (iw f10 (by decide) (by decide)) (nf_i _) dX11_view_28 (fun h14 hh13 => ?_)
        have O15 := O.pI ta0 hh13 rI_11_1 (iw f10 (by decide) (by decide)) nofun
        refine g_aload_n C rfl 0 rfl dX11_view_31 ?_
        refine g_iconst C dX11_view_32 ?_
        have e16 : Tg h14 a0 = 11 := ((pIT hh13).trans ta0)
        refine gp_I C fk_LandSurvey_81 pk_LandSurvey_15 rfl e16 (iw (il 0) (by decide) (by decide)) (nar_z2 (iw (il 0) (by decide) (by decide))) dX11_view_33 (fun h18 hh17 => ?_)
        have O19 := O15.pI e16 hh17 rI_11_15 (iw (il 0) (by decide) (by decide)) nofun
        refine g_iconst C dX11_view_36 ?_
        exact g_iret C hr (nar_z2 (iw (il 1) (by decide) (by decide))).1 (iw (il 1) (by decide) (by decide)) ⟨O19, (((Fx.rf (wr := wr_k_X11_view)).pI ta0 hh13 rfl).pI e16 hh17 rfl), (iw (il 1) (by decide) (by decide))⟩ (by decide) (by decide) dX11_view_37
      · refine g_iconst C dX11_view_23 ?_
        refine g_goto C 28 (by decide) dX11_view_24 ?_
        refine gp_I C fk_LandSurvey_9 pk_LandSurvey_1 rfl ta0 (iw (il (-1)) (by decide) (by decide)) (nf_i _) dX11_view_28 (fun h21 hh20 => ?_)
        have O22 := O.pI ta0 hh20 rI_11_1 (iw (il (-1)) (by decide) (by decide)) nofun
        refine g_aload_n C rfl 0 rfl dX11_view_31 ?_
        refine g_iconst C dX11_view_32 ?_
        have e23 : Tg h21 a0 = 11 := ((pIT hh20).trans ta0)
        refine gp_I C fk_LandSurvey_81 pk_LandSurvey_15 rfl e23 (iw (il 0) (by decide) (by decide)) (nar_z2 (iw (il 0) (by decide) (by decide))) dX11_view_33 (fun h25 hh24 => ?_)
        have O26 := O22.pI e23 hh24 rI_11_15 (iw (il 0) (by decide) (by decide)) nofun
        refine g_iconst C dX11_view_36 ?_
        exact g_iret C hr (nar_z2 (iw (il 1) (by decide) (by decide))).1 (iw (il 1) (by decide) (by decide)) ⟨O26, (((Fx.rf (wr := wr_k_X11_view)).pI ta0 hh20 rfl).pI e23 hh24 rfl), (iw (il 1) (by decide) (by decide))⟩ (by decide) (by decide) dX11_view_37
    · have f27 : (1 : Int) ≤ a1 ∧ a1 ≤ (2147483647 : Int) := r_gt f4 f7 q9 (by decide) (by decide)
      refine g_iconst C dX11_view_12 ?_
      exact g_iret C hr (nar_z2 (iw (il 0) (by decide) (by decide))).1 (iw (il 0) (by decide) (by decide)) ⟨O, Fx.rf, (iw (il 0) (by decide) (by decide))⟩ (by decide) (by decide) dX11_view_13
def wr_k_X11_cell : List Nat := [2215, 2420000, 2620200]
set_option maxRecDepth 100000 in
set_option maxHeartbeats 4000000 in
theorem k_X11_cell (l : Launch) (D : va_G) (cy : Nat → ClassId) (w : Nat → Nat) (z0 : Nat)  {h : Hp} {a0 : Nat} {a1 : Int} {a2 : Int} {a3 : Int} {a4 : Int}  (O : Okh h) (ta0 : Tg h a0 = 11) (fa1 : (-2147483648) ≤ a1 ∧ a1 ≤ 2147483647) (fa2 : (-2147483648) ≤ a2 ∧ a2 ≤ 2147483647) (fa3 : (-2147483648) ≤ a3 ∧ a3 ≤ 2147483647) (fa4 : 0 ≤ a4 ∧ a4 ≤ 1) : MI l D cy w z0 yX11_cell cX11_cell 6 (some .boolean) 1 21 0 0 [.inr (.inr a0), .inl a1, .inl a2, .inl a3, .inl a4] h (fun v h1 => Okh h1 ∧ Fx wr_k_X11_cell h h1 ∧ (0 ≤ v ∧ v ≤ 1)) := by
  refine hm_go (by decide +kernel) (Nat.le_of_ble_eq_true rfl) (fun p e s m below meth c C hr hn => ?_)
  refine g_iload_n C rfl 1 rfl dX11_cell_0 ?_
  refine g_iload_n C rfl 2 rfl dX11_cell_1 ?_
  refine g_callI (st := []) (gc_S C lk_LandSurvey_85 (k_X11_cellAt l D cy w z0 O fa1 fa2) rfl ⟨by decide, by decide⟩ (Nat.le_of_ble_eq_true rfl) dX11_cell_2 ⟨(by decide), (by decide)⟩) (fun r1 h2 f4 K3 => ?_)
  obtain ⟨O5, F6, f7, p8⟩ := K3
  refine g_istore C [(5, .inl r1), (0, .inr (.inr a0)), (1, .inl a1), (2, .inl a2), (3, .inl a3), (4, .inl a4)] (by decide) rfl dX11_cell_5 ?_
  refine g_iload C 0 rfl dX11_cell_7 ?_
  refine g_iconst C dX11_cell_9 ?_
  refine g_icmp_eq C (iw f7 (by decide) (by decide)) (iw (il (-1)) (by decide) (by decide)) 24 (by decide) dX11_cell_10 (fun q9 => ?_) (fun q10 => ?_)
  · have f11 : (-1 : Int) ≤ r1 ∧ r1 ≤ (-1 : Int) := ii f7 (r_eq (il (-1)) q9) (by decide) (by decide)
    refine g_iconst C dX11_cell_24 ?_
    exact g_iret C hr (nar_z2 (iw (il 0) (by decide) (by decide))).1 (iw (il 0) (by decide) (by decide)) ⟨O5, ((Fx.rf (wr := wr_k_X11_cell)).call F6 rfl), (iw (il 0) (by decide) (by decide))⟩ (by decide) (by decide) dX11_cell_25
  · have f12 : (0 : Int) ≤ r1 ∧ r1 ≤ (95 : Int) := r_nl f7 q10
    refine g_iload_n C rfl 4 rfl dX11_cell_13 ?_
    refine g_if_lt C fa3 24 (by decide) dX11_cell_14 (fun q13 => ?_) (fun q14 => ?_)
    · have f15 : (-2147483648 : Int) ≤ a3 ∧ a3 ≤ (-1 : Int) := r_lt fa3 (il 0) q13 (by decide) (by decide)
      refine g_iconst C dX11_cell_24 ?_
      exact g_iret C hr (nar_z2 (iw (il 0) (by decide) (by decide))).1 (iw (il 0) (by decide) (by decide)) ⟨O5, ((Fx.rf (wr := wr_k_X11_cell)).call F6 rfl), (iw (il 0) (by decide) (by decide))⟩ (by decide) (by decide) dX11_cell_25
    · have f16 : (0 : Int) ≤ a3 ∧ a3 ≤ (2147483647 : Int) := r_ge fa3 (il 0) q14 (by decide) (by decide)
      refine g_iload_n C rfl 4 rfl dX11_cell_17 ?_
      refine g_sipush C (by decide) dX11_cell_18 ?_
      refine g_icmp_le C (iw f16 (by decide) (by decide)) (iw (il 999) (by decide) (by decide)) 26 (by decide) dX11_cell_21 (fun q17 => ?_) (fun q18 => ?_)
      · have f19 : (0 : Int) ≤ a3 ∧ a3 ≤ (999 : Int) := r_le f16 (il 999) q17 (by decide) (by decide)
        refine g_aload_n C rfl 1 rfl dX11_cell_26 ?_
        have e20 : Tg h2 a0 = 11 := (fxT F6 ta0)
        obtain ⟨v21, e22⟩ : ∃ z, Rv h2 a0 2 = z := ⟨_, rfl⟩
        have t23 := ok_R O5 e20 rE_11_2 e22
        refine gf_R C fk_LandSurvey_16 rfl e20 e22 dX11_cell_27 ?_
        obtain ⟨v24, e25⟩ : ∃ z, Rv h2 v21 0 = z := ⟨_, rfl⟩
        have t26 := ok_R O5 t23 rE_3_0 e25
        have l27 := ok_L O5 t23 rE_3_0 e25
        refine gf_R C fk_LandSurvey_89 rfl t23 e25 dX11_cell_30 ?_
        refine g_iload C 0 rfl dX11_cell_33 ?_
        refine g_iload_n C rfl 4 rfl dX11_cell_35 ?_
        refine g_iast C t26 rfl l27 (ix f12 (by decide) (by decide)) (iw f19 (by decide) (by decide)) dX11_cell_36 (fun h29 hh28 => ?_)
        have O30 := O5.pIa t26 ar_12100 hh28 rI_12100_0 f19 nofun
        refine g_aload_n C rfl 1 rfl dX11_cell_37 ?_
        have e31 : Tg h29 a0 = 11 := ((pIT hh28).trans e20)
        have e32 : Rv h29 a0 2 = v21 := ((pIR hh28).trans e22)
        refine gf_R C fk_LandSurvey_16 rfl e31 e32 dX11_cell_38 ?_
        have e33 : Tg h29 v21 = 3 := ((pIT hh28).trans t23)
        obtain ⟨v34, e35⟩ : ∃ z, Rv h29 v21 1 = z := ⟨_, rfl⟩
        have t36 := ok_R O30 e33 rE_3_1 e35
        have l37 := ok_L O30 e33 rE_3_1 e35
        refine gf_R C fk_LandSurvey_92 rfl e33 e35 dX11_cell_41 ?_
        refine g_iload C 0 rfl dX11_cell_44 ?_
        refine g_iload C 5 rfl dX11_cell_46 ?_
        refine g_if_ne C (iw fa4 (by decide) (by decide)) 55 (by decide) dX11_cell_48 (fun q38 => ?_) (fun q39 => ?_)
        · have f40 : (1 : Int) ≤ a4 ∧ a4 ≤ (1 : Int) := r_nl fa4 q38
          refine g_iconst C dX11_cell_55 ?_
          refine g_zast C t36 rfl l37 (ix f12 (by decide) (by decide)) (iw (il 0) (by decide) (by decide)) dX11_cell_56 (fun h42 hh41 => ?_)
          have O43 := O30.pIa t36 ar_13101 hh41 rI_13101_0 (iw (il 0) (by decide) (by decide)) nofun
          refine g_aload_n C rfl 1 rfl dX11_cell_57 ?_
          refine g_iconst C dX11_cell_58 ?_
          have e44 : Tg h42 a0 = 11 := ((pIT hh41).trans e31)
          refine gp_I C fk_LandSurvey_81 pk_LandSurvey_15 rfl e44 (iw (il 0) (by decide) (by decide)) (nar_z2 (iw (il 0) (by decide) (by decide))) dX11_cell_59 (fun h46 hh45 => ?_)
          have O47 := O43.pI e44 hh45 rI_11_15 (iw (il 0) (by decide) (by decide)) nofun
          refine g_iconst C dX11_cell_62 ?_
          exact g_iret C hr (nar_z2 (iw (il 1) (by decide) (by decide))).1 (iw (il 1) (by decide) (by decide)) ⟨O47, (((((Fx.rf (wr := wr_k_X11_cell)).call F6 rfl).pIa t26 ar_12100 hh28 rfl).pIa t36 ar_13101 hh41 rfl).pI e44 hh45 rfl), (iw (il 1) (by decide) (by decide))⟩ (by decide) (by decide) dX11_cell_63
        · have f48 : (0 : Int) ≤ a4 ∧ a4 ≤ (0 : Int) := ii fa4 (r_eq (il 0) q39) (by decide) (by decide)
          refine g_iconst C dX11_cell_51 ?_
          refine g_goto C 56 (by decide) dX11_cell_52 ?_
          refine g_zast C t36 rfl l37 (ix f12 (by decide) (by decide)) (iw (il 1) (by decide) (by decide)) dX11_cell_56 (fun h50 hh49 => ?_)
          have O51 := O30.pIa t36 ar_13101 hh49 rI_13101_0 (iw (il 1) (by decide) (by decide)) nofun
          refine g_aload_n C rfl 1 rfl dX11_cell_57 ?_
          refine g_iconst C dX11_cell_58 ?_
          have e52 : Tg h50 a0 = 11 := ((pIT hh49).trans e31)
          refine gp_I C fk_LandSurvey_81 pk_LandSurvey_15 rfl e52 (iw (il 0) (by decide) (by decide)) (nar_z2 (iw (il 0) (by decide) (by decide))) dX11_cell_59 (fun h54 hh53 => ?_)
          have O55 := O51.pI e52 hh53 rI_11_15 (iw (il 0) (by decide) (by decide)) nofun
          refine g_iconst C dX11_cell_62 ?_
          exact g_iret C hr (nar_z2 (iw (il 1) (by decide) (by decide))).1 (iw (il 1) (by decide) (by decide)) ⟨O55, (((((Fx.rf (wr := wr_k_X11_cell)).call F6 rfl).pIa t26 ar_12100 hh28 rfl).pIa t36 ar_13101 hh49 rfl).pI e52 hh53 rfl), (iw (il 1) (by decide) (by decide))⟩ (by decide) (by decide) dX11_cell_63
      · have f56 : (1000 : Int) ≤ a3 ∧ a3 ≤ (2147483647 : Int) := r_gt f16 (il 999) q18 (by decide) (by decide)
        refine g_iconst C dX11_cell_24 ?_
        exact g_iret C hr (nar_z2 (iw (il 0) (by decide) (by decide))).1 (iw (il 0) (by decide) (by decide)) ⟨O5, ((Fx.rf (wr := wr_k_X11_cell)).call F6 rfl), (iw (il 0) (by decide) (by decide))⟩ (by decide) (by decide) dX11_cell_25
def wr_k_X11_fold : List Nat := [2215, 2820200]
set_option maxRecDepth 100000 in
set_option maxHeartbeats 4000000 in
theorem k_X11_fold (l : Launch) (D : va_G) (cy : Nat → ClassId) (w : Nat → Nat) (z0 : Nat)  {h : Hp} {a0 : Nat} {a1 : Int} {a2 : Int} {a3 : Int}  (O : Okh h) (ta0 : Tg h a0 = 11) (fa1 : (-2147483648) ≤ a1 ∧ a1 ≤ 2147483647) (fa2 : (-2147483648) ≤ a2 ∧ a2 ≤ 2147483647) (fa3 : 0 ≤ a3 ∧ a3 ≤ 1) : MI l D cy w z0 yX11_fold cX11_fold 5 (some .boolean) 1 21 0 0 [.inr (.inr a0), .inl a1, .inl a2, .inl a3] h (fun v h1 => Okh h1 ∧ Fx wr_k_X11_fold h h1 ∧ (0 ≤ v ∧ v ≤ 1)) := by
  refine hm_go (by decide +kernel) (Nat.le_of_ble_eq_true rfl) (fun p e s m below meth c C hr hn => ?_)
  refine g_iload_n C rfl 1 rfl dX11_fold_0 ?_
  refine g_iload_n C rfl 2 rfl dX11_fold_1 ?_
  refine g_callI (st := []) (gc_S C lk_LandSurvey_85 (k_X11_cellAt l D cy w z0 O fa1 fa2) rfl ⟨by decide, by decide⟩ (Nat.le_of_ble_eq_true rfl) dX11_fold_2 ⟨(by decide), (by decide)⟩) (fun r1 h2 f4 K3 => ?_)
  obtain ⟨O5, F6, f7, p8⟩ := K3
  refine g_istore C [(4, .inl r1), (0, .inr (.inr a0)), (1, .inl a1), (2, .inl a2), (3, .inl a3)] (by decide) rfl dX11_fold_5 ?_
  refine g_iload C 0 rfl dX11_fold_7 ?_
  refine g_iconst C dX11_fold_9 ?_
  refine g_icmp_ne C (iw f7 (by decide) (by decide)) (iw (il (-1)) (by decide) (by decide)) 15 (by decide) dX11_fold_10 (fun q9 => ?_) (fun q10 => ?_)
  · have f11 : (0 : Int) ≤ r1 ∧ r1 ≤ (95 : Int) := r_nl f7 q9
    refine g_aload_n C rfl 1 rfl dX11_fold_15 ?_
    have e12 : Tg h2 a0 = 11 := (fxT F6 ta0)
    obtain ⟨v13, e14⟩ : ∃ z, Rv h2 a0 2 = z := ⟨_, rfl⟩
    have t15 := ok_R O5 e12 rE_11_2 e14
    refine gf_R C fk_LandSurvey_16 rfl e12 e14 dX11_fold_16 ?_
    obtain ⟨v16, e17⟩ : ∃ z, Rv h2 v13 2 = z := ⟨_, rfl⟩
    have t18 := ok_R O5 t15 rE_3_2 e17
    have l19 := ok_L O5 t15 rE_3_2 e17
    refine gf_R C fk_LandSurvey_96 rfl t15 e17 dX11_fold_19 ?_
    refine g_iload C 0 rfl dX11_fold_22 ?_
    refine g_iload_n C rfl 4 rfl dX11_fold_24 ?_
    refine g_zast C t18 rfl l19 (ix f11 (by decide) (by decide)) fa3 dX11_fold_25 (fun h21 hh20 => ?_)
    have O22 := O5.pIa t18 ar_14101 hh20 rI_14101_0 fa3 nofun
    refine g_aload_n C rfl 1 rfl dX11_fold_26 ?_
    refine g_iconst C dX11_fold_27 ?_
    have e23 : Tg h21 a0 = 11 := ((pIT hh20).trans e12)
    refine gp_I C fk_LandSurvey_81 pk_LandSurvey_15 rfl e23 (iw (il 0) (by decide) (by decide)) (nar_z2 (iw (il 0) (by decide) (by decide))) dX11_fold_28 (fun h25 hh24 => ?_)
    have O26 := O22.pI e23 hh24 rI_11_15 (iw (il 0) (by decide) (by decide)) nofun
    refine g_iconst C dX11_fold_31 ?_
    exact g_iret C hr (nar_z2 (iw (il 1) (by decide) (by decide))).1 (iw (il 1) (by decide) (by decide)) ⟨O26, ((((Fx.rf (wr := wr_k_X11_fold)).call F6 rfl).pIa t18 ar_14101 hh20 rfl).pI e23 hh24 rfl), (iw (il 1) (by decide) (by decide))⟩ (by decide) (by decide) dX11_fold_32
  · have f27 : (-1 : Int) ≤ r1 ∧ r1 ≤ (-1 : Int) := ii f7 (r_eq (il (-1)) q10) (by decide) (by decide)
    refine g_iconst C dX11_fold_13 ?_
    exact g_iret C hr (nar_z2 (iw (il 0) (by decide) (by decide))).1 (iw (il 0) (by decide) (by decide)) ⟨O5, ((Fx.rf (wr := wr_k_X11_fold)).call F6 rfl), (iw (il 0) (by decide) (by decide))⟩ (by decide) (by decide) dX11_fold_14
def wr_k_X11_own : List Nat := [3020000]
set_option maxRecDepth 100000 in
set_option maxHeartbeats 4000000 in
theorem k_X11_own (l : Launch) (D : va_G) (cy : Nat → ClassId) (w : Nat → Nat) (z0 : Nat)  {h : Hp} {a0 : Nat} {a1 : Int} {a2 : Int} {a3 : Int}  (O : Okh h) (ta0 : Tg h a0 = 11) (fa1 : (-2147483648) ≤ a1 ∧ a1 ≤ 2147483647) (fa2 : (-2147483648) ≤ a2 ∧ a2 ≤ 2147483647) (fa3 : (-2147483648) ≤ a3 ∧ a3 ≤ 2147483647) : MI l D cy w z0 yX11_own cX11_own 5 (some .boolean) 1 21 0 0 [.inr (.inr a0), .inl a1, .inl a2, .inl a3] h (fun v h1 => Okh h1 ∧ Fx wr_k_X11_own h h1 ∧ (0 ≤ v ∧ v ≤ 1)) := by
  refine hm_go (by decide +kernel) (Nat.le_of_ble_eq_true rfl) (fun p e s m below meth c C hr hn => ?_)
  refine g_iload_n C rfl 1 rfl dX11_own_0 ?_
  refine g_iload_n C rfl 2 rfl dX11_own_1 ?_
  refine g_callI (st := []) (gc_S C lk_LandSurvey_85 (k_X11_cellAt l D cy w z0 O fa1 fa2) rfl ⟨by decide, by decide⟩ (Nat.le_of_ble_eq_true rfl) dX11_own_2 ⟨(by decide), (by decide)⟩) (fun r1 h2 f4 K3 => ?_)
  obtain ⟨O5, F6, f7, p8⟩ := K3
  refine g_istore C [(4, .inl r1), (0, .inr (.inr a0)), (1, .inl a1), (2, .inl a2), (3, .inl a3)] (by decide) rfl dX11_own_5 ?_
  refine g_iload C 0 rfl dX11_own_7 ?_
  refine g_iconst C dX11_own_9 ?_
  refine g_icmp_eq C (iw f7 (by decide) (by decide)) (iw (il (-1)) (by decide) (by decide)) 23 (by decide) dX11_own_10 (fun q9 => ?_) (fun q10 => ?_)
  · have f11 : (-1 : Int) ≤ r1 ∧ r1 ≤ (-1 : Int) := ii f7 (r_eq (il (-1)) q9) (by decide) (by decide)
    refine g_iconst C dX11_own_23 ?_
    exact g_iret C hr (nar_z2 (iw (il 0) (by decide) (by decide))).1 (iw (il 0) (by decide) (by decide)) ⟨O5, ((Fx.rf (wr := wr_k_X11_own)).call F6 rfl), (iw (il 0) (by decide) (by decide))⟩ (by decide) (by decide) dX11_own_24
  · have f12 : (0 : Int) ≤ r1 ∧ r1 ≤ (95 : Int) := r_nl f7 q10
    refine g_iload_n C rfl 4 rfl dX11_own_13 ?_
    refine g_iconst C dX11_own_14 ?_
    refine g_icmp_lt C fa3 (iw (il (-1)) (by decide) (by decide)) 23 (by decide) dX11_own_15 (fun q13 => ?_) (fun q14 => ?_)
    · have f15 : (-2147483648 : Int) ≤ a3 ∧ a3 ≤ (-2 : Int) := r_lt fa3 (il (-1)) q13 (by decide) (by decide)
      refine g_iconst C dX11_own_23 ?_
      exact g_iret C hr (nar_z2 (iw (il 0) (by decide) (by decide))).1 (iw (il 0) (by decide) (by decide)) ⟨O5, ((Fx.rf (wr := wr_k_X11_own)).call F6 rfl), (iw (il 0) (by decide) (by decide))⟩ (by decide) (by decide) dX11_own_24
    · have f16 : (-1 : Int) ≤ a3 ∧ a3 ≤ (2147483647 : Int) := r_ge fa3 (il (-1)) q14 (by decide) (by decide)
      refine g_iload_n C rfl 4 rfl dX11_own_18 ?_
      refine g_iconst C dX11_own_19 ?_
      refine g_icmp_lt C (iw f16 (by decide) (by decide)) (iw (il 4) (by decide) (by decide)) 25 (by decide) dX11_own_20 (fun q17 => ?_) (fun q18 => ?_)
      · have f19 : (-1 : Int) ≤ a3 ∧ a3 ≤ (3 : Int) := r_lt f16 (il 4) q17 (by decide) (by decide)
        refine g_aload_n C rfl 1 rfl dX11_own_25 ?_
        have e20 : Tg h2 a0 = 11 := (fxT F6 ta0)
        obtain ⟨v21, e22⟩ : ∃ z, Rv h2 a0 2 = z := ⟨_, rfl⟩
        have t23 := ok_R O5 e20 rE_11_2 e22
        refine gf_R C fk_LandSurvey_16 rfl e20 e22 dX11_own_26 ?_
        obtain ⟨v24, e25⟩ : ∃ z, Rv h2 v21 3 = z := ⟨_, rfl⟩
        have t26 := ok_R O5 t23 rE_3_3 e25
        have l27 := ok_L O5 t23 rE_3_3 e25
        refine gf_R C fk_LandSurvey_99 rfl t23 e25 dX11_own_29 ?_
        refine g_iload C 0 rfl dX11_own_32 ?_
        refine g_iload_n C rfl 4 rfl dX11_own_34 ?_
        refine g_iast C t26 rfl l27 (ix f12 (by decide) (by decide)) (iw f19 (by decide) (by decide)) dX11_own_35 (fun h29 hh28 => ?_)
        have O30 := O5.pIa t26 ar_15100 hh28 rI_15100_0 f19 nofun
        refine g_iconst C dX11_own_36 ?_
        exact g_iret C hr (nar_z2 (iw (il 1) (by decide) (by decide))).1 (iw (il 1) (by decide) (by decide)) ⟨O30, (((Fx.rf (wr := wr_k_X11_own)).call F6 rfl).pIa t26 ar_15100 hh28 rfl), (iw (il 1) (by decide) (by decide))⟩ (by decide) (by decide) dX11_own_37
      · have f31 : (4 : Int) ≤ a3 ∧ a3 ≤ (2147483647 : Int) := r_ge f16 (il 4) q18 (by decide) (by decide)
        refine g_iconst C dX11_own_23 ?_
        exact g_iret C hr (nar_z2 (iw (il 0) (by decide) (by decide))).1 (iw (il 0) (by decide) (by decide)) ⟨O5, ((Fx.rf (wr := wr_k_X11_own)).call F6 rfl), (iw (il 0) (by decide) (by decide))⟩ (by decide) (by decide) dX11_own_24
def wr_k_X11_rivalry : List Nat := [2210]
set_option maxRecDepth 100000 in
set_option maxHeartbeats 4000000 in
theorem k_X11_rivalry (l : Launch) (D : va_G) (cy : Nat → ClassId) (w : Nat → Nat) (z0 : Nat)  {h : Hp} {a0 : Nat} {a1 : Int}  (O : Okh h) (ta0 : Tg h a0 = 11) (fa1 : (-2147483648) ≤ a1 ∧ a1 ≤ 2147483647) : MI l D cy w z0 yX11_rivalry cX11_rivalry 2 (some .boolean) 0 0 0 0 [.inr (.inr a0), .inl a1] h (fun v h1 => Okh h1 ∧ Fx wr_k_X11_rivalry h h1 ∧ (0 ≤ v ∧ v ≤ 1)) := by
  refine hm_go (by decide +kernel) (Nat.le_of_ble_eq_true rfl) (fun p e s m below meth c C hr hn => ?_)
  refine g_iload_n C rfl 1 rfl dX11_rivalry_0 ?_
  refine g_if_lt C fa1 11 (by decide) dX11_rivalry_1 (fun q1 => ?_) (fun q2 => ?_)
  · have f3 : (-2147483648 : Int) ≤ a1 ∧ a1 ≤ (-1 : Int) := r_lt fa1 (il 0) q1 (by decide) (by decide)
    refine g_iconst C dX11_rivalry_11 ?_
    exact g_iret C hr (nar_z2 (iw (il 0) (by decide) (by decide))).1 (iw (il 0) (by decide) (by decide)) ⟨O, Fx.rf, (iw (il 0) (by decide) (by decide))⟩ (by decide) (by decide) dX11_rivalry_12
  · have f4 : (0 : Int) ≤ a1 ∧ a1 ≤ (2147483647 : Int) := r_ge fa1 (il 0) q2 (by decide) (by decide)
    refine g_iload_n C rfl 1 rfl dX11_rivalry_4 ?_
    refine g_sipush C (by decide) dX11_rivalry_5 ?_
    refine g_icmp_le C (iw f4 (by decide) (by decide)) (iw (il 999) (by decide) (by decide)) 13 (by decide) dX11_rivalry_8 (fun q5 => ?_) (fun q6 => ?_)
    · have f7 : (0 : Int) ≤ a1 ∧ a1 ≤ (999 : Int) := r_le f4 (il 999) q5 (by decide) (by decide)
      refine g_aload_n C rfl 0 rfl dX11_rivalry_13 ?_
      refine g_iload_n C rfl 1 rfl dX11_rivalry_14 ?_
      refine gp_I C fk_LandSurvey_163 pk_LandSurvey_10 rfl ta0 (iw f7 (by decide) (by decide)) (nf_i _) dX11_rivalry_15 (fun h9 hh8 => ?_)
      have O10 := O.pI ta0 hh8 rI_11_10 f7 nofun
      refine g_iconst C dX11_rivalry_18 ?_
      exact g_iret C hr (nar_z2 (iw (il 1) (by decide) (by decide))).1 (iw (il 1) (by decide) (by decide)) ⟨O10, ((Fx.rf (wr := wr_k_X11_rivalry)).pI ta0 hh8 rfl), (iw (il 1) (by decide) (by decide))⟩ (by decide) (by decide) dX11_rivalry_19
    · have f11 : (1000 : Int) ≤ a1 ∧ a1 ≤ (2147483647 : Int) := r_gt f4 (il 999) q6 (by decide) (by decide)
      refine g_iconst C dX11_rivalry_11 ?_
      exact g_iret C hr (nar_z2 (iw (il 0) (by decide) (by decide))).1 (iw (il 0) (by decide) (by decide)) ⟨O, Fx.rf, (iw (il 0) (by decide) (by decide))⟩ (by decide) (by decide) dX11_rivalry_12
def wr_k_X1_doubts : List Nat := []
set_option maxRecDepth 100000 in
set_option maxHeartbeats 4000000 in
theorem k_X1_doubts (l : Launch) (D : va_G) (cy : Nat → ClassId) (w : Nat → Nat) (z0 : Nat)  {h : Hp} {a0 : Nat} {a1 : Int}  (O : Okh h) (ta0 : Tg h a0 = 2) (fa1 : (-2147483648) ≤ a1 ∧ a1 ≤ 2147483647) : MI l D cy w z0 yX1_doubts cX1_doubts 2 (some .boolean) 0 0 0 0 [.inr (.inr a0), .inl a1] h (fun v h1 => Okh h1 ∧ Fx wr_k_X1_doubts h h1 ∧ (0 ≤ v ∧ v ≤ 1)) := by
  refine hm_go (by decide +kernel) (Nat.le_of_ble_eq_true rfl) (fun p e s m below meth c C hr hn => ?_)
  refine g_aload_n C rfl 0 rfl dX1_doubts_0 ?_
  obtain ⟨v1, e2⟩ : ∃ z, Jv h a0 4 = z := ⟨_, rfl⟩
  have f3 := inL_J O e2
  refine gf_J C fk_LandSurvey_Ground_22 rfl ta0 e2 dX1_doubts_1 ?_
  refine g_iload_n C rfl 1 rfl dX1_doubts_4 ?_
  refine g_lshr C dX1_doubts_5 ?_
  have f4 : (-9223372036854775808 : Int) ≤ (lShr v1 a1) ∧ (lShr v1 a1) ≤ (9223372036854775807 : Int) := inL_of _
  refine g_lconst (z := 1) C (by decide) dX1_doubts_6 ?_
  refine g_land C dX1_doubts_7 ?_
  have f5 : (-9223372036854775808 : Int) ≤ (lAnd (lShr v1 a1) 1) ∧ (lAnd (lShr v1 a1) 1) ≤ (9223372036854775807 : Int) := inL_of _
  refine g_lconst (z := 0) C (by decide) dX1_doubts_8 ?_
  refine g_lcmp C f5 (iw (il 0) (by decide) (by decide)) dX1_doubts_9 ?_
  have f6 : (-1 : Int) ≤ (lC (lAnd (lShr v1 a1) 1) 0) ∧ (lC (lAnd (lShr v1 a1) 1) 0) ≤ (1 : Int) := lC_rng _ _
  refine g_if_eq C (iw f6 (by decide) (by decide)) 17 (by decide) dX1_doubts_10 (fun q7 => ?_) (fun q8 => ?_)
  · have q9 : (lAnd (lShr v1 a1) 1) = (0 : Int) := lC_eq.mp q7
    have f10 : (0 : Int) ≤ (lAnd (lShr v1 a1) 1) ∧ (lAnd (lShr v1 a1) 1) ≤ (0 : Int) := ii f5 (r_eq (il 0) q9) (by decide) (by decide)
    refine g_iconst C dX1_doubts_17 ?_
    exact g_iret C hr (nar_z2 (iw (il 0) (by decide) (by decide))).1 (iw (il 0) (by decide) (by decide)) ⟨O, Fx.rf, (iw (il 0) (by decide) (by decide))⟩ (by decide) (by decide) dX1_doubts_18
  · have q11 : ¬ (lAnd (lShr v1 a1) 1) = (0 : Int) := fun z => q8 (lC_eq.mpr z)
    refine g_iconst C dX1_doubts_13 ?_
    refine g_goto C 18 (by decide) dX1_doubts_14 ?_
    exact g_iret C hr (nar_z2 (iw (il 1) (by decide) (by decide))).1 (iw (il 1) (by decide) (by decide)) ⟨O, Fx.rf, (iw (il 1) (by decide) (by decide))⟩ (by decide) (by decide) dX1_doubts_18
def wr_k_X8_isInView : List Nat := []
set_option maxRecDepth 100000 in
set_option maxHeartbeats 4000000 in
theorem k_X8_isInView (l : Launch) (D : va_G) (cy : Nat → ClassId) (w : Nat → Nat) (z0 : Nat)  {h : Hp} {a0 : Nat} {a1 : Int}  (O : Okh h) (ta0 : Tg h a0 = 9) (fa1 : (-2147483648) ≤ a1 ∧ a1 ≤ 2147483647) : MI l D cy w z0 yX8_isInView cX8_isInView 2 (some .boolean) 0 0 0 0 [.inr (.inr a0), .inl a1] h (fun v h1 => Okh h1 ∧ Fx wr_k_X8_isInView h h1 ∧ (0 ≤ v ∧ v ≤ 1)) := by
  refine hm_go (by decide +kernel) (Nat.le_of_ble_eq_true rfl) (fun p e s m below meth c C hr hn => ?_)
  refine g_aload_n C rfl 0 rfl dX8_isInView_0 ?_
  obtain ⟨v1, e2⟩ : ∃ z, Iv h a0 5 = z := ⟨_, rfl⟩
  have f3 := ok_I O ta0 rI_9_5 e2
  refine gf_I C fk_LandSurvey_Sight_45 rfl ta0 e2 dX8_isInView_1 ?_
  refine g_iload_n C rfl 1 rfl dX8_isInView_4 ?_
  refine g_icmp_gt C (iw f3 (by decide) (by decide)) fa1 28 (by decide) dX8_isInView_5 (fun q4 => ?_) (fun q5 => ?_)
  · have f6 : (-2147483648 : Int) ≤ a1 ∧ a1 ≤ (9998 : Int) := r_lt fa1 f3 q4 (by decide) (by decide)
    refine g_iconst C dX8_isInView_28 ?_
    exact g_iret C hr (nar_z2 (iw (il 0) (by decide) (by decide))).1 (iw (il 0) (by decide) (by decide)) ⟨O, Fx.rf, (iw (il 0) (by decide) (by decide))⟩ (by decide) (by decide) dX8_isInView_29
  · have f7 : (0 : Int) ≤ a1 ∧ a1 ≤ (2147483647 : Int) := r_ge fa1 f3 q5 (by decide) (by decide)
    refine g_aload_n C rfl 0 rfl dX8_isInView_8 ?_
    obtain ⟨v8, e9⟩ : ∃ z, Iv h a0 6 = z := ⟨_, rfl⟩
    have f10 := ok_I O ta0 rI_9_6 e9
    refine gf_I C fk_LandSurvey_Sight_9 rfl ta0 e9 dX8_isInView_9 ?_
    refine g_iconst C dX8_isInView_12 ?_
    refine g_icmp_eq C (iw f10 (by decide) (by decide)) (iw (il (-1)) (by decide) (by decide)) 24 (by decide) dX8_isInView_13 (fun q11 => ?_) (fun q12 => ?_)
    · have f13 : (-1 : Int) ≤ v8 ∧ v8 ≤ (-1 : Int) := ii f10 (r_eq (il (-1)) q11) (by decide) (by decide)
      refine g_iconst C dX8_isInView_24 ?_
      refine g_goto C 29 (by decide) dX8_isInView_25 ?_
      exact g_iret C hr (nar_z2 (iw (il 1) (by decide) (by decide))).1 (iw (il 1) (by decide) (by decide)) ⟨O, Fx.rf, (iw (il 1) (by decide) (by decide))⟩ (by decide) (by decide) dX8_isInView_29
    · have f14 : (0 : Int) ≤ v8 ∧ v8 ≤ (9999 : Int) := r_nl f10 q12
      refine g_aload_n C rfl 0 rfl dX8_isInView_16 ?_
      refine gf_I C fk_LandSurvey_Sight_9 rfl ta0 e9 dX8_isInView_17 ?_
      refine g_iload_n C rfl 1 rfl dX8_isInView_20 ?_
      refine g_icmp_le C (iw f14 (by decide) (by decide)) (iw f7 (by decide) (by decide)) 28 (by decide) dX8_isInView_21 (fun q15 => ?_) (fun q16 => ?_)
      · refine g_iconst C dX8_isInView_28 ?_
        exact g_iret C hr (nar_z2 (iw (il 0) (by decide) (by decide))).1 (iw (il 0) (by decide) (by decide)) ⟨O, Fx.rf, (iw (il 0) (by decide) (by decide))⟩ (by decide) (by decide) dX8_isInView_29
      · have f17 : (0 : Int) ≤ a1 ∧ a1 ≤ (9998 : Int) := r_lt f7 f14 q16 (by decide) (by decide)
        have f18 : (1 : Int) ≤ v8 ∧ v8 ≤ (9999 : Int) := r_gt f14 f7 q16 (by decide) (by decide)
        refine g_iconst C dX8_isInView_24 ?_
        refine g_goto C 29 (by decide) dX8_isInView_25 ?_
        exact g_iret C hr (nar_z2 (iw (il 1) (by decide) (by decide))).1 (iw (il 1) (by decide) (by decide)) ⟨O, Fx.rf, (iw (il 1) (by decide) (by decide))⟩ (by decide) (by decide) dX8_isInView_29
def wr_k_X5_joined : List Nat := []
set_option maxRecDepth 100000 in
set_option maxHeartbeats 4000000 in
theorem k_X5_joined (l : Launch) (D : va_G) (cy : Nat → ClassId) (w : Nat → Nat) (z0 : Nat)  {h : Hp} {a0 : Int} {a1 : Int} {a2 : Int}  (O : Okh h) (fa0 : (-2147483648) ≤ a0 ∧ a0 ≤ 2147483647) (fa1 : (-2147483648) ≤ a1 ∧ a1 ≤ 2147483647) (fa2 : (-2147483648) ≤ a2 ∧ a2 ≤ 2147483647) : MI l D cy w z0 yX5_joined cX5_joined 3 (some .int) 0 0 0 0 [.inl a0, .inl a1, .inl a2] h (fun v h1 => Okh h1 ∧ Fx wr_k_X5_joined h h1 ∧ ((-2147483648) ≤ v ∧ v ≤ 2147483647)) := by
  refine hm_go (by decide +kernel) (Nat.le_of_ble_eq_true rfl) (fun p e s m below meth c C hr hn => ?_)
  refine g_iload_n C rfl 0 rfl dX5_joined_0 ?_
  rcases Classical.em (a0 = (-25)) with q1 | q2
  · refine g_tin (kv := (-25)) C q1 (by decide) 66 (by decide) (by decide) rfl (by decide) dX5_joined_1 ?_
    have f3 : (-25 : Int) ≤ a0 ∧ a0 ≤ (-25 : Int) := ii fa0 (r_eq (il (-25)) q1) (by decide) (by decide)
    refine g_iload_n C rfl 1 rfl dX5_joined_66 ?_
    refine g_if_eq C fa1 78 (by decide) dX5_joined_67 (fun q4 => ?_) (fun q5 => ?_)
    · have f6 : (0 : Int) ≤ a1 ∧ a1 ≤ (0 : Int) := ii fa1 (r_eq (il 0) q4) (by decide) (by decide)
      refine g_iconst C dX5_joined_78 ?_
      exact g_iret C hr rfl (iw (il 0) (by decide) (by decide)) ⟨O, Fx.rf, (iw (il 0) (by decide) (by decide))⟩ (by decide) (by decide) dX5_joined_79
    · refine g_iload_n C rfl 2 rfl dX5_joined_70 ?_
      refine g_if_eq C fa2 78 (by decide) dX5_joined_71 (fun q7 => ?_) (fun q8 => ?_)
      · have f9 : (0 : Int) ≤ a2 ∧ a2 ≤ (0 : Int) := ii fa2 (r_eq (il 0) q7) (by decide) (by decide)
        refine g_iconst C dX5_joined_78 ?_
        exact g_iret C hr rfl (iw (il 0) (by decide) (by decide)) ⟨O, Fx.rf, (iw (il 0) (by decide) (by decide))⟩ (by decide) (by decide) dX5_joined_79
      · refine g_iconst C dX5_joined_74 ?_
        refine g_goto C 79 (by decide) dX5_joined_75 ?_
        exact g_iret C hr rfl (iw (il 1) (by decide) (by decide)) ⟨O, Fx.rf, (iw (il 1) (by decide) (by decide))⟩ (by decide) (by decide) dX5_joined_79
  · rcases Classical.em (a0 = (-24)) with q10 | q11
    · refine g_tin (kv := (-24)) C q10 (by decide) 55 (by decide) (by decide) rfl (by decide) dX5_joined_1 ?_
      have f12 : (-24 : Int) ≤ a0 ∧ a0 ≤ (-24 : Int) := ii fa0 (r_eq (il (-24)) q10) (by decide) (by decide)
      refine g_iload_n C rfl 1 rfl dX5_joined_55 ?_
      refine g_iload_n C rfl 2 rfl dX5_joined_56 ?_
      refine g_icmp_ne C fa1 fa2 64 (by decide) dX5_joined_57 (fun q13 => ?_) (fun q14 => ?_)
      · refine g_iconst C dX5_joined_64 ?_
        exact g_iret C hr rfl (iw (il 0) (by decide) (by decide)) ⟨O, Fx.rf, (iw (il 0) (by decide) (by decide))⟩ (by decide) (by decide) dX5_joined_65
      · refine g_iconst C dX5_joined_60 ?_
        refine g_goto C 65 (by decide) dX5_joined_61 ?_
        exact g_iret C hr rfl (iw (il 1) (by decide) (by decide)) ⟨O, Fx.rf, (iw (il 1) (by decide) (by decide))⟩ (by decide) (by decide) dX5_joined_65
    · rcases Classical.em (a0 = (-23)) with q15 | q16
      · refine g_tin (kv := (-23)) C q15 (by decide) 44 (by decide) (by decide) rfl (by decide) dX5_joined_1 ?_
        have f17 : (-23 : Int) ≤ a0 ∧ a0 ≤ (-23 : Int) := ii fa0 (r_eq (il (-23)) q15) (by decide) (by decide)
        refine g_iload_n C rfl 1 rfl dX5_joined_44 ?_
        refine g_iload_n C rfl 2 rfl dX5_joined_45 ?_
        refine g_icmp_ge C fa1 fa2 53 (by decide) dX5_joined_46 (fun q18 => ?_) (fun q19 => ?_)
        · refine g_iconst C dX5_joined_53 ?_
          exact g_iret C hr rfl (iw (il 0) (by decide) (by decide)) ⟨O, Fx.rf, (iw (il 0) (by decide) (by decide))⟩ (by decide) (by decide) dX5_joined_54
        · have f20 : (-2147483648 : Int) ≤ a1 ∧ a1 ≤ (2147483646 : Int) := r_lt fa1 fa2 q19 (by decide) (by decide)
          have f21 : (-2147483647 : Int) ≤ a2 ∧ a2 ≤ (2147483647 : Int) := r_gt fa2 fa1 q19 (by decide) (by decide)
          refine g_iconst C dX5_joined_49 ?_
          refine g_goto C 54 (by decide) dX5_joined_50 ?_
          exact g_iret C hr rfl (iw (il 1) (by decide) (by decide)) ⟨O, Fx.rf, (iw (il 1) (by decide) (by decide))⟩ (by decide) (by decide) dX5_joined_54
      · rcases Classical.em (a0 = (-22)) with q22 | q23
        · refine g_tin (kv := (-22)) C q22 (by decide) 40 (by decide) (by decide) rfl (by decide) dX5_joined_1 ?_
          have f24 : (-22 : Int) ≤ a0 ∧ a0 ≤ (-22 : Int) := ii fa0 (r_eq (il (-22)) q22) (by decide) (by decide)
          refine g_iload_n C rfl 1 rfl dX5_joined_40 ?_
          refine g_iload_n C rfl 2 rfl dX5_joined_41 ?_
          have f25 : (-2147483648 : Int) ≤ (w32 (a1 - a2)) ∧ (w32 (a1 - a2)) ≤ (2147483647 : Int) := w32_inR _
          refine g_isubW C dX5_joined_42 ?_
          exact g_iret C hr rfl f25 ⟨O, Fx.rf, f25⟩ (by decide) (by decide) dX5_joined_43
        · rcases Classical.em (a0 = (-21)) with q26 | q27
          · refine g_tin (kv := (-21)) C q26 (by decide) 36 (by decide) (by decide) rfl (by decide) dX5_joined_1 ?_
            have f28 : (-21 : Int) ≤ a0 ∧ a0 ≤ (-21 : Int) := ii fa0 (r_eq (il (-21)) q26) (by decide) (by decide)
            refine g_iload_n C rfl 1 rfl dX5_joined_36 ?_
            refine g_iload_n C rfl 2 rfl dX5_joined_37 ?_
            have f29 : (-2147483648 : Int) ≤ (w32 (a1 + a2)) ∧ (w32 (a1 + a2)) ≤ (2147483647 : Int) := w32_inR _
            refine g_iaddW C dX5_joined_38 ?_
            exact g_iret C hr rfl f29 ⟨O, Fx.rf, f29⟩ (by decide) (by decide) dX5_joined_39
          · refine g_tout C fa0 80 (by omega) (by decide) dX5_joined_1 ?_
            refine g_iload_n C rfl 1 rfl dX5_joined_80 ?_
            refine g_if_ne C fa1 88 (by decide) dX5_joined_81 (fun q30 => ?_) (fun q31 => ?_)
            · refine g_iconst C dX5_joined_88 ?_
              refine g_goto C 93 (by decide) dX5_joined_89 ?_
              exact g_iret C hr rfl (iw (il 1) (by decide) (by decide)) ⟨O, Fx.rf, (iw (il 1) (by decide) (by decide))⟩ (by decide) (by decide) dX5_joined_93
            · have f32 : (0 : Int) ≤ a1 ∧ a1 ≤ (0 : Int) := ii fa1 (r_eq (il 0) q31) (by decide) (by decide)
              refine g_iload_n C rfl 2 rfl dX5_joined_84 ?_
              refine g_if_eq C fa2 92 (by decide) dX5_joined_85 (fun q33 => ?_) (fun q34 => ?_)
              · have f35 : (0 : Int) ≤ a2 ∧ a2 ≤ (0 : Int) := ii fa2 (r_eq (il 0) q33) (by decide) (by decide)
                refine g_iconst C dX5_joined_92 ?_
                exact g_iret C hr rfl (iw (il 0) (by decide) (by decide)) ⟨O, Fx.rf, (iw (il 0) (by decide) (by decide))⟩ (by decide) (by decide) dX5_joined_93
              · refine g_iconst C dX5_joined_88 ?_
                refine g_goto C 93 (by decide) dX5_joined_89 ?_
                exact g_iret C hr rfl (iw (il 1) (by decide) (by decide)) ⟨O, Fx.rf, (iw (il 1) (by decide) (by decide))⟩ (by decide) (by decide) dX5_joined_93
