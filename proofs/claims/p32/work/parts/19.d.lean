abbrev cX5_firstThatTells : ByteArray := prog_7_method_10_code
def yX5_firstThatTells : MethodName := ⟨RX5, "firstThatTells", "(I[I)I"⟩
theorem okX5_firstThatTells : yok yX5_firstThatTells 2 := by decide +kernel
theorem dX5_firstThatTells_0 : decode cX5_firstThatTells 0 = .ok (.iconst 0, 1) := by decide +kernel
theorem dX5_firstThatTells_1 : decode cX5_firstThatTells 1 = .ok (.istore_n 3, 1) := by decide +kernel
theorem kw_325 : Cond.fieldLink "LandSurvey$Rules" 81 "LandSurvey$Rules" "lines" "I" ∈ uu := uu_in (i := 325) (by decide +kernel) (by decide +kernel)
theorem fk_LandSurvey_Rules_81 : fkI "LandSurvey$Rules" 81 5 13 RX5 TX5 19 := ⟨rfl, rfl, inX5, by decide, kw_325, by decide⟩
theorem dX5_firstThatTells_2 : decode cX5_firstThatTells 2 = .ok (.iload_n 3, 1) := by decide +kernel
theorem dX5_firstThatTells_3 : decode cX5_firstThatTells 3 = .ok (.aload_n 0, 1) := by decide +kernel
theorem dX5_firstThatTells_4 : decode cX5_firstThatTells 4 = .ok (.getfield 81, 3) := by decide +kernel
theorem dX5_firstThatTells_7 : decode cX5_firstThatTells 7 = .ok (.if_icmp .ge 30, 3) := by decide +kernel
theorem dX5_firstThatTells_37 : decode cX5_firstThatTells 37 = .ok (.iconst (-1), 1) := by decide +kernel
theorem dX5_firstThatTells_38 : decode cX5_firstThatTells 38 = .ok (.ireturn, 1) := by decide +kernel
theorem dX5_firstThatTells_10 : decode cX5_firstThatTells 10 = .ok (.aload_n 0, 1) := by decide +kernel
theorem dX5_firstThatTells_11 : decode cX5_firstThatTells 11 = .ok (.getfield 41, 3) := by decide +kernel
theorem kw_327 : Cond.fieldLink "LandSurvey$Rules" 41 "LandSurvey$Rules" "lineKind" "[I" ∈ uu := uu_in (i := 327) (by decide +kernel) (by decide +kernel)
theorem fk_LandSurvey_Rules_41 : fkR "LandSurvey$Rules" 41 5 14 RX5 TX5 19 := ⟨rfl, rfl, inX5, by decide, kw_327, by decide⟩
theorem dX5_firstThatTells_14 : decode cX5_firstThatTells 14 = .ok (.iload_n 3, 1) := by decide +kernel
theorem dX5_firstThatTells_15 : decode cX5_firstThatTells 15 = .ok (.iaload, 1) := by decide +kernel
theorem dX5_firstThatTells_16 : decode cX5_firstThatTells 16 = .ok (.iload_n 1, 1) := by decide +kernel
theorem dX5_firstThatTells_17 : decode cX5_firstThatTells 17 = .ok (.if_icmp .ne 14, 3) := by decide +kernel
theorem dX5_firstThatTells_31 : decode cX5_firstThatTells 31 = .ok (.iinc 3 1, 3) := by decide +kernel
theorem dX5_firstThatTells_34 : decode cX5_firstThatTells 34 = .ok (.goto (-32), 3) := by decide +kernel
theorem dX5_firstThatTells_20 : decode cX5_firstThatTells 20 = .ok (.aload_n 0, 1) := by decide +kernel
theorem dX5_firstThatTells_21 : decode cX5_firstThatTells 21 = .ok (.iload_n 3, 1) := by decide +kernel
theorem dX5_firstThatTells_22 : decode cX5_firstThatTells 22 = .ok (.aload_n 2, 1) := by decide +kernel
theorem dX5_firstThatTells_23 : decode cX5_firstThatTells 23 = .ok (.invokevirtual 84, 3) := by decide +kernel
theorem kw_984 : Cond.code yX5_worked prog_7_method_11_code 6 (some .int) ∈ uu := uu_in (i := 984) (by decide +kernel) (by decide +kernel)
theorem kw_981 : Cond.methodLink "LandSurvey$Rules" 84 yX5_worked ∈ uu := uu_in (i := 981) (by decide +kernel) (by decide +kernel)
theorem kw_983 : Cond.instanceMethod yX5_worked ∈ uu := uu_in (i := 983) (by decide +kernel) (by decide +kernel)
theorem kw_26 : Cond.selects "LandSurvey$Rules" yX5_worked yX5_worked ∈ uu := uu_in (i := 26) (by decide +kernel) (by decide +kernel)
theorem lk_LandSurvey_Rules_84 : lkV "LandSurvey$Rules" 84 yX5_worked cX5_worked 6 (some .int) 2 := ⟨kw_981, kw_983, kw_26, kw_149, kw_984, okX5_worked⟩
theorem dX5_firstThatTells_26 : decode cX5_firstThatTells 26 = .ok (.ifCond .eq 5, 3) := by decide +kernel
theorem dX5_firstThatTells_29 : decode cX5_firstThatTells 29 = .ok (.iload_n 3, 1) := by decide +kernel
theorem dX5_firstThatTells_30 : decode cX5_firstThatTells 30 = .ok (.ireturn, 1) := by decide +kernel
abbrev cX6_begin : ByteArray := prog_8_method_2_code
def yX6_begin : MethodName := ⟨RX6, "begin", "(III)V"⟩
theorem okX6_begin : yok yX6_begin 3 := by decide +kernel
theorem kw_427 : Cond.fieldLink "LandSurvey$Search" 46 "LandSurvey$Search" "sightCount" "I" ∈ uu := uu_in (i := 427) (by decide +kernel) (by decide +kernel)
theorem fk_LandSurvey_Search_46 : fkI "LandSurvey$Search" 46 6 3 RX6 TX6 13 := ⟨rfl, rfl, inX6, by decide, kw_427, by decide⟩
theorem kw_428 : Cond.fieldLink "LandSurvey$Search" 50 "LandSurvey$Search" "breakCount" "I" ∈ uu := uu_in (i := 428) (by decide +kernel) (by decide +kernel)
theorem fk_LandSurvey_Search_50 : fkI "LandSurvey$Search" 50 6 4 RX6 TX6 13 := ⟨rfl, rfl, inX6, by decide, kw_428, by decide⟩
theorem kw_429 : Cond.fieldLink "LandSurvey$Search" 53 "LandSurvey$Search" "steep" "I" ∈ uu := uu_in (i := 429) (by decide +kernel) (by decide +kernel)
theorem fk_LandSurvey_Search_53 : fkI "LandSurvey$Search" 53 6 5 RX6 TX6 13 := ⟨rfl, rfl, inX6, by decide, kw_429, by decide⟩
theorem dX6_begin_0 : decode cX6_begin 0 = .ok (.aload_n 0, 1) := by decide +kernel
theorem dX6_begin_1 : decode cX6_begin 1 = .ok (.iload_n 1, 1) := by decide +kernel
theorem dX6_begin_2 : decode cX6_begin 2 = .ok (.putfield 46, 3) := by decide +kernel
theorem pk_LandSurvey_Search_3 : pk RX6 TX6 13 3 tyX6 false := ⟨tyX6_ok, nmX6, rfl⟩
theorem dX6_begin_5 : decode cX6_begin 5 = .ok (.aload_n 0, 1) := by decide +kernel
theorem dX6_begin_6 : decode cX6_begin 6 = .ok (.iload_n 2, 1) := by decide +kernel
theorem dX6_begin_7 : decode cX6_begin 7 = .ok (.putfield 50, 3) := by decide +kernel
theorem pk_LandSurvey_Search_4 : pk RX6 TX6 13 4 tyX6 false := ⟨tyX6_ok, nmX6, rfl⟩
theorem dX6_begin_10 : decode cX6_begin 10 = .ok (.aload_n 0, 1) := by decide +kernel
theorem dX6_begin_11 : decode cX6_begin 11 = .ok (.iload_n 3, 1) := by decide +kernel
theorem dX6_begin_12 : decode cX6_begin 12 = .ok (.putfield 53, 3) := by decide +kernel
theorem pk_LandSurvey_Search_5 : pk RX6 TX6 13 5 tyX6 false := ⟨tyX6_ok, nmX6, rfl⟩
theorem dX6_begin_15 : decode cX6_begin 15 = .ok (.return_, 1) := by decide +kernel
abbrev cX6_saysAnything : ByteArray := prog_8_method_4_code
def yX6_saysAnything : MethodName := ⟨RX6, "saysAnything", "(J)Z"⟩
theorem okX6_saysAnything : yok yX6_saysAnything 1 := by decide +kernel
theorem dX6_saysAnything_0 : decode cX6_saysAnything 0 = .ok (.iconst 0, 1) := by decide +kernel
theorem dX6_saysAnything_1 : decode cX6_saysAnything 1 = .ok (.istore_n 3, 1) := by decide +kernel
theorem dX6_saysAnything_2 : decode cX6_saysAnything 2 = .ok (.iload_n 3, 1) := by decide +kernel
theorem dX6_saysAnything_3 : decode cX6_saysAnything 3 = .ok (.aload_n 0, 1) := by decide +kernel
theorem dX6_saysAnything_4 : decode cX6_saysAnything 4 = .ok (.getfield 46, 3) := by decide +kernel
theorem dX6_saysAnything_7 : decode cX6_saysAnything 7 = .ok (.if_icmp .ge 33, 3) := by decide +kernel
theorem dX6_saysAnything_40 : decode cX6_saysAnything 40 = .ok (.iconst 0, 1) := by decide +kernel
theorem dX6_saysAnything_41 : decode cX6_saysAnything 41 = .ok (.ireturn, 1) := by decide +kernel
theorem dX6_saysAnything_10 : decode cX6_saysAnything 10 = .ok (.aload_n 0, 1) := by decide +kernel
theorem dX6_saysAnything_11 : decode cX6_saysAnything 11 = .ok (.getfield 38, 3) := by decide +kernel
theorem kw_425 : Cond.fieldLink "LandSurvey$Search" 38 "LandSurvey$Search" "sights" "[LLandSurvey$Sight;" ∈ uu := uu_in (i := 425) (by decide +kernel) (by decide +kernel)
theorem fk_LandSurvey_Search_38 : fkR "LandSurvey$Search" 38 6 1 RX6 TX6 13 := ⟨rfl, rfl, inX6, by decide, kw_425, by decide⟩
theorem dX6_saysAnything_14 : decode cX6_saysAnything 14 = .ok (.iload_n 3, 1) := by decide +kernel
theorem dX6_saysAnything_15 : decode cX6_saysAnything 15 = .ok (.aaload, 1) := by decide +kernel
theorem dX6_saysAnything_16 : decode cX6_saysAnything 16 = .ok (.getfield 91, 3) := by decide +kernel
theorem kw_591 : Cond.fieldLink "LandSurvey$Search" 91 "LandSurvey$Sight" "says" "Z" ∈ uu := uu_in (i := 591) (by decide +kernel) (by decide +kernel)
theorem fk_LandSurvey_Search_91 : fkI "LandSurvey$Search" 91 8 16 RX8 TX8 19 := ⟨rfl, rfl, inX8, by decide, kw_591, by decide⟩
theorem dX6_saysAnything_19 : decode cX6_saysAnything 19 = .ok (.ifCond .eq 15, 3) := by decide +kernel
theorem dX6_saysAnything_34 : decode cX6_saysAnything 34 = .ok (.iinc 3 1, 3) := by decide +kernel
theorem dX6_saysAnything_37 : decode cX6_saysAnything 37 = .ok (.goto (-35), 3) := by decide +kernel
theorem dX6_saysAnything_22 : decode cX6_saysAnything 22 = .ok (.lload_n 1, 1) := by decide +kernel
theorem dX6_saysAnything_23 : decode cX6_saysAnything 23 = .ok (.iload_n 3, 1) := by decide +kernel
theorem dX6_saysAnything_24 : decode cX6_saysAnything 24 = .ok (.lshr, 1) := by decide +kernel
theorem dX6_saysAnything_25 : decode cX6_saysAnything 25 = .ok (.lconst 1, 1) := by decide +kernel
theorem dX6_saysAnything_26 : decode cX6_saysAnything 26 = .ok (.land, 1) := by decide +kernel
theorem dX6_saysAnything_27 : decode cX6_saysAnything 27 = .ok (.lconst 0, 1) := by decide +kernel
theorem dX6_saysAnything_28 : decode cX6_saysAnything 28 = .ok (.lcmp, 1) := by decide +kernel
theorem dX6_saysAnything_29 : decode cX6_saysAnything 29 = .ok (.ifCond .ne 5, 3) := by decide +kernel
theorem dX6_saysAnything_32 : decode cX6_saysAnything 32 = .ok (.iconst 1, 1) := by decide +kernel
theorem dX6_saysAnything_33 : decode cX6_saysAnything 33 = .ok (.ireturn, 1) := by decide +kernel
abbrev cX6_isBetter : ByteArray := prog_8_method_6_code
def yX6_isBetter : MethodName := ⟨RX6, "isBetter", "(LLandSurvey$Ground;IJ)Z"⟩
theorem okX6_isBetter : yok yX6_isBetter 3 := by decide +kernel
theorem dX6_isBetter_0 : decode cX6_isBetter 0 = .ok (.aload_n 0, 1) := by decide +kernel
theorem dX6_isBetter_1 : decode cX6_isBetter 1 = .ok (.getfield 62, 3) := by decide +kernel
theorem kw_1018 : Cond.fieldLink "LandSurvey$Search" 62 "LandSurvey$Ground" "found" "Z" ∈ uu := uu_in (i := 1018) (by decide +kernel) (by decide +kernel)
theorem fk_LandSurvey_Search_62 : fkI "LandSurvey$Search" 62 1 2 RX1 TX1 9 := ⟨rfl, rfl, inX1, by decide, kw_1018, by decide⟩
theorem dX6_isBetter_4 : decode cX6_isBetter 4 = .ok (.ifCond .eq 28, 3) := by decide +kernel
theorem dX6_isBetter_32 : decode cX6_isBetter 32 = .ok (.iconst 1, 1) := by decide +kernel
theorem dX6_isBetter_33 : decode cX6_isBetter 33 = .ok (.goto 4, 3) := by decide +kernel
theorem dX6_isBetter_37 : decode cX6_isBetter 37 = .ok (.ireturn, 1) := by decide +kernel
theorem dX6_isBetter_7 : decode cX6_isBetter 7 = .ok (.iload_n 1, 1) := by decide +kernel
theorem dX6_isBetter_8 : decode cX6_isBetter 8 = .ok (.aload_n 0, 1) := by decide +kernel
theorem dX6_isBetter_9 : decode cX6_isBetter 9 = .ok (.getfield 103, 3) := by decide +kernel
theorem kw_1020 : Cond.fieldLink "LandSurvey$Search" 103 "LandSurvey$Ground" "cost" "I" ∈ uu := uu_in (i := 1020) (by decide +kernel) (by decide +kernel)
theorem fk_LandSurvey_Search_103 : fkI "LandSurvey$Search" 103 1 3 RX1 TX1 9 := ⟨rfl, rfl, inX1, by decide, kw_1020, by decide⟩
theorem dX6_isBetter_12 : decode cX6_isBetter 12 = .ok (.if_icmp .lt 20, 3) := by decide +kernel
theorem dX6_isBetter_15 : decode cX6_isBetter 15 = .ok (.iload_n 1, 1) := by decide +kernel
theorem dX6_isBetter_16 : decode cX6_isBetter 16 = .ok (.aload_n 0, 1) := by decide +kernel
theorem dX6_isBetter_17 : decode cX6_isBetter 17 = .ok (.getfield 103, 3) := by decide +kernel
theorem dX6_isBetter_20 : decode cX6_isBetter 20 = .ok (.if_icmp .ne 16, 3) := by decide +kernel
theorem dX6_isBetter_36 : decode cX6_isBetter 36 = .ok (.iconst 0, 1) := by decide +kernel
theorem dX6_isBetter_23 : decode cX6_isBetter 23 = .ok (.lload_n 2, 1) := by decide +kernel
theorem dX6_isBetter_24 : decode cX6_isBetter 24 = .ok (.aload_n 0, 1) := by decide +kernel
theorem dX6_isBetter_25 : decode cX6_isBetter 25 = .ok (.getfield 80, 3) := by decide +kernel
theorem kw_1023 : Cond.fieldLink "LandSurvey$Search" 80 "LandSurvey$Ground" "doubted" "J" ∈ uu := uu_in (i := 1023) (by decide +kernel) (by decide +kernel)
theorem fk_LandSurvey_Search_80 : fkJ "LandSurvey$Search" 80 1 4 RX1 TX1 9 := ⟨rfl, rfl, inX1, by decide, kw_1023, by decide⟩
theorem dX6_isBetter_28 : decode cX6_isBetter 28 = .ok (.lcmp, 1) := by decide +kernel
theorem dX6_isBetter_29 : decode cX6_isBetter 29 = .ok (.ifCond .ge 7, 3) := by decide +kernel
abbrev cX6_firstBelowFloor : ByteArray := prog_8_method_10_code
def yX6_firstBelowFloor : MethodName := ⟨RX6, "firstBelowFloor", "()I"⟩
theorem okX6_firstBelowFloor : yok yX6_firstBelowFloor 0 := by decide +kernel
theorem dX6_firstBelowFloor_0 : decode cX6_firstBelowFloor 0 = .ok (.iconst 0, 1) := by decide +kernel
theorem dX6_firstBelowFloor_1 : decode cX6_firstBelowFloor 1 = .ok (.istore_n 1, 1) := by decide +kernel
theorem dX6_firstBelowFloor_2 : decode cX6_firstBelowFloor 2 = .ok (.iload_n 1, 1) := by decide +kernel
theorem dX6_firstBelowFloor_3 : decode cX6_firstBelowFloor 3 = .ok (.bipush 96, 2) := by decide +kernel
theorem dX6_firstBelowFloor_5 : decode cX6_firstBelowFloor 5 = .ok (.if_icmp .ge 26, 3) := by decide +kernel
theorem dX6_firstBelowFloor_31 : decode cX6_firstBelowFloor 31 = .ok (.iconst (-1), 1) := by decide +kernel
theorem dX6_firstBelowFloor_32 : decode cX6_firstBelowFloor 32 = .ok (.ireturn, 1) := by decide +kernel
theorem dX6_firstBelowFloor_8 : decode cX6_firstBelowFloor 8 = .ok (.aload_n 0, 1) := by decide +kernel
theorem dX6_firstBelowFloor_9 : decode cX6_firstBelowFloor 9 = .ok (.getfield 18, 3) := by decide +kernel
theorem kw_430 : Cond.fieldLink "LandSurvey$Search" 18 "LandSurvey$Search" "reach" "[I" ∈ uu := uu_in (i := 430) (by decide +kernel) (by decide +kernel)
theorem fk_LandSurvey_Search_18 : fkR "LandSurvey$Search" 18 6 6 RX6 TX6 13 := ⟨rfl, rfl, inX6, by decide, kw_430, by decide⟩
theorem dX6_firstBelowFloor_12 : decode cX6_firstBelowFloor 12 = .ok (.iload_n 1, 1) := by decide +kernel
theorem dX6_firstBelowFloor_13 : decode cX6_firstBelowFloor 13 = .ok (.iaload, 1) := by decide +kernel
theorem dX6_firstBelowFloor_14 : decode cX6_firstBelowFloor 14 = .ok (.aload_n 0, 1) := by decide +kernel
theorem dX6_firstBelowFloor_15 : decode cX6_firstBelowFloor 15 = .ok (.getfield 25, 3) := by decide +kernel
theorem kw_434 : Cond.fieldLink "LandSurvey$Search" 25 "LandSurvey$Search" "floor" "[I" ∈ uu := uu_in (i := 434) (by decide +kernel) (by decide +kernel)
theorem fk_LandSurvey_Search_25 : fkR "LandSurvey$Search" 25 6 8 RX6 TX6 13 := ⟨rfl, rfl, inX6, by decide, kw_434, by decide⟩
theorem dX6_firstBelowFloor_18 : decode cX6_firstBelowFloor 18 = .ok (.iload_n 1, 1) := by decide +kernel
theorem dX6_firstBelowFloor_19 : decode cX6_firstBelowFloor 19 = .ok (.iaload, 1) := by decide +kernel
theorem dX6_firstBelowFloor_20 : decode cX6_firstBelowFloor 20 = .ok (.if_icmp .ge 5, 3) := by decide +kernel
theorem dX6_firstBelowFloor_25 : decode cX6_firstBelowFloor 25 = .ok (.iinc 1 1, 3) := by decide +kernel
theorem dX6_firstBelowFloor_28 : decode cX6_firstBelowFloor 28 = .ok (.goto (-26), 3) := by decide +kernel
theorem dX6_firstBelowFloor_23 : decode cX6_firstBelowFloor 23 = .ok (.iload_n 1, 1) := by decide +kernel
theorem dX6_firstBelowFloor_24 : decode cX6_firstBelowFloor 24 = .ok (.ireturn, 1) := by decide +kernel
abbrev cX6_firstOnLoop : ByteArray := prog_8_method_11_code
def yX6_firstOnLoop : MethodName := ⟨RX6, "firstOnLoop", "()I"⟩
theorem okX6_firstOnLoop : yok yX6_firstOnLoop 0 := by decide +kernel
theorem dX6_firstOnLoop_0 : decode cX6_firstOnLoop 0 = .ok (.aload_n 0, 1) := by decide +kernel
theorem dX6_firstOnLoop_1 : decode cX6_firstOnLoop 1 = .ok (.getfield 35, 3) := by decide +kernel
theorem kw_437 : Cond.fieldLink "LandSurvey$Search" 35 "LandSurvey$Search" "walked" "[I" ∈ uu := uu_in (i := 437) (by decide +kernel) (by decide +kernel)
theorem fk_LandSurvey_Search_35 : fkR "LandSurvey$Search" 35 6 11 RX6 TX6 13 := ⟨rfl, rfl, inX6, by decide, kw_437, by decide⟩
theorem dX6_firstOnLoop_4 : decode cX6_firstOnLoop 4 = .ok (.iconst (-1), 1) := by decide +kernel
theorem dX6_firstOnLoop_5 : decode cX6_firstOnLoop 5 = .ok (.invokestatic 141, 3) := by decide +kernel
theorem kw_1083 : Cond.methodLink "LandSurvey$Search" 141 yJ7_fill_53178 ∈ uu := uu_in (i := 1083) (by decide +kernel) (by decide +kernel)
theorem lk_LandSurvey_Search_141 : lkS "LandSurvey$Search" 141 yJ7_fill_53178 cJ7_fill_53178 4 none 2 := ⟨kw_1083, kw_187, kw_146, kw_188, okJ7_fill_53178⟩
theorem dX6_firstOnLoop_8 : decode cX6_firstOnLoop 8 = .ok (.iconst 0, 1) := by decide +kernel
theorem dX6_firstOnLoop_9 : decode cX6_firstOnLoop 9 = .ok (.istore_n 1, 1) := by decide +kernel
theorem dX6_firstOnLoop_10 : decode cX6_firstOnLoop 10 = .ok (.iload_n 1, 1) := by decide +kernel
theorem dX6_firstOnLoop_11 : decode cX6_firstOnLoop 11 = .ok (.bipush 96, 2) := by decide +kernel
theorem dX6_firstOnLoop_13 : decode cX6_firstOnLoop 13 = .ok (.if_icmp .ge 79, 3) := by decide +kernel
theorem dX6_firstOnLoop_92 : decode cX6_firstOnLoop 92 = .ok (.iconst (-1), 1) := by decide +kernel
theorem dX6_firstOnLoop_93 : decode cX6_firstOnLoop 93 = .ok (.ireturn, 1) := by decide +kernel
theorem dX6_firstOnLoop_16 : decode cX6_firstOnLoop 16 = .ok (.iload_n 1, 1) := by decide +kernel
theorem dX6_firstOnLoop_17 : decode cX6_firstOnLoop 17 = .ok (.istore_n 2, 1) := by decide +kernel
theorem dX6_firstOnLoop_18 : decode cX6_firstOnLoop 18 = .ok (.iconst 0, 1) := by decide +kernel
theorem dX6_firstOnLoop_19 : decode cX6_firstOnLoop 19 = .ok (.istore_n 3, 1) := by decide +kernel
theorem dX6_firstOnLoop_20 : decode cX6_firstOnLoop 20 = .ok (.iload_n 3, 1) := by decide +kernel
theorem dX6_firstOnLoop_21 : decode cX6_firstOnLoop 21 = .ok (.bipush 96, 2) := by decide +kernel
theorem dX6_firstOnLoop_23 : decode cX6_firstOnLoop 23 = .ok (.if_icmp .gt 63, 3) := by decide +kernel
theorem dX6_firstOnLoop_86 : decode cX6_firstOnLoop 86 = .ok (.iinc 1 1, 3) := by decide +kernel
theorem dX6_firstOnLoop_89 : decode cX6_firstOnLoop 89 = .ok (.goto (-79), 3) := by decide +kernel
theorem dX6_firstOnLoop_26 : decode cX6_firstOnLoop 26 = .ok (.aload_n 0, 1) := by decide +kernel
theorem dX6_firstOnLoop_27 : decode cX6_firstOnLoop 27 = .ok (.getfield 35, 3) := by decide +kernel
theorem dX6_firstOnLoop_30 : decode cX6_firstOnLoop 30 = .ok (.iload_n 2, 1) := by decide +kernel
theorem dX6_firstOnLoop_31 : decode cX6_firstOnLoop 31 = .ok (.iaload, 1) := by decide +kernel
theorem dX6_firstOnLoop_32 : decode cX6_firstOnLoop 32 = .ok (.iconst (-1), 1) := by decide +kernel
theorem dX6_firstOnLoop_33 : decode cX6_firstOnLoop 33 = .ok (.if_icmp .ne 53, 3) := by decide +kernel
theorem dX6_firstOnLoop_36 : decode cX6_firstOnLoop 36 = .ok (.aload_n 0, 1) := by decide +kernel
theorem dX6_firstOnLoop_37 : decode cX6_firstOnLoop 37 = .ok (.getfield 35, 3) := by decide +kernel
theorem dX6_firstOnLoop_40 : decode cX6_firstOnLoop 40 = .ok (.iload_n 2, 1) := by decide +kernel
theorem dX6_firstOnLoop_41 : decode cX6_firstOnLoop 41 = .ok (.iload_n 1, 1) := by decide +kernel
theorem dX6_firstOnLoop_42 : decode cX6_firstOnLoop 42 = .ok (.iastore, 1) := by decide +kernel
theorem dX6_firstOnLoop_43 : decode cX6_firstOnLoop 43 = .ok (.aload_n 0, 1) := by decide +kernel
theorem dX6_firstOnLoop_44 : decode cX6_firstOnLoop 44 = .ok (.getfield 12, 3) := by decide +kernel
theorem kw_424 : Cond.fieldLink "LandSurvey$Search" 12 "LandSurvey$Search" "slopes" "LLandSurvey$Slopes;" ∈ uu := uu_in (i := 424) (by decide +kernel) (by decide +kernel)
theorem fk_LandSurvey_Search_12 : fkR "LandSurvey$Search" 12 6 0 RX6 TX6 13 := ⟨rfl, rfl, inX6, by decide, kw_424, by decide⟩
theorem dX6_firstOnLoop_47 : decode cX6_firstOnLoop 47 = .ok (.getfield 181, 3) := by decide +kernel
theorem kw_412 : Cond.fieldLink "LandSurvey$Search" 181 "LandSurvey$Slopes" "came" "[I" ∈ uu := uu_in (i := 412) (by decide +kernel) (by decide +kernel)
theorem fk_LandSurvey_Search_181 : fkR "LandSurvey$Search" 181 9 2 RX9 TX9 4 := ⟨rfl, rfl, inX9, by decide, kw_412, by decide⟩
theorem dX6_firstOnLoop_50 : decode cX6_firstOnLoop 50 = .ok (.iload_n 2, 1) := by decide +kernel
theorem dX6_firstOnLoop_51 : decode cX6_firstOnLoop 51 = .ok (.iaload, 1) := by decide +kernel
theorem dX6_firstOnLoop_52 : decode cX6_firstOnLoop 52 = .ok (.iconst (-1), 1) := by decide +kernel
theorem dX6_firstOnLoop_53 : decode cX6_firstOnLoop 53 = .ok (.if_icmp .eq 27, 3) := by decide +kernel
theorem dX6_firstOnLoop_80 : decode cX6_firstOnLoop 80 = .ok (.iinc 3 1, 3) := by decide +kernel
theorem dX6_firstOnLoop_83 : decode cX6_firstOnLoop 83 = .ok (.goto (-63), 3) := by decide +kernel
theorem dX6_firstOnLoop_56 : decode cX6_firstOnLoop 56 = .ok (.aload_n 0, 1) := by decide +kernel
theorem dX6_firstOnLoop_57 : decode cX6_firstOnLoop 57 = .ok (.getfield 12, 3) := by decide +kernel
theorem dX6_firstOnLoop_60 : decode cX6_firstOnLoop 60 = .ok (.getfield 181, 3) := by decide +kernel
theorem dX6_firstOnLoop_63 : decode cX6_firstOnLoop 63 = .ok (.iload_n 2, 1) := by decide +kernel
theorem dX6_firstOnLoop_64 : decode cX6_firstOnLoop 64 = .ok (.iaload, 1) := by decide +kernel
theorem dX6_firstOnLoop_65 : decode cX6_firstOnLoop 65 = .ok (.iconst 4, 1) := by decide +kernel
theorem dX6_firstOnLoop_66 : decode cX6_firstOnLoop 66 = .ok (.idiv, 1) := by decide +kernel
theorem dX6_firstOnLoop_67 : decode cX6_firstOnLoop 67 = .ok (.istore_n 2, 1) := by decide +kernel
theorem dX6_firstOnLoop_68 : decode cX6_firstOnLoop 68 = .ok (.aload_n 0, 1) := by decide +kernel
theorem dX6_firstOnLoop_69 : decode cX6_firstOnLoop 69 = .ok (.getfield 35, 3) := by decide +kernel
theorem dX6_firstOnLoop_72 : decode cX6_firstOnLoop 72 = .ok (.iload_n 2, 1) := by decide +kernel
theorem dX6_firstOnLoop_73 : decode cX6_firstOnLoop 73 = .ok (.iaload, 1) := by decide +kernel
theorem dX6_firstOnLoop_74 : decode cX6_firstOnLoop 74 = .ok (.iload_n 1, 1) := by decide +kernel
theorem dX6_firstOnLoop_75 : decode cX6_firstOnLoop 75 = .ok (.if_icmp .ne 5, 3) := by decide +kernel
theorem dX6_firstOnLoop_78 : decode cX6_firstOnLoop 78 = .ok (.iload_n 2, 1) := by decide +kernel
theorem dX6_firstOnLoop_79 : decode cX6_firstOnLoop 79 = .ok (.ireturn, 1) := by decide +kernel
abbrev cX6_blameLoop : ByteArray := prog_8_method_13_code
def yX6_blameLoop : MethodName := ⟨RX6, "blameLoop", "(I)J"⟩
theorem okX6_blameLoop : yok yX6_blameLoop 1 := by decide +kernel
theorem dX6_blameLoop_0 : decode cX6_blameLoop 0 = .ok (.lconst 0, 1) := by decide +kernel
theorem dX6_blameLoop_1 : decode cX6_blameLoop 1 = .ok (.lstore_n 2, 1) := by decide +kernel
theorem dX6_blameLoop_2 : decode cX6_blameLoop 2 = .ok (.iload_n 1, 1) := by decide +kernel
theorem dX6_blameLoop_3 : decode cX6_blameLoop 3 = .ok (.istore 4, 2) := by decide +kernel
theorem dX6_blameLoop_5 : decode cX6_blameLoop 5 = .ok (.iconst 0, 1) := by decide +kernel
theorem dX6_blameLoop_6 : decode cX6_blameLoop 6 = .ok (.istore 5, 2) := by decide +kernel
theorem dX6_blameLoop_8 : decode cX6_blameLoop 8 = .ok (.iload 5, 2) := by decide +kernel
theorem dX6_blameLoop_10 : decode cX6_blameLoop 10 = .ok (.bipush 96, 2) := by decide +kernel
theorem dX6_blameLoop_12 : decode cX6_blameLoop 12 = .ok (.if_icmp .ge 67, 3) := by decide +kernel
theorem dX6_blameLoop_79 : decode cX6_blameLoop 79 = .ok (.lload_n 2, 1) := by decide +kernel
theorem dX6_blameLoop_80 : decode cX6_blameLoop 80 = .ok (.lreturn, 1) := by decide +kernel
theorem dX6_blameLoop_15 : decode cX6_blameLoop 15 = .ok (.aload_n 0, 1) := by decide +kernel
theorem dX6_blameLoop_16 : decode cX6_blameLoop 16 = .ok (.getfield 12, 3) := by decide +kernel
theorem dX6_blameLoop_19 : decode cX6_blameLoop 19 = .ok (.getfield 181, 3) := by decide +kernel
theorem dX6_blameLoop_22 : decode cX6_blameLoop 22 = .ok (.iload 4, 2) := by decide +kernel
theorem dX6_blameLoop_24 : decode cX6_blameLoop 24 = .ok (.iaload, 1) := by decide +kernel
theorem dX6_blameLoop_25 : decode cX6_blameLoop 25 = .ok (.iconst (-1), 1) := by decide +kernel
theorem dX6_blameLoop_26 : decode cX6_blameLoop 26 = .ok (.if_icmp .eq 53, 3) := by decide +kernel
theorem dX6_blameLoop_29 : decode cX6_blameLoop 29 = .ok (.lload_n 2, 1) := by decide +kernel
theorem dX6_blameLoop_30 : decode cX6_blameLoop 30 = .ok (.aload_n 0, 1) := by decide +kernel
theorem dX6_blameLoop_31 : decode cX6_blameLoop 31 = .ok (.getfield 12, 3) := by decide +kernel
theorem dX6_blameLoop_34 : decode cX6_blameLoop 34 = .ok (.getfield 184, 3) := by decide +kernel
theorem kw_410 : Cond.fieldLink "LandSurvey$Search" 184 "LandSurvey$Slopes" "blamed" "[J" ∈ uu := uu_in (i := 410) (by decide +kernel) (by decide +kernel)
theorem fk_LandSurvey_Search_184 : fkR "LandSurvey$Search" 184 9 1 RX9 TX9 4 := ⟨rfl, rfl, inX9, by decide, kw_410, by decide⟩
theorem dX6_blameLoop_37 : decode cX6_blameLoop 37 = .ok (.aload_n 0, 1) := by decide +kernel
theorem dX6_blameLoop_38 : decode cX6_blameLoop 38 = .ok (.getfield 12, 3) := by decide +kernel
theorem dX6_blameLoop_41 : decode cX6_blameLoop 41 = .ok (.getfield 181, 3) := by decide +kernel
theorem dX6_blameLoop_44 : decode cX6_blameLoop 44 = .ok (.iload 4, 2) := by decide +kernel
theorem dX6_blameLoop_46 : decode cX6_blameLoop 46 = .ok (.iaload, 1) := by decide +kernel
theorem dX6_blameLoop_47 : decode cX6_blameLoop 47 = .ok (.laload, 1) := by decide +kernel
theorem dX6_blameLoop_48 : decode cX6_blameLoop 48 = .ok (.lor, 1) := by decide +kernel
theorem dX6_blameLoop_49 : decode cX6_blameLoop 49 = .ok (.lstore_n 2, 1) := by decide +kernel
theorem dX6_blameLoop_50 : decode cX6_blameLoop 50 = .ok (.aload_n 0, 1) := by decide +kernel
theorem dX6_blameLoop_51 : decode cX6_blameLoop 51 = .ok (.getfield 12, 3) := by decide +kernel
theorem dX6_blameLoop_54 : decode cX6_blameLoop 54 = .ok (.getfield 181, 3) := by decide +kernel
theorem dX6_blameLoop_57 : decode cX6_blameLoop 57 = .ok (.iload 4, 2) := by decide +kernel
theorem dX6_blameLoop_59 : decode cX6_blameLoop 59 = .ok (.iaload, 1) := by decide +kernel
theorem dX6_blameLoop_60 : decode cX6_blameLoop 60 = .ok (.iconst 4, 1) := by decide +kernel
theorem dX6_blameLoop_61 : decode cX6_blameLoop 61 = .ok (.idiv, 1) := by decide +kernel
theorem dX6_blameLoop_62 : decode cX6_blameLoop 62 = .ok (.istore 4, 2) := by decide +kernel
theorem dX6_blameLoop_64 : decode cX6_blameLoop 64 = .ok (.iload 4, 2) := by decide +kernel
theorem dX6_blameLoop_66 : decode cX6_blameLoop 66 = .ok (.iload_n 1, 1) := by decide +kernel
theorem dX6_blameLoop_67 : decode cX6_blameLoop 67 = .ok (.if_icmp .ne 6, 3) := by decide +kernel
theorem dX6_blameLoop_73 : decode cX6_blameLoop 73 = .ok (.iinc 5 1, 3) := by decide +kernel
theorem dX6_blameLoop_76 : decode cX6_blameLoop 76 = .ok (.goto (-68), 3) := by decide +kernel
theorem dX6_blameLoop_70 : decode cX6_blameLoop 70 = .ok (.goto 9, 3) := by decide +kernel
abbrev cX6_blameWayTo : ByteArray := prog_8_method_12_code
def yX6_blameWayTo : MethodName := ⟨RX6, "blameWayTo", "(I)J"⟩
theorem okX6_blameWayTo : yok yX6_blameWayTo 1 := by decide +kernel
theorem dX6_blameWayTo_0 : decode cX6_blameWayTo 0 = .ok (.aload_n 0, 1) := by decide +kernel
theorem dX6_blameWayTo_1 : decode cX6_blameWayTo 1 = .ok (.getfield 28, 3) := by decide +kernel
theorem kw_435 : Cond.fieldLink "LandSurvey$Search" 28 "LandSurvey$Search" "floorBlamed" "[J" ∈ uu := uu_in (i := 435) (by decide +kernel) (by decide +kernel)
theorem fk_LandSurvey_Search_28 : fkR "LandSurvey$Search" 28 6 9 RX6 TX6 13 := ⟨rfl, rfl, inX6, by decide, kw_435, by decide⟩
theorem dX6_blameWayTo_4 : decode cX6_blameWayTo 4 = .ok (.iload_n 1, 1) := by decide +kernel
theorem dX6_blameWayTo_5 : decode cX6_blameWayTo 5 = .ok (.laload, 1) := by decide +kernel
theorem dX6_blameWayTo_6 : decode cX6_blameWayTo 6 = .ok (.lstore_n 2, 1) := by decide +kernel
theorem dX6_blameWayTo_7 : decode cX6_blameWayTo 7 = .ok (.iload_n 1, 1) := by decide +kernel
theorem dX6_blameWayTo_8 : decode cX6_blameWayTo 8 = .ok (.istore 4, 2) := by decide +kernel
theorem dX6_blameWayTo_10 : decode cX6_blameWayTo 10 = .ok (.iconst 0, 1) := by decide +kernel
theorem dX6_blameWayTo_11 : decode cX6_blameWayTo 11 = .ok (.istore 5, 2) := by decide +kernel
theorem dX6_blameWayTo_13 : decode cX6_blameWayTo 13 = .ok (.iload 5, 2) := by decide +kernel
theorem dX6_blameWayTo_15 : decode cX6_blameWayTo 15 = .ok (.bipush 96, 2) := by decide +kernel
theorem dX6_blameWayTo_17 : decode cX6_blameWayTo 17 = .ok (.if_icmp .ge 56, 3) := by decide +kernel
theorem dX6_blameWayTo_73 : decode cX6_blameWayTo 73 = .ok (.aload_n 0, 1) := by decide +kernel
theorem dX6_blameWayTo_74 : decode cX6_blameWayTo 74 = .ok (.iload 4, 2) := by decide +kernel
theorem dX6_blameWayTo_76 : decode cX6_blameWayTo 76 = .ok (.invokevirtual 133, 3) := by decide +kernel
theorem kw_1108 : Cond.code yX6_blameLoop prog_8_method_13_code 6 (some .long) ∈ uu := uu_in (i := 1108) (by decide +kernel) (by decide +kernel)
theorem kw_150 : Cond.initialized "LandSurvey$Search" ∈ uu := uu_in (i := 150) (by decide +kernel) (by decide +kernel)
theorem kw_1105 : Cond.methodLink "LandSurvey$Search" 133 yX6_blameLoop ∈ uu := uu_in (i := 1105) (by decide +kernel) (by decide +kernel)
theorem kw_1107 : Cond.instanceMethod yX6_blameLoop ∈ uu := uu_in (i := 1107) (by decide +kernel) (by decide +kernel)
theorem kw_32 : Cond.selects "LandSurvey$Search" yX6_blameLoop yX6_blameLoop ∈ uu := uu_in (i := 32) (by decide +kernel) (by decide +kernel)
theorem lk_LandSurvey_Search_133 : lkV "LandSurvey$Search" 133 yX6_blameLoop cX6_blameLoop 6 (some .long) 1 := ⟨kw_1105, kw_1107, kw_32, kw_150, kw_1108, okX6_blameLoop⟩
theorem dX6_blameWayTo_79 : decode cX6_blameWayTo 79 = .ok (.lreturn, 1) := by decide +kernel
theorem dX6_blameWayTo_20 : decode cX6_blameWayTo 20 = .ok (.aload_n 0, 1) := by decide +kernel
theorem dX6_blameWayTo_21 : decode cX6_blameWayTo 21 = .ok (.getfield 12, 3) := by decide +kernel
theorem dX6_blameWayTo_24 : decode cX6_blameWayTo 24 = .ok (.getfield 181, 3) := by decide +kernel
theorem dX6_blameWayTo_27 : decode cX6_blameWayTo 27 = .ok (.iload 4, 2) := by decide +kernel
theorem dX6_blameWayTo_29 : decode cX6_blameWayTo 29 = .ok (.iaload, 1) := by decide +kernel
theorem dX6_blameWayTo_30 : decode cX6_blameWayTo 30 = .ok (.istore 6, 2) := by decide +kernel
theorem dX6_blameWayTo_32 : decode cX6_blameWayTo 32 = .ok (.iload 6, 2) := by decide +kernel
theorem dX6_blameWayTo_34 : decode cX6_blameWayTo 34 = .ok (.iconst (-1), 1) := by decide +kernel
theorem dX6_blameWayTo_35 : decode cX6_blameWayTo 35 = .ok (.if_icmp .ne 13, 3) := by decide +kernel
theorem dX6_blameWayTo_48 : decode cX6_blameWayTo 48 = .ok (.lload_n 2, 1) := by decide +kernel
theorem dX6_blameWayTo_49 : decode cX6_blameWayTo 49 = .ok (.aload_n 0, 1) := by decide +kernel
theorem dX6_blameWayTo_50 : decode cX6_blameWayTo 50 = .ok (.getfield 12, 3) := by decide +kernel
theorem dX6_blameWayTo_53 : decode cX6_blameWayTo 53 = .ok (.getfield 184, 3) := by decide +kernel
theorem dX6_blameWayTo_56 : decode cX6_blameWayTo 56 = .ok (.iload 6, 2) := by decide +kernel
theorem dX6_blameWayTo_58 : decode cX6_blameWayTo 58 = .ok (.laload, 1) := by decide +kernel
theorem dX6_blameWayTo_59 : decode cX6_blameWayTo 59 = .ok (.lor, 1) := by decide +kernel
theorem dX6_blameWayTo_60 : decode cX6_blameWayTo 60 = .ok (.lstore_n 2, 1) := by decide +kernel
theorem dX6_blameWayTo_61 : decode cX6_blameWayTo 61 = .ok (.iload 6, 2) := by decide +kernel
theorem dX6_blameWayTo_63 : decode cX6_blameWayTo 63 = .ok (.iconst 4, 1) := by decide +kernel
theorem dX6_blameWayTo_64 : decode cX6_blameWayTo 64 = .ok (.idiv, 1) := by decide +kernel
theorem dX6_blameWayTo_65 : decode cX6_blameWayTo 65 = .ok (.istore 4, 2) := by decide +kernel
theorem dX6_blameWayTo_67 : decode cX6_blameWayTo 67 = .ok (.iinc 5 1, 3) := by decide +kernel
theorem dX6_blameWayTo_70 : decode cX6_blameWayTo 70 = .ok (.goto (-57), 3) := by decide +kernel
theorem dX6_blameWayTo_38 : decode cX6_blameWayTo 38 = .ok (.lload_n 2, 1) := by decide +kernel
theorem dX6_blameWayTo_39 : decode cX6_blameWayTo 39 = .ok (.aload_n 0, 1) := by decide +kernel
theorem dX6_blameWayTo_40 : decode cX6_blameWayTo 40 = .ok (.getfield 32, 3) := by decide +kernel
theorem kw_436 : Cond.fieldLink "LandSurvey$Search" 32 "LandSurvey$Search" "reachBlamed" "[J" ∈ uu := uu_in (i := 436) (by decide +kernel) (by decide +kernel)
theorem fk_LandSurvey_Search_32 : fkR "LandSurvey$Search" 32 6 10 RX6 TX6 13 := ⟨rfl, rfl, inX6, by decide, kw_436, by decide⟩
theorem dX6_blameWayTo_43 : decode cX6_blameWayTo 43 = .ok (.iload 4, 2) := by decide +kernel
theorem dX6_blameWayTo_45 : decode cX6_blameWayTo 45 = .ok (.laload, 1) := by decide +kernel
theorem dX6_blameWayTo_46 : decode cX6_blameWayTo 46 = .ok (.lor, 1) := by decide +kernel
theorem dX6_blameWayTo_47 : decode cX6_blameWayTo 47 = .ok (.lreturn, 1) := by decide +kernel
abbrev cX6_layBounds : ByteArray := prog_8_method_9_code
def yX6_layBounds : MethodName := ⟨RX6, "layBounds", "(LLandSurvey$Sight;J)V"⟩
theorem okX6_layBounds : yok yX6_layBounds 2 := by decide +kernel
theorem dX6_layBounds_0 : decode cX6_layBounds 0 = .ok (.aload_n 1, 1) := by decide +kernel
theorem dX6_layBounds_1 : decode cX6_layBounds 1 = .ok (.getfield 158, 3) := by decide +kernel
theorem kw_562 : Cond.fieldLink "LandSurvey$Search" 158 "LandSurvey$Sight" "cell" "I" ∈ uu := uu_in (i := 562) (by decide +kernel) (by decide +kernel)
theorem fk_LandSurvey_Search_158 : fkI "LandSurvey$Search" 158 8 1 RX8 TX8 19 := ⟨rfl, rfl, inX8, by decide, kw_562, by decide⟩
theorem dX6_layBounds_4 : decode cX6_layBounds 4 = .ok (.istore 4, 2) := by decide +kernel
theorem dX6_layBounds_6 : decode cX6_layBounds 6 = .ok (.aload_n 1, 1) := by decide +kernel
theorem dX6_layBounds_7 : decode cX6_layBounds 7 = .ok (.getfield 175, 3) := by decide +kernel
theorem kw_595 : Cond.fieldLink "LandSurvey$Search" 175 "LandSurvey$Sight" "most" "I" ∈ uu := uu_in (i := 595) (by decide +kernel) (by decide +kernel)
theorem fk_LandSurvey_Search_175 : fkI "LandSurvey$Search" 175 8 18 RX8 TX8 19 := ⟨rfl, rfl, inX8, by decide, kw_595, by decide⟩
theorem dX6_layBounds_10 : decode cX6_layBounds 10 = .ok (.aload_n 0, 1) := by decide +kernel
theorem dX6_layBounds_11 : decode cX6_layBounds 11 = .ok (.getfield 18, 3) := by decide +kernel
theorem dX6_layBounds_14 : decode cX6_layBounds 14 = .ok (.iload 4, 2) := by decide +kernel
theorem dX6_layBounds_16 : decode cX6_layBounds 16 = .ok (.iaload, 1) := by decide +kernel
theorem dX6_layBounds_17 : decode cX6_layBounds 17 = .ok (.if_icmp .ge 22, 3) := by decide +kernel
theorem dX6_layBounds_39 : decode cX6_layBounds 39 = .ok (.aload_n 1, 1) := by decide +kernel
theorem dX6_layBounds_40 : decode cX6_layBounds 40 = .ok (.getfield 178, 3) := by decide +kernel
theorem kw_593 : Cond.fieldLink "LandSurvey$Search" 178 "LandSurvey$Sight" "least" "I" ∈ uu := uu_in (i := 593) (by decide +kernel) (by decide +kernel)
theorem fk_LandSurvey_Search_178 : fkI "LandSurvey$Search" 178 8 17 RX8 TX8 19 := ⟨rfl, rfl, inX8, by decide, kw_593, by decide⟩
theorem dX6_layBounds_43 : decode cX6_layBounds 43 = .ok (.aload_n 0, 1) := by decide +kernel
theorem dX6_layBounds_44 : decode cX6_layBounds 44 = .ok (.getfield 25, 3) := by decide +kernel
theorem dX6_layBounds_47 : decode cX6_layBounds 47 = .ok (.iload 4, 2) := by decide +kernel
theorem dX6_layBounds_49 : decode cX6_layBounds 49 = .ok (.iaload, 1) := by decide +kernel
theorem dX6_layBounds_50 : decode cX6_layBounds 50 = .ok (.if_icmp .le 22, 3) := by decide +kernel
theorem dX6_layBounds_72 : decode cX6_layBounds 72 = .ok (.return_, 1) := by decide +kernel
theorem dX6_layBounds_53 : decode cX6_layBounds 53 = .ok (.aload_n 0, 1) := by decide +kernel
theorem dX6_layBounds_54 : decode cX6_layBounds 54 = .ok (.getfield 25, 3) := by decide +kernel
theorem dX6_layBounds_57 : decode cX6_layBounds 57 = .ok (.iload 4, 2) := by decide +kernel
theorem dX6_layBounds_59 : decode cX6_layBounds 59 = .ok (.aload_n 1, 1) := by decide +kernel
theorem dX6_layBounds_60 : decode cX6_layBounds 60 = .ok (.getfield 178, 3) := by decide +kernel
theorem dX6_layBounds_63 : decode cX6_layBounds 63 = .ok (.iastore, 1) := by decide +kernel
theorem dX6_layBounds_64 : decode cX6_layBounds 64 = .ok (.aload_n 0, 1) := by decide +kernel
theorem dX6_layBounds_65 : decode cX6_layBounds 65 = .ok (.getfield 28, 3) := by decide +kernel
theorem dX6_layBounds_68 : decode cX6_layBounds 68 = .ok (.iload 4, 2) := by decide +kernel
theorem dX6_layBounds_70 : decode cX6_layBounds 70 = .ok (.lload_n 2, 1) := by decide +kernel
theorem dX6_layBounds_71 : decode cX6_layBounds 71 = .ok (.lastore, 1) := by decide +kernel
theorem dX6_layBounds_20 : decode cX6_layBounds 20 = .ok (.aload_n 0, 1) := by decide +kernel
theorem dX6_layBounds_21 : decode cX6_layBounds 21 = .ok (.getfield 18, 3) := by decide +kernel
theorem dX6_layBounds_24 : decode cX6_layBounds 24 = .ok (.iload 4, 2) := by decide +kernel
theorem dX6_layBounds_26 : decode cX6_layBounds 26 = .ok (.aload_n 1, 1) := by decide +kernel
theorem dX6_layBounds_27 : decode cX6_layBounds 27 = .ok (.getfield 175, 3) := by decide +kernel
theorem dX6_layBounds_30 : decode cX6_layBounds 30 = .ok (.iastore, 1) := by decide +kernel
theorem dX6_layBounds_31 : decode cX6_layBounds 31 = .ok (.aload_n 0, 1) := by decide +kernel
theorem dX6_layBounds_32 : decode cX6_layBounds 32 = .ok (.getfield 32, 3) := by decide +kernel
theorem dX6_layBounds_35 : decode cX6_layBounds 35 = .ok (.iload 4, 2) := by decide +kernel
theorem dX6_layBounds_37 : decode cX6_layBounds 37 = .ok (.lload_n 2, 1) := by decide +kernel
theorem dX6_layBounds_38 : decode cX6_layBounds 38 = .ok (.lastore, 1) := by decide +kernel
abbrev cX6_lay : ByteArray := prog_8_method_8_code
def yX6_lay : MethodName := ⟨RX6, "lay", "(IJ)V"⟩
theorem okX6_lay : yok yX6_lay 2 := by decide +kernel
theorem dX6_lay_0 : decode cX6_lay 0 = .ok (.aload_n 0, 1) := by decide +kernel
theorem dX6_lay_1 : decode cX6_lay 1 = .ok (.getfield 12, 3) := by decide +kernel
theorem dX6_lay_4 : decode cX6_lay 4 = .ok (.aload_n 0, 1) := by decide +kernel
theorem dX6_lay_5 : decode cX6_lay 5 = .ok (.getfield 53, 3) := by decide +kernel
theorem dX6_lay_8 : decode cX6_lay 8 = .ok (.invokevirtual 136, 3) := by decide +kernel
theorem kw_1077 : Cond.code yX9_level prog_11_method_2_code 2 none ∈ uu := uu_in (i := 1077) (by decide +kernel) (by decide +kernel)
theorem kw_1074 : Cond.methodLink "LandSurvey$Search" 136 yX9_level ∈ uu := uu_in (i := 1074) (by decide +kernel) (by decide +kernel)
theorem kw_1075 : Cond.instanceMethod yX9_level ∈ uu := uu_in (i := 1075) (by decide +kernel) (by decide +kernel)
theorem kw_1076 : Cond.selects "LandSurvey$Slopes" yX9_level yX9_level ∈ uu := uu_in (i := 1076) (by decide +kernel) (by decide +kernel)
theorem lk_LandSurvey_Search_136 : lkV "LandSurvey$Search" 136 yX9_level cX9_level 2 none 1 := ⟨kw_1074, kw_1075, kw_1076, kw_151, kw_1077, okX9_level⟩
theorem dX6_lay_11 : decode cX6_lay 11 = .ok (.aload_n 0, 1) := by decide +kernel
theorem dX6_lay_12 : decode cX6_lay 12 = .ok (.getfield 18, 3) := by decide +kernel
theorem dX6_lay_15 : decode cX6_lay 15 = .ok (.ldc 140, 2) := by decide +kernel
theorem kw_1082 : Cond.constant "LandSurvey$Search" 140 (268435456) ∈ uu := uu_in (i := 1082) (by decide +kernel) (by decide +kernel)
theorem dX6_lay_17 : decode cX6_lay 17 = .ok (.invokestatic 141, 3) := by decide +kernel
theorem dX6_lay_20 : decode cX6_lay 20 = .ok (.aload_n 0, 1) := by decide +kernel
theorem dX6_lay_21 : decode cX6_lay 21 = .ok (.getfield 25, 3) := by decide +kernel
theorem dX6_lay_24 : decode cX6_lay 24 = .ok (.ldc 147, 2) := by decide +kernel
theorem kw_1084 : Cond.constant "LandSurvey$Search" 147 (-268435456) ∈ uu := uu_in (i := 1084) (by decide +kernel) (by decide +kernel)
theorem dX6_lay_26 : decode cX6_lay 26 = .ok (.invokestatic 141, 3) := by decide +kernel
theorem dX6_lay_29 : decode cX6_lay 29 = .ok (.iconst 0, 1) := by decide +kernel
theorem dX6_lay_30 : decode cX6_lay 30 = .ok (.istore 4, 2) := by decide +kernel
theorem dX6_lay_32 : decode cX6_lay 32 = .ok (.iconst 0, 1) := by decide +kernel
theorem dX6_lay_33 : decode cX6_lay 33 = .ok (.istore 5, 2) := by decide +kernel
theorem dX6_lay_35 : decode cX6_lay 35 = .ok (.iload 5, 2) := by decide +kernel
theorem dX6_lay_37 : decode cX6_lay 37 = .ok (.aload_n 0, 1) := by decide +kernel
theorem dX6_lay_38 : decode cX6_lay 38 = .ok (.getfield 46, 3) := by decide +kernel
theorem dX6_lay_41 : decode cX6_lay 41 = .ok (.if_icmp .ge 135, 3) := by decide +kernel
theorem dX6_lay_176 : decode cX6_lay 176 = .ok (.iload 4, 2) := by decide +kernel
theorem dX6_lay_178 : decode cX6_lay 178 = .ok (.ifCond .ne 11, 3) := by decide +kernel
theorem dX6_lay_189 : decode cX6_lay 189 = .ok (.aload_n 0, 1) := by decide +kernel
theorem dX6_lay_190 : decode cX6_lay 190 = .ok (.getfield 50, 3) := by decide +kernel
theorem dX6_lay_193 : decode cX6_lay 193 = .ok (.iconst 1, 1) := by decide +kernel
theorem dX6_lay_194 : decode cX6_lay 194 = .ok (.isub, 1) := by decide +kernel
theorem dX6_lay_195 : decode cX6_lay 195 = .ok (.istore 5, 2) := by decide +kernel
theorem dX6_lay_197 : decode cX6_lay 197 = .ok (.iload 5, 2) := by decide +kernel
theorem dX6_lay_199 : decode cX6_lay 199 = .ok (.ifCond .lt 32, 3) := by decide +kernel
theorem dX6_lay_231 : decode cX6_lay 231 = .ok (.return_, 1) := by decide +kernel
theorem dX6_lay_202 : decode cX6_lay 202 = .ok (.iload_n 1, 1) := by decide +kernel
theorem dX6_lay_203 : decode cX6_lay 203 = .ok (.iload 5, 2) := by decide +kernel
theorem dX6_lay_205 : decode cX6_lay 205 = .ok (.ishr, 1) := by decide +kernel
theorem dX6_lay_206 : decode cX6_lay 206 = .ok (.iconst 1, 1) := by decide +kernel
theorem dX6_lay_207 : decode cX6_lay 207 = .ok (.iand, 1) := by decide +kernel
theorem dX6_lay_208 : decode cX6_lay 208 = .ok (.ifCond .eq 17, 3) := by decide +kernel
theorem dX6_lay_225 : decode cX6_lay 225 = .ok (.iinc 5 (-1), 3) := by decide +kernel
theorem dX6_lay_228 : decode cX6_lay 228 = .ok (.goto (-31), 3) := by decide +kernel
theorem dX6_lay_211 : decode cX6_lay 211 = .ok (.aload_n 0, 1) := by decide +kernel
theorem dX6_lay_212 : decode cX6_lay 212 = .ok (.getfield 12, 3) := by decide +kernel
theorem dX6_lay_215 : decode cX6_lay 215 = .ok (.aload_n 0, 1) := by decide +kernel
theorem dX6_lay_216 : decode cX6_lay 216 = .ok (.getfield 42, 3) := by decide +kernel
theorem kw_426 : Cond.fieldLink "LandSurvey$Search" 42 "LandSurvey$Search" "breaks" "[LLandSurvey$Break;" ∈ uu := uu_in (i := 426) (by decide +kernel) (by decide +kernel)
theorem fk_LandSurvey_Search_42 : fkR "LandSurvey$Search" 42 6 2 RX6 TX6 13 := ⟨rfl, rfl, inX6, by decide, kw_426, by decide⟩
theorem dX6_lay_219 : decode cX6_lay 219 = .ok (.iload 5, 2) := by decide +kernel
theorem dX6_lay_221 : decode cX6_lay 221 = .ok (.aaload, 1) := by decide +kernel
theorem dX6_lay_222 : decode cX6_lay 222 = .ok (.invokevirtual 171, 3) := by decide +kernel
theorem kw_1096 : Cond.code yX9_tear prog_11_method_4_code 10 none ∈ uu := uu_in (i := 1096) (by decide +kernel) (by decide +kernel)
theorem kw_1093 : Cond.methodLink "LandSurvey$Search" 171 yX9_tear ∈ uu := uu_in (i := 1093) (by decide +kernel) (by decide +kernel)
theorem kw_1094 : Cond.instanceMethod yX9_tear ∈ uu := uu_in (i := 1094) (by decide +kernel) (by decide +kernel)
theorem kw_1095 : Cond.selects "LandSurvey$Slopes" yX9_tear yX9_tear ∈ uu := uu_in (i := 1095) (by decide +kernel) (by decide +kernel)
theorem lk_LandSurvey_Search_171 : lkV "LandSurvey$Search" 171 yX9_tear cX9_tear 10 none 1 := ⟨kw_1093, kw_1094, kw_1095, kw_151, kw_1096, okX9_tear⟩
theorem dX6_lay_181 : decode cX6_lay 181 = .ok (.aload_n 0, 1) := by decide +kernel
theorem dX6_lay_182 : decode cX6_lay 182 = .ok (.getfield 18, 3) := by decide +kernel
theorem dX6_lay_185 : decode cX6_lay 185 = .ok (.iconst 0, 1) := by decide +kernel
theorem dX6_lay_186 : decode cX6_lay 186 = .ok (.invokestatic 141, 3) := by decide +kernel
theorem dX6_lay_44 : decode cX6_lay 44 = .ok (.aload_n 0, 1) := by decide +kernel
theorem dX6_lay_45 : decode cX6_lay 45 = .ok (.getfield 38, 3) := by decide +kernel
theorem dX6_lay_48 : decode cX6_lay 48 = .ok (.iload 5, 2) := by decide +kernel
theorem dX6_lay_50 : decode cX6_lay 50 = .ok (.aaload, 1) := by decide +kernel
theorem dX6_lay_51 : decode cX6_lay 51 = .ok (.astore 6, 2) := by decide +kernel
theorem dX6_lay_53 : decode cX6_lay 53 = .ok (.aload 6, 2) := by decide +kernel
theorem dX6_lay_55 : decode cX6_lay 55 = .ok (.getfield 91, 3) := by decide +kernel
theorem dX6_lay_58 : decode cX6_lay 58 = .ok (.ifCond .eq 112, 3) := by decide +kernel
theorem dX6_lay_170 : decode cX6_lay 170 = .ok (.iinc 5 1, 3) := by decide +kernel
theorem dX6_lay_173 : decode cX6_lay 173 = .ok (.goto (-138), 3) := by decide +kernel
theorem dX6_lay_61 : decode cX6_lay 61 = .ok (.lload_n 2, 1) := by decide +kernel
theorem dX6_lay_62 : decode cX6_lay 62 = .ok (.iload 5, 2) := by decide +kernel
theorem dX6_lay_64 : decode cX6_lay 64 = .ok (.lshr, 1) := by decide +kernel
theorem dX6_lay_65 : decode cX6_lay 65 = .ok (.lconst 1, 1) := by decide +kernel
theorem dX6_lay_66 : decode cX6_lay 66 = .ok (.land, 1) := by decide +kernel
theorem dX6_lay_67 : decode cX6_lay 67 = .ok (.lconst 0, 1) := by decide +kernel
theorem dX6_lay_68 : decode cX6_lay 68 = .ok (.lcmp, 1) := by decide +kernel
theorem dX6_lay_69 : decode cX6_lay 69 = .ok (.ifCond .ne 101, 3) := by decide +kernel
theorem dX6_lay_72 : decode cX6_lay 72 = .ok (.iconst 1, 1) := by decide +kernel
theorem dX6_lay_73 : decode cX6_lay 73 = .ok (.istore 4, 2) := by decide +kernel
theorem dX6_lay_75 : decode cX6_lay 75 = .ok (.aload_n 0, 1) := by decide +kernel
theorem dX6_lay_76 : decode cX6_lay 76 = .ok (.aload 6, 2) := by decide +kernel
theorem dX6_lay_78 : decode cX6_lay 78 = .ok (.lconst 1, 1) := by decide +kernel
theorem dX6_lay_79 : decode cX6_lay 79 = .ok (.iload 5, 2) := by decide +kernel
theorem dX6_lay_81 : decode cX6_lay 81 = .ok (.lshl, 1) := by decide +kernel
theorem dX6_lay_82 : decode cX6_lay 82 = .ok (.invokevirtual 148, 3) := by decide +kernel
theorem kw_1088 : Cond.code yX6_layBounds prog_8_method_9_code 5 none ∈ uu := uu_in (i := 1088) (by decide +kernel) (by decide +kernel)
theorem kw_1085 : Cond.methodLink "LandSurvey$Search" 148 yX6_layBounds ∈ uu := uu_in (i := 1085) (by decide +kernel) (by decide +kernel)
theorem kw_1087 : Cond.instanceMethod yX6_layBounds ∈ uu := uu_in (i := 1087) (by decide +kernel) (by decide +kernel)
theorem kw_29 : Cond.selects "LandSurvey$Search" yX6_layBounds yX6_layBounds ∈ uu := uu_in (i := 29) (by decide +kernel) (by decide +kernel)
theorem lk_LandSurvey_Search_148 : lkV "LandSurvey$Search" 148 yX6_layBounds cX6_layBounds 5 none 2 := ⟨kw_1085, kw_1087, kw_29, kw_150, kw_1088, okX6_layBounds⟩
theorem dX6_lay_85 : decode cX6_lay 85 = .ok (.aload 6, 2) := by decide +kernel
theorem dX6_lay_87 : decode cX6_lay 87 = .ok (.getfield 152, 3) := by decide +kernel
theorem kw_577 : Cond.fieldLink "LandSurvey$Search" 152 "LandSurvey$Sight" "dipBeyond" "I" ∈ uu := uu_in (i := 577) (by decide +kernel) (by decide +kernel)
theorem fk_LandSurvey_Search_152 : fkI "LandSurvey$Search" 152 8 8 RX8 TX8 19 := ⟨rfl, rfl, inX8, by decide, kw_577, by decide⟩
theorem dX6_lay_90 : decode cX6_lay 90 = .ok (.iconst (-1), 1) := by decide +kernel
theorem dX6_lay_91 : decode cX6_lay 91 = .ok (.if_icmp .eq 79, 3) := by decide +kernel
theorem dX6_lay_94 : decode cX6_lay 94 = .ok (.iconst 4, 1) := by decide +kernel
theorem dX6_lay_95 : decode cX6_lay 95 = .ok (.aload 6, 2) := by decide +kernel
theorem dX6_lay_97 : decode cX6_lay 97 = .ok (.getfield 152, 3) := by decide +kernel
theorem dX6_lay_100 : decode cX6_lay 100 = .ok (.imul, 1) := by decide +kernel
theorem dX6_lay_101 : decode cX6_lay 101 = .ok (.aload 6, 2) := by decide +kernel
theorem dX6_lay_103 : decode cX6_lay 103 = .ok (.getfield 155, 3) := by decide +kernel
theorem kw_574 : Cond.fieldLink "LandSurvey$Search" 155 "LandSurvey$Sight" "dipWhere" "I" ∈ uu := uu_in (i := 574) (by decide +kernel) (by decide +kernel)
theorem fk_LandSurvey_Search_155 : fkI "LandSurvey$Search" 155 8 7 RX8 TX8 19 := ⟨rfl, rfl, inX8, by decide, kw_574, by decide⟩
theorem dX6_lay_106 : decode cX6_lay 106 = .ok (.iconst 1, 1) := by decide +kernel
theorem dX6_lay_107 : decode cX6_lay 107 = .ok (.ixor, 1) := by decide +kernel
theorem dX6_lay_108 : decode cX6_lay 108 = .ok (.iadd, 1) := by decide +kernel
theorem dX6_lay_109 : decode cX6_lay 109 = .ok (.istore 7, 2) := by decide +kernel
theorem dX6_lay_111 : decode cX6_lay 111 = .ok (.aload_n 0, 1) := by decide +kernel
theorem dX6_lay_112 : decode cX6_lay 112 = .ok (.getfield 12, 3) := by decide +kernel
theorem dX6_lay_115 : decode cX6_lay 115 = .ok (.iconst 4, 1) := by decide +kernel
theorem dX6_lay_116 : decode cX6_lay 116 = .ok (.aload 6, 2) := by decide +kernel
theorem dX6_lay_118 : decode cX6_lay 118 = .ok (.getfield 158, 3) := by decide +kernel
theorem dX6_lay_121 : decode cX6_lay 121 = .ok (.imul, 1) := by decide +kernel
theorem dX6_lay_122 : decode cX6_lay 122 = .ok (.aload 6, 2) := by decide +kernel
theorem dX6_lay_124 : decode cX6_lay 124 = .ok (.getfield 155, 3) := by decide +kernel
theorem dX6_lay_127 : decode cX6_lay 127 = .ok (.iadd, 1) := by decide +kernel
theorem dX6_lay_128 : decode cX6_lay 128 = .ok (.aload 6, 2) := by decide +kernel
theorem dX6_lay_130 : decode cX6_lay 130 = .ok (.getfield 161, 3) := by decide +kernel
theorem kw_579 : Cond.fieldLink "LandSurvey$Search" 161 "LandSurvey$Sight" "dipRise" "I" ∈ uu := uu_in (i := 579) (by decide +kernel) (by decide +kernel)
theorem fk_LandSurvey_Search_161 : fkI "LandSurvey$Search" 161 8 9 RX8 TX8 19 := ⟨rfl, rfl, inX8, by decide, kw_579, by decide⟩
theorem dX6_lay_133 : decode cX6_lay 133 = .ok (.aload 6, 2) := by decide +kernel
theorem dX6_lay_135 : decode cX6_lay 135 = .ok (.getfield 164, 3) := by decide +kernel
theorem kw_581 : Cond.fieldLink "LandSurvey$Search" 164 "LandSurvey$Sight" "dipSlack" "I" ∈ uu := uu_in (i := 581) (by decide +kernel) (by decide +kernel)
theorem fk_LandSurvey_Search_164 : fkI "LandSurvey$Search" 164 8 10 RX8 TX8 19 := ⟨rfl, rfl, inX8, by decide, kw_581, by decide⟩
theorem dX6_lay_138 : decode cX6_lay 138 = .ok (.iadd, 1) := by decide +kernel
theorem dX6_lay_139 : decode cX6_lay 139 = .ok (.lconst 1, 1) := by decide +kernel
theorem dX6_lay_140 : decode cX6_lay 140 = .ok (.iload 5, 2) := by decide +kernel
theorem dX6_lay_142 : decode cX6_lay 142 = .ok (.lshl, 1) := by decide +kernel
theorem dX6_lay_143 : decode cX6_lay 143 = .ok (.invokevirtual 167, 3) := by decide +kernel
theorem kw_1092 : Cond.code yX9_narrow prog_11_method_3_code 5 none ∈ uu := uu_in (i := 1092) (by decide +kernel) (by decide +kernel)
theorem kw_1089 : Cond.methodLink "LandSurvey$Search" 167 yX9_narrow ∈ uu := uu_in (i := 1089) (by decide +kernel) (by decide +kernel)
theorem kw_1090 : Cond.instanceMethod yX9_narrow ∈ uu := uu_in (i := 1090) (by decide +kernel) (by decide +kernel)
theorem kw_1091 : Cond.selects "LandSurvey$Slopes" yX9_narrow yX9_narrow ∈ uu := uu_in (i := 1091) (by decide +kernel) (by decide +kernel)
theorem lk_LandSurvey_Search_167 : lkV "LandSurvey$Search" 167 yX9_narrow cX9_narrow 5 none 3 := ⟨kw_1089, kw_1090, kw_1091, kw_151, kw_1092, okX9_narrow⟩
theorem dX6_lay_146 : decode cX6_lay 146 = .ok (.aload_n 0, 1) := by decide +kernel
theorem dX6_lay_147 : decode cX6_lay 147 = .ok (.getfield 12, 3) := by decide +kernel
theorem dX6_lay_150 : decode cX6_lay 150 = .ok (.iload 7, 2) := by decide +kernel
theorem dX6_lay_152 : decode cX6_lay 152 = .ok (.aload 6, 2) := by decide +kernel
theorem dX6_lay_154 : decode cX6_lay 154 = .ok (.getfield 164, 3) := by decide +kernel
theorem dX6_lay_157 : decode cX6_lay 157 = .ok (.aload 6, 2) := by decide +kernel
theorem dX6_lay_159 : decode cX6_lay 159 = .ok (.getfield 161, 3) := by decide +kernel
theorem dX6_lay_162 : decode cX6_lay 162 = .ok (.isub, 1) := by decide +kernel
theorem dX6_lay_163 : decode cX6_lay 163 = .ok (.lconst 1, 1) := by decide +kernel
theorem dX6_lay_164 : decode cX6_lay 164 = .ok (.iload 5, 2) := by decide +kernel
theorem dX6_lay_166 : decode cX6_lay 166 = .ok (.lshl, 1) := by decide +kernel
theorem dX6_lay_167 : decode cX6_lay 167 = .ok (.invokevirtual 167, 3) := by decide +kernel
abbrev cX6_findClash : ByteArray := prog_8_method_7_code
def yX6_findClash : MethodName := ⟨RX6, "findClash", "(IJ)J"⟩
theorem okX6_findClash : yok yX6_findClash 2 := by decide +kernel
theorem kw_438 : Cond.fieldLink "LandSurvey$Search" 100 "LandSurvey$Search" "fits" "Z" ∈ uu := uu_in (i := 438) (by decide +kernel) (by decide +kernel)
theorem fk_LandSurvey_Search_100 : fkI "LandSurvey$Search" 100 6 12 RX6 TX6 13 := ⟨rfl, rfl, inX6, by decide, kw_438, by decide⟩
theorem kw_414 : Cond.fieldLink "LandSurvey$Search" 123 "LandSurvey$Slopes" "moved" "Z" ∈ uu := uu_in (i := 414) (by decide +kernel) (by decide +kernel)
theorem fk_LandSurvey_Search_123 : fkI "LandSurvey$Search" 123 9 3 RX9 TX9 4 := ⟨rfl, rfl, inX9, by decide, kw_414, by decide⟩
theorem dX6_findClash_0 : decode cX6_findClash 0 = .ok (.aload_n 0, 1) := by decide +kernel
theorem dX6_findClash_1 : decode cX6_findClash 1 = .ok (.iload_n 1, 1) := by decide +kernel
theorem dX6_findClash_2 : decode cX6_findClash 2 = .ok (.lload_n 2, 1) := by decide +kernel
theorem dX6_findClash_3 : decode cX6_findClash 3 = .ok (.invokevirtual 111, 3) := by decide +kernel
theorem kw_1073 : Cond.code yX6_lay prog_8_method_8_code 8 none ∈ uu := uu_in (i := 1073) (by decide +kernel) (by decide +kernel)
theorem kw_1070 : Cond.methodLink "LandSurvey$Search" 111 yX6_lay ∈ uu := uu_in (i := 1070) (by decide +kernel) (by decide +kernel)
theorem kw_1071 : Cond.instanceMethod yX6_lay ∈ uu := uu_in (i := 1071) (by decide +kernel) (by decide +kernel)
theorem kw_1072 : Cond.selects "LandSurvey$Search" yX6_lay yX6_lay ∈ uu := uu_in (i := 1072) (by decide +kernel) (by decide +kernel)
theorem lk_LandSurvey_Search_111 : lkV "LandSurvey$Search" 111 yX6_lay cX6_lay 8 none 2 := ⟨kw_1070, kw_1071, kw_1072, kw_150, kw_1073, okX6_lay⟩
theorem dX6_findClash_6 : decode cX6_findClash 6 = .ok (.aload_n 0, 1) := by decide +kernel
theorem dX6_findClash_7 : decode cX6_findClash 7 = .ok (.iconst 0, 1) := by decide +kernel
theorem dX6_findClash_8 : decode cX6_findClash 8 = .ok (.putfield 100, 3) := by decide +kernel
theorem pk_LandSurvey_Search_12 : pk RX6 TX6 13 12 tyX6 false := ⟨tyX6_ok, nmX6, rfl⟩
theorem dX6_findClash_11 : decode cX6_findClash 11 = .ok (.iconst 0, 1) := by decide +kernel
theorem dX6_findClash_12 : decode cX6_findClash 12 = .ok (.istore 4, 2) := by decide +kernel
theorem dX6_findClash_14 : decode cX6_findClash 14 = .ok (.iload 4, 2) := by decide +kernel
theorem dX6_findClash_16 : decode cX6_findClash 16 = .ok (.sipush 192, 3) := by decide +kernel
theorem dX6_findClash_19 : decode cX6_findClash 19 = .ok (.if_icmp .gt 94, 3) := by decide +kernel
theorem dX6_findClash_113 : decode cX6_findClash 113 = .ok (.lconst 0, 1) := by decide +kernel
theorem dX6_findClash_114 : decode cX6_findClash 114 = .ok (.lreturn, 1) := by decide +kernel
theorem dX6_findClash_22 : decode cX6_findClash 22 = .ok (.aload_n 0, 1) := by decide +kernel
theorem dX6_findClash_23 : decode cX6_findClash 23 = .ok (.invokevirtual 115, 3) := by decide +kernel
theorem kw_1100 : Cond.code yX6_firstBelowFloor prog_8_method_10_code 2 (some .int) ∈ uu := uu_in (i := 1100) (by decide +kernel) (by decide +kernel)
theorem kw_1097 : Cond.methodLink "LandSurvey$Search" 115 yX6_firstBelowFloor ∈ uu := uu_in (i := 1097) (by decide +kernel) (by decide +kernel)
theorem kw_1099 : Cond.instanceMethod yX6_firstBelowFloor ∈ uu := uu_in (i := 1099) (by decide +kernel) (by decide +kernel)
theorem kw_30 : Cond.selects "LandSurvey$Search" yX6_firstBelowFloor yX6_firstBelowFloor ∈ uu := uu_in (i := 30) (by decide +kernel) (by decide +kernel)
theorem lk_LandSurvey_Search_115 : lkV "LandSurvey$Search" 115 yX6_firstBelowFloor cX6_firstBelowFloor 2 (some .int) 0 := ⟨kw_1097, kw_1099, kw_30, kw_150, kw_1100, okX6_firstBelowFloor⟩
theorem dX6_findClash_26 : decode cX6_findClash 26 = .ok (.istore 5, 2) := by decide +kernel
theorem dX6_findClash_28 : decode cX6_findClash 28 = .ok (.iload 5, 2) := by decide +kernel
theorem dX6_findClash_30 : decode cX6_findClash 30 = .ok (.iconst (-1), 1) := by decide +kernel
theorem dX6_findClash_31 : decode cX6_findClash 31 = .ok (.if_icmp .eq 10, 3) := by decide +kernel
theorem dX6_findClash_41 : decode cX6_findClash 41 = .ok (.aload_n 0, 1) := by decide +kernel
theorem dX6_findClash_42 : decode cX6_findClash 42 = .ok (.getfield 12, 3) := by decide +kernel
theorem dX6_findClash_45 : decode cX6_findClash 45 = .ok (.iconst 0, 1) := by decide +kernel
theorem dX6_findClash_46 : decode cX6_findClash 46 = .ok (.putfield 123, 3) := by decide +kernel
theorem dX6_findClash_49 : decode cX6_findClash 49 = .ok (.aload_n 0, 1) := by decide +kernel
theorem dX6_findClash_50 : decode cX6_findClash 50 = .ok (.getfield 12, 3) := by decide +kernel
theorem dX6_findClash_53 : decode cX6_findClash 53 = .ok (.aload_n 0, 1) := by decide +kernel
theorem dX6_findClash_54 : decode cX6_findClash 54 = .ok (.getfield 18, 3) := by decide +kernel
theorem dX6_findClash_57 : decode cX6_findClash 57 = .ok (.iconst 0, 1) := by decide +kernel
theorem dX6_findClash_58 : decode cX6_findClash 58 = .ok (.invokevirtual 126, 3) := by decide +kernel
theorem kw_1109 : Cond.methodLink "LandSurvey$Search" 126 yX9_sweep ∈ uu := uu_in (i := 1109) (by decide +kernel) (by decide +kernel)
theorem lk_LandSurvey_Search_126 : lkV "LandSurvey$Search" 126 yX9_sweep cX9_sweep 5 none 2 := ⟨kw_1109, kw_1110, kw_1111, kw_151, kw_1112, okX9_sweep⟩
theorem dX6_findClash_61 : decode cX6_findClash 61 = .ok (.aload_n 0, 1) := by decide +kernel
theorem dX6_findClash_62 : decode cX6_findClash 62 = .ok (.getfield 12, 3) := by decide +kernel
theorem dX6_findClash_65 : decode cX6_findClash 65 = .ok (.getfield 123, 3) := by decide +kernel
theorem dX6_findClash_68 : decode cX6_findClash 68 = .ok (.ifCond .ne 10, 3) := by decide +kernel
theorem dX6_findClash_78 : decode cX6_findClash 78 = .ok (.iload 4, 2) := by decide +kernel
theorem dX6_findClash_80 : decode cX6_findClash 80 = .ok (.iconst 3, 1) := by decide +kernel
theorem dX6_findClash_81 : decode cX6_findClash 81 = .ok (.if_icmp .ge 7, 3) := by decide +kernel
theorem dX6_findClash_88 : decode cX6_findClash 88 = .ok (.aload_n 0, 1) := by decide +kernel
theorem dX6_findClash_89 : decode cX6_findClash 89 = .ok (.invokevirtual 130, 3) := by decide +kernel
theorem kw_1121 : Cond.code yX6_firstOnLoop prog_8_method_11_code 4 (some .int) ∈ uu := uu_in (i := 1121) (by decide +kernel) (by decide +kernel)
theorem kw_1118 : Cond.methodLink "LandSurvey$Search" 130 yX6_firstOnLoop ∈ uu := uu_in (i := 1118) (by decide +kernel) (by decide +kernel)
theorem kw_1120 : Cond.instanceMethod yX6_firstOnLoop ∈ uu := uu_in (i := 1120) (by decide +kernel) (by decide +kernel)
theorem kw_34 : Cond.selects "LandSurvey$Search" yX6_firstOnLoop yX6_firstOnLoop ∈ uu := uu_in (i := 34) (by decide +kernel) (by decide +kernel)
theorem lk_LandSurvey_Search_130 : lkV "LandSurvey$Search" 130 yX6_firstOnLoop cX6_firstOnLoop 4 (some .int) 0 := ⟨kw_1118, kw_1120, kw_34, kw_150, kw_1121, okX6_firstOnLoop⟩
theorem dX6_findClash_92 : decode cX6_findClash 92 = .ok (.istore 6, 2) := by decide +kernel
theorem dX6_findClash_94 : decode cX6_findClash 94 = .ok (.iload 6, 2) := by decide +kernel
theorem dX6_findClash_96 : decode cX6_findClash 96 = .ok (.iconst (-1), 1) := by decide +kernel
theorem dX6_findClash_97 : decode cX6_findClash 97 = .ok (.if_icmp .eq 10, 3) := by decide +kernel
theorem dX6_findClash_107 : decode cX6_findClash 107 = .ok (.iinc 4 1, 3) := by decide +kernel
theorem dX6_findClash_110 : decode cX6_findClash 110 = .ok (.goto (-96), 3) := by decide +kernel
theorem dX6_findClash_100 : decode cX6_findClash 100 = .ok (.aload_n 0, 1) := by decide +kernel
theorem dX6_findClash_101 : decode cX6_findClash 101 = .ok (.iload 6, 2) := by decide +kernel
theorem dX6_findClash_103 : decode cX6_findClash 103 = .ok (.invokevirtual 133, 3) := by decide +kernel
theorem dX6_findClash_106 : decode cX6_findClash 106 = .ok (.lreturn, 1) := by decide +kernel
theorem dX6_findClash_84 : decode cX6_findClash 84 = .ok (.iconst (-1), 1) := by decide +kernel
theorem dX6_findClash_85 : decode cX6_findClash 85 = .ok (.goto 7, 3) := by decide +kernel
theorem dX6_findClash_71 : decode cX6_findClash 71 = .ok (.aload_n 0, 1) := by decide +kernel
theorem dX6_findClash_72 : decode cX6_findClash 72 = .ok (.iconst 1, 1) := by decide +kernel
theorem dX6_findClash_73 : decode cX6_findClash 73 = .ok (.putfield 100, 3) := by decide +kernel
theorem dX6_findClash_76 : decode cX6_findClash 76 = .ok (.lconst 0, 1) := by decide +kernel
theorem dX6_findClash_77 : decode cX6_findClash 77 = .ok (.lreturn, 1) := by decide +kernel
theorem dX6_findClash_34 : decode cX6_findClash 34 = .ok (.aload_n 0, 1) := by decide +kernel
theorem dX6_findClash_35 : decode cX6_findClash 35 = .ok (.iload 5, 2) := by decide +kernel
theorem dX6_findClash_37 : decode cX6_findClash 37 = .ok (.invokevirtual 119, 3) := by decide +kernel
theorem kw_1104 : Cond.code yX6_blameWayTo prog_8_method_12_code 7 (some .long) ∈ uu := uu_in (i := 1104) (by decide +kernel) (by decide +kernel)
theorem kw_1101 : Cond.methodLink "LandSurvey$Search" 119 yX6_blameWayTo ∈ uu := uu_in (i := 1101) (by decide +kernel) (by decide +kernel)
theorem kw_1103 : Cond.instanceMethod yX6_blameWayTo ∈ uu := uu_in (i := 1103) (by decide +kernel) (by decide +kernel)
theorem kw_31 : Cond.selects "LandSurvey$Search" yX6_blameWayTo yX6_blameWayTo ∈ uu := uu_in (i := 31) (by decide +kernel) (by decide +kernel)
theorem lk_LandSurvey_Search_119 : lkV "LandSurvey$Search" 119 yX6_blameWayTo cX6_blameWayTo 7 (some .long) 1 := ⟨kw_1101, kw_1103, kw_31, kw_150, kw_1104, okX6_blameWayTo⟩
theorem dX6_findClash_40 : decode cX6_findClash 40 = .ok (.lreturn, 1) := by decide +kernel
abbrev cX6_weigh : ByteArray := prog_8_method_5_code
def yX6_weigh : MethodName := ⟨RX6, "weigh", "(LLandSurvey$Ground;JJII)V"⟩
theorem okX6_weigh : yok yX6_weigh 5 := by decide +kernel
theorem dX6_weigh_0 : decode cX6_weigh 0 = .ok (.aload_n 0, 1) := by decide +kernel
theorem dX6_weigh_1 : decode cX6_weigh 1 = .ok (.aload_n 1, 1) := by decide +kernel
theorem dX6_weigh_2 : decode cX6_weigh 2 = .ok (.getfield 68, 3) := by decide +kernel
theorem kw_1014 : Cond.fieldLink "LandSurvey$Search" 68 "LandSurvey$Ground" "set" "I" ∈ uu := uu_in (i := 1014) (by decide +kernel) (by decide +kernel)
theorem fk_LandSurvey_Search_68 : fkI "LandSurvey$Search" 68 1 0 RX1 TX1 9 := ⟨rfl, rfl, inX1, by decide, kw_1014, by decide⟩
theorem dX6_weigh_5 : decode cX6_weigh 5 = .ok (.lload_n 2, 1) := by decide +kernel
theorem dX6_weigh_6 : decode cX6_weigh 6 = .ok (.invokevirtual 96, 3) := by decide +kernel
theorem kw_1069 : Cond.code yX6_findClash prog_8_method_7_code 7 (some .long) ∈ uu := uu_in (i := 1069) (by decide +kernel) (by decide +kernel)
theorem kw_1066 : Cond.methodLink "LandSurvey$Search" 96 yX6_findClash ∈ uu := uu_in (i := 1066) (by decide +kernel) (by decide +kernel)
theorem kw_1068 : Cond.instanceMethod yX6_findClash ∈ uu := uu_in (i := 1068) (by decide +kernel) (by decide +kernel)
theorem kw_28 : Cond.selects "LandSurvey$Search" yX6_findClash yX6_findClash ∈ uu := uu_in (i := 28) (by decide +kernel) (by decide +kernel)
theorem lk_LandSurvey_Search_96 : lkV "LandSurvey$Search" 96 yX6_findClash cX6_findClash 7 (some .long) 2 := ⟨kw_1066, kw_1068, kw_28, kw_150, kw_1069, okX6_findClash⟩
theorem dX6_weigh_9 : decode cX6_weigh 9 = .ok (.lstore 8, 2) := by decide +kernel
theorem dX6_weigh_11 : decode cX6_weigh 11 = .ok (.aload_n 0, 1) := by decide +kernel
theorem dX6_weigh_12 : decode cX6_weigh 12 = .ok (.getfield 100, 3) := by decide +kernel
theorem dX6_weigh_15 : decode cX6_weigh 15 = .ok (.ifCond .eq 20, 3) := by decide +kernel
theorem dX6_weigh_35 : decode cX6_weigh 35 = .ok (.iload 7, 2) := by decide +kernel
theorem dX6_weigh_37 : decode cX6_weigh 37 = .ok (.iconst 3, 1) := by decide +kernel
theorem dX6_weigh_38 : decode cX6_weigh 38 = .ok (.if_icmp .lt 4, 3) := by decide +kernel
theorem dX6_weigh_41 : decode cX6_weigh 41 = .ok (.return_, 1) := by decide +kernel
theorem dX6_weigh_18 : decode cX6_weigh 18 = .ok (.aload_n 1, 1) := by decide +kernel
theorem dX6_weigh_19 : decode cX6_weigh 19 = .ok (.iconst 1, 1) := by decide +kernel
theorem dX6_weigh_20 : decode cX6_weigh 20 = .ok (.putfield 62, 3) := by decide +kernel
theorem pk_LandSurvey_Ground_2 : pk RX1 TX1 9 2 tyX1 false := ⟨tyX1_ok, nmX1, rfl⟩
theorem dX6_weigh_23 : decode cX6_weigh 23 = .ok (.aload_n 1, 1) := by decide +kernel
theorem dX6_weigh_24 : decode cX6_weigh 24 = .ok (.iload 6, 2) := by decide +kernel
theorem dX6_weigh_26 : decode cX6_weigh 26 = .ok (.putfield 103, 3) := by decide +kernel
theorem pk_LandSurvey_Ground_3 : pk RX1 TX1 9 3 tyX1 false := ⟨tyX1_ok, nmX1, rfl⟩
theorem dX6_weigh_29 : decode cX6_weigh 29 = .ok (.aload_n 1, 1) := by decide +kernel
theorem dX6_weigh_30 : decode cX6_weigh 30 = .ok (.lload_n 2, 1) := by decide +kernel
theorem dX6_weigh_31 : decode cX6_weigh 31 = .ok (.putfield 80, 3) := by decide +kernel
theorem pk_LandSurvey_Ground_4 : pk RX1 TX1 9 4 tyX1 false := ⟨tyX1_ok, nmX1, rfl⟩
theorem dX6_weigh_34 : decode cX6_weigh 34 = .ok (.return_, 1) := by decide +kernel
theorem dX6_weigh_42 : decode cX6_weigh 42 = .ok (.lload 4, 2) := by decide +kernel
theorem dX6_weigh_44 : decode cX6_weigh 44 = .ok (.lstore 10, 2) := by decide +kernel
theorem dX6_weigh_46 : decode cX6_weigh 46 = .ok (.iconst 0, 1) := by decide +kernel
theorem dX6_weigh_47 : decode cX6_weigh 47 = .ok (.istore 12, 2) := by decide +kernel
theorem dX6_weigh_49 : decode cX6_weigh 49 = .ok (.iload 12, 2) := by decide +kernel
theorem dX6_weigh_51 : decode cX6_weigh 51 = .ok (.aload_n 0, 1) := by decide +kernel
theorem dX6_weigh_52 : decode cX6_weigh 52 = .ok (.getfield 46, 3) := by decide +kernel
theorem dX6_weigh_55 : decode cX6_weigh 55 = .ok (.if_icmp .ge 94, 3) := by decide +kernel
theorem dX6_weigh_149 : decode cX6_weigh 149 = .ok (.return_, 1) := by decide +kernel
theorem dX6_weigh_58 : decode cX6_weigh 58 = .ok (.lconst 1, 1) := by decide +kernel
theorem dX6_weigh_59 : decode cX6_weigh 59 = .ok (.iload 12, 2) := by decide +kernel
theorem dX6_weigh_61 : decode cX6_weigh 61 = .ok (.lshl, 1) := by decide +kernel
theorem dX6_weigh_62 : decode cX6_weigh 62 = .ok (.lstore 13, 2) := by decide +kernel
theorem dX6_weigh_64 : decode cX6_weigh 64 = .ok (.lload 8, 2) := by decide +kernel
theorem dX6_weigh_66 : decode cX6_weigh 66 = .ok (.lload 13, 2) := by decide +kernel
theorem dX6_weigh_68 : decode cX6_weigh 68 = .ok (.land, 1) := by decide +kernel
theorem dX6_weigh_69 : decode cX6_weigh 69 = .ok (.lconst 0, 1) := by decide +kernel
theorem dX6_weigh_70 : decode cX6_weigh 70 = .ok (.lcmp, 1) := by decide +kernel
theorem dX6_weigh_71 : decode cX6_weigh 71 = .ok (.ifCond .eq 72, 3) := by decide +kernel
theorem dX6_weigh_143 : decode cX6_weigh 143 = .ok (.iinc 12 1, 3) := by decide +kernel
theorem dX6_weigh_146 : decode cX6_weigh 146 = .ok (.goto (-97), 3) := by decide +kernel
theorem dX6_weigh_74 : decode cX6_weigh 74 = .ok (.lload 10, 2) := by decide +kernel
theorem dX6_weigh_76 : decode cX6_weigh 76 = .ok (.lload 13, 2) := by decide +kernel
theorem dX6_weigh_78 : decode cX6_weigh 78 = .ok (.land, 1) := by decide +kernel
theorem dX6_weigh_79 : decode cX6_weigh 79 = .ok (.lconst 0, 1) := by decide +kernel
theorem dX6_weigh_80 : decode cX6_weigh 80 = .ok (.lcmp, 1) := by decide +kernel
theorem dX6_weigh_81 : decode cX6_weigh 81 = .ok (.ifCond .ne 62, 3) := by decide +kernel
theorem dX6_weigh_84 : decode cX6_weigh 84 = .ok (.aload_n 1, 1) := by decide +kernel
theorem dX6_weigh_85 : decode cX6_weigh 85 = .ok (.iload 6, 2) := by decide +kernel
theorem dX6_weigh_87 : decode cX6_weigh 87 = .ok (.aload_n 0, 1) := by decide +kernel
theorem dX6_weigh_88 : decode cX6_weigh 88 = .ok (.getfield 38, 3) := by decide +kernel
theorem dX6_weigh_91 : decode cX6_weigh 91 = .ok (.iload 12, 2) := by decide +kernel
theorem dX6_weigh_93 : decode cX6_weigh 93 = .ok (.aaload, 1) := by decide +kernel
theorem dX6_weigh_94 : decode cX6_weigh 94 = .ok (.getfield 104, 3) := by decide +kernel
theorem kw_589 : Cond.fieldLink "LandSurvey$Search" 104 "LandSurvey$Sight" "worth" "I" ∈ uu := uu_in (i := 589) (by decide +kernel) (by decide +kernel)
theorem fk_LandSurvey_Search_104 : fkI "LandSurvey$Search" 104 8 15 RX8 TX8 19 := ⟨rfl, rfl, inX8, by decide, kw_589, by decide⟩
theorem dX6_weigh_97 : decode cX6_weigh 97 = .ok (.iadd, 1) := by decide +kernel
theorem dX6_weigh_98 : decode cX6_weigh 98 = .ok (.lload_n 2, 1) := by decide +kernel
theorem dX6_weigh_99 : decode cX6_weigh 99 = .ok (.lload 13, 2) := by decide +kernel
theorem dX6_weigh_101 : decode cX6_weigh 101 = .ok (.lor, 1) := by decide +kernel
theorem dX6_weigh_102 : decode cX6_weigh 102 = .ok (.invokestatic 107, 3) := by decide +kernel
theorem kw_1124 : Cond.code yX6_isBetter prog_8_method_6_code 4 (some .boolean) ∈ uu := uu_in (i := 1124) (by decide +kernel) (by decide +kernel)
theorem kw_1122 : Cond.methodLink "LandSurvey$Search" 107 yX6_isBetter ∈ uu := uu_in (i := 1122) (by decide +kernel) (by decide +kernel)
theorem kw_1123 : Cond.static yX6_isBetter ∈ uu := uu_in (i := 1123) (by decide +kernel) (by decide +kernel)
theorem lk_LandSurvey_Search_107 : lkS "LandSurvey$Search" 107 yX6_isBetter cX6_isBetter 4 (some .boolean) 3 := ⟨kw_1122, kw_1123, kw_150, kw_1124, okX6_isBetter⟩
theorem dX6_weigh_105 : decode cX6_weigh 105 = .ok (.ifCond .eq 31, 3) := by decide +kernel
theorem dX6_weigh_136 : decode cX6_weigh 136 = .ok (.lload 10, 2) := by decide +kernel
theorem dX6_weigh_138 : decode cX6_weigh 138 = .ok (.lload 13, 2) := by decide +kernel
theorem dX6_weigh_140 : decode cX6_weigh 140 = .ok (.lor, 1) := by decide +kernel
theorem dX6_weigh_141 : decode cX6_weigh 141 = .ok (.lstore 10, 2) := by decide +kernel
theorem dX6_weigh_108 : decode cX6_weigh 108 = .ok (.aload_n 0, 1) := by decide +kernel
theorem dX6_weigh_109 : decode cX6_weigh 109 = .ok (.aload_n 1, 1) := by decide +kernel
theorem dX6_weigh_110 : decode cX6_weigh 110 = .ok (.lload_n 2, 1) := by decide +kernel
theorem dX6_weigh_111 : decode cX6_weigh 111 = .ok (.lload 13, 2) := by decide +kernel
theorem dX6_weigh_113 : decode cX6_weigh 113 = .ok (.lor, 1) := by decide +kernel
theorem dX6_weigh_114 : decode cX6_weigh 114 = .ok (.lload 10, 2) := by decide +kernel
theorem dX6_weigh_116 : decode cX6_weigh 116 = .ok (.iload 6, 2) := by decide +kernel
theorem dX6_weigh_118 : decode cX6_weigh 118 = .ok (.aload_n 0, 1) := by decide +kernel
theorem dX6_weigh_119 : decode cX6_weigh 119 = .ok (.getfield 38, 3) := by decide +kernel
theorem dX6_weigh_122 : decode cX6_weigh 122 = .ok (.iload 12, 2) := by decide +kernel
theorem dX6_weigh_124 : decode cX6_weigh 124 = .ok (.aaload, 1) := by decide +kernel
theorem dX6_weigh_125 : decode cX6_weigh 125 = .ok (.getfield 104, 3) := by decide +kernel
theorem dX6_weigh_128 : decode cX6_weigh 128 = .ok (.iadd, 1) := by decide +kernel
theorem dX6_weigh_129 : decode cX6_weigh 129 = .ok (.iload 7, 2) := by decide +kernel
theorem dX6_weigh_131 : decode cX6_weigh 131 = .ok (.iconst 1, 1) := by decide +kernel
theorem dX6_weigh_132 : decode cX6_weigh 132 = .ok (.iadd, 1) := by decide +kernel
theorem dX6_weigh_133 : decode cX6_weigh 133 = .ok (.invokevirtual 76, 3) := by decide +kernel
theorem kw_1065 : Cond.code yX6_weigh prog_8_method_5_code 15 none ∈ uu := uu_in (i := 1065) (by decide +kernel) (by decide +kernel)
theorem kw_1062 : Cond.methodLink "LandSurvey$Search" 76 yX6_weigh ∈ uu := uu_in (i := 1062) (by decide +kernel) (by decide +kernel)
theorem kw_1064 : Cond.instanceMethod yX6_weigh ∈ uu := uu_in (i := 1064) (by decide +kernel) (by decide +kernel)
theorem kw_27 : Cond.selects "LandSurvey$Search" yX6_weigh yX6_weigh ∈ uu := uu_in (i := 27) (by decide +kernel) (by decide +kernel)
theorem lk_LandSurvey_Search_76 : lkV "LandSurvey$Search" 76 yX6_weigh cX6_weigh 15 none 5 := ⟨kw_1062, kw_1064, kw_27, kw_150, kw_1065, okX6_weigh⟩
abbrev cX6_solve : ByteArray := prog_8_method_3_code
def yX6_solve : MethodName := ⟨RX6, "solve", "(LLandSurvey$Ground;)V"⟩
theorem okX6_solve : yok yX6_solve 1 := by decide +kernel
theorem kw_1016 : Cond.fieldLink "LandSurvey$Search" 56 "LandSurvey$Ground" "solved" "Z" ∈ uu := uu_in (i := 1016) (by decide +kernel) (by decide +kernel)
theorem fk_LandSurvey_Search_56 : fkI "LandSurvey$Search" 56 1 1 RX1 TX1 9 := ⟨rfl, rfl, inX1, by decide, kw_1016, by decide⟩
theorem kw_1027 : Cond.fieldLink "LandSurvey$Search" 65 "LandSurvey$Ground" "spanned" "Z" ∈ uu := uu_in (i := 1027) (by decide +kernel) (by decide +kernel)
theorem fk_LandSurvey_Search_65 : fkI "LandSurvey$Search" 65 1 6 RX1 TX1 9 := ⟨rfl, rfl, inX1, by decide, kw_1027, by decide⟩
theorem kw_1025 : Cond.fieldLink "LandSurvey$Search" 88 "LandSurvey$Ground" "known" "Z" ∈ uu := uu_in (i := 1025) (by decide +kernel) (by decide +kernel)
theorem fk_LandSurvey_Search_88 : fkI "LandSurvey$Search" 88 1 5 RX1 TX1 9 := ⟨rfl, rfl, inX1, by decide, kw_1025, by decide⟩
theorem dX6_solve_0 : decode cX6_solve 0 = .ok (.aload_n 1, 1) := by decide +kernel
theorem dX6_solve_1 : decode cX6_solve 1 = .ok (.iconst 1, 1) := by decide +kernel
theorem dX6_solve_2 : decode cX6_solve 2 = .ok (.putfield 56, 3) := by decide +kernel
theorem pk_LandSurvey_Ground_1 : pk RX1 TX1 9 1 tyX1 false := ⟨tyX1_ok, nmX1, rfl⟩
theorem dX6_solve_5 : decode cX6_solve 5 = .ok (.aload_n 1, 1) := by decide +kernel
theorem dX6_solve_6 : decode cX6_solve 6 = .ok (.iconst 0, 1) := by decide +kernel
theorem dX6_solve_7 : decode cX6_solve 7 = .ok (.putfield 62, 3) := by decide +kernel
theorem dX6_solve_10 : decode cX6_solve 10 = .ok (.aload_n 1, 1) := by decide +kernel
theorem dX6_solve_11 : decode cX6_solve 11 = .ok (.iconst 0, 1) := by decide +kernel
theorem dX6_solve_12 : decode cX6_solve 12 = .ok (.putfield 65, 3) := by decide +kernel
theorem pk_LandSurvey_Ground_6 : pk RX1 TX1 9 6 tyX1 false := ⟨tyX1_ok, nmX1, rfl⟩
theorem dX6_solve_15 : decode cX6_solve 15 = .ok (.iconst 0, 1) := by decide +kernel
theorem dX6_solve_16 : decode cX6_solve 16 = .ok (.istore_n 2, 1) := by decide +kernel
theorem dX6_solve_17 : decode cX6_solve 17 = .ok (.iconst 0, 1) := by decide +kernel
theorem dX6_solve_18 : decode cX6_solve 18 = .ok (.istore_n 3, 1) := by decide +kernel
theorem dX6_solve_19 : decode cX6_solve 19 = .ok (.iload_n 3, 1) := by decide +kernel
theorem dX6_solve_20 : decode cX6_solve 20 = .ok (.aload_n 0, 1) := by decide +kernel
theorem dX6_solve_21 : decode cX6_solve 21 = .ok (.getfield 50, 3) := by decide +kernel
theorem dX6_solve_24 : decode cX6_solve 24 = .ok (.if_icmp .ge 36, 3) := by decide +kernel
theorem dX6_solve_60 : decode cX6_solve 60 = .ok (.aload_n 0, 1) := by decide +kernel
theorem dX6_solve_61 : decode cX6_solve 61 = .ok (.aload_n 1, 1) := by decide +kernel
theorem dX6_solve_62 : decode cX6_solve 62 = .ok (.lconst 0, 1) := by decide +kernel
theorem dX6_solve_63 : decode cX6_solve 63 = .ok (.lconst 0, 1) := by decide +kernel
theorem dX6_solve_64 : decode cX6_solve 64 = .ok (.iload_n 2, 1) := by decide +kernel
theorem dX6_solve_65 : decode cX6_solve 65 = .ok (.iconst 0, 1) := by decide +kernel
theorem dX6_solve_66 : decode cX6_solve 66 = .ok (.invokevirtual 76, 3) := by decide +kernel
theorem dX6_solve_69 : decode cX6_solve 69 = .ok (.aload_n 1, 1) := by decide +kernel
theorem dX6_solve_70 : decode cX6_solve 70 = .ok (.aload_n 1, 1) := by decide +kernel
theorem dX6_solve_71 : decode cX6_solve 71 = .ok (.getfield 62, 3) := by decide +kernel
theorem dX6_solve_74 : decode cX6_solve 74 = .ok (.ifCond .eq 18, 3) := by decide +kernel
theorem dX6_solve_92 : decode cX6_solve 92 = .ok (.iconst 0, 1) := by decide +kernel
theorem dX6_solve_93 : decode cX6_solve 93 = .ok (.putfield 88, 3) := by decide +kernel
theorem pk_LandSurvey_Ground_5 : pk RX1 TX1 9 5 tyX1 false := ⟨tyX1_ok, nmX1, rfl⟩
theorem dX6_solve_96 : decode cX6_solve 96 = .ok (.return_, 1) := by decide +kernel
theorem dX6_solve_77 : decode cX6_solve 77 = .ok (.aload_n 0, 1) := by decide +kernel
theorem dX6_solve_78 : decode cX6_solve 78 = .ok (.aload_n 1, 1) := by decide +kernel
theorem dX6_solve_79 : decode cX6_solve 79 = .ok (.getfield 80, 3) := by decide +kernel
theorem dX6_solve_82 : decode cX6_solve 82 = .ok (.invokevirtual 84, 3) := by decide +kernel
theorem kw_1128 : Cond.code yX6_saysAnything prog_8_method_4_code 4 (some .boolean) ∈ uu := uu_in (i := 1128) (by decide +kernel) (by decide +kernel)
theorem kw_1125 : Cond.methodLink "LandSurvey$Search" 84 yX6_saysAnything ∈ uu := uu_in (i := 1125) (by decide +kernel) (by decide +kernel)
theorem kw_1127 : Cond.instanceMethod yX6_saysAnything ∈ uu := uu_in (i := 1127) (by decide +kernel) (by decide +kernel)
theorem kw_35 : Cond.selects "LandSurvey$Search" yX6_saysAnything yX6_saysAnything ∈ uu := uu_in (i := 35) (by decide +kernel) (by decide +kernel)
theorem lk_LandSurvey_Search_84 : lkV "LandSurvey$Search" 84 yX6_saysAnything cX6_saysAnything 4 (some .boolean) 1 := ⟨kw_1125, kw_1127, kw_35, kw_150, kw_1128, okX6_saysAnything⟩
theorem dX6_solve_85 : decode cX6_solve 85 = .ok (.ifCond .eq 7, 3) := by decide +kernel
theorem dX6_solve_88 : decode cX6_solve 88 = .ok (.iconst 1, 1) := by decide +kernel
theorem dX6_solve_89 : decode cX6_solve 89 = .ok (.goto 4, 3) := by decide +kernel
theorem dX6_solve_27 : decode cX6_solve 27 = .ok (.iload_n 2, 1) := by decide +kernel
theorem dX6_solve_28 : decode cX6_solve 28 = .ok (.aload_n 1, 1) := by decide +kernel
theorem dX6_solve_29 : decode cX6_solve 29 = .ok (.getfield 68, 3) := by decide +kernel
theorem dX6_solve_32 : decode cX6_solve 32 = .ok (.iload_n 3, 1) := by decide +kernel
theorem dX6_solve_33 : decode cX6_solve 33 = .ok (.ishr, 1) := by decide +kernel
theorem dX6_solve_34 : decode cX6_solve 34 = .ok (.iconst 1, 1) := by decide +kernel
theorem dX6_solve_35 : decode cX6_solve 35 = .ok (.iand, 1) := by decide +kernel
theorem dX6_solve_36 : decode cX6_solve 36 = .ok (.ifCond .eq 15, 3) := by decide +kernel
theorem dX6_solve_51 : decode cX6_solve 51 = .ok (.iconst 0, 1) := by decide +kernel
theorem dX6_solve_52 : decode cX6_solve 52 = .ok (.iadd, 1) := by decide +kernel
theorem dX6_solve_53 : decode cX6_solve 53 = .ok (.istore_n 2, 1) := by decide +kernel
theorem dX6_solve_54 : decode cX6_solve 54 = .ok (.iinc 3 1, 3) := by decide +kernel
theorem dX6_solve_57 : decode cX6_solve 57 = .ok (.goto (-38), 3) := by decide +kernel
theorem dX6_solve_39 : decode cX6_solve 39 = .ok (.aload_n 0, 1) := by decide +kernel
theorem dX6_solve_40 : decode cX6_solve 40 = .ok (.getfield 42, 3) := by decide +kernel
theorem dX6_solve_43 : decode cX6_solve 43 = .ok (.iload_n 3, 1) := by decide +kernel
theorem dX6_solve_44 : decode cX6_solve 44 = .ok (.aaload, 1) := by decide +kernel
theorem dX6_solve_45 : decode cX6_solve 45 = .ok (.getfield 71, 3) := by decide +kernel
theorem kw_930 : Cond.fieldLink "LandSurvey$Search" 71 "LandSurvey$Break" "cost" "I" ∈ uu := uu_in (i := 930) (by decide +kernel) (by decide +kernel)
theorem fk_LandSurvey_Search_71 : fkI "LandSurvey$Search" 71 0 5 RX0 TX0 6 := ⟨rfl, rfl, inX0, by decide, kw_930, by decide⟩
theorem dX6_solve_48 : decode cX6_solve 48 = .ok (.goto 4, 3) := by decide +kernel
abbrev cX6_span : ByteArray := prog_8_method_14_code
def yX6_span : MethodName := ⟨RX6, "span", "(LLandSurvey$Ground;)V"⟩
theorem okX6_span : yok yX6_span 1 := by decide +kernel
theorem dX6_span_0 : decode cX6_span 0 = .ok (.aload_n 1, 1) := by decide +kernel
theorem dX6_span_1 : decode cX6_span 1 = .ok (.iconst 1, 1) := by decide +kernel
theorem dX6_span_2 : decode cX6_span 2 = .ok (.putfield 65, 3) := by decide +kernel
theorem dX6_span_5 : decode cX6_span 5 = .ok (.aload_n 0, 1) := by decide +kernel
theorem dX6_span_6 : decode cX6_span 6 = .ok (.aload_n 1, 1) := by decide +kernel
theorem dX6_span_7 : decode cX6_span 7 = .ok (.getfield 68, 3) := by decide +kernel
theorem dX6_span_10 : decode cX6_span 10 = .ok (.aload_n 1, 1) := by decide +kernel
theorem dX6_span_11 : decode cX6_span 11 = .ok (.getfield 80, 3) := by decide +kernel
theorem dX6_span_14 : decode cX6_span 14 = .ok (.invokevirtual 111, 3) := by decide +kernel
theorem dX6_span_17 : decode cX6_span 17 = .ok (.iconst 0, 1) := by decide +kernel
theorem dX6_span_18 : decode cX6_span 18 = .ok (.istore_n 2, 1) := by decide +kernel
theorem dX6_span_19 : decode cX6_span 19 = .ok (.iload_n 2, 1) := by decide +kernel
theorem dX6_span_20 : decode cX6_span 20 = .ok (.bipush 96, 2) := by decide +kernel
theorem dX6_span_22 : decode cX6_span 22 = .ok (.if_icmp .ge 22, 3) := by decide +kernel
theorem dX6_span_44 : decode cX6_span 44 = .ok (.aload_n 0, 1) := by decide +kernel
theorem dX6_span_45 : decode cX6_span 45 = .ok (.getfield 12, 3) := by decide +kernel
theorem dX6_span_48 : decode cX6_span 48 = .ok (.aload_n 0, 1) := by decide +kernel
theorem dX6_span_49 : decode cX6_span 49 = .ok (.getfield 18, 3) := by decide +kernel
theorem dX6_span_52 : decode cX6_span 52 = .ok (.iconst 0, 1) := by decide +kernel
theorem dX6_span_53 : decode cX6_span 53 = .ok (.invokevirtual 187, 3) := by decide +kernel
theorem kw_1178 : Cond.code yX9_spread prog_11_method_7_code 4 none ∈ uu := uu_in (i := 1178) (by decide +kernel) (by decide +kernel)
theorem kw_1175 : Cond.methodLink "LandSurvey$Search" 187 yX9_spread ∈ uu := uu_in (i := 1175) (by decide +kernel) (by decide +kernel)
theorem kw_1176 : Cond.instanceMethod yX9_spread ∈ uu := uu_in (i := 1176) (by decide +kernel) (by decide +kernel)
theorem kw_1177 : Cond.selects "LandSurvey$Slopes" yX9_spread yX9_spread ∈ uu := uu_in (i := 1177) (by decide +kernel) (by decide +kernel)
theorem lk_LandSurvey_Search_187 : lkV "LandSurvey$Search" 187 yX9_spread cX9_spread 4 none 2 := ⟨kw_1175, kw_1176, kw_1177, kw_151, kw_1178, okX9_spread⟩
theorem dX6_span_56 : decode cX6_span 56 = .ok (.aload_n 0, 1) := by decide +kernel
theorem dX6_span_57 : decode cX6_span 57 = .ok (.getfield 12, 3) := by decide +kernel
theorem dX6_span_60 : decode cX6_span 60 = .ok (.aload_n 0, 1) := by decide +kernel
theorem dX6_span_61 : decode cX6_span 61 = .ok (.getfield 22, 3) := by decide +kernel
theorem kw_432 : Cond.fieldLink "LandSurvey$Search" 22 "LandSurvey$Search" "backReach" "[I" ∈ uu := uu_in (i := 432) (by decide +kernel) (by decide +kernel)
theorem fk_LandSurvey_Search_22 : fkR "LandSurvey$Search" 22 6 7 RX6 TX6 13 := ⟨rfl, rfl, inX6, by decide, kw_432, by decide⟩
theorem dX6_span_64 : decode cX6_span 64 = .ok (.iconst 1, 1) := by decide +kernel
theorem dX6_span_65 : decode cX6_span 65 = .ok (.invokevirtual 187, 3) := by decide +kernel
theorem dX6_span_68 : decode cX6_span 68 = .ok (.iconst 0, 1) := by decide +kernel
theorem dX6_span_69 : decode cX6_span 69 = .ok (.istore_n 2, 1) := by decide +kernel
theorem dX6_span_70 : decode cX6_span 70 = .ok (.iload_n 2, 1) := by decide +kernel
theorem dX6_span_71 : decode cX6_span 71 = .ok (.bipush 96, 2) := by decide +kernel
theorem dX6_span_73 : decode cX6_span 73 = .ok (.if_icmp .ge 34, 3) := by decide +kernel
theorem dX6_span_107 : decode cX6_span 107 = .ok (.return_, 1) := by decide +kernel
theorem dX6_span_76 : decode cX6_span 76 = .ok (.aload_n 1, 1) := by decide +kernel
theorem dX6_span_77 : decode cX6_span 77 = .ok (.getfield 190, 3) := by decide +kernel
theorem kw_1033 : Cond.fieldLink "LandSurvey$Search" 190 "LandSurvey$Ground" "high" "[I" ∈ uu := uu_in (i := 1033) (by decide +kernel) (by decide +kernel)
theorem fk_LandSurvey_Search_190 : fkR "LandSurvey$Search" 190 1 8 RX1 TX1 9 := ⟨rfl, rfl, inX1, by decide, kw_1033, by decide⟩
theorem dX6_span_80 : decode cX6_span 80 = .ok (.iload_n 2, 1) := by decide +kernel
theorem dX6_span_81 : decode cX6_span 81 = .ok (.aload_n 0, 1) := by decide +kernel
theorem dX6_span_82 : decode cX6_span 82 = .ok (.getfield 18, 3) := by decide +kernel
theorem dX6_span_85 : decode cX6_span 85 = .ok (.iload_n 2, 1) := by decide +kernel
theorem dX6_span_86 : decode cX6_span 86 = .ok (.iaload, 1) := by decide +kernel
theorem dX6_span_87 : decode cX6_span 87 = .ok (.iastore, 1) := by decide +kernel
theorem dX6_span_88 : decode cX6_span 88 = .ok (.aload_n 1, 1) := by decide +kernel
theorem dX6_span_89 : decode cX6_span 89 = .ok (.getfield 193, 3) := by decide +kernel
theorem kw_1030 : Cond.fieldLink "LandSurvey$Search" 193 "LandSurvey$Ground" "low" "[I" ∈ uu := uu_in (i := 1030) (by decide +kernel) (by decide +kernel)
theorem fk_LandSurvey_Search_193 : fkR "LandSurvey$Search" 193 1 7 RX1 TX1 9 := ⟨rfl, rfl, inX1, by decide, kw_1030, by decide⟩
theorem dX6_span_92 : decode cX6_span 92 = .ok (.iload_n 2, 1) := by decide +kernel
theorem dX6_span_93 : decode cX6_span 93 = .ok (.aload_n 0, 1) := by decide +kernel
theorem dX6_span_94 : decode cX6_span 94 = .ok (.getfield 22, 3) := by decide +kernel
theorem dX6_span_97 : decode cX6_span 97 = .ok (.iload_n 2, 1) := by decide +kernel
theorem dX6_span_98 : decode cX6_span 98 = .ok (.iaload, 1) := by decide +kernel
theorem dX6_span_99 : decode cX6_span 99 = .ok (.ineg, 1) := by decide +kernel
theorem dX6_span_100 : decode cX6_span 100 = .ok (.iastore, 1) := by decide +kernel
theorem dX6_span_101 : decode cX6_span 101 = .ok (.iinc 2 1, 3) := by decide +kernel
theorem dX6_span_104 : decode cX6_span 104 = .ok (.goto (-34), 3) := by decide +kernel
theorem dX6_span_25 : decode cX6_span 25 = .ok (.aload_n 0, 1) := by decide +kernel
theorem dX6_span_26 : decode cX6_span 26 = .ok (.getfield 22, 3) := by decide +kernel
theorem dX6_span_29 : decode cX6_span 29 = .ok (.iload_n 2, 1) := by decide +kernel
theorem dX6_span_30 : decode cX6_span 30 = .ok (.aload_n 0, 1) := by decide +kernel
theorem dX6_span_31 : decode cX6_span 31 = .ok (.getfield 25, 3) := by decide +kernel
theorem dX6_span_34 : decode cX6_span 34 = .ok (.iload_n 2, 1) := by decide +kernel
theorem dX6_span_35 : decode cX6_span 35 = .ok (.iaload, 1) := by decide +kernel
theorem dX6_span_36 : decode cX6_span 36 = .ok (.ineg, 1) := by decide +kernel
theorem dX6_span_37 : decode cX6_span 37 = .ok (.iastore, 1) := by decide +kernel
theorem dX6_span_38 : decode cX6_span 38 = .ok (.iinc 2 1, 3) := by decide +kernel
theorem dX6_span_41 : decode cX6_span 41 = .ok (.goto (-22), 3) := by decide +kernel
abbrev cX6_measureWays : ByteArray := prog_8_method_15_code
def yX6_measureWays : MethodName := ⟨RX6, "measureWays", "(I)V"⟩
theorem okX6_measureWays : yok yX6_measureWays 1 := by decide +kernel
theorem dX6_measureWays_0 : decode cX6_measureWays 0 = .ok (.aload_n 0, 1) := by decide +kernel
theorem dX6_measureWays_1 : decode cX6_measureWays 1 = .ok (.getfield 18, 3) := by decide +kernel
theorem dX6_measureWays_4 : decode cX6_measureWays 4 = .ok (.ldc 140, 2) := by decide +kernel
theorem dX6_measureWays_6 : decode cX6_measureWays 6 = .ok (.invokestatic 141, 3) := by decide +kernel
theorem dX6_measureWays_9 : decode cX6_measureWays 9 = .ok (.aload_n 0, 1) := by decide +kernel
theorem dX6_measureWays_10 : decode cX6_measureWays 10 = .ok (.getfield 22, 3) := by decide +kernel
theorem dX6_measureWays_13 : decode cX6_measureWays 13 = .ok (.ldc 140, 2) := by decide +kernel
theorem dX6_measureWays_15 : decode cX6_measureWays 15 = .ok (.invokestatic 141, 3) := by decide +kernel
theorem dX6_measureWays_18 : decode cX6_measureWays 18 = .ok (.aload_n 0, 1) := by decide +kernel
theorem dX6_measureWays_19 : decode cX6_measureWays 19 = .ok (.getfield 18, 3) := by decide +kernel
theorem dX6_measureWays_22 : decode cX6_measureWays 22 = .ok (.iload_n 1, 1) := by decide +kernel
theorem dX6_measureWays_23 : decode cX6_measureWays 23 = .ok (.iconst 0, 1) := by decide +kernel
theorem dX6_measureWays_24 : decode cX6_measureWays 24 = .ok (.iastore, 1) := by decide +kernel
theorem dX6_measureWays_25 : decode cX6_measureWays 25 = .ok (.aload_n 0, 1) := by decide +kernel
theorem dX6_measureWays_26 : decode cX6_measureWays 26 = .ok (.getfield 22, 3) := by decide +kernel
theorem dX6_measureWays_29 : decode cX6_measureWays 29 = .ok (.iload_n 1, 1) := by decide +kernel
theorem dX6_measureWays_30 : decode cX6_measureWays 30 = .ok (.iconst 0, 1) := by decide +kernel
theorem dX6_measureWays_31 : decode cX6_measureWays 31 = .ok (.iastore, 1) := by decide +kernel
theorem dX6_measureWays_32 : decode cX6_measureWays 32 = .ok (.aload_n 0, 1) := by decide +kernel
theorem dX6_measureWays_33 : decode cX6_measureWays 33 = .ok (.getfield 12, 3) := by decide +kernel
theorem dX6_measureWays_36 : decode cX6_measureWays 36 = .ok (.aload_n 0, 1) := by decide +kernel
theorem dX6_measureWays_37 : decode cX6_measureWays 37 = .ok (.getfield 18, 3) := by decide +kernel
theorem dX6_measureWays_40 : decode cX6_measureWays 40 = .ok (.iconst 0, 1) := by decide +kernel
theorem dX6_measureWays_41 : decode cX6_measureWays 41 = .ok (.invokevirtual 187, 3) := by decide +kernel
theorem dX6_measureWays_44 : decode cX6_measureWays 44 = .ok (.aload_n 0, 1) := by decide +kernel
theorem dX6_measureWays_45 : decode cX6_measureWays 45 = .ok (.getfield 12, 3) := by decide +kernel
theorem dX6_measureWays_48 : decode cX6_measureWays 48 = .ok (.aload_n 0, 1) := by decide +kernel
theorem dX6_measureWays_49 : decode cX6_measureWays 49 = .ok (.getfield 22, 3) := by decide +kernel
theorem dX6_measureWays_52 : decode cX6_measureWays 52 = .ok (.iconst 1, 1) := by decide +kernel
theorem dX6_measureWays_53 : decode cX6_measureWays 53 = .ok (.invokevirtual 187, 3) := by decide +kernel
theorem dX6_measureWays_56 : decode cX6_measureWays 56 = .ok (.return_, 1) := by decide +kernel
def wr_k_X5_firstThatTells : List Nat := [7420000]
set_option maxRecDepth 100000 in
set_option maxHeartbeats 4000000 in
theorem k_X5_firstThatTells (l : Launch) (D : va_G) (cy : Nat → ClassId) (w : Nat → Nat) (z0 : Nat)  {h : Hp} {a0 : Nat} {a1 : Int} {a2 : Nat}  (O : Okh h) (ta0 : Tg h a0 = 6) (fa1 : (-2147483648) ≤ a1 ∧ a1 ≤ 2147483647) (ta2 : Tg h a2 = 50100) (la2 : Ln h a2 = 12) (P_RulesOk : RulesOk h a0) : MI l D cy w z0 yX5_firstThatTells cX5_firstThatTells 4 (some .int) 2 47 0 0 [.inr (.inr a0), .inl a1, .inr (.inr a2)] h (fun v h1 => Okh h1 ∧ Fx wr_k_X5_firstThatTells h h1 ∧ ((-1) ≤ v ∧ v ≤ 23) ∧ (0 ≤ v → v < Iv h1 a0 13 ∧ Iv h1 (Rv h1 a0 14) v.toNat = a1)) := by
  obtain ⟨v1, e2⟩ : ∃ z, Iv h a0 13 = z := ⟨_, rfl⟩
  have f3 := ok_I O ta0 rI_6_13 e2
  obtain ⟨v4, e5⟩ : ∃ z, Rv h a0 14 = z := ⟨_, rfl⟩
  have t6 := ok_R O ta0 rE_6_14 e5
  have l7 := ok_L O ta0 rE_6_14 e5
  obtain ⟨v8, e9⟩ : ∃ z, Rv h a0 15 = z := ⟨_, rfl⟩
  have t10 := ok_R O ta0 rE_6_15 e9
  have l11 := ok_L O ta0 rE_6_15 e9
  obtain ⟨v12, e13⟩ : ∃ z, Rv h a0 16 = z := ⟨_, rfl⟩
  have t14 := ok_R O ta0 rE_6_16 e13
  have l15 := ok_L O ta0 rE_6_16 e13
  obtain ⟨v16, e17⟩ : ∃ z, Rv h a0 17 = z := ⟨_, rfl⟩
  have t18 := ok_R O ta0 rE_6_17 e17
  have p19 := P_RulesOk
  unfold RulesOk at p19
  rw [e2, e5, e9, e13, e17] at p19
  refine hm_go (by decide +kernel) (Nat.le_of_ble_eq_true rfl) (fun p e s m below meth c C hr hn => ?_)
  refine g_iconst C dX5_firstThatTells_0 ?_
  refine g_istore_n C [(3, .inl 0), (0, .inr (.inr a0)), (1, .inl a1), (2, .inr (.inr a2))] rfl (by decide) rfl dX5_firstThatTells_1 ?_
  refine GW.sub [1, 2, 3, 0] rfl ?_
  -- loop at 2
  have L22 : ∀ (μ : Nat) (x20 : Int) (h21 : Hp), (24 - x20).toNat = μ → Okh h21 → Fx [7420000] h h21 → ((0 : Int) ≤ x20 ∧ x20 ≤ (24 : Int)) → GW p l e (rmm 2 47 0 0) s m (List.map toV [.inr (.inr a0), .inl a1, .inr (.inr a2)]).toArray below meth c D cy z0 4 (MQ below (QI D cy z0 (fun v h1 => Okh h1 ∧ Fx wr_k_X5_firstThatTells h h1 ∧ ((-1) ≤ v ∧ v ≤ 23) ∧ (0 ≤ v → v < Iv h1 a0 13 ∧ Iv h1 (Rv h1 a0 14) v.toNat = a1))) (List.map toV [.inr (.inr a0), .inl a1, .inr (.inr a2)]).toArray s 0 0 (Aof z0)) 2 [(0, .inr (.inr a0)), (1, .inl a1), (2, .inr (.inr a2)), (3, .inl x20)] [] h21 0 0 := by
    intro μ
    induction μ using Nat.strongRecOn with
    | ind μ ih23 =>
      intro x20 h21 hm24 O25 F26 f27
      refine g_iload_n C rfl 3 rfl dX5_firstThatTells_2 ?_
      refine g_aload_n C rfl 0 rfl dX5_firstThatTells_3 ?_
      have e28 : Tg h21 a0 = 6 := (fxT F26 ta0)
      have e29 : Iv h21 a0 13 = v1 := ((fxI F26 ta0 rfl).trans e2)
      refine gf_I C fk_LandSurvey_Rules_81 rfl e28 e29 dX5_firstThatTells_4 ?_
      refine g_icmp_ge C (iw f27 (by decide) (by decide)) (iw f3 (by decide) (by decide)) 37 (by decide) dX5_firstThatTells_7 (fun q30 => ?_) (fun q31 => ?_)
      · refine g_iconst C dX5_firstThatTells_37 ?_
        exact g_iret C hr rfl (iw (il (-1)) (by decide) (by decide)) ⟨O25, ((Fx.rf (wr := wr_k_X5_firstThatTells)).call F26 rfl), (iw (il (-1)) (by decide) (by decide)), (fun z => absurd z (by decide))⟩ (by decide) (by decide) dX5_firstThatTells_38
      · have f32 : (0 : Int) ≤ x20 ∧ x20 ≤ (23 : Int) := r_lt f27 f3 q31 (by decide) (by decide)
        have f33 : (1 : Int) ≤ v1 ∧ v1 ≤ (24 : Int) := r_gt f3 f27 q31 (by decide) (by decide)
        refine g_aload_n C rfl 0 rfl dX5_firstThatTells_10 ?_
        have e34 : Rv h21 a0 14 = v4 := ((fxR F26 ta0 rfl).trans e5)
        refine gf_R C fk_LandSurvey_Rules_41 rfl e28 e34 dX5_firstThatTells_11 ?_
        refine g_iload_n C rfl 3 rfl dX5_firstThatTells_14 ?_
        have e35 : Tg h21 v4 = 30100 := (fxT F26 t6)
        have e36 : Ln h21 v4 = 24 := ((fxL F26 t6).trans l7)
        obtain ⟨v37, e38⟩ : ∃ z, Iv h21 v4 x20.toNat = z := ⟨_, rfl⟩
        have f39 := ok_Ia O25 e35 ar_30100 rI_30100_0 e38
        refine g_iald C e35 rfl e36 (ix f32 (by decide) (by decide)) e38 dX5_firstThatTells_15 ?_
        refine g_iload_n C rfl 1 rfl dX5_firstThatTells_16 ?_
        refine g_icmp_ne C (iw f39 (by decide) (by decide)) fa1 31 (by decide) dX5_firstThatTells_17 (fun q40 => ?_) (fun q41 => ?_)
        · have f42 : (1 : Int) ≤ (x20 + 1) ∧ (x20 + 1) ≤ (24 : Int) := ia_add f32 (il 1) (by decide) (by decide)
          refine g_iinc C [(3, .inl (x20 + 1)), (0, .inr (.inr a0)), (1, .inl a1), (2, .inr (.inr a2))] 3 rfl (by decide) rfl dX5_firstThatTells_31 ?_
          refine g_goto C 2 (by decide) dX5_firstThatTells_34 ?_
          refine GW.sub [1, 2, 3, 0] rfl ?_
          exact ih23 _ (by omega) (x20 + 1) h21 rfl O25 F26 (iw f42 (by decide) (by decide))
        · have f43 : (0 : Int) ≤ a1 ∧ a1 ≤ (2 : Int) := ii fa1 (r_eq2 f39 q41) (by decide) (by decide)
          refine g_aload_n C rfl 0 rfl dX5_firstThatTells_20 ?_
          refine g_iload_n C rfl 3 rfl dX5_firstThatTells_21 ?_
          refine g_aload_n C rfl 2 rfl dX5_firstThatTells_22 ?_
          have e44 : Tg h21 a2 = 50100 := (fxT F26 ta2)
          have e45 : Ln h21 a2 = 12 := ((fxL F26 ta2).trans la2)
          have p46 := (RulesOk_fx O F26 ta0 rfl P_RulesOk)
          refine g_callI (st := []) (gc_V C lk_LandSurvey_Rules_84 (k_X5_worked l D cy w z0 O25 e28 f32 e44 e45 p46 (by omega)) e28 rfl rfl rfl ⟨by decide, by decide⟩ (Nat.le_of_ble_eq_true rfl) dX5_firstThatTells_23 ⟨(by decide), (by decide)⟩) (fun r47 h48 f50 K49 => ?_)
          obtain ⟨O51, F52, f53⟩ := K49
          refine g_if_eq C f53 31 (by decide) dX5_firstThatTells_26 (fun q54 => ?_) (fun q55 => ?_)
          · have f56 : (0 : Int) ≤ r47 ∧ r47 ≤ (0 : Int) := ii f53 (r_eq (il 0) q54) (by decide) (by decide)
            have f57 : (1 : Int) ≤ (x20 + 1) ∧ (x20 + 1) ≤ (24 : Int) := ia_add f32 (il 1) (by decide) (by decide)
            refine g_iinc C [(3, .inl (x20 + 1)), (0, .inr (.inr a0)), (1, .inl a1), (2, .inr (.inr a2))] 3 rfl (by decide) rfl dX5_firstThatTells_31 ?_
            refine g_goto C 2 (by decide) dX5_firstThatTells_34 ?_
            refine GW.sub [1, 2, 3, 0] rfl ?_
            exact ih23 _ (by omega) (x20 + 1) h48 rfl O51 (F26.call F52 rfl) (iw f57 (by decide) (by decide))
          · refine g_iload_n C rfl 3 rfl dX5_firstThatTells_29 ?_
            have e58 : Iv h48 a0 13 = v1 := ((fxI F52 e28 rfl).trans e29)
            have e59 : Rv h48 a0 14 = v4 := ((fxR F52 e28 rfl).trans e34)
            have e60 : Iv h48 v4 x20.toNat = v37 := ((fxIa F52 e35 ar_30100 rfl).trans e38)
            exact g_iret C hr rfl (iw f32 (by decide) (by decide)) ⟨O51, (((Fx.rf (wr := wr_k_X5_firstThatTells)).call F26 rfl).call F52 rfl), (iw f32 (by decide) (by decide)), (fun _ => ⟨by rw [e58]; omega, by rw [e59, e60]; omega⟩)⟩ (by decide) (by decide) dX5_firstThatTells_30
  exact L22 _ 0 h rfl O Fx.rf (iw (il 0) (by decide) (by decide))
def wr_k_X6_begin : List Nat := [1403, 1404, 1405]
set_option maxRecDepth 100000 in
set_option maxHeartbeats 4000000 in
theorem k_X6_begin (l : Launch) (D : va_G) (cy : Nat → ClassId) (w : Nat → Nat) (z0 : Nat)  {h : Hp} {a0 : Nat} {a1 : Int} {a2 : Int} {a3 : Int}  (O : Okh h) (ta0 : Tg h a0 = 7) (fa1 : 0 ≤ a1 ∧ a1 ≤ 40) (fa2 : 0 ≤ a2 ∧ a2 ≤ 4) (fa3 : 0 ≤ a3 ∧ a3 ≤ 99) : MV l D cy w z0 yX6_begin cX6_begin 4 none 0 0 0 0 [.inr (.inr a0), .inl a1, .inl a2, .inl a3] h (fun h1 => Okh h1 ∧ Fx wr_k_X6_begin h h1 ∧ (Iv h1 a0 3 = a1) ∧ (Iv h1 a0 4 = a2)) := by
  refine hm_go (by decide +kernel) (Nat.le_of_ble_eq_true rfl) (fun p e s m below meth c C hr hn => ?_)
  refine g_aload_n C rfl 0 rfl dX6_begin_0 ?_
  refine g_iload_n C rfl 1 rfl dX6_begin_1 ?_
  refine gp_I C fk_LandSurvey_Search_46 pk_LandSurvey_Search_3 rfl ta0 (iw fa1 (by decide) (by decide)) (nf_i _) dX6_begin_2 (fun h2 hh1 => ?_)
  have O3 := O.pI ta0 hh1 rI_7_3 fa1 nofun
  refine g_aload_n C rfl 0 rfl dX6_begin_5 ?_
  refine g_iload_n C rfl 2 rfl dX6_begin_6 ?_
  have e4 : Tg h2 a0 = 7 := ((pIT hh1).trans ta0)
  refine gp_I C fk_LandSurvey_Search_50 pk_LandSurvey_Search_4 rfl e4 (iw fa2 (by decide) (by decide)) (nf_i _) dX6_begin_7 (fun h6 hh5 => ?_)
  have O7 := O3.pI e4 hh5 rI_7_4 fa2 nofun
  refine g_aload_n C rfl 0 rfl dX6_begin_10 ?_
  refine g_iload_n C rfl 3 rfl dX6_begin_11 ?_
  have e8 : Tg h6 a0 = 7 := ((pIT hh5).trans e4)
  refine gp_I C fk_LandSurvey_Search_53 pk_LandSurvey_Search_5 rfl e8 (iw fa3 (by decide) (by decide)) (nf_i _) dX6_begin_12 (fun h10 hh9 => ?_)
  have O11 := O7.pI e8 hh9 rI_7_5 fa3 nofun
  have e12 : Iv h10 a0 3 = a1 := ((pI_j hh9 (by decide)).trans ((pI_j hh5 (by decide)).trans (pI_e hh1)))
  have e13 : Iv h10 a0 4 = a2 := ((pI_j hh9 (by decide)).trans (pI_e hh5))
  exact g_vret C hr ⟨O11, ((((Fx.rf (wr := wr_k_X6_begin)).pI ta0 hh1 rfl).pI e4 hh5 rfl).pI e8 hh9 rfl), e12, e13⟩ (by decide) (by decide) dX6_begin_15
def wr_k_X6_saysAnything : List Nat := []
set_option maxRecDepth 100000 in
set_option maxHeartbeats 4000000 in
theorem k_X6_saysAnything (l : Launch) (D : va_G) (cy : Nat → ClassId) (w : Nat → Nat) (z0 : Nat)  {h : Hp} {a0 : Nat} {a1 : Int}  (O : Okh h) (ta0 : Tg h a0 = 7) (fa1 : (-9223372036854775808) ≤ a1 ∧ a1 ≤ 9223372036854775807) (P_SInv : SInv h a0) : MI l D cy w z0 yX6_saysAnything cX6_saysAnything 4 (some .boolean) 0 0 0 0 [.inr (.inr a0), .inr (.inl a1)] h (fun v h1 => Okh h1 ∧ Fx wr_k_X6_saysAnything h h1 ∧ (0 ≤ v ∧ v ≤ 1)) := by
  obtain ⟨v1, e2⟩ : ∃ z, Rv h a0 1 = z := ⟨_, rfl⟩
  have t3 := ok_R O ta0 rE_7_1 e2
  have l4 := ok_L O ta0 rE_7_1 e2
  obtain ⟨v5, e6⟩ : ∃ z, Iv h a0 3 = z := ⟨_, rfl⟩
  have f7 := ok_I O ta0 rI_7_3 e6
  obtain ⟨v8, e9⟩ : ∃ z, Rv h a0 2 = z := ⟨_, rfl⟩
  have t10 := ok_R O ta0 rE_7_2 e9
  have l11 := ok_L O ta0 rE_7_2 e9
  obtain ⟨v12, e13⟩ : ∃ z, Iv h a0 4 = z := ⟨_, rfl⟩
  have f14 := ok_I O ta0 rI_7_4 e13
  have p15 : SOK h v1 v5 := by have z := P_SInv.1; rw [e2, e6] at z; exact z
  have p16 : BOK h v8 v12 := by have z := P_SInv.2; rw [e9, e13] at z; exact z
  refine hm_go (by decide +kernel) (Nat.le_of_ble_eq_true rfl) (fun p e s m below meth c C hr hn => ?_)
  refine g_iconst C dX6_saysAnything_0 ?_
  refine g_istore_n C [(3, .inl 0), (0, .inr (.inr a0)), (1, .inr (.inl a1))] rfl (by decide) rfl dX6_saysAnything_1 ?_
  refine GW.sub [1, 2, 0] rfl ?_
  -- loop at 2
  have L18 : ∀ (μ : Nat) (x17 : Int), (40 - x17).toNat = μ → ((0 : Int) ≤ x17 ∧ x17 ≤ (40 : Int)) → GW p l e (rmm 0 0 0 0) s m (List.map toV [.inr (.inr a0), .inr (.inl a1)]).toArray below meth c D cy z0 4 (MQ below (QI D cy z0 (fun v h1 => Okh h1 ∧ Fx wr_k_X6_saysAnything h h1 ∧ (0 ≤ v ∧ v ≤ 1))) (List.map toV [.inr (.inr a0), .inr (.inl a1)]).toArray s 0 0 (Aof z0)) 2 [(0, .inr (.inr a0)), (1, .inr (.inl a1)), (3, .inl x17)] [] h 0 0 := by
    intro μ
    induction μ using Nat.strongRecOn with
    | ind μ ih19 =>
      intro x17 hm20 f21
      refine g_iload_n C rfl 2 rfl dX6_saysAnything_2 ?_
      refine g_aload_n C rfl 0 rfl dX6_saysAnything_3 ?_
      refine gf_I C fk_LandSurvey_Search_46 rfl ta0 e6 dX6_saysAnything_4 ?_
      refine g_icmp_ge C (iw f21 (by decide) (by decide)) (iw f7 (by decide) (by decide)) 40 (by decide) dX6_saysAnything_7 (fun q22 => ?_) (fun q23 => ?_)
      · refine g_iconst C dX6_saysAnything_40 ?_
        exact g_iret C hr (nar_z2 (iw (il 0) (by decide) (by decide))).1 (iw (il 0) (by decide) (by decide)) ⟨O, Fx.rf, (iw (il 0) (by decide) (by decide))⟩ (by decide) (by decide) dX6_saysAnything_41
      · have f24 : (0 : Int) ≤ x17 ∧ x17 ≤ (39 : Int) := r_lt f21 f7 q23 (by decide) (by decide)
        have f25 : (1 : Int) ≤ v5 ∧ v5 ≤ (40 : Int) := r_gt f7 f21 q23 (by decide) (by decide)
        refine g_aload_n C rfl 0 rfl dX6_saysAnything_10 ?_
        refine gf_R C fk_LandSurvey_Search_38 rfl ta0 e2 dX6_saysAnything_11 ?_
        refine g_iload_n C rfl 2 rfl dX6_saysAnything_14 ?_
        obtain ⟨v26, e27⟩ : ∃ z, Rv h v1 x17.toNat = z := ⟨_, rfl⟩
        refine g_aald (t := 4) C t3 rfl (by decide) rfl l4 (ix f24 (by decide) (by decide)) e27 dX6_saysAnything_15 ?_
        have q28 := nn_get p15.nn (by omega) e27
        have t29 := ok_Na O t3 ar_38104 rE_38104_0 e27 q28
        obtain ⟨v30, e31⟩ : ∃ z, Iv h v26 16 = z := ⟨_, rfl⟩
        have f32 := ok_I O t29 rI_9_16 e31
        refine gf_I C fk_LandSurvey_Search_91 rfl t29 e31 dX6_saysAnything_16 ?_
        refine g_if_eq C (iw f32 (by decide) (by decide)) 34 (by decide) dX6_saysAnything_19 (fun q33 => ?_) (fun q34 => ?_)
        · have f35 : (0 : Int) ≤ v30 ∧ v30 ≤ (0 : Int) := ii f32 (r_eq (il 0) q33) (by decide) (by decide)
          have f36 : (1 : Int) ≤ (x17 + 1) ∧ (x17 + 1) ≤ (40 : Int) := ia_add f24 (il 1) (by decide) (by decide)
          refine g_iinc C [(3, .inl (x17 + 1)), (0, .inr (.inr a0)), (1, .inr (.inl a1))] 2 rfl (by decide) rfl dX6_saysAnything_34 ?_
          refine g_goto C 2 (by decide) dX6_saysAnything_37 ?_
          refine GW.sub [1, 2, 0] rfl ?_
          exact ih19 _ (by omega) (x17 + 1) rfl (iw f36 (by decide) (by decide))
        · have f37 : (1 : Int) ≤ v30 ∧ v30 ≤ (1 : Int) := r_nl f32 q34
          refine g_lload_n C rfl 1 rfl dX6_saysAnything_22 ?_
          refine g_iload_n C rfl 2 rfl dX6_saysAnything_23 ?_
          refine g_lshr C dX6_saysAnything_24 ?_
          have f38 : (-9223372036854775808 : Int) ≤ (lShr a1 x17) ∧ (lShr a1 x17) ≤ (9223372036854775807 : Int) := inL_of _
          refine g_lconst (z := 1) C (by decide) dX6_saysAnything_25 ?_
          refine g_land C dX6_saysAnything_26 ?_
          have f39 : (-9223372036854775808 : Int) ≤ (lAnd (lShr a1 x17) 1) ∧ (lAnd (lShr a1 x17) 1) ≤ (9223372036854775807 : Int) := inL_of _
          refine g_lconst (z := 0) C (by decide) dX6_saysAnything_27 ?_
          refine g_lcmp C f39 (iw (il 0) (by decide) (by decide)) dX6_saysAnything_28 ?_
          have f40 : (-1 : Int) ≤ (lC (lAnd (lShr a1 x17) 1) 0) ∧ (lC (lAnd (lShr a1 x17) 1) 0) ≤ (1 : Int) := lC_rng _ _
          refine g_if_ne C (iw f40 (by decide) (by decide)) 34 (by decide) dX6_saysAnything_29 (fun q41 => ?_) (fun q42 => ?_)
          · have q43 : ¬ (lAnd (lShr a1 x17) 1) = (0 : Int) := fun z => q41 (lC_eq.mpr z)
            have f44 : (1 : Int) ≤ (x17 + 1) ∧ (x17 + 1) ≤ (40 : Int) := ia_add f24 (il 1) (by decide) (by decide)
            refine g_iinc C [(3, .inl (x17 + 1)), (0, .inr (.inr a0)), (1, .inr (.inl a1))] 2 rfl (by decide) rfl dX6_saysAnything_34 ?_
            refine g_goto C 2 (by decide) dX6_saysAnything_37 ?_
            refine GW.sub [1, 2, 0] rfl ?_
            exact ih19 _ (by omega) (x17 + 1) rfl (iw f44 (by decide) (by decide))
          · have q45 : (lAnd (lShr a1 x17) 1) = (0 : Int) := lC_eq.mp q42
            have f46 : (0 : Int) ≤ (lAnd (lShr a1 x17) 1) ∧ (lAnd (lShr a1 x17) 1) ≤ (0 : Int) := ii f39 (r_eq (il 0) q45) (by decide) (by decide)
            refine g_iconst C dX6_saysAnything_32 ?_
            exact g_iret C hr (nar_z2 (iw (il 1) (by decide) (by decide))).1 (iw (il 1) (by decide) (by decide)) ⟨O, Fx.rf, (iw (il 1) (by decide) (by decide))⟩ (by decide) (by decide) dX6_saysAnything_33
  exact L18 _ 0 rfl (iw (il 0) (by decide) (by decide))
def wr_k_X6_isBetter : List Nat := []
set_option maxRecDepth 100000 in
set_option maxHeartbeats 4000000 in
theorem k_X6_isBetter (l : Launch) (D : va_G) (cy : Nat → ClassId) (w : Nat → Nat) (z0 : Nat)  {h : Hp} {a0 : Nat} {a1 : Int} {a2 : Int}  (O : Okh h) (ta0 : Tg h a0 = 2) (fa1 : (-2147483648) ≤ a1 ∧ a1 ≤ 2147483647) (fa2 : (-9223372036854775808) ≤ a2 ∧ a2 ≤ 9223372036854775807) : MI l D cy w z0 yX6_isBetter cX6_isBetter 4 (some .boolean) 0 0 0 0 [.inr (.inr a0), .inl a1, .inr (.inl a2)] h (fun v h1 => Okh h1 ∧ Fx wr_k_X6_isBetter h h1 ∧ (0 ≤ v ∧ v ≤ 1)) := by
  refine hm_go (by decide +kernel) (Nat.le_of_ble_eq_true rfl) (fun p e s m below meth c C hr hn => ?_)
  refine g_aload_n C rfl 0 rfl dX6_isBetter_0 ?_
  obtain ⟨v1, e2⟩ : ∃ z, Iv h a0 2 = z := ⟨_, rfl⟩
  have f3 := ok_I O ta0 rI_2_2 e2
  refine gf_I C fk_LandSurvey_Search_62 rfl ta0 e2 dX6_isBetter_1 ?_
  refine g_if_eq C (iw f3 (by decide) (by decide)) 32 (by decide) dX6_isBetter_4 (fun q4 => ?_) (fun q5 => ?_)
  · have f6 : (0 : Int) ≤ v1 ∧ v1 ≤ (0 : Int) := ii f3 (r_eq (il 0) q4) (by decide) (by decide)
    refine g_iconst C dX6_isBetter_32 ?_
    refine g_goto C 37 (by decide) dX6_isBetter_33 ?_
    exact g_iret C hr (nar_z2 (iw (il 1) (by decide) (by decide))).1 (iw (il 1) (by decide) (by decide)) ⟨O, Fx.rf, (iw (il 1) (by decide) (by decide))⟩ (by decide) (by decide) dX6_isBetter_37
  · have f7 : (1 : Int) ≤ v1 ∧ v1 ≤ (1 : Int) := r_nl f3 q5
    refine g_iload_n C rfl 1 rfl dX6_isBetter_7 ?_
    refine g_aload_n C rfl 0 rfl dX6_isBetter_8 ?_
    obtain ⟨v8, e9⟩ : ∃ z, Iv h a0 3 = z := ⟨_, rfl⟩
    have f10 := ok_I O ta0 rI_2_3 e9
    refine gf_I C fk_LandSurvey_Search_103 rfl ta0 e9 dX6_isBetter_9 ?_
    refine g_icmp_lt C fa1 f10 32 (by decide) dX6_isBetter_12 (fun q11 => ?_) (fun q12 => ?_)
    · have f13 : (-2147483648 : Int) ≤ a1 ∧ a1 ≤ (2147483646 : Int) := r_lt fa1 f10 q11 (by decide) (by decide)
      have f14 : (-2147483647 : Int) ≤ v8 ∧ v8 ≤ (2147483647 : Int) := r_gt f10 fa1 q11 (by decide) (by decide)
      refine g_iconst C dX6_isBetter_32 ?_
      refine g_goto C 37 (by decide) dX6_isBetter_33 ?_
      exact g_iret C hr (nar_z2 (iw (il 1) (by decide) (by decide))).1 (iw (il 1) (by decide) (by decide)) ⟨O, Fx.rf, (iw (il 1) (by decide) (by decide))⟩ (by decide) (by decide) dX6_isBetter_37
    · refine g_iload_n C rfl 1 rfl dX6_isBetter_15 ?_
      refine g_aload_n C rfl 0 rfl dX6_isBetter_16 ?_
      refine gf_I C fk_LandSurvey_Search_103 rfl ta0 e9 dX6_isBetter_17 ?_
      refine g_icmp_ne C fa1 f10 36 (by decide) dX6_isBetter_20 (fun q15 => ?_) (fun q16 => ?_)
      · refine g_iconst C dX6_isBetter_36 ?_
        exact g_iret C hr (nar_z2 (iw (il 0) (by decide) (by decide))).1 (iw (il 0) (by decide) (by decide)) ⟨O, Fx.rf, (iw (il 0) (by decide) (by decide))⟩ (by decide) (by decide) dX6_isBetter_37
      · refine g_lload_n C rfl 2 rfl dX6_isBetter_23 ?_
        refine g_aload_n C rfl 0 rfl dX6_isBetter_24 ?_
        obtain ⟨v17, e18⟩ : ∃ z, Jv h a0 4 = z := ⟨_, rfl⟩
        have f19 := inL_J O e18
        refine gf_J C fk_LandSurvey_Search_80 rfl ta0 e18 dX6_isBetter_25 ?_
        refine g_lcmp C fa2 f19 dX6_isBetter_28 ?_
        have f20 : (-1 : Int) ≤ (lC a2 v17) ∧ (lC a2 v17) ≤ (1 : Int) := lC_rng _ _
        refine g_if_ge C (iw f20 (by decide) (by decide)) 36 (by decide) dX6_isBetter_29 (fun q21 => ?_) (fun q22 => ?_)
        · have q23 : v17 ≤ a2 := lC_ge.mp q21
          refine g_iconst C dX6_isBetter_36 ?_
          exact g_iret C hr (nar_z2 (iw (il 0) (by decide) (by decide))).1 (iw (il 0) (by decide) (by decide)) ⟨O, Fx.rf, (iw (il 0) (by decide) (by decide))⟩ (by decide) (by decide) dX6_isBetter_37
        · have q24 : a2 < v17 := lC_lt.mp q22
          have f25 : (-9223372036854775808 : Int) ≤ a2 ∧ a2 ≤ (9223372036854775806 : Int) := r_lt fa2 f19 q24 (by decide) (by decide)
          have f26 : (-9223372036854775807 : Int) ≤ v17 ∧ v17 ≤ (9223372036854775807 : Int) := r_gt f19 fa2 q24 (by decide) (by decide)
          refine g_iconst C dX6_isBetter_32 ?_
          refine g_goto C 37 (by decide) dX6_isBetter_33 ?_
          exact g_iret C hr (nar_z2 (iw (il 1) (by decide) (by decide))).1 (iw (il 1) (by decide) (by decide)) ⟨O, Fx.rf, (iw (il 1) (by decide) (by decide))⟩ (by decide) (by decide) dX6_isBetter_37
def wr_k_X6_firstBelowFloor : List Nat := []
set_option maxRecDepth 100000 in
set_option maxHeartbeats 4000000 in
theorem k_X6_firstBelowFloor (l : Launch) (D : va_G) (cy : Nat → ClassId) (w : Nat → Nat) (z0 : Nat)  {h : Hp} {a0 : Nat}  (O : Okh h) (ta0 : Tg h a0 = 7) : MI l D cy w z0 yX6_firstBelowFloor cX6_firstBelowFloor 2 (some .int) 0 0 0 0 [.inr (.inr a0)] h (fun v h1 => Okh h1 ∧ Fx wr_k_X6_firstBelowFloor h h1 ∧ ((-1) ≤ v ∧ v ≤ 95)) := by
  refine hm_go (by decide +kernel) (Nat.le_of_ble_eq_true rfl) (fun p e s m below meth c C hr hn => ?_)
  refine g_iconst C dX6_firstBelowFloor_0 ?_
  refine g_istore_n C [(1, .inl 0), (0, .inr (.inr a0))] rfl (by decide) rfl dX6_firstBelowFloor_1 ?_
  refine GW.sub [1, 0] rfl ?_
  -- loop at 2
  have L2 : ∀ (μ : Nat) (x1 : Int), (96 - x1).toNat = μ → ((0 : Int) ≤ x1 ∧ x1 ≤ (96 : Int)) → GW p l e (rmm 0 0 0 0) s m (List.map toV [.inr (.inr a0)]).toArray below meth c D cy z0 2 (MQ below (QI D cy z0 (fun v h1 => Okh h1 ∧ Fx wr_k_X6_firstBelowFloor h h1 ∧ ((-1) ≤ v ∧ v ≤ 95))) (List.map toV [.inr (.inr a0)]).toArray s 0 0 (Aof z0)) 2 [(0, .inr (.inr a0)), (1, .inl x1)] [] h 0 0 := by
    intro μ
    induction μ using Nat.strongRecOn with
    | ind μ ih3 =>
      intro x1 hm4 f5
      refine g_iload_n C rfl 1 rfl dX6_firstBelowFloor_2 ?_
      refine g_bipush C (by decide) dX6_firstBelowFloor_3 ?_
      refine g_icmp_ge C (iw f5 (by decide) (by decide)) (iw (il 96) (by decide) (by decide)) 31 (by decide) dX6_firstBelowFloor_5 (fun q6 => ?_) (fun q7 => ?_)
      · have f8 : (96 : Int) ≤ x1 ∧ x1 ≤ (96 : Int) := r_ge f5 (il 96) q6 (by decide) (by decide)
        refine g_iconst C dX6_firstBelowFloor_31 ?_
        exact g_iret C hr rfl (iw (il (-1)) (by decide) (by decide)) ⟨O, Fx.rf, (iw (il (-1)) (by decide) (by decide))⟩ (by decide) (by decide) dX6_firstBelowFloor_32
      · have f9 : (0 : Int) ≤ x1 ∧ x1 ≤ (95 : Int) := r_lt f5 (il 96) q7 (by decide) (by decide)
        refine g_aload_n C rfl 0 rfl dX6_firstBelowFloor_8 ?_
        obtain ⟨v10, e11⟩ : ∃ z, Rv h a0 6 = z := ⟨_, rfl⟩
        have t12 := ok_R O ta0 rE_7_6 e11
        have l13 := ok_L O ta0 rE_7_6 e11
        refine gf_R C fk_LandSurvey_Search_18 rfl ta0 e11 dX6_firstBelowFloor_9 ?_
        refine g_iload_n C rfl 1 rfl dX6_firstBelowFloor_12 ?_
        obtain ⟨v14, e15⟩ : ∃ z, Iv h v10 x1.toNat = z := ⟨_, rfl⟩
        have f16 := ok_Ia O t12 ar_40100 rI_40100_0 e15
        refine g_iald C t12 rfl l13 (ix f9 (by decide) (by decide)) e15 dX6_firstBelowFloor_13 ?_
        refine g_aload_n C rfl 0 rfl dX6_firstBelowFloor_14 ?_
        obtain ⟨v17, e18⟩ : ∃ z, Rv h a0 8 = z := ⟨_, rfl⟩
        have t19 := ok_R O ta0 rE_7_8 e18
        have l20 := ok_L O ta0 rE_7_8 e18
        refine gf_R C fk_LandSurvey_Search_25 rfl ta0 e18 dX6_firstBelowFloor_15 ?_
        refine g_iload_n C rfl 1 rfl dX6_firstBelowFloor_18 ?_
        obtain ⟨v21, e22⟩ : ∃ z, Iv h v17 x1.toNat = z := ⟨_, rfl⟩
        have f23 := ok_Ia O t19 ar_40100 rI_40100_0 e22
        refine g_iald C t19 rfl l20 (ix f9 (by decide) (by decide)) e22 dX6_firstBelowFloor_19 ?_
        refine g_icmp_ge C f16 f23 25 (by decide) dX6_firstBelowFloor_20 (fun q24 => ?_) (fun q25 => ?_)
        · have f26 : (1 : Int) ≤ (x1 + 1) ∧ (x1 + 1) ≤ (96 : Int) := ia_add f9 (il 1) (by decide) (by decide)
          refine g_iinc C [(1, .inl (x1 + 1)), (0, .inr (.inr a0))] 1 rfl (by decide) rfl dX6_firstBelowFloor_25 ?_
          refine g_goto C 2 (by decide) dX6_firstBelowFloor_28 ?_
          refine GW.sub [1, 0] rfl ?_
          exact ih3 _ (by omega) (x1 + 1) rfl (iw f26 (by decide) (by decide))
        · have f27 : (-2147483648 : Int) ≤ v14 ∧ v14 ≤ (2147483646 : Int) := r_lt f16 f23 q25 (by decide) (by decide)
          have f28 : (-2147483647 : Int) ≤ v21 ∧ v21 ≤ (2147483647 : Int) := r_gt f23 f16 q25 (by decide) (by decide)
          refine g_iload_n C rfl 1 rfl dX6_firstBelowFloor_23 ?_
          exact g_iret C hr rfl (iw f9 (by decide) (by decide)) ⟨O, Fx.rf, (iw f9 (by decide) (by decide))⟩ (by decide) (by decide) dX6_firstBelowFloor_24
  exact L2 _ 0 rfl (iw (il 0) (by decide) (by decide))
def wr_k_X6_firstOnLoop : List Nat := [8620000]
set_option maxRecDepth 100000 in
set_option maxHeartbeats 4000000 in
theorem k_X6_firstOnLoop (l : Launch) (D : va_G) (cy : Nat → ClassId) (w : Nat → Nat) (z0 : Nat)  {h : Hp} {a0 : Nat}  (O : Okh h) (ta0 : Tg h a0 = 7) : MI l D cy w z0 yX6_firstOnLoop cX6_firstOnLoop 4 (some .int) 1 23 0 0 [.inr (.inr a0)] h (fun v h1 => Okh h1 ∧ Fx wr_k_X6_firstOnLoop h h1 ∧ ((-1) ≤ v ∧ v ≤ 95)) := by
  refine hm_go (by decide +kernel) (Nat.le_of_ble_eq_true rfl) (fun p e s m below meth c C hr hn => ?_)
  refine g_aload_n C rfl 0 rfl dX6_firstOnLoop_0 ?_
  obtain ⟨v1, e2⟩ : ∃ z, Rv h a0 11 = z := ⟨_, rfl⟩
  have t3 := ok_R O ta0 rE_7_11 e2
  have l4 := ok_L O ta0 rE_7_11 e2
  refine gf_R C fk_LandSurvey_Search_35 rfl ta0 e2 dX6_firstOnLoop_1 ?_
  refine g_iconst C dX6_firstOnLoop_4 ?_
  refine g_callV (st := []) (gc_S C lk_LandSurvey_Search_141 (k_fill_43100 l D cy w z0 O t3 l4 (iw (il (-1)) (by decide) (by decide))) rfl ⟨by decide, by decide⟩ (Nat.le_of_ble_eq_true rfl) dX6_firstOnLoop_5 ⟨(by decide), (by decide)⟩) (fun h6 K7 => ?_)
  obtain ⟨O9, F10⟩ := K7
  refine g_iconst C dX6_firstOnLoop_8 ?_
  refine g_istore_n C [(1, .inl 0), (0, .inr (.inr a0))] rfl (by decide) rfl dX6_firstOnLoop_9 ?_
  refine GW.sub [1, 0] rfl ?_
  -- loop at 10
  have L13 : ∀ (μ : Nat) (x11 : Int) (h12 : Hp), (96 - x11).toNat = μ → Okh h12 → Fx [8620000] h6 h12 → ((0 : Int) ≤ x11 ∧ x11 ≤ (96 : Int)) → GW p l e (rmm 1 23 0 0) s m (List.map toV [.inr (.inr a0)]).toArray below meth c D cy z0 4 (MQ below (QI D cy z0 (fun v h1 => Okh h1 ∧ Fx wr_k_X6_firstOnLoop h h1 ∧ ((-1) ≤ v ∧ v ≤ 95))) (List.map toV [.inr (.inr a0)]).toArray s 0 0 (Aof z0)) 10 [(0, .inr (.inr a0)), (1, .inl x11)] [] h12 0 0 := by
    intro μ
    induction μ using Nat.strongRecOn with
    | ind μ ih14 =>
      intro x11 h12 hm15 O16 F17 f18
      refine g_iload_n C rfl 1 rfl dX6_firstOnLoop_10 ?_
      refine g_bipush C (by decide) dX6_firstOnLoop_11 ?_
      refine g_icmp_ge C (iw f18 (by decide) (by decide)) (iw (il 96) (by decide) (by decide)) 92 (by decide) dX6_firstOnLoop_13 (fun q19 => ?_) (fun q20 => ?_)
      · have f21 : (96 : Int) ≤ x11 ∧ x11 ≤ (96 : Int) := r_ge f18 (il 96) q19 (by decide) (by decide)
        refine g_iconst C dX6_firstOnLoop_92 ?_
        exact g_iret C hr rfl (iw (il (-1)) (by decide) (by decide)) ⟨O16, (((Fx.rf (wr := wr_k_X6_firstOnLoop)).call F10 rfl).call F17 rfl), (iw (il (-1)) (by decide) (by decide))⟩ (by decide) (by decide) dX6_firstOnLoop_93
      · have f22 : (0 : Int) ≤ x11 ∧ x11 ≤ (95 : Int) := r_lt f18 (il 96) q20 (by decide) (by decide)
        refine g_iload_n C rfl 1 rfl dX6_firstOnLoop_16 ?_
        refine g_istore_n C [(2, .inl x11), (0, .inr (.inr a0)), (1, .inl x11)] rfl (by decide) rfl dX6_firstOnLoop_17 ?_
        refine g_iconst C dX6_firstOnLoop_18 ?_
        refine g_istore_n C [(3, .inl 0), (2, .inl x11), (0, .inr (.inr a0)), (1, .inl x11)] rfl (by decide) rfl dX6_firstOnLoop_19 ?_
        refine GW.sub [2, 3, 1, 0] rfl ?_
        -- loop at 20
        have L26 : ∀ (μ : Nat) (x23 : Int) (x24 : Int) (h25 : Hp), (97 - x24).toNat = μ → Okh h25 → Fx [8620000] h12 h25 → ((0 : Int) ≤ x23 ∧ x23 ≤ (95 : Int)) → ((0 : Int) ≤ x24 ∧ x24 ≤ (97 : Int)) → GW p l e (rmm 1 23 0 0) s m (List.map toV [.inr (.inr a0)]).toArray below meth c D cy z0 4 (MQ below (QI D cy z0 (fun v h1 => Okh h1 ∧ Fx wr_k_X6_firstOnLoop h h1 ∧ ((-1) ≤ v ∧ v ≤ 95))) (List.map toV [.inr (.inr a0)]).toArray s 0 0 (Aof z0)) 20 [(0, .inr (.inr a0)), (1, .inl x11), (2, .inl x23), (3, .inl x24)] [] h25 0 0 := by
          intro μ
          induction μ using Nat.strongRecOn with
          | ind μ ih27 =>
            intro x23 x24 h25 hm28 O29 F30 f31 f32
            refine g_iload_n C rfl 3 rfl dX6_firstOnLoop_20 ?_
            refine g_bipush C (by decide) dX6_firstOnLoop_21 ?_
            refine g_icmp_gt C (iw f32 (by decide) (by decide)) (iw (il 96) (by decide) (by decide)) 86 (by decide) dX6_firstOnLoop_23 (fun q33 => ?_) (fun q34 => ?_)
            · have f35 : (97 : Int) ≤ x24 ∧ x24 ≤ (97 : Int) := r_gt f32 (il 96) q33 (by decide) (by decide)
              have f36 : (1 : Int) ≤ (x11 + 1) ∧ (x11 + 1) ≤ (96 : Int) := ia_add f22 (il 1) (by decide) (by decide)
              refine g_iinc C [(1, .inl (x11 + 1)), (0, .inr (.inr a0)), (2, .inl x23), (3, .inl x24)] 1 rfl (by decide) rfl dX6_firstOnLoop_86 ?_
              refine g_goto C 10 (by decide) dX6_firstOnLoop_89 ?_
              refine GW.sub [1, 0] rfl ?_
              exact ih14 _ (by omega) (x11 + 1) h25 rfl O29 (F17.call F30 rfl) (iw f36 (by decide) (by decide))
            · have f37 : (0 : Int) ≤ x24 ∧ x24 ≤ (96 : Int) := r_le f32 (il 96) q34 (by decide) (by decide)
              refine g_aload_n C rfl 0 rfl dX6_firstOnLoop_26 ?_
              have e38 : Tg h25 a0 = 7 := (fxT F30 (fxT F17 (fxT F10 ta0)))
              have e39 : Tg h6 a0 = 7 := (fxT F10 ta0)
              have e40 : Tg h12 a0 = 7 := (fxT F17 e39)
              have e41 : Rv h25 a0 11 = v1 := ((fxR F30 e40 rfl).trans ((fxR F17 e39 rfl).trans ((fxR F10 ta0 rfl).trans e2)))
              refine gf_R C fk_LandSurvey_Search_35 rfl e38 e41 dX6_firstOnLoop_27 ?_
              refine g_iload_n C rfl 2 rfl dX6_firstOnLoop_30 ?_
              have e42 : Tg h25 v1 = 43100 := (fxT F30 (fxT F17 (fxT F10 t3)))
              have e43 : Tg h6 v1 = 43100 := (fxT F10 t3)
              have e44 : Tg h12 v1 = 43100 := (fxT F17 e43)
              have e45 : Ln h25 v1 = 96 := ((fxL F30 e44).trans ((fxL F17 e43).trans ((fxL F10 t3).trans l4)))
              obtain ⟨v46, e47⟩ : ∃ z, Iv h25 v1 x23.toNat = z := ⟨_, rfl⟩
              have f48 := ok_Ia O29 e42 ar_43100 rI_43100_0 e47
              refine g_iald C e42 rfl e45 (ix f31 (by decide) (by decide)) e47 dX6_firstOnLoop_31 ?_
              refine g_iconst C dX6_firstOnLoop_32 ?_
              refine g_icmp_ne C (iw f48 (by decide) (by decide)) (iw (il (-1)) (by decide) (by decide)) 86 (by decide) dX6_firstOnLoop_33 (fun q49 => ?_) (fun q50 => ?_)
              · have f51 : (0 : Int) ≤ v46 ∧ v46 ≤ (95 : Int) := r_nl f48 q49
                have f52 : (1 : Int) ≤ (x11 + 1) ∧ (x11 + 1) ≤ (96 : Int) := ia_add f22 (il 1) (by decide) (by decide)
                refine g_iinc C [(1, .inl (x11 + 1)), (0, .inr (.inr a0)), (2, .inl x23), (3, .inl x24)] 1 rfl (by decide) rfl dX6_firstOnLoop_86 ?_
                refine g_goto C 10 (by decide) dX6_firstOnLoop_89 ?_
                refine GW.sub [1, 0] rfl ?_
                exact ih14 _ (by omega) (x11 + 1) h25 rfl O29 (F17.call F30 rfl) (iw f52 (by decide) (by decide))
              · have f53 : (-1 : Int) ≤ v46 ∧ v46 ≤ (-1 : Int) := ii f48 (r_eq (il (-1)) q50) (by decide) (by decide)
                refine g_aload_n C rfl 0 rfl dX6_firstOnLoop_36 ?_
                refine gf_R C fk_LandSurvey_Search_35 rfl e38 e41 dX6_firstOnLoop_37 ?_
                refine g_iload_n C rfl 2 rfl dX6_firstOnLoop_40 ?_
                refine g_iload_n C rfl 1 rfl dX6_firstOnLoop_41 ?_
                refine g_iast C e42 rfl e45 (ix f31 (by decide) (by decide)) (iw f22 (by decide) (by decide)) dX6_firstOnLoop_42 (fun h55 hh54 => ?_)
                have O56 := O29.pIa e42 ar_43100 hh54 rI_43100_0 (iw f22 (by decide) (by decide)) nofun
                refine g_aload_n C rfl 0 rfl dX6_firstOnLoop_43 ?_
                have e57 : Tg h55 a0 = 7 := ((pIT hh54).trans e38)
                obtain ⟨v58, e59⟩ : ∃ z, Rv h55 a0 0 = z := ⟨_, rfl⟩
                have t60 := ok_R O56 e57 rE_7_0 e59
                refine gf_R C fk_LandSurvey_Search_12 rfl e57 e59 dX6_firstOnLoop_44 ?_
                obtain ⟨v61, e62⟩ : ∃ z, Rv h55 v58 2 = z := ⟨_, rfl⟩
                have t63 := ok_R O56 t60 rE_10_2 e62
                have l64 := ok_L O56 t60 rE_10_2 e62
                refine gf_R C fk_LandSurvey_Search_181 rfl t60 e62 dX6_firstOnLoop_47 ?_
                refine g_iload_n C rfl 2 rfl dX6_firstOnLoop_50 ?_
                obtain ⟨v65, e66⟩ : ∃ z, Iv h55 v61 x23.toNat = z := ⟨_, rfl⟩
                have f67 := ok_Ia O56 t63 ar_47100 rI_47100_0 e66
                refine g_iald C t63 rfl l64 (ix f31 (by decide) (by decide)) e66 dX6_firstOnLoop_51 ?_
                refine g_iconst C dX6_firstOnLoop_52 ?_
                refine g_icmp_eq C (iw f67 (by decide) (by decide)) (iw (il (-1)) (by decide) (by decide)) 80 (by decide) dX6_firstOnLoop_53 (fun q68 => ?_) (fun q69 => ?_)
                · have f70 : (-1 : Int) ≤ v65 ∧ v65 ≤ (-1 : Int) := ii f67 (r_eq (il (-1)) q68) (by decide) (by decide)
                  have f71 : (1 : Int) ≤ (x24 + 1) ∧ (x24 + 1) ≤ (97 : Int) := ia_add f37 (il 1) (by decide) (by decide)
                  refine g_iinc C [(3, .inl (x24 + 1)), (0, .inr (.inr a0)), (1, .inl x11), (2, .inl x23)] 3 rfl (by decide) rfl dX6_firstOnLoop_80 ?_
                  refine g_goto C 20 (by decide) dX6_firstOnLoop_83 ?_
                  refine GW.sub [1, 2, 3, 0] rfl ?_
                  exact ih27 _ (by omega) x23 (x24 + 1) h55 rfl O56 (F30.pIa e42 ar_43100 hh54 rfl) f31 (iw f71 (by decide) (by decide))
                · have f72 : (0 : Int) ≤ v65 ∧ v65 ≤ (383 : Int) := r_nl f67 q69
                  refine g_aload_n C rfl 0 rfl dX6_firstOnLoop_56 ?_
                  refine gf_R C fk_LandSurvey_Search_12 rfl e57 e59 dX6_firstOnLoop_57 ?_
                  refine gf_R C fk_LandSurvey_Search_181 rfl t60 e62 dX6_firstOnLoop_60 ?_
                  refine g_iload_n C rfl 2 rfl dX6_firstOnLoop_63 ?_
                  refine g_iald C t63 rfl l64 (ix f31 (by decide) (by decide)) e66 dX6_firstOnLoop_64 ?_
                  refine g_iconst C dX6_firstOnLoop_65 ?_
                  refine g_idivE (k := 4) C (iw f72 (by decide) (by decide)) (by decide) (by decide) dX6_firstOnLoop_66 ?_
                  have f73 : (0 : Int) ≤ (v65 / 4) ∧ (v65 / 4) ≤ (95 : Int) := iv_div (by decide) f72 (by decide) (by decide)
                  refine g_istore_n C [(2, .inl (v65 / 4)), (0, .inr (.inr a0)), (1, .inl x11), (3, .inl x24)] rfl (by decide) rfl dX6_firstOnLoop_67 ?_
                  refine g_aload_n C rfl 1 rfl dX6_firstOnLoop_68 ?_
                  have e74 : Rv h55 a0 11 = v1 := ((pIR hh54).trans e41)
                  refine gf_R C fk_LandSurvey_Search_35 rfl e57 e74 dX6_firstOnLoop_69 ?_
                  refine g_iload_n C rfl 0 rfl dX6_firstOnLoop_72 ?_
                  have e75 : Tg h55 v1 = 43100 := ((pIT hh54).trans e42)
                  have e76 : Ln h55 v1 = 96 := ((pIL hh54).trans e45)
                  obtain ⟨v77, e78⟩ : ∃ z, Iv h55 v1 ((v65 / 4).toNat) = z := ⟨_, rfl⟩
                  have f79 := ok_Ia O56 e75 ar_43100 rI_43100_0 e78
                  refine g_iald C e75 rfl e76 (ix f73 (by decide) (by decide)) e78 dX6_firstOnLoop_73 ?_
                  refine g_iload_n C rfl 2 rfl dX6_firstOnLoop_74 ?_
                  refine g_icmp_ne C (iw f79 (by decide) (by decide)) (iw f22 (by decide) (by decide)) 80 (by decide) dX6_firstOnLoop_75 (fun q80 => ?_) (fun q81 => ?_)
                  · have f82 : (1 : Int) ≤ (x24 + 1) ∧ (x24 + 1) ≤ (97 : Int) := ia_add f37 (il 1) (by decide) (by decide)
                    refine g_iinc C [(3, .inl (x24 + 1)), (2, .inl (v65 / 4)), (0, .inr (.inr a0)), (1, .inl x11)] 3 rfl (by decide) rfl dX6_firstOnLoop_80 ?_
                    refine g_goto C 20 (by decide) dX6_firstOnLoop_83 ?_
                    refine GW.sub [2, 3, 1, 0] rfl ?_
                    exact ih27 _ (by omega) (v65 / 4) (x24 + 1) h55 rfl O56 (F30.pIa e42 ar_43100 hh54 rfl) f73 (iw f82 (by decide) (by decide))
                  · have f83 : (0 : Int) ≤ v77 ∧ v77 ≤ (95 : Int) := ii f79 (r_eq f22 q81) (by decide) (by decide)
                    refine g_iload_n C rfl 0 rfl dX6_firstOnLoop_78 ?_
                    exact g_iret C hr rfl (iw f73 (by decide) (by decide)) ⟨O56, (((((Fx.rf (wr := wr_k_X6_firstOnLoop)).call F10 rfl).call F17 rfl).call F30 rfl).pIa e42 ar_43100 hh54 rfl), (iw f73 (by decide) (by decide))⟩ (by decide) (by decide) dX6_firstOnLoop_79
        exact L26 _ x11 0 h12 rfl O16 Fx.rf f22 (iw (il 0) (by decide) (by decide))
  exact L13 _ 0 h6 rfl O9 Fx.rf (iw (il 0) (by decide) (by decide))
def wr_k_X6_blameLoop : List Nat := []
set_option maxRecDepth 100000 in
set_option maxHeartbeats 4000000 in
theorem k_X6_blameLoop (l : Launch) (D : va_G) (cy : Nat → ClassId) (w : Nat → Nat) (z0 : Nat)  {h : Hp} {a0 : Nat} {a1 : Int}  (O : Okh h) (ta0 : Tg h a0 = 7) (fa1 : 0 ≤ a1 ∧ a1 ≤ 95) : MJ l D cy w z0 yX6_blameLoop cX6_blameLoop 6 (some .long) 0 0 0 0 [.inr (.inr a0), .inl a1] h (fun v h1 => Okh h1 ∧ Fx wr_k_X6_blameLoop h h1) := by
  refine hm_go (by decide +kernel) (Nat.le_of_ble_eq_true rfl) (fun p e s m below meth c C hr hn => ?_)
  refine g_lconst (z := 0) C (by decide) dX6_blameLoop_0 ?_
  refine g_lstore_n C [(2, .inr (.inl 0)), (0, .inr (.inr a0)), (1, .inl a1)] rfl (by decide) rfl dX6_blameLoop_1 ?_
  refine g_iload_n C rfl 2 rfl dX6_blameLoop_2 ?_
  refine g_istore C [(4, .inl a1), (2, .inr (.inl 0)), (0, .inr (.inr a0)), (1, .inl a1)] (by decide) rfl dX6_blameLoop_3 ?_
  refine g_iconst C dX6_blameLoop_5 ?_
  refine g_istore C [(5, .inl 0), (4, .inl a1), (2, .inr (.inl 0)), (0, .inr (.inr a0)), (1, .inl a1)] (by decide) rfl dX6_blameLoop_6 ?_
  refine GW.sub [3, 4, 2, 1, 0] rfl ?_
  -- loop at 8
  have L4 : ∀ (μ : Nat) (x1 : Int) (x2 : Int) (x3 : Int), (96 - x3).toNat = μ → ((-9223372036854775808 : Int) ≤ x1 ∧ x1 ≤ (9223372036854775807 : Int)) → ((0 : Int) ≤ x2 ∧ x2 ≤ (95 : Int)) → ((0 : Int) ≤ x3 ∧ x3 ≤ (96 : Int)) → GW p l e (rmm 0 0 0 0) s m (List.map toV [.inr (.inr a0), .inl a1]).toArray below meth c D cy z0 6 (MQ below (QJ D cy z0 (fun v h1 => Okh h1 ∧ Fx wr_k_X6_blameLoop h h1)) (List.map toV [.inr (.inr a0), .inl a1]).toArray s 0 0 (Aof z0)) 8 [(0, .inr (.inr a0)), (1, .inl a1), (2, .inr (.inl x1)), (4, .inl x2), (5, .inl x3)] [] h 0 0 := by
    intro μ
    induction μ using Nat.strongRecOn with
    | ind μ ih5 =>
      intro x1 x2 x3 hm6 f7 f8 f9
      refine g_iload C 4 rfl dX6_blameLoop_8 ?_
      refine g_bipush C (by decide) dX6_blameLoop_10 ?_
      refine g_icmp_ge C (iw f9 (by decide) (by decide)) (iw (il 96) (by decide) (by decide)) 79 (by decide) dX6_blameLoop_12 (fun q10 => ?_) (fun q11 => ?_)
      · have f12 : (96 : Int) ≤ x3 ∧ x3 ≤ (96 : Int) := r_ge f9 (il 96) q10 (by decide) (by decide)
        refine g_lload_n C rfl 2 rfl dX6_blameLoop_79 ?_
        exact g_lret C hr f7 ⟨O, Fx.rf⟩ (by decide) (by decide) dX6_blameLoop_80
      · have f13 : (0 : Int) ≤ x3 ∧ x3 ≤ (95 : Int) := r_lt f9 (il 96) q11 (by decide) (by decide)
        refine g_aload_n C rfl 0 rfl dX6_blameLoop_15 ?_
        obtain ⟨v14, e15⟩ : ∃ z, Rv h a0 0 = z := ⟨_, rfl⟩
        have t16 := ok_R O ta0 rE_7_0 e15
        refine gf_R C fk_LandSurvey_Search_12 rfl ta0 e15 dX6_blameLoop_16 ?_
        obtain ⟨v17, e18⟩ : ∃ z, Rv h v14 2 = z := ⟨_, rfl⟩
        have t19 := ok_R O t16 rE_10_2 e18
        have l20 := ok_L O t16 rE_10_2 e18
        refine gf_R C fk_LandSurvey_Search_181 rfl t16 e18 dX6_blameLoop_19 ?_
        refine g_iload C 3 rfl dX6_blameLoop_22 ?_
        obtain ⟨v21, e22⟩ : ∃ z, Iv h v17 x2.toNat = z := ⟨_, rfl⟩
        have f23 := ok_Ia O t19 ar_47100 rI_47100_0 e22
        refine g_iald C t19 rfl l20 (ix f8 (by decide) (by decide)) e22 dX6_blameLoop_24 ?_
        refine g_iconst C dX6_blameLoop_25 ?_
        refine g_icmp_eq C (iw f23 (by decide) (by decide)) (iw (il (-1)) (by decide) (by decide)) 79 (by decide) dX6_blameLoop_26 (fun q24 => ?_) (fun q25 => ?_)
        · have f26 : (-1 : Int) ≤ v21 ∧ v21 ≤ (-1 : Int) := ii f23 (r_eq (il (-1)) q24) (by decide) (by decide)
          refine g_lload_n C rfl 2 rfl dX6_blameLoop_79 ?_
          exact g_lret C hr f7 ⟨O, Fx.rf⟩ (by decide) (by decide) dX6_blameLoop_80
        · have f27 : (0 : Int) ≤ v21 ∧ v21 ≤ (383 : Int) := r_nl f23 q25
          refine g_lload_n C rfl 2 rfl dX6_blameLoop_29 ?_
          refine g_aload_n C rfl 0 rfl dX6_blameLoop_30 ?_
          refine gf_R C fk_LandSurvey_Search_12 rfl ta0 e15 dX6_blameLoop_31 ?_
          obtain ⟨v28, e29⟩ : ∃ z, Rv h v14 1 = z := ⟨_, rfl⟩
          have t30 := ok_R O t16 rE_10_1 e29
          have l31 := ok_L O t16 rE_10_1 e29
          refine gf_R C fk_LandSurvey_Search_184 rfl t16 e29 dX6_blameLoop_34 ?_
          refine g_aload_n C rfl 0 rfl dX6_blameLoop_37 ?_
          refine gf_R C fk_LandSurvey_Search_12 rfl ta0 e15 dX6_blameLoop_38 ?_
          refine gf_R C fk_LandSurvey_Search_181 rfl t16 e18 dX6_blameLoop_41 ?_
          refine g_iload C 3 rfl dX6_blameLoop_44 ?_
          refine g_iald C t19 rfl l20 (ix f8 (by decide) (by decide)) e22 dX6_blameLoop_46 ?_
          obtain ⟨v32, e33⟩ : ∃ z, Jv h v28 v21.toNat = z := ⟨_, rfl⟩
          have f34 := inL_J O e33
          refine g_lald C t30 rfl l31 (ix f27 (by decide) (by decide)) e33 dX6_blameLoop_47 ?_
          refine g_lor C dX6_blameLoop_48 ?_
          have f35 : (-9223372036854775808 : Int) ≤ (lOr x1 v32) ∧ (lOr x1 v32) ≤ (9223372036854775807 : Int) := inL_of _
          refine g_lstore_n C [(2, .inr (.inl (lOr x1 v32))), (0, .inr (.inr a0)), (1, .inl a1), (4, .inl x2), (5, .inl x3)] rfl (by decide) rfl dX6_blameLoop_49 ?_
          refine g_aload_n C rfl 1 rfl dX6_blameLoop_50 ?_
          refine gf_R C fk_LandSurvey_Search_12 rfl ta0 e15 dX6_blameLoop_51 ?_
          refine gf_R C fk_LandSurvey_Search_181 rfl t16 e18 dX6_blameLoop_54 ?_
          refine g_iload C 3 rfl dX6_blameLoop_57 ?_
          refine g_iald C t19 rfl l20 (ix f8 (by decide) (by decide)) e22 dX6_blameLoop_59 ?_
          refine g_iconst C dX6_blameLoop_60 ?_
          refine g_idivE (k := 4) C (iw f27 (by decide) (by decide)) (by decide) (by decide) dX6_blameLoop_61 ?_
          have f36 : (0 : Int) ≤ (v21 / 4) ∧ (v21 / 4) ≤ (95 : Int) := iv_div (by decide) f27 (by decide) (by decide)
          refine g_istore C [(4, .inl (v21 / 4)), (2, .inr (.inl (lOr x1 v32))), (0, .inr (.inr a0)), (1, .inl a1), (5, .inl x3)] (by decide) rfl dX6_blameLoop_62 ?_
          refine g_iload C 0 rfl dX6_blameLoop_64 ?_
          refine g_iload_n C rfl 3 rfl dX6_blameLoop_66 ?_
          refine g_icmp_ne C (iw f36 (by decide) (by decide)) (iw fa1 (by decide) (by decide)) 73 (by decide) dX6_blameLoop_67 (fun q37 => ?_) (fun q38 => ?_)
          · have f39 : (1 : Int) ≤ (x3 + 1) ∧ (x3 + 1) ≤ (96 : Int) := ia_add f13 (il 1) (by decide) (by decide)
            refine g_iinc C [(5, .inl (x3 + 1)), (4, .inl (v21 / 4)), (2, .inr (.inl (lOr x1 v32))), (0, .inr (.inr a0)), (1, .inl a1)] 4 rfl (by decide) rfl dX6_blameLoop_73 ?_
            refine g_goto C 8 (by decide) dX6_blameLoop_76 ?_
            refine GW.sub [3, 4, 2, 1, 0] rfl ?_
            exact ih5 _ (by omega) (lOr x1 v32) (v21 / 4) (x3 + 1) rfl f35 f36 (iw f39 (by decide) (by decide))
          · refine g_goto C 79 (by decide) dX6_blameLoop_70 ?_
            refine g_lload_n C rfl 1 rfl dX6_blameLoop_79 ?_
            exact g_lret C hr f35 ⟨O, Fx.rf⟩ (by decide) (by decide) dX6_blameLoop_80
  exact L4 _ 0 a1 0 rfl (iw (il 0) (by decide) (by decide)) fa1 (iw (il 0) (by decide) (by decide))
def wr_k_X6_blameWayTo : List Nat := []
set_option maxRecDepth 100000 in
set_option maxHeartbeats 4000000 in
theorem k_X6_blameWayTo (l : Launch) (D : va_G) (cy : Nat → ClassId) (w : Nat → Nat) (z0 : Nat)  {h : Hp} {a0 : Nat} {a1 : Int}  (O : Okh h) (ta0 : Tg h a0 = 7) (fa1 : 0 ≤ a1 ∧ a1 ≤ 95) : MJ l D cy w z0 yX6_blameWayTo cX6_blameWayTo 7 (some .long) 1 25 0 0 [.inr (.inr a0), .inl a1] h (fun v h1 => Okh h1 ∧ Fx wr_k_X6_blameWayTo h h1) := by
  refine hm_go (by decide +kernel) (Nat.le_of_ble_eq_true rfl) (fun p e s m below meth c C hr hn => ?_)
  refine g_aload_n C rfl 0 rfl dX6_blameWayTo_0 ?_
  obtain ⟨v1, e2⟩ : ∃ z, Rv h a0 9 = z := ⟨_, rfl⟩
  have t3 := ok_R O ta0 rE_7_9 e2
  have l4 := ok_L O ta0 rE_7_9 e2
  refine gf_R C fk_LandSurvey_Search_28 rfl ta0 e2 dX6_blameWayTo_1 ?_
  refine g_iload_n C rfl 1 rfl dX6_blameWayTo_4 ?_
  obtain ⟨v5, e6⟩ : ∃ z, Jv h v1 a1.toNat = z := ⟨_, rfl⟩
  have f7 := inL_J O e6
  refine g_lald C t3 rfl l4 (ix fa1 (by decide) (by decide)) e6 dX6_blameWayTo_5 ?_
  refine g_lstore_n C [(2, .inr (.inl v5)), (0, .inr (.inr a0)), (1, .inl a1)] rfl (by decide) rfl dX6_blameWayTo_6 ?_
  refine g_iload_n C rfl 2 rfl dX6_blameWayTo_7 ?_
  refine g_istore C [(4, .inl a1), (2, .inr (.inl v5)), (0, .inr (.inr a0)), (1, .inl a1)] (by decide) rfl dX6_blameWayTo_8 ?_
  refine g_iconst C dX6_blameWayTo_10 ?_
  refine g_istore C [(5, .inl 0), (4, .inl a1), (2, .inr (.inl v5)), (0, .inr (.inr a0)), (1, .inl a1)] (by decide) rfl dX6_blameWayTo_11 ?_
  refine GW.sub [3, 4, 2, 1, 0] rfl ?_
  -- loop at 13
  have L11 : ∀ (μ : Nat) (x8 : Int) (x9 : Int) (x10 : Int), (96 - x10).toNat = μ → ((-9223372036854775808 : Int) ≤ x8 ∧ x8 ≤ (9223372036854775807 : Int)) → ((0 : Int) ≤ x9 ∧ x9 ≤ (95 : Int)) → ((0 : Int) ≤ x10 ∧ x10 ≤ (96 : Int)) → GW p l e (rmm 1 25 0 0) s m (List.map toV [.inr (.inr a0), .inl a1]).toArray below meth c D cy z0 7 (MQ below (QJ D cy z0 (fun v h1 => Okh h1 ∧ Fx wr_k_X6_blameWayTo h h1)) (List.map toV [.inr (.inr a0), .inl a1]).toArray s 0 0 (Aof z0)) 13 [(0, .inr (.inr a0)), (1, .inl a1), (2, .inr (.inl x8)), (4, .inl x9), (5, .inl x10)] [] h 0 0 := by
    intro μ
    induction μ using Nat.strongRecOn with
    | ind μ ih12 =>
      intro x8 x9 x10 hm13 f14 f15 f16
      refine g_iload C 4 rfl dX6_blameWayTo_13 ?_
      refine g_bipush C (by decide) dX6_blameWayTo_15 ?_
      refine g_icmp_ge C (iw f16 (by decide) (by decide)) (iw (il 96) (by decide) (by decide)) 73 (by decide) dX6_blameWayTo_17 (fun q17 => ?_) (fun q18 => ?_)
      · have f19 : (96 : Int) ≤ x10 ∧ x10 ≤ (96 : Int) := r_ge f16 (il 96) q17 (by decide) (by decide)
        refine g_aload_n C rfl 0 rfl dX6_blameWayTo_73 ?_
        refine g_iload C 3 rfl dX6_blameWayTo_74 ?_
        refine g_callJ (st := []) (gc_V C lk_LandSurvey_Search_133 (k_X6_blameLoop l D cy w z0 O ta0 f15) ta0 rfl rfl rfl ⟨by decide, by decide⟩ (Nat.le_of_ble_eq_true rfl) dX6_blameWayTo_76 ⟨(by decide), (by decide)⟩) (fun r20 h21 f23 K22 => ?_)
        obtain ⟨O24, F25⟩ := K22
        exact g_lret C hr f23 ⟨O24, ((Fx.rf (wr := wr_k_X6_blameWayTo)).call F25 rfl)⟩ (by decide) (by decide) dX6_blameWayTo_79
      · have f26 : (0 : Int) ≤ x10 ∧ x10 ≤ (95 : Int) := r_lt f16 (il 96) q18 (by decide) (by decide)
        refine g_aload_n C rfl 0 rfl dX6_blameWayTo_20 ?_
        obtain ⟨v27, e28⟩ : ∃ z, Rv h a0 0 = z := ⟨_, rfl⟩
        have t29 := ok_R O ta0 rE_7_0 e28
        refine gf_R C fk_LandSurvey_Search_12 rfl ta0 e28 dX6_blameWayTo_21 ?_
        obtain ⟨v30, e31⟩ : ∃ z, Rv h v27 2 = z := ⟨_, rfl⟩
        have t32 := ok_R O t29 rE_10_2 e31
        have l33 := ok_L O t29 rE_10_2 e31
        refine gf_R C fk_LandSurvey_Search_181 rfl t29 e31 dX6_blameWayTo_24 ?_
        refine g_iload C 3 rfl dX6_blameWayTo_27 ?_
        obtain ⟨v34, e35⟩ : ∃ z, Iv h v30 x9.toNat = z := ⟨_, rfl⟩
        have f36 := ok_Ia O t32 ar_47100 rI_47100_0 e35
        refine g_iald C t32 rfl l33 (ix f15 (by decide) (by decide)) e35 dX6_blameWayTo_29 ?_
        refine g_istore C [(6, .inl v34), (0, .inr (.inr a0)), (1, .inl a1), (2, .inr (.inl x8)), (4, .inl x9), (5, .inl x10)] (by decide) rfl dX6_blameWayTo_30 ?_
        refine g_iload C 0 rfl dX6_blameWayTo_32 ?_
        refine g_iconst C dX6_blameWayTo_34 ?_
        refine g_icmp_ne C (iw f36 (by decide) (by decide)) (iw (il (-1)) (by decide) (by decide)) 48 (by decide) dX6_blameWayTo_35 (fun q37 => ?_) (fun q38 => ?_)
        · have f39 : (0 : Int) ≤ v34 ∧ v34 ≤ (383 : Int) := r_nl f36 q37
          refine g_lload_n C rfl 3 rfl dX6_blameWayTo_48 ?_
          refine g_aload_n C rfl 1 rfl dX6_blameWayTo_49 ?_
          refine gf_R C fk_LandSurvey_Search_12 rfl ta0 e28 dX6_blameWayTo_50 ?_
          obtain ⟨v40, e41⟩ : ∃ z, Rv h v27 1 = z := ⟨_, rfl⟩
          have t42 := ok_R O t29 rE_10_1 e41
          have l43 := ok_L O t29 rE_10_1 e41
          refine gf_R C fk_LandSurvey_Search_184 rfl t29 e41 dX6_blameWayTo_53 ?_
          refine g_iload C 0 rfl dX6_blameWayTo_56 ?_
          obtain ⟨v44, e45⟩ : ∃ z, Jv h v40 v34.toNat = z := ⟨_, rfl⟩
          have f46 := inL_J O e45
          refine g_lald C t42 rfl l43 (ix f39 (by decide) (by decide)) e45 dX6_blameWayTo_58 ?_
          refine g_lor C dX6_blameWayTo_59 ?_
          have f47 : (-9223372036854775808 : Int) ≤ (lOr x8 v44) ∧ (lOr x8 v44) ≤ (9223372036854775807 : Int) := inL_of _
          refine g_lstore_n C [(2, .inr (.inl (lOr x8 v44))), (6, .inl v34), (0, .inr (.inr a0)), (1, .inl a1), (4, .inl x9), (5, .inl x10)] rfl (by decide) rfl dX6_blameWayTo_60 ?_
          refine g_iload C 1 rfl dX6_blameWayTo_61 ?_
          refine g_iconst C dX6_blameWayTo_63 ?_
          refine g_idivE (k := 4) C (iw f39 (by decide) (by decide)) (by decide) (by decide) dX6_blameWayTo_64 ?_
          have f48 : (0 : Int) ≤ (v34 / 4) ∧ (v34 / 4) ≤ (95 : Int) := iv_div (by decide) f39 (by decide) (by decide)
          refine g_istore C [(4, .inl (v34 / 4)), (2, .inr (.inl (lOr x8 v44))), (6, .inl v34), (0, .inr (.inr a0)), (1, .inl a1), (5, .inl x10)] (by decide) rfl dX6_blameWayTo_65 ?_
          have f49 : (1 : Int) ≤ (x10 + 1) ∧ (x10 + 1) ≤ (96 : Int) := ia_add f26 (il 1) (by decide) (by decide)
          refine g_iinc C [(5, .inl (x10 + 1)), (4, .inl (v34 / 4)), (2, .inr (.inl (lOr x8 v44))), (6, .inl v34), (0, .inr (.inr a0)), (1, .inl a1)] 5 rfl (by decide) rfl dX6_blameWayTo_67 ?_
          refine g_goto C 13 (by decide) dX6_blameWayTo_70 ?_
          refine GW.sub [4, 5, 2, 1, 0] rfl ?_
          exact ih12 _ (by omega) (lOr x8 v44) (v34 / 4) (x10 + 1) rfl f47 f48 (iw f49 (by decide) (by decide))
        · have f50 : (-1 : Int) ≤ v34 ∧ v34 ≤ (-1 : Int) := ii f36 (r_eq (il (-1)) q38) (by decide) (by decide)
          refine g_lload_n C rfl 3 rfl dX6_blameWayTo_38 ?_
          refine g_aload_n C rfl 1 rfl dX6_blameWayTo_39 ?_
          obtain ⟨v51, e52⟩ : ∃ z, Rv h a0 10 = z := ⟨_, rfl⟩
          have t53 := ok_R O ta0 rE_7_10 e52
          have l54 := ok_L O ta0 rE_7_10 e52
          refine gf_R C fk_LandSurvey_Search_32 rfl ta0 e52 dX6_blameWayTo_40 ?_
          refine g_iload C 4 rfl dX6_blameWayTo_43 ?_
          obtain ⟨v55, e56⟩ : ∃ z, Jv h v51 x9.toNat = z := ⟨_, rfl⟩
          have f57 := inL_J O e56
          refine g_lald C t53 rfl l54 (ix f15 (by decide) (by decide)) e56 dX6_blameWayTo_45 ?_
          refine g_lor C dX6_blameWayTo_46 ?_
          have f58 : (-9223372036854775808 : Int) ≤ (lOr x8 v55) ∧ (lOr x8 v55) ≤ (9223372036854775807 : Int) := inL_of _
          exact g_lret C hr f58 ⟨O, Fx.rf⟩ (by decide) (by decide) dX6_blameWayTo_47
  exact L11 _ v5 a1 0 rfl f7 fa1 (iw (il 0) (by decide) (by decide))
def wr_k_X6_layBounds : List Nat := [8020000, 8220400, 8420400]
set_option maxRecDepth 100000 in
set_option maxHeartbeats 4000000 in
theorem k_X6_layBounds (l : Launch) (D : va_G) (cy : Nat → ClassId) (w : Nat → Nat) (z0 : Nat)  {h : Hp} {a0 : Nat} {a1 : Nat} {a2 : Int}  (O : Okh h) (ta0 : Tg h a0 = 7) (ta1 : Tg h a1 = 9) (fa2 : (-9223372036854775808) ≤ a2 ∧ a2 ≤ 9223372036854775807) : MV l D cy w z0 yX6_layBounds cX6_layBounds 5 none 0 0 0 0 [.inr (.inr a0), .inr (.inr a1), .inr (.inl a2)] h (fun h1 => Okh h1 ∧ Fx wr_k_X6_layBounds h h1) := by
  refine hm_go (by decide +kernel) (Nat.le_of_ble_eq_true rfl) (fun p e s m below meth c C hr hn => ?_)
  refine g_aload_n C rfl 1 rfl dX6_layBounds_0 ?_
  obtain ⟨v1, e2⟩ : ∃ z, Iv h a1 1 = z := ⟨_, rfl⟩
  have f3 := ok_I O ta1 rI_9_1 e2
  refine gf_I C fk_LandSurvey_Search_158 rfl ta1 e2 dX6_layBounds_1 ?_
  refine g_istore C [(4, .inl v1), (0, .inr (.inr a0)), (1, .inr (.inr a1)), (2, .inr (.inl a2))] (by decide) rfl dX6_layBounds_4 ?_
  refine g_aload_n C rfl 2 rfl dX6_layBounds_6 ?_
  obtain ⟨v4, e5⟩ : ∃ z, Iv h a1 18 = z := ⟨_, rfl⟩
  have f6 := ok_I O ta1 rI_9_18 e5
  refine gf_I C fk_LandSurvey_Search_175 rfl ta1 e5 dX6_layBounds_7 ?_
  refine g_aload_n C rfl 1 rfl dX6_layBounds_10 ?_
  obtain ⟨v7, e8⟩ : ∃ z, Rv h a0 6 = z := ⟨_, rfl⟩
  have t9 := ok_R O ta0 rE_7_6 e8
  have l10 := ok_L O ta0 rE_7_6 e8
  refine gf_R C fk_LandSurvey_Search_18 rfl ta0 e8 dX6_layBounds_11 ?_
  refine g_iload C 0 rfl dX6_layBounds_14 ?_
  obtain ⟨v11, e12⟩ : ∃ z, Iv h v7 v1.toNat = z := ⟨_, rfl⟩
  have f13 := ok_Ia O t9 ar_40100 rI_40100_0 e12
  refine g_iald C t9 rfl l10 (ix f3 (by decide) (by decide)) e12 dX6_layBounds_16 ?_
  refine g_icmp_ge C f6 f13 39 (by decide) dX6_layBounds_17 (fun q14 => ?_) (fun q15 => ?_)
  · refine g_aload_n C rfl 2 rfl dX6_layBounds_39 ?_
    obtain ⟨v16, e17⟩ : ∃ z, Iv h a1 17 = z := ⟨_, rfl⟩
    have f18 := ok_I O ta1 rI_9_17 e17
    refine gf_I C fk_LandSurvey_Search_178 rfl ta1 e17 dX6_layBounds_40 ?_
    refine g_aload_n C rfl 1 rfl dX6_layBounds_43 ?_
    obtain ⟨v19, e20⟩ : ∃ z, Rv h a0 8 = z := ⟨_, rfl⟩
    have t21 := ok_R O ta0 rE_7_8 e20
    have l22 := ok_L O ta0 rE_7_8 e20
    refine gf_R C fk_LandSurvey_Search_25 rfl ta0 e20 dX6_layBounds_44 ?_
    refine g_iload C 0 rfl dX6_layBounds_47 ?_
    obtain ⟨v23, e24⟩ : ∃ z, Iv h v19 v1.toNat = z := ⟨_, rfl⟩
    have f25 := ok_Ia O t21 ar_40100 rI_40100_0 e24
    refine g_iald C t21 rfl l22 (ix f3 (by decide) (by decide)) e24 dX6_layBounds_49 ?_
    refine g_icmp_le C f18 f25 72 (by decide) dX6_layBounds_50 (fun q26 => ?_) (fun q27 => ?_)
    · exact g_vret C hr ⟨O, Fx.rf⟩ (by decide) (by decide) dX6_layBounds_72
    · have f28 : (-2147483648 : Int) ≤ v23 ∧ v23 ≤ (2147483646 : Int) := r_lt f25 f18 q27 (by decide) (by decide)
      have f29 : (-2147483647 : Int) ≤ v16 ∧ v16 ≤ (2147483647 : Int) := r_gt f18 f25 q27 (by decide) (by decide)
      refine g_aload_n C rfl 1 rfl dX6_layBounds_53 ?_
      refine gf_R C fk_LandSurvey_Search_25 rfl ta0 e20 dX6_layBounds_54 ?_
      refine g_iload C 0 rfl dX6_layBounds_57 ?_
      refine g_aload_n C rfl 2 rfl dX6_layBounds_59 ?_
      refine gf_I C fk_LandSurvey_Search_178 rfl ta1 e17 dX6_layBounds_60 ?_
      refine g_iast C t21 rfl l22 (ix f3 (by decide) (by decide)) (iw f29 (by decide) (by decide)) dX6_layBounds_63 (fun h31 hh30 => ?_)
      have O32 := O.pIa t21 ar_40100 hh30 rI_40100_0 (iw f29 (by decide) (by decide)) nofun
      refine g_aload_n C rfl 1 rfl dX6_layBounds_64 ?_
      have e33 : Tg h31 a0 = 7 := ((pIT hh30).trans ta0)
      obtain ⟨v34, e35⟩ : ∃ z, Rv h31 a0 9 = z := ⟨_, rfl⟩
      have t36 := ok_R O32 e33 rE_7_9 e35
      have l37 := ok_L O32 e33 rE_7_9 e35
      refine gf_R C fk_LandSurvey_Search_28 rfl e33 e35 dX6_layBounds_65 ?_
      refine g_iload C 0 rfl dX6_layBounds_68 ?_
      refine g_lload_n C rfl 3 rfl dX6_layBounds_70 ?_
      refine g_last C t36 rfl l37 (ix f3 (by decide) (by decide)) fa2 dX6_layBounds_71 (fun h39 hh38 => ?_)
      have O40 := O32.pJ hh38 fa2
      exact g_vret C hr ⟨O40, (((Fx.rf (wr := wr_k_X6_layBounds)).pIa t21 ar_40100 hh30 rfl).pJa t36 ar_41102 hh38 rfl)⟩ (by decide) (by decide) dX6_layBounds_72
  · have f41 : (-2147483648 : Int) ≤ v4 ∧ v4 ≤ (2147483646 : Int) := r_lt f6 f13 q15 (by decide) (by decide)
    have f42 : (-2147483647 : Int) ≤ v11 ∧ v11 ≤ (2147483647 : Int) := r_gt f13 f6 q15 (by decide) (by decide)
    refine g_aload_n C rfl 1 rfl dX6_layBounds_20 ?_
    refine gf_R C fk_LandSurvey_Search_18 rfl ta0 e8 dX6_layBounds_21 ?_
    refine g_iload C 0 rfl dX6_layBounds_24 ?_
    refine g_aload_n C rfl 2 rfl dX6_layBounds_26 ?_
    refine gf_I C fk_LandSurvey_Search_175 rfl ta1 e5 dX6_layBounds_27 ?_
    refine g_iast C t9 rfl l10 (ix f3 (by decide) (by decide)) (iw f41 (by decide) (by decide)) dX6_layBounds_30 (fun h44 hh43 => ?_)
    have O45 := O.pIa t9 ar_40100 hh43 rI_40100_0 (iw f41 (by decide) (by decide)) nofun
    refine g_aload_n C rfl 1 rfl dX6_layBounds_31 ?_
    have e46 : Tg h44 a0 = 7 := ((pIT hh43).trans ta0)
    obtain ⟨v47, e48⟩ : ∃ z, Rv h44 a0 10 = z := ⟨_, rfl⟩
    have t49 := ok_R O45 e46 rE_7_10 e48
    have l50 := ok_L O45 e46 rE_7_10 e48
    refine gf_R C fk_LandSurvey_Search_32 rfl e46 e48 dX6_layBounds_32 ?_
    refine g_iload C 0 rfl dX6_layBounds_35 ?_
    refine g_lload_n C rfl 3 rfl dX6_layBounds_37 ?_
    refine g_last C t49 rfl l50 (ix f3 (by decide) (by decide)) fa2 dX6_layBounds_38 (fun h52 hh51 => ?_)
    have O53 := O45.pJ hh51 fa2
    refine g_aload_n C rfl 2 rfl dX6_layBounds_39 ?_
    have e54 : Tg h52 a1 = 9 := ((pJT hh51).trans ((pIT hh43).trans ta1))
    obtain ⟨v55, e56⟩ : ∃ z, Iv h52 a1 17 = z := ⟨_, rfl⟩
    have f57 := ok_I O53 e54 rI_9_17 e56
    refine gf_I C fk_LandSurvey_Search_178 rfl e54 e56 dX6_layBounds_40 ?_
    refine g_aload_n C rfl 1 rfl dX6_layBounds_43 ?_
    have e58 : Tg h52 a0 = 7 := ((pJT hh51).trans e46)
    obtain ⟨v59, e60⟩ : ∃ z, Rv h52 a0 8 = z := ⟨_, rfl⟩
    have t61 := ok_R O53 e58 rE_7_8 e60
    have l62 := ok_L O53 e58 rE_7_8 e60
    refine gf_R C fk_LandSurvey_Search_25 rfl e58 e60 dX6_layBounds_44 ?_
    refine g_iload C 0 rfl dX6_layBounds_47 ?_
    obtain ⟨v63, e64⟩ : ∃ z, Iv h52 v59 v1.toNat = z := ⟨_, rfl⟩
    have f65 := ok_Ia O53 t61 ar_40100 rI_40100_0 e64
    refine g_iald C t61 rfl l62 (ix f3 (by decide) (by decide)) e64 dX6_layBounds_49 ?_
    refine g_icmp_le C f57 f65 72 (by decide) dX6_layBounds_50 (fun q66 => ?_) (fun q67 => ?_)
    · exact g_vret C hr ⟨O53, (((Fx.rf (wr := wr_k_X6_layBounds)).pIa t9 ar_40100 hh43 rfl).pJa t49 ar_42102 hh51 rfl)⟩ (by decide) (by decide) dX6_layBounds_72
    · have f68 : (-2147483648 : Int) ≤ v63 ∧ v63 ≤ (2147483646 : Int) := r_lt f65 f57 q67 (by decide) (by decide)
      have f69 : (-2147483647 : Int) ≤ v55 ∧ v55 ≤ (2147483647 : Int) := r_gt f57 f65 q67 (by decide) (by decide)
      refine g_aload_n C rfl 1 rfl dX6_layBounds_53 ?_
      refine gf_R C fk_LandSurvey_Search_25 rfl e58 e60 dX6_layBounds_54 ?_
      refine g_iload C 0 rfl dX6_layBounds_57 ?_
      refine g_aload_n C rfl 2 rfl dX6_layBounds_59 ?_
      refine gf_I C fk_LandSurvey_Search_178 rfl e54 e56 dX6_layBounds_60 ?_
      refine g_iast C t61 rfl l62 (ix f3 (by decide) (by decide)) (iw f69 (by decide) (by decide)) dX6_layBounds_63 (fun h71 hh70 => ?_)
      have O72 := O53.pIa t61 ar_40100 hh70 rI_40100_0 (iw f69 (by decide) (by decide)) nofun
      refine g_aload_n C rfl 1 rfl dX6_layBounds_64 ?_
      have e73 : Tg h71 a0 = 7 := ((pIT hh70).trans e58)
      obtain ⟨v74, e75⟩ : ∃ z, Rv h71 a0 9 = z := ⟨_, rfl⟩
      have t76 := ok_R O72 e73 rE_7_9 e75
      have l77 := ok_L O72 e73 rE_7_9 e75
      refine gf_R C fk_LandSurvey_Search_28 rfl e73 e75 dX6_layBounds_65 ?_
      refine g_iload C 0 rfl dX6_layBounds_68 ?_
      refine g_lload_n C rfl 3 rfl dX6_layBounds_70 ?_
      refine g_last C t76 rfl l77 (ix f3 (by decide) (by decide)) fa2 dX6_layBounds_71 (fun h79 hh78 => ?_)
      have O80 := O72.pJ hh78 fa2
      exact g_vret C hr ⟨O80, (((((Fx.rf (wr := wr_k_X6_layBounds)).pIa t9 ar_40100 hh43 rfl).pJa t49 ar_42102 hh51 rfl).pIa t61 ar_40100 hh70 rfl).pJa t76 ar_41102 hh78 rfl)⟩ (by decide) (by decide) dX6_layBounds_72
def wr_k_X6_lay : List Nat := [8020000, 8220400, 8420400, 9020000, 9220400, 9420000]
set_option maxRecDepth 100000 in
set_option maxHeartbeats 4000000 in
theorem k_X6_lay (l : Launch) (D : va_G) (cy : Nat → ClassId) (w : Nat → Nat) (z0 : Nat)  {h : Hp} {a0 : Nat} {a1 : Int} {a2 : Int}  (O : Okh h) (ta0 : Tg h a0 = 7) (fa1 : (-2147483648) ≤ a1 ∧ a1 ≤ 2147483647) (fa2 : (-9223372036854775808) ≤ a2 ∧ a2 ≤ 9223372036854775807) (P_SInv : SInv h a0) : MV l D cy w z0 yX6_lay cX6_lay 8 none 2 45 0 0 [.inr (.inr a0), .inl a1, .inr (.inl a2)] h (fun h1 => Okh h1 ∧ Fx wr_k_X6_lay h h1) := by
  obtain ⟨v1, e2⟩ : ∃ z, Rv h a0 1 = z := ⟨_, rfl⟩
  have t3 := ok_R O ta0 rE_7_1 e2
  have l4 := ok_L O ta0 rE_7_1 e2
  obtain ⟨v5, e6⟩ : ∃ z, Iv h a0 3 = z := ⟨_, rfl⟩
  have f7 := ok_I O ta0 rI_7_3 e6
  obtain ⟨v8, e9⟩ : ∃ z, Rv h a0 2 = z := ⟨_, rfl⟩
  have t10 := ok_R O ta0 rE_7_2 e9
  have l11 := ok_L O ta0 rE_7_2 e9
  obtain ⟨v12, e13⟩ : ∃ z, Iv h a0 4 = z := ⟨_, rfl⟩
  have f14 := ok_I O ta0 rI_7_4 e13
  have p15 : SOK h v1 v5 := by have z := P_SInv.1; rw [e2, e6] at z; exact z
  have p16 : BOK h v8 v12 := by have z := P_SInv.2; rw [e9, e13] at z; exact z
  refine hm_go (by decide +kernel) (Nat.le_of_ble_eq_true rfl) (fun p e s m below meth c C hr hn => ?_)
  refine g_aload_n C rfl 0 rfl dX6_lay_0 ?_
  obtain ⟨v17, e18⟩ : ∃ z, Rv h a0 0 = z := ⟨_, rfl⟩
  have t19 := ok_R O ta0 rE_7_0 e18
  refine gf_R C fk_LandSurvey_Search_12 rfl ta0 e18 dX6_lay_1 ?_
  refine g_aload_n C rfl 0 rfl dX6_lay_4 ?_
  obtain ⟨v20, e21⟩ : ∃ z, Iv h a0 5 = z := ⟨_, rfl⟩
  have f22 := ok_I O ta0 rI_7_5 e21
  refine gf_I C fk_LandSurvey_Search_53 rfl ta0 e21 dX6_lay_5 ?_
  refine g_callV (st := []) (gc_V C lk_LandSurvey_Search_136 (k_X9_level l D cy w z0 O t19 (iw f22 (by decide) (by decide))) t19 rfl rfl rfl ⟨by decide, by decide⟩ (Nat.le_of_ble_eq_true rfl) dX6_lay_8 ⟨(by decide), (by decide)⟩) (fun h24 K25 => ?_)
  obtain ⟨O27, F28⟩ := K25
  refine g_aload_n C rfl 0 rfl dX6_lay_11 ?_
  have e29 : Tg h24 a0 = 7 := (fxT F28 ta0)
  obtain ⟨v30, e31⟩ : ∃ z, Rv h24 a0 6 = z := ⟨_, rfl⟩
  have t32 := ok_R O27 e29 rE_7_6 e31
  have l33 := ok_L O27 e29 rE_7_6 e31
  refine gf_R C fk_LandSurvey_Search_18 rfl e29 e31 dX6_lay_12 ?_
  refine g_ldc (z := 268435456) C kw_1082 (by decide) dX6_lay_15 ?_
  refine g_callV (st := []) (gc_S C lk_LandSurvey_Search_141 (k_fill_40100 l D cy w z0 O27 t32 l33 (iw (il 268435456) (by decide) (by decide))) rfl ⟨by decide, by decide⟩ (Nat.le_of_ble_eq_true rfl) dX6_lay_17 ⟨(by decide), (by decide)⟩) (fun h35 K36 => ?_)
  obtain ⟨O38, F39⟩ := K36
  refine g_aload_n C rfl 0 rfl dX6_lay_20 ?_
  have e40 : Tg h35 a0 = 7 := (fxT F39 e29)
  obtain ⟨v41, e42⟩ : ∃ z, Rv h35 a0 8 = z := ⟨_, rfl⟩
  have t43 := ok_R O38 e40 rE_7_8 e42
  have l44 := ok_L O38 e40 rE_7_8 e42
  refine gf_R C fk_LandSurvey_Search_25 rfl e40 e42 dX6_lay_21 ?_
  refine g_ldc (z := (-268435456)) C kw_1084 (by decide) dX6_lay_24 ?_
  refine g_callV (st := []) (gc_S C lk_LandSurvey_Search_141 (k_fill_40100 l D cy w z0 O38 t43 l44 (iw (il (-268435456)) (by decide) (by decide))) rfl ⟨by decide, by decide⟩ (Nat.le_of_ble_eq_true rfl) dX6_lay_26 ⟨(by decide), (by decide)⟩) (fun h46 K47 => ?_)
  obtain ⟨O49, F50⟩ := K47
  refine g_iconst C dX6_lay_29 ?_
  refine g_istore C [(4, .inl 0), (0, .inr (.inr a0)), (1, .inl a1), (2, .inr (.inl a2))] (by decide) rfl dX6_lay_30 ?_
  refine g_iconst C dX6_lay_32 ?_
  refine g_istore C [(5, .inl 0), (4, .inl 0), (0, .inr (.inr a0)), (1, .inl a1), (2, .inr (.inl a2))] (by decide) rfl dX6_lay_33 ?_
  refine GW.sub [2, 3, 4, 1, 0] rfl ?_
  -- loop at 35
  have L54 : ∀ (μ : Nat) (x51 : Int) (x52 : Int) (h53 : Hp), (40 - x52).toNat = μ → Okh h53 → Fx [8020000, 8220400, 8420400, 9020000, 9220400] h46 h53 → ((-2147483648 : Int) ≤ x51 ∧ x51 ≤ (2147483647 : Int)) → ((0 : Int) ≤ x52 ∧ x52 ≤ (40 : Int)) → GW p l e (rmm 2 45 0 0) s m (List.map toV [.inr (.inr a0), .inl a1, .inr (.inl a2)]).toArray below meth c D cy z0 8 (MQ below (QV D cy z0 (fun h1 => Okh h1 ∧ Fx wr_k_X6_lay h h1)) (List.map toV [.inr (.inr a0), .inl a1, .inr (.inl a2)]).toArray s 0 0 (Aof z0)) 35 [(0, .inr (.inr a0)), (1, .inl a1), (2, .inr (.inl a2)), (4, .inl x51), (5, .inl x52)] [] h53 0 0 := by
    intro μ
    induction μ using Nat.strongRecOn with
    | ind μ ih55 =>
      intro x51 x52 h53 hm56 O57 F58 f59 f60
      refine g_iload C 4 rfl dX6_lay_35 ?_
      refine g_aload_n C rfl 0 rfl dX6_lay_37 ?_
      have e61 : Tg h53 a0 = 7 := (fxT F58 (fxT F50 e40))
      have e62 : Tg h46 a0 = 7 := (fxT F50 e40)
      have e63 : Iv h53 a0 3 = v5 := ((fxI F58 e62 rfl).trans ((fxI F50 e40 rfl).trans ((fxI F39 e29 rfl).trans ((fxI F28 ta0 rfl).trans e6))))
      refine gf_I C fk_LandSurvey_Search_46 rfl e61 e63 dX6_lay_38 ?_
      refine g_icmp_ge C (iw f60 (by decide) (by decide)) (iw f7 (by decide) (by decide)) 176 (by decide) dX6_lay_41 (fun q64 => ?_) (fun q65 => ?_)
      · refine g_iload C 3 rfl dX6_lay_176 ?_
        refine g_if_ne C f59 189 (by decide) dX6_lay_178 (fun q66 => ?_) (fun q67 => ?_)
        · refine g_aload_n C rfl 0 rfl dX6_lay_189 ?_
          have e68 : Iv h53 a0 4 = v12 := ((fxI F58 e62 rfl).trans ((fxI F50 e40 rfl).trans ((fxI F39 e29 rfl).trans ((fxI F28 ta0 rfl).trans e13))))
          refine gf_I C fk_LandSurvey_Search_50 rfl e61 e68 dX6_lay_190 ?_
          refine g_iconst C dX6_lay_193 ?_
          have f69 : (-1 : Int) ≤ (v12 - 1) ∧ (v12 - 1) ≤ (3 : Int) := ia_sub f14 (il 1) (by decide) (by decide)
          refine g_isub C dX6_lay_194 ?_
          refine g_istore C [(5, .inl (v12 - 1)), (0, .inr (.inr a0)), (1, .inl a1), (2, .inr (.inl a2)), (4, .inl x51)] (by decide) rfl dX6_lay_195 ?_
          refine GW.sub [1, 2, 3, 4, 0] rfl ?_
          -- loop at 197
          have L72 : ∀ (μ : Nat) (x70 : Int) (h71 : Hp), (x70 - (-1)).toNat = μ → Okh h71 → Fx [9020000, 9220400] h53 h71 → ((-1 : Int) ≤ x70 ∧ x70 ≤ (3 : Int)) → (x70 < Iv h71 a0 4) → GW p l e (rmm 2 45 0 0) s m (List.map toV [.inr (.inr a0), .inl a1, .inr (.inl a2)]).toArray below meth c D cy z0 8 (MQ below (QV D cy z0 (fun h1 => Okh h1 ∧ Fx wr_k_X6_lay h h1)) (List.map toV [.inr (.inr a0), .inl a1, .inr (.inl a2)]).toArray s 0 0 (Aof z0)) 197 [(0, .inr (.inr a0)), (1, .inl a1), (2, .inr (.inl a2)), (4, .inl x51), (5, .inl x70)] [] h71 0 0 := by
            intro μ
            induction μ using Nat.strongRecOn with
            | ind μ ih73 =>
              intro x70 h71 hm74 O75 F76 f77 p78
              have e79 : Iv h71 a0 4 = v12 := ((fxI F76 e61 rfl).trans e68)
              refine g_iload C 4 rfl dX6_lay_197 ?_
              refine g_if_lt C (iw f77 (by decide) (by decide)) 231 (by decide) dX6_lay_199 (fun q80 => ?_) (fun q81 => ?_)
              · have f82 : (-1 : Int) ≤ x70 ∧ x70 ≤ (-1 : Int) := r_lt f77 (il 0) q80 (by decide) (by decide)
                exact g_vret C hr ⟨O75, ((((((Fx.rf (wr := wr_k_X6_lay)).call F28 rfl).call F39 rfl).call F50 rfl).call F58 rfl).call F76 rfl)⟩ (by decide) (by decide) dX6_lay_231
              · have f83 : (0 : Int) ≤ x70 ∧ x70 ≤ (3 : Int) := r_ge f77 (il 0) q81 (by decide) (by decide)
                refine g_iload_n C rfl 1 rfl dX6_lay_202 ?_
                refine g_iload C 4 rfl dX6_lay_203 ?_
                refine g_ishr C dX6_lay_205 ?_
                have f84 : (-2147483648 : Int) ≤ (bShr a1 x70) ∧ (bShr a1 x70) ≤ (2147483647 : Int) := inR_of _
                refine g_iconst C dX6_lay_206 ?_
                refine g_iand C dX6_lay_207 ?_
                have f85 : (0 : Int) ≤ (bAnd (bShr a1 x70) 1) ∧ (bAnd (bShr a1 x70) 1) ≤ (1 : Int) := bAnd_1 _
                refine g_if_eq C (iw f85 (by decide) (by decide)) 225 (by decide) dX6_lay_208 (fun q86 => ?_) (fun q87 => ?_)
                · have f88 : (0 : Int) ≤ (bAnd (bShr a1 x70) 1) ∧ (bAnd (bShr a1 x70) 1) ≤ (0 : Int) := ii f85 (r_eq (il 0) q86) (by decide) (by decide)
                  have f89 : (-1 : Int) ≤ (x70 + (-1)) ∧ (x70 + (-1)) ≤ (2 : Int) := ia_add f83 (il (-1)) (by decide) (by decide)
                  refine g_iinc C [(5, .inl (x70 + (-1))), (0, .inr (.inr a0)), (1, .inl a1), (2, .inr (.inl a2)), (4, .inl x51)] 4 rfl (by decide) rfl dX6_lay_225 ?_
                  refine g_goto C 197 (by decide) dX6_lay_228 ?_
                  refine GW.sub [1, 2, 3, 4, 0] rfl ?_
                  exact ih73 _ (by omega) (x70 + (-1)) h71 rfl O75 F76 (iw f89 (by decide) (by decide)) (by omega)
                · have f90 : (1 : Int) ≤ (bAnd (bShr a1 x70) 1) ∧ (bAnd (bShr a1 x70) 1) ≤ (1 : Int) := r_nl f85 q87
                  refine g_aload_n C rfl 0 rfl dX6_lay_211 ?_
                  have e91 : Tg h71 a0 = 7 := (fxT F76 e61)
                  have e92 : Rv h71 a0 0 = v17 := ((fxR F76 e61 rfl).trans ((fxR F58 e62 rfl).trans ((fxR F50 e40 rfl).trans ((fxR F39 e29 rfl).trans ((fxR F28 ta0 rfl).trans e18)))))
                  refine gf_R C fk_LandSurvey_Search_12 rfl e91 e92 dX6_lay_212 ?_
                  refine g_aload_n C rfl 0 rfl dX6_lay_215 ?_
                  have e93 : Rv h71 a0 2 = v8 := ((fxR F76 e61 rfl).trans ((fxR F58 e62 rfl).trans ((fxR F50 e40 rfl).trans ((fxR F39 e29 rfl).trans ((fxR F28 ta0 rfl).trans e9)))))
                  refine gf_R C fk_LandSurvey_Search_42 rfl e91 e93 dX6_lay_216 ?_
                  refine g_iload C 4 rfl dX6_lay_219 ?_
                  have e94 : Tg h71 v8 = 39105 := (fxT F76 (fxT F58 (fxT F50 (fxT F39 (fxT F28 t10)))))
                  have e95 : Tg h24 v8 = 39105 := (fxT F28 t10)
                  have e96 : Tg h35 v8 = 39105 := (fxT F39 e95)
                  have e97 : Tg h46 v8 = 39105 := (fxT F50 e96)
                  have e98 : Tg h53 v8 = 39105 := (fxT F58 e97)
                  have e99 : Ln h71 v8 = 4 := ((fxL F76 e98).trans ((fxL F58 e97).trans ((fxL F50 e96).trans ((fxL F39 e95).trans ((fxL F28 t10).trans l11)))))
                  obtain ⟨v100, e101⟩ : ∃ z, Rv h71 v8 x70.toNat = z := ⟨_, rfl⟩
                  refine g_aald (t := 5) C e94 rfl (by decide) rfl e99 (ix f83 (by decide) (by decide)) e101 dX6_lay_221 ?_
                  have p102 := (BOK_fx O57 F76 e98 rfl rfl rfl rfl (BOK_fx O49 F58 e97 rfl rfl rfl rfl (BOK_fx O38 F50 e96 rfl rfl rfl rfl (BOK_fx O27 F39 e95 rfl rfl rfl rfl (BOK_fx O F28 t10 rfl rfl rfl rfl p16)))))
                  have q103 := nn_get p102.nn (by omega) e101
                  have t104 := ok_Na O75 e94 ar_39105 rE_39105_0 e101 q103
                  have e105 : Tg h71 v17 = 10 := (fxT F76 (fxT F58 (fxT F50 (fxT F39 (fxT F28 t19)))))
                  refine g_callV (st := []) (gc_V C lk_LandSurvey_Search_171 (k_X9_tear l D cy w z0 O75 e105 t104 (bok_get p102 (by omega) e101)) e105 rfl rfl rfl ⟨by decide, by decide⟩ (Nat.le_of_ble_eq_true rfl) dX6_lay_222 ⟨(by decide), (by decide)⟩) (fun h107 K108 => ?_)
                  obtain ⟨O110, F111⟩ := K108
                  have f112 : (-1 : Int) ≤ (x70 + (-1)) ∧ (x70 + (-1)) ≤ (2 : Int) := ia_add f83 (il (-1)) (by decide) (by decide)
                  refine g_iinc C [(5, .inl (x70 + (-1))), (0, .inr (.inr a0)), (1, .inl a1), (2, .inr (.inl a2)), (4, .inl x51)] 4 rfl (by decide) rfl dX6_lay_225 ?_
                  refine g_goto C 197 (by decide) dX6_lay_228 ?_
                  refine GW.sub [1, 2, 3, 4, 0] rfl ?_
                  have e113 : Iv h107 a0 4 = v12 := ((fxI F111 e91 rfl).trans e79)
                  exact ih73 _ (by omega) (x70 + (-1)) h107 rfl O110 (F76.call F111 rfl) (iw f112 (by decide) (by decide)) (by omega)
          exact L72 _ (v12 - 1) h53 rfl O57 Fx.rf f69 (by omega)
        · have f114 : (0 : Int) ≤ x51 ∧ x51 ≤ (0 : Int) := ii f59 (r_eq (il 0) q67) (by decide) (by decide)
          refine g_aload_n C rfl 0 rfl dX6_lay_181 ?_
          have e115 : Rv h53 a0 6 = v30 := ((fxR F58 e62 rfl).trans ((fxR F50 e40 rfl).trans ((fxR F39 e29 rfl).trans e31)))
          refine gf_R C fk_LandSurvey_Search_18 rfl e61 e115 dX6_lay_182 ?_
          refine g_iconst C dX6_lay_185 ?_
          have e116 : Tg h53 v30 = 40100 := (fxT F58 (fxT F50 (fxT F39 t32)))
          have e117 : Tg h35 v30 = 40100 := (fxT F39 t32)
          have e118 : Tg h46 v30 = 40100 := (fxT F50 e117)
          have e119 : Ln h53 v30 = 96 := ((fxL F58 e118).trans ((fxL F50 e117).trans ((fxL F39 t32).trans l33)))
          refine g_callV (st := []) (gc_S C lk_LandSurvey_Search_141 (k_fill_40100 l D cy w z0 O57 e116 e119 (iw (il 0) (by decide) (by decide))) rfl ⟨by decide, by decide⟩ (Nat.le_of_ble_eq_true rfl) dX6_lay_186 ⟨(by decide), (by decide)⟩) (fun h121 K122 => ?_)
          obtain ⟨O124, F125⟩ := K122
          refine g_aload_n C rfl 0 rfl dX6_lay_189 ?_
          have e126 : Tg h121 a0 = 7 := (fxT F125 e61)
          have e127 : Iv h121 a0 4 = v12 := ((fxI F125 e61 rfl).trans ((fxI F58 e62 rfl).trans ((fxI F50 e40 rfl).trans ((fxI F39 e29 rfl).trans ((fxI F28 ta0 rfl).trans e13)))))
          refine gf_I C fk_LandSurvey_Search_50 rfl e126 e127 dX6_lay_190 ?_
          refine g_iconst C dX6_lay_193 ?_
          have f128 : (-1 : Int) ≤ (v12 - 1) ∧ (v12 - 1) ≤ (3 : Int) := ia_sub f14 (il 1) (by decide) (by decide)
          refine g_isub C dX6_lay_194 ?_
          refine g_istore C [(5, .inl (v12 - 1)), (0, .inr (.inr a0)), (1, .inl a1), (2, .inr (.inl a2)), (4, .inl x51)] (by decide) rfl dX6_lay_195 ?_
          refine GW.sub [1, 2, 3, 4, 0] rfl ?_
          -- loop at 197
          have L131 : ∀ (μ : Nat) (x129 : Int) (h130 : Hp), (x129 - (-1)).toNat = μ → Okh h130 → Fx [9020000, 9220400] h121 h130 → ((-1 : Int) ≤ x129 ∧ x129 ≤ (3 : Int)) → (x129 < Iv h130 a0 4) → GW p l e (rmm 2 45 0 0) s m (List.map toV [.inr (.inr a0), .inl a1, .inr (.inl a2)]).toArray below meth c D cy z0 8 (MQ below (QV D cy z0 (fun h1 => Okh h1 ∧ Fx wr_k_X6_lay h h1)) (List.map toV [.inr (.inr a0), .inl a1, .inr (.inl a2)]).toArray s 0 0 (Aof z0)) 197 [(0, .inr (.inr a0)), (1, .inl a1), (2, .inr (.inl a2)), (4, .inl x51), (5, .inl x129)] [] h130 0 0 := by
            intro μ
            induction μ using Nat.strongRecOn with
            | ind μ ih132 =>
              intro x129 h130 hm133 O134 F135 f136 p137
              have e138 : Iv h130 a0 4 = v12 := ((fxI F135 e126 rfl).trans e127)
              refine g_iload C 4 rfl dX6_lay_197 ?_
              refine g_if_lt C (iw f136 (by decide) (by decide)) 231 (by decide) dX6_lay_199 (fun q139 => ?_) (fun q140 => ?_)
              · have f141 : (-1 : Int) ≤ x129 ∧ x129 ≤ (-1 : Int) := r_lt f136 (il 0) q139 (by decide) (by decide)
                exact g_vret C hr ⟨O134, (((((((Fx.rf (wr := wr_k_X6_lay)).call F28 rfl).call F39 rfl).call F50 rfl).call F58 rfl).call F125 rfl).call F135 rfl)⟩ (by decide) (by decide) dX6_lay_231
              · have f142 : (0 : Int) ≤ x129 ∧ x129 ≤ (3 : Int) := r_ge f136 (il 0) q140 (by decide) (by decide)
                refine g_iload_n C rfl 1 rfl dX6_lay_202 ?_
                refine g_iload C 4 rfl dX6_lay_203 ?_
                refine g_ishr C dX6_lay_205 ?_
                have f143 : (-2147483648 : Int) ≤ (bShr a1 x129) ∧ (bShr a1 x129) ≤ (2147483647 : Int) := inR_of _
                refine g_iconst C dX6_lay_206 ?_
                refine g_iand C dX6_lay_207 ?_
                have f144 : (0 : Int) ≤ (bAnd (bShr a1 x129) 1) ∧ (bAnd (bShr a1 x129) 1) ≤ (1 : Int) := bAnd_1 _
                refine g_if_eq C (iw f144 (by decide) (by decide)) 225 (by decide) dX6_lay_208 (fun q145 => ?_) (fun q146 => ?_)
                · have f147 : (0 : Int) ≤ (bAnd (bShr a1 x129) 1) ∧ (bAnd (bShr a1 x129) 1) ≤ (0 : Int) := ii f144 (r_eq (il 0) q145) (by decide) (by decide)
                  have f148 : (-1 : Int) ≤ (x129 + (-1)) ∧ (x129 + (-1)) ≤ (2 : Int) := ia_add f142 (il (-1)) (by decide) (by decide)
                  refine g_iinc C [(5, .inl (x129 + (-1))), (0, .inr (.inr a0)), (1, .inl a1), (2, .inr (.inl a2)), (4, .inl x51)] 4 rfl (by decide) rfl dX6_lay_225 ?_
                  refine g_goto C 197 (by decide) dX6_lay_228 ?_
                  refine GW.sub [1, 2, 3, 4, 0] rfl ?_
                  exact ih132 _ (by omega) (x129 + (-1)) h130 rfl O134 F135 (iw f148 (by decide) (by decide)) (by omega)
                · have f149 : (1 : Int) ≤ (bAnd (bShr a1 x129) 1) ∧ (bAnd (bShr a1 x129) 1) ≤ (1 : Int) := r_nl f144 q146
                  refine g_aload_n C rfl 0 rfl dX6_lay_211 ?_
                  have e150 : Tg h130 a0 = 7 := (fxT F135 e126)
                  have e151 : Rv h130 a0 0 = v17 := ((fxR F135 e126 rfl).trans ((fxR F125 e61 rfl).trans ((fxR F58 e62 rfl).trans ((fxR F50 e40 rfl).trans ((fxR F39 e29 rfl).trans ((fxR F28 ta0 rfl).trans e18))))))
                  refine gf_R C fk_LandSurvey_Search_12 rfl e150 e151 dX6_lay_212 ?_
                  refine g_aload_n C rfl 0 rfl dX6_lay_215 ?_
                  have e152 : Rv h130 a0 2 = v8 := ((fxR F135 e126 rfl).trans ((fxR F125 e61 rfl).trans ((fxR F58 e62 rfl).trans ((fxR F50 e40 rfl).trans ((fxR F39 e29 rfl).trans ((fxR F28 ta0 rfl).trans e9))))))
                  refine gf_R C fk_LandSurvey_Search_42 rfl e150 e152 dX6_lay_216 ?_
                  refine g_iload C 4 rfl dX6_lay_219 ?_
                  have e153 : Tg h130 v8 = 39105 := (fxT F135 (fxT F125 (fxT F58 (fxT F50 (fxT F39 (fxT F28 t10))))))
                  have e154 : Tg h24 v8 = 39105 := (fxT F28 t10)
                  have e155 : Tg h35 v8 = 39105 := (fxT F39 e154)
                  have e156 : Tg h46 v8 = 39105 := (fxT F50 e155)
                  have e157 : Tg h53 v8 = 39105 := (fxT F58 e156)
                  have e158 : Tg h121 v8 = 39105 := (fxT F125 e157)
                  have e159 : Ln h130 v8 = 4 := ((fxL F135 e158).trans ((fxL F125 e157).trans ((fxL F58 e156).trans ((fxL F50 e155).trans ((fxL F39 e154).trans ((fxL F28 t10).trans l11))))))
                  obtain ⟨v160, e161⟩ : ∃ z, Rv h130 v8 x129.toNat = z := ⟨_, rfl⟩
                  refine g_aald (t := 5) C e153 rfl (by decide) rfl e159 (ix f142 (by decide) (by decide)) e161 dX6_lay_221 ?_
                  have p162 := (BOK_fx O124 F135 e158 rfl rfl rfl rfl (BOK_fx O57 F125 e157 rfl rfl rfl rfl (BOK_fx O49 F58 e156 rfl rfl rfl rfl (BOK_fx O38 F50 e155 rfl rfl rfl rfl (BOK_fx O27 F39 e154 rfl rfl rfl rfl (BOK_fx O F28 t10 rfl rfl rfl rfl p16))))))
                  have q163 := nn_get p162.nn (by omega) e161
                  have t164 := ok_Na O134 e153 ar_39105 rE_39105_0 e161 q163
                  have e165 : Tg h130 v17 = 10 := (fxT F135 (fxT F125 (fxT F58 (fxT F50 (fxT F39 (fxT F28 t19))))))
                  refine g_callV (st := []) (gc_V C lk_LandSurvey_Search_171 (k_X9_tear l D cy w z0 O134 e165 t164 (bok_get p162 (by omega) e161)) e165 rfl rfl rfl ⟨by decide, by decide⟩ (Nat.le_of_ble_eq_true rfl) dX6_lay_222 ⟨(by decide), (by decide)⟩) (fun h167 K168 => ?_)
                  obtain ⟨O170, F171⟩ := K168
                  have f172 : (-1 : Int) ≤ (x129 + (-1)) ∧ (x129 + (-1)) ≤ (2 : Int) := ia_add f142 (il (-1)) (by decide) (by decide)
                  refine g_iinc C [(5, .inl (x129 + (-1))), (0, .inr (.inr a0)), (1, .inl a1), (2, .inr (.inl a2)), (4, .inl x51)] 4 rfl (by decide) rfl dX6_lay_225 ?_
                  refine g_goto C 197 (by decide) dX6_lay_228 ?_
                  refine GW.sub [1, 2, 3, 4, 0] rfl ?_
                  have e173 : Iv h167 a0 4 = v12 := ((fxI F171 e150 rfl).trans e138)
                  exact ih132 _ (by omega) (x129 + (-1)) h167 rfl O170 (F135.call F171 rfl) (iw f172 (by decide) (by decide)) (by omega)
          exact L131 _ (v12 - 1) h121 rfl O124 Fx.rf f128 (by omega)
      · have f174 : (0 : Int) ≤ x52 ∧ x52 ≤ (39 : Int) := r_lt f60 f7 q65 (by decide) (by decide)
        have f175 : (1 : Int) ≤ v5 ∧ v5 ≤ (40 : Int) := r_gt f7 f60 q65 (by decide) (by decide)
        refine g_aload_n C rfl 0 rfl dX6_lay_44 ?_
        have e176 : Rv h53 a0 1 = v1 := ((fxR F58 e62 rfl).trans ((fxR F50 e40 rfl).trans ((fxR F39 e29 rfl).trans ((fxR F28 ta0 rfl).trans e2))))
        refine gf_R C fk_LandSurvey_Search_38 rfl e61 e176 dX6_lay_45 ?_
        refine g_iload C 4 rfl dX6_lay_48 ?_
        have e177 : Tg h53 v1 = 38104 := (fxT F58 (fxT F50 (fxT F39 (fxT F28 t3))))
        have e178 : Tg h24 v1 = 38104 := (fxT F28 t3)
        have e179 : Tg h35 v1 = 38104 := (fxT F39 e178)
        have e180 : Tg h46 v1 = 38104 := (fxT F50 e179)
        have e181 : Ln h53 v1 = 40 := ((fxL F58 e180).trans ((fxL F50 e179).trans ((fxL F39 e178).trans ((fxL F28 t3).trans l4))))
        obtain ⟨v182, e183⟩ : ∃ z, Rv h53 v1 x52.toNat = z := ⟨_, rfl⟩
        refine g_aald (t := 4) C e177 rfl (by decide) rfl e181 (ix f174 (by decide) (by decide)) e183 dX6_lay_50 ?_
        have p184 := (SOK_fx O49 F58 e180 rfl rfl rfl (SOK_fx O38 F50 e179 rfl rfl rfl (SOK_fx O27 F39 e178 rfl rfl rfl (SOK_fx O F28 t3 rfl rfl rfl p15))))
        have q185 := nn_get p184.nn (by omega) e183
        have t186 := ok_Na O57 e177 ar_38104 rE_38104_0 e183 q185
        have g187 := sok_get p184 (by omega) e183
        obtain ⟨v188, e189⟩ : ∃ z, Iv h53 v182 7 = z := ⟨_, rfl⟩
        have f190 := ok_I O57 t186 rI_9_7 e189
        obtain ⟨v191, e192⟩ : ∃ z, Iv h53 v182 8 = z := ⟨_, rfl⟩
        have f193 := ok_I O57 t186 rI_9_8 e192
        unfold SgOk at g187
        rw [e189, e192] at g187
        refine g_astore C [(6, .inr (.inr v182)), (0, .inr (.inr a0)), (1, .inl a1), (2, .inr (.inl a2)), (4, .inl x51), (5, .inl x52)] (by decide) rfl dX6_lay_51 ?_
        refine g_aload C 0 rfl dX6_lay_53 ?_
        obtain ⟨v194, e195⟩ : ∃ z, Iv h53 v182 16 = z := ⟨_, rfl⟩
        have f196 := ok_I O57 t186 rI_9_16 e195
        refine gf_I C fk_LandSurvey_Search_91 rfl t186 e195 dX6_lay_55 ?_
        refine g_if_eq C (iw f196 (by decide) (by decide)) 170 (by decide) dX6_lay_58 (fun q197 => ?_) (fun q198 => ?_)
        · have f199 : (0 : Int) ≤ v194 ∧ v194 ≤ (0 : Int) := ii f196 (r_eq (il 0) q197) (by decide) (by decide)
          have f200 : (1 : Int) ≤ (x52 + 1) ∧ (x52 + 1) ≤ (40 : Int) := ia_add f174 (il 1) (by decide) (by decide)
          refine g_iinc C [(5, .inl (x52 + 1)), (6, .inr (.inr v182)), (0, .inr (.inr a0)), (1, .inl a1), (2, .inr (.inl a2)), (4, .inl x51)] 5 rfl (by decide) rfl dX6_lay_170 ?_
          refine g_goto C 35 (by decide) dX6_lay_173 ?_
          refine GW.sub [2, 3, 4, 5, 0] rfl ?_
          exact ih55 _ (by omega) x51 (x52 + 1) h53 rfl O57 F58 f59 (iw f200 (by decide) (by decide))
        · have f201 : (1 : Int) ≤ v194 ∧ v194 ≤ (1 : Int) := r_nl f196 q198
          refine g_lload_n C rfl 3 rfl dX6_lay_61 ?_
          refine g_iload C 5 rfl dX6_lay_62 ?_
          refine g_lshr C dX6_lay_64 ?_
          have f202 : (-9223372036854775808 : Int) ≤ (lShr a2 x52) ∧ (lShr a2 x52) ≤ (9223372036854775807 : Int) := inL_of _
          refine g_lconst (z := 1) C (by decide) dX6_lay_65 ?_
          refine g_land C dX6_lay_66 ?_
          have f203 : (-9223372036854775808 : Int) ≤ (lAnd (lShr a2 x52) 1) ∧ (lAnd (lShr a2 x52) 1) ≤ (9223372036854775807 : Int) := inL_of _
          refine g_lconst (z := 0) C (by decide) dX6_lay_67 ?_
          refine g_lcmp C f203 (iw (il 0) (by decide) (by decide)) dX6_lay_68 ?_
          have f204 : (-1 : Int) ≤ (lC (lAnd (lShr a2 x52) 1) 0) ∧ (lC (lAnd (lShr a2 x52) 1) 0) ≤ (1 : Int) := lC_rng _ _
          refine g_if_ne C (iw f204 (by decide) (by decide)) 170 (by decide) dX6_lay_69 (fun q205 => ?_) (fun q206 => ?_)
          · have q207 : ¬ (lAnd (lShr a2 x52) 1) = (0 : Int) := fun z => q205 (lC_eq.mpr z)
            have f208 : (1 : Int) ≤ (x52 + 1) ∧ (x52 + 1) ≤ (40 : Int) := ia_add f174 (il 1) (by decide) (by decide)
            refine g_iinc C [(5, .inl (x52 + 1)), (6, .inr (.inr v182)), (0, .inr (.inr a0)), (1, .inl a1), (2, .inr (.inl a2)), (4, .inl x51)] 5 rfl (by decide) rfl dX6_lay_170 ?_
            refine g_goto C 35 (by decide) dX6_lay_173 ?_
            refine GW.sub [2, 3, 4, 5, 0] rfl ?_
            exact ih55 _ (by omega) x51 (x52 + 1) h53 rfl O57 F58 f59 (iw f208 (by decide) (by decide))
          · have q209 : (lAnd (lShr a2 x52) 1) = (0 : Int) := lC_eq.mp q206
            have f210 : (0 : Int) ≤ (lAnd (lShr a2 x52) 1) ∧ (lAnd (lShr a2 x52) 1) ≤ (0 : Int) := ii f203 (r_eq (il 0) q209) (by decide) (by decide)
            refine g_iconst C dX6_lay_72 ?_
            refine g_istore C [(4, .inl 1), (6, .inr (.inr v182)), (0, .inr (.inr a0)), (1, .inl a1), (2, .inr (.inl a2)), (5, .inl x52)] (by decide) rfl dX6_lay_73 ?_
            refine g_aload_n C rfl 2 rfl dX6_lay_75 ?_
            refine g_aload C 1 rfl dX6_lay_76 ?_
            refine g_lconst (z := 1) C (by decide) dX6_lay_78 ?_
            refine g_iload C 5 rfl dX6_lay_79 ?_
            refine g_lshl C dX6_lay_81 ?_
            have f211 : (-9223372036854775808 : Int) ≤ (lShl 1 x52) ∧ (lShl 1 x52) ≤ (9223372036854775807 : Int) := inL_of _
            refine g_callV (st := []) (gc_V C lk_LandSurvey_Search_148 (k_X6_layBounds l D cy w z0 O57 e61 t186 f211) e61 rfl rfl rfl ⟨by decide, by decide⟩ (Nat.le_of_ble_eq_true rfl) dX6_lay_82 ⟨(by decide), (by decide)⟩) (fun h213 K214 => ?_)
            obtain ⟨O216, F217⟩ := K214
            refine g_aload C 1 rfl dX6_lay_85 ?_
            have e218 : Tg h213 v182 = 9 := (fxT F217 t186)
            have e219 : Iv h213 v182 8 = v191 := ((fxI F217 t186 rfl).trans e192)
            refine gf_I C fk_LandSurvey_Search_152 rfl e218 e219 dX6_lay_87 ?_
            refine g_iconst C dX6_lay_90 ?_
            refine g_icmp_eq C (iw f193 (by decide) (by decide)) (iw (il (-1)) (by decide) (by decide)) 170 (by decide) dX6_lay_91 (fun q220 => ?_) (fun q221 => ?_)
            · have f222 : (-1 : Int) ≤ v191 ∧ v191 ≤ (-1 : Int) := ii f193 (r_eq (il (-1)) q220) (by decide) (by decide)
              have f223 : (1 : Int) ≤ (x52 + 1) ∧ (x52 + 1) ≤ (40 : Int) := ia_add f174 (il 1) (by decide) (by decide)
              refine g_iinc C [(5, .inl (x52 + 1)), (4, .inl 1), (6, .inr (.inr v182)), (0, .inr (.inr a0)), (1, .inl a1), (2, .inr (.inl a2))] 5 rfl (by decide) rfl dX6_lay_170 ?_
              refine g_goto C 35 (by decide) dX6_lay_173 ?_
              refine GW.sub [3, 4, 5, 1, 0] rfl ?_
              exact ih55 _ (by omega) 1 (x52 + 1) h213 rfl O216 (F58.call F217 rfl) (iw (il 1) (by decide) (by decide)) (iw f223 (by decide) (by decide))
            · have f224 : (0 : Int) ≤ v191 ∧ v191 ≤ (95 : Int) := r_nl f193 q221
              have f225 : (0 : Int) ≤ v188 ∧ v188 ≤ (3 : Int) := by omega
              refine g_iconst C dX6_lay_94 ?_
              refine g_aload C 1 rfl dX6_lay_95 ?_
              refine gf_I C fk_LandSurvey_Search_152 rfl e218 e219 dX6_lay_97 ?_
              have f226 : (0 : Int) ≤ (4 * v191) ∧ (4 * v191) ≤ (380 : Int) := ia_mul (by decide) f224 (by decide) (by decide)
              refine g_imul C dX6_lay_100 ?_
              refine g_aload C 1 rfl dX6_lay_101 ?_
              have e227 : Iv h213 v182 7 = v188 := ((fxI F217 t186 rfl).trans e189)
              refine gf_I C fk_LandSurvey_Search_155 rfl e218 e227 dX6_lay_103 ?_
              refine g_iconst C dX6_lay_106 ?_
              refine g_ixor C dX6_lay_107 ?_
              have f228 : (0 : Int) ≤ (bXor v188 1) ∧ (bXor v188 1) ≤ (3 : Int) := bXor_3 f225
              have f229 : (0 : Int) ≤ ((4 * v191) + (bXor v188 1)) ∧ ((4 * v191) + (bXor v188 1)) ≤ (383 : Int) := ia_add f226 f228 (by decide) (by decide)
              refine g_iadd C dX6_lay_108 ?_
              refine g_istore C [(7, .inl ((4 * v191) + (bXor v188 1))), (4, .inl 1), (6, .inr (.inr v182)), (0, .inr (.inr a0)), (1, .inl a1), (2, .inr (.inl a2)), (5, .inl x52)] (by decide) rfl dX6_lay_109 ?_
              refine g_aload_n C rfl 3 rfl dX6_lay_111 ?_
              have e230 : Tg h213 a0 = 7 := (fxT F217 e61)
              have e231 : Rv h213 a0 0 = v17 := ((fxR F217 e61 rfl).trans ((fxR F58 e62 rfl).trans ((fxR F50 e40 rfl).trans ((fxR F39 e29 rfl).trans ((fxR F28 ta0 rfl).trans e18)))))
              refine gf_R C fk_LandSurvey_Search_12 rfl e230 e231 dX6_lay_112 ?_
              refine g_iconst C dX6_lay_115 ?_
              refine g_aload C 2 rfl dX6_lay_116 ?_
              obtain ⟨v232, e233⟩ : ∃ z, Iv h213 v182 1 = z := ⟨_, rfl⟩
              have f234 := ok_I O216 e218 rI_9_1 e233
              refine gf_I C fk_LandSurvey_Search_158 rfl e218 e233 dX6_lay_118 ?_
              have f235 : (0 : Int) ≤ (4 * v232) ∧ (4 * v232) ≤ (380 : Int) := ia_mul (by decide) f234 (by decide) (by decide)
              refine g_imul C dX6_lay_121 ?_
              refine g_aload C 2 rfl dX6_lay_122 ?_
              refine gf_I C fk_LandSurvey_Search_155 rfl e218 e227 dX6_lay_124 ?_
              have f236 : (0 : Int) ≤ ((4 * v232) + v188) ∧ ((4 * v232) + v188) ≤ (383 : Int) := ia_add f235 f225 (by decide) (by decide)
              refine g_iadd C dX6_lay_127 ?_
              refine g_aload C 2 rfl dX6_lay_128 ?_
              obtain ⟨v237, e238⟩ : ∃ z, Iv h213 v182 9 = z := ⟨_, rfl⟩
              have f239 := ok_I O216 e218 rI_9_9 e238
              refine gf_I C fk_LandSurvey_Search_161 rfl e218 e238 dX6_lay_130 ?_
              refine g_aload C 2 rfl dX6_lay_133 ?_
              obtain ⟨v240, e241⟩ : ∃ z, Iv h213 v182 10 = z := ⟨_, rfl⟩
              have f242 := ok_I O216 e218 rI_9_10 e241
              refine gf_I C fk_LandSurvey_Search_164 rfl e218 e241 dX6_lay_135 ?_
              have f243 : (-99 : Int) ≤ (v237 + v240) ∧ (v237 + v240) ≤ (198 : Int) := ia_add f239 f242 (by decide) (by decide)
              refine g_iadd C dX6_lay_138 ?_
              refine g_lconst (z := 1) C (by decide) dX6_lay_139 ?_
              refine g_iload C 6 rfl dX6_lay_140 ?_
              refine g_lshl C dX6_lay_142 ?_
              have e244 : Tg h213 v17 = 10 := (fxT F217 (fxT F58 (fxT F50 (fxT F39 (fxT F28 t19)))))
              refine g_callV (st := []) (gc_V C lk_LandSurvey_Search_167 (k_X9_narrow l D cy w z0 O216 e244 f236 (iw f243 (by decide) (by decide)) f211) e244 rfl rfl rfl ⟨by decide, by decide⟩ (Nat.le_of_ble_eq_true rfl) dX6_lay_143 ⟨(by decide), (by decide)⟩) (fun h246 K247 => ?_)
              obtain ⟨O249, F250⟩ := K247
              refine g_aload_n C rfl 3 rfl dX6_lay_146 ?_
              have e251 : Tg h246 a0 = 7 := (fxT F250 e230)
              have e252 : Rv h246 a0 0 = v17 := ((fxR F250 e230 rfl).trans e231)
              refine gf_R C fk_LandSurvey_Search_12 rfl e251 e252 dX6_lay_147 ?_
              refine g_iload C 0 rfl dX6_lay_150 ?_
              refine g_aload C 2 rfl dX6_lay_152 ?_
              have e253 : Tg h246 v182 = 9 := (fxT F250 e218)
              have e254 : Iv h246 v182 10 = v240 := ((fxI F250 e218 rfl).trans e241)
              refine gf_I C fk_LandSurvey_Search_164 rfl e253 e254 dX6_lay_154 ?_
              refine g_aload C 2 rfl dX6_lay_157 ?_
              have e255 : Iv h246 v182 9 = v237 := ((fxI F250 e218 rfl).trans e238)
              refine gf_I C fk_LandSurvey_Search_161 rfl e253 e255 dX6_lay_159 ?_
              have f256 : (-99 : Int) ≤ (v240 - v237) ∧ (v240 - v237) ≤ (198 : Int) := ia_sub f242 f239 (by decide) (by decide)
              refine g_isub C dX6_lay_162 ?_
              refine g_lconst (z := 1) C (by decide) dX6_lay_163 ?_
              refine g_iload C 6 rfl dX6_lay_164 ?_
              refine g_lshl C dX6_lay_166 ?_
              have e257 : Tg h246 v17 = 10 := (fxT F250 e244)
              refine g_callV (st := []) (gc_V C lk_LandSurvey_Search_167 (k_X9_narrow l D cy w z0 O249 e257 f229 (iw f256 (by decide) (by decide)) f211) e257 rfl rfl rfl ⟨by decide, by decide⟩ (Nat.le_of_ble_eq_true rfl) dX6_lay_167 ⟨(by decide), (by decide)⟩) (fun h259 K260 => ?_)
              obtain ⟨O262, F263⟩ := K260
              have f264 : (1 : Int) ≤ (x52 + 1) ∧ (x52 + 1) ≤ (40 : Int) := ia_add f174 (il 1) (by decide) (by decide)
              refine g_iinc C [(5, .inl (x52 + 1)), (7, .inl ((4 * v191) + (bXor v188 1))), (4, .inl 1), (6, .inr (.inr v182)), (0, .inr (.inr a0)), (1, .inl a1), (2, .inr (.inl a2))] 6 rfl (by decide) rfl dX6_lay_170 ?_
              refine g_goto C 35 (by decide) dX6_lay_173 ?_
              refine GW.sub [4, 5, 6, 2, 0] rfl ?_
              exact ih55 _ (by omega) 1 (x52 + 1) h259 rfl O262 (((F58.call F217 rfl).call F250 rfl).call F263 rfl) (iw (il 1) (by decide) (by decide)) (iw f264 (by decide) (by decide))
  exact L54 _ 0 0 h46 rfl O49 Fx.rf (iw (il 0) (by decide) (by decide)) (iw (il 0) (by decide) (by decide))
def wr_k_X6_findClash : List Nat := [1412, 2003, 8020000, 8220400, 8420400, 8620000, 9020000, 9220400, 9420000]
set_option maxRecDepth 100000 in
set_option maxHeartbeats 4000000 in
theorem k_X6_findClash (l : Launch) (D : va_G) (cy : Nat → ClassId) (w : Nat → Nat) (z0 : Nat)  {h : Hp} {a0 : Nat} {a1 : Int} {a2 : Int}  (O : Okh h) (ta0 : Tg h a0 = 7) (fa1 : (-2147483648) ≤ a1 ∧ a1 ≤ 2147483647) (fa2 : (-9223372036854775808) ≤ a2 ∧ a2 ≤ 9223372036854775807) (P_SInv : SInv h a0) : MJ l D cy w z0 yX6_findClash cX6_findClash 7 (some .long) 3 72 0 0 [.inr (.inr a0), .inl a1, .inr (.inl a2)] h (fun v h1 => Okh h1 ∧ Fx wr_k_X6_findClash h h1) := by
  obtain ⟨v1, e2⟩ : ∃ z, Rv h a0 1 = z := ⟨_, rfl⟩
  have t3 := ok_R O ta0 rE_7_1 e2
  have l4 := ok_L O ta0 rE_7_1 e2
  obtain ⟨v5, e6⟩ : ∃ z, Iv h a0 3 = z := ⟨_, rfl⟩
  have f7 := ok_I O ta0 rI_7_3 e6
  obtain ⟨v8, e9⟩ : ∃ z, Rv h a0 2 = z := ⟨_, rfl⟩
  have t10 := ok_R O ta0 rE_7_2 e9
  have l11 := ok_L O ta0 rE_7_2 e9
  obtain ⟨v12, e13⟩ : ∃ z, Iv h a0 4 = z := ⟨_, rfl⟩
  have f14 := ok_I O ta0 rI_7_4 e13
  have p15 : SOK h v1 v5 := by have z := P_SInv.1; rw [e2, e6] at z; exact z
  have p16 : BOK h v8 v12 := by have z := P_SInv.2; rw [e9, e13] at z; exact z
  refine hm_go (by decide +kernel) (Nat.le_of_ble_eq_true rfl) (fun p e s m below meth c C hr hn => ?_)
  refine g_aload_n C rfl 0 rfl dX6_findClash_0 ?_
  refine g_iload_n C rfl 1 rfl dX6_findClash_1 ?_
  refine g_lload_n C rfl 2 rfl dX6_findClash_2 ?_
  refine g_callV (st := []) (gc_V C lk_LandSurvey_Search_111 (k_X6_lay l D cy w z0 O ta0 fa1 fa2 ⟨by rw [e2, e6]; exact p15, by rw [e9, e13]; exact p16⟩) ta0 rfl rfl rfl ⟨by decide, by decide⟩ (Nat.le_of_ble_eq_true rfl) dX6_findClash_3 ⟨(by decide), (by decide)⟩) (fun h18 K19 => ?_)
  obtain ⟨O21, F22⟩ := K19
  refine g_aload_n C rfl 0 rfl dX6_findClash_6 ?_
  refine g_iconst C dX6_findClash_7 ?_
  have e23 : Tg h18 a0 = 7 := (fxT F22 ta0)
  refine gp_I C fk_LandSurvey_Search_100 pk_LandSurvey_Search_12 rfl e23 (iw (il 0) (by decide) (by decide)) (nar_z2 (iw (il 0) (by decide) (by decide))) dX6_findClash_8 (fun h25 hh24 => ?_)
  have O26 := O21.pI e23 hh24 rI_7_12 (iw (il 0) (by decide) (by decide)) nofun
  refine g_iconst C dX6_findClash_11 ?_
  refine g_istore C [(4, .inl 0), (0, .inr (.inr a0)), (1, .inl a1), (2, .inr (.inl a2))] (by decide) rfl dX6_findClash_12 ?_
  refine GW.sub [1, 2, 3, 0] rfl ?_
  -- loop at 14
  have L29 : ∀ (μ : Nat) (x27 : Int) (h28 : Hp), (193 - x27).toNat = μ → Okh h28 → Fx [2003, 8020000, 8620000, 9420000] h25 h28 → ((0 : Int) ≤ x27 ∧ x27 ≤ (193 : Int)) → GW p l e (rmm 3 72 0 0) s m (List.map toV [.inr (.inr a0), .inl a1, .inr (.inl a2)]).toArray below meth c D cy z0 7 (MQ below (QJ D cy z0 (fun v h1 => Okh h1 ∧ Fx wr_k_X6_findClash h h1)) (List.map toV [.inr (.inr a0), .inl a1, .inr (.inl a2)]).toArray s 0 0 (Aof z0)) 14 [(0, .inr (.inr a0)), (1, .inl a1), (2, .inr (.inl a2)), (4, .inl x27)] [] h28 0 0 := by
    intro μ
    induction μ using Nat.strongRecOn with
    | ind μ ih30 =>
      intro x27 h28 hm31 O32 F33 f34
      refine g_iload C 3 rfl dX6_findClash_14 ?_
      refine g_sipush C (by decide) dX6_findClash_16 ?_
      refine g_icmp_gt C (iw f34 (by decide) (by decide)) (iw (il 192) (by decide) (by decide)) 113 (by decide) dX6_findClash_19 (fun q35 => ?_) (fun q36 => ?_)
      · have f37 : (193 : Int) ≤ x27 ∧ x27 ≤ (193 : Int) := r_gt f34 (il 192) q35 (by decide) (by decide)
        refine g_lconst (z := 0) C (by decide) dX6_findClash_113 ?_
        exact g_lret C hr (iw (il 0) (by decide) (by decide)) ⟨O32, ((((Fx.rf (wr := wr_k_X6_findClash)).call F22 rfl).pI e23 hh24 rfl).call F33 rfl)⟩ (by decide) (by decide) dX6_findClash_114
      · have f38 : (0 : Int) ≤ x27 ∧ x27 ≤ (192 : Int) := r_le f34 (il 192) q36 (by decide) (by decide)
        refine g_aload_n C rfl 0 rfl dX6_findClash_22 ?_
        have e39 : Tg h28 a0 = 7 := (fxT F33 ((pIT hh24).trans e23))
        refine g_callI (st := []) (gc_V C lk_LandSurvey_Search_115 (k_X6_firstBelowFloor l D cy w z0 O32 e39) e39 rfl rfl rfl ⟨by decide, by decide⟩ (Nat.le_of_ble_eq_true rfl) dX6_findClash_23 ⟨(by decide), (by decide)⟩) (fun r40 h41 f43 K42 => ?_)
        obtain ⟨O44, F45, f46⟩ := K42
        refine g_istore C [(5, .inl r40), (0, .inr (.inr a0)), (1, .inl a1), (2, .inr (.inl a2)), (4, .inl x27)] (by decide) rfl dX6_findClash_26 ?_
        refine g_iload C 0 rfl dX6_findClash_28 ?_
        refine g_iconst C dX6_findClash_30 ?_
        refine g_icmp_eq C (iw f46 (by decide) (by decide)) (iw (il (-1)) (by decide) (by decide)) 41 (by decide) dX6_findClash_31 (fun q47 => ?_) (fun q48 => ?_)
        · have f49 : (-1 : Int) ≤ r40 ∧ r40 ≤ (-1 : Int) := ii f46 (r_eq (il (-1)) q47) (by decide) (by decide)
          refine g_aload_n C rfl 1 rfl dX6_findClash_41 ?_
          have e50 : Tg h41 a0 = 7 := (fxT F45 e39)
          obtain ⟨v51, e52⟩ : ∃ z, Rv h41 a0 0 = z := ⟨_, rfl⟩
          have t53 := ok_R O44 e50 rE_7_0 e52
          refine gf_R C fk_LandSurvey_Search_12 rfl e50 e52 dX6_findClash_42 ?_
          refine g_iconst C dX6_findClash_45 ?_
          refine gp_I C fk_LandSurvey_Search_123 pk_LandSurvey_Slopes_3 rfl t53 (iw (il 0) (by decide) (by decide)) (nar_z2 (iw (il 0) (by decide) (by decide))) dX6_findClash_46 (fun h55 hh54 => ?_)
          have O56 := O44.pI t53 hh54 rI_10_3 (iw (il 0) (by decide) (by decide)) nofun
          refine g_aload_n C rfl 1 rfl dX6_findClash_49 ?_
          have e57 : Tg h55 a0 = 7 := ((pIT hh54).trans e50)
          have e58 : Rv h55 a0 0 = v51 := ((pIR hh54).trans e52)
          refine gf_R C fk_LandSurvey_Search_12 rfl e57 e58 dX6_findClash_50 ?_
          refine g_aload_n C rfl 1 rfl dX6_findClash_53 ?_
          obtain ⟨v59, e60⟩ : ∃ z, Rv h55 a0 6 = z := ⟨_, rfl⟩
          have t61 := ok_R O56 e57 rE_7_6 e60
          have l62 := ok_L O56 e57 rE_7_6 e60
          refine gf_R C fk_LandSurvey_Search_18 rfl e57 e60 dX6_findClash_54 ?_
          refine g_iconst C dX6_findClash_57 ?_
          have e63 : Tg h55 v51 = 10 := ((pIT hh54).trans t53)
          refine g_callV (st := []) (gc_V C lk_LandSurvey_Search_126 (k_X9_sweep l D cy w z0 O56 e63 t61 l62 (iw (il 0) (by decide) (by decide))) e63 rfl rfl rfl ⟨by decide, by decide⟩ (Nat.le_of_ble_eq_true rfl) dX6_findClash_58 ⟨(by decide), (by decide)⟩) (fun h65 K66 => ?_)
          obtain ⟨O68, F69⟩ := K66
          refine g_aload_n C rfl 1 rfl dX6_findClash_61 ?_
          have e70 : Tg h65 a0 = 7 := (fxT F69 e57)
          have e71 : Rv h65 a0 0 = v51 := ((fxR F69 e57 rfl).trans e58)
          refine gf_R C fk_LandSurvey_Search_12 rfl e70 e71 dX6_findClash_62 ?_
          have e72 : Tg h65 v51 = 10 := (fxT F69 e63)
          obtain ⟨v73, e74⟩ : ∃ z, Iv h65 v51 3 = z := ⟨_, rfl⟩
          have f75 := ok_I O68 e72 rI_10_3 e74
          refine gf_I C fk_LandSurvey_Search_123 rfl e72 e74 dX6_findClash_65 ?_
          refine g_if_ne C (iw f75 (by decide) (by decide)) 78 (by decide) dX6_findClash_68 (fun q76 => ?_) (fun q77 => ?_)
          · have f78 : (1 : Int) ≤ v73 ∧ v73 ≤ (1 : Int) := r_nl f75 q76
            refine g_iload C 4 rfl dX6_findClash_78 ?_
            refine g_iconst C dX6_findClash_80 ?_
            refine g_icmp_ge C (iw f38 (by decide) (by decide)) (iw (il 3) (by decide) (by decide)) 88 (by decide) dX6_findClash_81 (fun q79 => ?_) (fun q80 => ?_)
            · have f81 : (3 : Int) ≤ x27 ∧ x27 ≤ (192 : Int) := r_ge f38 (il 3) q79 (by decide) (by decide)
              refine g_aload_n C rfl 1 rfl dX6_findClash_88 ?_
              refine g_callI (st := []) (gc_V C lk_LandSurvey_Search_130 (k_X6_firstOnLoop l D cy w z0 O68 e70) e70 rfl rfl rfl ⟨by decide, by decide⟩ (Nat.le_of_ble_eq_true rfl) dX6_findClash_89 ⟨(by decide), (by decide)⟩) (fun r82 h83 f85 K84 => ?_)
              obtain ⟨O86, F87, f88⟩ := K84
              refine g_istore C [(6, .inl r82), (5, .inl r40), (0, .inr (.inr a0)), (1, .inl a1), (2, .inr (.inl a2)), (4, .inl x27)] (by decide) rfl dX6_findClash_92 ?_
              refine g_iload C 0 rfl dX6_findClash_94 ?_
              refine g_iconst C dX6_findClash_96 ?_
              refine g_icmp_eq C (iw f88 (by decide) (by decide)) (iw (il (-1)) (by decide) (by decide)) 107 (by decide) dX6_findClash_97 (fun q89 => ?_) (fun q90 => ?_)
              · have f91 : (-1 : Int) ≤ r82 ∧ r82 ≤ (-1 : Int) := ii f88 (r_eq (il (-1)) q89) (by decide) (by decide)
                have f92 : (4 : Int) ≤ (x27 + 1) ∧ (x27 + 1) ≤ (193 : Int) := ia_add f81 (il 1) (by decide) (by decide)
                refine g_iinc C [(4, .inl (x27 + 1)), (6, .inl r82), (5, .inl r40), (0, .inr (.inr a0)), (1, .inl a1), (2, .inr (.inl a2))] 5 rfl (by decide) rfl dX6_findClash_107 ?_
                refine g_goto C 14 (by decide) dX6_findClash_110 ?_
                refine GW.sub [3, 4, 5, 0] rfl ?_
                exact ih30 _ (by omega) (x27 + 1) h83 rfl O86 ((((F33.call F45 rfl).pI t53 hh54 rfl).call F69 rfl).call F87 rfl) (iw f92 (by decide) (by decide))
              · have f93 : (0 : Int) ≤ r82 ∧ r82 ≤ (95 : Int) := r_nl f88 q90
                refine g_aload_n C rfl 2 rfl dX6_findClash_100 ?_
                refine g_iload C 0 rfl dX6_findClash_101 ?_
                have e94 : Tg h83 a0 = 7 := (fxT F87 e70)
                refine g_callJ (st := []) (gc_V C lk_LandSurvey_Search_133 (k_X6_blameLoop l D cy w z0 O86 e94 f93) e94 rfl rfl rfl ⟨by decide, by decide⟩ (Nat.le_of_ble_eq_true rfl) dX6_findClash_103 ⟨(by decide), (by decide)⟩) (fun r95 h96 f98 K97 => ?_)
                obtain ⟨O99, F100⟩ := K97
                exact g_lret C hr f98 ⟨O99, (((((((((Fx.rf (wr := wr_k_X6_findClash)).call F22 rfl).pI e23 hh24 rfl).call F33 rfl).call F45 rfl).pI t53 hh54 rfl).call F69 rfl).call F87 rfl).call F100 rfl)⟩ (by decide) (by decide) dX6_findClash_106
            · have f101 : (0 : Int) ≤ x27 ∧ x27 ≤ (2 : Int) := r_lt f38 (il 3) q80 (by decide) (by decide)
              refine g_iconst C dX6_findClash_84 ?_
              refine g_goto C 92 (by decide) dX6_findClash_85 ?_
              refine g_istore C [(6, .inl (-1)), (5, .inl r40), (0, .inr (.inr a0)), (1, .inl a1), (2, .inr (.inl a2)), (4, .inl x27)] (by decide) rfl dX6_findClash_92 ?_
              refine g_iload C 0 rfl dX6_findClash_94 ?_
              refine g_iconst C dX6_findClash_96 ?_
              refine g_icmp_eq C (iw (il (-1)) (by decide) (by decide)) (iw (il (-1)) (by decide) (by decide)) 107 (by decide) dX6_findClash_97 (fun q102 => ?_) (fun q103 => ?_)
              · have f104 : (1 : Int) ≤ (x27 + 1) ∧ (x27 + 1) ≤ (3 : Int) := ia_add f101 (il 1) (by decide) (by decide)
                refine g_iinc C [(4, .inl (x27 + 1)), (6, .inl (-1)), (5, .inl r40), (0, .inr (.inr a0)), (1, .inl a1), (2, .inr (.inl a2))] 5 rfl (by decide) rfl dX6_findClash_107 ?_
                refine g_goto C 14 (by decide) dX6_findClash_110 ?_
                refine GW.sub [3, 4, 5, 0] rfl ?_
                exact ih30 _ (by omega) (x27 + 1) h65 rfl O68 (((F33.call F45 rfl).pI t53 hh54 rfl).call F69 rfl) (iw f104 (by decide) (by decide))
              · exact (no_ne (il (-1)) (il (-1)) q103 (by decide)).elim
          · have f105 : (0 : Int) ≤ v73 ∧ v73 ≤ (0 : Int) := ii f75 (r_eq (il 0) q77) (by decide) (by decide)
            refine g_aload_n C rfl 1 rfl dX6_findClash_71 ?_
            refine g_iconst C dX6_findClash_72 ?_
            refine gp_I C fk_LandSurvey_Search_100 pk_LandSurvey_Search_12 rfl e70 (iw (il 1) (by decide) (by decide)) (nar_z2 (iw (il 1) (by decide) (by decide))) dX6_findClash_73 (fun h107 hh106 => ?_)
            have O108 := O68.pI e70 hh106 rI_7_12 (iw (il 1) (by decide) (by decide)) nofun
            refine g_lconst (z := 0) C (by decide) dX6_findClash_76 ?_
            exact g_lret C hr (iw (il 0) (by decide) (by decide)) ⟨O108, ((((((((Fx.rf (wr := wr_k_X6_findClash)).call F22 rfl).pI e23 hh24 rfl).call F33 rfl).call F45 rfl).pI t53 hh54 rfl).call F69 rfl).pI e70 hh106 rfl)⟩ (by decide) (by decide) dX6_findClash_77
        · have f109 : (0 : Int) ≤ r40 ∧ r40 ≤ (95 : Int) := r_nl f46 q48
          refine g_aload_n C rfl 1 rfl dX6_findClash_34 ?_
          refine g_iload C 0 rfl dX6_findClash_35 ?_
          have e110 : Tg h41 a0 = 7 := (fxT F45 e39)
          refine g_callJ (st := []) (gc_V C lk_LandSurvey_Search_119 (k_X6_blameWayTo l D cy w z0 O44 e110 f109) e110 rfl rfl rfl ⟨by decide, by decide⟩ (Nat.le_of_ble_eq_true rfl) dX6_findClash_37 ⟨(by decide), (by decide)⟩) (fun r111 h112 f114 K113 => ?_)
          obtain ⟨O115, F116⟩ := K113
          exact g_lret C hr f114 ⟨O115, ((((((Fx.rf (wr := wr_k_X6_findClash)).call F22 rfl).pI e23 hh24 rfl).call F33 rfl).call F45 rfl).call F116 rfl)⟩ (by decide) (by decide) dX6_findClash_40
  exact L29 _ 0 h25 rfl O26 Fx.rf (iw (il 0) (by decide) (by decide))
def wr_k_weigh_3 : List Nat := [402, 403, 404, 1412, 2003, 8020000, 8220400, 8420400, 8620000, 9020000, 9220400, 9420000]
set_option maxRecDepth 100000 in
set_option maxHeartbeats 4000000 in
theorem k_weigh_3 (l : Launch) (D : va_G) (cy : Nat → ClassId) (w : Nat → Nat) (z0 : Nat)  {h : Hp} {a0 : Nat} {a1 : Nat} {a2 : Int} {a3 : Int} {a4 : Int} {a5 : Int}  (O : Okh h) (ta0 : Tg h a0 = 7) (ta1 : Tg h a1 = 2) (fa2 : (-9223372036854775808) ≤ a2 ∧ a2 ≤ 9223372036854775807) (fa3 : (-9223372036854775808) ≤ a3 ∧ a3 ≤ 9223372036854775807) (fa4 : (-2147483648) ≤ a4 ∧ a4 ≤ 2147483647) (fa5 : 3 ≤ a5 ∧ a5 ≤ 3) (P_SInv : SInv h a0) : MV l D cy w z0 yX6_weigh cX6_weigh 15 none 4 98 0 0 [.inr (.inr a0), .inr (.inr a1), .inr (.inl a2), .inr (.inl a3), .inl a4, .inl a5] h (fun h1 => Okh h1 ∧ Fx wr_k_weigh_3 h h1) := by
  obtain ⟨v1, e2⟩ : ∃ z, Rv h a0 1 = z := ⟨_, rfl⟩
  have t3 := ok_R O ta0 rE_7_1 e2
  have l4 := ok_L O ta0 rE_7_1 e2
  obtain ⟨v5, e6⟩ : ∃ z, Iv h a0 3 = z := ⟨_, rfl⟩
  have f7 := ok_I O ta0 rI_7_3 e6
  obtain ⟨v8, e9⟩ : ∃ z, Rv h a0 2 = z := ⟨_, rfl⟩
  have t10 := ok_R O ta0 rE_7_2 e9
  have l11 := ok_L O ta0 rE_7_2 e9
  obtain ⟨v12, e13⟩ : ∃ z, Iv h a0 4 = z := ⟨_, rfl⟩
  have f14 := ok_I O ta0 rI_7_4 e13
  have p15 : SOK h v1 v5 := by have z := P_SInv.1; rw [e2, e6] at z; exact z
  have p16 : BOK h v8 v12 := by have z := P_SInv.2; rw [e9, e13] at z; exact z
  refine hm_go (by decide +kernel) (Nat.le_of_ble_eq_true rfl) (fun p e s m below meth c C hr hn => ?_)
  refine g_aload_n C rfl 0 rfl dX6_weigh_0 ?_
  refine g_aload_n C rfl 1 rfl dX6_weigh_1 ?_
  obtain ⟨v17, e18⟩ : ∃ z, Iv h a1 0 = z := ⟨_, rfl⟩
  have f19 := ok_I O ta1 rI_2_0 e18
  refine gf_I C fk_LandSurvey_Search_68 rfl ta1 e18 dX6_weigh_2 ?_
  refine g_lload_n C rfl 2 rfl dX6_weigh_5 ?_
  refine g_callJ (st := []) (gc_V C lk_LandSurvey_Search_96 (k_X6_findClash l D cy w z0 O ta0 (iw f19 (by decide) (by decide)) fa2 ⟨by rw [e2, e6]; exact p15, by rw [e9, e13]; exact p16⟩) ta0 rfl rfl rfl ⟨by decide, by decide⟩ (Nat.le_of_ble_eq_true rfl) dX6_weigh_6 ⟨(by decide), (by decide)⟩) (fun r20 h21 f23 K22 => ?_)
  obtain ⟨O24, F25⟩ := K22
  refine g_lstore C [(8, .inr (.inl r20)), (0, .inr (.inr a0)), (1, .inr (.inr a1)), (2, .inr (.inl a2)), (4, .inr (.inl a3)), (6, .inl a4), (7, .inl a5)] (by decide) rfl dX6_weigh_9 ?_
  refine g_aload_n C rfl 1 rfl dX6_weigh_11 ?_
  have e26 : Tg h21 a0 = 7 := (fxT F25 ta0)
  obtain ⟨v27, e28⟩ : ∃ z, Iv h21 a0 12 = z := ⟨_, rfl⟩
  have f29 := ok_I O24 e26 rI_7_12 e28
  refine gf_I C fk_LandSurvey_Search_100 rfl e26 e28 dX6_weigh_12 ?_
  refine g_if_eq C (iw f29 (by decide) (by decide)) 35 (by decide) dX6_weigh_15 (fun q30 => ?_) (fun q31 => ?_)
  · have f32 : (0 : Int) ≤ v27 ∧ v27 ≤ (0 : Int) := ii f29 (r_eq (il 0) q30) (by decide) (by decide)
    refine g_iload C 6 rfl dX6_weigh_35 ?_
    refine g_iconst C dX6_weigh_37 ?_
    refine g_icmp_lt C (iw fa5 (by decide) (by decide)) (iw (il 3) (by decide) (by decide)) 42 (by decide) dX6_weigh_38 (fun q33 => ?_) (fun q34 => ?_)
    · exact (no_lt fa5 (il 3) q33 (by decide)).elim
    · exact g_vret C hr ⟨O24, ((Fx.rf (wr := wr_k_weigh_3)).call F25 rfl)⟩ (by decide) (by decide) dX6_weigh_41
  · have f35 : (1 : Int) ≤ v27 ∧ v27 ≤ (1 : Int) := r_nl f29 q31
    refine g_aload_n C rfl 2 rfl dX6_weigh_18 ?_
    refine g_iconst C dX6_weigh_19 ?_
    have e36 : Tg h21 a1 = 2 := (fxT F25 ta1)
    refine gp_I C fk_LandSurvey_Search_62 pk_LandSurvey_Ground_2 rfl e36 (iw (il 1) (by decide) (by decide)) (nar_z2 (iw (il 1) (by decide) (by decide))) dX6_weigh_20 (fun h38 hh37 => ?_)
    have O39 := O24.pI e36 hh37 rI_2_2 (iw (il 1) (by decide) (by decide)) nofun
    refine g_aload_n C rfl 2 rfl dX6_weigh_23 ?_
    refine g_iload C 5 rfl dX6_weigh_24 ?_
    have e40 : Tg h38 a1 = 2 := ((pIT hh37).trans e36)
    refine gp_I C fk_LandSurvey_Search_103 pk_LandSurvey_Ground_3 rfl e40 fa4 (nf_i _) dX6_weigh_26 (fun h42 hh41 => ?_)
    have O43 := O39.pI e40 hh41 rI_2_3 fa4 nofun
    refine g_aload_n C rfl 2 rfl dX6_weigh_29 ?_
    refine g_lload_n C rfl 3 rfl dX6_weigh_30 ?_
    have e44 : Tg h42 a1 = 2 := ((pIT hh41).trans e40)
    refine gp_J C fk_LandSurvey_Search_80 pk_LandSurvey_Ground_4 rfl e44 rfl fa2 dX6_weigh_31 (fun h46 hh45 => ?_)
    have O47 := O43.pJ hh45 fa2
    exact g_vret C hr ⟨O47, (((((Fx.rf (wr := wr_k_weigh_3)).call F25 rfl).pI e36 hh37 rfl).pI e40 hh41 rfl).pJ e44 hh45 rfl)⟩ (by decide) (by decide) dX6_weigh_34
def wr_k_weigh_2 : List Nat := [402, 403, 404, 1412, 2003, 8020000, 8220400, 8420400, 8620000, 9020000, 9220400, 9420000]
set_option maxRecDepth 100000 in
set_option maxHeartbeats 4000000 in
theorem k_weigh_2 (l : Launch) (D : va_G) (cy : Nat → ClassId) (w : Nat → Nat) (z0 : Nat)  {h : Hp} {a0 : Nat} {a1 : Nat} {a2 : Int} {a3 : Int} {a4 : Int} {a5 : Int}  (O : Okh h) (ta0 : Tg h a0 = 7) (ta1 : Tg h a1 = 2) (fa2 : (-9223372036854775808) ≤ a2 ∧ a2 ≤ 9223372036854775807) (fa3 : (-9223372036854775808) ≤ a3 ∧ a3 ≤ 9223372036854775807) (fa4 : (-2147483648) ≤ a4 ∧ a4 ≤ 2147483647) (fa5 : 2 ≤ a5 ∧ a5 ≤ 2) (P_SInv : SInv h a0) : MV l D cy w z0 yX6_weigh cX6_weigh 15 none 5 132 0 0 [.inr (.inr a0), .inr (.inr a1), .inr (.inl a2), .inr (.inl a3), .inl a4, .inl a5] h (fun h1 => Okh h1 ∧ Fx wr_k_weigh_2 h h1) := by
  obtain ⟨v1, e2⟩ : ∃ z, Rv h a0 1 = z := ⟨_, rfl⟩
  have t3 := ok_R O ta0 rE_7_1 e2
  have l4 := ok_L O ta0 rE_7_1 e2
  obtain ⟨v5, e6⟩ : ∃ z, Iv h a0 3 = z := ⟨_, rfl⟩
  have f7 := ok_I O ta0 rI_7_3 e6
  obtain ⟨v8, e9⟩ : ∃ z, Rv h a0 2 = z := ⟨_, rfl⟩
  have t10 := ok_R O ta0 rE_7_2 e9
  have l11 := ok_L O ta0 rE_7_2 e9
  obtain ⟨v12, e13⟩ : ∃ z, Iv h a0 4 = z := ⟨_, rfl⟩
  have f14 := ok_I O ta0 rI_7_4 e13
  have p15 : SOK h v1 v5 := by have z := P_SInv.1; rw [e2, e6] at z; exact z
  have p16 : BOK h v8 v12 := by have z := P_SInv.2; rw [e9, e13] at z; exact z
  refine hm_go (by decide +kernel) (Nat.le_of_ble_eq_true rfl) (fun p e s m below meth c C hr hn => ?_)
  refine g_aload_n C rfl 0 rfl dX6_weigh_0 ?_
  refine g_aload_n C rfl 1 rfl dX6_weigh_1 ?_
  obtain ⟨v17, e18⟩ : ∃ z, Iv h a1 0 = z := ⟨_, rfl⟩
  have f19 := ok_I O ta1 rI_2_0 e18
  refine gf_I C fk_LandSurvey_Search_68 rfl ta1 e18 dX6_weigh_2 ?_
  refine g_lload_n C rfl 2 rfl dX6_weigh_5 ?_
  refine g_callJ (st := []) (gc_V C lk_LandSurvey_Search_96 (k_X6_findClash l D cy w z0 O ta0 (iw f19 (by decide) (by decide)) fa2 ⟨by rw [e2, e6]; exact p15, by rw [e9, e13]; exact p16⟩) ta0 rfl rfl rfl ⟨by decide, by decide⟩ (Nat.le_of_ble_eq_true rfl) dX6_weigh_6 ⟨(by decide), (by decide)⟩) (fun r20 h21 f23 K22 => ?_)
  obtain ⟨O24, F25⟩ := K22
  refine g_lstore C [(8, .inr (.inl r20)), (0, .inr (.inr a0)), (1, .inr (.inr a1)), (2, .inr (.inl a2)), (4, .inr (.inl a3)), (6, .inl a4), (7, .inl a5)] (by decide) rfl dX6_weigh_9 ?_
  refine g_aload_n C rfl 1 rfl dX6_weigh_11 ?_
  have e26 : Tg h21 a0 = 7 := (fxT F25 ta0)
  obtain ⟨v27, e28⟩ : ∃ z, Iv h21 a0 12 = z := ⟨_, rfl⟩
  have f29 := ok_I O24 e26 rI_7_12 e28
  refine gf_I C fk_LandSurvey_Search_100 rfl e26 e28 dX6_weigh_12 ?_
  refine g_if_eq C (iw f29 (by decide) (by decide)) 35 (by decide) dX6_weigh_15 (fun q30 => ?_) (fun q31 => ?_)
  · have f32 : (0 : Int) ≤ v27 ∧ v27 ≤ (0 : Int) := ii f29 (r_eq (il 0) q30) (by decide) (by decide)
    refine g_iload C 6 rfl dX6_weigh_35 ?_
    refine g_iconst C dX6_weigh_37 ?_
    refine g_icmp_lt C (iw fa5 (by decide) (by decide)) (iw (il 3) (by decide) (by decide)) 42 (by decide) dX6_weigh_38 (fun q33 => ?_) (fun q34 => ?_)
    · refine g_lload C 4 rfl dX6_weigh_42 ?_
      refine g_lstore C [(10, .inr (.inl a3)), (8, .inr (.inl r20)), (0, .inr (.inr a0)), (1, .inr (.inr a1)), (2, .inr (.inl a2)), (4, .inr (.inl a3)), (6, .inl a4), (7, .inl a5)] (by decide) rfl dX6_weigh_44 ?_
      refine g_iconst C dX6_weigh_46 ?_
      refine g_istore C [(12, .inl 0), (10, .inr (.inl a3)), (8, .inr (.inl r20)), (0, .inr (.inr a0)), (1, .inr (.inr a1)), (2, .inr (.inl a2)), (4, .inr (.inl a3)), (6, .inl a4), (7, .inl a5)] (by decide) rfl dX6_weigh_47 ?_
      refine GW.sub [3, 4, 5, 6, 7, 8, 2, 1, 0] rfl ?_
      -- loop at 49
      have L38 : ∀ (μ : Nat) (x35 : Int) (x36 : Int) (h37 : Hp), (40 - x36).toNat = μ → Okh h37 → Fx [402, 403, 404, 1412, 2003, 8020000, 8220400, 8420400, 8620000, 9020000, 9220400, 9420000] h21 h37 → ((-9223372036854775808 : Int) ≤ x35 ∧ x35 ≤ (9223372036854775807 : Int)) → ((0 : Int) ≤ x36 ∧ x36 ≤ (40 : Int)) → GW p l e (rmm 5 132 0 0) s m (List.map toV [.inr (.inr a0), .inr (.inr a1), .inr (.inl a2), .inr (.inl a3), .inl a4, .inl a5]).toArray below meth c D cy z0 15 (MQ below (QV D cy z0 (fun h1 => Okh h1 ∧ Fx wr_k_weigh_2 h h1)) (List.map toV [.inr (.inr a0), .inr (.inr a1), .inr (.inl a2), .inr (.inl a3), .inl a4, .inl a5]).toArray s 0 0 (Aof z0)) 49 [(0, .inr (.inr a0)), (1, .inr (.inr a1)), (2, .inr (.inl a2)), (4, .inr (.inl a3)), (6, .inl a4), (7, .inl a5), (8, .inr (.inl r20)), (10, .inr (.inl x35)), (12, .inl x36)] [] h37 0 0 := by
        intro μ
        induction μ using Nat.strongRecOn with
        | ind μ ih39 =>
          intro x35 x36 h37 hm40 O41 F42 f43 f44
          refine g_iload C 8 rfl dX6_weigh_49 ?_
          refine g_aload_n C rfl 0 rfl dX6_weigh_51 ?_
          have e45 : Tg h37 a0 = 7 := (fxT F42 e26)
          have e46 : Iv h37 a0 3 = v5 := ((fxI F42 e26 rfl).trans ((fxI F25 ta0 rfl).trans e6))
          refine gf_I C fk_LandSurvey_Search_46 rfl e45 e46 dX6_weigh_52 ?_
          refine g_icmp_ge C (iw f44 (by decide) (by decide)) (iw f7 (by decide) (by decide)) 149 (by decide) dX6_weigh_55 (fun q47 => ?_) (fun q48 => ?_)
          · exact g_vret C hr ⟨O41, (((Fx.rf (wr := wr_k_weigh_2)).call F25 rfl).call F42 rfl)⟩ (by decide) (by decide) dX6_weigh_149
          · have f49 : (0 : Int) ≤ x36 ∧ x36 ≤ (39 : Int) := r_lt f44 f7 q48 (by decide) (by decide)
            have f50 : (1 : Int) ≤ v5 ∧ v5 ≤ (40 : Int) := r_gt f7 f44 q48 (by decide) (by decide)
            refine g_lconst (z := 1) C (by decide) dX6_weigh_58 ?_
            refine g_iload C 8 rfl dX6_weigh_59 ?_
            refine g_lshl C dX6_weigh_61 ?_
            have f51 : (-9223372036854775808 : Int) ≤ (lShl 1 x36) ∧ (lShl 1 x36) ≤ (9223372036854775807 : Int) := inL_of _
            refine g_lstore C [(13, .inr (.inl (lShl 1 x36))), (0, .inr (.inr a0)), (1, .inr (.inr a1)), (2, .inr (.inl a2)), (4, .inr (.inl a3)), (6, .inl a4), (7, .inl a5), (8, .inr (.inl r20)), (10, .inr (.inl x35)), (12, .inl x36)] (by decide) rfl dX6_weigh_62 ?_
            refine g_lload C 7 rfl dX6_weigh_64 ?_
            refine g_lload C 0 rfl dX6_weigh_66 ?_
            refine g_land C dX6_weigh_68 ?_
            have f52 : (-9223372036854775808 : Int) ≤ (lAnd r20 (lShl 1 x36)) ∧ (lAnd r20 (lShl 1 x36)) ≤ (9223372036854775807 : Int) := inL_of _
            refine g_lconst (z := 0) C (by decide) dX6_weigh_69 ?_
            refine g_lcmp C f52 (iw (il 0) (by decide) (by decide)) dX6_weigh_70 ?_
            have f53 : (-1 : Int) ≤ (lC (lAnd r20 (lShl 1 x36)) 0) ∧ (lC (lAnd r20 (lShl 1 x36)) 0) ≤ (1 : Int) := lC_rng _ _
            refine g_if_eq C (iw f53 (by decide) (by decide)) 143 (by decide) dX6_weigh_71 (fun q54 => ?_) (fun q55 => ?_)
            · have q56 : (lAnd r20 (lShl 1 x36)) = (0 : Int) := lC_eq.mp q54
              have f57 : (0 : Int) ≤ (lAnd r20 (lShl 1 x36)) ∧ (lAnd r20 (lShl 1 x36)) ≤ (0 : Int) := ii f52 (r_eq (il 0) q56) (by decide) (by decide)
              have f58 : (1 : Int) ≤ (x36 + 1) ∧ (x36 + 1) ≤ (40 : Int) := ia_add f49 (il 1) (by decide) (by decide)
              refine g_iinc C [(12, .inl (x36 + 1)), (13, .inr (.inl (lShl 1 x36))), (0, .inr (.inr a0)), (1, .inr (.inr a1)), (2, .inr (.inl a2)), (4, .inr (.inl a3)), (6, .inl a4), (7, .inl a5), (8, .inr (.inl r20)), (10, .inr (.inl x35))] 9 rfl (by decide) rfl dX6_weigh_143 ?_
              refine g_goto C 49 (by decide) dX6_weigh_146 ?_
              refine GW.sub [2, 3, 4, 5, 6, 7, 8, 9, 0] rfl ?_
              exact ih39 _ (by omega) x35 (x36 + 1) h37 rfl O41 F42 f43 (iw f58 (by decide) (by decide))
            · have q59 : ¬ (lAnd r20 (lShl 1 x36)) = (0 : Int) := fun z => q55 (lC_eq.mpr z)
              refine g_lload C 8 rfl dX6_weigh_74 ?_
              refine g_lload C 0 rfl dX6_weigh_76 ?_
              refine g_land C dX6_weigh_78 ?_
              have f60 : (-9223372036854775808 : Int) ≤ (lAnd x35 (lShl 1 x36)) ∧ (lAnd x35 (lShl 1 x36)) ≤ (9223372036854775807 : Int) := inL_of _
              refine g_lconst (z := 0) C (by decide) dX6_weigh_79 ?_
              refine g_lcmp C f60 (iw (il 0) (by decide) (by decide)) dX6_weigh_80 ?_
              have f61 : (-1 : Int) ≤ (lC (lAnd x35 (lShl 1 x36)) 0) ∧ (lC (lAnd x35 (lShl 1 x36)) 0) ≤ (1 : Int) := lC_rng _ _
              refine g_if_ne C (iw f61 (by decide) (by decide)) 143 (by decide) dX6_weigh_81 (fun q62 => ?_) (fun q63 => ?_)
              · have q64 : ¬ (lAnd x35 (lShl 1 x36)) = (0 : Int) := fun z => q62 (lC_eq.mpr z)
                have f65 : (1 : Int) ≤ (x36 + 1) ∧ (x36 + 1) ≤ (40 : Int) := ia_add f49 (il 1) (by decide) (by decide)
                refine g_iinc C [(12, .inl (x36 + 1)), (13, .inr (.inl (lShl 1 x36))), (0, .inr (.inr a0)), (1, .inr (.inr a1)), (2, .inr (.inl a2)), (4, .inr (.inl a3)), (6, .inl a4), (7, .inl a5), (8, .inr (.inl r20)), (10, .inr (.inl x35))] 9 rfl (by decide) rfl dX6_weigh_143 ?_
                refine g_goto C 49 (by decide) dX6_weigh_146 ?_
                refine GW.sub [2, 3, 4, 5, 6, 7, 8, 9, 0] rfl ?_
                exact ih39 _ (by omega) x35 (x36 + 1) h37 rfl O41 F42 f43 (iw f65 (by decide) (by decide))
              · have q66 : (lAnd x35 (lShl 1 x36)) = (0 : Int) := lC_eq.mp q63
                have f67 : (0 : Int) ≤ (lAnd x35 (lShl 1 x36)) ∧ (lAnd x35 (lShl 1 x36)) ≤ (0 : Int) := ii f60 (r_eq (il 0) q66) (by decide) (by decide)
                refine g_aload_n C rfl 2 rfl dX6_weigh_84 ?_
                refine g_iload C 5 rfl dX6_weigh_85 ?_
                refine g_aload_n C rfl 1 rfl dX6_weigh_87 ?_
                have e68 : Rv h37 a0 1 = v1 := ((fxR F42 e26 rfl).trans ((fxR F25 ta0 rfl).trans e2))
                refine gf_R C fk_LandSurvey_Search_38 rfl e45 e68 dX6_weigh_88 ?_
                refine g_iload C 9 rfl dX6_weigh_91 ?_
                have e69 : Tg h37 v1 = 38104 := (fxT F42 (fxT F25 t3))
                have e70 : Tg h21 v1 = 38104 := (fxT F25 t3)
                have e71 : Ln h37 v1 = 40 := ((fxL F42 e70).trans ((fxL F25 t3).trans l4))
                obtain ⟨v72, e73⟩ : ∃ z, Rv h37 v1 x36.toNat = z := ⟨_, rfl⟩
                refine g_aald (t := 4) C e69 rfl (by decide) rfl e71 (ix f49 (by decide) (by decide)) e73 dX6_weigh_93 ?_
                have p74 := (SOK_fx O24 F42 e70 rfl rfl rfl (SOK_fx O F25 t3 rfl rfl rfl p15))
                have q75 := nn_get p74.nn (by omega) e73
                have t76 := ok_Na O41 e69 ar_38104 rE_38104_0 e73 q75
                obtain ⟨v77, e78⟩ : ∃ z, Iv h37 v72 15 = z := ⟨_, rfl⟩
                have f79 := ok_I O41 t76 rI_9_15 e78
                refine gf_I C fk_LandSurvey_Search_104 rfl t76 e78 dX6_weigh_94 ?_
                have f80 : (-2147483648 : Int) ≤ (w32 (a4 + v77)) ∧ (w32 (a4 + v77)) ≤ (2147483647 : Int) := w32_inR _
                refine g_iaddW C dX6_weigh_97 ?_
                refine g_lload_n C rfl 3 rfl dX6_weigh_98 ?_
                refine g_lload C 0 rfl dX6_weigh_99 ?_
                refine g_lor C dX6_weigh_101 ?_
                have f81 : (-9223372036854775808 : Int) ≤ (lOr a2 (lShl 1 x36)) ∧ (lOr a2 (lShl 1 x36)) ≤ (9223372036854775807 : Int) := inL_of _
                have e82 : Tg h37 a1 = 2 := (fxT F42 (fxT F25 ta1))
                refine g_callI (st := []) (gc_S C lk_LandSurvey_Search_107 (k_X6_isBetter l D cy w z0 O41 e82 f80 f81) rfl ⟨by decide, by decide⟩ (Nat.le_of_ble_eq_true rfl) dX6_weigh_102 ⟨(by decide), (by decide)⟩) (fun r83 h84 f86 K85 => ?_)
                obtain ⟨O87, F88, f89⟩ := K85
                refine g_if_eq C (iw f89 (by decide) (by decide)) 136 (by decide) dX6_weigh_105 (fun q90 => ?_) (fun q91 => ?_)
                · have f92 : (0 : Int) ≤ r83 ∧ r83 ≤ (0 : Int) := ii f89 (r_eq (il 0) q90) (by decide) (by decide)
                  refine g_lload C 8 rfl dX6_weigh_136 ?_
                  refine g_lload C 0 rfl dX6_weigh_138 ?_
                  refine g_lor C dX6_weigh_140 ?_
                  have f93 : (-9223372036854775808 : Int) ≤ (lOr x35 (lShl 1 x36)) ∧ (lOr x35 (lShl 1 x36)) ≤ (9223372036854775807 : Int) := inL_of _
                  refine g_lstore C [(10, .inr (.inl (lOr x35 (lShl 1 x36)))), (13, .inr (.inl (lShl 1 x36))), (0, .inr (.inr a0)), (1, .inr (.inr a1)), (2, .inr (.inl a2)), (4, .inr (.inl a3)), (6, .inl a4), (7, .inl a5), (8, .inr (.inl r20)), (12, .inl x36)] (by decide) rfl dX6_weigh_141 ?_
                  have f94 : (1 : Int) ≤ (x36 + 1) ∧ (x36 + 1) ≤ (40 : Int) := ia_add f49 (il 1) (by decide) (by decide)
                  refine g_iinc C [(12, .inl (x36 + 1)), (10, .inr (.inl (lOr x35 (lShl 1 x36)))), (13, .inr (.inl (lShl 1 x36))), (0, .inr (.inr a0)), (1, .inr (.inr a1)), (2, .inr (.inl a2)), (4, .inr (.inl a3)), (6, .inl a4), (7, .inl a5), (8, .inr (.inl r20))] 9 rfl (by decide) rfl dX6_weigh_143 ?_
                  refine g_goto C 49 (by decide) dX6_weigh_146 ?_
                  refine GW.sub [3, 4, 5, 6, 7, 8, 9, 1, 0] rfl ?_
                  exact ih39 _ (by omega) (lOr x35 (lShl 1 x36)) (x36 + 1) h84 rfl O87 (F42.call F88 rfl) f93 (iw f94 (by decide) (by decide))
                · have f95 : (1 : Int) ≤ r83 ∧ r83 ≤ (1 : Int) := r_nl f89 q91
                  refine g_aload_n C rfl 1 rfl dX6_weigh_108 ?_
                  refine g_aload_n C rfl 2 rfl dX6_weigh_109 ?_
                  refine g_lload_n C rfl 3 rfl dX6_weigh_110 ?_
                  refine g_lload C 0 rfl dX6_weigh_111 ?_
                  refine g_lor C dX6_weigh_113 ?_
                  refine g_lload C 8 rfl dX6_weigh_114 ?_
                  refine g_iload C 5 rfl dX6_weigh_116 ?_
                  refine g_aload_n C rfl 1 rfl dX6_weigh_118 ?_
                  have e96 : Tg h84 a0 = 7 := (fxT F88 e45)
                  have e97 : Rv h84 a0 1 = v1 := ((fxR F88 e45 rfl).trans e68)
                  refine gf_R C fk_LandSurvey_Search_38 rfl e96 e97 dX6_weigh_119 ?_
                  refine g_iload C 9 rfl dX6_weigh_122 ?_
                  have e98 : Tg h84 v1 = 38104 := (fxT F88 e69)
                  have e99 : Ln h84 v1 = 40 := ((fxL F88 e69).trans e71)
                  have e100 : Rv h84 v1 x36.toNat = v72 := ((fxRa F88 e69 ar_38104 rfl).trans e73)
                  refine g_aald (t := 4) C e98 rfl (by decide) rfl e99 (ix f49 (by decide) (by decide)) e100 dX6_weigh_124 ?_
                  have e101 : Tg h84 v72 = 9 := (fxT F88 t76)
                  have e102 : Iv h84 v72 15 = v77 := ((fxI F88 t76 rfl).trans e78)
                  refine gf_I C fk_LandSurvey_Search_104 rfl e101 e102 dX6_weigh_125 ?_
                  refine g_iaddW C dX6_weigh_128 ?_
                  refine g_iload C 6 rfl dX6_weigh_129 ?_
                  refine g_iconst C dX6_weigh_131 ?_
                  have f103 : (3 : Int) ≤ (a5 + 1) ∧ (a5 + 1) ≤ (3 : Int) := ia_add fa5 (il 1) (by decide) (by decide)
                  refine g_iadd C dX6_weigh_132 ?_
                  have e104 : Tg h84 a1 = 2 := (fxT F88 e82)
                  have e105 : Rv h84 a0 2 = v8 := ((fxR F88 e45 rfl).trans ((fxR F42 e26 rfl).trans ((fxR F25 ta0 rfl).trans e9)))
                  have e106 : Iv h84 a0 3 = v5 := ((fxI F88 e45 rfl).trans e46)
                  have e107 : Iv h84 a0 4 = v12 := ((fxI F88 e45 rfl).trans ((fxI F42 e26 rfl).trans ((fxI F25 ta0 rfl).trans e13)))
                  have p108 := (SOK_fx O41 F88 e69 rfl rfl rfl p74)
                  have e109 : Tg h21 v8 = 39105 := (fxT F25 t10)
                  have e110 : Tg h37 v8 = 39105 := (fxT F42 e109)
                  have p111 := (BOK_fx O41 F88 e110 rfl rfl rfl rfl (BOK_fx O24 F42 e109 rfl rfl rfl rfl (BOK_fx O F25 t10 rfl rfl rfl rfl p16)))
                  refine g_callV (st := []) (gc_V C lk_LandSurvey_Search_76 (k_weigh_3 l D cy w z0 O87 e96 e104 f81 f43 f80 f103 ⟨by rw [e97, e106]; exact p108, by rw [e105, e107]; exact p111⟩) e96 rfl rfl rfl ⟨by decide, by decide⟩ (Nat.le_of_ble_eq_true rfl) dX6_weigh_133 ⟨(by decide), (by decide)⟩) (fun h113 K114 => ?_)
                  obtain ⟨O116, F117⟩ := K114
                  refine g_lload C 8 rfl dX6_weigh_136 ?_
                  refine g_lload C 0 rfl dX6_weigh_138 ?_
                  refine g_lor C dX6_weigh_140 ?_
                  have f118 : (-9223372036854775808 : Int) ≤ (lOr x35 (lShl 1 x36)) ∧ (lOr x35 (lShl 1 x36)) ≤ (9223372036854775807 : Int) := inL_of _
                  refine g_lstore C [(10, .inr (.inl (lOr x35 (lShl 1 x36)))), (13, .inr (.inl (lShl 1 x36))), (0, .inr (.inr a0)), (1, .inr (.inr a1)), (2, .inr (.inl a2)), (4, .inr (.inl a3)), (6, .inl a4), (7, .inl a5), (8, .inr (.inl r20)), (12, .inl x36)] (by decide) rfl dX6_weigh_141 ?_
                  have f119 : (1 : Int) ≤ (x36 + 1) ∧ (x36 + 1) ≤ (40 : Int) := ia_add f49 (il 1) (by decide) (by decide)
                  refine g_iinc C [(12, .inl (x36 + 1)), (10, .inr (.inl (lOr x35 (lShl 1 x36)))), (13, .inr (.inl (lShl 1 x36))), (0, .inr (.inr a0)), (1, .inr (.inr a1)), (2, .inr (.inl a2)), (4, .inr (.inl a3)), (6, .inl a4), (7, .inl a5), (8, .inr (.inl r20))] 9 rfl (by decide) rfl dX6_weigh_143 ?_
                  refine g_goto C 49 (by decide) dX6_weigh_146 ?_
                  refine GW.sub [3, 4, 5, 6, 7, 8, 9, 1, 0] rfl ?_
                  exact ih39 _ (by omega) (lOr x35 (lShl 1 x36)) (x36 + 1) h113 rfl O116 ((F42.call F88 rfl).call F117 rfl) f118 (iw f119 (by decide) (by decide))
      exact L38 _ a3 0 h21 rfl O24 Fx.rf fa3 (iw (il 0) (by decide) (by decide))
    · exact (no_le (il 3) fa5 q34 (by decide)).elim
  · have f120 : (1 : Int) ≤ v27 ∧ v27 ≤ (1 : Int) := r_nl f29 q31
    refine g_aload_n C rfl 2 rfl dX6_weigh_18 ?_
    refine g_iconst C dX6_weigh_19 ?_
    have e121 : Tg h21 a1 = 2 := (fxT F25 ta1)
    refine gp_I C fk_LandSurvey_Search_62 pk_LandSurvey_Ground_2 rfl e121 (iw (il 1) (by decide) (by decide)) (nar_z2 (iw (il 1) (by decide) (by decide))) dX6_weigh_20 (fun h123 hh122 => ?_)
    have O124 := O24.pI e121 hh122 rI_2_2 (iw (il 1) (by decide) (by decide)) nofun
    refine g_aload_n C rfl 2 rfl dX6_weigh_23 ?_
    refine g_iload C 5 rfl dX6_weigh_24 ?_
    have e125 : Tg h123 a1 = 2 := ((pIT hh122).trans e121)
    refine gp_I C fk_LandSurvey_Search_103 pk_LandSurvey_Ground_3 rfl e125 fa4 (nf_i _) dX6_weigh_26 (fun h127 hh126 => ?_)
    have O128 := O124.pI e125 hh126 rI_2_3 fa4 nofun
    refine g_aload_n C rfl 2 rfl dX6_weigh_29 ?_
    refine g_lload_n C rfl 3 rfl dX6_weigh_30 ?_
    have e129 : Tg h127 a1 = 2 := ((pIT hh126).trans e125)
    refine gp_J C fk_LandSurvey_Search_80 pk_LandSurvey_Ground_4 rfl e129 rfl fa2 dX6_weigh_31 (fun h131 hh130 => ?_)
    have O132 := O128.pJ hh130 fa2
    exact g_vret C hr ⟨O132, (((((Fx.rf (wr := wr_k_weigh_2)).call F25 rfl).pI e121 hh122 rfl).pI e125 hh126 rfl).pJ e129 hh130 rfl)⟩ (by decide) (by decide) dX6_weigh_34
def wr_k_weigh_1 : List Nat := [402, 403, 404, 1412, 2003, 8020000, 8220400, 8420400, 8620000, 9020000, 9220400, 9420000]
set_option maxRecDepth 100000 in
set_option maxHeartbeats 4000000 in
theorem k_weigh_1 (l : Launch) (D : va_G) (cy : Nat → ClassId) (w : Nat → Nat) (z0 : Nat)  {h : Hp} {a0 : Nat} {a1 : Nat} {a2 : Int} {a3 : Int} {a4 : Int} {a5 : Int}  (O : Okh h) (ta0 : Tg h a0 = 7) (ta1 : Tg h a1 = 2) (fa2 : (-9223372036854775808) ≤ a2 ∧ a2 ≤ 9223372036854775807) (fa3 : (-9223372036854775808) ≤ a3 ∧ a3 ≤ 9223372036854775807) (fa4 : (-2147483648) ≤ a4 ∧ a4 ≤ 2147483647) (fa5 : 1 ≤ a5 ∧ a5 ≤ 1) (P_SInv : SInv h a0) : MV l D cy w z0 yX6_weigh cX6_weigh 15 none 6 166 0 0 [.inr (.inr a0), .inr (.inr a1), .inr (.inl a2), .inr (.inl a3), .inl a4, .inl a5] h (fun h1 => Okh h1 ∧ Fx wr_k_weigh_1 h h1) := by
  obtain ⟨v1, e2⟩ : ∃ z, Rv h a0 1 = z := ⟨_, rfl⟩
  have t3 := ok_R O ta0 rE_7_1 e2
  have l4 := ok_L O ta0 rE_7_1 e2
  obtain ⟨v5, e6⟩ : ∃ z, Iv h a0 3 = z := ⟨_, rfl⟩
  have f7 := ok_I O ta0 rI_7_3 e6
  obtain ⟨v8, e9⟩ : ∃ z, Rv h a0 2 = z := ⟨_, rfl⟩
  have t10 := ok_R O ta0 rE_7_2 e9
  have l11 := ok_L O ta0 rE_7_2 e9
  obtain ⟨v12, e13⟩ : ∃ z, Iv h a0 4 = z := ⟨_, rfl⟩
  have f14 := ok_I O ta0 rI_7_4 e13
  have p15 : SOK h v1 v5 := by have z := P_SInv.1; rw [e2, e6] at z; exact z
  have p16 : BOK h v8 v12 := by have z := P_SInv.2; rw [e9, e13] at z; exact z
  refine hm_go (by decide +kernel) (Nat.le_of_ble_eq_true rfl) (fun p e s m below meth c C hr hn => ?_)
  refine g_aload_n C rfl 0 rfl dX6_weigh_0 ?_
  refine g_aload_n C rfl 1 rfl dX6_weigh_1 ?_
  obtain ⟨v17, e18⟩ : ∃ z, Iv h a1 0 = z := ⟨_, rfl⟩
  have f19 := ok_I O ta1 rI_2_0 e18
  refine gf_I C fk_LandSurvey_Search_68 rfl ta1 e18 dX6_weigh_2 ?_
  refine g_lload_n C rfl 2 rfl dX6_weigh_5 ?_
  refine g_callJ (st := []) (gc_V C lk_LandSurvey_Search_96 (k_X6_findClash l D cy w z0 O ta0 (iw f19 (by decide) (by decide)) fa2 ⟨by rw [e2, e6]; exact p15, by rw [e9, e13]; exact p16⟩) ta0 rfl rfl rfl ⟨by decide, by decide⟩ (Nat.le_of_ble_eq_true rfl) dX6_weigh_6 ⟨(by decide), (by decide)⟩) (fun r20 h21 f23 K22 => ?_)
  obtain ⟨O24, F25⟩ := K22
  refine g_lstore C [(8, .inr (.inl r20)), (0, .inr (.inr a0)), (1, .inr (.inr a1)), (2, .inr (.inl a2)), (4, .inr (.inl a3)), (6, .inl a4), (7, .inl a5)] (by decide) rfl dX6_weigh_9 ?_
  refine g_aload_n C rfl 1 rfl dX6_weigh_11 ?_
  have e26 : Tg h21 a0 = 7 := (fxT F25 ta0)
  obtain ⟨v27, e28⟩ : ∃ z, Iv h21 a0 12 = z := ⟨_, rfl⟩
  have f29 := ok_I O24 e26 rI_7_12 e28
  refine gf_I C fk_LandSurvey_Search_100 rfl e26 e28 dX6_weigh_12 ?_
  refine g_if_eq C (iw f29 (by decide) (by decide)) 35 (by decide) dX6_weigh_15 (fun q30 => ?_) (fun q31 => ?_)
  · have f32 : (0 : Int) ≤ v27 ∧ v27 ≤ (0 : Int) := ii f29 (r_eq (il 0) q30) (by decide) (by decide)
    refine g_iload C 6 rfl dX6_weigh_35 ?_
    refine g_iconst C dX6_weigh_37 ?_
    refine g_icmp_lt C (iw fa5 (by decide) (by decide)) (iw (il 3) (by decide) (by decide)) 42 (by decide) dX6_weigh_38 (fun q33 => ?_) (fun q34 => ?_)
    · refine g_lload C 4 rfl dX6_weigh_42 ?_
      refine g_lstore C [(10, .inr (.inl a3)), (8, .inr (.inl r20)), (0, .inr (.inr a0)), (1, .inr (.inr a1)), (2, .inr (.inl a2)), (4, .inr (.inl a3)), (6, .inl a4), (7, .inl a5)] (by decide) rfl dX6_weigh_44 ?_
      refine g_iconst C dX6_weigh_46 ?_
      refine g_istore C [(12, .inl 0), (10, .inr (.inl a3)), (8, .inr (.inl r20)), (0, .inr (.inr a0)), (1, .inr (.inr a1)), (2, .inr (.inl a2)), (4, .inr (.inl a3)), (6, .inl a4), (7, .inl a5)] (by decide) rfl dX6_weigh_47 ?_
      refine GW.sub [3, 4, 5, 6, 7, 8, 2, 1, 0] rfl ?_
      -- loop at 49
      have L38 : ∀ (μ : Nat) (x35 : Int) (x36 : Int) (h37 : Hp), (40 - x36).toNat = μ → Okh h37 → Fx [402, 403, 404, 1412, 2003, 8020000, 8220400, 8420400, 8620000, 9020000, 9220400, 9420000] h21 h37 → ((-9223372036854775808 : Int) ≤ x35 ∧ x35 ≤ (9223372036854775807 : Int)) → ((0 : Int) ≤ x36 ∧ x36 ≤ (40 : Int)) → GW p l e (rmm 6 166 0 0) s m (List.map toV [.inr (.inr a0), .inr (.inr a1), .inr (.inl a2), .inr (.inl a3), .inl a4, .inl a5]).toArray below meth c D cy z0 15 (MQ below (QV D cy z0 (fun h1 => Okh h1 ∧ Fx wr_k_weigh_1 h h1)) (List.map toV [.inr (.inr a0), .inr (.inr a1), .inr (.inl a2), .inr (.inl a3), .inl a4, .inl a5]).toArray s 0 0 (Aof z0)) 49 [(0, .inr (.inr a0)), (1, .inr (.inr a1)), (2, .inr (.inl a2)), (4, .inr (.inl a3)), (6, .inl a4), (7, .inl a5), (8, .inr (.inl r20)), (10, .inr (.inl x35)), (12, .inl x36)] [] h37 0 0 := by
        intro μ
        induction μ using Nat.strongRecOn with
        | ind μ ih39 =>
          intro x35 x36 h37 hm40 O41 F42 f43 f44
          refine g_iload C 8 rfl dX6_weigh_49 ?_
          refine g_aload_n C rfl 0 rfl dX6_weigh_51 ?_
          have e45 : Tg h37 a0 = 7 := (fxT F42 e26)
          have e46 : Iv h37 a0 3 = v5 := ((fxI F42 e26 rfl).trans ((fxI F25 ta0 rfl).trans e6))
          refine gf_I C fk_LandSurvey_Search_46 rfl e45 e46 dX6_weigh_52 ?_
          refine g_icmp_ge C (iw f44 (by decide) (by decide)) (iw f7 (by decide) (by decide)) 149 (by decide) dX6_weigh_55 (fun q47 => ?_) (fun q48 => ?_)
          · exact g_vret C hr ⟨O41, (((Fx.rf (wr := wr_k_weigh_1)).call F25 rfl).call F42 rfl)⟩ (by decide) (by decide) dX6_weigh_149
          · have f49 : (0 : Int) ≤ x36 ∧ x36 ≤ (39 : Int) := r_lt f44 f7 q48 (by decide) (by decide)
            have f50 : (1 : Int) ≤ v5 ∧ v5 ≤ (40 : Int) := r_gt f7 f44 q48 (by decide) (by decide)
            refine g_lconst (z := 1) C (by decide) dX6_weigh_58 ?_
            refine g_iload C 8 rfl dX6_weigh_59 ?_
            refine g_lshl C dX6_weigh_61 ?_
            have f51 : (-9223372036854775808 : Int) ≤ (lShl 1 x36) ∧ (lShl 1 x36) ≤ (9223372036854775807 : Int) := inL_of _
            refine g_lstore C [(13, .inr (.inl (lShl 1 x36))), (0, .inr (.inr a0)), (1, .inr (.inr a1)), (2, .inr (.inl a2)), (4, .inr (.inl a3)), (6, .inl a4), (7, .inl a5), (8, .inr (.inl r20)), (10, .inr (.inl x35)), (12, .inl x36)] (by decide) rfl dX6_weigh_62 ?_
            refine g_lload C 7 rfl dX6_weigh_64 ?_
            refine g_lload C 0 rfl dX6_weigh_66 ?_
            refine g_land C dX6_weigh_68 ?_
            have f52 : (-9223372036854775808 : Int) ≤ (lAnd r20 (lShl 1 x36)) ∧ (lAnd r20 (lShl 1 x36)) ≤ (9223372036854775807 : Int) := inL_of _
            refine g_lconst (z := 0) C (by decide) dX6_weigh_69 ?_
            refine g_lcmp C f52 (iw (il 0) (by decide) (by decide)) dX6_weigh_70 ?_
            have f53 : (-1 : Int) ≤ (lC (lAnd r20 (lShl 1 x36)) 0) ∧ (lC (lAnd r20 (lShl 1 x36)) 0) ≤ (1 : Int) := lC_rng _ _
            refine g_if_eq C (iw f53 (by decide) (by decide)) 143 (by decide) dX6_weigh_71 (fun q54 => ?_) (fun q55 => ?_)
            · have q56 : (lAnd r20 (lShl 1 x36)) = (0 : Int) := lC_eq.mp q54
              have f57 : (0 : Int) ≤ (lAnd r20 (lShl 1 x36)) ∧ (lAnd r20 (lShl 1 x36)) ≤ (0 : Int) := ii f52 (r_eq (il 0) q56) (by decide) (by decide)
              have f58 : (1 : Int) ≤ (x36 + 1) ∧ (x36 + 1) ≤ (40 : Int) := ia_add f49 (il 1) (by decide) (by decide)
              refine g_iinc C [(12, .inl (x36 + 1)), (13, .inr (.inl (lShl 1 x36))), (0, .inr (.inr a0)), (1, .inr (.inr a1)), (2, .inr (.inl a2)), (4, .inr (.inl a3)), (6, .inl a4), (7, .inl a5), (8, .inr (.inl r20)), (10, .inr (.inl x35))] 9 rfl (by decide) rfl dX6_weigh_143 ?_
              refine g_goto C 49 (by decide) dX6_weigh_146 ?_
              refine GW.sub [2, 3, 4, 5, 6, 7, 8, 9, 0] rfl ?_
              exact ih39 _ (by omega) x35 (x36 + 1) h37 rfl O41 F42 f43 (iw f58 (by decide) (by decide))
            · have q59 : ¬ (lAnd r20 (lShl 1 x36)) = (0 : Int) := fun z => q55 (lC_eq.mpr z)
              refine g_lload C 8 rfl dX6_weigh_74 ?_
              refine g_lload C 0 rfl dX6_weigh_76 ?_
              refine g_land C dX6_weigh_78 ?_
              have f60 : (-9223372036854775808 : Int) ≤ (lAnd x35 (lShl 1 x36)) ∧ (lAnd x35 (lShl 1 x36)) ≤ (9223372036854775807 : Int) := inL_of _
              refine g_lconst (z := 0) C (by decide) dX6_weigh_79 ?_
              refine g_lcmp C f60 (iw (il 0) (by decide) (by decide)) dX6_weigh_80 ?_
              have f61 : (-1 : Int) ≤ (lC (lAnd x35 (lShl 1 x36)) 0) ∧ (lC (lAnd x35 (lShl 1 x36)) 0) ≤ (1 : Int) := lC_rng _ _
              refine g_if_ne C (iw f61 (by decide) (by decide)) 143 (by decide) dX6_weigh_81 (fun q62 => ?_) (fun q63 => ?_)
              · have q64 : ¬ (lAnd x35 (lShl 1 x36)) = (0 : Int) := fun z => q62 (lC_eq.mpr z)
                have f65 : (1 : Int) ≤ (x36 + 1) ∧ (x36 + 1) ≤ (40 : Int) := ia_add f49 (il 1) (by decide) (by decide)
                refine g_iinc C [(12, .inl (x36 + 1)), (13, .inr (.inl (lShl 1 x36))), (0, .inr (.inr a0)), (1, .inr (.inr a1)), (2, .inr (.inl a2)), (4, .inr (.inl a3)), (6, .inl a4), (7, .inl a5), (8, .inr (.inl r20)), (10, .inr (.inl x35))] 9 rfl (by decide) rfl dX6_weigh_143 ?_
                refine g_goto C 49 (by decide) dX6_weigh_146 ?_
                refine GW.sub [2, 3, 4, 5, 6, 7, 8, 9, 0] rfl ?_
                exact ih39 _ (by omega) x35 (x36 + 1) h37 rfl O41 F42 f43 (iw f65 (by decide) (by decide))
              · have q66 : (lAnd x35 (lShl 1 x36)) = (0 : Int) := lC_eq.mp q63
                have f67 : (0 : Int) ≤ (lAnd x35 (lShl 1 x36)) ∧ (lAnd x35 (lShl 1 x36)) ≤ (0 : Int) := ii f60 (r_eq (il 0) q66) (by decide) (by decide)
                refine g_aload_n C rfl 2 rfl dX6_weigh_84 ?_
                refine g_iload C 5 rfl dX6_weigh_85 ?_
                refine g_aload_n C rfl 1 rfl dX6_weigh_87 ?_
                have e68 : Rv h37 a0 1 = v1 := ((fxR F42 e26 rfl).trans ((fxR F25 ta0 rfl).trans e2))
                refine gf_R C fk_LandSurvey_Search_38 rfl e45 e68 dX6_weigh_88 ?_
                refine g_iload C 9 rfl dX6_weigh_91 ?_
                have e69 : Tg h37 v1 = 38104 := (fxT F42 (fxT F25 t3))
                have e70 : Tg h21 v1 = 38104 := (fxT F25 t3)
                have e71 : Ln h37 v1 = 40 := ((fxL F42 e70).trans ((fxL F25 t3).trans l4))
                obtain ⟨v72, e73⟩ : ∃ z, Rv h37 v1 x36.toNat = z := ⟨_, rfl⟩
                refine g_aald (t := 4) C e69 rfl (by decide) rfl e71 (ix f49 (by decide) (by decide)) e73 dX6_weigh_93 ?_
                have p74 := (SOK_fx O24 F42 e70 rfl rfl rfl (SOK_fx O F25 t3 rfl rfl rfl p15))
                have q75 := nn_get p74.nn (by omega) e73
                have t76 := ok_Na O41 e69 ar_38104 rE_38104_0 e73 q75
                obtain ⟨v77, e78⟩ : ∃ z, Iv h37 v72 15 = z := ⟨_, rfl⟩
                have f79 := ok_I O41 t76 rI_9_15 e78
                refine gf_I C fk_LandSurvey_Search_104 rfl t76 e78 dX6_weigh_94 ?_
                have f80 : (-2147483648 : Int) ≤ (w32 (a4 + v77)) ∧ (w32 (a4 + v77)) ≤ (2147483647 : Int) := w32_inR _
                refine g_iaddW C dX6_weigh_97 ?_
                refine g_lload_n C rfl 3 rfl dX6_weigh_98 ?_
                refine g_lload C 0 rfl dX6_weigh_99 ?_
                refine g_lor C dX6_weigh_101 ?_
                have f81 : (-9223372036854775808 : Int) ≤ (lOr a2 (lShl 1 x36)) ∧ (lOr a2 (lShl 1 x36)) ≤ (9223372036854775807 : Int) := inL_of _
                have e82 : Tg h37 a1 = 2 := (fxT F42 (fxT F25 ta1))
                refine g_callI (st := []) (gc_S C lk_LandSurvey_Search_107 (k_X6_isBetter l D cy w z0 O41 e82 f80 f81) rfl ⟨by decide, by decide⟩ (Nat.le_of_ble_eq_true rfl) dX6_weigh_102 ⟨(by decide), (by decide)⟩) (fun r83 h84 f86 K85 => ?_)
                obtain ⟨O87, F88, f89⟩ := K85
                refine g_if_eq C (iw f89 (by decide) (by decide)) 136 (by decide) dX6_weigh_105 (fun q90 => ?_) (fun q91 => ?_)
                · have f92 : (0 : Int) ≤ r83 ∧ r83 ≤ (0 : Int) := ii f89 (r_eq (il 0) q90) (by decide) (by decide)
                  refine g_lload C 8 rfl dX6_weigh_136 ?_
                  refine g_lload C 0 rfl dX6_weigh_138 ?_
                  refine g_lor C dX6_weigh_140 ?_
                  have f93 : (-9223372036854775808 : Int) ≤ (lOr x35 (lShl 1 x36)) ∧ (lOr x35 (lShl 1 x36)) ≤ (9223372036854775807 : Int) := inL_of _
                  refine g_lstore C [(10, .inr (.inl (lOr x35 (lShl 1 x36)))), (13, .inr (.inl (lShl 1 x36))), (0, .inr (.inr a0)), (1, .inr (.inr a1)), (2, .inr (.inl a2)), (4, .inr (.inl a3)), (6, .inl a4), (7, .inl a5), (8, .inr (.inl r20)), (12, .inl x36)] (by decide) rfl dX6_weigh_141 ?_
                  have f94 : (1 : Int) ≤ (x36 + 1) ∧ (x36 + 1) ≤ (40 : Int) := ia_add f49 (il 1) (by decide) (by decide)
                  refine g_iinc C [(12, .inl (x36 + 1)), (10, .inr (.inl (lOr x35 (lShl 1 x36)))), (13, .inr (.inl (lShl 1 x36))), (0, .inr (.inr a0)), (1, .inr (.inr a1)), (2, .inr (.inl a2)), (4, .inr (.inl a3)), (6, .inl a4), (7, .inl a5), (8, .inr (.inl r20))] 9 rfl (by decide) rfl dX6_weigh_143 ?_
                  refine g_goto C 49 (by decide) dX6_weigh_146 ?_
                  refine GW.sub [3, 4, 5, 6, 7, 8, 9, 1, 0] rfl ?_
                  exact ih39 _ (by omega) (lOr x35 (lShl 1 x36)) (x36 + 1) h84 rfl O87 (F42.call F88 rfl) f93 (iw f94 (by decide) (by decide))
                · have f95 : (1 : Int) ≤ r83 ∧ r83 ≤ (1 : Int) := r_nl f89 q91
                  refine g_aload_n C rfl 1 rfl dX6_weigh_108 ?_
                  refine g_aload_n C rfl 2 rfl dX6_weigh_109 ?_
                  refine g_lload_n C rfl 3 rfl dX6_weigh_110 ?_
                  refine g_lload C 0 rfl dX6_weigh_111 ?_
                  refine g_lor C dX6_weigh_113 ?_
                  refine g_lload C 8 rfl dX6_weigh_114 ?_
                  refine g_iload C 5 rfl dX6_weigh_116 ?_
                  refine g_aload_n C rfl 1 rfl dX6_weigh_118 ?_
                  have e96 : Tg h84 a0 = 7 := (fxT F88 e45)
                  have e97 : Rv h84 a0 1 = v1 := ((fxR F88 e45 rfl).trans e68)
                  refine gf_R C fk_LandSurvey_Search_38 rfl e96 e97 dX6_weigh_119 ?_
                  refine g_iload C 9 rfl dX6_weigh_122 ?_
                  have e98 : Tg h84 v1 = 38104 := (fxT F88 e69)
                  have e99 : Ln h84 v1 = 40 := ((fxL F88 e69).trans e71)
                  have e100 : Rv h84 v1 x36.toNat = v72 := ((fxRa F88 e69 ar_38104 rfl).trans e73)
                  refine g_aald (t := 4) C e98 rfl (by decide) rfl e99 (ix f49 (by decide) (by decide)) e100 dX6_weigh_124 ?_
                  have e101 : Tg h84 v72 = 9 := (fxT F88 t76)
                  have e102 : Iv h84 v72 15 = v77 := ((fxI F88 t76 rfl).trans e78)
                  refine gf_I C fk_LandSurvey_Search_104 rfl e101 e102 dX6_weigh_125 ?_
                  refine g_iaddW C dX6_weigh_128 ?_
                  refine g_iload C 6 rfl dX6_weigh_129 ?_
                  refine g_iconst C dX6_weigh_131 ?_
                  have f103 : (2 : Int) ≤ (a5 + 1) ∧ (a5 + 1) ≤ (2 : Int) := ia_add fa5 (il 1) (by decide) (by decide)
                  refine g_iadd C dX6_weigh_132 ?_
                  have e104 : Tg h84 a1 = 2 := (fxT F88 e82)
                  have e105 : Rv h84 a0 2 = v8 := ((fxR F88 e45 rfl).trans ((fxR F42 e26 rfl).trans ((fxR F25 ta0 rfl).trans e9)))
                  have e106 : Iv h84 a0 3 = v5 := ((fxI F88 e45 rfl).trans e46)
                  have e107 : Iv h84 a0 4 = v12 := ((fxI F88 e45 rfl).trans ((fxI F42 e26 rfl).trans ((fxI F25 ta0 rfl).trans e13)))
                  have p108 := (SOK_fx O41 F88 e69 rfl rfl rfl p74)
                  have e109 : Tg h21 v8 = 39105 := (fxT F25 t10)
                  have e110 : Tg h37 v8 = 39105 := (fxT F42 e109)
                  have p111 := (BOK_fx O41 F88 e110 rfl rfl rfl rfl (BOK_fx O24 F42 e109 rfl rfl rfl rfl (BOK_fx O F25 t10 rfl rfl rfl rfl p16)))
                  refine g_callV (st := []) (gc_V C lk_LandSurvey_Search_76 (k_weigh_2 l D cy w z0 O87 e96 e104 f81 f43 f80 f103 ⟨by rw [e97, e106]; exact p108, by rw [e105, e107]; exact p111⟩) e96 rfl rfl rfl ⟨by decide, by decide⟩ (Nat.le_of_ble_eq_true rfl) dX6_weigh_133 ⟨(by decide), (by decide)⟩) (fun h113 K114 => ?_)
                  obtain ⟨O116, F117⟩ := K114
                  refine g_lload C 8 rfl dX6_weigh_136 ?_
                  refine g_lload C 0 rfl dX6_weigh_138 ?_
                  refine g_lor C dX6_weigh_140 ?_
                  have f118 : (-9223372036854775808 : Int) ≤ (lOr x35 (lShl 1 x36)) ∧ (lOr x35 (lShl 1 x36)) ≤ (9223372036854775807 : Int) := inL_of _
                  refine g_lstore C [(10, .inr (.inl (lOr x35 (lShl 1 x36)))), (13, .inr (.inl (lShl 1 x36))), (0, .inr (.inr a0)), (1, .inr (.inr a1)), (2, .inr (.inl a2)), (4, .inr (.inl a3)), (6, .inl a4), (7, .inl a5), (8, .inr (.inl r20)), (12, .inl x36)] (by decide) rfl dX6_weigh_141 ?_
                  have f119 : (1 : Int) ≤ (x36 + 1) ∧ (x36 + 1) ≤ (40 : Int) := ia_add f49 (il 1) (by decide) (by decide)
                  refine g_iinc C [(12, .inl (x36 + 1)), (10, .inr (.inl (lOr x35 (lShl 1 x36)))), (13, .inr (.inl (lShl 1 x36))), (0, .inr (.inr a0)), (1, .inr (.inr a1)), (2, .inr (.inl a2)), (4, .inr (.inl a3)), (6, .inl a4), (7, .inl a5), (8, .inr (.inl r20))] 9 rfl (by decide) rfl dX6_weigh_143 ?_
                  refine g_goto C 49 (by decide) dX6_weigh_146 ?_
                  refine GW.sub [3, 4, 5, 6, 7, 8, 9, 1, 0] rfl ?_
                  exact ih39 _ (by omega) (lOr x35 (lShl 1 x36)) (x36 + 1) h113 rfl O116 ((F42.call F88 rfl).call F117 rfl) f118 (iw f119 (by decide) (by decide))
      exact L38 _ a3 0 h21 rfl O24 Fx.rf fa3 (iw (il 0) (by decide) (by decide))
    · exact (no_le (il 3) fa5 q34 (by decide)).elim
  · have f120 : (1 : Int) ≤ v27 ∧ v27 ≤ (1 : Int) := r_nl f29 q31
    refine g_aload_n C rfl 2 rfl dX6_weigh_18 ?_
    refine g_iconst C dX6_weigh_19 ?_
    have e121 : Tg h21 a1 = 2 := (fxT F25 ta1)
    refine gp_I C fk_LandSurvey_Search_62 pk_LandSurvey_Ground_2 rfl e121 (iw (il 1) (by decide) (by decide)) (nar_z2 (iw (il 1) (by decide) (by decide))) dX6_weigh_20 (fun h123 hh122 => ?_)
    have O124 := O24.pI e121 hh122 rI_2_2 (iw (il 1) (by decide) (by decide)) nofun
    refine g_aload_n C rfl 2 rfl dX6_weigh_23 ?_
    refine g_iload C 5 rfl dX6_weigh_24 ?_
    have e125 : Tg h123 a1 = 2 := ((pIT hh122).trans e121)
    refine gp_I C fk_LandSurvey_Search_103 pk_LandSurvey_Ground_3 rfl e125 fa4 (nf_i _) dX6_weigh_26 (fun h127 hh126 => ?_)
    have O128 := O124.pI e125 hh126 rI_2_3 fa4 nofun
    refine g_aload_n C rfl 2 rfl dX6_weigh_29 ?_
    refine g_lload_n C rfl 3 rfl dX6_weigh_30 ?_
    have e129 : Tg h127 a1 = 2 := ((pIT hh126).trans e125)
    refine gp_J C fk_LandSurvey_Search_80 pk_LandSurvey_Ground_4 rfl e129 rfl fa2 dX6_weigh_31 (fun h131 hh130 => ?_)
    have O132 := O128.pJ hh130 fa2
    exact g_vret C hr ⟨O132, (((((Fx.rf (wr := wr_k_weigh_1)).call F25 rfl).pI e121 hh122 rfl).pI e125 hh126 rfl).pJ e129 hh130 rfl)⟩ (by decide) (by decide) dX6_weigh_34
def wr_k_weigh_0 : List Nat := [402, 403, 404, 1412, 2003, 8020000, 8220400, 8420400, 8620000, 9020000, 9220400, 9420000]
set_option maxRecDepth 100000 in
set_option maxHeartbeats 4000000 in
theorem k_weigh_0 (l : Launch) (D : va_G) (cy : Nat → ClassId) (w : Nat → Nat) (z0 : Nat)  {h : Hp} {a0 : Nat} {a1 : Nat} {a2 : Int} {a3 : Int} {a4 : Int} {a5 : Int}  (O : Okh h) (ta0 : Tg h a0 = 7) (ta1 : Tg h a1 = 2) (fa2 : (-9223372036854775808) ≤ a2 ∧ a2 ≤ 9223372036854775807) (fa3 : (-9223372036854775808) ≤ a3 ∧ a3 ≤ 9223372036854775807) (fa4 : (-2147483648) ≤ a4 ∧ a4 ≤ 2147483647) (fa5 : 0 ≤ a5 ∧ a5 ≤ 0) (P_SInv : SInv h a0) : MV l D cy w z0 yX6_weigh cX6_weigh 15 none 7 200 0 0 [.inr (.inr a0), .inr (.inr a1), .inr (.inl a2), .inr (.inl a3), .inl a4, .inl a5] h (fun h1 => Okh h1 ∧ Fx wr_k_weigh_0 h h1) := by
  obtain ⟨v1, e2⟩ : ∃ z, Rv h a0 1 = z := ⟨_, rfl⟩
  have t3 := ok_R O ta0 rE_7_1 e2
  have l4 := ok_L O ta0 rE_7_1 e2
  obtain ⟨v5, e6⟩ : ∃ z, Iv h a0 3 = z := ⟨_, rfl⟩
  have f7 := ok_I O ta0 rI_7_3 e6
  obtain ⟨v8, e9⟩ : ∃ z, Rv h a0 2 = z := ⟨_, rfl⟩
  have t10 := ok_R O ta0 rE_7_2 e9
  have l11 := ok_L O ta0 rE_7_2 e9
  obtain ⟨v12, e13⟩ : ∃ z, Iv h a0 4 = z := ⟨_, rfl⟩
  have f14 := ok_I O ta0 rI_7_4 e13
  have p15 : SOK h v1 v5 := by have z := P_SInv.1; rw [e2, e6] at z; exact z
  have p16 : BOK h v8 v12 := by have z := P_SInv.2; rw [e9, e13] at z; exact z
  refine hm_go (by decide +kernel) (Nat.le_of_ble_eq_true rfl) (fun p e s m below meth c C hr hn => ?_)
  refine g_aload_n C rfl 0 rfl dX6_weigh_0 ?_
  refine g_aload_n C rfl 1 rfl dX6_weigh_1 ?_
  obtain ⟨v17, e18⟩ : ∃ z, Iv h a1 0 = z := ⟨_, rfl⟩
  have f19 := ok_I O ta1 rI_2_0 e18
  refine gf_I C fk_LandSurvey_Search_68 rfl ta1 e18 dX6_weigh_2 ?_
  refine g_lload_n C rfl 2 rfl dX6_weigh_5 ?_
  refine g_callJ (st := []) (gc_V C lk_LandSurvey_Search_96 (k_X6_findClash l D cy w z0 O ta0 (iw f19 (by decide) (by decide)) fa2 ⟨by rw [e2, e6]; exact p15, by rw [e9, e13]; exact p16⟩) ta0 rfl rfl rfl ⟨by decide, by decide⟩ (Nat.le_of_ble_eq_true rfl) dX6_weigh_6 ⟨(by decide), (by decide)⟩) (fun r20 h21 f23 K22 => ?_)
  obtain ⟨O24, F25⟩ := K22
  refine g_lstore C [(8, .inr (.inl r20)), (0, .inr (.inr a0)), (1, .inr (.inr a1)), (2, .inr (.inl a2)), (4, .inr (.inl a3)), (6, .inl a4), (7, .inl a5)] (by decide) rfl dX6_weigh_9 ?_
  refine g_aload_n C rfl 1 rfl dX6_weigh_11 ?_
  have e26 : Tg h21 a0 = 7 := (fxT F25 ta0)
  obtain ⟨v27, e28⟩ : ∃ z, Iv h21 a0 12 = z := ⟨_, rfl⟩
  have f29 := ok_I O24 e26 rI_7_12 e28
  refine gf_I C fk_LandSurvey_Search_100 rfl e26 e28 dX6_weigh_12 ?_
  refine g_if_eq C (iw f29 (by decide) (by decide)) 35 (by decide) dX6_weigh_15 (fun q30 => ?_) (fun q31 => ?_)
  · have f32 : (0 : Int) ≤ v27 ∧ v27 ≤ (0 : Int) := ii f29 (r_eq (il 0) q30) (by decide) (by decide)
    refine g_iload C 6 rfl dX6_weigh_35 ?_
    refine g_iconst C dX6_weigh_37 ?_
    refine g_icmp_lt C (iw fa5 (by decide) (by decide)) (iw (il 3) (by decide) (by decide)) 42 (by decide) dX6_weigh_38 (fun q33 => ?_) (fun q34 => ?_)
    · refine g_lload C 4 rfl dX6_weigh_42 ?_
      refine g_lstore C [(10, .inr (.inl a3)), (8, .inr (.inl r20)), (0, .inr (.inr a0)), (1, .inr (.inr a1)), (2, .inr (.inl a2)), (4, .inr (.inl a3)), (6, .inl a4), (7, .inl a5)] (by decide) rfl dX6_weigh_44 ?_
      refine g_iconst C dX6_weigh_46 ?_
      refine g_istore C [(12, .inl 0), (10, .inr (.inl a3)), (8, .inr (.inl r20)), (0, .inr (.inr a0)), (1, .inr (.inr a1)), (2, .inr (.inl a2)), (4, .inr (.inl a3)), (6, .inl a4), (7, .inl a5)] (by decide) rfl dX6_weigh_47 ?_
      refine GW.sub [3, 4, 5, 6, 7, 8, 2, 1, 0] rfl ?_
      -- loop at 49
      have L38 : ∀ (μ : Nat) (x35 : Int) (x36 : Int) (h37 : Hp), (40 - x36).toNat = μ → Okh h37 → Fx [402, 403, 404, 1412, 2003, 8020000, 8220400, 8420400, 8620000, 9020000, 9220400, 9420000] h21 h37 → ((-9223372036854775808 : Int) ≤ x35 ∧ x35 ≤ (9223372036854775807 : Int)) → ((0 : Int) ≤ x36 ∧ x36 ≤ (40 : Int)) → GW p l e (rmm 7 200 0 0) s m (List.map toV [.inr (.inr a0), .inr (.inr a1), .inr (.inl a2), .inr (.inl a3), .inl a4, .inl a5]).toArray below meth c D cy z0 15 (MQ below (QV D cy z0 (fun h1 => Okh h1 ∧ Fx wr_k_weigh_0 h h1)) (List.map toV [.inr (.inr a0), .inr (.inr a1), .inr (.inl a2), .inr (.inl a3), .inl a4, .inl a5]).toArray s 0 0 (Aof z0)) 49 [(0, .inr (.inr a0)), (1, .inr (.inr a1)), (2, .inr (.inl a2)), (4, .inr (.inl a3)), (6, .inl a4), (7, .inl a5), (8, .inr (.inl r20)), (10, .inr (.inl x35)), (12, .inl x36)] [] h37 0 0 := by
        intro μ
        induction μ using Nat.strongRecOn with
        | ind μ ih39 =>
          intro x35 x36 h37 hm40 O41 F42 f43 f44
          refine g_iload C 8 rfl dX6_weigh_49 ?_
          refine g_aload_n C rfl 0 rfl dX6_weigh_51 ?_
          have e45 : Tg h37 a0 = 7 := (fxT F42 e26)
          have e46 : Iv h37 a0 3 = v5 := ((fxI F42 e26 rfl).trans ((fxI F25 ta0 rfl).trans e6))
          refine gf_I C fk_LandSurvey_Search_46 rfl e45 e46 dX6_weigh_52 ?_
          refine g_icmp_ge C (iw f44 (by decide) (by decide)) (iw f7 (by decide) (by decide)) 149 (by decide) dX6_weigh_55 (fun q47 => ?_) (fun q48 => ?_)
          · exact g_vret C hr ⟨O41, (((Fx.rf (wr := wr_k_weigh_0)).call F25 rfl).call F42 rfl)⟩ (by decide) (by decide) dX6_weigh_149
          · have f49 : (0 : Int) ≤ x36 ∧ x36 ≤ (39 : Int) := r_lt f44 f7 q48 (by decide) (by decide)
            have f50 : (1 : Int) ≤ v5 ∧ v5 ≤ (40 : Int) := r_gt f7 f44 q48 (by decide) (by decide)
            refine g_lconst (z := 1) C (by decide) dX6_weigh_58 ?_
            refine g_iload C 8 rfl dX6_weigh_59 ?_
            refine g_lshl C dX6_weigh_61 ?_
            have f51 : (-9223372036854775808 : Int) ≤ (lShl 1 x36) ∧ (lShl 1 x36) ≤ (9223372036854775807 : Int) := inL_of _
            refine g_lstore C [(13, .inr (.inl (lShl 1 x36))), (0, .inr (.inr a0)), (1, .inr (.inr a1)), (2, .inr (.inl a2)), (4, .inr (.inl a3)), (6, .inl a4), (7, .inl a5), (8, .inr (.inl r20)), (10, .inr (.inl x35)), (12, .inl x36)] (by decide) rfl dX6_weigh_62 ?_
            refine g_lload C 7 rfl dX6_weigh_64 ?_
            refine g_lload C 0 rfl dX6_weigh_66 ?_
            refine g_land C dX6_weigh_68 ?_
            have f52 : (-9223372036854775808 : Int) ≤ (lAnd r20 (lShl 1 x36)) ∧ (lAnd r20 (lShl 1 x36)) ≤ (9223372036854775807 : Int) := inL_of _
            refine g_lconst (z := 0) C (by decide) dX6_weigh_69 ?_
            refine g_lcmp C f52 (iw (il 0) (by decide) (by decide)) dX6_weigh_70 ?_
            have f53 : (-1 : Int) ≤ (lC (lAnd r20 (lShl 1 x36)) 0) ∧ (lC (lAnd r20 (lShl 1 x36)) 0) ≤ (1 : Int) := lC_rng _ _
            refine g_if_eq C (iw f53 (by decide) (by decide)) 143 (by decide) dX6_weigh_71 (fun q54 => ?_) (fun q55 => ?_)
            · have q56 : (lAnd r20 (lShl 1 x36)) = (0 : Int) := lC_eq.mp q54
              have f57 : (0 : Int) ≤ (lAnd r20 (lShl 1 x36)) ∧ (lAnd r20 (lShl 1 x36)) ≤ (0 : Int) := ii f52 (r_eq (il 0) q56) (by decide) (by decide)
              have f58 : (1 : Int) ≤ (x36 + 1) ∧ (x36 + 1) ≤ (40 : Int) := ia_add f49 (il 1) (by decide) (by decide)
              refine g_iinc C [(12, .inl (x36 + 1)), (13, .inr (.inl (lShl 1 x36))), (0, .inr (.inr a0)), (1, .inr (.inr a1)), (2, .inr (.inl a2)), (4, .inr (.inl a3)), (6, .inl a4), (7, .inl a5), (8, .inr (.inl r20)), (10, .inr (.inl x35))] 9 rfl (by decide) rfl dX6_weigh_143 ?_
              refine g_goto C 49 (by decide) dX6_weigh_146 ?_
              refine GW.sub [2, 3, 4, 5, 6, 7, 8, 9, 0] rfl ?_
              exact ih39 _ (by omega) x35 (x36 + 1) h37 rfl O41 F42 f43 (iw f58 (by decide) (by decide))
            · have q59 : ¬ (lAnd r20 (lShl 1 x36)) = (0 : Int) := fun z => q55 (lC_eq.mpr z)
              refine g_lload C 8 rfl dX6_weigh_74 ?_
              refine g_lload C 0 rfl dX6_weigh_76 ?_
              refine g_land C dX6_weigh_78 ?_
              have f60 : (-9223372036854775808 : Int) ≤ (lAnd x35 (lShl 1 x36)) ∧ (lAnd x35 (lShl 1 x36)) ≤ (9223372036854775807 : Int) := inL_of _
              refine g_lconst (z := 0) C (by decide) dX6_weigh_79 ?_
              refine g_lcmp C f60 (iw (il 0) (by decide) (by decide)) dX6_weigh_80 ?_
              have f61 : (-1 : Int) ≤ (lC (lAnd x35 (lShl 1 x36)) 0) ∧ (lC (lAnd x35 (lShl 1 x36)) 0) ≤ (1 : Int) := lC_rng _ _
              refine g_if_ne C (iw f61 (by decide) (by decide)) 143 (by decide) dX6_weigh_81 (fun q62 => ?_) (fun q63 => ?_)
              · have q64 : ¬ (lAnd x35 (lShl 1 x36)) = (0 : Int) := fun z => q62 (lC_eq.mpr z)
                have f65 : (1 : Int) ≤ (x36 + 1) ∧ (x36 + 1) ≤ (40 : Int) := ia_add f49 (il 1) (by decide) (by decide)
                refine g_iinc C [(12, .inl (x36 + 1)), (13, .inr (.inl (lShl 1 x36))), (0, .inr (.inr a0)), (1, .inr (.inr a1)), (2, .inr (.inl a2)), (4, .inr (.inl a3)), (6, .inl a4), (7, .inl a5), (8, .inr (.inl r20)), (10, .inr (.inl x35))] 9 rfl (by decide) rfl dX6_weigh_143 ?_
                refine g_goto C 49 (by decide) dX6_weigh_146 ?_
                refine GW.sub [2, 3, 4, 5, 6, 7, 8, 9, 0] rfl ?_
                exact ih39 _ (by omega) x35 (x36 + 1) h37 rfl O41 F42 f43 (iw f65 (by decide) (by decide))
              · have q66 : (lAnd x35 (lShl 1 x36)) = (0 : Int) := lC_eq.mp q63
                have f67 : (0 : Int) ≤ (lAnd x35 (lShl 1 x36)) ∧ (lAnd x35 (lShl 1 x36)) ≤ (0 : Int) := ii f60 (r_eq (il 0) q66) (by decide) (by decide)
                refine g_aload_n C rfl 2 rfl dX6_weigh_84 ?_
                refine g_iload C 5 rfl dX6_weigh_85 ?_
                refine g_aload_n C rfl 1 rfl dX6_weigh_87 ?_
                have e68 : Rv h37 a0 1 = v1 := ((fxR F42 e26 rfl).trans ((fxR F25 ta0 rfl).trans e2))
                refine gf_R C fk_LandSurvey_Search_38 rfl e45 e68 dX6_weigh_88 ?_
                refine g_iload C 9 rfl dX6_weigh_91 ?_
                have e69 : Tg h37 v1 = 38104 := (fxT F42 (fxT F25 t3))
                have e70 : Tg h21 v1 = 38104 := (fxT F25 t3)
                have e71 : Ln h37 v1 = 40 := ((fxL F42 e70).trans ((fxL F25 t3).trans l4))
                obtain ⟨v72, e73⟩ : ∃ z, Rv h37 v1 x36.toNat = z := ⟨_, rfl⟩
                refine g_aald (t := 4) C e69 rfl (by decide) rfl e71 (ix f49 (by decide) (by decide)) e73 dX6_weigh_93 ?_
                have p74 := (SOK_fx O24 F42 e70 rfl rfl rfl (SOK_fx O F25 t3 rfl rfl rfl p15))
                have q75 := nn_get p74.nn (by omega) e73
                have t76 := ok_Na O41 e69 ar_38104 rE_38104_0 e73 q75
                obtain ⟨v77, e78⟩ : ∃ z, Iv h37 v72 15 = z := ⟨_, rfl⟩
                have f79 := ok_I O41 t76 rI_9_15 e78
                refine gf_I C fk_LandSurvey_Search_104 rfl t76 e78 dX6_weigh_94 ?_
                have f80 : (-2147483648 : Int) ≤ (w32 (a4 + v77)) ∧ (w32 (a4 + v77)) ≤ (2147483647 : Int) := w32_inR _
                refine g_iaddW C dX6_weigh_97 ?_
                refine g_lload_n C rfl 3 rfl dX6_weigh_98 ?_
                refine g_lload C 0 rfl dX6_weigh_99 ?_
                refine g_lor C dX6_weigh_101 ?_
                have f81 : (-9223372036854775808 : Int) ≤ (lOr a2 (lShl 1 x36)) ∧ (lOr a2 (lShl 1 x36)) ≤ (9223372036854775807 : Int) := inL_of _
                have e82 : Tg h37 a1 = 2 := (fxT F42 (fxT F25 ta1))
                refine g_callI (st := []) (gc_S C lk_LandSurvey_Search_107 (k_X6_isBetter l D cy w z0 O41 e82 f80 f81) rfl ⟨by decide, by decide⟩ (Nat.le_of_ble_eq_true rfl) dX6_weigh_102 ⟨(by decide), (by decide)⟩) (fun r83 h84 f86 K85 => ?_)
                obtain ⟨O87, F88, f89⟩ := K85
                refine g_if_eq C (iw f89 (by decide) (by decide)) 136 (by decide) dX6_weigh_105 (fun q90 => ?_) (fun q91 => ?_)
                · have f92 : (0 : Int) ≤ r83 ∧ r83 ≤ (0 : Int) := ii f89 (r_eq (il 0) q90) (by decide) (by decide)
                  refine g_lload C 8 rfl dX6_weigh_136 ?_
                  refine g_lload C 0 rfl dX6_weigh_138 ?_
                  refine g_lor C dX6_weigh_140 ?_
                  have f93 : (-9223372036854775808 : Int) ≤ (lOr x35 (lShl 1 x36)) ∧ (lOr x35 (lShl 1 x36)) ≤ (9223372036854775807 : Int) := inL_of _
                  refine g_lstore C [(10, .inr (.inl (lOr x35 (lShl 1 x36)))), (13, .inr (.inl (lShl 1 x36))), (0, .inr (.inr a0)), (1, .inr (.inr a1)), (2, .inr (.inl a2)), (4, .inr (.inl a3)), (6, .inl a4), (7, .inl a5), (8, .inr (.inl r20)), (12, .inl x36)] (by decide) rfl dX6_weigh_141 ?_
                  have f94 : (1 : Int) ≤ (x36 + 1) ∧ (x36 + 1) ≤ (40 : Int) := ia_add f49 (il 1) (by decide) (by decide)
                  refine g_iinc C [(12, .inl (x36 + 1)), (10, .inr (.inl (lOr x35 (lShl 1 x36)))), (13, .inr (.inl (lShl 1 x36))), (0, .inr (.inr a0)), (1, .inr (.inr a1)), (2, .inr (.inl a2)), (4, .inr (.inl a3)), (6, .inl a4), (7, .inl a5), (8, .inr (.inl r20))] 9 rfl (by decide) rfl dX6_weigh_143 ?_
                  refine g_goto C 49 (by decide) dX6_weigh_146 ?_
                  refine GW.sub [3, 4, 5, 6, 7, 8, 9, 1, 0] rfl ?_
                  exact ih39 _ (by omega) (lOr x35 (lShl 1 x36)) (x36 + 1) h84 rfl O87 (F42.call F88 rfl) f93 (iw f94 (by decide) (by decide))
                · have f95 : (1 : Int) ≤ r83 ∧ r83 ≤ (1 : Int) := r_nl f89 q91
                  refine g_aload_n C rfl 1 rfl dX6_weigh_108 ?_
                  refine g_aload_n C rfl 2 rfl dX6_weigh_109 ?_
                  refine g_lload_n C rfl 3 rfl dX6_weigh_110 ?_
                  refine g_lload C 0 rfl dX6_weigh_111 ?_
                  refine g_lor C dX6_weigh_113 ?_
                  refine g_lload C 8 rfl dX6_weigh_114 ?_
                  refine g_iload C 5 rfl dX6_weigh_116 ?_
                  refine g_aload_n C rfl 1 rfl dX6_weigh_118 ?_
                  have e96 : Tg h84 a0 = 7 := (fxT F88 e45)
                  have e97 : Rv h84 a0 1 = v1 := ((fxR F88 e45 rfl).trans e68)
                  refine gf_R C fk_LandSurvey_Search_38 rfl e96 e97 dX6_weigh_119 ?_
                  refine g_iload C 9 rfl dX6_weigh_122 ?_
                  have e98 : Tg h84 v1 = 38104 := (fxT F88 e69)
                  have e99 : Ln h84 v1 = 40 := ((fxL F88 e69).trans e71)
                  have e100 : Rv h84 v1 x36.toNat = v72 := ((fxRa F88 e69 ar_38104 rfl).trans e73)
                  refine g_aald (t := 4) C e98 rfl (by decide) rfl e99 (ix f49 (by decide) (by decide)) e100 dX6_weigh_124 ?_
                  have e101 : Tg h84 v72 = 9 := (fxT F88 t76)
                  have e102 : Iv h84 v72 15 = v77 := ((fxI F88 t76 rfl).trans e78)
                  refine gf_I C fk_LandSurvey_Search_104 rfl e101 e102 dX6_weigh_125 ?_
                  refine g_iaddW C dX6_weigh_128 ?_
                  refine g_iload C 6 rfl dX6_weigh_129 ?_
                  refine g_iconst C dX6_weigh_131 ?_
                  have f103 : (1 : Int) ≤ (a5 + 1) ∧ (a5 + 1) ≤ (1 : Int) := ia_add fa5 (il 1) (by decide) (by decide)
                  refine g_iadd C dX6_weigh_132 ?_
                  have e104 : Tg h84 a1 = 2 := (fxT F88 e82)
                  have e105 : Rv h84 a0 2 = v8 := ((fxR F88 e45 rfl).trans ((fxR F42 e26 rfl).trans ((fxR F25 ta0 rfl).trans e9)))
                  have e106 : Iv h84 a0 3 = v5 := ((fxI F88 e45 rfl).trans e46)
                  have e107 : Iv h84 a0 4 = v12 := ((fxI F88 e45 rfl).trans ((fxI F42 e26 rfl).trans ((fxI F25 ta0 rfl).trans e13)))
                  have p108 := (SOK_fx O41 F88 e69 rfl rfl rfl p74)
                  have e109 : Tg h21 v8 = 39105 := (fxT F25 t10)
                  have e110 : Tg h37 v8 = 39105 := (fxT F42 e109)
                  have p111 := (BOK_fx O41 F88 e110 rfl rfl rfl rfl (BOK_fx O24 F42 e109 rfl rfl rfl rfl (BOK_fx O F25 t10 rfl rfl rfl rfl p16)))
                  refine g_callV (st := []) (gc_V C lk_LandSurvey_Search_76 (k_weigh_1 l D cy w z0 O87 e96 e104 f81 f43 f80 f103 ⟨by rw [e97, e106]; exact p108, by rw [e105, e107]; exact p111⟩) e96 rfl rfl rfl ⟨by decide, by decide⟩ (Nat.le_of_ble_eq_true rfl) dX6_weigh_133 ⟨(by decide), (by decide)⟩) (fun h113 K114 => ?_)
                  obtain ⟨O116, F117⟩ := K114
                  refine g_lload C 8 rfl dX6_weigh_136 ?_
                  refine g_lload C 0 rfl dX6_weigh_138 ?_
                  refine g_lor C dX6_weigh_140 ?_
                  have f118 : (-9223372036854775808 : Int) ≤ (lOr x35 (lShl 1 x36)) ∧ (lOr x35 (lShl 1 x36)) ≤ (9223372036854775807 : Int) := inL_of _
                  refine g_lstore C [(10, .inr (.inl (lOr x35 (lShl 1 x36)))), (13, .inr (.inl (lShl 1 x36))), (0, .inr (.inr a0)), (1, .inr (.inr a1)), (2, .inr (.inl a2)), (4, .inr (.inl a3)), (6, .inl a4), (7, .inl a5), (8, .inr (.inl r20)), (12, .inl x36)] (by decide) rfl dX6_weigh_141 ?_
                  have f119 : (1 : Int) ≤ (x36 + 1) ∧ (x36 + 1) ≤ (40 : Int) := ia_add f49 (il 1) (by decide) (by decide)
                  refine g_iinc C [(12, .inl (x36 + 1)), (10, .inr (.inl (lOr x35 (lShl 1 x36)))), (13, .inr (.inl (lShl 1 x36))), (0, .inr (.inr a0)), (1, .inr (.inr a1)), (2, .inr (.inl a2)), (4, .inr (.inl a3)), (6, .inl a4), (7, .inl a5), (8, .inr (.inl r20))] 9 rfl (by decide) rfl dX6_weigh_143 ?_
                  refine g_goto C 49 (by decide) dX6_weigh_146 ?_
                  refine GW.sub [3, 4, 5, 6, 7, 8, 9, 1, 0] rfl ?_
                  exact ih39 _ (by omega) (lOr x35 (lShl 1 x36)) (x36 + 1) h113 rfl O116 ((F42.call F88 rfl).call F117 rfl) f118 (iw f119 (by decide) (by decide))
      exact L38 _ a3 0 h21 rfl O24 Fx.rf fa3 (iw (il 0) (by decide) (by decide))
    · exact (no_le (il 3) fa5 q34 (by decide)).elim
  · have f120 : (1 : Int) ≤ v27 ∧ v27 ≤ (1 : Int) := r_nl f29 q31
    refine g_aload_n C rfl 2 rfl dX6_weigh_18 ?_
    refine g_iconst C dX6_weigh_19 ?_
    have e121 : Tg h21 a1 = 2 := (fxT F25 ta1)
    refine gp_I C fk_LandSurvey_Search_62 pk_LandSurvey_Ground_2 rfl e121 (iw (il 1) (by decide) (by decide)) (nar_z2 (iw (il 1) (by decide) (by decide))) dX6_weigh_20 (fun h123 hh122 => ?_)
    have O124 := O24.pI e121 hh122 rI_2_2 (iw (il 1) (by decide) (by decide)) nofun
    refine g_aload_n C rfl 2 rfl dX6_weigh_23 ?_
    refine g_iload C 5 rfl dX6_weigh_24 ?_
    have e125 : Tg h123 a1 = 2 := ((pIT hh122).trans e121)
    refine gp_I C fk_LandSurvey_Search_103 pk_LandSurvey_Ground_3 rfl e125 fa4 (nf_i _) dX6_weigh_26 (fun h127 hh126 => ?_)
    have O128 := O124.pI e125 hh126 rI_2_3 fa4 nofun
    refine g_aload_n C rfl 2 rfl dX6_weigh_29 ?_
    refine g_lload_n C rfl 3 rfl dX6_weigh_30 ?_
    have e129 : Tg h127 a1 = 2 := ((pIT hh126).trans e125)
    refine gp_J C fk_LandSurvey_Search_80 pk_LandSurvey_Ground_4 rfl e129 rfl fa2 dX6_weigh_31 (fun h131 hh130 => ?_)
    have O132 := O128.pJ hh130 fa2
    exact g_vret C hr ⟨O132, (((((Fx.rf (wr := wr_k_weigh_0)).call F25 rfl).pI e121 hh122 rfl).pI e125 hh126 rfl).pJ e129 hh130 rfl)⟩ (by decide) (by decide) dX6_weigh_34
def wr_k_X6_solve : List Nat := [401, 402, 403, 404, 405, 406, 1412, 2003, 8020000, 8220400, 8420400, 8620000, 9020000, 9220400, 9420000]
set_option maxRecDepth 100000 in
set_option maxHeartbeats 4000000 in
theorem k_X6_solve (l : Launch) (D : va_G) (cy : Nat → ClassId) (w : Nat → Nat) (z0 : Nat)  {h : Hp} {a0 : Nat} {a1 : Nat}  (O : Okh h) (ta0 : Tg h a0 = 7) (ta1 : Tg h a1 = 2) (P_SInv : SInv h a0) : MV l D cy w z0 yX6_solve cX6_solve 4 none 8 234 0 0 [.inr (.inr a0), .inr (.inr a1)] h (fun h1 => Okh h1 ∧ Fx wr_k_X6_solve h h1) := by
  obtain ⟨v1, e2⟩ : ∃ z, Rv h a0 1 = z := ⟨_, rfl⟩
  have t3 := ok_R O ta0 rE_7_1 e2
  have l4 := ok_L O ta0 rE_7_1 e2
  obtain ⟨v5, e6⟩ : ∃ z, Iv h a0 3 = z := ⟨_, rfl⟩
  have f7 := ok_I O ta0 rI_7_3 e6
  obtain ⟨v8, e9⟩ : ∃ z, Rv h a0 2 = z := ⟨_, rfl⟩
  have t10 := ok_R O ta0 rE_7_2 e9
  have l11 := ok_L O ta0 rE_7_2 e9
  obtain ⟨v12, e13⟩ : ∃ z, Iv h a0 4 = z := ⟨_, rfl⟩
  have f14 := ok_I O ta0 rI_7_4 e13
  have p15 : SOK h v1 v5 := by have z := P_SInv.1; rw [e2, e6] at z; exact z
  have p16 : BOK h v8 v12 := by have z := P_SInv.2; rw [e9, e13] at z; exact z
  refine hm_go (by decide +kernel) (Nat.le_of_ble_eq_true rfl) (fun p e s m below meth c C hr hn => ?_)
  refine g_aload_n C rfl 1 rfl dX6_solve_0 ?_
  refine g_iconst C dX6_solve_1 ?_
  refine gp_I C fk_LandSurvey_Search_56 pk_LandSurvey_Ground_1 rfl ta1 (iw (il 1) (by decide) (by decide)) (nar_z2 (iw (il 1) (by decide) (by decide))) dX6_solve_2 (fun h18 hh17 => ?_)
  have O19 := O.pI ta1 hh17 rI_2_1 (iw (il 1) (by decide) (by decide)) nofun
  refine g_aload_n C rfl 1 rfl dX6_solve_5 ?_
  refine g_iconst C dX6_solve_6 ?_
  have e20 : Tg h18 a1 = 2 := ((pIT hh17).trans ta1)
  refine gp_I C fk_LandSurvey_Search_62 pk_LandSurvey_Ground_2 rfl e20 (iw (il 0) (by decide) (by decide)) (nar_z2 (iw (il 0) (by decide) (by decide))) dX6_solve_7 (fun h22 hh21 => ?_)
  have O23 := O19.pI e20 hh21 rI_2_2 (iw (il 0) (by decide) (by decide)) nofun
  refine g_aload_n C rfl 1 rfl dX6_solve_10 ?_
  refine g_iconst C dX6_solve_11 ?_
  have e24 : Tg h22 a1 = 2 := ((pIT hh21).trans e20)
  refine gp_I C fk_LandSurvey_Search_65 pk_LandSurvey_Ground_6 rfl e24 (iw (il 0) (by decide) (by decide)) (nar_z2 (iw (il 0) (by decide) (by decide))) dX6_solve_12 (fun h26 hh25 => ?_)
  have O27 := O23.pI e24 hh25 rI_2_6 (iw (il 0) (by decide) (by decide)) nofun
  refine g_iconst C dX6_solve_15 ?_
  refine g_istore_n C [(2, .inl 0), (0, .inr (.inr a0)), (1, .inr (.inr a1))] rfl (by decide) rfl dX6_solve_16 ?_
  refine g_iconst C dX6_solve_17 ?_
  refine g_istore_n C [(3, .inl 0), (2, .inl 0), (0, .inr (.inr a0)), (1, .inr (.inr a1))] rfl (by decide) rfl dX6_solve_18 ?_
  refine GW.sub [2, 3, 1, 0] rfl ?_
  -- loop at 19
  have L30 : ∀ (μ : Nat) (x28 : Int) (x29 : Int), (4 - x29).toNat = μ → ((-2147483648 : Int) ≤ x28 ∧ x28 ≤ (2147483647 : Int)) → ((0 : Int) ≤ x29 ∧ x29 ≤ (4 : Int)) → GW p l e (rmm 8 234 0 0) s m (List.map toV [.inr (.inr a0), .inr (.inr a1)]).toArray below meth c D cy z0 4 (MQ below (QV D cy z0 (fun h1 => Okh h1 ∧ Fx wr_k_X6_solve h h1)) (List.map toV [.inr (.inr a0), .inr (.inr a1)]).toArray s 0 0 (Aof z0)) 19 [(0, .inr (.inr a0)), (1, .inr (.inr a1)), (2, .inl x28), (3, .inl x29)] [] h26 0 0 := by
    intro μ
    induction μ using Nat.strongRecOn with
    | ind μ ih31 =>
      intro x28 x29 hm32 f33 f34
      refine g_iload_n C rfl 3 rfl dX6_solve_19 ?_
      refine g_aload_n C rfl 0 rfl dX6_solve_20 ?_
      have e35 : Tg h26 a0 = 7 := ((pIT hh25).trans ((pIT hh21).trans ((pIT hh17).trans ta0)))
      have e36 : Tg h18 a0 = 7 := ((pIT hh17).trans ta0)
      have e37 : Tg h22 a0 = 7 := ((pIT hh21).trans e36)
      have e38 : Iv h26 a0 4 = v12 := ((pI_n hh25 (ne_tag e37 e24 (by decide))).trans ((pI_n hh21 (ne_tag e36 e20 (by decide))).trans ((pI_n hh17 (ne_tag ta0 ta1 (by decide))).trans e13)))
      refine gf_I C fk_LandSurvey_Search_50 rfl e35 e38 dX6_solve_21 ?_
      refine g_icmp_ge C (iw f34 (by decide) (by decide)) (iw f14 (by decide) (by decide)) 60 (by decide) dX6_solve_24 (fun q39 => ?_) (fun q40 => ?_)
      · refine g_aload_n C rfl 0 rfl dX6_solve_60 ?_
        refine g_aload_n C rfl 1 rfl dX6_solve_61 ?_
        refine g_lconst (z := 0) C (by decide) dX6_solve_62 ?_
        refine g_lconst (z := 0) C (by decide) dX6_solve_63 ?_
        refine g_iload_n C rfl 2 rfl dX6_solve_64 ?_
        refine g_iconst C dX6_solve_65 ?_
        have e41 : Tg h26 a1 = 2 := ((pIT hh25).trans e24)
        have e42 : Rv h26 a0 1 = v1 := ((pIR hh25).trans ((pIR hh21).trans ((pIR hh17).trans e2)))
        have e43 : Rv h26 a0 2 = v8 := ((pIR hh25).trans ((pIR hh21).trans ((pIR hh17).trans e9)))
        have e44 : Iv h26 a0 3 = v5 := ((pI_n hh25 (ne_tag e37 e24 (by decide))).trans ((pI_n hh21 (ne_tag e36 e20 (by decide))).trans ((pI_n hh17 (ne_tag ta0 ta1 (by decide))).trans e6)))
        have e45 : Tg h18 v1 = 38104 := ((pIT hh17).trans t3)
        have e46 : Tg h22 v1 = 38104 := ((pIT hh21).trans e45)
        have p47 := (SOK_fx O23 ((Fx.rf (wr := [406]) (h := h22)).pI e24 hh25 rfl) e46 rfl rfl rfl (SOK_fx O19 ((Fx.rf (wr := [402]) (h := h18)).pI e20 hh21 rfl) e45 rfl rfl rfl (SOK_fx O ((Fx.rf (wr := [401]) (h := h)).pI ta1 hh17 rfl) t3 rfl rfl rfl p15)))
        have e48 : Tg h18 v8 = 39105 := ((pIT hh17).trans t10)
        have e49 : Tg h22 v8 = 39105 := ((pIT hh21).trans e48)
        have p50 := (BOK_fx O23 ((Fx.rf (wr := [406]) (h := h22)).pI e24 hh25 rfl) e49 rfl rfl rfl rfl (BOK_fx O19 ((Fx.rf (wr := [402]) (h := h18)).pI e20 hh21 rfl) e48 rfl rfl rfl rfl (BOK_fx O ((Fx.rf (wr := [401]) (h := h)).pI ta1 hh17 rfl) t10 rfl rfl rfl rfl p16)))
        refine g_callV (st := []) (gc_V C lk_LandSurvey_Search_76 (k_weigh_0 l D cy w z0 O27 e35 e41 (iw (il 0) (by decide) (by decide)) (iw (il 0) (by decide) (by decide)) f33 (il 0) ⟨by rw [e42, e44]; exact p47, by rw [e43, e38]; exact p50⟩) e35 rfl rfl rfl ⟨by decide, by decide⟩ (Nat.le_of_ble_eq_true rfl) dX6_solve_66 ⟨(by decide), (by decide)⟩) (fun h52 K53 => ?_)
        obtain ⟨O55, F56⟩ := K53
        refine g_aload_n C rfl 1 rfl dX6_solve_69 ?_
        refine g_aload_n C rfl 1 rfl dX6_solve_70 ?_
        have e57 : Tg h52 a1 = 2 := (fxT F56 e41)
        obtain ⟨v58, e59⟩ : ∃ z, Iv h52 a1 2 = z := ⟨_, rfl⟩
        have f60 := ok_I O55 e57 rI_2_2 e59
        refine gf_I C fk_LandSurvey_Search_62 rfl e57 e59 dX6_solve_71 ?_
        refine g_if_eq C (iw f60 (by decide) (by decide)) 92 (by decide) dX6_solve_74 (fun q61 => ?_) (fun q62 => ?_)
        · have f63 : (0 : Int) ≤ v58 ∧ v58 ≤ (0 : Int) := ii f60 (r_eq (il 0) q61) (by decide) (by decide)
          refine g_iconst C dX6_solve_92 ?_
          refine gp_I C fk_LandSurvey_Search_88 pk_LandSurvey_Ground_5 rfl e57 (iw (il 0) (by decide) (by decide)) (nar_z2 (iw (il 0) (by decide) (by decide))) dX6_solve_93 (fun h65 hh64 => ?_)
          have O66 := O55.pI e57 hh64 rI_2_5 (iw (il 0) (by decide) (by decide)) nofun
          exact g_vret C hr ⟨O66, ((((((Fx.rf (wr := wr_k_X6_solve)).pI ta1 hh17 rfl).pI e20 hh21 rfl).pI e24 hh25 rfl).call F56 rfl).pI e57 hh64 rfl)⟩ (by decide) (by decide) dX6_solve_96
        · have f67 : (1 : Int) ≤ v58 ∧ v58 ≤ (1 : Int) := r_nl f60 q62
          refine g_aload_n C rfl 0 rfl dX6_solve_77 ?_
          refine g_aload_n C rfl 1 rfl dX6_solve_78 ?_
          obtain ⟨v68, e69⟩ : ∃ z, Jv h52 a1 4 = z := ⟨_, rfl⟩
          have f70 := inL_J O55 e69
          refine gf_J C fk_LandSurvey_Search_80 rfl e57 e69 dX6_solve_79 ?_
          have e71 : Tg h52 a0 = 7 := (fxT F56 e35)
          have e72 : Rv h52 a0 1 = v1 := ((fxR F56 e35 rfl).trans e42)
          have e73 : Rv h52 a0 2 = v8 := ((fxR F56 e35 rfl).trans e43)
          have e74 : Iv h52 a0 3 = v5 := ((fxI F56 e35 rfl).trans e44)
          have e75 : Iv h52 a0 4 = v12 := ((fxI F56 e35 rfl).trans e38)
          have e76 : Tg h26 v1 = 38104 := ((pIT hh25).trans e46)
          have p77 := (SOK_fx O27 F56 e76 rfl rfl rfl p47)
          have e78 : Tg h26 v8 = 39105 := ((pIT hh25).trans e49)
          have p79 := (BOK_fx O27 F56 e78 rfl rfl rfl rfl p50)
          refine g_callI (st := [.inr (.inr a1)]) (gc_V C lk_LandSurvey_Search_84 (k_X6_saysAnything l D cy w z0 O55 e71 f70 ⟨by rw [e72, e74]; exact p77, by rw [e73, e75]; exact p79⟩) e71 rfl rfl rfl ⟨by decide, by decide⟩ (Nat.le_of_ble_eq_true rfl) dX6_solve_82 ⟨(by decide), (by decide)⟩) (fun r80 h81 f83 K82 => ?_)
          obtain ⟨O84, F85, f86⟩ := K82
          refine g_if_eq C (iw f86 (by decide) (by decide)) 92 (by decide) dX6_solve_85 (fun q87 => ?_) (fun q88 => ?_)
          · have f89 : (0 : Int) ≤ r80 ∧ r80 ≤ (0 : Int) := ii f86 (r_eq (il 0) q87) (by decide) (by decide)
            refine g_iconst C dX6_solve_92 ?_
            have e90 : Tg h81 a1 = 2 := (fxT F85 e57)
            refine gp_I C fk_LandSurvey_Search_88 pk_LandSurvey_Ground_5 rfl e90 (iw (il 0) (by decide) (by decide)) (nar_z2 (iw (il 0) (by decide) (by decide))) dX6_solve_93 (fun h92 hh91 => ?_)
            have O93 := O84.pI e90 hh91 rI_2_5 (iw (il 0) (by decide) (by decide)) nofun
            exact g_vret C hr ⟨O93, (((((((Fx.rf (wr := wr_k_X6_solve)).pI ta1 hh17 rfl).pI e20 hh21 rfl).pI e24 hh25 rfl).call F56 rfl).call F85 rfl).pI e90 hh91 rfl)⟩ (by decide) (by decide) dX6_solve_96
          · have f94 : (1 : Int) ≤ r80 ∧ r80 ≤ (1 : Int) := r_nl f86 q88
            refine g_iconst C dX6_solve_88 ?_
            refine g_goto C 93 (by decide) dX6_solve_89 ?_
            have e95 : Tg h81 a1 = 2 := (fxT F85 e57)
            refine gp_I C fk_LandSurvey_Search_88 pk_LandSurvey_Ground_5 rfl e95 (iw (il 1) (by decide) (by decide)) (nar_z2 (iw (il 1) (by decide) (by decide))) dX6_solve_93 (fun h97 hh96 => ?_)
            have O98 := O84.pI e95 hh96 rI_2_5 (iw (il 1) (by decide) (by decide)) nofun
            exact g_vret C hr ⟨O98, (((((((Fx.rf (wr := wr_k_X6_solve)).pI ta1 hh17 rfl).pI e20 hh21 rfl).pI e24 hh25 rfl).call F56 rfl).call F85 rfl).pI e95 hh96 rfl)⟩ (by decide) (by decide) dX6_solve_96
      · have f99 : (0 : Int) ≤ x29 ∧ x29 ≤ (3 : Int) := r_lt f34 f14 q40 (by decide) (by decide)
        have f100 : (1 : Int) ≤ v12 ∧ v12 ≤ (4 : Int) := r_gt f14 f34 q40 (by decide) (by decide)
        refine g_iload_n C rfl 2 rfl dX6_solve_27 ?_
        refine g_aload_n C rfl 1 rfl dX6_solve_28 ?_
        have e101 : Tg h26 a1 = 2 := ((pIT hh25).trans e24)
        obtain ⟨v102, e103⟩ : ∃ z, Iv h26 a1 0 = z := ⟨_, rfl⟩
        have f104 := ok_I O27 e101 rI_2_0 e103
        refine gf_I C fk_LandSurvey_Search_68 rfl e101 e103 dX6_solve_29 ?_
        refine g_iload_n C rfl 3 rfl dX6_solve_32 ?_
        refine g_ishr C dX6_solve_33 ?_
        have f105 : (-2147483648 : Int) ≤ (bShr v102 x29) ∧ (bShr v102 x29) ≤ (2147483647 : Int) := inR_of _
        refine g_iconst C dX6_solve_34 ?_
        refine g_iand C dX6_solve_35 ?_
        have f106 : (0 : Int) ≤ (bAnd (bShr v102 x29) 1) ∧ (bAnd (bShr v102 x29) 1) ≤ (1 : Int) := bAnd_1 _
        refine g_if_eq C (iw f106 (by decide) (by decide)) 51 (by decide) dX6_solve_36 (fun q107 => ?_) (fun q108 => ?_)
        · have f109 : (0 : Int) ≤ (bAnd (bShr v102 x29) 1) ∧ (bAnd (bShr v102 x29) 1) ≤ (0 : Int) := ii f106 (r_eq (il 0) q107) (by decide) (by decide)
          refine g_iconst C dX6_solve_51 ?_
          have f110 : (-2147483648 : Int) ≤ (x28 + 0) ∧ (x28 + 0) ≤ (2147483647 : Int) := ia_add f33 (il 0) (by decide) (by decide)
          refine g_iadd C dX6_solve_52 ?_
          refine g_istore_n C [(2, .inl (x28 + 0)), (0, .inr (.inr a0)), (1, .inr (.inr a1)), (3, .inl x29)] rfl (by decide) rfl dX6_solve_53 ?_
          have f111 : (1 : Int) ≤ (x29 + 1) ∧ (x29 + 1) ≤ (4 : Int) := ia_add f99 (il 1) (by decide) (by decide)
          refine g_iinc C [(3, .inl (x29 + 1)), (2, .inl (x28 + 0)), (0, .inr (.inr a0)), (1, .inr (.inr a1))] 3 rfl (by decide) rfl dX6_solve_54 ?_
          refine g_goto C 19 (by decide) dX6_solve_57 ?_
          refine GW.sub [2, 3, 1, 0] rfl ?_
          exact ih31 _ (by omega) (x28 + 0) (x29 + 1) rfl f110 (iw f111 (by decide) (by decide))
        · have f112 : (1 : Int) ≤ (bAnd (bShr v102 x29) 1) ∧ (bAnd (bShr v102 x29) 1) ≤ (1 : Int) := r_nl f106 q108
          refine g_aload_n C rfl 0 rfl dX6_solve_39 ?_
          have e113 : Rv h26 a0 2 = v8 := ((pIR hh25).trans ((pIR hh21).trans ((pIR hh17).trans e9)))
          refine gf_R C fk_LandSurvey_Search_42 rfl e35 e113 dX6_solve_40 ?_
          refine g_iload_n C rfl 3 rfl dX6_solve_43 ?_
          have e114 : Tg h26 v8 = 39105 := ((pIT hh25).trans ((pIT hh21).trans ((pIT hh17).trans t10)))
          have e115 : Ln h26 v8 = 4 := ((pIL hh25).trans ((pIL hh21).trans ((pIL hh17).trans l11)))
          obtain ⟨v116, e117⟩ : ∃ z, Rv h26 v8 x29.toNat = z := ⟨_, rfl⟩
          refine g_aald (t := 5) C e114 rfl (by decide) rfl e115 (ix f99 (by decide) (by decide)) e117 dX6_solve_44 ?_
          have e118 : Tg h18 v8 = 39105 := ((pIT hh17).trans t10)
          have e119 : Tg h22 v8 = 39105 := ((pIT hh21).trans e118)
          have p120 := (BOK_fx O23 ((Fx.rf (wr := [406]) (h := h22)).pI e24 hh25 rfl) e119 rfl rfl rfl rfl (BOK_fx O19 ((Fx.rf (wr := [402]) (h := h18)).pI e20 hh21 rfl) e118 rfl rfl rfl rfl (BOK_fx O ((Fx.rf (wr := [401]) (h := h)).pI ta1 hh17 rfl) t10 rfl rfl rfl rfl p16)))
          have q121 := nn_get p120.nn (by omega) e117
          have t122 := ok_Na O27 e114 ar_39105 rE_39105_0 e117 q121
          obtain ⟨v123, e124⟩ : ∃ z, Iv h26 v116 5 = z := ⟨_, rfl⟩
          have f125 := ok_I O27 t122 rI_1_5 e124
          refine gf_I C fk_LandSurvey_Search_71 rfl t122 e124 dX6_solve_45 ?_
          refine g_goto C 52 (by decide) dX6_solve_48 ?_
          have f126 : (-2147483648 : Int) ≤ (w32 (x28 + v123)) ∧ (w32 (x28 + v123)) ≤ (2147483647 : Int) := w32_inR _
          refine g_iaddW C dX6_solve_52 ?_
          refine g_istore_n C [(2, .inl (w32 (x28 + v123))), (0, .inr (.inr a0)), (1, .inr (.inr a1)), (3, .inl x29)] rfl (by decide) rfl dX6_solve_53 ?_
          have f127 : (1 : Int) ≤ (x29 + 1) ∧ (x29 + 1) ≤ (4 : Int) := ia_add f99 (il 1) (by decide) (by decide)
          refine g_iinc C [(3, .inl (x29 + 1)), (2, .inl (w32 (x28 + v123))), (0, .inr (.inr a0)), (1, .inr (.inr a1))] 3 rfl (by decide) rfl dX6_solve_54 ?_
          refine g_goto C 19 (by decide) dX6_solve_57 ?_
          refine GW.sub [2, 3, 1, 0] rfl ?_
          exact ih31 _ (by omega) (w32 (x28 + v123)) (x29 + 1) rfl f126 (iw f127 (by decide) (by decide))
  exact L30 _ 0 0 rfl (iw (il 0) (by decide) (by decide)) (iw (il 0) (by decide) (by decide))
def wr_k_X6_span : List Nat := [406, 2003, 2020000, 2220000, 8020000, 8220400, 8420400, 9020000, 9220400, 9420000]
set_option maxRecDepth 100000 in
set_option maxHeartbeats 4000000 in
theorem k_X6_span (l : Launch) (D : va_G) (cy : Nat → ClassId) (w : Nat → Nat) (z0 : Nat)  {h : Hp} {a0 : Nat} {a1 : Nat}  (O : Okh h) (ta0 : Tg h a0 = 7) (ta1 : Tg h a1 = 2) (P_SInv : SInv h a0) : MV l D cy w z0 yX6_span cX6_span 3 none 3 72 0 0 [.inr (.inr a0), .inr (.inr a1)] h (fun h1 => Okh h1 ∧ Fx wr_k_X6_span h h1) := by
  obtain ⟨v1, e2⟩ : ∃ z, Rv h a0 1 = z := ⟨_, rfl⟩
  have t3 := ok_R O ta0 rE_7_1 e2
  have l4 := ok_L O ta0 rE_7_1 e2
  obtain ⟨v5, e6⟩ : ∃ z, Iv h a0 3 = z := ⟨_, rfl⟩
  have f7 := ok_I O ta0 rI_7_3 e6
  obtain ⟨v8, e9⟩ : ∃ z, Rv h a0 2 = z := ⟨_, rfl⟩
  have t10 := ok_R O ta0 rE_7_2 e9
  have l11 := ok_L O ta0 rE_7_2 e9
  obtain ⟨v12, e13⟩ : ∃ z, Iv h a0 4 = z := ⟨_, rfl⟩
  have f14 := ok_I O ta0 rI_7_4 e13
  have p15 : SOK h v1 v5 := by have z := P_SInv.1; rw [e2, e6] at z; exact z
  have p16 : BOK h v8 v12 := by have z := P_SInv.2; rw [e9, e13] at z; exact z
  refine hm_go (by decide +kernel) (Nat.le_of_ble_eq_true rfl) (fun p e s m below meth c C hr hn => ?_)
  refine g_aload_n C rfl 1 rfl dX6_span_0 ?_
  refine g_iconst C dX6_span_1 ?_
  refine gp_I C fk_LandSurvey_Search_65 pk_LandSurvey_Ground_6 rfl ta1 (iw (il 1) (by decide) (by decide)) (nar_z2 (iw (il 1) (by decide) (by decide))) dX6_span_2 (fun h18 hh17 => ?_)
  have O19 := O.pI ta1 hh17 rI_2_6 (iw (il 1) (by decide) (by decide)) nofun
  refine g_aload_n C rfl 0 rfl dX6_span_5 ?_
  refine g_aload_n C rfl 1 rfl dX6_span_6 ?_
  have e20 : Tg h18 a1 = 2 := ((pIT hh17).trans ta1)
  obtain ⟨v21, e22⟩ : ∃ z, Iv h18 a1 0 = z := ⟨_, rfl⟩
  have f23 := ok_I O19 e20 rI_2_0 e22
  refine gf_I C fk_LandSurvey_Search_68 rfl e20 e22 dX6_span_7 ?_
  refine g_aload_n C rfl 1 rfl dX6_span_10 ?_
  obtain ⟨v24, e25⟩ : ∃ z, Jv h18 a1 4 = z := ⟨_, rfl⟩
  have f26 := inL_J O19 e25
  refine gf_J C fk_LandSurvey_Search_80 rfl e20 e25 dX6_span_11 ?_
  have e27 : Tg h18 a0 = 7 := ((pIT hh17).trans ta0)
  have e28 : Rv h18 a0 1 = v1 := ((pIR hh17).trans e2)
  have e29 : Rv h18 a0 2 = v8 := ((pIR hh17).trans e9)
  have e30 : Iv h18 a0 3 = v5 := ((pI_n hh17 (ne_tag ta0 ta1 (by decide))).trans e6)
  have e31 : Iv h18 a0 4 = v12 := ((pI_n hh17 (ne_tag ta0 ta1 (by decide))).trans e13)
  have p32 := (SOK_fx O ((Fx.rf (wr := [406]) (h := h)).pI ta1 hh17 rfl) t3 rfl rfl rfl p15)
  have p33 := (BOK_fx O ((Fx.rf (wr := [406]) (h := h)).pI ta1 hh17 rfl) t10 rfl rfl rfl rfl p16)
  refine g_callV (st := []) (gc_V C lk_LandSurvey_Search_111 (k_X6_lay l D cy w z0 O19 e27 (iw f23 (by decide) (by decide)) f26 ⟨by rw [e28, e30]; exact p32, by rw [e29, e31]; exact p33⟩) e27 rfl rfl rfl ⟨by decide, by decide⟩ (Nat.le_of_ble_eq_true rfl) dX6_span_14 ⟨(by decide), (by decide)⟩) (fun h35 K36 => ?_)
  obtain ⟨O38, F39⟩ := K36
  refine g_iconst C dX6_span_17 ?_
  refine g_istore_n C [(2, .inl 0), (0, .inr (.inr a0)), (1, .inr (.inr a1))] rfl (by decide) rfl dX6_span_18 ?_
  refine GW.sub [1, 2, 0] rfl ?_
  -- loop at 19
  have L42 : ∀ (μ : Nat) (x40 : Int) (h41 : Hp), (96 - x40).toNat = μ → Okh h41 → Fx [8020000] h35 h41 → ((0 : Int) ≤ x40 ∧ x40 ≤ (96 : Int)) → GW p l e (rmm 3 72 0 0) s m (List.map toV [.inr (.inr a0), .inr (.inr a1)]).toArray below meth c D cy z0 3 (MQ below (QV D cy z0 (fun h1 => Okh h1 ∧ Fx wr_k_X6_span h h1)) (List.map toV [.inr (.inr a0), .inr (.inr a1)]).toArray s 0 0 (Aof z0)) 19 [(0, .inr (.inr a0)), (1, .inr (.inr a1)), (2, .inl x40)] [] h41 0 0 := by
    intro μ
    induction μ using Nat.strongRecOn with
    | ind μ ih43 =>
      intro x40 h41 hm44 O45 F46 f47
      refine g_iload_n C rfl 2 rfl dX6_span_19 ?_
      refine g_bipush C (by decide) dX6_span_20 ?_
      refine g_icmp_ge C (iw f47 (by decide) (by decide)) (iw (il 96) (by decide) (by decide)) 44 (by decide) dX6_span_22 (fun q48 => ?_) (fun q49 => ?_)
      · have f50 : (96 : Int) ≤ x40 ∧ x40 ≤ (96 : Int) := r_ge f47 (il 96) q48 (by decide) (by decide)
        refine g_aload_n C rfl 0 rfl dX6_span_44 ?_
        have e51 : Tg h41 a0 = 7 := (fxT F46 (fxT F39 e27))
        obtain ⟨v52, e53⟩ : ∃ z, Rv h41 a0 0 = z := ⟨_, rfl⟩
        have t54 := ok_R O45 e51 rE_7_0 e53
        refine gf_R C fk_LandSurvey_Search_12 rfl e51 e53 dX6_span_45 ?_
        refine g_aload_n C rfl 0 rfl dX6_span_48 ?_
        obtain ⟨v55, e56⟩ : ∃ z, Rv h41 a0 6 = z := ⟨_, rfl⟩
        have t57 := ok_R O45 e51 rE_7_6 e56
        have l58 := ok_L O45 e51 rE_7_6 e56
        refine gf_R C fk_LandSurvey_Search_18 rfl e51 e56 dX6_span_49 ?_
        refine g_iconst C dX6_span_52 ?_
        refine g_callV (st := []) (gc_V C lk_LandSurvey_Search_187 (k_X9_spread l D cy w z0 O45 t54 t57 l58 (iw (il 0) (by decide) (by decide))) t54 rfl rfl rfl ⟨by decide, by decide⟩ (Nat.le_of_ble_eq_true rfl) dX6_span_53 ⟨(by decide), (by decide)⟩) (fun h60 K61 => ?_)
        obtain ⟨O63, F64⟩ := K61
        refine g_aload_n C rfl 0 rfl dX6_span_56 ?_
        have e65 : Tg h60 a0 = 7 := (fxT F64 e51)
        have e66 : Rv h60 a0 0 = v52 := ((fxR F64 e51 rfl).trans e53)
        refine gf_R C fk_LandSurvey_Search_12 rfl e65 e66 dX6_span_57 ?_
        refine g_aload_n C rfl 0 rfl dX6_span_60 ?_
        obtain ⟨v67, e68⟩ : ∃ z, Rv h60 a0 7 = z := ⟨_, rfl⟩
        have t69 := ok_R O63 e65 rE_7_7 e68
        have l70 := ok_L O63 e65 rE_7_7 e68
        refine gf_R C fk_LandSurvey_Search_22 rfl e65 e68 dX6_span_61 ?_
        refine g_iconst C dX6_span_64 ?_
        have e71 : Tg h60 v52 = 10 := (fxT F64 t54)
        refine g_callV (st := []) (gc_V C lk_LandSurvey_Search_187 (k_X9_spread l D cy w z0 O63 e71 t69 l70 (iw (il 1) (by decide) (by decide))) e71 rfl rfl rfl ⟨by decide, by decide⟩ (Nat.le_of_ble_eq_true rfl) dX6_span_65 ⟨(by decide), (by decide)⟩) (fun h73 K74 => ?_)
        obtain ⟨O76, F77⟩ := K74
        refine g_iconst C dX6_span_68 ?_
        refine g_istore_n C [(2, .inl 0), (0, .inr (.inr a0)), (1, .inr (.inr a1))] rfl (by decide) rfl dX6_span_69 ?_
        refine GW.sub [1, 2, 0] rfl ?_
        -- loop at 70
        have L80 : ∀ (μ : Nat) (x78 : Int) (h79 : Hp), (96 - x78).toNat = μ → Okh h79 → Fx [2020000, 2220000] h73 h79 → ((0 : Int) ≤ x78 ∧ x78 ≤ (96 : Int)) → GW p l e (rmm 3 72 0 0) s m (List.map toV [.inr (.inr a0), .inr (.inr a1)]).toArray below meth c D cy z0 3 (MQ below (QV D cy z0 (fun h1 => Okh h1 ∧ Fx wr_k_X6_span h h1)) (List.map toV [.inr (.inr a0), .inr (.inr a1)]).toArray s 0 0 (Aof z0)) 70 [(0, .inr (.inr a0)), (1, .inr (.inr a1)), (2, .inl x78)] [] h79 0 0 := by
          intro μ
          induction μ using Nat.strongRecOn with
          | ind μ ih81 =>
            intro x78 h79 hm82 O83 F84 f85
            refine g_iload_n C rfl 2 rfl dX6_span_70 ?_
            refine g_bipush C (by decide) dX6_span_71 ?_
            refine g_icmp_ge C (iw f85 (by decide) (by decide)) (iw (il 96) (by decide) (by decide)) 107 (by decide) dX6_span_73 (fun q86 => ?_) (fun q87 => ?_)
            · have f88 : (96 : Int) ≤ x78 ∧ x78 ≤ (96 : Int) := r_ge f85 (il 96) q86 (by decide) (by decide)
              exact g_vret C hr ⟨O83, (((((((Fx.rf (wr := wr_k_X6_span)).pI ta1 hh17 rfl).call F39 rfl).call F46 rfl).call F64 rfl).call F77 rfl).call F84 rfl)⟩ (by decide) (by decide) dX6_span_107
            · have f89 : (0 : Int) ≤ x78 ∧ x78 ≤ (95 : Int) := r_lt f85 (il 96) q87 (by decide) (by decide)
              refine g_aload_n C rfl 1 rfl dX6_span_76 ?_
              have e90 : Tg h79 a1 = 2 := (fxT F84 (fxT F77 (fxT F64 (fxT F46 (fxT F39 e20)))))
              obtain ⟨v91, e92⟩ : ∃ z, Rv h79 a1 8 = z := ⟨_, rfl⟩
              have t93 := ok_R O83 e90 rE_2_8 e92
              have l94 := ok_L O83 e90 rE_2_8 e92
              refine gf_R C fk_LandSurvey_Search_190 rfl e90 e92 dX6_span_77 ?_
              refine g_iload_n C rfl 2 rfl dX6_span_80 ?_
              refine g_aload_n C rfl 0 rfl dX6_span_81 ?_
              have e95 : Tg h79 a0 = 7 := (fxT F84 (fxT F77 e65))
              have e96 : Tg h73 a0 = 7 := (fxT F77 e65)
              have e97 : Rv h79 a0 6 = v55 := ((fxR F84 e96 rfl).trans ((fxR F77 e65 rfl).trans ((fxR F64 e51 rfl).trans e56)))
              refine gf_R C fk_LandSurvey_Search_18 rfl e95 e97 dX6_span_82 ?_
              refine g_iload_n C rfl 2 rfl dX6_span_85 ?_
              have e98 : Tg h79 v55 = 40100 := (fxT F84 (fxT F77 (fxT F64 t57)))
              have e99 : Tg h60 v55 = 40100 := (fxT F64 t57)
              have e100 : Tg h73 v55 = 40100 := (fxT F77 e99)
              have e101 : Ln h79 v55 = 96 := ((fxL F84 e100).trans ((fxL F77 e99).trans ((fxL F64 t57).trans l58)))
              obtain ⟨v102, e103⟩ : ∃ z, Iv h79 v55 x78.toNat = z := ⟨_, rfl⟩
              have f104 := ok_Ia O83 e98 ar_40100 rI_40100_0 e103
              refine g_iald C e98 rfl e101 (ix f89 (by decide) (by decide)) e103 dX6_span_86 ?_
              refine g_iast C t93 rfl l94 (ix f89 (by decide) (by decide)) f104 dX6_span_87 (fun h106 hh105 => ?_)
              have O107 := O83.pIa t93 ar_11100 hh105 rI_11100_0 f104 nofun
              refine g_aload_n C rfl 1 rfl dX6_span_88 ?_
              have e108 : Tg h106 a1 = 2 := ((pIT hh105).trans e90)
              obtain ⟨v109, e110⟩ : ∃ z, Rv h106 a1 7 = z := ⟨_, rfl⟩
              have t111 := ok_R O107 e108 rE_2_7 e110
              have l112 := ok_L O107 e108 rE_2_7 e110
              refine gf_R C fk_LandSurvey_Search_193 rfl e108 e110 dX6_span_89 ?_
              refine g_iload_n C rfl 2 rfl dX6_span_92 ?_
              refine g_aload_n C rfl 0 rfl dX6_span_93 ?_
              have e113 : Tg h106 a0 = 7 := ((pIT hh105).trans e95)
              have e114 : Rv h106 a0 7 = v67 := ((pIR hh105).trans ((fxR F84 e96 rfl).trans ((fxR F77 e65 rfl).trans e68)))
              refine gf_R C fk_LandSurvey_Search_22 rfl e113 e114 dX6_span_94 ?_
              refine g_iload_n C rfl 2 rfl dX6_span_97 ?_
              have e115 : Tg h106 v67 = 40100 := ((pIT hh105).trans (fxT F84 (fxT F77 t69)))
              have e116 : Tg h73 v67 = 40100 := (fxT F77 t69)
              have e117 : Ln h106 v67 = 96 := ((pIL hh105).trans ((fxL F84 e116).trans ((fxL F77 t69).trans l70)))
              obtain ⟨v118, e119⟩ : ∃ z, Iv h106 v67 x78.toNat = z := ⟨_, rfl⟩
              have f120 := ok_Ia O107 e115 ar_40100 rI_40100_0 e119
              refine g_iald C e115 rfl e117 (ix f89 (by decide) (by decide)) e119 dX6_span_98 ?_
              refine g_inegW C dX6_span_99 ?_
              have f121 : (-2147483648 : Int) ≤ (w32 (-v118)) ∧ (w32 (-v118)) ≤ (2147483647 : Int) := w32_inR _
              refine g_iast C t111 rfl l112 (ix f89 (by decide) (by decide)) f121 dX6_span_100 (fun h123 hh122 => ?_)
              have O124 := O107.pIa t111 ar_10100 hh122 rI_10100_0 f121 nofun
              have f125 : (1 : Int) ≤ (x78 + 1) ∧ (x78 + 1) ≤ (96 : Int) := ia_add f89 (il 1) (by decide) (by decide)
              refine g_iinc C [(2, .inl (x78 + 1)), (0, .inr (.inr a0)), (1, .inr (.inr a1))] 2 rfl (by decide) rfl dX6_span_101 ?_
              refine g_goto C 70 (by decide) dX6_span_104 ?_
              refine GW.sub [1, 2, 0] rfl ?_
              exact ih81 _ (by omega) (x78 + 1) h123 rfl O124 ((F84.pIa t93 ar_11100 hh105 rfl).pIa t111 ar_10100 hh122 rfl) (iw f125 (by decide) (by decide))
        exact L80 _ 0 h73 rfl O76 Fx.rf (iw (il 0) (by decide) (by decide))
      · have f126 : (0 : Int) ≤ x40 ∧ x40 ≤ (95 : Int) := r_lt f47 (il 96) q49 (by decide) (by decide)
        refine g_aload_n C rfl 0 rfl dX6_span_25 ?_
        have e127 : Tg h41 a0 = 7 := (fxT F46 (fxT F39 e27))
        obtain ⟨v128, e129⟩ : ∃ z, Rv h41 a0 7 = z := ⟨_, rfl⟩
        have t130 := ok_R O45 e127 rE_7_7 e129
        have l131 := ok_L O45 e127 rE_7_7 e129
        refine gf_R C fk_LandSurvey_Search_22 rfl e127 e129 dX6_span_26 ?_
        refine g_iload_n C rfl 2 rfl dX6_span_29 ?_
        refine g_aload_n C rfl 0 rfl dX6_span_30 ?_
        obtain ⟨v132, e133⟩ : ∃ z, Rv h41 a0 8 = z := ⟨_, rfl⟩
        have t134 := ok_R O45 e127 rE_7_8 e133
        have l135 := ok_L O45 e127 rE_7_8 e133
        refine gf_R C fk_LandSurvey_Search_25 rfl e127 e133 dX6_span_31 ?_
        refine g_iload_n C rfl 2 rfl dX6_span_34 ?_
        obtain ⟨v136, e137⟩ : ∃ z, Iv h41 v132 x40.toNat = z := ⟨_, rfl⟩
        have f138 := ok_Ia O45 t134 ar_40100 rI_40100_0 e137
        refine g_iald C t134 rfl l135 (ix f126 (by decide) (by decide)) e137 dX6_span_35 ?_
        refine g_inegW C dX6_span_36 ?_
        have f139 : (-2147483648 : Int) ≤ (w32 (-v136)) ∧ (w32 (-v136)) ≤ (2147483647 : Int) := w32_inR _
        refine g_iast C t130 rfl l131 (ix f126 (by decide) (by decide)) f139 dX6_span_37 (fun h141 hh140 => ?_)
        have O142 := O45.pIa t130 ar_40100 hh140 rI_40100_0 f139 nofun
        have f143 : (1 : Int) ≤ (x40 + 1) ∧ (x40 + 1) ≤ (96 : Int) := ia_add f126 (il 1) (by decide) (by decide)
        refine g_iinc C [(2, .inl (x40 + 1)), (0, .inr (.inr a0)), (1, .inr (.inr a1))] 2 rfl (by decide) rfl dX6_span_38 ?_
        refine g_goto C 19 (by decide) dX6_span_41 ?_
        refine GW.sub [1, 2, 0] rfl ?_
        exact ih43 _ (by omega) (x40 + 1) h141 rfl O142 (F46.pIa t130 ar_40100 hh140 rfl) (iw f143 (by decide) (by decide))
  exact L42 _ 0 h35 rfl O38 Fx.rf (iw (il 0) (by decide) (by decide))
def wr_k_X6_measureWays : List Nat := [2003, 8020000, 9420000]
set_option maxRecDepth 100000 in
set_option maxHeartbeats 4000000 in
theorem k_X6_measureWays (l : Launch) (D : va_G) (cy : Nat → ClassId) (w : Nat → Nat) (z0 : Nat)  {h : Hp} {a0 : Nat} {a1 : Int}  (O : Okh h) (ta0 : Tg h a0 = 7) (fa1 : 0 ≤ a1 ∧ a1 ≤ 95) (P_SInv : SInv h a0) : MV l D cy w z0 yX6_measureWays cX6_measureWays 2 none 3 72 0 0 [.inr (.inr a0), .inl a1] h (fun h1 => Okh h1 ∧ Fx wr_k_X6_measureWays h h1) := by
  obtain ⟨v1, e2⟩ : ∃ z, Rv h a0 1 = z := ⟨_, rfl⟩
  have t3 := ok_R O ta0 rE_7_1 e2
  have l4 := ok_L O ta0 rE_7_1 e2
  obtain ⟨v5, e6⟩ : ∃ z, Iv h a0 3 = z := ⟨_, rfl⟩
  have f7 := ok_I O ta0 rI_7_3 e6
  obtain ⟨v8, e9⟩ : ∃ z, Rv h a0 2 = z := ⟨_, rfl⟩
  have t10 := ok_R O ta0 rE_7_2 e9
  have l11 := ok_L O ta0 rE_7_2 e9
  obtain ⟨v12, e13⟩ : ∃ z, Iv h a0 4 = z := ⟨_, rfl⟩
  have f14 := ok_I O ta0 rI_7_4 e13
  have p15 : SOK h v1 v5 := by have z := P_SInv.1; rw [e2, e6] at z; exact z
  have p16 : BOK h v8 v12 := by have z := P_SInv.2; rw [e9, e13] at z; exact z
  refine hm_go (by decide +kernel) (Nat.le_of_ble_eq_true rfl) (fun p e s m below meth c C hr hn => ?_)
  refine g_aload_n C rfl 0 rfl dX6_measureWays_0 ?_
  obtain ⟨v17, e18⟩ : ∃ z, Rv h a0 6 = z := ⟨_, rfl⟩
  have t19 := ok_R O ta0 rE_7_6 e18
  have l20 := ok_L O ta0 rE_7_6 e18
  refine gf_R C fk_LandSurvey_Search_18 rfl ta0 e18 dX6_measureWays_1 ?_
  refine g_ldc (z := 268435456) C kw_1082 (by decide) dX6_measureWays_4 ?_
  refine g_callV (st := []) (gc_S C lk_LandSurvey_Search_141 (k_fill_40100 l D cy w z0 O t19 l20 (iw (il 268435456) (by decide) (by decide))) rfl ⟨by decide, by decide⟩ (Nat.le_of_ble_eq_true rfl) dX6_measureWays_6 ⟨(by decide), (by decide)⟩) (fun h22 K23 => ?_)
  obtain ⟨O25, F26⟩ := K23
  refine g_aload_n C rfl 0 rfl dX6_measureWays_9 ?_
  have e27 : Tg h22 a0 = 7 := (fxT F26 ta0)
  obtain ⟨v28, e29⟩ : ∃ z, Rv h22 a0 7 = z := ⟨_, rfl⟩
  have t30 := ok_R O25 e27 rE_7_7 e29
  have l31 := ok_L O25 e27 rE_7_7 e29
  refine gf_R C fk_LandSurvey_Search_22 rfl e27 e29 dX6_measureWays_10 ?_
  refine g_ldc (z := 268435456) C kw_1082 (by decide) dX6_measureWays_13 ?_
  refine g_callV (st := []) (gc_S C lk_LandSurvey_Search_141 (k_fill_40100 l D cy w z0 O25 t30 l31 (iw (il 268435456) (by decide) (by decide))) rfl ⟨by decide, by decide⟩ (Nat.le_of_ble_eq_true rfl) dX6_measureWays_15 ⟨(by decide), (by decide)⟩) (fun h33 K34 => ?_)
  obtain ⟨O36, F37⟩ := K34
  refine g_aload_n C rfl 0 rfl dX6_measureWays_18 ?_
  have e38 : Tg h33 a0 = 7 := (fxT F37 e27)
  have e39 : Rv h33 a0 6 = v17 := ((fxR F37 e27 rfl).trans ((fxR F26 ta0 rfl).trans e18))
  refine gf_R C fk_LandSurvey_Search_18 rfl e38 e39 dX6_measureWays_19 ?_
  refine g_iload_n C rfl 1 rfl dX6_measureWays_22 ?_
  refine g_iconst C dX6_measureWays_23 ?_
  have e40 : Tg h33 v17 = 40100 := (fxT F37 (fxT F26 t19))
  have e41 : Tg h22 v17 = 40100 := (fxT F26 t19)
  have e42 : Ln h33 v17 = 96 := ((fxL F37 e41).trans ((fxL F26 t19).trans l20))
  refine g_iast C e40 rfl e42 (ix fa1 (by decide) (by decide)) (iw (il 0) (by decide) (by decide)) dX6_measureWays_24 (fun h44 hh43 => ?_)
  have O45 := O36.pIa e40 ar_40100 hh43 rI_40100_0 (iw (il 0) (by decide) (by decide)) nofun
  refine g_aload_n C rfl 0 rfl dX6_measureWays_25 ?_
  have e46 : Tg h44 a0 = 7 := ((pIT hh43).trans e38)
  have e47 : Rv h44 a0 7 = v28 := ((pIR hh43).trans ((fxR F37 e27 rfl).trans e29))
  refine gf_R C fk_LandSurvey_Search_22 rfl e46 e47 dX6_measureWays_26 ?_
  refine g_iload_n C rfl 1 rfl dX6_measureWays_29 ?_
  refine g_iconst C dX6_measureWays_30 ?_
  have e48 : Tg h44 v28 = 40100 := ((pIT hh43).trans (fxT F37 t30))
  have e49 : Ln h44 v28 = 96 := ((pIL hh43).trans ((fxL F37 t30).trans l31))
  refine g_iast C e48 rfl e49 (ix fa1 (by decide) (by decide)) (iw (il 0) (by decide) (by decide)) dX6_measureWays_31 (fun h51 hh50 => ?_)
  have O52 := O45.pIa e48 ar_40100 hh50 rI_40100_0 (iw (il 0) (by decide) (by decide)) nofun
  refine g_aload_n C rfl 0 rfl dX6_measureWays_32 ?_
  have e53 : Tg h51 a0 = 7 := ((pIT hh50).trans e46)
  obtain ⟨v54, e55⟩ : ∃ z, Rv h51 a0 0 = z := ⟨_, rfl⟩
  have t56 := ok_R O52 e53 rE_7_0 e55
  refine gf_R C fk_LandSurvey_Search_12 rfl e53 e55 dX6_measureWays_33 ?_
  refine g_aload_n C rfl 0 rfl dX6_measureWays_36 ?_
  have e57 : Rv h51 a0 6 = v17 := ((pIR hh50).trans ((pIR hh43).trans e39))
  refine gf_R C fk_LandSurvey_Search_18 rfl e53 e57 dX6_measureWays_37 ?_
  refine g_iconst C dX6_measureWays_40 ?_
  have e58 : Tg h51 v17 = 40100 := ((pIT hh50).trans ((pIT hh43).trans e40))
  have e59 : Ln h51 v17 = 96 := ((pIL hh50).trans ((pIL hh43).trans e42))
  refine g_callV (st := []) (gc_V C lk_LandSurvey_Search_187 (k_X9_spread l D cy w z0 O52 t56 e58 e59 (iw (il 0) (by decide) (by decide))) t56 rfl rfl rfl ⟨by decide, by decide⟩ (Nat.le_of_ble_eq_true rfl) dX6_measureWays_41 ⟨(by decide), (by decide)⟩) (fun h61 K62 => ?_)
  obtain ⟨O64, F65⟩ := K62
  refine g_aload_n C rfl 0 rfl dX6_measureWays_44 ?_
  have e66 : Tg h61 a0 = 7 := (fxT F65 e53)
  have e67 : Rv h61 a0 0 = v54 := ((fxR F65 e53 rfl).trans e55)
  refine gf_R C fk_LandSurvey_Search_12 rfl e66 e67 dX6_measureWays_45 ?_
  refine g_aload_n C rfl 0 rfl dX6_measureWays_48 ?_
  have e68 : Rv h61 a0 7 = v28 := ((fxR F65 e53 rfl).trans ((pIR hh50).trans e47))
  refine gf_R C fk_LandSurvey_Search_22 rfl e66 e68 dX6_measureWays_49 ?_
  refine g_iconst C dX6_measureWays_52 ?_
  have e69 : Tg h61 v54 = 10 := (fxT F65 t56)
  have e70 : Tg h61 v28 = 40100 := (fxT F65 ((pIT hh50).trans e48))
  have e71 : Tg h51 v28 = 40100 := ((pIT hh50).trans e48)
  have e72 : Ln h61 v28 = 96 := ((fxL F65 e71).trans ((pIL hh50).trans e49))
  refine g_callV (st := []) (gc_V C lk_LandSurvey_Search_187 (k_X9_spread l D cy w z0 O64 e69 e70 e72 (iw (il 1) (by decide) (by decide))) e69 rfl rfl rfl ⟨by decide, by decide⟩ (Nat.le_of_ble_eq_true rfl) dX6_measureWays_53 ⟨(by decide), (by decide)⟩) (fun h74 K75 => ?_)
  obtain ⟨O77, F78⟩ := K75
  exact g_vret C hr ⟨O77, (((((((Fx.rf (wr := wr_k_X6_measureWays)).call F26 rfl).call F37 rfl).pIa e40 ar_40100 hh43 rfl).pIa e48 ar_40100 hh50 rfl).call F65 rfl).call F78 rfl)⟩ (by decide) (by decide) dX6_measureWays_56
