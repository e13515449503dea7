abbrev cX12_isLetter : ByteArray := prog_14_method_5_code
def yX12_isLetter : MethodName := ⟨RX12, "isLetter", "(I)Z"⟩
theorem okX12_isLetter : yok yX12_isLetter 1 := by decide +kernel
theorem dX12_isLetter_0 : decode cX12_isLetter 0 = .ok (.iload_n 0, 1) := by decide +kernel
theorem dX12_isLetter_1 : decode cX12_isLetter 1 = .ok (.bipush 97, 2) := by decide +kernel
theorem dX12_isLetter_3 : decode cX12_isLetter 3 = .ok (.if_icmp .lt 13, 3) := by decide +kernel
theorem dX12_isLetter_16 : decode cX12_isLetter 16 = .ok (.iconst 0, 1) := by decide +kernel
theorem dX12_isLetter_17 : decode cX12_isLetter 17 = .ok (.ireturn, 1) := by decide +kernel
theorem dX12_isLetter_6 : decode cX12_isLetter 6 = .ok (.iload_n 0, 1) := by decide +kernel
theorem dX12_isLetter_7 : decode cX12_isLetter 7 = .ok (.bipush 122, 2) := by decide +kernel
theorem dX12_isLetter_9 : decode cX12_isLetter 9 = .ok (.if_icmp .gt 7, 3) := by decide +kernel
theorem dX12_isLetter_12 : decode cX12_isLetter 12 = .ok (.iconst 1, 1) := by decide +kernel
theorem dX12_isLetter_13 : decode cX12_isLetter 13 = .ok (.goto 4, 3) := by decide +kernel
abbrev cX12_isDigit : ByteArray := prog_14_method_6_code
def yX12_isDigit : MethodName := ⟨RX12, "isDigit", "(I)Z"⟩
theorem okX12_isDigit : yok yX12_isDigit 1 := by decide +kernel
theorem dX12_isDigit_0 : decode cX12_isDigit 0 = .ok (.iload_n 0, 1) := by decide +kernel
theorem dX12_isDigit_1 : decode cX12_isDigit 1 = .ok (.bipush 48, 2) := by decide +kernel
theorem dX12_isDigit_3 : decode cX12_isDigit 3 = .ok (.if_icmp .lt 13, 3) := by decide +kernel
theorem dX12_isDigit_16 : decode cX12_isDigit 16 = .ok (.iconst 0, 1) := by decide +kernel
theorem dX12_isDigit_17 : decode cX12_isDigit 17 = .ok (.ireturn, 1) := by decide +kernel
theorem dX12_isDigit_6 : decode cX12_isDigit 6 = .ok (.iload_n 0, 1) := by decide +kernel
theorem dX12_isDigit_7 : decode cX12_isDigit 7 = .ok (.bipush 57, 2) := by decide +kernel
theorem dX12_isDigit_9 : decode cX12_isDigit 9 = .ok (.if_icmp .gt 7, 3) := by decide +kernel
theorem dX12_isDigit_12 : decode cX12_isDigit 12 = .ok (.iconst 1, 1) := by decide +kernel
theorem dX12_isDigit_13 : decode cX12_isDigit 13 = .ok (.goto 4, 3) := by decide +kernel
abbrev cX12_isSignOf : ByteArray := prog_14_method_8_code
def yX12_isSignOf : MethodName := ⟨RX12, "isSignOf", "(I)Z"⟩
theorem okX12_isSignOf : yok yX12_isSignOf 1 := by decide +kernel
theorem dX12_isSignOf_0 : decode cX12_isSignOf 0 = .ok (.iload_n 0, 1) := by decide +kernel
theorem dX12_isSignOf_1 : decode cX12_isSignOf 1 = .ok (.bipush 40, 2) := by decide +kernel
theorem dX12_isSignOf_3 : decode cX12_isSignOf 3 = .ok (.if_icmp .eq 39, 3) := by decide +kernel
theorem dX12_isSignOf_42 : decode cX12_isSignOf 42 = .ok (.iconst 1, 1) := by decide +kernel
theorem dX12_isSignOf_43 : decode cX12_isSignOf 43 = .ok (.goto 4, 3) := by decide +kernel
theorem dX12_isSignOf_47 : decode cX12_isSignOf 47 = .ok (.ireturn, 1) := by decide +kernel
theorem dX12_isSignOf_6 : decode cX12_isSignOf 6 = .ok (.iload_n 0, 1) := by decide +kernel
theorem dX12_isSignOf_7 : decode cX12_isSignOf 7 = .ok (.bipush 41, 2) := by decide +kernel
theorem dX12_isSignOf_9 : decode cX12_isSignOf 9 = .ok (.if_icmp .eq 33, 3) := by decide +kernel
theorem dX12_isSignOf_12 : decode cX12_isSignOf 12 = .ok (.iload_n 0, 1) := by decide +kernel
theorem dX12_isSignOf_13 : decode cX12_isSignOf 13 = .ok (.bipush 59, 2) := by decide +kernel
theorem dX12_isSignOf_15 : decode cX12_isSignOf 15 = .ok (.if_icmp .eq 27, 3) := by decide +kernel
theorem dX12_isSignOf_18 : decode cX12_isSignOf 18 = .ok (.iload_n 0, 1) := by decide +kernel
theorem dX12_isSignOf_19 : decode cX12_isSignOf 19 = .ok (.bipush 61, 2) := by decide +kernel
theorem dX12_isSignOf_21 : decode cX12_isSignOf 21 = .ok (.if_icmp .eq 21, 3) := by decide +kernel
theorem dX12_isSignOf_24 : decode cX12_isSignOf 24 = .ok (.iload_n 0, 1) := by decide +kernel
theorem dX12_isSignOf_25 : decode cX12_isSignOf 25 = .ok (.bipush 60, 2) := by decide +kernel
theorem dX12_isSignOf_27 : decode cX12_isSignOf 27 = .ok (.if_icmp .eq 15, 3) := by decide +kernel
theorem dX12_isSignOf_30 : decode cX12_isSignOf 30 = .ok (.iload_n 0, 1) := by decide +kernel
theorem dX12_isSignOf_31 : decode cX12_isSignOf 31 = .ok (.bipush 43, 2) := by decide +kernel
theorem dX12_isSignOf_33 : decode cX12_isSignOf 33 = .ok (.if_icmp .eq 9, 3) := by decide +kernel
theorem dX12_isSignOf_36 : decode cX12_isSignOf 36 = .ok (.iload_n 0, 1) := by decide +kernel
theorem dX12_isSignOf_37 : decode cX12_isSignOf 37 = .ok (.bipush 45, 2) := by decide +kernel
theorem dX12_isSignOf_39 : decode cX12_isSignOf 39 = .ok (.if_icmp .ne 7, 3) := by decide +kernel
theorem dX12_isSignOf_46 : decode cX12_isSignOf 46 = .ok (.iconst 0, 1) := by decide +kernel
abbrev cX12_within : ByteArray := prog_14_method_36_code
def yX12_within : MethodName := ⟨RX12, "within", "(III)Z"⟩
theorem okX12_within : yok yX12_within 3 := by decide +kernel
theorem dX12_within_0 : decode cX12_within 0 = .ok (.iload_n 0, 1) := by decide +kernel
theorem dX12_within_1 : decode cX12_within 1 = .ok (.iload_n 1, 1) := by decide +kernel
theorem dX12_within_2 : decode cX12_within 2 = .ok (.if_icmp .lt 12, 3) := by decide +kernel
theorem dX12_within_14 : decode cX12_within 14 = .ok (.iconst 0, 1) := by decide +kernel
theorem dX12_within_15 : decode cX12_within 15 = .ok (.ireturn, 1) := by decide +kernel
theorem dX12_within_5 : decode cX12_within 5 = .ok (.iload_n 0, 1) := by decide +kernel
theorem dX12_within_6 : decode cX12_within 6 = .ok (.iload_n 2, 1) := by decide +kernel
theorem dX12_within_7 : decode cX12_within 7 = .ok (.if_icmp .gt 7, 3) := by decide +kernel
theorem dX12_within_10 : decode cX12_within 10 = .ok (.iconst 1, 1) := by decide +kernel
theorem dX12_within_11 : decode cX12_within 11 = .ok (.goto 4, 3) := by decide +kernel
abbrev cX12_isCell : ByteArray := prog_14_method_37_code
def yX12_isCell : MethodName := ⟨RX12, "isCell", "(II)Z"⟩
theorem okX12_isCell : yok yX12_isCell 2 := by decide +kernel
theorem dX12_isCell_0 : decode cX12_isCell 0 = .ok (.iload_n 0, 1) := by decide +kernel
theorem dX12_isCell_1 : decode cX12_isCell 1 = .ok (.iconst 0, 1) := by decide +kernel
theorem dX12_isCell_2 : decode cX12_isCell 2 = .ok (.bipush 11, 2) := by decide +kernel
theorem dX12_isCell_4 : decode cX12_isCell 4 = .ok (.invokestatic 415, 3) := by decide +kernel
theorem kw_1890 : Cond.code yX12_within prog_14_method_36_code 3 (some .boolean) ∈ uu := uu_in (i := 1890) (by decide +kernel) (by decide +kernel)
theorem kw_152 : Cond.initialized "LandSurveyModel" ∈ uu := uu_in (i := 152) (by decide +kernel) (by decide +kernel)
theorem kw_1888 : Cond.methodLink "LandSurveyModel" 415 yX12_within ∈ uu := uu_in (i := 1888) (by decide +kernel) (by decide +kernel)
theorem kw_1889 : Cond.static yX12_within ∈ uu := uu_in (i := 1889) (by decide +kernel) (by decide +kernel)
theorem lk_LandSurveyModel_415 : lkS "LandSurveyModel" 415 yX12_within cX12_within 3 (some .boolean) 3 := ⟨kw_1888, kw_1889, kw_152, kw_1890, okX12_within⟩
theorem dX12_isCell_7 : decode cX12_isCell 7 = .ok (.ifCond .eq 17, 3) := by decide +kernel
theorem dX12_isCell_24 : decode cX12_isCell 24 = .ok (.iconst 0, 1) := by decide +kernel
theorem dX12_isCell_25 : decode cX12_isCell 25 = .ok (.ireturn, 1) := by decide +kernel
theorem dX12_isCell_10 : decode cX12_isCell 10 = .ok (.iload_n 1, 1) := by decide +kernel
theorem dX12_isCell_11 : decode cX12_isCell 11 = .ok (.iconst 0, 1) := by decide +kernel
theorem dX12_isCell_12 : decode cX12_isCell 12 = .ok (.bipush 7, 2) := by decide +kernel
theorem dX12_isCell_14 : decode cX12_isCell 14 = .ok (.invokestatic 415, 3) := by decide +kernel
theorem dX12_isCell_17 : decode cX12_isCell 17 = .ok (.ifCond .eq 7, 3) := by decide +kernel
theorem dX12_isCell_20 : decode cX12_isCell 20 = .ok (.iconst 1, 1) := by decide +kernel
theorem dX12_isCell_21 : decode cX12_isCell 21 = .ok (.goto 4, 3) := by decide +kernel
abbrev cX12_lay : ByteArray := prog_14_method_3_code
def yX12_lay : MethodName := ⟨RX12, "lay", "(J)V"⟩
theorem okX12_lay : yok yX12_lay 1 := by decide +kernel
theorem kw_1508 : Cond.fieldLink "LandSurveyModel" 11 "LandSurveyModel" "taped" "I" ∈ uu := uu_in (i := 1508) (by decide +kernel) (by decide +kernel)
theorem fk_LandSurveyModel_11 : fkI "LandSurveyModel" 11 11 2 RX12 TX12 87 := ⟨rfl, rfl, inX12, by decide, kw_1508, by decide⟩
theorem dX12_lay_0 : decode cX12_lay 0 = .ok (.bipush 56, 2) := by decide +kernel
theorem dX12_lay_2 : decode cX12_lay 2 = .ok (.istore_n 3, 1) := by decide +kernel
theorem dX12_lay_3 : decode cX12_lay 3 = .ok (.iload_n 3, 1) := by decide +kernel
theorem dX12_lay_4 : decode cX12_lay 4 = .ok (.ifCond .lt 71, 3) := by decide +kernel
theorem dX12_lay_75 : decode cX12_lay 75 = .ok (.return_, 1) := by decide +kernel
theorem dX12_lay_7 : decode cX12_lay 7 = .ok (.lload_n 1, 1) := by decide +kernel
theorem dX12_lay_8 : decode cX12_lay 8 = .ok (.iload_n 3, 1) := by decide +kernel
theorem dX12_lay_9 : decode cX12_lay 9 = .ok (.lshr, 1) := by decide +kernel
theorem dX12_lay_10 : decode cX12_lay 10 = .ok (.l2i, 1) := by decide +kernel
theorem dX12_lay_11 : decode cX12_lay 11 = .ok (.sipush 255, 3) := by decide +kernel
theorem dX12_lay_14 : decode cX12_lay 14 = .ok (.iand, 1) := by decide +kernel
theorem dX12_lay_15 : decode cX12_lay 15 = .ok (.istore 4, 2) := by decide +kernel
theorem dX12_lay_17 : decode cX12_lay 17 = .ok (.iload 4, 2) := by decide +kernel
theorem dX12_lay_19 : decode cX12_lay 19 = .ok (.bipush 10, 2) := by decide +kernel
theorem dX12_lay_21 : decode cX12_lay 21 = .ok (.if_icmp .eq 17, 3) := by decide +kernel
theorem dX12_lay_38 : decode cX12_lay 38 = .ok (.aload_n 0, 1) := by decide +kernel
theorem dX12_lay_39 : decode cX12_lay 39 = .ok (.getfield 11, 3) := by decide +kernel
theorem dX12_lay_42 : decode cX12_lay 42 = .ok (.sipush 1500, 3) := by decide +kernel
theorem dX12_lay_45 : decode cX12_lay 45 = .ok (.if_icmp .ge 24, 3) := by decide +kernel
theorem dX12_lay_69 : decode cX12_lay 69 = .ok (.iinc 3 (-8), 3) := by decide +kernel
theorem dX12_lay_72 : decode cX12_lay 72 = .ok (.goto (-69), 3) := by decide +kernel
theorem dX12_lay_48 : decode cX12_lay 48 = .ok (.aload_n 0, 1) := by decide +kernel
theorem dX12_lay_49 : decode cX12_lay 49 = .ok (.getfield 14, 3) := by decide +kernel
theorem kw_1507 : Cond.fieldLink "LandSurveyModel" 14 "LandSurveyModel" "tape" "[I" ∈ uu := uu_in (i := 1507) (by decide +kernel) (by decide +kernel)
theorem fk_LandSurveyModel_14 : fkR "LandSurveyModel" 14 11 1 RX12 TX12 87 := ⟨rfl, rfl, inX12, by decide, kw_1507, by decide⟩
theorem dX12_lay_52 : decode cX12_lay 52 = .ok (.aload_n 0, 1) := by decide +kernel
theorem dX12_lay_53 : decode cX12_lay 53 = .ok (.getfield 11, 3) := by decide +kernel
theorem dX12_lay_56 : decode cX12_lay 56 = .ok (.iload 4, 2) := by decide +kernel
theorem dX12_lay_58 : decode cX12_lay 58 = .ok (.iastore, 1) := by decide +kernel
theorem dX12_lay_59 : decode cX12_lay 59 = .ok (.aload_n 0, 1) := by decide +kernel
theorem dX12_lay_60 : decode cX12_lay 60 = .ok (.dup, 1) := by decide +kernel
theorem dX12_lay_61 : decode cX12_lay 61 = .ok (.getfield 11, 3) := by decide +kernel
theorem dX12_lay_64 : decode cX12_lay 64 = .ok (.iconst 1, 1) := by decide +kernel
theorem dX12_lay_65 : decode cX12_lay 65 = .ok (.iadd, 1) := by decide +kernel
theorem dX12_lay_66 : decode cX12_lay 66 = .ok (.putfield 11, 3) := by decide +kernel
theorem pk_LandSurveyModel_2 : pk RX12 TX12 87 2 tyX12 false := ⟨tyX12_ok, nmX12, rfl⟩
theorem dX12_lay_24 : decode cX12_lay 24 = .ok (.iload 4, 2) := by decide +kernel
theorem dX12_lay_26 : decode cX12_lay 26 = .ok (.bipush 32, 2) := by decide +kernel
theorem dX12_lay_28 : decode cX12_lay 28 = .ok (.if_icmp .lt 41, 3) := by decide +kernel
theorem dX12_lay_31 : decode cX12_lay 31 = .ok (.iload 4, 2) := by decide +kernel
theorem dX12_lay_33 : decode cX12_lay 33 = .ok (.bipush 126, 2) := by decide +kernel
theorem dX12_lay_35 : decode cX12_lay 35 = .ok (.if_icmp .gt 34, 3) := by decide +kernel
abbrev cX12_feed : ByteArray := prog_14_method_2_code
def yX12_feed : MethodName := ⟨RX12, "feed", "(JJJ)I"⟩
theorem okX12_feed : yok yX12_feed 3 := by decide +kernel
theorem kw_1506 : Cond.fieldLink "LandSurveyModel" 1 "LandSurveyModel" "thrown" "I" ∈ uu := uu_in (i := 1506) (by decide +kernel) (by decide +kernel)
theorem fk_LandSurveyModel_1 : fkI "LandSurveyModel" 1 11 0 RX12 TX12 87 := ⟨rfl, rfl, inX12, by decide, kw_1506, by decide⟩
theorem dX12_feed_0 : decode cX12_feed 0 = .ok (.aload_n 0, 1) := by decide +kernel
theorem dX12_feed_1 : decode cX12_feed 1 = .ok (.iconst 0, 1) := by decide +kernel
theorem dX12_feed_2 : decode cX12_feed 2 = .ok (.putfield 1, 3) := by decide +kernel
theorem pk_LandSurveyModel_0 : pk RX12 TX12 87 0 tyX12 false := ⟨tyX12_ok, nmX12, rfl⟩
theorem dX12_feed_5 : decode cX12_feed 5 = .ok (.aload_n 0, 1) := by decide +kernel
theorem dX12_feed_6 : decode cX12_feed 6 = .ok (.lload_n 1, 1) := by decide +kernel
theorem dX12_feed_7 : decode cX12_feed 7 = .ok (.invokevirtual 7, 3) := by decide +kernel
theorem kw_1470 : Cond.code yX12_lay prog_14_method_3_code 5 none ∈ uu := uu_in (i := 1470) (by decide +kernel) (by decide +kernel)
theorem kw_1466 : Cond.methodLink "LandSurveyModel" 7 yX12_lay ∈ uu := uu_in (i := 1466) (by decide +kernel) (by decide +kernel)
theorem kw_1468 : Cond.instanceMethod yX12_lay ∈ uu := uu_in (i := 1468) (by decide +kernel) (by decide +kernel)
theorem kw_63 : Cond.selects "LandSurveyModel" yX12_lay yX12_lay ∈ uu := uu_in (i := 63) (by decide +kernel) (by decide +kernel)
theorem lk_LandSurveyModel_7 : lkV "LandSurveyModel" 7 yX12_lay cX12_lay 5 none 1 := ⟨kw_1466, kw_1468, kw_63, kw_152, kw_1470, okX12_lay⟩
theorem dX12_feed_10 : decode cX12_feed 10 = .ok (.aload_n 0, 1) := by decide +kernel
theorem dX12_feed_11 : decode cX12_feed 11 = .ok (.lload_n 3, 1) := by decide +kernel
theorem dX12_feed_12 : decode cX12_feed 12 = .ok (.invokevirtual 7, 3) := by decide +kernel
theorem dX12_feed_15 : decode cX12_feed 15 = .ok (.aload_n 0, 1) := by decide +kernel
theorem dX12_feed_16 : decode cX12_feed 16 = .ok (.lload 5, 2) := by decide +kernel
theorem dX12_feed_18 : decode cX12_feed 18 = .ok (.invokevirtual 7, 3) := by decide +kernel
theorem dX12_feed_21 : decode cX12_feed 21 = .ok (.aload_n 0, 1) := by decide +kernel
theorem dX12_feed_22 : decode cX12_feed 22 = .ok (.getfield 11, 3) := by decide +kernel
theorem dX12_feed_25 : decode cX12_feed 25 = .ok (.ireturn, 1) := by decide +kernel
abbrev cX12_days : ByteArray := prog_14_method_38_code
def yX12_days : MethodName := ⟨RX12, "days", "(I)I"⟩
theorem okX12_days : yok yX12_days 1 := by decide +kernel
theorem kw_1539 : Cond.fieldLink "LandSurveyModel" 342 "LandSurveyModel" "now" "I" ∈ uu := uu_in (i := 1539) (by decide +kernel) (by decide +kernel)
theorem fk_LandSurveyModel_342 : fkI "LandSurveyModel" 342 11 33 RX12 TX12 87 := ⟨rfl, rfl, inX12, by decide, kw_1539, by decide⟩
theorem kw_1541 : Cond.fieldLink "LandSurveyModel" 290 "LandSurveyModel" "isChanged" "Z" ∈ uu := uu_in (i := 1541) (by decide +kernel) (by decide +kernel)
theorem fk_LandSurveyModel_290 : fkI "LandSurveyModel" 290 11 35 RX12 TX12 87 := ⟨rfl, rfl, inX12, by decide, kw_1541, by decide⟩
theorem dX12_days_0 : decode cX12_days 0 = .ok (.aload_n 0, 1) := by decide +kernel
theorem dX12_days_1 : decode cX12_days 1 = .ok (.iconst 0, 1) := by decide +kernel
theorem dX12_days_2 : decode cX12_days 2 = .ok (.putfield 1, 3) := by decide +kernel
theorem dX12_days_5 : decode cX12_days 5 = .ok (.iload_n 1, 1) := by decide +kernel
theorem dX12_days_6 : decode cX12_days 6 = .ok (.iconst 0, 1) := by decide +kernel
theorem dX12_days_7 : decode cX12_days 7 = .ok (.sipush 1000, 3) := by decide +kernel
theorem dX12_days_10 : decode cX12_days 10 = .ok (.invokestatic 415, 3) := by decide +kernel
theorem dX12_days_13 : decode cX12_days 13 = .ok (.ifCond .eq 15, 3) := by decide +kernel
theorem dX12_days_28 : decode cX12_days 28 = .ok (.iconst (-1), 1) := by decide +kernel
theorem dX12_days_29 : decode cX12_days 29 = .ok (.ireturn, 1) := by decide +kernel
theorem dX12_days_16 : decode cX12_days 16 = .ok (.aload_n 0, 1) := by decide +kernel
theorem dX12_days_17 : decode cX12_days 17 = .ok (.getfield 342, 3) := by decide +kernel
theorem dX12_days_20 : decode cX12_days 20 = .ok (.iload_n 1, 1) := by decide +kernel
theorem dX12_days_21 : decode cX12_days 21 = .ok (.iadd, 1) := by decide +kernel
theorem dX12_days_22 : decode cX12_days 22 = .ok (.sipush 9999, 3) := by decide +kernel
theorem dX12_days_25 : decode cX12_days 25 = .ok (.if_icmp .le 5, 3) := by decide +kernel
theorem dX12_days_30 : decode cX12_days 30 = .ok (.aload_n 0, 1) := by decide +kernel
theorem dX12_days_31 : decode cX12_days 31 = .ok (.dup, 1) := by decide +kernel
theorem dX12_days_32 : decode cX12_days 32 = .ok (.getfield 342, 3) := by decide +kernel
theorem dX12_days_35 : decode cX12_days 35 = .ok (.iload_n 1, 1) := by decide +kernel
theorem dX12_days_36 : decode cX12_days 36 = .ok (.iadd, 1) := by decide +kernel
theorem dX12_days_37 : decode cX12_days 37 = .ok (.putfield 342, 3) := by decide +kernel
theorem pk_LandSurveyModel_33 : pk RX12 TX12 87 33 tyX12 false := ⟨tyX12_ok, nmX12, rfl⟩
theorem dX12_days_40 : decode cX12_days 40 = .ok (.aload_n 0, 1) := by decide +kernel
theorem dX12_days_41 : decode cX12_days 41 = .ok (.iconst 1, 1) := by decide +kernel
theorem dX12_days_42 : decode cX12_days 42 = .ok (.putfield 290, 3) := by decide +kernel
theorem pk_LandSurveyModel_35 : pk RX12 TX12 87 35 tyX12 false := ⟨tyX12_ok, nmX12, rfl⟩
theorem dX12_days_45 : decode cX12_days 45 = .ok (.aload_n 0, 1) := by decide +kernel
theorem dX12_days_46 : decode cX12_days 46 = .ok (.getfield 342, 3) := by decide +kernel
theorem dX12_days_49 : decode cX12_days 49 = .ok (.ireturn, 1) := by decide +kernel
abbrev cX12_view : ByteArray := prog_14_method_39_code
def yX12_view : MethodName := ⟨RX12, "view", "(I)Z"⟩
theorem okX12_view : yok yX12_view 1 := by decide +kernel
theorem kw_1540 : Cond.fieldLink "LandSurveyModel" 287 "LandSurveyModel" "viewed" "I" ∈ uu := uu_in (i := 1540) (by decide +kernel) (by decide +kernel)
theorem fk_LandSurveyModel_287 : fkI "LandSurveyModel" 287 11 34 RX12 TX12 87 := ⟨rfl, rfl, inX12, by decide, kw_1540, by decide⟩
theorem dX12_view_0 : decode cX12_view 0 = .ok (.aload_n 0, 1) := by decide +kernel
theorem dX12_view_1 : decode cX12_view 1 = .ok (.iconst 0, 1) := by decide +kernel
theorem dX12_view_2 : decode cX12_view 2 = .ok (.putfield 1, 3) := by decide +kernel
theorem dX12_view_5 : decode cX12_view 5 = .ok (.iload_n 1, 1) := by decide +kernel
theorem dX12_view_6 : decode cX12_view 6 = .ok (.iconst 0, 1) := by decide +kernel
theorem dX12_view_7 : decode cX12_view 7 = .ok (.aload_n 0, 1) := by decide +kernel
theorem dX12_view_8 : decode cX12_view 8 = .ok (.getfield 342, 3) := by decide +kernel
theorem dX12_view_11 : decode cX12_view 11 = .ok (.invokestatic 415, 3) := by decide +kernel
theorem dX12_view_14 : decode cX12_view 14 = .ok (.ifCond .ne 5, 3) := by decide +kernel
theorem dX12_view_19 : decode cX12_view 19 = .ok (.aload_n 0, 1) := by decide +kernel
theorem dX12_view_20 : decode cX12_view 20 = .ok (.iload_n 1, 1) := by decide +kernel
theorem dX12_view_21 : decode cX12_view 21 = .ok (.aload_n 0, 1) := by decide +kernel
theorem dX12_view_22 : decode cX12_view 22 = .ok (.getfield 342, 3) := by decide +kernel
theorem dX12_view_25 : decode cX12_view 25 = .ok (.if_icmp .ne 7, 3) := by decide +kernel
theorem dX12_view_32 : decode cX12_view 32 = .ok (.iload_n 1, 1) := by decide +kernel
theorem dX12_view_33 : decode cX12_view 33 = .ok (.putfield 287, 3) := by decide +kernel
theorem pk_LandSurveyModel_34 : pk RX12 TX12 87 34 tyX12 false := ⟨tyX12_ok, nmX12, rfl⟩
theorem dX12_view_36 : decode cX12_view 36 = .ok (.aload_n 0, 1) := by decide +kernel
theorem dX12_view_37 : decode cX12_view 37 = .ok (.iconst 1, 1) := by decide +kernel
theorem dX12_view_38 : decode cX12_view 38 = .ok (.putfield 290, 3) := by decide +kernel
theorem dX12_view_41 : decode cX12_view 41 = .ok (.iconst 1, 1) := by decide +kernel
theorem dX12_view_42 : decode cX12_view 42 = .ok (.ireturn, 1) := by decide +kernel
theorem dX12_view_28 : decode cX12_view 28 = .ok (.iconst (-1), 1) := by decide +kernel
theorem dX12_view_29 : decode cX12_view 29 = .ok (.goto 4, 3) := by decide +kernel
theorem dX12_view_17 : decode cX12_view 17 = .ok (.iconst 0, 1) := by decide +kernel
theorem dX12_view_18 : decode cX12_view 18 = .ok (.ireturn, 1) := by decide +kernel
abbrev cX12_isSight : ByteArray := prog_14_method_45_code
def yX12_isSight : MethodName := ⟨RX12, "isSight", "(I)Z"⟩
theorem okX12_isSight : yok yX12_isSight 1 := by decide +kernel
theorem dX12_isSight_0 : decode cX12_isSight 0 = .ok (.iload_n 1, 1) := by decide +kernel
theorem dX12_isSight_1 : decode cX12_isSight 1 = .ok (.ifCond .lt 15, 3) := by decide +kernel
theorem dX12_isSight_16 : decode cX12_isSight 16 = .ok (.iconst 0, 1) := by decide +kernel
theorem dX12_isSight_17 : decode cX12_isSight 17 = .ok (.ireturn, 1) := by decide +kernel
theorem dX12_isSight_4 : decode cX12_isSight 4 = .ok (.iload_n 1, 1) := by decide +kernel
theorem dX12_isSight_5 : decode cX12_isSight 5 = .ok (.aload_n 0, 1) := by decide +kernel
theorem dX12_isSight_6 : decode cX12_isSight 6 = .ok (.getfield 423, 3) := by decide +kernel
theorem kw_1546 : Cond.fieldLink "LandSurveyModel" 423 "LandSurveyModel" "sights" "I" ∈ uu := uu_in (i := 1546) (by decide +kernel) (by decide +kernel)
theorem fk_LandSurveyModel_423 : fkI "LandSurveyModel" 423 11 40 RX12 TX12 87 := ⟨rfl, rfl, inX12, by decide, kw_1546, by decide⟩
theorem dX12_isSight_9 : decode cX12_isSight 9 = .ok (.if_icmp .ge 7, 3) := by decide +kernel
theorem dX12_isSight_12 : decode cX12_isSight 12 = .ok (.iconst 1, 1) := by decide +kernel
theorem dX12_isSight_13 : decode cX12_isSight 13 = .ok (.goto 4, 3) := by decide +kernel
abbrev cX12_cell : ByteArray := prog_14_method_41_code
def yX12_cell : MethodName := ⟨RX12, "cell", "(IIIZ)Z"⟩
theorem okX12_cell : yok yX12_cell 4 := by decide +kernel
theorem dX12_cell_0 : decode cX12_cell 0 = .ok (.aload_n 0, 1) := by decide +kernel
theorem dX12_cell_1 : decode cX12_cell 1 = .ok (.iconst 0, 1) := by decide +kernel
theorem dX12_cell_2 : decode cX12_cell 2 = .ok (.putfield 1, 3) := by decide +kernel
theorem dX12_cell_5 : decode cX12_cell 5 = .ok (.iload_n 1, 1) := by decide +kernel
theorem dX12_cell_6 : decode cX12_cell 6 = .ok (.iload_n 2, 1) := by decide +kernel
theorem dX12_cell_7 : decode cX12_cell 7 = .ok (.invokestatic 419, 3) := by decide +kernel
theorem kw_1901 : Cond.code yX12_isCell prog_14_method_37_code 2 (some .boolean) ∈ uu := uu_in (i := 1901) (by decide +kernel) (by decide +kernel)
theorem kw_1899 : Cond.methodLink "LandSurveyModel" 419 yX12_isCell ∈ uu := uu_in (i := 1899) (by decide +kernel) (by decide +kernel)
theorem kw_1900 : Cond.static yX12_isCell ∈ uu := uu_in (i := 1900) (by decide +kernel) (by decide +kernel)
theorem lk_LandSurveyModel_419 : lkS "LandSurveyModel" 419 yX12_isCell cX12_isCell 2 (some .boolean) 2 := ⟨kw_1899, kw_1900, kw_152, kw_1901, okX12_isCell⟩
theorem dX12_cell_10 : decode cX12_cell 10 = .ok (.ifCond .eq 14, 3) := by decide +kernel
theorem dX12_cell_24 : decode cX12_cell 24 = .ok (.iconst 0, 1) := by decide +kernel
theorem dX12_cell_25 : decode cX12_cell 25 = .ok (.ireturn, 1) := by decide +kernel
theorem dX12_cell_13 : decode cX12_cell 13 = .ok (.iload_n 3, 1) := by decide +kernel
theorem dX12_cell_14 : decode cX12_cell 14 = .ok (.iconst 0, 1) := by decide +kernel
theorem dX12_cell_15 : decode cX12_cell 15 = .ok (.sipush 999, 3) := by decide +kernel
theorem dX12_cell_18 : decode cX12_cell 18 = .ok (.invokestatic 415, 3) := by decide +kernel
theorem dX12_cell_21 : decode cX12_cell 21 = .ok (.ifCond .ne 5, 3) := by decide +kernel
theorem dX12_cell_26 : decode cX12_cell 26 = .ok (.aload_n 0, 1) := by decide +kernel
theorem dX12_cell_27 : decode cX12_cell 27 = .ok (.getfield 161, 3) := by decide +kernel
theorem kw_1542 : Cond.fieldLink "LandSurveyModel" 161 "LandSurveyModel" "heights" "[I" ∈ uu := uu_in (i := 1542) (by decide +kernel) (by decide +kernel)
theorem fk_LandSurveyModel_161 : fkR "LandSurveyModel" 161 11 36 RX12 TX12 87 := ⟨rfl, rfl, inX12, by decide, kw_1542, by decide⟩
theorem dX12_cell_30 : decode cX12_cell 30 = .ok (.bipush 12, 2) := by decide +kernel
theorem dX12_cell_32 : decode cX12_cell 32 = .ok (.iload_n 2, 1) := by decide +kernel
theorem dX12_cell_33 : decode cX12_cell 33 = .ok (.imul, 1) := by decide +kernel
theorem dX12_cell_34 : decode cX12_cell 34 = .ok (.iload_n 1, 1) := by decide +kernel
theorem dX12_cell_35 : decode cX12_cell 35 = .ok (.iadd, 1) := by decide +kernel
theorem dX12_cell_36 : decode cX12_cell 36 = .ok (.iload_n 3, 1) := by decide +kernel
theorem dX12_cell_37 : decode cX12_cell 37 = .ok (.iastore, 1) := by decide +kernel
theorem dX12_cell_38 : decode cX12_cell 38 = .ok (.aload_n 0, 1) := by decide +kernel
theorem dX12_cell_39 : decode cX12_cell 39 = .ok (.getfield 164, 3) := by decide +kernel
theorem kw_1543 : Cond.fieldLink "LandSurveyModel" 164 "LandSurveyModel" "isBare" "[Z" ∈ uu := uu_in (i := 1543) (by decide +kernel) (by decide +kernel)
theorem fk_LandSurveyModel_164 : fkR "LandSurveyModel" 164 11 37 RX12 TX12 87 := ⟨rfl, rfl, inX12, by decide, kw_1543, by decide⟩
theorem dX12_cell_42 : decode cX12_cell 42 = .ok (.bipush 12, 2) := by decide +kernel
theorem dX12_cell_44 : decode cX12_cell 44 = .ok (.iload_n 2, 1) := by decide +kernel
theorem dX12_cell_45 : decode cX12_cell 45 = .ok (.imul, 1) := by decide +kernel
theorem dX12_cell_46 : decode cX12_cell 46 = .ok (.iload_n 1, 1) := by decide +kernel
theorem dX12_cell_47 : decode cX12_cell 47 = .ok (.iadd, 1) := by decide +kernel
theorem dX12_cell_48 : decode cX12_cell 48 = .ok (.iload 4, 2) := by decide +kernel
theorem dX12_cell_50 : decode cX12_cell 50 = .ok (.bastore, 1) := by decide +kernel
theorem dX12_cell_51 : decode cX12_cell 51 = .ok (.aload_n 0, 1) := by decide +kernel
theorem dX12_cell_52 : decode cX12_cell 52 = .ok (.iconst 1, 1) := by decide +kernel
theorem dX12_cell_53 : decode cX12_cell 53 = .ok (.putfield 290, 3) := by decide +kernel
theorem dX12_cell_56 : decode cX12_cell 56 = .ok (.iconst 1, 1) := by decide +kernel
theorem dX12_cell_57 : decode cX12_cell 57 = .ok (.ireturn, 1) := by decide +kernel
abbrev cX12_fold : ByteArray := prog_14_method_42_code
def yX12_fold : MethodName := ⟨RX12, "fold", "(IIZ)Z"⟩
theorem okX12_fold : yok yX12_fold 3 := by decide +kernel
theorem dX12_fold_0 : decode cX12_fold 0 = .ok (.aload_n 0, 1) := by decide +kernel
theorem dX12_fold_1 : decode cX12_fold 1 = .ok (.iconst 0, 1) := by decide +kernel
theorem dX12_fold_2 : decode cX12_fold 2 = .ok (.putfield 1, 3) := by decide +kernel
theorem dX12_fold_5 : decode cX12_fold 5 = .ok (.iload_n 1, 1) := by decide +kernel
theorem dX12_fold_6 : decode cX12_fold 6 = .ok (.iload_n 2, 1) := by decide +kernel
theorem dX12_fold_7 : decode cX12_fold 7 = .ok (.invokestatic 419, 3) := by decide +kernel
theorem dX12_fold_10 : decode cX12_fold 10 = .ok (.ifCond .ne 5, 3) := by decide +kernel
theorem dX12_fold_15 : decode cX12_fold 15 = .ok (.aload_n 0, 1) := by decide +kernel
theorem dX12_fold_16 : decode cX12_fold 16 = .ok (.getfield 167, 3) := by decide +kernel
theorem kw_1544 : Cond.fieldLink "LandSurveyModel" 167 "LandSurveyModel" "isTurned" "[Z" ∈ uu := uu_in (i := 1544) (by decide +kernel) (by decide +kernel)
theorem fk_LandSurveyModel_167 : fkR "LandSurveyModel" 167 11 38 RX12 TX12 87 := ⟨rfl, rfl, inX12, by decide, kw_1544, by decide⟩
theorem dX12_fold_19 : decode cX12_fold 19 = .ok (.bipush 12, 2) := by decide +kernel
theorem dX12_fold_21 : decode cX12_fold 21 = .ok (.iload_n 2, 1) := by decide +kernel
theorem dX12_fold_22 : decode cX12_fold 22 = .ok (.imul, 1) := by decide +kernel
theorem dX12_fold_23 : decode cX12_fold 23 = .ok (.iload_n 1, 1) := by decide +kernel
theorem dX12_fold_24 : decode cX12_fold 24 = .ok (.iadd, 1) := by decide +kernel
theorem dX12_fold_25 : decode cX12_fold 25 = .ok (.iload_n 3, 1) := by decide +kernel
theorem dX12_fold_26 : decode cX12_fold 26 = .ok (.bastore, 1) := by decide +kernel
theorem dX12_fold_27 : decode cX12_fold 27 = .ok (.aload_n 0, 1) := by decide +kernel
theorem dX12_fold_28 : decode cX12_fold 28 = .ok (.iconst 1, 1) := by decide +kernel
theorem dX12_fold_29 : decode cX12_fold 29 = .ok (.putfield 290, 3) := by decide +kernel
theorem dX12_fold_32 : decode cX12_fold 32 = .ok (.iconst 1, 1) := by decide +kernel
theorem dX12_fold_33 : decode cX12_fold 33 = .ok (.ireturn, 1) := by decide +kernel
theorem dX12_fold_13 : decode cX12_fold 13 = .ok (.iconst 0, 1) := by decide +kernel
theorem dX12_fold_14 : decode cX12_fold 14 = .ok (.ireturn, 1) := by decide +kernel
abbrev cX12_own : ByteArray := prog_14_method_43_code
def yX12_own : MethodName := ⟨RX12, "own", "(III)Z"⟩
theorem okX12_own : yok yX12_own 3 := by decide +kernel
theorem dX12_own_0 : decode cX12_own 0 = .ok (.aload_n 0, 1) := by decide +kernel
theorem dX12_own_1 : decode cX12_own 1 = .ok (.iconst 0, 1) := by decide +kernel
theorem dX12_own_2 : decode cX12_own 2 = .ok (.putfield 1, 3) := by decide +kernel
theorem dX12_own_5 : decode cX12_own 5 = .ok (.iload_n 1, 1) := by decide +kernel
theorem dX12_own_6 : decode cX12_own 6 = .ok (.iload_n 2, 1) := by decide +kernel
theorem dX12_own_7 : decode cX12_own 7 = .ok (.invokestatic 419, 3) := by decide +kernel
theorem dX12_own_10 : decode cX12_own 10 = .ok (.ifCond .eq 12, 3) := by decide +kernel
theorem dX12_own_22 : decode cX12_own 22 = .ok (.iconst 0, 1) := by decide +kernel
theorem dX12_own_23 : decode cX12_own 23 = .ok (.ireturn, 1) := by decide +kernel
theorem dX12_own_13 : decode cX12_own 13 = .ok (.iload_n 3, 1) := by decide +kernel
theorem dX12_own_14 : decode cX12_own 14 = .ok (.iconst (-1), 1) := by decide +kernel
theorem dX12_own_15 : decode cX12_own 15 = .ok (.iconst 3, 1) := by decide +kernel
theorem dX12_own_16 : decode cX12_own 16 = .ok (.invokestatic 415, 3) := by decide +kernel
theorem dX12_own_19 : decode cX12_own 19 = .ok (.ifCond .ne 5, 3) := by decide +kernel
theorem dX12_own_24 : decode cX12_own 24 = .ok (.aload_n 0, 1) := by decide +kernel
theorem dX12_own_25 : decode cX12_own 25 = .ok (.getfield 170, 3) := by decide +kernel
theorem kw_1545 : Cond.fieldLink "LandSurveyModel" 170 "LandSurveyModel" "owners" "[I" ∈ uu := uu_in (i := 1545) (by decide +kernel) (by decide +kernel)
theorem fk_LandSurveyModel_170 : fkR "LandSurveyModel" 170 11 39 RX12 TX12 87 := ⟨rfl, rfl, inX12, by decide, kw_1545, by decide⟩
theorem dX12_own_28 : decode cX12_own 28 = .ok (.bipush 12, 2) := by decide +kernel
theorem dX12_own_30 : decode cX12_own 30 = .ok (.iload_n 2, 1) := by decide +kernel
theorem dX12_own_31 : decode cX12_own 31 = .ok (.imul, 1) := by decide +kernel
theorem dX12_own_32 : decode cX12_own 32 = .ok (.iload_n 1, 1) := by decide +kernel
theorem dX12_own_33 : decode cX12_own 33 = .ok (.iadd, 1) := by decide +kernel
theorem dX12_own_34 : decode cX12_own 34 = .ok (.iload_n 3, 1) := by decide +kernel
theorem dX12_own_35 : decode cX12_own 35 = .ok (.iastore, 1) := by decide +kernel
theorem dX12_own_36 : decode cX12_own 36 = .ok (.iconst 1, 1) := by decide +kernel
theorem dX12_own_37 : decode cX12_own 37 = .ok (.ireturn, 1) := by decide +kernel
abbrev cX12_sight : ByteArray := prog_14_method_44_code
def yX12_sight : MethodName := ⟨RX12, "sight", "(IIIIII)I"⟩
theorem okX12_sight : yok yX12_sight 6 := by decide +kernel
theorem dX12_sight_0 : decode cX12_sight 0 = .ok (.aload_n 0, 1) := by decide +kernel
theorem dX12_sight_1 : decode cX12_sight 1 = .ok (.iconst 0, 1) := by decide +kernel
theorem dX12_sight_2 : decode cX12_sight 2 = .ok (.putfield 1, 3) := by decide +kernel
theorem dX12_sight_5 : decode cX12_sight 5 = .ok (.iload_n 1, 1) := by decide +kernel
theorem dX12_sight_6 : decode cX12_sight 6 = .ok (.iconst 0, 1) := by decide +kernel
theorem dX12_sight_7 : decode cX12_sight 7 = .ok (.iconst 4, 1) := by decide +kernel
theorem dX12_sight_8 : decode cX12_sight 8 = .ok (.invokestatic 415, 3) := by decide +kernel
theorem dX12_sight_11 : decode cX12_sight 11 = .ok (.ifCond .eq 58, 3) := by decide +kernel
theorem dX12_sight_69 : decode cX12_sight 69 = .ok (.iconst 0, 1) := by decide +kernel
theorem dX12_sight_70 : decode cX12_sight 70 = .ok (.istore 7, 2) := by decide +kernel
theorem dX12_sight_72 : decode cX12_sight 72 = .ok (.iload 7, 2) := by decide +kernel
theorem dX12_sight_74 : decode cX12_sight 74 = .ok (.ifCond .eq 30, 3) := by decide +kernel
theorem dX12_sight_104 : decode cX12_sight 104 = .ok (.iconst (-1), 1) := by decide +kernel
theorem dX12_sight_105 : decode cX12_sight 105 = .ok (.ireturn, 1) := by decide +kernel
theorem dX12_sight_14 : decode cX12_sight 14 = .ok (.iload_n 2, 1) := by decide +kernel
theorem dX12_sight_15 : decode cX12_sight 15 = .ok (.iload_n 3, 1) := by decide +kernel
theorem dX12_sight_16 : decode cX12_sight 16 = .ok (.invokestatic 419, 3) := by decide +kernel
theorem dX12_sight_19 : decode cX12_sight 19 = .ok (.ifCond .eq 50, 3) := by decide +kernel
theorem dX12_sight_22 : decode cX12_sight 22 = .ok (.iload 4, 2) := by decide +kernel
theorem dX12_sight_24 : decode cX12_sight 24 = .ok (.iconst 0, 1) := by decide +kernel
theorem dX12_sight_25 : decode cX12_sight 25 = .ok (.iload_n 1, 1) := by decide +kernel
theorem dX12_sight_26 : decode cX12_sight 26 = .ok (.iconst 2, 1) := by decide +kernel
theorem dX12_sight_27 : decode cX12_sight 27 = .ok (.if_icmp .ge 7, 3) := by decide +kernel
theorem dX12_sight_34 : decode cX12_sight 34 = .ok (.sipush 999, 3) := by decide +kernel
theorem dX12_sight_37 : decode cX12_sight 37 = .ok (.invokestatic 415, 3) := by decide +kernel
theorem dX12_sight_40 : decode cX12_sight 40 = .ok (.ifCond .eq 29, 3) := by decide +kernel
theorem dX12_sight_43 : decode cX12_sight 43 = .ok (.iload 5, 2) := by decide +kernel
theorem dX12_sight_45 : decode cX12_sight 45 = .ok (.iconst 0, 1) := by decide +kernel
theorem dX12_sight_46 : decode cX12_sight 46 = .ok (.iconst 5, 1) := by decide +kernel
theorem dX12_sight_47 : decode cX12_sight 47 = .ok (.invokestatic 415, 3) := by decide +kernel
theorem dX12_sight_50 : decode cX12_sight 50 = .ok (.ifCond .eq 19, 3) := by decide +kernel
theorem dX12_sight_53 : decode cX12_sight 53 = .ok (.iload 6, 2) := by decide +kernel
theorem dX12_sight_55 : decode cX12_sight 55 = .ok (.iconst 0, 1) := by decide +kernel
theorem dX12_sight_56 : decode cX12_sight 56 = .ok (.sipush 9999, 3) := by decide +kernel
theorem dX12_sight_59 : decode cX12_sight 59 = .ok (.invokestatic 415, 3) := by decide +kernel
theorem dX12_sight_62 : decode cX12_sight 62 = .ok (.ifCond .eq 7, 3) := by decide +kernel
theorem dX12_sight_65 : decode cX12_sight 65 = .ok (.iconst 1, 1) := by decide +kernel
theorem dX12_sight_66 : decode cX12_sight 66 = .ok (.goto 4, 3) := by decide +kernel
theorem dX12_sight_77 : decode cX12_sight 77 = .ok (.iload_n 1, 1) := by decide +kernel
theorem dX12_sight_78 : decode cX12_sight 78 = .ok (.ifCond .ne 17, 3) := by decide +kernel
theorem dX12_sight_95 : decode cX12_sight 95 = .ok (.aload_n 0, 1) := by decide +kernel
theorem dX12_sight_96 : decode cX12_sight 96 = .ok (.getfield 423, 3) := by decide +kernel
theorem dX12_sight_99 : decode cX12_sight 99 = .ok (.bipush 40, 2) := by decide +kernel
theorem dX12_sight_101 : decode cX12_sight 101 = .ok (.if_icmp .ne 5, 3) := by decide +kernel
theorem dX12_sight_106 : decode cX12_sight 106 = .ok (.aload_n 0, 1) := by decide +kernel
theorem dX12_sight_107 : decode cX12_sight 107 = .ok (.getfield 173, 3) := by decide +kernel
theorem kw_1547 : Cond.fieldLink "LandSurveyModel" 173 "LandSurveyModel" "kindOf" "[I" ∈ uu := uu_in (i := 1547) (by decide +kernel) (by decide +kernel)
theorem fk_LandSurveyModel_173 : fkR "LandSurveyModel" 173 11 41 RX12 TX12 87 := ⟨rfl, rfl, inX12, by decide, kw_1547, by decide⟩
theorem dX12_sight_110 : decode cX12_sight 110 = .ok (.aload_n 0, 1) := by decide +kernel
theorem dX12_sight_111 : decode cX12_sight 111 = .ok (.getfield 423, 3) := by decide +kernel
theorem dX12_sight_114 : decode cX12_sight 114 = .ok (.iload_n 1, 1) := by decide +kernel
theorem dX12_sight_115 : decode cX12_sight 115 = .ok (.iastore, 1) := by decide +kernel
theorem dX12_sight_116 : decode cX12_sight 116 = .ok (.aload_n 0, 1) := by decide +kernel
theorem dX12_sight_117 : decode cX12_sight 117 = .ok (.getfield 176, 3) := by decide +kernel
theorem kw_1548 : Cond.fieldLink "LandSurveyModel" 176 "LandSurveyModel" "cellOf" "[I" ∈ uu := uu_in (i := 1548) (by decide +kernel) (by decide +kernel)
theorem fk_LandSurveyModel_176 : fkR "LandSurveyModel" 176 11 42 RX12 TX12 87 := ⟨rfl, rfl, inX12, by decide, kw_1548, by decide⟩
theorem dX12_sight_120 : decode cX12_sight 120 = .ok (.aload_n 0, 1) := by decide +kernel
theorem dX12_sight_121 : decode cX12_sight 121 = .ok (.getfield 423, 3) := by decide +kernel
theorem dX12_sight_124 : decode cX12_sight 124 = .ok (.bipush 12, 2) := by decide +kernel
theorem dX12_sight_126 : decode cX12_sight 126 = .ok (.iload_n 3, 1) := by decide +kernel
theorem dX12_sight_127 : decode cX12_sight 127 = .ok (.imul, 1) := by decide +kernel
theorem dX12_sight_128 : decode cX12_sight 128 = .ok (.iload_n 2, 1) := by decide +kernel
theorem dX12_sight_129 : decode cX12_sight 129 = .ok (.iadd, 1) := by decide +kernel
theorem dX12_sight_130 : decode cX12_sight 130 = .ok (.iastore, 1) := by decide +kernel
theorem dX12_sight_131 : decode cX12_sight 131 = .ok (.aload_n 0, 1) := by decide +kernel
theorem dX12_sight_132 : decode cX12_sight 132 = .ok (.getfield 179, 3) := by decide +kernel
theorem kw_1549 : Cond.fieldLink "LandSurveyModel" 179 "LandSurveyModel" "depthOf" "[I" ∈ uu := uu_in (i := 1549) (by decide +kernel) (by decide +kernel)
theorem fk_LandSurveyModel_179 : fkR "LandSurveyModel" 179 11 43 RX12 TX12 87 := ⟨rfl, rfl, inX12, by decide, kw_1549, by decide⟩
theorem dX12_sight_135 : decode cX12_sight 135 = .ok (.aload_n 0, 1) := by decide +kernel
theorem dX12_sight_136 : decode cX12_sight 136 = .ok (.getfield 423, 3) := by decide +kernel
theorem dX12_sight_139 : decode cX12_sight 139 = .ok (.iload 4, 2) := by decide +kernel
theorem dX12_sight_141 : decode cX12_sight 141 = .ok (.iastore, 1) := by decide +kernel
theorem dX12_sight_142 : decode cX12_sight 142 = .ok (.aload_n 0, 1) := by decide +kernel
theorem dX12_sight_143 : decode cX12_sight 143 = .ok (.getfield 182, 3) := by decide +kernel
theorem kw_1550 : Cond.fieldLink "LandSurveyModel" 182 "LandSurveyModel" "handOf" "[I" ∈ uu := uu_in (i := 1550) (by decide +kernel) (by decide +kernel)
theorem fk_LandSurveyModel_182 : fkR "LandSurveyModel" 182 11 44 RX12 TX12 87 := ⟨rfl, rfl, inX12, by decide, kw_1550, by decide⟩
theorem dX12_sight_146 : decode cX12_sight 146 = .ok (.aload_n 0, 1) := by decide +kernel
theorem dX12_sight_147 : decode cX12_sight 147 = .ok (.getfield 423, 3) := by decide +kernel
theorem dX12_sight_150 : decode cX12_sight 150 = .ok (.iload 5, 2) := by decide +kernel
theorem dX12_sight_152 : decode cX12_sight 152 = .ok (.iastore, 1) := by decide +kernel
theorem dX12_sight_153 : decode cX12_sight 153 = .ok (.aload_n 0, 1) := by decide +kernel
theorem dX12_sight_154 : decode cX12_sight 154 = .ok (.getfield 185, 3) := by decide +kernel
theorem kw_1551 : Cond.fieldLink "LandSurveyModel" 185 "LandSurveyModel" "facts" "[I" ∈ uu := uu_in (i := 1551) (by decide +kernel) (by decide +kernel)
theorem fk_LandSurveyModel_185 : fkR "LandSurveyModel" 185 11 45 RX12 TX12 87 := ⟨rfl, rfl, inX12, by decide, kw_1551, by decide⟩
theorem dX12_sight_157 : decode cX12_sight 157 = .ok (.aload_n 0, 1) := by decide +kernel
theorem dX12_sight_158 : decode cX12_sight 158 = .ok (.getfield 423, 3) := by decide +kernel
theorem dX12_sight_161 : decode cX12_sight 161 = .ok (.iload 6, 2) := by decide +kernel
theorem dX12_sight_163 : decode cX12_sight 163 = .ok (.iastore, 1) := by decide +kernel
theorem dX12_sight_164 : decode cX12_sight 164 = .ok (.aload_n 0, 1) := by decide +kernel
theorem dX12_sight_165 : decode cX12_sight 165 = .ok (.getfield 188, 3) := by decide +kernel
theorem kw_1552 : Cond.fieldLink "LandSurveyModel" 188 "LandSurveyModel" "toldOn" "[I" ∈ uu := uu_in (i := 1552) (by decide +kernel) (by decide +kernel)
theorem fk_LandSurveyModel_188 : fkR "LandSurveyModel" 188 11 46 RX12 TX12 87 := ⟨rfl, rfl, inX12, by decide, kw_1552, by decide⟩
theorem dX12_sight_168 : decode cX12_sight 168 = .ok (.aload_n 0, 1) := by decide +kernel
theorem dX12_sight_169 : decode cX12_sight 169 = .ok (.getfield 423, 3) := by decide +kernel
theorem dX12_sight_172 : decode cX12_sight 172 = .ok (.aload_n 0, 1) := by decide +kernel
theorem dX12_sight_173 : decode cX12_sight 173 = .ok (.getfield 342, 3) := by decide +kernel
theorem dX12_sight_176 : decode cX12_sight 176 = .ok (.iastore, 1) := by decide +kernel
theorem dX12_sight_177 : decode cX12_sight 177 = .ok (.aload_n 0, 1) := by decide +kernel
theorem dX12_sight_178 : decode cX12_sight 178 = .ok (.getfield 191, 3) := by decide +kernel
theorem kw_1553 : Cond.fieldLink "LandSurveyModel" 191 "LandSurveyModel" "goneOn" "[I" ∈ uu := uu_in (i := 1553) (by decide +kernel) (by decide +kernel)
theorem fk_LandSurveyModel_191 : fkR "LandSurveyModel" 191 11 47 RX12 TX12 87 := ⟨rfl, rfl, inX12, by decide, kw_1553, by decide⟩
theorem dX12_sight_181 : decode cX12_sight 181 = .ok (.aload_n 0, 1) := by decide +kernel
theorem dX12_sight_182 : decode cX12_sight 182 = .ok (.getfield 423, 3) := by decide +kernel
theorem dX12_sight_185 : decode cX12_sight 185 = .ok (.iconst (-1), 1) := by decide +kernel
theorem dX12_sight_186 : decode cX12_sight 186 = .ok (.iastore, 1) := by decide +kernel
theorem dX12_sight_187 : decode cX12_sight 187 = .ok (.aload_n 0, 1) := by decide +kernel
theorem dX12_sight_188 : decode cX12_sight 188 = .ok (.getfield 194, 3) := by decide +kernel
theorem kw_1554 : Cond.fieldLink "LandSurveyModel" 194 "LandSurveyModel" "dipTo" "[I" ∈ uu := uu_in (i := 1554) (by decide +kernel) (by decide +kernel)
theorem fk_LandSurveyModel_194 : fkR "LandSurveyModel" 194 11 48 RX12 TX12 87 := ⟨rfl, rfl, inX12, by decide, kw_1554, by decide⟩
theorem dX12_sight_191 : decode cX12_sight 191 = .ok (.aload_n 0, 1) := by decide +kernel
theorem dX12_sight_192 : decode cX12_sight 192 = .ok (.getfield 423, 3) := by decide +kernel
theorem dX12_sight_195 : decode cX12_sight 195 = .ok (.iconst (-1), 1) := by decide +kernel
theorem dX12_sight_196 : decode cX12_sight 196 = .ok (.iastore, 1) := by decide +kernel
theorem dX12_sight_197 : decode cX12_sight 197 = .ok (.aload_n 0, 1) := by decide +kernel
theorem dX12_sight_198 : decode cX12_sight 198 = .ok (.getfield 203, 3) := by decide +kernel
theorem kw_1557 : Cond.fieldLink "LandSurveyModel" 203 "LandSurveyModel" "remainOf" "[I" ∈ uu := uu_in (i := 1557) (by decide +kernel) (by decide +kernel)
theorem fk_LandSurveyModel_203 : fkR "LandSurveyModel" 203 11 51 RX12 TX12 87 := ⟨rfl, rfl, inX12, by decide, kw_1557, by decide⟩
theorem dX12_sight_201 : decode cX12_sight 201 = .ok (.aload_n 0, 1) := by decide +kernel
theorem dX12_sight_202 : decode cX12_sight 202 = .ok (.getfield 423, 3) := by decide +kernel
theorem dX12_sight_205 : decode cX12_sight 205 = .ok (.iconst (-1), 1) := by decide +kernel
theorem dX12_sight_206 : decode cX12_sight 206 = .ok (.iastore, 1) := by decide +kernel
theorem dX12_sight_207 : decode cX12_sight 207 = .ok (.aload_n 0, 1) := by decide +kernel
theorem dX12_sight_208 : decode cX12_sight 208 = .ok (.dup, 1) := by decide +kernel
theorem dX12_sight_209 : decode cX12_sight 209 = .ok (.getfield 423, 3) := by decide +kernel
theorem dX12_sight_212 : decode cX12_sight 212 = .ok (.iconst 1, 1) := by decide +kernel
theorem dX12_sight_213 : decode cX12_sight 213 = .ok (.iadd, 1) := by decide +kernel
theorem dX12_sight_214 : decode cX12_sight 214 = .ok (.putfield 423, 3) := by decide +kernel
theorem pk_LandSurveyModel_40 : pk RX12 TX12 87 40 tyX12 false := ⟨tyX12_ok, nmX12, rfl⟩
theorem dX12_sight_217 : decode cX12_sight 217 = .ok (.aload_n 0, 1) := by decide +kernel
theorem dX12_sight_218 : decode cX12_sight 218 = .ok (.iconst 1, 1) := by decide +kernel
theorem dX12_sight_219 : decode cX12_sight 219 = .ok (.putfield 290, 3) := by decide +kernel
theorem dX12_sight_222 : decode cX12_sight 222 = .ok (.aload_n 0, 1) := by decide +kernel
theorem dX12_sight_223 : decode cX12_sight 223 = .ok (.getfield 423, 3) := by decide +kernel
theorem dX12_sight_226 : decode cX12_sight 226 = .ok (.iconst 1, 1) := by decide +kernel
theorem dX12_sight_227 : decode cX12_sight 227 = .ok (.isub, 1) := by decide +kernel
theorem dX12_sight_228 : decode cX12_sight 228 = .ok (.ireturn, 1) := by decide +kernel
theorem dX12_sight_30 : decode cX12_sight 30 = .ok (.iconst 0, 1) := by decide +kernel
theorem dX12_sight_31 : decode cX12_sight 31 = .ok (.goto 6, 3) := by decide +kernel
theorem dX12_sight_81 : decode cX12_sight 81 = .ok (.aload_n 0, 1) := by decide +kernel
theorem dX12_sight_82 : decode cX12_sight 82 = .ok (.getfield 164, 3) := by decide +kernel
theorem dX12_sight_85 : decode cX12_sight 85 = .ok (.bipush 12, 2) := by decide +kernel
theorem dX12_sight_87 : decode cX12_sight 87 = .ok (.iload_n 3, 1) := by decide +kernel
theorem dX12_sight_88 : decode cX12_sight 88 = .ok (.imul, 1) := by decide +kernel
theorem dX12_sight_89 : decode cX12_sight 89 = .ok (.iload_n 2, 1) := by decide +kernel
theorem dX12_sight_90 : decode cX12_sight 90 = .ok (.iadd, 1) := by decide +kernel
theorem dX12_sight_91 : decode cX12_sight 91 = .ok (.baload, 1) := by decide +kernel
theorem dX12_sight_92 : decode cX12_sight 92 = .ok (.ifCond .eq 12, 3) := by decide +kernel
abbrev cX12_dip : ByteArray := prog_14_method_46_code
def yX12_dip : MethodName := ⟨RX12, "dip", "(IIII)Z"⟩
theorem okX12_dip : yok yX12_dip 4 := by decide +kernel
theorem dX12_dip_0 : decode cX12_dip 0 = .ok (.aload_n 0, 1) := by decide +kernel
theorem dX12_dip_1 : decode cX12_dip 1 = .ok (.iconst 0, 1) := by decide +kernel
theorem dX12_dip_2 : decode cX12_dip 2 = .ok (.putfield 1, 3) := by decide +kernel
theorem dX12_dip_5 : decode cX12_dip 5 = .ok (.aload_n 0, 1) := by decide +kernel
theorem dX12_dip_6 : decode cX12_dip 6 = .ok (.iload_n 1, 1) := by decide +kernel
theorem dX12_dip_7 : decode cX12_dip 7 = .ok (.invokevirtual 426, 3) := by decide +kernel
theorem kw_1921 : Cond.code yX12_isSight prog_14_method_45_code 2 (some .boolean) ∈ uu := uu_in (i := 1921) (by decide +kernel) (by decide +kernel)
theorem kw_1918 : Cond.methodLink "LandSurveyModel" 426 yX12_isSight ∈ uu := uu_in (i := 1918) (by decide +kernel) (by decide +kernel)
theorem kw_1920 : Cond.instanceMethod yX12_isSight ∈ uu := uu_in (i := 1920) (by decide +kernel) (by decide +kernel)
theorem kw_88 : Cond.selects "LandSurveyModel" yX12_isSight yX12_isSight ∈ uu := uu_in (i := 88) (by decide +kernel) (by decide +kernel)
theorem lk_LandSurveyModel_426 : lkV "LandSurveyModel" 426 yX12_isSight cX12_isSight 2 (some .boolean) 1 := ⟨kw_1918, kw_1920, kw_88, kw_152, kw_1921, okX12_isSight⟩
theorem dX12_dip_10 : decode cX12_dip 10 = .ok (.ifCond .eq 43, 3) := by decide +kernel
theorem dX12_dip_53 : decode cX12_dip 53 = .ok (.iconst 0, 1) := by decide +kernel
theorem dX12_dip_54 : decode cX12_dip 54 = .ok (.ireturn, 1) := by decide +kernel
theorem dX12_dip_13 : decode cX12_dip 13 = .ok (.iload_n 2, 1) := by decide +kernel
theorem dX12_dip_14 : decode cX12_dip 14 = .ok (.iconst 0, 1) := by decide +kernel
theorem dX12_dip_15 : decode cX12_dip 15 = .ok (.iconst 3, 1) := by decide +kernel
theorem dX12_dip_16 : decode cX12_dip 16 = .ok (.invokestatic 415, 3) := by decide +kernel
theorem dX12_dip_19 : decode cX12_dip 19 = .ok (.ifCond .eq 34, 3) := by decide +kernel
theorem dX12_dip_22 : decode cX12_dip 22 = .ok (.iload_n 3, 1) := by decide +kernel
theorem dX12_dip_23 : decode cX12_dip 23 = .ok (.bipush (-99), 2) := by decide +kernel
theorem dX12_dip_25 : decode cX12_dip 25 = .ok (.bipush 99, 2) := by decide +kernel
theorem dX12_dip_27 : decode cX12_dip 27 = .ok (.invokestatic 415, 3) := by decide +kernel
theorem dX12_dip_30 : decode cX12_dip 30 = .ok (.ifCond .eq 23, 3) := by decide +kernel
theorem dX12_dip_33 : decode cX12_dip 33 = .ok (.iload 4, 2) := by decide +kernel
theorem dX12_dip_35 : decode cX12_dip 35 = .ok (.iconst 0, 1) := by decide +kernel
theorem dX12_dip_36 : decode cX12_dip 36 = .ok (.bipush 99, 2) := by decide +kernel
theorem dX12_dip_38 : decode cX12_dip 38 = .ok (.invokestatic 415, 3) := by decide +kernel
theorem dX12_dip_41 : decode cX12_dip 41 = .ok (.ifCond .eq 12, 3) := by decide +kernel
theorem dX12_dip_44 : decode cX12_dip 44 = .ok (.aload_n 0, 1) := by decide +kernel
theorem dX12_dip_45 : decode cX12_dip 45 = .ok (.getfield 194, 3) := by decide +kernel
theorem dX12_dip_48 : decode cX12_dip 48 = .ok (.iload_n 1, 1) := by decide +kernel
theorem dX12_dip_49 : decode cX12_dip 49 = .ok (.iaload, 1) := by decide +kernel
theorem dX12_dip_50 : decode cX12_dip 50 = .ok (.ifCond .lt 5, 3) := by decide +kernel
theorem dX12_dip_55 : decode cX12_dip 55 = .ok (.aload_n 0, 1) := by decide +kernel
theorem dX12_dip_56 : decode cX12_dip 56 = .ok (.getfield 194, 3) := by decide +kernel
theorem dX12_dip_59 : decode cX12_dip 59 = .ok (.iload_n 1, 1) := by decide +kernel
theorem dX12_dip_60 : decode cX12_dip 60 = .ok (.iload_n 2, 1) := by decide +kernel
theorem dX12_dip_61 : decode cX12_dip 61 = .ok (.iastore, 1) := by decide +kernel
theorem dX12_dip_62 : decode cX12_dip 62 = .ok (.aload_n 0, 1) := by decide +kernel
theorem dX12_dip_63 : decode cX12_dip 63 = .ok (.getfield 197, 3) := by decide +kernel
theorem kw_1555 : Cond.fieldLink "LandSurveyModel" 197 "LandSurveyModel" "dipN" "[I" ∈ uu := uu_in (i := 1555) (by decide +kernel) (by decide +kernel)
theorem fk_LandSurveyModel_197 : fkR "LandSurveyModel" 197 11 49 RX12 TX12 87 := ⟨rfl, rfl, inX12, by decide, kw_1555, by decide⟩
theorem dX12_dip_66 : decode cX12_dip 66 = .ok (.iload_n 1, 1) := by decide +kernel
theorem dX12_dip_67 : decode cX12_dip 67 = .ok (.iload_n 3, 1) := by decide +kernel
theorem dX12_dip_68 : decode cX12_dip 68 = .ok (.iastore, 1) := by decide +kernel
theorem dX12_dip_69 : decode cX12_dip 69 = .ok (.aload_n 0, 1) := by decide +kernel
theorem dX12_dip_70 : decode cX12_dip 70 = .ok (.getfield 200, 3) := by decide +kernel
theorem kw_1556 : Cond.fieldLink "LandSurveyModel" 200 "LandSurveyModel" "dipW" "[I" ∈ uu := uu_in (i := 1556) (by decide +kernel) (by decide +kernel)
theorem fk_LandSurveyModel_200 : fkR "LandSurveyModel" 200 11 50 RX12 TX12 87 := ⟨rfl, rfl, inX12, by decide, kw_1556, by decide⟩
theorem dX12_dip_73 : decode cX12_dip 73 = .ok (.iload_n 1, 1) := by decide +kernel
theorem dX12_dip_74 : decode cX12_dip 74 = .ok (.iload 4, 2) := by decide +kernel
theorem dX12_dip_76 : decode cX12_dip 76 = .ok (.iastore, 1) := by decide +kernel
theorem dX12_dip_77 : decode cX12_dip 77 = .ok (.aload_n 0, 1) := by decide +kernel
theorem dX12_dip_78 : decode cX12_dip 78 = .ok (.iconst 1, 1) := by decide +kernel
theorem dX12_dip_79 : decode cX12_dip 79 = .ok (.putfield 290, 3) := by decide +kernel
theorem dX12_dip_82 : decode cX12_dip 82 = .ok (.iconst 1, 1) := by decide +kernel
theorem dX12_dip_83 : decode cX12_dip 83 = .ok (.ireturn, 1) := by decide +kernel
abbrev cX12_remain : ByteArray := prog_14_method_47_code
def yX12_remain : MethodName := ⟨RX12, "remain", "(IIZ)Z"⟩
theorem okX12_remain : yok yX12_remain 3 := by decide +kernel
theorem dX12_remain_0 : decode cX12_remain 0 = .ok (.aload_n 0, 1) := by decide +kernel
theorem dX12_remain_1 : decode cX12_remain 1 = .ok (.iconst 0, 1) := by decide +kernel
theorem dX12_remain_2 : decode cX12_remain 2 = .ok (.putfield 1, 3) := by decide +kernel
theorem dX12_remain_5 : decode cX12_remain 5 = .ok (.aload_n 0, 1) := by decide +kernel
theorem dX12_remain_6 : decode cX12_remain 6 = .ok (.iload_n 1, 1) := by decide +kernel
theorem dX12_remain_7 : decode cX12_remain 7 = .ok (.invokevirtual 426, 3) := by decide +kernel
theorem dX12_remain_10 : decode cX12_remain 10 = .ok (.ifCond .eq 22, 3) := by decide +kernel
theorem dX12_remain_32 : decode cX12_remain 32 = .ok (.iconst 0, 1) := by decide +kernel
theorem dX12_remain_33 : decode cX12_remain 33 = .ok (.ireturn, 1) := by decide +kernel
theorem dX12_remain_13 : decode cX12_remain 13 = .ok (.iload_n 2, 1) := by decide +kernel
theorem dX12_remain_14 : decode cX12_remain 14 = .ok (.iconst 0, 1) := by decide +kernel
theorem dX12_remain_15 : decode cX12_remain 15 = .ok (.bipush 9, 2) := by decide +kernel
theorem dX12_remain_17 : decode cX12_remain 17 = .ok (.invokestatic 415, 3) := by decide +kernel
theorem dX12_remain_20 : decode cX12_remain 20 = .ok (.ifCond .eq 12, 3) := by decide +kernel
theorem dX12_remain_23 : decode cX12_remain 23 = .ok (.aload_n 0, 1) := by decide +kernel
theorem dX12_remain_24 : decode cX12_remain 24 = .ok (.getfield 203, 3) := by decide +kernel
theorem dX12_remain_27 : decode cX12_remain 27 = .ok (.iload_n 1, 1) := by decide +kernel
theorem dX12_remain_28 : decode cX12_remain 28 = .ok (.iaload, 1) := by decide +kernel
theorem dX12_remain_29 : decode cX12_remain 29 = .ok (.ifCond .lt 5, 3) := by decide +kernel
theorem dX12_remain_34 : decode cX12_remain 34 = .ok (.aload_n 0, 1) := by decide +kernel
theorem dX12_remain_35 : decode cX12_remain 35 = .ok (.getfield 203, 3) := by decide +kernel
theorem dX12_remain_38 : decode cX12_remain 38 = .ok (.iload_n 1, 1) := by decide +kernel
theorem dX12_remain_39 : decode cX12_remain 39 = .ok (.iload_n 2, 1) := by decide +kernel
theorem dX12_remain_40 : decode cX12_remain 40 = .ok (.iastore, 1) := by decide +kernel
theorem dX12_remain_41 : decode cX12_remain 41 = .ok (.aload_n 0, 1) := by decide +kernel
theorem dX12_remain_42 : decode cX12_remain 42 = .ok (.getfield 206, 3) := by decide +kernel
theorem kw_1558 : Cond.fieldLink "LandSurveyModel" 206 "LandSurveyModel" "isWashed" "[Z" ∈ uu := uu_in (i := 1558) (by decide +kernel) (by decide +kernel)
theorem fk_LandSurveyModel_206 : fkR "LandSurveyModel" 206 11 52 RX12 TX12 87 := ⟨rfl, rfl, inX12, by decide, kw_1558, by decide⟩
theorem dX12_remain_45 : decode cX12_remain 45 = .ok (.iload_n 1, 1) := by decide +kernel
theorem dX12_remain_46 : decode cX12_remain 46 = .ok (.iload_n 3, 1) := by decide +kernel
theorem dX12_remain_47 : decode cX12_remain 47 = .ok (.bastore, 1) := by decide +kernel
theorem dX12_remain_48 : decode cX12_remain 48 = .ok (.iconst 1, 1) := by decide +kernel
theorem dX12_remain_49 : decode cX12_remain 49 = .ok (.ireturn, 1) := by decide +kernel
abbrev cX12_withdraw : ByteArray := prog_14_method_48_code
def yX12_withdraw : MethodName := ⟨RX12, "withdraw", "(I)Z"⟩
theorem okX12_withdraw : yok yX12_withdraw 1 := by decide +kernel
theorem dX12_withdraw_0 : decode cX12_withdraw 0 = .ok (.aload_n 0, 1) := by decide +kernel
theorem dX12_withdraw_1 : decode cX12_withdraw 1 = .ok (.iconst 0, 1) := by decide +kernel
theorem dX12_withdraw_2 : decode cX12_withdraw 2 = .ok (.putfield 1, 3) := by decide +kernel
theorem dX12_withdraw_5 : decode cX12_withdraw 5 = .ok (.aload_n 0, 1) := by decide +kernel
theorem dX12_withdraw_6 : decode cX12_withdraw 6 = .ok (.iload_n 1, 1) := by decide +kernel
theorem dX12_withdraw_7 : decode cX12_withdraw 7 = .ok (.invokevirtual 426, 3) := by decide +kernel
theorem dX12_withdraw_10 : decode cX12_withdraw 10 = .ok (.ifCond .eq 12, 3) := by decide +kernel
theorem dX12_withdraw_22 : decode cX12_withdraw 22 = .ok (.iconst 0, 1) := by decide +kernel
theorem dX12_withdraw_23 : decode cX12_withdraw 23 = .ok (.ireturn, 1) := by decide +kernel
theorem dX12_withdraw_13 : decode cX12_withdraw 13 = .ok (.aload_n 0, 1) := by decide +kernel
theorem dX12_withdraw_14 : decode cX12_withdraw 14 = .ok (.getfield 191, 3) := by decide +kernel
theorem dX12_withdraw_17 : decode cX12_withdraw 17 = .ok (.iload_n 1, 1) := by decide +kernel
theorem dX12_withdraw_18 : decode cX12_withdraw 18 = .ok (.iaload, 1) := by decide +kernel
theorem dX12_withdraw_19 : decode cX12_withdraw 19 = .ok (.ifCond .lt 5, 3) := by decide +kernel
theorem dX12_withdraw_24 : decode cX12_withdraw 24 = .ok (.aload_n 0, 1) := by decide +kernel
theorem dX12_withdraw_25 : decode cX12_withdraw 25 = .ok (.getfield 191, 3) := by decide +kernel
theorem dX12_withdraw_28 : decode cX12_withdraw 28 = .ok (.iload_n 1, 1) := by decide +kernel
theorem dX12_withdraw_29 : decode cX12_withdraw 29 = .ok (.aload_n 0, 1) := by decide +kernel
theorem dX12_withdraw_30 : decode cX12_withdraw 30 = .ok (.getfield 342, 3) := by decide +kernel
theorem dX12_withdraw_33 : decode cX12_withdraw 33 = .ok (.iastore, 1) := by decide +kernel
theorem dX12_withdraw_34 : decode cX12_withdraw 34 = .ok (.aload_n 0, 1) := by decide +kernel
theorem dX12_withdraw_35 : decode cX12_withdraw 35 = .ok (.iconst 1, 1) := by decide +kernel
theorem dX12_withdraw_36 : decode cX12_withdraw 36 = .ok (.putfield 290, 3) := by decide +kernel
theorem dX12_withdraw_39 : decode cX12_withdraw 39 = .ok (.iconst 1, 1) := by decide +kernel
theorem dX12_withdraw_40 : decode cX12_withdraw 40 = .ok (.ireturn, 1) := by decide +kernel
abbrev cX12_rivalry : ByteArray := prog_14_method_84_code
def yX12_rivalry : MethodName := ⟨RX12, "rivalry", "(I)Z"⟩
theorem okX12_rivalry : yok yX12_rivalry 1 := by decide +kernel
theorem kw_1585 : Cond.fieldLink "LandSurveyModel" 549 "LandSurveyModel" "rivals" "I" ∈ uu := uu_in (i := 1585) (by decide +kernel) (by decide +kernel)
theorem fk_LandSurveyModel_549 : fkI "LandSurveyModel" 549 11 79 RX12 TX12 87 := ⟨rfl, rfl, inX12, by decide, kw_1585, by decide⟩
theorem dX12_rivalry_0 : decode cX12_rivalry 0 = .ok (.aload_n 0, 1) := by decide +kernel
theorem dX12_rivalry_1 : decode cX12_rivalry 1 = .ok (.iconst 0, 1) := by decide +kernel
theorem dX12_rivalry_2 : decode cX12_rivalry 2 = .ok (.putfield 1, 3) := by decide +kernel
theorem dX12_rivalry_5 : decode cX12_rivalry 5 = .ok (.iload_n 1, 1) := by decide +kernel
theorem dX12_rivalry_6 : decode cX12_rivalry 6 = .ok (.iconst 0, 1) := by decide +kernel
theorem dX12_rivalry_7 : decode cX12_rivalry 7 = .ok (.sipush 999, 3) := by decide +kernel
theorem dX12_rivalry_10 : decode cX12_rivalry 10 = .ok (.invokestatic 415, 3) := by decide +kernel
theorem dX12_rivalry_13 : decode cX12_rivalry 13 = .ok (.ifCond .ne 5, 3) := by decide +kernel
theorem dX12_rivalry_18 : decode cX12_rivalry 18 = .ok (.aload_n 0, 1) := by decide +kernel
theorem dX12_rivalry_19 : decode cX12_rivalry 19 = .ok (.iload_n 1, 1) := by decide +kernel
theorem dX12_rivalry_20 : decode cX12_rivalry 20 = .ok (.putfield 549, 3) := by decide +kernel
theorem pk_LandSurveyModel_79 : pk RX12 TX12 87 79 tyX12 false := ⟨tyX12_ok, nmX12, rfl⟩
theorem dX12_rivalry_23 : decode cX12_rivalry 23 = .ok (.aload_n 0, 1) := by decide +kernel
theorem dX12_rivalry_24 : decode cX12_rivalry 24 = .ok (.iconst 1, 1) := by decide +kernel
theorem dX12_rivalry_25 : decode cX12_rivalry 25 = .ok (.putfield 290, 3) := by decide +kernel
theorem dX12_rivalry_28 : decode cX12_rivalry 28 = .ok (.iconst 1, 1) := by decide +kernel
theorem dX12_rivalry_29 : decode cX12_rivalry 29 = .ok (.ireturn, 1) := by decide +kernel
theorem dX12_rivalry_16 : decode cX12_rivalry 16 = .ok (.iconst 0, 1) := by decide +kernel
theorem dX12_rivalry_17 : decode cX12_rivalry 17 = .ok (.ireturn, 1) := by decide +kernel
abbrev cX12_isSheet : ByteArray := prog_14_method_109_code
def yX12_isSheet : MethodName := ⟨RX12, "isSheet", "(I)Z"⟩
theorem okX12_isSheet : yok yX12_isSheet 1 := by decide +kernel
theorem dX12_isSheet_0 : decode cX12_isSheet 0 = .ok (.iload_n 1, 1) := by decide +kernel
theorem dX12_isSheet_1 : decode cX12_isSheet 1 = .ok (.ifCond .lt 15, 3) := by decide +kernel
theorem dX12_isSheet_16 : decode cX12_isSheet 16 = .ok (.iconst 0, 1) := by decide +kernel
theorem dX12_isSheet_17 : decode cX12_isSheet 17 = .ok (.ireturn, 1) := by decide +kernel
theorem dX12_isSheet_4 : decode cX12_isSheet 4 = .ok (.iload_n 1, 1) := by decide +kernel
theorem dX12_isSheet_5 : decode cX12_isSheet 5 = .ok (.aload_n 0, 1) := by decide +kernel
theorem dX12_isSheet_6 : decode cX12_isSheet 6 = .ok (.getfield 603, 3) := by decide +kernel
theorem kw_1586 : Cond.fieldLink "LandSurveyModel" 603 "LandSurveyModel" "sheets" "I" ∈ uu := uu_in (i := 1586) (by decide +kernel) (by decide +kernel)
theorem fk_LandSurveyModel_603 : fkI "LandSurveyModel" 603 11 80 RX12 TX12 87 := ⟨rfl, rfl, inX12, by decide, kw_1586, by decide⟩
theorem dX12_isSheet_9 : decode cX12_isSheet 9 = .ok (.if_icmp .ge 7, 3) := by decide +kernel
theorem dX12_isSheet_12 : decode cX12_isSheet 12 = .ok (.iconst 1, 1) := by decide +kernel
theorem dX12_isSheet_13 : decode cX12_isSheet 13 = .ok (.goto 4, 3) := by decide +kernel
abbrev cX12_asked : ByteArray := prog_14_method_116_code
def yX12_asked : MethodName := ⟨RX12, "asked", "()I"⟩
theorem okX12_asked : yok yX12_asked 0 := by decide +kernel
theorem dX12_asked_0 : decode cX12_asked 0 = .ok (.iconst 0, 1) := by decide +kernel
theorem dX12_asked_1 : decode cX12_asked 1 = .ok (.istore_n 1, 1) := by decide +kernel
theorem dX12_asked_2 : decode cX12_asked 2 = .ok (.iconst 0, 1) := by decide +kernel
theorem dX12_asked_3 : decode cX12_asked 3 = .ok (.istore_n 2, 1) := by decide +kernel
theorem dX12_asked_4 : decode cX12_asked 4 = .ok (.iload_n 2, 1) := by decide +kernel
theorem dX12_asked_5 : decode cX12_asked 5 = .ok (.bipush 96, 2) := by decide +kernel
theorem dX12_asked_7 : decode cX12_asked 7 = .ok (.if_icmp .ge 26, 3) := by decide +kernel
theorem dX12_asked_33 : decode cX12_asked 33 = .ok (.iload_n 1, 1) := by decide +kernel
theorem dX12_asked_34 : decode cX12_asked 34 = .ok (.ireturn, 1) := by decide +kernel
theorem dX12_asked_10 : decode cX12_asked 10 = .ok (.iload_n 1, 1) := by decide +kernel
theorem dX12_asked_11 : decode cX12_asked 11 = .ok (.aload_n 0, 1) := by decide +kernel
theorem dX12_asked_12 : decode cX12_asked 12 = .ok (.getfield 275, 3) := by decide +kernel
theorem kw_1588 : Cond.fieldLink "LandSurveyModel" 275 "LandSurveyModel" "isAsked" "[Z" ∈ uu := uu_in (i := 1588) (by decide +kernel) (by decide +kernel)
theorem fk_LandSurveyModel_275 : fkR "LandSurveyModel" 275 11 82 RX12 TX12 87 := ⟨rfl, rfl, inX12, by decide, kw_1588, by decide⟩
theorem dX12_asked_15 : decode cX12_asked 15 = .ok (.iload_n 2, 1) := by decide +kernel
theorem dX12_asked_16 : decode cX12_asked 16 = .ok (.baload, 1) := by decide +kernel
theorem dX12_asked_17 : decode cX12_asked 17 = .ok (.ifCond .eq 7, 3) := by decide +kernel
theorem dX12_asked_24 : decode cX12_asked 24 = .ok (.iconst 0, 1) := by decide +kernel
theorem dX12_asked_25 : decode cX12_asked 25 = .ok (.iadd, 1) := by decide +kernel
theorem dX12_asked_26 : decode cX12_asked 26 = .ok (.istore_n 1, 1) := by decide +kernel
theorem dX12_asked_27 : decode cX12_asked 27 = .ok (.iinc 2 1, 3) := by decide +kernel
theorem dX12_asked_30 : decode cX12_asked 30 = .ok (.goto (-26), 3) := by decide +kernel
theorem dX12_asked_20 : decode cX12_asked 20 = .ok (.iconst 1, 1) := by decide +kernel
theorem dX12_asked_21 : decode cX12_asked 21 = .ok (.goto 4, 3) := by decide +kernel
abbrev cX12_question : ByteArray := prog_14_method_117_code
def yX12_question : MethodName := ⟨RX12, "question", "(IIZ)Z"⟩
theorem okX12_question : yok yX12_question 3 := by decide +kernel
theorem dX12_question_0 : decode cX12_question 0 = .ok (.aload_n 0, 1) := by decide +kernel
theorem dX12_question_1 : decode cX12_question 1 = .ok (.iconst 0, 1) := by decide +kernel
theorem dX12_question_2 : decode cX12_question 2 = .ok (.putfield 1, 3) := by decide +kernel
theorem dX12_question_5 : decode cX12_question 5 = .ok (.iload_n 1, 1) := by decide +kernel
theorem dX12_question_6 : decode cX12_question 6 = .ok (.iload_n 2, 1) := by decide +kernel
theorem dX12_question_7 : decode cX12_question 7 = .ok (.invokestatic 419, 3) := by decide +kernel
theorem dX12_question_10 : decode cX12_question 10 = .ok (.ifCond .eq 30, 3) := by decide +kernel
theorem dX12_question_40 : decode cX12_question 40 = .ok (.iconst 0, 1) := by decide +kernel
theorem dX12_question_41 : decode cX12_question 41 = .ok (.ireturn, 1) := by decide +kernel
theorem dX12_question_13 : decode cX12_question 13 = .ok (.iload_n 3, 1) := by decide +kernel
theorem dX12_question_14 : decode cX12_question 14 = .ok (.ifCond .eq 28, 3) := by decide +kernel
theorem dX12_question_42 : decode cX12_question 42 = .ok (.aload_n 0, 1) := by decide +kernel
theorem dX12_question_43 : decode cX12_question 43 = .ok (.getfield 275, 3) := by decide +kernel
theorem dX12_question_46 : decode cX12_question 46 = .ok (.bipush 12, 2) := by decide +kernel
theorem dX12_question_48 : decode cX12_question 48 = .ok (.iload_n 2, 1) := by decide +kernel
theorem dX12_question_49 : decode cX12_question 49 = .ok (.imul, 1) := by decide +kernel
theorem dX12_question_50 : decode cX12_question 50 = .ok (.iload_n 1, 1) := by decide +kernel
theorem dX12_question_51 : decode cX12_question 51 = .ok (.iadd, 1) := by decide +kernel
theorem dX12_question_52 : decode cX12_question 52 = .ok (.iload_n 3, 1) := by decide +kernel
theorem dX12_question_53 : decode cX12_question 53 = .ok (.bastore, 1) := by decide +kernel
theorem dX12_question_54 : decode cX12_question 54 = .ok (.iconst 1, 1) := by decide +kernel
theorem dX12_question_55 : decode cX12_question 55 = .ok (.ireturn, 1) := by decide +kernel
theorem dX12_question_17 : decode cX12_question 17 = .ok (.aload_n 0, 1) := by decide +kernel
theorem dX12_question_18 : decode cX12_question 18 = .ok (.getfield 275, 3) := by decide +kernel
theorem dX12_question_21 : decode cX12_question 21 = .ok (.bipush 12, 2) := by decide +kernel
theorem dX12_question_23 : decode cX12_question 23 = .ok (.iload_n 2, 1) := by decide +kernel
theorem dX12_question_24 : decode cX12_question 24 = .ok (.imul, 1) := by decide +kernel
theorem dX12_question_25 : decode cX12_question 25 = .ok (.iload_n 1, 1) := by decide +kernel
theorem dX12_question_26 : decode cX12_question 26 = .ok (.iadd, 1) := by decide +kernel
theorem dX12_question_27 : decode cX12_question 27 = .ok (.baload, 1) := by decide +kernel
theorem dX12_question_28 : decode cX12_question 28 = .ok (.ifCond .ne 14, 3) := by decide +kernel
theorem dX12_question_31 : decode cX12_question 31 = .ok (.aload_n 0, 1) := by decide +kernel
theorem dX12_question_32 : decode cX12_question 32 = .ok (.invokevirtual 612, 3) := by decide +kernel
theorem kw_2215 : Cond.code yX12_asked prog_14_method_116_code 3 (some .int) ∈ uu := uu_in (i := 2215) (by decide +kernel) (by decide +kernel)
theorem kw_2212 : Cond.methodLink "LandSurveyModel" 612 yX12_asked ∈ uu := uu_in (i := 2212) (by decide +kernel) (by decide +kernel)
theorem kw_2214 : Cond.instanceMethod yX12_asked ∈ uu := uu_in (i := 2214) (by decide +kernel) (by decide +kernel)
theorem kw_136 : Cond.selects "LandSurveyModel" yX12_asked yX12_asked ∈ uu := uu_in (i := 136) (by decide +kernel) (by decide +kernel)
theorem lk_LandSurveyModel_612 : lkV "LandSurveyModel" 612 yX12_asked cX12_asked 3 (some .int) 0 := ⟨kw_2212, kw_2214, kw_136, kw_152, kw_2215, okX12_asked⟩
theorem dX12_question_35 : decode cX12_question 35 = .ok (.bipush 8, 2) := by decide +kernel
theorem dX12_question_37 : decode cX12_question 37 = .ok (.if_icmp .ne 5, 3) := by decide +kernel
abbrev cX12_place : ByteArray := prog_14_method_118_code
def yX12_place : MethodName := ⟨RX12, "place", "(III)I"⟩
theorem okX12_place : yok yX12_place 3 := by decide +kernel
theorem kw_1589 : Cond.fieldLink "LandSurveyModel" 615 "LandSurveyModel" "places" "I" ∈ uu := uu_in (i := 1589) (by decide +kernel) (by decide +kernel)
theorem fk_LandSurveyModel_615 : fkI "LandSurveyModel" 615 11 83 RX12 TX12 87 := ⟨rfl, rfl, inX12, by decide, kw_1589, by decide⟩
theorem dX12_place_0 : decode cX12_place 0 = .ok (.aload_n 0, 1) := by decide +kernel
theorem dX12_place_1 : decode cX12_place 1 = .ok (.iconst 0, 1) := by decide +kernel
theorem dX12_place_2 : decode cX12_place 2 = .ok (.putfield 1, 3) := by decide +kernel
theorem dX12_place_5 : decode cX12_place 5 = .ok (.iload_n 1, 1) := by decide +kernel
theorem dX12_place_6 : decode cX12_place 6 = .ok (.iload_n 2, 1) := by decide +kernel
theorem dX12_place_7 : decode cX12_place 7 = .ok (.invokestatic 419, 3) := by decide +kernel
theorem dX12_place_10 : decode cX12_place 10 = .ok (.ifCond .eq 22, 3) := by decide +kernel
theorem dX12_place_32 : decode cX12_place 32 = .ok (.iconst (-1), 1) := by decide +kernel
theorem dX12_place_33 : decode cX12_place 33 = .ok (.ireturn, 1) := by decide +kernel
theorem dX12_place_13 : decode cX12_place 13 = .ok (.iload_n 3, 1) := by decide +kernel
theorem dX12_place_14 : decode cX12_place 14 = .ok (.iconst 1, 1) := by decide +kernel
theorem dX12_place_15 : decode cX12_place 15 = .ok (.bipush 99, 2) := by decide +kernel
theorem dX12_place_17 : decode cX12_place 17 = .ok (.invokestatic 415, 3) := by decide +kernel
theorem dX12_place_20 : decode cX12_place 20 = .ok (.ifCond .eq 12, 3) := by decide +kernel
theorem dX12_place_23 : decode cX12_place 23 = .ok (.aload_n 0, 1) := by decide +kernel
theorem dX12_place_24 : decode cX12_place 24 = .ok (.getfield 615, 3) := by decide +kernel
theorem dX12_place_27 : decode cX12_place 27 = .ok (.bipush 8, 2) := by decide +kernel
theorem dX12_place_29 : decode cX12_place 29 = .ok (.if_icmp .ne 5, 3) := by decide +kernel
theorem dX12_place_34 : decode cX12_place 34 = .ok (.aload_n 0, 1) := by decide +kernel
theorem dX12_place_35 : decode cX12_place 35 = .ok (.getfield 278, 3) := by decide +kernel
theorem kw_1590 : Cond.fieldLink "LandSurveyModel" 278 "LandSurveyModel" "placeAt" "[I" ∈ uu := uu_in (i := 1590) (by decide +kernel) (by decide +kernel)
theorem fk_LandSurveyModel_278 : fkR "LandSurveyModel" 278 11 84 RX12 TX12 87 := ⟨rfl, rfl, inX12, by decide, kw_1590, by decide⟩
theorem dX12_place_38 : decode cX12_place 38 = .ok (.aload_n 0, 1) := by decide +kernel
theorem dX12_place_39 : decode cX12_place 39 = .ok (.getfield 615, 3) := by decide +kernel
theorem dX12_place_42 : decode cX12_place 42 = .ok (.bipush 12, 2) := by decide +kernel
theorem dX12_place_44 : decode cX12_place 44 = .ok (.iload_n 2, 1) := by decide +kernel
theorem dX12_place_45 : decode cX12_place 45 = .ok (.imul, 1) := by decide +kernel
theorem dX12_place_46 : decode cX12_place 46 = .ok (.iload_n 1, 1) := by decide +kernel
theorem dX12_place_47 : decode cX12_place 47 = .ok (.iadd, 1) := by decide +kernel
theorem dX12_place_48 : decode cX12_place 48 = .ok (.iastore, 1) := by decide +kernel
theorem dX12_place_49 : decode cX12_place 49 = .ok (.aload_n 0, 1) := by decide +kernel
theorem dX12_place_50 : decode cX12_place 50 = .ok (.getfield 281, 3) := by decide +kernel
theorem kw_1591 : Cond.fieldLink "LandSurveyModel" 281 "LandSurveyModel" "placeCost" "[I" ∈ uu := uu_in (i := 1591) (by decide +kernel) (by decide +kernel)
theorem fk_LandSurveyModel_281 : fkR "LandSurveyModel" 281 11 85 RX12 TX12 87 := ⟨rfl, rfl, inX12, by decide, kw_1591, by decide⟩
theorem dX12_place_53 : decode cX12_place 53 = .ok (.aload_n 0, 1) := by decide +kernel
theorem dX12_place_54 : decode cX12_place 54 = .ok (.getfield 615, 3) := by decide +kernel
theorem dX12_place_57 : decode cX12_place 57 = .ok (.iload_n 3, 1) := by decide +kernel
theorem dX12_place_58 : decode cX12_place 58 = .ok (.iastore, 1) := by decide +kernel
theorem dX12_place_59 : decode cX12_place 59 = .ok (.aload_n 0, 1) := by decide +kernel
theorem dX12_place_60 : decode cX12_place 60 = .ok (.dup, 1) := by decide +kernel
theorem dX12_place_61 : decode cX12_place 61 = .ok (.getfield 615, 3) := by decide +kernel
theorem dX12_place_64 : decode cX12_place 64 = .ok (.iconst 1, 1) := by decide +kernel
theorem dX12_place_65 : decode cX12_place 65 = .ok (.iadd, 1) := by decide +kernel
theorem dX12_place_66 : decode cX12_place 66 = .ok (.putfield 615, 3) := by decide +kernel
theorem pk_LandSurveyModel_83 : pk RX12 TX12 87 83 tyX12 false := ⟨tyX12_ok, nmX12, rfl⟩
theorem dX12_place_69 : decode cX12_place 69 = .ok (.aload_n 0, 1) := by decide +kernel
theorem dX12_place_70 : decode cX12_place 70 = .ok (.getfield 615, 3) := by decide +kernel
theorem dX12_place_73 : decode cX12_place 73 = .ok (.iconst 1, 1) := by decide +kernel
theorem dX12_place_74 : decode cX12_place 74 = .ok (.isub, 1) := by decide +kernel
theorem dX12_place_75 : decode cX12_place 75 = .ok (.ireturn, 1) := by decide +kernel
abbrev cX12_isSet : ByteArray := prog_14_method_83_code
def yX12_isSet : MethodName := ⟨RX12, "isSet", "(I)Z"⟩
theorem okX12_isSet : yok yX12_isSet 1 := by decide +kernel
theorem dX12_isSet_0 : decode cX12_isSet 0 = .ok (.iload_n 1, 1) := by decide +kernel
theorem dX12_isSet_1 : decode cX12_isSet 1 = .ok (.ifCond .lt 17, 3) := by decide +kernel
theorem dX12_isSet_18 : decode cX12_isSet 18 = .ok (.iconst 0, 1) := by decide +kernel
theorem dX12_isSet_19 : decode cX12_isSet 19 = .ok (.ireturn, 1) := by decide +kernel
theorem dX12_isSet_4 : decode cX12_isSet 4 = .ok (.iload_n 1, 1) := by decide +kernel
theorem dX12_isSet_5 : decode cX12_isSet 5 = .ok (.iconst 1, 1) := by decide +kernel
theorem dX12_isSet_6 : decode cX12_isSet 6 = .ok (.aload_n 0, 1) := by decide +kernel
theorem dX12_isSet_7 : decode cX12_isSet 7 = .ok (.getfield 477, 3) := by decide +kernel
theorem kw_1563 : Cond.fieldLink "LandSurveyModel" 477 "LandSurveyModel" "breaks" "I" ∈ uu := uu_in (i := 1563) (by decide +kernel) (by decide +kernel)
theorem fk_LandSurveyModel_477 : fkI "LandSurveyModel" 477 11 57 RX12 TX12 87 := ⟨rfl, rfl, inX12, by decide, kw_1563, by decide⟩
theorem dX12_isSet_10 : decode cX12_isSet 10 = .ok (.ishl, 1) := by decide +kernel
theorem dX12_isSet_11 : decode cX12_isSet 11 = .ok (.if_icmp .ge 7, 3) := by decide +kernel
theorem dX12_isSet_14 : decode cX12_isSet 14 = .ok (.iconst 1, 1) := by decide +kernel
theorem dX12_isSet_15 : decode cX12_isSet 15 = .ok (.goto 4, 3) := by decide +kernel
abbrev cX12_isOne : ByteArray := prog_14_method_96_code
def yX12_isOne : MethodName := ⟨RX12, "isOne", "(I)Z"⟩
theorem okX12_isOne : yok yX12_isOne 1 := by decide +kernel
theorem dX12_isOne_0 : decode cX12_isOne 0 = .ok (.iload_n 0, 1) := by decide +kernel
theorem dX12_isOne_1 : decode cX12_isOne 1 = .ok (.ifCond .eq 15, 3) := by decide +kernel
theorem dX12_isOne_16 : decode cX12_isOne 16 = .ok (.iconst 0, 1) := by decide +kernel
theorem dX12_isOne_17 : decode cX12_isOne 17 = .ok (.ireturn, 1) := by decide +kernel
theorem dX12_isOne_4 : decode cX12_isOne 4 = .ok (.iload_n 0, 1) := by decide +kernel
theorem dX12_isOne_5 : decode cX12_isOne 5 = .ok (.iload_n 0, 1) := by decide +kernel
theorem dX12_isOne_6 : decode cX12_isOne 6 = .ok (.iconst 1, 1) := by decide +kernel
theorem dX12_isOne_7 : decode cX12_isOne 7 = .ok (.isub, 1) := by decide +kernel
theorem dX12_isOne_8 : decode cX12_isOne 8 = .ok (.iand, 1) := by decide +kernel
theorem dX12_isOne_9 : decode cX12_isOne 9 = .ok (.ifCond .ne 7, 3) := by decide +kernel
theorem dX12_isOne_12 : decode cX12_isOne 12 = .ok (.iconst 1, 1) := by decide +kernel
theorem dX12_isOne_13 : decode cX12_isOne 13 = .ok (.goto 4, 3) := by decide +kernel
abbrev cX12_halfDown : ByteArray := prog_14_method_122_code
def yX12_halfDown : MethodName := ⟨RX12, "halfDown", "(I)I"⟩
theorem okX12_halfDown : yok yX12_halfDown 1 := by decide +kernel
theorem dX12_halfDown_0 : decode cX12_halfDown 0 = .ok (.iload_n 0, 1) := by decide +kernel
theorem dX12_halfDown_1 : decode cX12_halfDown 1 = .ok (.ifCond .ge 17, 3) := by decide +kernel
theorem dX12_halfDown_18 : decode cX12_halfDown 18 = .ok (.iload_n 0, 1) := by decide +kernel
theorem dX12_halfDown_19 : decode cX12_halfDown 19 = .ok (.iconst 2, 1) := by decide +kernel
theorem dX12_halfDown_20 : decode cX12_halfDown 20 = .ok (.idiv, 1) := by decide +kernel
theorem dX12_halfDown_21 : decode cX12_halfDown 21 = .ok (.ireturn, 1) := by decide +kernel
theorem dX12_halfDown_4 : decode cX12_halfDown 4 = .ok (.iload_n 0, 1) := by decide +kernel
theorem dX12_halfDown_5 : decode cX12_halfDown 5 = .ok (.iconst 2, 1) := by decide +kernel
theorem dX12_halfDown_6 : decode cX12_halfDown 6 = .ok (.irem, 1) := by decide +kernel
theorem dX12_halfDown_7 : decode cX12_halfDown 7 = .ok (.ifCond .eq 11, 3) := by decide +kernel
theorem dX12_halfDown_10 : decode cX12_halfDown 10 = .ok (.iload_n 0, 1) := by decide +kernel
theorem dX12_halfDown_11 : decode cX12_halfDown 11 = .ok (.iconst 2, 1) := by decide +kernel
theorem dX12_halfDown_12 : decode cX12_halfDown 12 = .ok (.idiv, 1) := by decide +kernel
theorem dX12_halfDown_13 : decode cX12_halfDown 13 = .ok (.iconst 1, 1) := by decide +kernel
theorem dX12_halfDown_14 : decode cX12_halfDown 14 = .ok (.isub, 1) := by decide +kernel
theorem dX12_halfDown_15 : decode cX12_halfDown 15 = .ok (.goto 6, 3) := by decide +kernel
abbrev cX12_isIn : ByteArray := prog_14_method_70_code
def yX12_isIn : MethodName := ⟨RX12, "isIn", "(JI)Z"⟩
theorem okX12_isIn : yok yX12_isIn 2 := by decide +kernel
theorem dX12_isIn_0 : decode cX12_isIn 0 = .ok (.lload_n 0, 1) := by decide +kernel
theorem dX12_isIn_1 : decode cX12_isIn 1 = .ok (.iload_n 2, 1) := by decide +kernel
theorem dX12_isIn_2 : decode cX12_isIn 2 = .ok (.lshr, 1) := by decide +kernel
theorem dX12_isIn_3 : decode cX12_isIn 3 = .ok (.lconst 1, 1) := by decide +kernel
theorem dX12_isIn_4 : decode cX12_isIn 4 = .ok (.land, 1) := by decide +kernel
theorem dX12_isIn_5 : decode cX12_isIn 5 = .ok (.lconst 1, 1) := by decide +kernel
theorem dX12_isIn_6 : decode cX12_isIn 6 = .ok (.lcmp, 1) := by decide +kernel
theorem dX12_isIn_7 : decode cX12_isIn 7 = .ok (.ifCond .ne 7, 3) := by decide +kernel
theorem dX12_isIn_14 : decode cX12_isIn 14 = .ok (.iconst 0, 1) := by decide +kernel
theorem dX12_isIn_15 : decode cX12_isIn 15 = .ok (.ireturn, 1) := by decide +kernel
theorem dX12_isIn_10 : decode cX12_isIn 10 = .ok (.iconst 1, 1) := by decide +kernel
theorem dX12_isIn_11 : decode cX12_isIn 11 = .ok (.goto 4, 3) := by decide +kernel
abbrev cX12_isDouble : ByteArray := prog_14_method_113_code
def yX12_isDouble : MethodName := ⟨RX12, "isDouble", "(II)Z"⟩
theorem okX12_isDouble : yok yX12_isDouble 2 := by decide +kernel
theorem dX12_isDouble_0 : decode cX12_isDouble 0 = .ok (.aload_n 0, 1) := by decide +kernel
theorem dX12_isDouble_1 : decode cX12_isDouble 1 = .ok (.getfield 209, 3) := by decide +kernel
theorem kw_1559 : Cond.fieldLink "LandSurveyModel" 209 "LandSurveyModel" "isSaying" "[Z" ∈ uu := uu_in (i := 1559) (by decide +kernel) (by decide +kernel)
theorem fk_LandSurveyModel_209 : fkR "LandSurveyModel" 209 11 53 RX12 TX12 87 := ⟨rfl, rfl, inX12, by decide, kw_1559, by decide⟩
theorem dX12_isDouble_4 : decode cX12_isDouble 4 = .ok (.iload_n 1, 1) := by decide +kernel
theorem dX12_isDouble_5 : decode cX12_isDouble 5 = .ok (.baload, 1) := by decide +kernel
theorem dX12_isDouble_6 : decode cX12_isDouble 6 = .ok (.ifCond .eq 46, 3) := by decide +kernel
theorem dX12_isDouble_52 : decode cX12_isDouble 52 = .ok (.iconst 0, 1) := by decide +kernel
theorem dX12_isDouble_53 : decode cX12_isDouble 53 = .ok (.ireturn, 1) := by decide +kernel
theorem dX12_isDouble_9 : decode cX12_isDouble 9 = .ok (.aload_n 0, 1) := by decide +kernel
theorem dX12_isDouble_10 : decode cX12_isDouble 10 = .ok (.getfield 209, 3) := by decide +kernel
theorem dX12_isDouble_13 : decode cX12_isDouble 13 = .ok (.iload_n 2, 1) := by decide +kernel
theorem dX12_isDouble_14 : decode cX12_isDouble 14 = .ok (.baload, 1) := by decide +kernel
theorem dX12_isDouble_15 : decode cX12_isDouble 15 = .ok (.ifCond .eq 37, 3) := by decide +kernel
theorem dX12_isDouble_18 : decode cX12_isDouble 18 = .ok (.aload_n 0, 1) := by decide +kernel
theorem dX12_isDouble_19 : decode cX12_isDouble 19 = .ok (.getfield 176, 3) := by decide +kernel
theorem dX12_isDouble_22 : decode cX12_isDouble 22 = .ok (.iload_n 1, 1) := by decide +kernel
theorem dX12_isDouble_23 : decode cX12_isDouble 23 = .ok (.iaload, 1) := by decide +kernel
theorem dX12_isDouble_24 : decode cX12_isDouble 24 = .ok (.aload_n 0, 1) := by decide +kernel
theorem dX12_isDouble_25 : decode cX12_isDouble 25 = .ok (.getfield 176, 3) := by decide +kernel
theorem dX12_isDouble_28 : decode cX12_isDouble 28 = .ok (.iload_n 2, 1) := by decide +kernel
theorem dX12_isDouble_29 : decode cX12_isDouble 29 = .ok (.iaload, 1) := by decide +kernel
theorem dX12_isDouble_30 : decode cX12_isDouble 30 = .ok (.if_icmp .ne 22, 3) := by decide +kernel
theorem dX12_isDouble_33 : decode cX12_isDouble 33 = .ok (.aload_n 0, 1) := by decide +kernel
theorem dX12_isDouble_34 : decode cX12_isDouble 34 = .ok (.getfield 179, 3) := by decide +kernel
theorem dX12_isDouble_37 : decode cX12_isDouble 37 = .ok (.iload_n 1, 1) := by decide +kernel
theorem dX12_isDouble_38 : decode cX12_isDouble 38 = .ok (.iaload, 1) := by decide +kernel
theorem dX12_isDouble_39 : decode cX12_isDouble 39 = .ok (.aload_n 0, 1) := by decide +kernel
theorem dX12_isDouble_40 : decode cX12_isDouble 40 = .ok (.getfield 179, 3) := by decide +kernel
theorem dX12_isDouble_43 : decode cX12_isDouble 43 = .ok (.iload_n 2, 1) := by decide +kernel
theorem dX12_isDouble_44 : decode cX12_isDouble 44 = .ok (.iaload, 1) := by decide +kernel
theorem dX12_isDouble_45 : decode cX12_isDouble 45 = .ok (.if_icmp .ne 7, 3) := by decide +kernel
theorem dX12_isDouble_48 : decode cX12_isDouble 48 = .ok (.iconst 1, 1) := by decide +kernel
theorem dX12_isDouble_49 : decode cX12_isDouble 49 = .ok (.goto 4, 3) := by decide +kernel
def wr_k_X12_isLetter : List Nat := []
set_option maxRecDepth 100000 in
set_option maxHeartbeats 4000000 in
theorem k_X12_isLetter (l : Launch) (D : va_G) (cy : Nat → ClassId) (w : Nat → Nat) (z0 : Nat) {h : Hp} {a0 : Int}  (O : Okh h) (fa0 : (-2147483648) ≤ a0 ∧ a0 ≤ 2147483647) : MI l D cy w z0 yX12_isLetter cX12_isLetter 1 (some .boolean) 0 0 0 0 [.inl a0] h (fun v h1 => Okh h1 ∧ Fx wr_k_X12_isLetter h h1 ∧ (0 ≤ v ∧ v ≤ 1) ∧ (v = 1 → 97 ≤ a0 ∧ a0 ≤ 122)) := by
  refine hm_go (by decide +kernel) (Nat.le_of_ble_eq_true rfl) (fun p e s m below meth c C hr hn => ?_)
  refine g_iload_n C rfl 0 rfl dX12_isLetter_0 ?_
  refine g_bipush C (by decide) dX12_isLetter_1 ?_
  refine g_icmp_lt C fa0 (iw (il 97) (by decide) (by decide)) 16 (by decide) dX12_isLetter_3 (fun q1 => ?_) (fun q2 => ?_)
  · have f3 : (-2147483648 : Int) ≤ a0 ∧ a0 ≤ (96 : Int) := r_lt fa0 (il 97) q1 (by decide) (by decide)
    refine g_iconst C dX12_isLetter_16 ?_
    exact g_iret C hr (nar_z2 (iw (il 0) (by decide) (by decide))).1 (iw (il 0) (by decide) (by decide)) ⟨O, Fx.rf, (iw (il 0) (by decide) (by decide)), (by omega)⟩ (by decide) (by decide) dX12_isLetter_17
  · have f4 : (97 : Int) ≤ a0 ∧ a0 ≤ (2147483647 : Int) := r_ge fa0 (il 97) q2 (by decide) (by decide)
    refine g_iload_n C rfl 0 rfl dX12_isLetter_6 ?_
    refine g_bipush C (by decide) dX12_isLetter_7 ?_
    refine g_icmp_gt C (iw f4 (by decide) (by decide)) (iw (il 122) (by decide) (by decide)) 16 (by decide) dX12_isLetter_9 (fun q5 => ?_) (fun q6 => ?_)
    · have f7 : (123 : Int) ≤ a0 ∧ a0 ≤ (2147483647 : Int) := r_gt f4 (il 122) q5 (by decide) (by decide)
      refine g_iconst C dX12_isLetter_16 ?_
      exact g_iret C hr (nar_z2 (iw (il 0) (by decide) (by decide))).1 (iw (il 0) (by decide) (by decide)) ⟨O, Fx.rf, (iw (il 0) (by decide) (by decide)), (by omega)⟩ (by decide) (by decide) dX12_isLetter_17
    · have f8 : (97 : Int) ≤ a0 ∧ a0 ≤ (122 : Int) := r_le f4 (il 122) q6 (by decide) (by decide)
      refine g_iconst C dX12_isLetter_12 ?_
      refine g_goto C 17 (by decide) dX12_isLetter_13 ?_
      exact g_iret C hr (nar_z2 (iw (il 1) (by decide) (by decide))).1 (iw (il 1) (by decide) (by decide)) ⟨O, Fx.rf, (iw (il 1) (by decide) (by decide)), (by omega)⟩ (by decide) (by decide) dX12_isLetter_17
def wr_k_X12_isDigit : List Nat := []
set_option maxRecDepth 100000 in
set_option maxHeartbeats 4000000 in
theorem k_X12_isDigit (l : Launch) (D : va_G) (cy : Nat → ClassId) (w : Nat → Nat) (z0 : Nat) {h : Hp} {a0 : Int}  (O : Okh h) (fa0 : (-2147483648) ≤ a0 ∧ a0 ≤ 2147483647) : MI l D cy w z0 yX12_isDigit cX12_isDigit 1 (some .boolean) 0 0 0 0 [.inl a0] h (fun v h1 => Okh h1 ∧ Fx wr_k_X12_isDigit h h1 ∧ (0 ≤ v ∧ v ≤ 1) ∧ (v = 1 → 48 ≤ a0 ∧ a0 ≤ 57)) := by
  refine hm_go (by decide +kernel) (Nat.le_of_ble_eq_true rfl) (fun p e s m below meth c C hr hn => ?_)
  refine g_iload_n C rfl 0 rfl dX12_isDigit_0 ?_
  refine g_bipush C (by decide) dX12_isDigit_1 ?_
  refine g_icmp_lt C fa0 (iw (il 48) (by decide) (by decide)) 16 (by decide) dX12_isDigit_3 (fun q1 => ?_) (fun q2 => ?_)
  · have f3 : (-2147483648 : Int) ≤ a0 ∧ a0 ≤ (47 : Int) := r_lt fa0 (il 48) q1 (by decide) (by decide)
    refine g_iconst C dX12_isDigit_16 ?_
    exact g_iret C hr (nar_z2 (iw (il 0) (by decide) (by decide))).1 (iw (il 0) (by decide) (by decide)) ⟨O, Fx.rf, (iw (il 0) (by decide) (by decide)), (by omega)⟩ (by decide) (by decide) dX12_isDigit_17
  · have f4 : (48 : Int) ≤ a0 ∧ a0 ≤ (2147483647 : Int) := r_ge fa0 (il 48) q2 (by decide) (by decide)
    refine g_iload_n C rfl 0 rfl dX12_isDigit_6 ?_
    refine g_bipush C (by decide) dX12_isDigit_7 ?_
    refine g_icmp_gt C (iw f4 (by decide) (by decide)) (iw (il 57) (by decide) (by decide)) 16 (by decide) dX12_isDigit_9 (fun q5 => ?_) (fun q6 => ?_)
    · have f7 : (58 : Int) ≤ a0 ∧ a0 ≤ (2147483647 : Int) := r_gt f4 (il 57) q5 (by decide) (by decide)
      refine g_iconst C dX12_isDigit_16 ?_
      exact g_iret C hr (nar_z2 (iw (il 0) (by decide) (by decide))).1 (iw (il 0) (by decide) (by decide)) ⟨O, Fx.rf, (iw (il 0) (by decide) (by decide)), (by omega)⟩ (by decide) (by decide) dX12_isDigit_17
    · have f8 : (48 : Int) ≤ a0 ∧ a0 ≤ (57 : Int) := r_le f4 (il 57) q6 (by decide) (by decide)
      refine g_iconst C dX12_isDigit_12 ?_
      refine g_goto C 17 (by decide) dX12_isDigit_13 ?_
      exact g_iret C hr (nar_z2 (iw (il 1) (by decide) (by decide))).1 (iw (il 1) (by decide) (by decide)) ⟨O, Fx.rf, (iw (il 1) (by decide) (by decide)), (by omega)⟩ (by decide) (by decide) dX12_isDigit_17
def wr_k_X12_isSignOf : List Nat := []
set_option maxRecDepth 100000 in
set_option maxHeartbeats 4000000 in
theorem k_X12_isSignOf (l : Launch) (D : va_G) (cy : Nat → ClassId) (w : Nat → Nat) (z0 : Nat) {h : Hp} {a0 : Int}  (O : Okh h) (fa0 : (-2147483648) ≤ a0 ∧ a0 ≤ 2147483647) : MI l D cy w z0 yX12_isSignOf cX12_isSignOf 1 (some .boolean) 0 0 0 0 [.inl a0] h (fun v h1 => Okh h1 ∧ Fx wr_k_X12_isSignOf h h1 ∧ (0 ≤ v ∧ v ≤ 1)) := by
  refine hm_go (by decide +kernel) (Nat.le_of_ble_eq_true rfl) (fun p e s m below meth c C hr hn => ?_)
  refine g_iload_n C rfl 0 rfl dX12_isSignOf_0 ?_
  refine g_bipush C (by decide) dX12_isSignOf_1 ?_
  refine g_icmp_eq C fa0 (iw (il 40) (by decide) (by decide)) 42 (by decide) dX12_isSignOf_3 (fun q1 => ?_) (fun q2 => ?_)
  · have f3 : (40 : Int) ≤ a0 ∧ a0 ≤ (40 : Int) := ii fa0 (r_eq (il 40) q1) (by decide) (by decide)
    refine g_iconst C dX12_isSignOf_42 ?_
    refine g_goto C 47 (by decide) dX12_isSignOf_43 ?_
    exact g_iret C hr (nar_z2 (iw (il 1) (by decide) (by decide))).1 (iw (il 1) (by decide) (by decide)) ⟨O, Fx.rf, (iw (il 1) (by decide) (by decide))⟩ (by decide) (by decide) dX12_isSignOf_47
  · refine g_iload_n C rfl 0 rfl dX12_isSignOf_6 ?_
    refine g_bipush C (by decide) dX12_isSignOf_7 ?_
    refine g_icmp_eq C fa0 (iw (il 41) (by decide) (by decide)) 42 (by decide) dX12_isSignOf_9 (fun q4 => ?_) (fun q5 => ?_)
    · have f6 : (41 : Int) ≤ a0 ∧ a0 ≤ (41 : Int) := ii fa0 (r_eq (il 41) q4) (by decide) (by decide)
      refine g_iconst C dX12_isSignOf_42 ?_
      refine g_goto C 47 (by decide) dX12_isSignOf_43 ?_
      exact g_iret C hr (nar_z2 (iw (il 1) (by decide) (by decide))).1 (iw (il 1) (by decide) (by decide)) ⟨O, Fx.rf, (iw (il 1) (by decide) (by decide))⟩ (by decide) (by decide) dX12_isSignOf_47
    · refine g_iload_n C rfl 0 rfl dX12_isSignOf_12 ?_
      refine g_bipush C (by decide) dX12_isSignOf_13 ?_
      refine g_icmp_eq C fa0 (iw (il 59) (by decide) (by decide)) 42 (by decide) dX12_isSignOf_15 (fun q7 => ?_) (fun q8 => ?_)
      · have f9 : (59 : Int) ≤ a0 ∧ a0 ≤ (59 : Int) := ii fa0 (r_eq (il 59) q7) (by decide) (by decide)
        refine g_iconst C dX12_isSignOf_42 ?_
        refine g_goto C 47 (by decide) dX12_isSignOf_43 ?_
        exact g_iret C hr (nar_z2 (iw (il 1) (by decide) (by decide))).1 (iw (il 1) (by decide) (by decide)) ⟨O, Fx.rf, (iw (il 1) (by decide) (by decide))⟩ (by decide) (by decide) dX12_isSignOf_47
      · refine g_iload_n C rfl 0 rfl dX12_isSignOf_18 ?_
        refine g_bipush C (by decide) dX12_isSignOf_19 ?_
        refine g_icmp_eq C fa0 (iw (il 61) (by decide) (by decide)) 42 (by decide) dX12_isSignOf_21 (fun q10 => ?_) (fun q11 => ?_)
        · have f12 : (61 : Int) ≤ a0 ∧ a0 ≤ (61 : Int) := ii fa0 (r_eq (il 61) q10) (by decide) (by decide)
          refine g_iconst C dX12_isSignOf_42 ?_
          refine g_goto C 47 (by decide) dX12_isSignOf_43 ?_
          exact g_iret C hr (nar_z2 (iw (il 1) (by decide) (by decide))).1 (iw (il 1) (by decide) (by decide)) ⟨O, Fx.rf, (iw (il 1) (by decide) (by decide))⟩ (by decide) (by decide) dX12_isSignOf_47
        · refine g_iload_n C rfl 0 rfl dX12_isSignOf_24 ?_
          refine g_bipush C (by decide) dX12_isSignOf_25 ?_
          refine g_icmp_eq C fa0 (iw (il 60) (by decide) (by decide)) 42 (by decide) dX12_isSignOf_27 (fun q13 => ?_) (fun q14 => ?_)
          · have f15 : (60 : Int) ≤ a0 ∧ a0 ≤ (60 : Int) := ii fa0 (r_eq (il 60) q13) (by decide) (by decide)
            refine g_iconst C dX12_isSignOf_42 ?_
            refine g_goto C 47 (by decide) dX12_isSignOf_43 ?_
            exact g_iret C hr (nar_z2 (iw (il 1) (by decide) (by decide))).1 (iw (il 1) (by decide) (by decide)) ⟨O, Fx.rf, (iw (il 1) (by decide) (by decide))⟩ (by decide) (by decide) dX12_isSignOf_47
          · refine g_iload_n C rfl 0 rfl dX12_isSignOf_30 ?_
            refine g_bipush C (by decide) dX12_isSignOf_31 ?_
            refine g_icmp_eq C fa0 (iw (il 43) (by decide) (by decide)) 42 (by decide) dX12_isSignOf_33 (fun q16 => ?_) (fun q17 => ?_)
            · have f18 : (43 : Int) ≤ a0 ∧ a0 ≤ (43 : Int) := ii fa0 (r_eq (il 43) q16) (by decide) (by decide)
              refine g_iconst C dX12_isSignOf_42 ?_
              refine g_goto C 47 (by decide) dX12_isSignOf_43 ?_
              exact g_iret C hr (nar_z2 (iw (il 1) (by decide) (by decide))).1 (iw (il 1) (by decide) (by decide)) ⟨O, Fx.rf, (iw (il 1) (by decide) (by decide))⟩ (by decide) (by decide) dX12_isSignOf_47
            · refine g_iload_n C rfl 0 rfl dX12_isSignOf_36 ?_
              refine g_bipush C (by decide) dX12_isSignOf_37 ?_
              refine g_icmp_ne C fa0 (iw (il 45) (by decide) (by decide)) 46 (by decide) dX12_isSignOf_39 (fun q19 => ?_) (fun q20 => ?_)
              · refine g_iconst C dX12_isSignOf_46 ?_
                exact g_iret C hr (nar_z2 (iw (il 0) (by decide) (by decide))).1 (iw (il 0) (by decide) (by decide)) ⟨O, Fx.rf, (iw (il 0) (by decide) (by decide))⟩ (by decide) (by decide) dX12_isSignOf_47
              · have f21 : (45 : Int) ≤ a0 ∧ a0 ≤ (45 : Int) := ii fa0 (r_eq (il 45) q20) (by decide) (by decide)
                refine g_iconst C dX12_isSignOf_42 ?_
                refine g_goto C 47 (by decide) dX12_isSignOf_43 ?_
                exact g_iret C hr (nar_z2 (iw (il 1) (by decide) (by decide))).1 (iw (il 1) (by decide) (by decide)) ⟨O, Fx.rf, (iw (il 1) (by decide) (by decide))⟩ (by decide) (by decide) dX12_isSignOf_47
def wr_k_X12_within : List Nat := []
set_option maxRecDepth 100000 in
set_option maxHeartbeats 4000000 in
theorem k_X12_within (l : Launch) (D : va_G) (cy : Nat → ClassId) (w : Nat → Nat) (z0 : Nat) {h : Hp} {a0 : Int} {a1 : Int} {a2 : Int}  (O : Okh h) (fa0 : (-2147483648) ≤ a0 ∧ a0 ≤ 2147483647) (fa1 : (-2147483648) ≤ a1 ∧ a1 ≤ 2147483647) (fa2 : (-2147483648) ≤ a2 ∧ a2 ≤ 2147483647) : MI l D cy w z0 yX12_within cX12_within 3 (some .boolean) 0 0 0 0 [.inl a0, .inl a1, .inl a2] h (fun v h1 => Okh h1 ∧ Fx wr_k_X12_within h h1 ∧ (0 ≤ v ∧ v ≤ 1) ∧ ((v = 1 → a1 ≤ a0 ∧ a0 ≤ a2) ∧ (v = 0 → a0 < a1 ∨ a2 < a0))) := by
  refine hm_go (by decide +kernel) (Nat.le_of_ble_eq_true rfl) (fun p e s m below meth c C hr hn => ?_)
  refine g_iload_n C rfl 0 rfl dX12_within_0 ?_
  refine g_iload_n C rfl 1 rfl dX12_within_1 ?_
  refine g_icmp_lt C fa0 fa1 14 (by decide) dX12_within_2 (fun q1 => ?_) (fun q2 => ?_)
  · have f3 : (-2147483648 : Int) ≤ a0 ∧ a0 ≤ (2147483646 : Int) := r_lt fa0 fa1 q1 (by decide) (by decide)
    have f4 : (-2147483647 : Int) ≤ a1 ∧ a1 ≤ (2147483647 : Int) := r_gt fa1 fa0 q1 (by decide) (by decide)
    refine g_iconst C dX12_within_14 ?_
    exact g_iret C hr (nar_z2 (iw (il 0) (by decide) (by decide))).1 (iw (il 0) (by decide) (by decide)) ⟨O, Fx.rf, (iw (il 0) (by decide) (by decide)), (by omega)⟩ (by decide) (by decide) dX12_within_15
  · refine g_iload_n C rfl 0 rfl dX12_within_5 ?_
    refine g_iload_n C rfl 2 rfl dX12_within_6 ?_
    refine g_icmp_gt C fa0 fa2 14 (by decide) dX12_within_7 (fun q5 => ?_) (fun q6 => ?_)
    · have f7 : (-2147483648 : Int) ≤ a2 ∧ a2 ≤ (2147483646 : Int) := r_lt fa2 fa0 q5 (by decide) (by decide)
      have f8 : (-2147483647 : Int) ≤ a0 ∧ a0 ≤ (2147483647 : Int) := r_gt fa0 fa2 q5 (by decide) (by decide)
      refine g_iconst C dX12_within_14 ?_
      exact g_iret C hr (nar_z2 (iw (il 0) (by decide) (by decide))).1 (iw (il 0) (by decide) (by decide)) ⟨O, Fx.rf, (iw (il 0) (by decide) (by decide)), (by omega)⟩ (by decide) (by decide) dX12_within_15
    · refine g_iconst C dX12_within_10 ?_
      refine g_goto C 15 (by decide) dX12_within_11 ?_
      exact g_iret C hr (nar_z2 (iw (il 1) (by decide) (by decide))).1 (iw (il 1) (by decide) (by decide)) ⟨O, Fx.rf, (iw (il 1) (by decide) (by decide)), (by omega)⟩ (by decide) (by decide) dX12_within_15
def wr_k_X12_isCell : List Nat := []
set_option maxRecDepth 100000 in
set_option maxHeartbeats 4000000 in
theorem k_X12_isCell (l : Launch) (D : va_G) (cy : Nat → ClassId) (w : Nat → Nat) (z0 : Nat) {h : Hp} {a0 : Int} {a1 : Int}  (O : Okh h) (fa0 : (-2147483648) ≤ a0 ∧ a0 ≤ 2147483647) (fa1 : (-2147483648) ≤ a1 ∧ a1 ≤ 2147483647) : MI l D cy w z0 yX12_isCell cX12_isCell 2 (some .boolean) 1 22 0 0 [.inl a0, .inl a1] h (fun v h1 => Okh h1 ∧ Fx wr_k_X12_isCell h h1 ∧ (0 ≤ v ∧ v ≤ 1) ∧ (v = 0 ∨ (0 ≤ a0 ∧ a0 ≤ 11 ∧ 0 ≤ a1 ∧ a1 ≤ 7))) := by
  refine hm_go (by decide +kernel) (Nat.le_of_ble_eq_true rfl) (fun p e s m below meth c C hr hn => ?_)
  refine g_iload_n C rfl 0 rfl dX12_isCell_0 ?_
  refine g_iconst C dX12_isCell_1 ?_
  refine g_bipush C (by decide) dX12_isCell_2 ?_
  refine g_callI (st := []) (gc_S C lk_LandSurveyModel_415 (k_X12_within l D cy w z0 O fa0 (iw (il 0) (by decide) (by decide)) (iw (il 11) (by decide) (by decide))) rfl ⟨by decide, by decide⟩ (Nat.le_of_ble_eq_true rfl) dX12_isCell_4 ⟨(by decide), (by decide)⟩) (fun r1 h2 f4 K3 => ?_)
  obtain ⟨O5, F6, f7, p8⟩ := K3
  refine g_if_eq C (iw f7 (by decide) (by decide)) 24 (by decide) dX12_isCell_7 (fun q9 => ?_) (fun q10 => ?_)
  · have f11 : (0 : Int) ≤ r1 ∧ r1 ≤ (0 : Int) := ii f7 (r_eq (il 0) q9) (by decide) (by decide)
    refine g_iconst C dX12_isCell_24 ?_
    exact g_iret C hr (nar_z2 (iw (il 0) (by decide) (by decide))).1 (iw (il 0) (by decide) (by decide)) ⟨O5, ((Fx.rf (wr := wr_k_X12_isCell)).call F6 rfl), (iw (il 0) (by decide) (by decide)), (by omega)⟩ (by decide) (by decide) dX12_isCell_25
  · have f12 : (1 : Int) ≤ r1 ∧ r1 ≤ (1 : Int) := r_nl f7 q10
    refine g_iload_n C rfl 1 rfl dX12_isCell_10 ?_
    refine g_iconst C dX12_isCell_11 ?_
    refine g_bipush C (by decide) dX12_isCell_12 ?_
    refine g_callI (st := []) (gc_S C lk_LandSurveyModel_415 (k_X12_within l D cy w z0 O5 fa1 (iw (il 0) (by decide) (by decide)) (iw (il 7) (by decide) (by decide))) rfl ⟨by decide, by decide⟩ (Nat.le_of_ble_eq_true rfl) dX12_isCell_14 ⟨(by decide), (by decide)⟩) (fun r13 h14 f16 K15 => ?_)
    obtain ⟨O17, F18, f19, p20⟩ := K15
    refine g_if_eq C (iw f19 (by decide) (by decide)) 24 (by decide) dX12_isCell_17 (fun q21 => ?_) (fun q22 => ?_)
    · have f23 : (0 : Int) ≤ r13 ∧ r13 ≤ (0 : Int) := ii f19 (r_eq (il 0) q21) (by decide) (by decide)
      refine g_iconst C dX12_isCell_24 ?_
      exact g_iret C hr (nar_z2 (iw (il 0) (by decide) (by decide))).1 (iw (il 0) (by decide) (by decide)) ⟨O17, (((Fx.rf (wr := wr_k_X12_isCell)).call F6 rfl).call F18 rfl), (iw (il 0) (by decide) (by decide)), (by omega)⟩ (by decide) (by decide) dX12_isCell_25
    · have f24 : (1 : Int) ≤ r13 ∧ r13 ≤ (1 : Int) := r_nl f19 q22
      refine g_iconst C dX12_isCell_20 ?_
      refine g_goto C 25 (by decide) dX12_isCell_21 ?_
      exact g_iret C hr (nar_z2 (iw (il 1) (by decide) (by decide))).1 (iw (il 1) (by decide) (by decide)) ⟨O17, (((Fx.rf (wr := wr_k_X12_isCell)).call F6 rfl).call F18 rfl), (iw (il 1) (by decide) (by decide)), (by omega)⟩ (by decide) (by decide) dX12_isCell_25
def wr_k_X12_lay : List Nat := [2402, 20220000]
set_option maxRecDepth 100000 in
set_option maxHeartbeats 4000000 in
theorem k_X12_lay (l : Launch) (D : va_G) (cy : Nat → ClassId) (w : Nat → Nat) (z0 : Nat) {h : Hp} {a0 : Nat} {a1 : Int}  (O : Okh h) (ta0 : Tg h a0 = 12) (fa1 : (-9223372036854775808) ≤ a1 ∧ a1 ≤ 9223372036854775807) : MV l D cy w z0 yX12_lay cX12_lay 5 none 0 0 0 0 [.inr (.inr a0), .inr (.inl a1)] h (fun h1 => Okh h1 ∧ Fx wr_k_X12_lay h h1) := by
  refine hm_go (by decide +kernel) (Nat.le_of_ble_eq_true rfl) (fun p e s m below meth c C hr hn => ?_)
  refine g_bipush C (by decide) dX12_lay_0 ?_
  refine g_istore_n C [(3, .inl 56), (0, .inr (.inr a0)), (1, .inr (.inl a1))] rfl (by decide) rfl dX12_lay_2 ?_
  refine GW.sub [1, 2, 0] rfl ?_
  -- loop at 3
  have L3 : ∀ (μ : Nat) (x1 : Int) (h2 : Hp), (x1 - (-8)).toNat = μ → Okh h2 → Fx [2402, 20220000] h h2 → ((-8 : Int) ≤ x1 ∧ x1 ≤ (56 : Int)) → GW p l e (rmm 0 0 0 0) s m (List.map toV [.inr (.inr a0), .inr (.inl a1)]).toArray below meth c D cy z0 5 (MQ below (QV D cy z0 (fun h1 => Okh h1 ∧ Fx wr_k_X12_lay h h1)) (List.map toV [.inr (.inr a0), .inr (.inl a1)]).toArray s 0 0 (Aof z0)) 3 [(0, .inr (.inr a0)), (1, .inr (.inl a1)), (3, .inl x1)] [] h2 0 0 := by
    intro μ
    induction μ using Nat.strongRecOn with
    | ind μ ih4 =>
      intro x1 h2 hm5 O6 F7 f8
      refine g_iload_n C rfl 2 rfl dX12_lay_3 ?_
      refine g_if_lt C (iw f8 (by decide) (by decide)) 75 (by decide) dX12_lay_4 (fun q9 => ?_) (fun q10 => ?_)
      · have f11 : (-8 : Int) ≤ x1 ∧ x1 ≤ (-1 : Int) := r_lt f8 (il 0) q9 (by decide) (by decide)
        exact g_vret C hr ⟨O6, ((Fx.rf (wr := wr_k_X12_lay)).call F7 rfl)⟩ (by decide) (by decide) dX12_lay_75
      · have f12 : (0 : Int) ≤ x1 ∧ x1 ≤ (56 : Int) := r_ge f8 (il 0) q10 (by decide) (by decide)
        refine g_lload_n C rfl 1 rfl dX12_lay_7 ?_
        refine g_iload_n C rfl 2 rfl dX12_lay_8 ?_
        refine g_lshr C dX12_lay_9 ?_
        have f13 : (-9223372036854775808 : Int) ≤ (lShr a1 x1) ∧ (lShr a1 x1) ≤ (9223372036854775807 : Int) := inL_of _
        refine g_l2i C dX12_lay_10 ?_
        have f14 : (-2147483648 : Int) ≤ (l2w (lShr a1 x1)) ∧ (l2w (lShr a1 x1)) ≤ (2147483647 : Int) := inR_of _
        refine g_sipush C (by decide) dX12_lay_11 ?_
        refine g_iand C dX12_lay_14 ?_
        have f15 : (0 : Int) ≤ (bAnd (l2w (lShr a1 x1)) 255) ∧ (bAnd (l2w (lShr a1 x1)) 255) ≤ (255 : Int) := bAnd_255 _
        refine g_istore C [(4, .inl (bAnd (l2w (lShr a1 x1)) 255)), (0, .inr (.inr a0)), (1, .inr (.inl a1)), (3, .inl x1)] (by decide) rfl dX12_lay_15 ?_
        refine g_iload C 0 rfl dX12_lay_17 ?_
        refine g_bipush C (by decide) dX12_lay_19 ?_
        refine g_icmp_eq C (iw f15 (by decide) (by decide)) (iw (il 10) (by decide) (by decide)) 38 (by decide) dX12_lay_21 (fun q16 => ?_) (fun q17 => ?_)
        · have f18 : (10 : Int) ≤ (bAnd (l2w (lShr a1 x1)) 255) ∧ (bAnd (l2w (lShr a1 x1)) 255) ≤ (10 : Int) := ii f15 (r_eq (il 10) q16) (by decide) (by decide)
          refine g_aload_n C rfl 1 rfl dX12_lay_38 ?_
          have e19 : Tg h2 a0 = 12 := (fxT F7 ta0)
          obtain ⟨v20, e21⟩ : ∃ z, Iv h2 a0 2 = z := ⟨_, rfl⟩
          have f22 := ok_I O6 e19 rI_12_2 e21
          refine gf_I C fk_LandSurveyModel_11 rfl e19 e21 dX12_lay_39 ?_
          refine g_sipush C (by decide) dX12_lay_42 ?_
          refine g_icmp_ge C (iw f22 (by decide) (by decide)) (iw (il 1500) (by decide) (by decide)) 69 (by decide) dX12_lay_45 (fun q23 => ?_) (fun q24 => ?_)
          · have f25 : (1500 : Int) ≤ v20 ∧ v20 ≤ (1500 : Int) := r_ge f22 (il 1500) q23 (by decide) (by decide)
            have f26 : (-8 : Int) ≤ (x1 + (-8)) ∧ (x1 + (-8)) ≤ (48 : Int) := ia_add f12 (il (-8)) (by decide) (by decide)
            refine g_iinc C [(3, .inl (x1 + (-8))), (4, .inl (bAnd (l2w (lShr a1 x1)) 255)), (0, .inr (.inr a0)), (1, .inr (.inl a1))] 3 rfl (by decide) rfl dX12_lay_69 ?_
            refine g_goto C 3 (by decide) dX12_lay_72 ?_
            refine GW.sub [2, 3, 0] rfl ?_
            exact ih4 _ (by omega) (x1 + (-8)) h2 rfl O6 F7 (iw f26 (by decide) (by decide))
          · have f27 : (0 : Int) ≤ v20 ∧ v20 ≤ (1499 : Int) := r_lt f22 (il 1500) q24 (by decide) (by decide)
            refine g_aload_n C rfl 1 rfl dX12_lay_48 ?_
            obtain ⟨v28, e29⟩ : ∃ z, Rv h2 a0 1 = z := ⟨_, rfl⟩
            have t30 := ok_R O6 e19 rE_12_1 e29
            have l31 := ok_L O6 e19 rE_12_1 e29
            refine gf_R C fk_LandSurveyModel_14 rfl e19 e29 dX12_lay_49 ?_
            refine g_aload_n C rfl 1 rfl dX12_lay_52 ?_
            refine gf_I C fk_LandSurveyModel_11 rfl e19 e21 dX12_lay_53 ?_
            refine g_iload C 0 rfl dX12_lay_56 ?_
            refine g_iast C t30 rfl l31 (ix f27 (by decide) (by decide)) (iw f18 (by decide) (by decide)) dX12_lay_58 (fun h33 hh32 => ?_)
            have O34 := O6.pIa t30 ar_101100 hh32 rI_101100_0 (iw f18 (by decide) (by decide)) nofun
            refine g_aload_n C rfl 1 rfl dX12_lay_59 ?_
            refine g_dup C rfl dX12_lay_60 ?_
            have e35 : Tg h33 a0 = 12 := ((pIT hh32).trans e19)
            have e36 : Iv h33 a0 2 = v20 := ((pI_n hh32 (ne_tag e19 t30 (by decide))).trans e21)
            refine gf_I C fk_LandSurveyModel_11 rfl e35 e36 dX12_lay_61 ?_
            refine g_iconst C dX12_lay_64 ?_
            have f37 : (1 : Int) ≤ (v20 + 1) ∧ (v20 + 1) ≤ (1500 : Int) := ia_add f27 (il 1) (by decide) (by decide)
            refine g_iadd C dX12_lay_65 ?_
            refine gp_I C fk_LandSurveyModel_11 pk_LandSurveyModel_2 rfl e35 (iw f37 (by decide) (by decide)) (nf_i _) dX12_lay_66 (fun h39 hh38 => ?_)
            have O40 := O34.pI e35 hh38 rI_12_2 (iw f37 (by decide) (by decide)) nofun
            have f41 : (-8 : Int) ≤ (x1 + (-8)) ∧ (x1 + (-8)) ≤ (48 : Int) := ia_add f12 (il (-8)) (by decide) (by decide)
            refine g_iinc C [(3, .inl (x1 + (-8))), (4, .inl (bAnd (l2w (lShr a1 x1)) 255)), (0, .inr (.inr a0)), (1, .inr (.inl a1))] 3 rfl (by decide) rfl dX12_lay_69 ?_
            refine g_goto C 3 (by decide) dX12_lay_72 ?_
            refine GW.sub [2, 3, 0] rfl ?_
            exact ih4 _ (by omega) (x1 + (-8)) h39 rfl O40 ((F7.pIa t30 ar_101100 hh32 rfl).pI e35 hh38 rfl) (iw f41 (by decide) (by decide))
        · refine g_iload C 0 rfl dX12_lay_24 ?_
          refine g_bipush C (by decide) dX12_lay_26 ?_
          refine g_icmp_lt C (iw f15 (by decide) (by decide)) (iw (il 32) (by decide) (by decide)) 69 (by decide) dX12_lay_28 (fun q42 => ?_) (fun q43 => ?_)
          · have f44 : (0 : Int) ≤ (bAnd (l2w (lShr a1 x1)) 255) ∧ (bAnd (l2w (lShr a1 x1)) 255) ≤ (31 : Int) := r_lt f15 (il 32) q42 (by decide) (by decide)
            have f45 : (-8 : Int) ≤ (x1 + (-8)) ∧ (x1 + (-8)) ≤ (48 : Int) := ia_add f12 (il (-8)) (by decide) (by decide)
            refine g_iinc C [(3, .inl (x1 + (-8))), (4, .inl (bAnd (l2w (lShr a1 x1)) 255)), (0, .inr (.inr a0)), (1, .inr (.inl a1))] 3 rfl (by decide) rfl dX12_lay_69 ?_
            refine g_goto C 3 (by decide) dX12_lay_72 ?_
            refine GW.sub [2, 3, 0] rfl ?_
            exact ih4 _ (by omega) (x1 + (-8)) h2 rfl O6 F7 (iw f45 (by decide) (by decide))
          · have f46 : (32 : Int) ≤ (bAnd (l2w (lShr a1 x1)) 255) ∧ (bAnd (l2w (lShr a1 x1)) 255) ≤ (255 : Int) := r_ge f15 (il 32) q43 (by decide) (by decide)
            refine g_iload C 0 rfl dX12_lay_31 ?_
            refine g_bipush C (by decide) dX12_lay_33 ?_
            refine g_icmp_gt C (iw f46 (by decide) (by decide)) (iw (il 126) (by decide) (by decide)) 69 (by decide) dX12_lay_35 (fun q47 => ?_) (fun q48 => ?_)
            · have f49 : (127 : Int) ≤ (bAnd (l2w (lShr a1 x1)) 255) ∧ (bAnd (l2w (lShr a1 x1)) 255) ≤ (255 : Int) := r_gt f46 (il 126) q47 (by decide) (by decide)
              have f50 : (-8 : Int) ≤ (x1 + (-8)) ∧ (x1 + (-8)) ≤ (48 : Int) := ia_add f12 (il (-8)) (by decide) (by decide)
              refine g_iinc C [(3, .inl (x1 + (-8))), (4, .inl (bAnd (l2w (lShr a1 x1)) 255)), (0, .inr (.inr a0)), (1, .inr (.inl a1))] 3 rfl (by decide) rfl dX12_lay_69 ?_
              refine g_goto C 3 (by decide) dX12_lay_72 ?_
              refine GW.sub [2, 3, 0] rfl ?_
              exact ih4 _ (by omega) (x1 + (-8)) h2 rfl O6 F7 (iw f50 (by decide) (by decide))
            · have f51 : (32 : Int) ≤ (bAnd (l2w (lShr a1 x1)) 255) ∧ (bAnd (l2w (lShr a1 x1)) 255) ≤ (126 : Int) := r_le f46 (il 126) q48 (by decide) (by decide)
              refine g_aload_n C rfl 1 rfl dX12_lay_38 ?_
              have e52 : Tg h2 a0 = 12 := (fxT F7 ta0)
              obtain ⟨v53, e54⟩ : ∃ z, Iv h2 a0 2 = z := ⟨_, rfl⟩
              have f55 := ok_I O6 e52 rI_12_2 e54
              refine gf_I C fk_LandSurveyModel_11 rfl e52 e54 dX12_lay_39 ?_
              refine g_sipush C (by decide) dX12_lay_42 ?_
              refine g_icmp_ge C (iw f55 (by decide) (by decide)) (iw (il 1500) (by decide) (by decide)) 69 (by decide) dX12_lay_45 (fun q56 => ?_) (fun q57 => ?_)
              · have f58 : (1500 : Int) ≤ v53 ∧ v53 ≤ (1500 : Int) := r_ge f55 (il 1500) q56 (by decide) (by decide)
                have f59 : (-8 : Int) ≤ (x1 + (-8)) ∧ (x1 + (-8)) ≤ (48 : Int) := ia_add f12 (il (-8)) (by decide) (by decide)
                refine g_iinc C [(3, .inl (x1 + (-8))), (4, .inl (bAnd (l2w (lShr a1 x1)) 255)), (0, .inr (.inr a0)), (1, .inr (.inl a1))] 3 rfl (by decide) rfl dX12_lay_69 ?_
                refine g_goto C 3 (by decide) dX12_lay_72 ?_
                refine GW.sub [2, 3, 0] rfl ?_
                exact ih4 _ (by omega) (x1 + (-8)) h2 rfl O6 F7 (iw f59 (by decide) (by decide))
              · have f60 : (0 : Int) ≤ v53 ∧ v53 ≤ (1499 : Int) := r_lt f55 (il 1500) q57 (by decide) (by decide)
                refine g_aload_n C rfl 1 rfl dX12_lay_48 ?_
                obtain ⟨v61, e62⟩ : ∃ z, Rv h2 a0 1 = z := ⟨_, rfl⟩
                have t63 := ok_R O6 e52 rE_12_1 e62
                have l64 := ok_L O6 e52 rE_12_1 e62
                refine gf_R C fk_LandSurveyModel_14 rfl e52 e62 dX12_lay_49 ?_
                refine g_aload_n C rfl 1 rfl dX12_lay_52 ?_
                refine gf_I C fk_LandSurveyModel_11 rfl e52 e54 dX12_lay_53 ?_
                refine g_iload C 0 rfl dX12_lay_56 ?_
                refine g_iast C t63 rfl l64 (ix f60 (by decide) (by decide)) (iw f51 (by decide) (by decide)) dX12_lay_58 (fun h66 hh65 => ?_)
                have O67 := O6.pIa t63 ar_101100 hh65 rI_101100_0 (iw f51 (by decide) (by decide)) nofun
                refine g_aload_n C rfl 1 rfl dX12_lay_59 ?_
                refine g_dup C rfl dX12_lay_60 ?_
                have e68 : Tg h66 a0 = 12 := ((pIT hh65).trans e52)
                have e69 : Iv h66 a0 2 = v53 := ((pI_n hh65 (ne_tag e52 t63 (by decide))).trans e54)
                refine gf_I C fk_LandSurveyModel_11 rfl e68 e69 dX12_lay_61 ?_
                refine g_iconst C dX12_lay_64 ?_
                have f70 : (1 : Int) ≤ (v53 + 1) ∧ (v53 + 1) ≤ (1500 : Int) := ia_add f60 (il 1) (by decide) (by decide)
                refine g_iadd C dX12_lay_65 ?_
                refine gp_I C fk_LandSurveyModel_11 pk_LandSurveyModel_2 rfl e68 (iw f70 (by decide) (by decide)) (nf_i _) dX12_lay_66 (fun h72 hh71 => ?_)
                have O73 := O67.pI e68 hh71 rI_12_2 (iw f70 (by decide) (by decide)) nofun
                have f74 : (-8 : Int) ≤ (x1 + (-8)) ∧ (x1 + (-8)) ≤ (48 : Int) := ia_add f12 (il (-8)) (by decide) (by decide)
                refine g_iinc C [(3, .inl (x1 + (-8))), (4, .inl (bAnd (l2w (lShr a1 x1)) 255)), (0, .inr (.inr a0)), (1, .inr (.inl a1))] 3 rfl (by decide) rfl dX12_lay_69 ?_
                refine g_goto C 3 (by decide) dX12_lay_72 ?_
                refine GW.sub [2, 3, 0] rfl ?_
                exact ih4 _ (by omega) (x1 + (-8)) h72 rfl O73 ((F7.pIa t63 ar_101100 hh65 rfl).pI e68 hh71 rfl) (iw f74 (by decide) (by decide))
  exact L3 _ 56 h rfl O Fx.rf (iw (il 56) (by decide) (by decide))
def wr_k_X12_feed : List Nat := [2400, 2402, 20220000]
set_option maxRecDepth 100000 in
set_option maxHeartbeats 4000000 in
theorem k_X12_feed (l : Launch) (D : va_G) (cy : Nat → ClassId) (w : Nat → Nat) (z0 : Nat) {h : Hp} {a0 : Nat} {a1 : Int} {a2 : Int} {a3 : Int}  (O : Okh h) (ta0 : Tg h a0 = 12) (fa1 : (-9223372036854775808) ≤ a1 ∧ a1 ≤ 9223372036854775807) (fa2 : (-9223372036854775808) ≤ a2 ∧ a2 ≤ 9223372036854775807) (fa3 : (-9223372036854775808) ≤ a3 ∧ a3 ≤ 9223372036854775807) : MI l D cy w z0 yX12_feed cX12_feed 7 (some .int) 1 24 0 0 [.inr (.inr a0), .inr (.inl a1), .inr (.inl a2), .inr (.inl a3)] h (fun v h1 => Okh h1 ∧ Fx wr_k_X12_feed h h1 ∧ (0 ≤ v ∧ v ≤ 1500)) := by
  refine hm_go (by decide +kernel) (Nat.le_of_ble_eq_true rfl) (fun p e s m below meth c C hr hn => ?_)
  refine g_aload_n C rfl 0 rfl dX12_feed_0 ?_
  refine g_iconst C dX12_feed_1 ?_
  refine gp_I C fk_LandSurveyModel_1 pk_LandSurveyModel_0 rfl ta0 (iw (il 0) (by decide) (by decide)) (nf_i _) dX12_feed_2 (fun h2 hh1 => ?_)
  have O3 := O.pI ta0 hh1 rI_12_0 (iw (il 0) (by decide) (by decide)) nofun
  refine g_aload_n C rfl 0 rfl dX12_feed_5 ?_
  refine g_lload_n C rfl 1 rfl dX12_feed_6 ?_
  have e4 : Tg h2 a0 = 12 := ((pIT hh1).trans ta0)
  refine g_callV (st := []) (gc_V C lk_LandSurveyModel_7 (k_X12_lay l D cy w z0 O3 e4 fa1) e4 rfl rfl rfl ⟨by decide, by decide⟩ (Nat.le_of_ble_eq_true rfl) dX12_feed_7 ⟨(by decide), (by decide)⟩) (fun h6 K7 => ?_)
  obtain ⟨O9, F10⟩ := K7
  refine g_aload_n C rfl 0 rfl dX12_feed_10 ?_
  refine g_lload_n C rfl 2 rfl dX12_feed_11 ?_
  have e11 : Tg h6 a0 = 12 := (fxT F10 e4)
  refine g_callV (st := []) (gc_V C lk_LandSurveyModel_7 (k_X12_lay l D cy w z0 O9 e11 fa2) e11 rfl rfl rfl ⟨by decide, by decide⟩ (Nat.le_of_ble_eq_true rfl) dX12_feed_12 ⟨(by decide), (by decide)⟩) (fun h13 K14 => ?_)
  obtain ⟨O16, F17⟩ := K14
  refine g_aload_n C rfl 0 rfl dX12_feed_15 ?_
  refine g_lload C 3 rfl dX12_feed_16 ?_
  have e18 : Tg h13 a0 = 12 := (fxT F17 e11)
  refine g_callV (st := []) (gc_V C lk_LandSurveyModel_7 (k_X12_lay l D cy w z0 O16 e18 fa3) e18 rfl rfl rfl ⟨by decide, by decide⟩ (Nat.le_of_ble_eq_true rfl) dX12_feed_18 ⟨(by decide), (by decide)⟩) (fun h20 K21 => ?_)
  obtain ⟨O23, F24⟩ := K21
  refine g_aload_n C rfl 0 rfl dX12_feed_21 ?_
  have e25 : Tg h20 a0 = 12 := (fxT F24 e18)
  obtain ⟨v26, e27⟩ : ∃ z, Iv h20 a0 2 = z := ⟨_, rfl⟩
  have f28 := ok_I O23 e25 rI_12_2 e27
  refine gf_I C fk_LandSurveyModel_11 rfl e25 e27 dX12_feed_22 ?_
  exact g_iret C hr rfl (iw f28 (by decide) (by decide)) ⟨O23, (((((Fx.rf (wr := wr_k_X12_feed)).pI ta0 hh1 rfl).call F10 rfl).call F17 rfl).call F24 rfl), f28⟩ (by decide) (by decide) dX12_feed_25
def wr_k_X12_days : List Nat := [2400, 2433, 2435]
set_option maxRecDepth 100000 in
set_option maxHeartbeats 4000000 in
theorem k_X12_days (l : Launch) (D : va_G) (cy : Nat → ClassId) (w : Nat → Nat) (z0 : Nat) {h : Hp} {a0 : Nat} {a1 : Int}  (O : Okh h) (ta0 : Tg h a0 = 12) (fa1 : (-2147483648) ≤ a1 ∧ a1 ≤ 2147483647) : MI l D cy w z0 yX12_days cX12_days 2 (some .int) 1 22 0 0 [.inr (.inr a0), .inl a1] h (fun v h1 => Okh h1 ∧ Fx wr_k_X12_days h h1 ∧ ((-1) ≤ v ∧ v ≤ 9999) ∧ (v = dyF a1 (Iv h a0 33)) ∧ (Iv h1 a0 33 = dnF a1 (Iv h a0 33))) := by
  refine hm_go (by decide +kernel) (Nat.le_of_ble_eq_true rfl) (fun p e s m below meth c C hr hn => ?_)
  obtain ⟨v1, e2⟩ : ∃ z, Iv h a0 33 = z := ⟨_, rfl⟩
  have f3 := ok_I O ta0 rI_12_33 e2
  refine g_aload_n C rfl 0 rfl dX12_days_0 ?_
  refine g_iconst C dX12_days_1 ?_
  refine gp_I C fk_LandSurveyModel_1 pk_LandSurveyModel_0 rfl ta0 (iw (il 0) (by decide) (by decide)) (nf_i _) dX12_days_2 (fun h5 hh4 => ?_)
  have O6 := O.pI ta0 hh4 rI_12_0 (iw (il 0) (by decide) (by decide)) nofun
  refine g_iload_n C rfl 1 rfl dX12_days_5 ?_
  refine g_iconst C dX12_days_6 ?_
  refine g_sipush C (by decide) dX12_days_7 ?_
  refine g_callI (st := []) (gc_S C lk_LandSurveyModel_415 (k_X12_within l D cy w z0 O6 fa1 (iw (il 0) (by decide) (by decide)) (iw (il 1000) (by decide) (by decide))) rfl ⟨by decide, by decide⟩ (Nat.le_of_ble_eq_true rfl) dX12_days_10 ⟨(by decide), (by decide)⟩) (fun r7 h8 f10 K9 => ?_)
  obtain ⟨O11, F12, f13, p14⟩ := K9
  refine g_if_eq C (iw f13 (by decide) (by decide)) 28 (by decide) dX12_days_13 (fun q15 => ?_) (fun q16 => ?_)
  · have f17 : (0 : Int) ≤ r7 ∧ r7 ≤ (0 : Int) := ii f13 (r_eq (il 0) q15) (by decide) (by decide)
    refine g_iconst C dX12_days_28 ?_
    have e18 : Tg h5 a0 = 12 := ((pIT hh4).trans ta0)
    have e19 : Iv h8 a0 33 = v1 := ((fxI F12 e18 rfl).trans ((pI_j hh4 (by decide)).trans e2))
    exact g_iret C hr rfl (iw (il (-1)) (by decide) (by decide)) ⟨O11, (((Fx.rf (wr := wr_k_X12_days)).pI ta0 hh4 rfl).call F12 rfl), (iw (il (-1)) (by decide) (by decide)), (by unfold dyF; rw [e2]; split <;> omega), (by unfold dnF; rw [e19, e2]; split <;> omega)⟩ (by decide) (by decide) dX12_days_29
  · have f20 : (1 : Int) ≤ r7 ∧ r7 ≤ (1 : Int) := r_nl f13 q16
    refine g_aload_n C rfl 0 rfl dX12_days_16 ?_
    have e21 : Tg h8 a0 = 12 := (fxT F12 ((pIT hh4).trans ta0))
    have e22 : Tg h5 a0 = 12 := ((pIT hh4).trans ta0)
    have e23 : Iv h8 a0 33 = v1 := ((fxI F12 e22 rfl).trans ((pI_j hh4 (by decide)).trans e2))
    refine gf_I C fk_LandSurveyModel_342 rfl e21 e23 dX12_days_17 ?_
    refine g_iload_n C rfl 1 rfl dX12_days_20 ?_
    have f24 : (-2147483648 : Int) ≤ (w32 (v1 + a1)) ∧ (w32 (v1 + a1)) ≤ (2147483647 : Int) := w32_inR _
    refine g_iaddW C dX12_days_21 ?_
    refine g_sipush C (by decide) dX12_days_22 ?_
    refine g_icmp_le C f24 (iw (il 9999) (by decide) (by decide)) 30 (by decide) dX12_days_25 (fun q25 => ?_) (fun q26 => ?_)
    · have f27 : (-2147483648 : Int) ≤ (w32 (v1 + a1)) ∧ (w32 (v1 + a1)) ≤ (9999 : Int) := r_le f24 (il 9999) q25 (by decide) (by decide)
      refine g_aload_n C rfl 0 rfl dX12_days_30 ?_
      refine g_dup C rfl dX12_days_31 ?_
      refine gf_I C fk_LandSurveyModel_342 rfl e21 e23 dX12_days_32 ?_
      refine g_iload_n C rfl 1 rfl dX12_days_35 ?_
      refine g_iaddW C dX12_days_36 ?_
      refine gp_I C fk_LandSurveyModel_342 pk_LandSurveyModel_33 rfl e21 (iw f27 (by decide) (by decide)) (nf_i _) dX12_days_37 (fun h29 hh28 => ?_)
      have O30 := O11.pI e21 hh28 rI_12_33 (by omega) nofun
      refine g_aload_n C rfl 0 rfl dX12_days_40 ?_
      refine g_iconst C dX12_days_41 ?_
      have e31 : Tg h29 a0 = 12 := ((pIT hh28).trans e21)
      refine gp_I C fk_LandSurveyModel_290 pk_LandSurveyModel_35 rfl e31 (iw (il 1) (by decide) (by decide)) (nar_z2 (iw (il 1) (by decide) (by decide))) dX12_days_42 (fun h33 hh32 => ?_)
      have O34 := O30.pI e31 hh32 rI_12_35 (iw (il 1) (by decide) (by decide)) nofun
      refine g_aload_n C rfl 0 rfl dX12_days_45 ?_
      have e35 : Tg h33 a0 = 12 := ((pIT hh32).trans e31)
      have e36 : Iv h33 a0 33 = (w32 (v1 + a1)) := ((pI_j hh32 (by decide)).trans (pI_e hh28))
      refine gf_I C fk_LandSurveyModel_342 rfl e35 e36 dX12_days_46 ?_
      exact g_iret C hr rfl (iw f27 (by decide) (by decide)) ⟨O34, (((((Fx.rf (wr := wr_k_X12_days)).pI ta0 hh4 rfl).call F12 rfl).pI e21 hh28 rfl).pI e31 hh32 rfl), (by omega), (by unfold dyF; rw [e2]; split <;> omega), (by unfold dnF; rw [e36, e2]; split <;> omega)⟩ (by decide) (by decide) dX12_days_49
    · have f37 : (10000 : Int) ≤ (w32 (v1 + a1)) ∧ (w32 (v1 + a1)) ≤ (2147483647 : Int) := r_gt f24 (il 9999) q26 (by decide) (by decide)
      refine g_iconst C dX12_days_28 ?_
      exact g_iret C hr rfl (iw (il (-1)) (by decide) (by decide)) ⟨O11, (((Fx.rf (wr := wr_k_X12_days)).pI ta0 hh4 rfl).call F12 rfl), (iw (il (-1)) (by decide) (by decide)), (by unfold dyF; rw [e2]; split <;> omega), (by unfold dnF; rw [e23, e2]; split <;> omega)⟩ (by decide) (by decide) dX12_days_29
def wr_k_X12_view : List Nat := [2400, 2434, 2435]
set_option maxRecDepth 100000 in
set_option maxHeartbeats 4000000 in
theorem k_X12_view (l : Launch) (D : va_G) (cy : Nat → ClassId) (w : Nat → Nat) (z0 : Nat) {h : Hp} {a0 : Nat} {a1 : Int}  (O : Okh h) (ta0 : Tg h a0 = 12) (fa1 : (-2147483648) ≤ a1 ∧ a1 ≤ 2147483647) : MI l D cy w z0 yX12_view cX12_view 2 (some .boolean) 1 22 0 0 [.inr (.inr a0), .inl a1] h (fun v h1 => Okh h1 ∧ Fx wr_k_X12_view h h1 ∧ (0 ≤ v ∧ v ≤ 1)) := by
  refine hm_go (by decide +kernel) (Nat.le_of_ble_eq_true rfl) (fun p e s m below meth c C hr hn => ?_)
  refine g_aload_n C rfl 0 rfl dX12_view_0 ?_
  refine g_iconst C dX12_view_1 ?_
  refine gp_I C fk_LandSurveyModel_1 pk_LandSurveyModel_0 rfl ta0 (iw (il 0) (by decide) (by decide)) (nf_i _) dX12_view_2 (fun h2 hh1 => ?_)
  have O3 := O.pI ta0 hh1 rI_12_0 (iw (il 0) (by decide) (by decide)) nofun
  refine g_iload_n C rfl 1 rfl dX12_view_5 ?_
  refine g_iconst C dX12_view_6 ?_
  refine g_aload_n C rfl 0 rfl dX12_view_7 ?_
  have e4 : Tg h2 a0 = 12 := ((pIT hh1).trans ta0)
  obtain ⟨v5, e6⟩ : ∃ z, Iv h2 a0 33 = z := ⟨_, rfl⟩
  have f7 := ok_I O3 e4 rI_12_33 e6
  refine gf_I C fk_LandSurveyModel_342 rfl e4 e6 dX12_view_8 ?_
  refine g_callI (st := []) (gc_S C lk_LandSurveyModel_415 (k_X12_within l D cy w z0 O3 fa1 (iw (il 0) (by decide) (by decide)) (iw f7 (by decide) (by decide))) rfl ⟨by decide, by decide⟩ (Nat.le_of_ble_eq_true rfl) dX12_view_11 ⟨(by decide), (by decide)⟩) (fun r8 h9 f11 K10 => ?_)
  obtain ⟨O12, F13, f14, p15⟩ := K10
  refine g_if_ne C (iw f14 (by decide) (by decide)) 19 (by decide) dX12_view_14 (fun q16 => ?_) (fun q17 => ?_)
  · have f18 : (1 : Int) ≤ r8 ∧ r8 ≤ (1 : Int) := r_nl f14 q16
    refine g_aload_n C rfl 0 rfl dX12_view_19 ?_
    refine g_iload_n C rfl 1 rfl dX12_view_20 ?_
    refine g_aload_n C rfl 0 rfl dX12_view_21 ?_
    have e19 : Tg h9 a0 = 12 := (fxT F13 e4)
    have e20 : Iv h9 a0 33 = v5 := ((fxI F13 e4 rfl).trans e6)
    refine gf_I C fk_LandSurveyModel_342 rfl e19 e20 dX12_view_22 ?_
    refine g_icmp_ne C fa1 (iw f7 (by decide) (by decide)) 32 (by decide) dX12_view_25 (fun q21 => ?_) (fun q22 => ?_)
    · refine g_iload_n C rfl 1 rfl dX12_view_32 ?_
      refine gp_I C fk_LandSurveyModel_287 pk_LandSurveyModel_34 rfl e19 fa1 (nf_i _) dX12_view_33 (fun h24 hh23 => ?_)
      have O25 := O12.pI e19 hh23 rI_12_34 (by omega) nofun
      refine g_aload_n C rfl 0 rfl dX12_view_36 ?_
      refine g_iconst C dX12_view_37 ?_
      have e26 : Tg h24 a0 = 12 := ((pIT hh23).trans e19)
      refine gp_I C fk_LandSurveyModel_290 pk_LandSurveyModel_35 rfl e26 (iw (il 1) (by decide) (by decide)) (nar_z2 (iw (il 1) (by decide) (by decide))) dX12_view_38 (fun h28 hh27 => ?_)
      have O29 := O25.pI e26 hh27 rI_12_35 (iw (il 1) (by decide) (by decide)) nofun
      refine g_iconst C dX12_view_41 ?_
      exact g_iret C hr (nar_z2 (iw (il 1) (by decide) (by decide))).1 (iw (il 1) (by decide) (by decide)) ⟨O29, (((((Fx.rf (wr := wr_k_X12_view)).pI ta0 hh1 rfl).call F13 rfl).pI e19 hh23 rfl).pI e26 hh27 rfl), (iw (il 1) (by decide) (by decide))⟩ (by decide) (by decide) dX12_view_42
    · have f30 : (0 : Int) ≤ a1 ∧ a1 ≤ (9999 : Int) := ii fa1 (r_eq f7 q22) (by decide) (by decide)
      refine g_iconst C dX12_view_28 ?_
      refine g_goto C 33 (by decide) dX12_view_29 ?_
      refine gp_I C fk_LandSurveyModel_287 pk_LandSurveyModel_34 rfl e19 (iw (il (-1)) (by decide) (by decide)) (nf_i _) dX12_view_33 (fun h32 hh31 => ?_)
      have O33 := O12.pI e19 hh31 rI_12_34 (iw (il (-1)) (by decide) (by decide)) nofun
      refine g_aload_n C rfl 0 rfl dX12_view_36 ?_
      refine g_iconst C dX12_view_37 ?_
      have e34 : Tg h32 a0 = 12 := ((pIT hh31).trans e19)
      refine gp_I C fk_LandSurveyModel_290 pk_LandSurveyModel_35 rfl e34 (iw (il 1) (by decide) (by decide)) (nar_z2 (iw (il 1) (by decide) (by decide))) dX12_view_38 (fun h36 hh35 => ?_)
      have O37 := O33.pI e34 hh35 rI_12_35 (iw (il 1) (by decide) (by decide)) nofun
      refine g_iconst C dX12_view_41 ?_
      exact g_iret C hr (nar_z2 (iw (il 1) (by decide) (by decide))).1 (iw (il 1) (by decide) (by decide)) ⟨O37, (((((Fx.rf (wr := wr_k_X12_view)).pI ta0 hh1 rfl).call F13 rfl).pI e19 hh31 rfl).pI e34 hh35 rfl), (iw (il 1) (by decide) (by decide))⟩ (by decide) (by decide) dX12_view_42
  · have f38 : (0 : Int) ≤ r8 ∧ r8 ≤ (0 : Int) := ii f14 (r_eq (il 0) q17) (by decide) (by decide)
    refine g_iconst C dX12_view_17 ?_
    exact g_iret C hr (nar_z2 (iw (il 0) (by decide) (by decide))).1 (iw (il 0) (by decide) (by decide)) ⟨O12, (((Fx.rf (wr := wr_k_X12_view)).pI ta0 hh1 rfl).call F13 rfl), (iw (il 0) (by decide) (by decide))⟩ (by decide) (by decide) dX12_view_18
def wr_k_X12_isSight : List Nat := []
set_option maxRecDepth 100000 in
set_option maxHeartbeats 4000000 in
theorem k_X12_isSight (l : Launch) (D : va_G) (cy : Nat → ClassId) (w : Nat → Nat) (z0 : Nat) {h : Hp} {a0 : Nat} {a1 : Int}  (O : Okh h) (ta0 : Tg h a0 = 12) (fa1 : (-2147483648) ≤ a1 ∧ a1 ≤ 2147483647) : MI l D cy w z0 yX12_isSight cX12_isSight 2 (some .boolean) 0 0 0 0 [.inr (.inr a0), .inl a1] h (fun v h1 => Okh h1 ∧ Fx wr_k_X12_isSight h h1 ∧ (0 ≤ v ∧ v ≤ 1) ∧ (v = 1 → 0 ≤ a1 ∧ a1 ≤ 39)) := by
  refine hm_go (by decide +kernel) (Nat.le_of_ble_eq_true rfl) (fun p e s m below meth c C hr hn => ?_)
  refine g_iload_n C rfl 1 rfl dX12_isSight_0 ?_
  refine g_if_lt C fa1 16 (by decide) dX12_isSight_1 (fun q1 => ?_) (fun q2 => ?_)
  · have f3 : (-2147483648 : Int) ≤ a1 ∧ a1 ≤ (-1 : Int) := r_lt fa1 (il 0) q1 (by decide) (by decide)
    refine g_iconst C dX12_isSight_16 ?_
    exact g_iret C hr (nar_z2 (iw (il 0) (by decide) (by decide))).1 (iw (il 0) (by decide) (by decide)) ⟨O, Fx.rf, (iw (il 0) (by decide) (by decide)), (by omega)⟩ (by decide) (by decide) dX12_isSight_17
  · have f4 : (0 : Int) ≤ a1 ∧ a1 ≤ (2147483647 : Int) := r_ge fa1 (il 0) q2 (by decide) (by decide)
    refine g_iload_n C rfl 1 rfl dX12_isSight_4 ?_
    refine g_aload_n C rfl 0 rfl dX12_isSight_5 ?_
    obtain ⟨v5, e6⟩ : ∃ z, Iv h a0 40 = z := ⟨_, rfl⟩
    have f7 := ok_I O ta0 rI_12_40 e6
    refine gf_I C fk_LandSurveyModel_423 rfl ta0 e6 dX12_isSight_6 ?_
    refine g_icmp_ge C (iw f4 (by decide) (by decide)) (iw f7 (by decide) (by decide)) 16 (by decide) dX12_isSight_9 (fun q8 => ?_) (fun q9 => ?_)
    · refine g_iconst C dX12_isSight_16 ?_
      exact g_iret C hr (nar_z2 (iw (il 0) (by decide) (by decide))).1 (iw (il 0) (by decide) (by decide)) ⟨O, Fx.rf, (iw (il 0) (by decide) (by decide)), (by omega)⟩ (by decide) (by decide) dX12_isSight_17
    · have f10 : (0 : Int) ≤ a1 ∧ a1 ≤ (39 : Int) := r_lt f4 f7 q9 (by decide) (by decide)
      have f11 : (1 : Int) ≤ v5 ∧ v5 ≤ (40 : Int) := r_gt f7 f4 q9 (by decide) (by decide)
      refine g_iconst C dX12_isSight_12 ?_
      refine g_goto C 17 (by decide) dX12_isSight_13 ?_
      exact g_iret C hr (nar_z2 (iw (il 1) (by decide) (by decide))).1 (iw (il 1) (by decide) (by decide)) ⟨O, Fx.rf, (iw (il 1) (by decide) (by decide)), (by omega)⟩ (by decide) (by decide) dX12_isSight_17
def wr_k_X12_cell : List Nat := [2400, 2435, 27220000, 27420200]
set_option maxRecDepth 100000 in
set_option maxHeartbeats 4000000 in
theorem k_X12_cell (l : Launch) (D : va_G) (cy : Nat → ClassId) (w : Nat → Nat) (z0 : Nat) {h : Hp} {a0 : Nat} {a1 : Int} {a2 : Int} {a3 : Int} {a4 : Int}  (O : Okh h) (ta0 : Tg h a0 = 12) (fa1 : (-2147483648) ≤ a1 ∧ a1 ≤ 2147483647) (fa2 : (-2147483648) ≤ a2 ∧ a2 ≤ 2147483647) (fa3 : (-2147483648) ≤ a3 ∧ a3 ≤ 2147483647) (fa4 : 0 ≤ a4 ∧ a4 ≤ 1) : MI l D cy w z0 yX12_cell cX12_cell 5 (some .boolean) 2 43 0 0 [.inr (.inr a0), .inl a1, .inl a2, .inl a3, .inl a4] h (fun v h1 => Okh h1 ∧ Fx wr_k_X12_cell h h1 ∧ (0 ≤ v ∧ v ≤ 1)) := by
  refine hm_go (by decide +kernel) (Nat.le_of_ble_eq_true rfl) (fun p e s m below meth c C hr hn => ?_)
  refine g_aload_n C rfl 0 rfl dX12_cell_0 ?_
  refine g_iconst C dX12_cell_1 ?_
  refine gp_I C fk_LandSurveyModel_1 pk_LandSurveyModel_0 rfl ta0 (iw (il 0) (by decide) (by decide)) (nf_i _) dX12_cell_2 (fun h2 hh1 => ?_)
  have O3 := O.pI ta0 hh1 rI_12_0 (iw (il 0) (by decide) (by decide)) nofun
  refine g_iload_n C rfl 1 rfl dX12_cell_5 ?_
  refine g_iload_n C rfl 2 rfl dX12_cell_6 ?_
  refine g_callI (st := []) (gc_S C lk_LandSurveyModel_419 (k_X12_isCell l D cy w z0 O3 fa1 fa2) rfl ⟨by decide, by decide⟩ (Nat.le_of_ble_eq_true rfl) dX12_cell_7 ⟨(by decide), (by decide)⟩) (fun r4 h5 f7 K6 => ?_)
  obtain ⟨O8, F9, f10, p11⟩ := K6
  refine g_if_eq C (iw f10 (by decide) (by decide)) 24 (by decide) dX12_cell_10 (fun q12 => ?_) (fun q13 => ?_)
  · have f14 : (0 : Int) ≤ r4 ∧ r4 ≤ (0 : Int) := ii f10 (r_eq (il 0) q12) (by decide) (by decide)
    refine g_iconst C dX12_cell_24 ?_
    exact g_iret C hr (nar_z2 (iw (il 0) (by decide) (by decide))).1 (iw (il 0) (by decide) (by decide)) ⟨O8, (((Fx.rf (wr := wr_k_X12_cell)).pI ta0 hh1 rfl).call F9 rfl), (iw (il 0) (by decide) (by decide))⟩ (by decide) (by decide) dX12_cell_25
  · have f15 : (1 : Int) ≤ r4 ∧ r4 ≤ (1 : Int) := r_nl f10 q13
    refine g_iload_n C rfl 3 rfl dX12_cell_13 ?_
    refine g_iconst C dX12_cell_14 ?_
    refine g_sipush C (by decide) dX12_cell_15 ?_
    refine g_callI (st := []) (gc_S C lk_LandSurveyModel_415 (k_X12_within l D cy w z0 O8 fa3 (iw (il 0) (by decide) (by decide)) (iw (il 999) (by decide) (by decide))) rfl ⟨by decide, by decide⟩ (Nat.le_of_ble_eq_true rfl) dX12_cell_18 ⟨(by decide), (by decide)⟩) (fun r16 h17 f19 K18 => ?_)
    obtain ⟨O20, F21, f22, p23⟩ := K18
    refine g_if_ne C (iw f22 (by decide) (by decide)) 26 (by decide) dX12_cell_21 (fun q24 => ?_) (fun q25 => ?_)
    · have f26 : (1 : Int) ≤ r16 ∧ r16 ≤ (1 : Int) := r_nl f22 q24
      refine g_aload_n C rfl 0 rfl dX12_cell_26 ?_
      have e27 : Tg h17 a0 = 12 := (fxT F21 (fxT F9 ((pIT hh1).trans ta0)))
      obtain ⟨v28, e29⟩ : ∃ z, Rv h17 a0 36 = z := ⟨_, rfl⟩
      have t30 := ok_R O20 e27 rE_12_36 e29
      have l31 := ok_L O20 e27 rE_12_36 e29
      refine gf_R C fk_LandSurveyModel_161 rfl e27 e29 dX12_cell_27 ?_
      refine g_bipush C (by decide) dX12_cell_30 ?_
      refine g_iload_n C rfl 2 rfl dX12_cell_32 ?_
      have f32 : (-2147483648 : Int) ≤ (w32 (12 * a2)) ∧ (w32 (12 * a2)) ≤ (2147483647 : Int) := w32_inR _
      refine g_imulW C dX12_cell_33 ?_
      refine g_iload_n C rfl 1 rfl dX12_cell_34 ?_
      have f33 : (-2147483648 : Int) ≤ (w32 ((w32 (12 * a2)) + a1)) ∧ (w32 ((w32 (12 * a2)) + a1)) ≤ (2147483647 : Int) := w32_inR _
      refine g_iaddW C dX12_cell_35 ?_
      refine g_iload_n C rfl 3 rfl dX12_cell_36 ?_
      refine g_iast C t30 rfl l31 (by omega) fa3 dX12_cell_37 (fun h35 hh34 => ?_)
      have O36 := O20.pIa t30 ar_136100 hh34 rI_136100_0 (by omega) nofun
      refine g_aload_n C rfl 0 rfl dX12_cell_38 ?_
      have e37 : Tg h35 a0 = 12 := ((pIT hh34).trans e27)
      obtain ⟨v38, e39⟩ : ∃ z, Rv h35 a0 37 = z := ⟨_, rfl⟩
      have t40 := ok_R O36 e37 rE_12_37 e39
      have l41 := ok_L O36 e37 rE_12_37 e39
      refine gf_R C fk_LandSurveyModel_164 rfl e37 e39 dX12_cell_39 ?_
      refine g_bipush C (by decide) dX12_cell_42 ?_
      refine g_iload_n C rfl 2 rfl dX12_cell_44 ?_
      refine g_imulW C dX12_cell_45 ?_
      refine g_iload_n C rfl 1 rfl dX12_cell_46 ?_
      refine g_iaddW C dX12_cell_47 ?_
      refine g_iload C 4 rfl dX12_cell_48 ?_
      refine g_zast C t40 rfl l41 (by omega) fa4 dX12_cell_50 (fun h43 hh42 => ?_)
      have O44 := O36.pIa t40 ar_137101 hh42 rI_137101_0 fa4 nofun
      refine g_aload_n C rfl 0 rfl dX12_cell_51 ?_
      refine g_iconst C dX12_cell_52 ?_
      have e45 : Tg h43 a0 = 12 := ((pIT hh42).trans e37)
      refine gp_I C fk_LandSurveyModel_290 pk_LandSurveyModel_35 rfl e45 (iw (il 1) (by decide) (by decide)) (nar_z2 (iw (il 1) (by decide) (by decide))) dX12_cell_53 (fun h47 hh46 => ?_)
      have O48 := O44.pI e45 hh46 rI_12_35 (iw (il 1) (by decide) (by decide)) nofun
      refine g_iconst C dX12_cell_56 ?_
      exact g_iret C hr (nar_z2 (iw (il 1) (by decide) (by decide))).1 (iw (il 1) (by decide) (by decide)) ⟨O48, (((((((Fx.rf (wr := wr_k_X12_cell)).pI ta0 hh1 rfl).call F9 rfl).call F21 rfl).pIa t30 ar_136100 hh34 rfl).pIa t40 ar_137101 hh42 rfl).pI e45 hh46 rfl), (iw (il 1) (by decide) (by decide))⟩ (by decide) (by decide) dX12_cell_57
    · have f49 : (0 : Int) ≤ r16 ∧ r16 ≤ (0 : Int) := ii f22 (r_eq (il 0) q25) (by decide) (by decide)
      refine g_iconst C dX12_cell_24 ?_
      exact g_iret C hr (nar_z2 (iw (il 0) (by decide) (by decide))).1 (iw (il 0) (by decide) (by decide)) ⟨O20, ((((Fx.rf (wr := wr_k_X12_cell)).pI ta0 hh1 rfl).call F9 rfl).call F21 rfl), (iw (il 0) (by decide) (by decide))⟩ (by decide) (by decide) dX12_cell_25
def wr_k_X12_fold : List Nat := [2400, 2435, 27620200]
set_option maxRecDepth 100000 in
set_option maxHeartbeats 4000000 in
theorem k_X12_fold (l : Launch) (D : va_G) (cy : Nat → ClassId) (w : Nat → Nat) (z0 : Nat) {h : Hp} {a0 : Nat} {a1 : Int} {a2 : Int} {a3 : Int}  (O : Okh h) (ta0 : Tg h a0 = 12) (fa1 : (-2147483648) ≤ a1 ∧ a1 ≤ 2147483647) (fa2 : (-2147483648) ≤ a2 ∧ a2 ≤ 2147483647) (fa3 : 0 ≤ a3 ∧ a3 ≤ 1) : MI l D cy w z0 yX12_fold cX12_fold 4 (some .boolean) 2 43 0 0 [.inr (.inr a0), .inl a1, .inl a2, .inl a3] h (fun v h1 => Okh h1 ∧ Fx wr_k_X12_fold h h1 ∧ (0 ≤ v ∧ v ≤ 1)) := by
  refine hm_go (by decide +kernel) (Nat.le_of_ble_eq_true rfl) (fun p e s m below meth c C hr hn => ?_)
  refine g_aload_n C rfl 0 rfl dX12_fold_0 ?_
  refine g_iconst C dX12_fold_1 ?_
  refine gp_I C fk_LandSurveyModel_1 pk_LandSurveyModel_0 rfl ta0 (iw (il 0) (by decide) (by decide)) (nf_i _) dX12_fold_2 (fun h2 hh1 => ?_)
  have O3 := O.pI ta0 hh1 rI_12_0 (iw (il 0) (by decide) (by decide)) nofun
  refine g_iload_n C rfl 1 rfl dX12_fold_5 ?_
  refine g_iload_n C rfl 2 rfl dX12_fold_6 ?_
  refine g_callI (st := []) (gc_S C lk_LandSurveyModel_419 (k_X12_isCell l D cy w z0 O3 fa1 fa2) rfl ⟨by decide, by decide⟩ (Nat.le_of_ble_eq_true rfl) dX12_fold_7 ⟨(by decide), (by decide)⟩) (fun r4 h5 f7 K6 => ?_)
  obtain ⟨O8, F9, f10, p11⟩ := K6
  refine g_if_ne C (iw f10 (by decide) (by decide)) 15 (by decide) dX12_fold_10 (fun q12 => ?_) (fun q13 => ?_)
  · have f14 : (1 : Int) ≤ r4 ∧ r4 ≤ (1 : Int) := r_nl f10 q12
    refine g_aload_n C rfl 0 rfl dX12_fold_15 ?_
    have e15 : Tg h5 a0 = 12 := (fxT F9 ((pIT hh1).trans ta0))
    obtain ⟨v16, e17⟩ : ∃ z, Rv h5 a0 38 = z := ⟨_, rfl⟩
    have t18 := ok_R O8 e15 rE_12_38 e17
    have l19 := ok_L O8 e15 rE_12_38 e17
    refine gf_R C fk_LandSurveyModel_167 rfl e15 e17 dX12_fold_16 ?_
    refine g_bipush C (by decide) dX12_fold_19 ?_
    refine g_iload_n C rfl 2 rfl dX12_fold_21 ?_
    have f20 : (-2147483648 : Int) ≤ (w32 (12 * a2)) ∧ (w32 (12 * a2)) ≤ (2147483647 : Int) := w32_inR _
    refine g_imulW C dX12_fold_22 ?_
    refine g_iload_n C rfl 1 rfl dX12_fold_23 ?_
    have f21 : (-2147483648 : Int) ≤ (w32 ((w32 (12 * a2)) + a1)) ∧ (w32 ((w32 (12 * a2)) + a1)) ≤ (2147483647 : Int) := w32_inR _
    refine g_iaddW C dX12_fold_24 ?_
    refine g_iload_n C rfl 3 rfl dX12_fold_25 ?_
    refine g_zast C t18 rfl l19 (by omega) fa3 dX12_fold_26 (fun h23 hh22 => ?_)
    have O24 := O8.pIa t18 ar_138101 hh22 rI_138101_0 fa3 nofun
    refine g_aload_n C rfl 0 rfl dX12_fold_27 ?_
    refine g_iconst C dX12_fold_28 ?_
    have e25 : Tg h23 a0 = 12 := ((pIT hh22).trans e15)
    refine gp_I C fk_LandSurveyModel_290 pk_LandSurveyModel_35 rfl e25 (iw (il 1) (by decide) (by decide)) (nar_z2 (iw (il 1) (by decide) (by decide))) dX12_fold_29 (fun h27 hh26 => ?_)
    have O28 := O24.pI e25 hh26 rI_12_35 (iw (il 1) (by decide) (by decide)) nofun
    refine g_iconst C dX12_fold_32 ?_
    exact g_iret C hr (nar_z2 (iw (il 1) (by decide) (by decide))).1 (iw (il 1) (by decide) (by decide)) ⟨O28, (((((Fx.rf (wr := wr_k_X12_fold)).pI ta0 hh1 rfl).call F9 rfl).pIa t18 ar_138101 hh22 rfl).pI e25 hh26 rfl), (iw (il 1) (by decide) (by decide))⟩ (by decide) (by decide) dX12_fold_33
  · have f29 : (0 : Int) ≤ r4 ∧ r4 ≤ (0 : Int) := ii f10 (r_eq (il 0) q13) (by decide) (by decide)
    refine g_iconst C dX12_fold_13 ?_
    exact g_iret C hr (nar_z2 (iw (il 0) (by decide) (by decide))).1 (iw (il 0) (by decide) (by decide)) ⟨O8, (((Fx.rf (wr := wr_k_X12_fold)).pI ta0 hh1 rfl).call F9 rfl), (iw (il 0) (by decide) (by decide))⟩ (by decide) (by decide) dX12_fold_14
def wr_k_X12_own : List Nat := [2400, 27820000]
set_option maxRecDepth 100000 in
set_option maxHeartbeats 4000000 in
theorem k_X12_own (l : Launch) (D : va_G) (cy : Nat → ClassId) (w : Nat → Nat) (z0 : Nat) {h : Hp} {a0 : Nat} {a1 : Int} {a2 : Int} {a3 : Int}  (O : Okh h) (ta0 : Tg h a0 = 12) (fa1 : (-2147483648) ≤ a1 ∧ a1 ≤ 2147483647) (fa2 : (-2147483648) ≤ a2 ∧ a2 ≤ 2147483647) (fa3 : (-2147483648) ≤ a3 ∧ a3 ≤ 2147483647) : MI l D cy w z0 yX12_own cX12_own 4 (some .boolean) 2 43 0 0 [.inr (.inr a0), .inl a1, .inl a2, .inl a3] h (fun v h1 => Okh h1 ∧ Fx wr_k_X12_own h h1 ∧ (0 ≤ v ∧ v ≤ 1)) := by
  refine hm_go (by decide +kernel) (Nat.le_of_ble_eq_true rfl) (fun p e s m below meth c C hr hn => ?_)
  refine g_aload_n C rfl 0 rfl dX12_own_0 ?_
  refine g_iconst C dX12_own_1 ?_
  refine gp_I C fk_LandSurveyModel_1 pk_LandSurveyModel_0 rfl ta0 (iw (il 0) (by decide) (by decide)) (nf_i _) dX12_own_2 (fun h2 hh1 => ?_)
  have O3 := O.pI ta0 hh1 rI_12_0 (iw (il 0) (by decide) (by decide)) nofun
  refine g_iload_n C rfl 1 rfl dX12_own_5 ?_
  refine g_iload_n C rfl 2 rfl dX12_own_6 ?_
  refine g_callI (st := []) (gc_S C lk_LandSurveyModel_419 (k_X12_isCell l D cy w z0 O3 fa1 fa2) rfl ⟨by decide, by decide⟩ (Nat.le_of_ble_eq_true rfl) dX12_own_7 ⟨(by decide), (by decide)⟩) (fun r4 h5 f7 K6 => ?_)
  obtain ⟨O8, F9, f10, p11⟩ := K6
  refine g_if_eq C (iw f10 (by decide) (by decide)) 22 (by decide) dX12_own_10 (fun q12 => ?_) (fun q13 => ?_)
  · have f14 : (0 : Int) ≤ r4 ∧ r4 ≤ (0 : Int) := ii f10 (r_eq (il 0) q12) (by decide) (by decide)
    refine g_iconst C dX12_own_22 ?_
    exact g_iret C hr (nar_z2 (iw (il 0) (by decide) (by decide))).1 (iw (il 0) (by decide) (by decide)) ⟨O8, (((Fx.rf (wr := wr_k_X12_own)).pI ta0 hh1 rfl).call F9 rfl), (iw (il 0) (by decide) (by decide))⟩ (by decide) (by decide) dX12_own_23
  · have f15 : (1 : Int) ≤ r4 ∧ r4 ≤ (1 : Int) := r_nl f10 q13
    refine g_iload_n C rfl 3 rfl dX12_own_13 ?_
    refine g_iconst C dX12_own_14 ?_
    refine g_iconst C dX12_own_15 ?_
    refine g_callI (st := []) (gc_S C lk_LandSurveyModel_415 (k_X12_within l D cy w z0 O8 fa3 (iw (il (-1)) (by decide) (by decide)) (iw (il 3) (by decide) (by decide))) rfl ⟨by decide, by decide⟩ (Nat.le_of_ble_eq_true rfl) dX12_own_16 ⟨(by decide), (by decide)⟩) (fun r16 h17 f19 K18 => ?_)
    obtain ⟨O20, F21, f22, p23⟩ := K18
    refine g_if_ne C (iw f22 (by decide) (by decide)) 24 (by decide) dX12_own_19 (fun q24 => ?_) (fun q25 => ?_)
    · have f26 : (1 : Int) ≤ r16 ∧ r16 ≤ (1 : Int) := r_nl f22 q24
      refine g_aload_n C rfl 0 rfl dX12_own_24 ?_
      have e27 : Tg h17 a0 = 12 := (fxT F21 (fxT F9 ((pIT hh1).trans ta0)))
      obtain ⟨v28, e29⟩ : ∃ z, Rv h17 a0 39 = z := ⟨_, rfl⟩
      have t30 := ok_R O20 e27 rE_12_39 e29
      have l31 := ok_L O20 e27 rE_12_39 e29
      refine gf_R C fk_LandSurveyModel_170 rfl e27 e29 dX12_own_25 ?_
      refine g_bipush C (by decide) dX12_own_28 ?_
      refine g_iload_n C rfl 2 rfl dX12_own_30 ?_
      have f32 : (-2147483648 : Int) ≤ (w32 (12 * a2)) ∧ (w32 (12 * a2)) ≤ (2147483647 : Int) := w32_inR _
      refine g_imulW C dX12_own_31 ?_
      refine g_iload_n C rfl 1 rfl dX12_own_32 ?_
      have f33 : (-2147483648 : Int) ≤ (w32 ((w32 (12 * a2)) + a1)) ∧ (w32 ((w32 (12 * a2)) + a1)) ≤ (2147483647 : Int) := w32_inR _
      refine g_iaddW C dX12_own_33 ?_
      refine g_iload_n C rfl 3 rfl dX12_own_34 ?_
      refine g_iast C t30 rfl l31 (by omega) fa3 dX12_own_35 (fun h35 hh34 => ?_)
      have O36 := O20.pIa t30 ar_139100 hh34 rI_139100_0 (by omega) nofun
      refine g_iconst C dX12_own_36 ?_
      exact g_iret C hr (nar_z2 (iw (il 1) (by decide) (by decide))).1 (iw (il 1) (by decide) (by decide)) ⟨O36, (((((Fx.rf (wr := wr_k_X12_own)).pI ta0 hh1 rfl).call F9 rfl).call F21 rfl).pIa t30 ar_139100 hh34 rfl), (iw (il 1) (by decide) (by decide))⟩ (by decide) (by decide) dX12_own_37
    · have f37 : (0 : Int) ≤ r16 ∧ r16 ≤ (0 : Int) := ii f22 (r_eq (il 0) q25) (by decide) (by decide)
      refine g_iconst C dX12_own_22 ?_
      exact g_iret C hr (nar_z2 (iw (il 0) (by decide) (by decide))).1 (iw (il 0) (by decide) (by decide)) ⟨O20, ((((Fx.rf (wr := wr_k_X12_own)).pI ta0 hh1 rfl).call F9 rfl).call F21 rfl), (iw (il 0) (by decide) (by decide))⟩ (by decide) (by decide) dX12_own_23
def wr_k_X12_sight : List Nat := [2400, 2435, 2440, 28220000, 28420000, 28620000, 28820000, 29020000, 29220000, 29420000, 29620000, 30220000]
set_option maxRecDepth 100000 in
set_option maxHeartbeats 4000000 in
theorem k_X12_sight (l : Launch) (D : va_G) (cy : Nat → ClassId) (w : Nat → Nat) (z0 : Nat) {h : Hp} {a0 : Nat} {a1 : Int} {a2 : Int} {a3 : Int} {a4 : Int} {a5 : Int} {a6 : Int}  (O : Okh h) (ta0 : Tg h a0 = 12) (fa1 : (-2147483648) ≤ a1 ∧ a1 ≤ 2147483647) (fa2 : (-2147483648) ≤ a2 ∧ a2 ≤ 2147483647) (fa3 : (-2147483648) ≤ a3 ∧ a3 ≤ 2147483647) (fa4 : (-2147483648) ≤ a4 ∧ a4 ≤ 2147483647) (fa5 : (-2147483648) ≤ a5 ∧ a5 ≤ 2147483647) (fa6 : (-2147483648) ≤ a6 ∧ a6 ≤ 2147483647) : MI l D cy w z0 yX12_sight cX12_sight 8 (some .int) 2 43 0 0 [.inr (.inr a0), .inl a1, .inl a2, .inl a3, .inl a4, .inl a5, .inl a6] h (fun v h1 => Okh h1 ∧ Fx wr_k_X12_sight h h1 ∧ ((-2147483648) ≤ v ∧ v ≤ 2147483647)) := by
  refine hm_go (by decide +kernel) (Nat.le_of_ble_eq_true rfl) (fun p e s m below meth c C hr hn => ?_)
  refine g_aload_n C rfl 0 rfl dX12_sight_0 ?_
  refine g_iconst C dX12_sight_1 ?_
  refine gp_I C fk_LandSurveyModel_1 pk_LandSurveyModel_0 rfl ta0 (iw (il 0) (by decide) (by decide)) (nf_i _) dX12_sight_2 (fun h2 hh1 => ?_)
  have O3 := O.pI ta0 hh1 rI_12_0 (iw (il 0) (by decide) (by decide)) nofun
  refine g_iload_n C rfl 1 rfl dX12_sight_5 ?_
  refine g_iconst C dX12_sight_6 ?_
  refine g_iconst C dX12_sight_7 ?_
  refine g_callI (st := []) (gc_S C lk_LandSurveyModel_415 (k_X12_within l D cy w z0 O3 fa1 (iw (il 0) (by decide) (by decide)) (iw (il 4) (by decide) (by decide))) rfl ⟨by decide, by decide⟩ (Nat.le_of_ble_eq_true rfl) dX12_sight_8 ⟨(by decide), (by decide)⟩) (fun r4 h5 f7 K6 => ?_)
  obtain ⟨O8, F9, f10, p11⟩ := K6
  refine g_if_eq C (iw f10 (by decide) (by decide)) 69 (by decide) dX12_sight_11 (fun q12 => ?_) (fun q13 => ?_)
  · have f14 : (0 : Int) ≤ r4 ∧ r4 ≤ (0 : Int) := ii f10 (r_eq (il 0) q12) (by decide) (by decide)
    refine g_iconst C dX12_sight_69 ?_
    refine g_istore C [(7, .inl 0), (0, .inr (.inr a0)), (1, .inl a1), (2, .inl a2), (3, .inl a3), (4, .inl a4), (5, .inl a5), (6, .inl a6)] (by decide) rfl dX12_sight_70 ?_
    refine g_iload C 0 rfl dX12_sight_72 ?_
    refine g_if_eq C (iw (il 0) (by decide) (by decide)) 104 (by decide) dX12_sight_74 (fun q15 => ?_) (fun q16 => ?_)
    · refine g_iconst C dX12_sight_104 ?_
      exact g_iret C hr rfl (iw (il (-1)) (by decide) (by decide)) ⟨O8, (((Fx.rf (wr := wr_k_X12_sight)).pI ta0 hh1 rfl).call F9 rfl), (iw (il (-1)) (by decide) (by decide))⟩ (by decide) (by decide) dX12_sight_105
    · exact (no_ne (il 0) (il 0) q16 (by decide)).elim
  · have f17 : (1 : Int) ≤ r4 ∧ r4 ≤ (1 : Int) := r_nl f10 q13
    refine g_iload_n C rfl 2 rfl dX12_sight_14 ?_
    refine g_iload_n C rfl 3 rfl dX12_sight_15 ?_
    refine g_callI (st := []) (gc_S C lk_LandSurveyModel_419 (k_X12_isCell l D cy w z0 O8 fa2 fa3) rfl ⟨by decide, by decide⟩ (Nat.le_of_ble_eq_true rfl) dX12_sight_16 ⟨(by decide), (by decide)⟩) (fun r18 h19 f21 K20 => ?_)
    obtain ⟨O22, F23, f24, p25⟩ := K20
    refine g_if_eq C (iw f24 (by decide) (by decide)) 69 (by decide) dX12_sight_19 (fun q26 => ?_) (fun q27 => ?_)
    · have f28 : (0 : Int) ≤ r18 ∧ r18 ≤ (0 : Int) := ii f24 (r_eq (il 0) q26) (by decide) (by decide)
      refine g_iconst C dX12_sight_69 ?_
      refine g_istore C [(7, .inl 0), (0, .inr (.inr a0)), (1, .inl a1), (2, .inl a2), (3, .inl a3), (4, .inl a4), (5, .inl a5), (6, .inl a6)] (by decide) rfl dX12_sight_70 ?_
      refine g_iload C 0 rfl dX12_sight_72 ?_
      refine g_if_eq C (iw (il 0) (by decide) (by decide)) 104 (by decide) dX12_sight_74 (fun q29 => ?_) (fun q30 => ?_)
      · refine g_iconst C dX12_sight_104 ?_
        exact g_iret C hr rfl (iw (il (-1)) (by decide) (by decide)) ⟨O22, ((((Fx.rf (wr := wr_k_X12_sight)).pI ta0 hh1 rfl).call F9 rfl).call F23 rfl), (iw (il (-1)) (by decide) (by decide))⟩ (by decide) (by decide) dX12_sight_105
      · exact (no_ne (il 0) (il 0) q30 (by decide)).elim
    · have f31 : (1 : Int) ≤ r18 ∧ r18 ≤ (1 : Int) := r_nl f24 q27
      refine g_iload C 4 rfl dX12_sight_22 ?_
      refine g_iconst C dX12_sight_24 ?_
      refine g_iload_n C rfl 1 rfl dX12_sight_25 ?_
      refine g_iconst C dX12_sight_26 ?_
      refine g_icmp_ge C fa1 (iw (il 2) (by decide) (by decide)) 34 (by decide) dX12_sight_27 (fun q32 => ?_) (fun q33 => ?_)
      · have f34 : (2 : Int) ≤ a1 ∧ a1 ≤ (2147483647 : Int) := r_ge fa1 (il 2) q32 (by decide) (by decide)
        refine g_sipush C (by decide) dX12_sight_34 ?_
        refine g_callI (st := []) (gc_S C lk_LandSurveyModel_415 (k_X12_within l D cy w z0 O22 fa4 (iw (il 0) (by decide) (by decide)) (iw (il 999) (by decide) (by decide))) rfl ⟨by decide, by decide⟩ (Nat.le_of_ble_eq_true rfl) dX12_sight_37 ⟨(by decide), (by decide)⟩) (fun r35 h36 f38 K37 => ?_)
        obtain ⟨O39, F40, f41, p42⟩ := K37
        refine g_if_eq C (iw f41 (by decide) (by decide)) 69 (by decide) dX12_sight_40 (fun q43 => ?_) (fun q44 => ?_)
        · have f45 : (0 : Int) ≤ r35 ∧ r35 ≤ (0 : Int) := ii f41 (r_eq (il 0) q43) (by decide) (by decide)
          refine g_iconst C dX12_sight_69 ?_
          refine g_istore C [(7, .inl 0), (0, .inr (.inr a0)), (1, .inl a1), (2, .inl a2), (3, .inl a3), (4, .inl a4), (5, .inl a5), (6, .inl a6)] (by decide) rfl dX12_sight_70 ?_
          refine g_iload C 0 rfl dX12_sight_72 ?_
          refine g_if_eq C (iw (il 0) (by decide) (by decide)) 104 (by decide) dX12_sight_74 (fun q46 => ?_) (fun q47 => ?_)
          · refine g_iconst C dX12_sight_104 ?_
            exact g_iret C hr rfl (iw (il (-1)) (by decide) (by decide)) ⟨O39, (((((Fx.rf (wr := wr_k_X12_sight)).pI ta0 hh1 rfl).call F9 rfl).call F23 rfl).call F40 rfl), (iw (il (-1)) (by decide) (by decide))⟩ (by decide) (by decide) dX12_sight_105
          · exact (no_ne (il 0) (il 0) q47 (by decide)).elim
        · have f48 : (1 : Int) ≤ r35 ∧ r35 ≤ (1 : Int) := r_nl f41 q44
          refine g_iload C 5 rfl dX12_sight_43 ?_
          refine g_iconst C dX12_sight_45 ?_
          refine g_iconst C dX12_sight_46 ?_
          refine g_callI (st := []) (gc_S C lk_LandSurveyModel_415 (k_X12_within l D cy w z0 O39 fa5 (iw (il 0) (by decide) (by decide)) (iw (il 5) (by decide) (by decide))) rfl ⟨by decide, by decide⟩ (Nat.le_of_ble_eq_true rfl) dX12_sight_47 ⟨(by decide), (by decide)⟩) (fun r49 h50 f52 K51 => ?_)
          obtain ⟨O53, F54, f55, p56⟩ := K51
          refine g_if_eq C (iw f55 (by decide) (by decide)) 69 (by decide) dX12_sight_50 (fun q57 => ?_) (fun q58 => ?_)
          · have f59 : (0 : Int) ≤ r49 ∧ r49 ≤ (0 : Int) := ii f55 (r_eq (il 0) q57) (by decide) (by decide)
            refine g_iconst C dX12_sight_69 ?_
            refine g_istore C [(7, .inl 0), (0, .inr (.inr a0)), (1, .inl a1), (2, .inl a2), (3, .inl a3), (4, .inl a4), (5, .inl a5), (6, .inl a6)] (by decide) rfl dX12_sight_70 ?_
            refine g_iload C 0 rfl dX12_sight_72 ?_
            refine g_if_eq C (iw (il 0) (by decide) (by decide)) 104 (by decide) dX12_sight_74 (fun q60 => ?_) (fun q61 => ?_)
            · refine g_iconst C dX12_sight_104 ?_
              exact g_iret C hr rfl (iw (il (-1)) (by decide) (by decide)) ⟨O53, ((((((Fx.rf (wr := wr_k_X12_sight)).pI ta0 hh1 rfl).call F9 rfl).call F23 rfl).call F40 rfl).call F54 rfl), (iw (il (-1)) (by decide) (by decide))⟩ (by decide) (by decide) dX12_sight_105
            · exact (no_ne (il 0) (il 0) q61 (by decide)).elim
          · have f62 : (1 : Int) ≤ r49 ∧ r49 ≤ (1 : Int) := r_nl f55 q58
            refine g_iload C 6 rfl dX12_sight_53 ?_
            refine g_iconst C dX12_sight_55 ?_
            refine g_sipush C (by decide) dX12_sight_56 ?_
            refine g_callI (st := []) (gc_S C lk_LandSurveyModel_415 (k_X12_within l D cy w z0 O53 fa6 (iw (il 0) (by decide) (by decide)) (iw (il 9999) (by decide) (by decide))) rfl ⟨by decide, by decide⟩ (Nat.le_of_ble_eq_true rfl) dX12_sight_59 ⟨(by decide), (by decide)⟩) (fun r63 h64 f66 K65 => ?_)
            obtain ⟨O67, F68, f69, p70⟩ := K65
            refine g_if_eq C (iw f69 (by decide) (by decide)) 69 (by decide) dX12_sight_62 (fun q71 => ?_) (fun q72 => ?_)
            · have f73 : (0 : Int) ≤ r63 ∧ r63 ≤ (0 : Int) := ii f69 (r_eq (il 0) q71) (by decide) (by decide)
              refine g_iconst C dX12_sight_69 ?_
              refine g_istore C [(7, .inl 0), (0, .inr (.inr a0)), (1, .inl a1), (2, .inl a2), (3, .inl a3), (4, .inl a4), (5, .inl a5), (6, .inl a6)] (by decide) rfl dX12_sight_70 ?_
              refine g_iload C 0 rfl dX12_sight_72 ?_
              refine g_if_eq C (iw (il 0) (by decide) (by decide)) 104 (by decide) dX12_sight_74 (fun q74 => ?_) (fun q75 => ?_)
              · refine g_iconst C dX12_sight_104 ?_
                exact g_iret C hr rfl (iw (il (-1)) (by decide) (by decide)) ⟨O67, (((((((Fx.rf (wr := wr_k_X12_sight)).pI ta0 hh1 rfl).call F9 rfl).call F23 rfl).call F40 rfl).call F54 rfl).call F68 rfl), (iw (il (-1)) (by decide) (by decide))⟩ (by decide) (by decide) dX12_sight_105
              · exact (no_ne (il 0) (il 0) q75 (by decide)).elim
            · have f76 : (1 : Int) ≤ r63 ∧ r63 ≤ (1 : Int) := r_nl f69 q72
              refine g_iconst C dX12_sight_65 ?_
              refine g_goto C 70 (by decide) dX12_sight_66 ?_
              refine g_istore C [(7, .inl 1), (0, .inr (.inr a0)), (1, .inl a1), (2, .inl a2), (3, .inl a3), (4, .inl a4), (5, .inl a5), (6, .inl a6)] (by decide) rfl dX12_sight_70 ?_
              refine g_iload C 0 rfl dX12_sight_72 ?_
              refine g_if_eq C (iw (il 1) (by decide) (by decide)) 104 (by decide) dX12_sight_74 (fun q77 => ?_) (fun q78 => ?_)
              · exact (no_eq (il 1) (il 0) q77 (by decide)).elim
              · refine g_iload_n C rfl 2 rfl dX12_sight_77 ?_
                refine g_if_ne C (iw f34 (by decide) (by decide)) 95 (by decide) dX12_sight_78 (fun q79 => ?_) (fun q80 => ?_)
                · refine g_aload_n C rfl 1 rfl dX12_sight_95 ?_
                  have e81 : Tg h64 a0 = 12 := (fxT F68 (fxT F54 (fxT F40 (fxT F23 (fxT F9 ((pIT hh1).trans ta0))))))
                  obtain ⟨v82, e83⟩ : ∃ z, Iv h64 a0 40 = z := ⟨_, rfl⟩
                  have f84 := ok_I O67 e81 rI_12_40 e83
                  refine gf_I C fk_LandSurveyModel_423 rfl e81 e83 dX12_sight_96 ?_
                  refine g_bipush C (by decide) dX12_sight_99 ?_
                  refine g_icmp_ne C (iw f84 (by decide) (by decide)) (iw (il 40) (by decide) (by decide)) 106 (by decide) dX12_sight_101 (fun q85 => ?_) (fun q86 => ?_)
                  · have f87 : (0 : Int) ≤ v82 ∧ v82 ≤ (39 : Int) := r_nh f84 q85
                    refine g_aload_n C rfl 1 rfl dX12_sight_106 ?_
                    obtain ⟨v88, e89⟩ : ∃ z, Rv h64 a0 41 = z := ⟨_, rfl⟩
                    have t90 := ok_R O67 e81 rE_12_41 e89
                    have l91 := ok_L O67 e81 rE_12_41 e89
                    refine gf_R C fk_LandSurveyModel_173 rfl e81 e89 dX12_sight_107 ?_
                    refine g_aload_n C rfl 1 rfl dX12_sight_110 ?_
                    refine gf_I C fk_LandSurveyModel_423 rfl e81 e83 dX12_sight_111 ?_
                    refine g_iload_n C rfl 2 rfl dX12_sight_114 ?_
                    refine g_iast C t90 rfl l91 (ix f87 (by decide) (by decide)) (iw f34 (by decide) (by decide)) dX12_sight_115 (fun h93 hh92 => ?_)
                    have O94 := O67.pIa t90 ar_141100 hh92 rI_141100_0 (by omega) nofun
                    refine g_aload_n C rfl 1 rfl dX12_sight_116 ?_
                    have e95 : Tg h93 a0 = 12 := ((pIT hh92).trans e81)
                    obtain ⟨v96, e97⟩ : ∃ z, Rv h93 a0 42 = z := ⟨_, rfl⟩
                    have t98 := ok_R O94 e95 rE_12_42 e97
                    have l99 := ok_L O94 e95 rE_12_42 e97
                    refine gf_R C fk_LandSurveyModel_176 rfl e95 e97 dX12_sight_117 ?_
                    refine g_aload_n C rfl 1 rfl dX12_sight_120 ?_
                    have e100 : Iv h93 a0 40 = v82 := ((pI_n hh92 (ne_tag e81 t90 (by decide))).trans e83)
                    refine gf_I C fk_LandSurveyModel_423 rfl e95 e100 dX12_sight_121 ?_
                    refine g_bipush C (by decide) dX12_sight_124 ?_
                    refine g_iload_n C rfl 4 rfl dX12_sight_126 ?_
                    have f101 : (-2147483648 : Int) ≤ (w32 (12 * a3)) ∧ (w32 (12 * a3)) ≤ (2147483647 : Int) := w32_inR _
                    refine g_imulW C dX12_sight_127 ?_
                    refine g_iload_n C rfl 3 rfl dX12_sight_128 ?_
                    have f102 : (-2147483648 : Int) ≤ (w32 ((w32 (12 * a3)) + a2)) ∧ (w32 ((w32 (12 * a3)) + a2)) ≤ (2147483647 : Int) := w32_inR _
                    refine g_iaddW C dX12_sight_129 ?_
                    refine g_iast C t98 rfl l99 (ix f87 (by decide) (by decide)) f102 dX12_sight_130 (fun h104 hh103 => ?_)
                    have O105 := O94.pIa t98 ar_142100 hh103 rI_142100_0 (by omega) nofun
                    refine g_aload_n C rfl 1 rfl dX12_sight_131 ?_
                    have e106 : Tg h104 a0 = 12 := ((pIT hh103).trans e95)
                    obtain ⟨v107, e108⟩ : ∃ z, Rv h104 a0 43 = z := ⟨_, rfl⟩
                    have t109 := ok_R O105 e106 rE_12_43 e108
                    have l110 := ok_L O105 e106 rE_12_43 e108
                    refine gf_R C fk_LandSurveyModel_179 rfl e106 e108 dX12_sight_132 ?_
                    refine g_aload_n C rfl 1 rfl dX12_sight_135 ?_
                    have e111 : Iv h104 a0 40 = v82 := ((pI_n hh103 (ne_tag e95 t98 (by decide))).trans e100)
                    refine gf_I C fk_LandSurveyModel_423 rfl e106 e111 dX12_sight_136 ?_
                    refine g_iload C 5 rfl dX12_sight_139 ?_
                    refine g_iast C t109 rfl l110 (ix f87 (by decide) (by decide)) fa4 dX12_sight_141 (fun h113 hh112 => ?_)
                    have O114 := O105.pIa t109 ar_143100 hh112 rI_143100_0 (by omega) nofun
                    refine g_aload_n C rfl 1 rfl dX12_sight_142 ?_
                    have e115 : Tg h113 a0 = 12 := ((pIT hh112).trans e106)
                    obtain ⟨v116, e117⟩ : ∃ z, Rv h113 a0 44 = z := ⟨_, rfl⟩
                    have t118 := ok_R O114 e115 rE_12_44 e117
                    have l119 := ok_L O114 e115 rE_12_44 e117
                    refine gf_R C fk_LandSurveyModel_182 rfl e115 e117 dX12_sight_143 ?_
                    refine g_aload_n C rfl 1 rfl dX12_sight_146 ?_
                    have e120 : Iv h113 a0 40 = v82 := ((pI_n hh112 (ne_tag e106 t109 (by decide))).trans e111)
                    refine gf_I C fk_LandSurveyModel_423 rfl e115 e120 dX12_sight_147 ?_
                    refine g_iload C 6 rfl dX12_sight_150 ?_
                    refine g_iast C t118 rfl l119 (ix f87 (by decide) (by decide)) fa5 dX12_sight_152 (fun h122 hh121 => ?_)
                    have O123 := O114.pIa t118 ar_144100 hh121 rI_144100_0 (by omega) nofun
                    refine g_aload_n C rfl 1 rfl dX12_sight_153 ?_
                    have e124 : Tg h122 a0 = 12 := ((pIT hh121).trans e115)
                    obtain ⟨v125, e126⟩ : ∃ z, Rv h122 a0 45 = z := ⟨_, rfl⟩
                    have t127 := ok_R O123 e124 rE_12_45 e126
                    have l128 := ok_L O123 e124 rE_12_45 e126
                    refine gf_R C fk_LandSurveyModel_185 rfl e124 e126 dX12_sight_154 ?_
                    refine g_aload_n C rfl 1 rfl dX12_sight_157 ?_
                    have e129 : Iv h122 a0 40 = v82 := ((pI_n hh121 (ne_tag e115 t118 (by decide))).trans e120)
                    refine gf_I C fk_LandSurveyModel_423 rfl e124 e129 dX12_sight_158 ?_
                    refine g_iload C 7 rfl dX12_sight_161 ?_
                    refine g_iast C t127 rfl l128 (ix f87 (by decide) (by decide)) fa6 dX12_sight_163 (fun h131 hh130 => ?_)
                    have O132 := O123.pIa t127 ar_145100 hh130 rI_145100_0 (by omega) nofun
                    refine g_aload_n C rfl 1 rfl dX12_sight_164 ?_
                    have e133 : Tg h131 a0 = 12 := ((pIT hh130).trans e124)
                    obtain ⟨v134, e135⟩ : ∃ z, Rv h131 a0 46 = z := ⟨_, rfl⟩
                    have t136 := ok_R O132 e133 rE_12_46 e135
                    have l137 := ok_L O132 e133 rE_12_46 e135
                    refine gf_R C fk_LandSurveyModel_188 rfl e133 e135 dX12_sight_165 ?_
                    refine g_aload_n C rfl 1 rfl dX12_sight_168 ?_
                    have e138 : Iv h131 a0 40 = v82 := ((pI_n hh130 (ne_tag e124 t127 (by decide))).trans e129)
                    refine gf_I C fk_LandSurveyModel_423 rfl e133 e138 dX12_sight_169 ?_
                    refine g_aload_n C rfl 1 rfl dX12_sight_172 ?_
                    obtain ⟨v139, e140⟩ : ∃ z, Iv h131 a0 33 = z := ⟨_, rfl⟩
                    have f141 := ok_I O132 e133 rI_12_33 e140
                    refine gf_I C fk_LandSurveyModel_342 rfl e133 e140 dX12_sight_173 ?_
                    refine g_iast C t136 rfl l137 (ix f87 (by decide) (by decide)) (iw f141 (by decide) (by decide)) dX12_sight_176 (fun h143 hh142 => ?_)
                    have O144 := O132.pIa t136 ar_146100 hh142 rI_146100_0 f141 nofun
                    refine g_aload_n C rfl 1 rfl dX12_sight_177 ?_
                    have e145 : Tg h143 a0 = 12 := ((pIT hh142).trans e133)
                    obtain ⟨v146, e147⟩ : ∃ z, Rv h143 a0 47 = z := ⟨_, rfl⟩
                    have t148 := ok_R O144 e145 rE_12_47 e147
                    have l149 := ok_L O144 e145 rE_12_47 e147
                    refine gf_R C fk_LandSurveyModel_191 rfl e145 e147 dX12_sight_178 ?_
                    refine g_aload_n C rfl 1 rfl dX12_sight_181 ?_
                    have e150 : Iv h143 a0 40 = v82 := ((pI_n hh142 (ne_tag e133 t136 (by decide))).trans e138)
                    refine gf_I C fk_LandSurveyModel_423 rfl e145 e150 dX12_sight_182 ?_
                    refine g_iconst C dX12_sight_185 ?_
                    refine g_iast C t148 rfl l149 (ix f87 (by decide) (by decide)) (iw (il (-1)) (by decide) (by decide)) dX12_sight_186 (fun h152 hh151 => ?_)
                    have O153 := O144.pIa t148 ar_147100 hh151 rI_147100_0 (iw (il (-1)) (by decide) (by decide)) nofun
                    refine g_aload_n C rfl 1 rfl dX12_sight_187 ?_
                    have e154 : Tg h152 a0 = 12 := ((pIT hh151).trans e145)
                    obtain ⟨v155, e156⟩ : ∃ z, Rv h152 a0 48 = z := ⟨_, rfl⟩
                    have t157 := ok_R O153 e154 rE_12_48 e156
                    have l158 := ok_L O153 e154 rE_12_48 e156
                    refine gf_R C fk_LandSurveyModel_194 rfl e154 e156 dX12_sight_188 ?_
                    refine g_aload_n C rfl 1 rfl dX12_sight_191 ?_
                    have e159 : Iv h152 a0 40 = v82 := ((pI_n hh151 (ne_tag e145 t148 (by decide))).trans e150)
                    refine gf_I C fk_LandSurveyModel_423 rfl e154 e159 dX12_sight_192 ?_
                    refine g_iconst C dX12_sight_195 ?_
                    refine g_iast C t157 rfl l158 (ix f87 (by decide) (by decide)) (iw (il (-1)) (by decide) (by decide)) dX12_sight_196 (fun h161 hh160 => ?_)
                    have O162 := O153.pIa t157 ar_148100 hh160 rI_148100_0 (iw (il (-1)) (by decide) (by decide)) nofun
                    refine g_aload_n C rfl 1 rfl dX12_sight_197 ?_
                    have e163 : Tg h161 a0 = 12 := ((pIT hh160).trans e154)
                    obtain ⟨v164, e165⟩ : ∃ z, Rv h161 a0 51 = z := ⟨_, rfl⟩
                    have t166 := ok_R O162 e163 rE_12_51 e165
                    have l167 := ok_L O162 e163 rE_12_51 e165
                    refine gf_R C fk_LandSurveyModel_203 rfl e163 e165 dX12_sight_198 ?_
                    refine g_aload_n C rfl 1 rfl dX12_sight_201 ?_
                    have e168 : Iv h161 a0 40 = v82 := ((pI_n hh160 (ne_tag e154 t157 (by decide))).trans e159)
                    refine gf_I C fk_LandSurveyModel_423 rfl e163 e168 dX12_sight_202 ?_
                    refine g_iconst C dX12_sight_205 ?_
                    refine g_iast C t166 rfl l167 (ix f87 (by decide) (by decide)) (iw (il (-1)) (by decide) (by decide)) dX12_sight_206 (fun h170 hh169 => ?_)
                    have O171 := O162.pIa t166 ar_151100 hh169 rI_151100_0 (iw (il (-1)) (by decide) (by decide)) nofun
                    refine g_aload_n C rfl 1 rfl dX12_sight_207 ?_
                    refine g_dup C rfl dX12_sight_208 ?_
                    have e172 : Tg h170 a0 = 12 := ((pIT hh169).trans e163)
                    have e173 : Iv h170 a0 40 = v82 := ((pI_n hh169 (ne_tag e163 t166 (by decide))).trans e168)
                    refine gf_I C fk_LandSurveyModel_423 rfl e172 e173 dX12_sight_209 ?_
                    refine g_iconst C dX12_sight_212 ?_
                    have f174 : (1 : Int) ≤ (v82 + 1) ∧ (v82 + 1) ≤ (40 : Int) := ia_add f87 (il 1) (by decide) (by decide)
                    refine g_iadd C dX12_sight_213 ?_
                    refine gp_I C fk_LandSurveyModel_423 pk_LandSurveyModel_40 rfl e172 (iw f174 (by decide) (by decide)) (nf_i _) dX12_sight_214 (fun h176 hh175 => ?_)
                    have O177 := O171.pI e172 hh175 rI_12_40 (iw f174 (by decide) (by decide)) nofun
                    refine g_aload_n C rfl 1 rfl dX12_sight_217 ?_
                    refine g_iconst C dX12_sight_218 ?_
                    have e178 : Tg h176 a0 = 12 := ((pIT hh175).trans e172)
                    refine gp_I C fk_LandSurveyModel_290 pk_LandSurveyModel_35 rfl e178 (iw (il 1) (by decide) (by decide)) (nar_z2 (iw (il 1) (by decide) (by decide))) dX12_sight_219 (fun h180 hh179 => ?_)
                    have O181 := O177.pI e178 hh179 rI_12_35 (iw (il 1) (by decide) (by decide)) nofun
                    refine g_aload_n C rfl 1 rfl dX12_sight_222 ?_
                    have e182 : Tg h180 a0 = 12 := ((pIT hh179).trans e178)
                    have e183 : Iv h180 a0 40 = (v82 + 1) := ((pI_j hh179 (by decide)).trans (pI_e hh175))
                    refine gf_I C fk_LandSurveyModel_423 rfl e182 e183 dX12_sight_223 ?_
                    refine g_iconst C dX12_sight_226 ?_
                    have f184 : (0 : Int) ≤ ((v82 + 1) - 1) ∧ ((v82 + 1) - 1) ≤ (39 : Int) := ia_sub f174 (il 1) (by decide) (by decide)
                    refine g_isub C dX12_sight_227 ?_
                    exact g_iret C hr rfl (iw f184 (by decide) (by decide)) ⟨O181, ((((((((((((((((((Fx.rf (wr := wr_k_X12_sight)).pI ta0 hh1 rfl).call F9 rfl).call F23 rfl).call F40 rfl).call F54 rfl).call F68 rfl).pIa t90 ar_141100 hh92 rfl).pIa t98 ar_142100 hh103 rfl).pIa t109 ar_143100 hh112 rfl).pIa t118 ar_144100 hh121 rfl).pIa t127 ar_145100 hh130 rfl).pIa t136 ar_146100 hh142 rfl).pIa t148 ar_147100 hh151 rfl).pIa t157 ar_148100 hh160 rfl).pIa t166 ar_151100 hh169 rfl).pI e172 hh175 rfl).pI e178 hh179 rfl), (iw f184 (by decide) (by decide))⟩ (by decide) (by decide) dX12_sight_228
                  · have f185 : (40 : Int) ≤ v82 ∧ v82 ≤ (40 : Int) := ii f84 (r_eq (il 40) q86) (by decide) (by decide)
                    refine g_iconst C dX12_sight_104 ?_
                    exact g_iret C hr rfl (iw (il (-1)) (by decide) (by decide)) ⟨O67, (((((((Fx.rf (wr := wr_k_X12_sight)).pI ta0 hh1 rfl).call F9 rfl).call F23 rfl).call F40 rfl).call F54 rfl).call F68 rfl), (iw (il (-1)) (by decide) (by decide))⟩ (by decide) (by decide) dX12_sight_105
                · exact (no_eq f34 (il 0) q80 (by decide)).elim
      · have f186 : (-2147483648 : Int) ≤ a1 ∧ a1 ≤ (1 : Int) := r_lt fa1 (il 2) q33 (by decide) (by decide)
        refine g_iconst C dX12_sight_30 ?_
        refine g_goto C 37 (by decide) dX12_sight_31 ?_
        refine g_callI (st := []) (gc_S C lk_LandSurveyModel_415 (k_X12_within l D cy w z0 O22 fa4 (iw (il 0) (by decide) (by decide)) (iw (il 0) (by decide) (by decide))) rfl ⟨by decide, by decide⟩ (Nat.le_of_ble_eq_true rfl) dX12_sight_37 ⟨(by decide), (by decide)⟩) (fun r187 h188 f190 K189 => ?_)
        obtain ⟨O191, F192, f193, p194⟩ := K189
        refine g_if_eq C (iw f193 (by decide) (by decide)) 69 (by decide) dX12_sight_40 (fun q195 => ?_) (fun q196 => ?_)
        · have f197 : (0 : Int) ≤ r187 ∧ r187 ≤ (0 : Int) := ii f193 (r_eq (il 0) q195) (by decide) (by decide)
          refine g_iconst C dX12_sight_69 ?_
          refine g_istore C [(7, .inl 0), (0, .inr (.inr a0)), (1, .inl a1), (2, .inl a2), (3, .inl a3), (4, .inl a4), (5, .inl a5), (6, .inl a6)] (by decide) rfl dX12_sight_70 ?_
          refine g_iload C 0 rfl dX12_sight_72 ?_
          refine g_if_eq C (iw (il 0) (by decide) (by decide)) 104 (by decide) dX12_sight_74 (fun q198 => ?_) (fun q199 => ?_)
          · refine g_iconst C dX12_sight_104 ?_
            exact g_iret C hr rfl (iw (il (-1)) (by decide) (by decide)) ⟨O191, (((((Fx.rf (wr := wr_k_X12_sight)).pI ta0 hh1 rfl).call F9 rfl).call F23 rfl).call F192 rfl), (iw (il (-1)) (by decide) (by decide))⟩ (by decide) (by decide) dX12_sight_105
          · exact (no_ne (il 0) (il 0) q199 (by decide)).elim
        · have f200 : (1 : Int) ≤ r187 ∧ r187 ≤ (1 : Int) := r_nl f193 q196
          refine g_iload C 5 rfl dX12_sight_43 ?_
          refine g_iconst C dX12_sight_45 ?_
          refine g_iconst C dX12_sight_46 ?_
          refine g_callI (st := []) (gc_S C lk_LandSurveyModel_415 (k_X12_within l D cy w z0 O191 fa5 (iw (il 0) (by decide) (by decide)) (iw (il 5) (by decide) (by decide))) rfl ⟨by decide, by decide⟩ (Nat.le_of_ble_eq_true rfl) dX12_sight_47 ⟨(by decide), (by decide)⟩) (fun r201 h202 f204 K203 => ?_)
          obtain ⟨O205, F206, f207, p208⟩ := K203
          refine g_if_eq C (iw f207 (by decide) (by decide)) 69 (by decide) dX12_sight_50 (fun q209 => ?_) (fun q210 => ?_)
          · have f211 : (0 : Int) ≤ r201 ∧ r201 ≤ (0 : Int) := ii f207 (r_eq (il 0) q209) (by decide) (by decide)
            refine g_iconst C dX12_sight_69 ?_
            refine g_istore C [(7, .inl 0), (0, .inr (.inr a0)), (1, .inl a1), (2, .inl a2), (3, .inl a3), (4, .inl a4), (5, .inl a5), (6, .inl a6)] (by decide) rfl dX12_sight_70 ?_
            refine g_iload C 0 rfl dX12_sight_72 ?_
            refine g_if_eq C (iw (il 0) (by decide) (by decide)) 104 (by decide) dX12_sight_74 (fun q212 => ?_) (fun q213 => ?_)
            · refine g_iconst C dX12_sight_104 ?_
              exact g_iret C hr rfl (iw (il (-1)) (by decide) (by decide)) ⟨O205, ((((((Fx.rf (wr := wr_k_X12_sight)).pI ta0 hh1 rfl).call F9 rfl).call F23 rfl).call F192 rfl).call F206 rfl), (iw (il (-1)) (by decide) (by decide))⟩ (by decide) (by decide) dX12_sight_105
            · exact (no_ne (il 0) (il 0) q213 (by decide)).elim
          · have f214 : (1 : Int) ≤ r201 ∧ r201 ≤ (1 : Int) := r_nl f207 q210
            refine g_iload C 6 rfl dX12_sight_53 ?_
            refine g_iconst C dX12_sight_55 ?_
            refine g_sipush C (by decide) dX12_sight_56 ?_
            refine g_callI (st := []) (gc_S C lk_LandSurveyModel_415 (k_X12_within l D cy w z0 O205 fa6 (iw (il 0) (by decide) (by decide)) (iw (il 9999) (by decide) (by decide))) rfl ⟨by decide, by decide⟩ (Nat.le_of_ble_eq_true rfl) dX12_sight_59 ⟨(by decide), (by decide)⟩) (fun r215 h216 f218 K217 => ?_)
            obtain ⟨O219, F220, f221, p222⟩ := K217
            refine g_if_eq C (iw f221 (by decide) (by decide)) 69 (by decide) dX12_sight_62 (fun q223 => ?_) (fun q224 => ?_)
            · have f225 : (0 : Int) ≤ r215 ∧ r215 ≤ (0 : Int) := ii f221 (r_eq (il 0) q223) (by decide) (by decide)
              refine g_iconst C dX12_sight_69 ?_
              refine g_istore C [(7, .inl 0), (0, .inr (.inr a0)), (1, .inl a1), (2, .inl a2), (3, .inl a3), (4, .inl a4), (5, .inl a5), (6, .inl a6)] (by decide) rfl dX12_sight_70 ?_
              refine g_iload C 0 rfl dX12_sight_72 ?_
              refine g_if_eq C (iw (il 0) (by decide) (by decide)) 104 (by decide) dX12_sight_74 (fun q226 => ?_) (fun q227 => ?_)
              · refine g_iconst C dX12_sight_104 ?_
                exact g_iret C hr rfl (iw (il (-1)) (by decide) (by decide)) ⟨O219, (((((((Fx.rf (wr := wr_k_X12_sight)).pI ta0 hh1 rfl).call F9 rfl).call F23 rfl).call F192 rfl).call F206 rfl).call F220 rfl), (iw (il (-1)) (by decide) (by decide))⟩ (by decide) (by decide) dX12_sight_105
              · exact (no_ne (il 0) (il 0) q227 (by decide)).elim
            · have f228 : (1 : Int) ≤ r215 ∧ r215 ≤ (1 : Int) := r_nl f221 q224
              refine g_iconst C dX12_sight_65 ?_
              refine g_goto C 70 (by decide) dX12_sight_66 ?_
              refine g_istore C [(7, .inl 1), (0, .inr (.inr a0)), (1, .inl a1), (2, .inl a2), (3, .inl a3), (4, .inl a4), (5, .inl a5), (6, .inl a6)] (by decide) rfl dX12_sight_70 ?_
              refine g_iload C 0 rfl dX12_sight_72 ?_
              refine g_if_eq C (iw (il 1) (by decide) (by decide)) 104 (by decide) dX12_sight_74 (fun q229 => ?_) (fun q230 => ?_)
              · exact (no_eq (il 1) (il 0) q229 (by decide)).elim
              · refine g_iload_n C rfl 2 rfl dX12_sight_77 ?_
                refine g_if_ne C (iw f186 (by decide) (by decide)) 95 (by decide) dX12_sight_78 (fun q231 => ?_) (fun q232 => ?_)
                · refine g_aload_n C rfl 1 rfl dX12_sight_95 ?_
                  have e233 : Tg h216 a0 = 12 := (fxT F220 (fxT F206 (fxT F192 (fxT F23 (fxT F9 ((pIT hh1).trans ta0))))))
                  obtain ⟨v234, e235⟩ : ∃ z, Iv h216 a0 40 = z := ⟨_, rfl⟩
                  have f236 := ok_I O219 e233 rI_12_40 e235
                  refine gf_I C fk_LandSurveyModel_423 rfl e233 e235 dX12_sight_96 ?_
                  refine g_bipush C (by decide) dX12_sight_99 ?_
                  refine g_icmp_ne C (iw f236 (by decide) (by decide)) (iw (il 40) (by decide) (by decide)) 106 (by decide) dX12_sight_101 (fun q237 => ?_) (fun q238 => ?_)
                  · have f239 : (0 : Int) ≤ v234 ∧ v234 ≤ (39 : Int) := r_nh f236 q237
                    refine g_aload_n C rfl 1 rfl dX12_sight_106 ?_
                    obtain ⟨v240, e241⟩ : ∃ z, Rv h216 a0 41 = z := ⟨_, rfl⟩
                    have t242 := ok_R O219 e233 rE_12_41 e241
                    have l243 := ok_L O219 e233 rE_12_41 e241
                    refine gf_R C fk_LandSurveyModel_173 rfl e233 e241 dX12_sight_107 ?_
                    refine g_aload_n C rfl 1 rfl dX12_sight_110 ?_
                    refine gf_I C fk_LandSurveyModel_423 rfl e233 e235 dX12_sight_111 ?_
                    refine g_iload_n C rfl 2 rfl dX12_sight_114 ?_
                    refine g_iast C t242 rfl l243 (ix f239 (by decide) (by decide)) (iw f186 (by decide) (by decide)) dX12_sight_115 (fun h245 hh244 => ?_)
                    have O246 := O219.pIa t242 ar_141100 hh244 rI_141100_0 (by omega) nofun
                    refine g_aload_n C rfl 1 rfl dX12_sight_116 ?_
                    have e247 : Tg h245 a0 = 12 := ((pIT hh244).trans e233)
                    obtain ⟨v248, e249⟩ : ∃ z, Rv h245 a0 42 = z := ⟨_, rfl⟩
                    have t250 := ok_R O246 e247 rE_12_42 e249
                    have l251 := ok_L O246 e247 rE_12_42 e249
                    refine gf_R C fk_LandSurveyModel_176 rfl e247 e249 dX12_sight_117 ?_
                    refine g_aload_n C rfl 1 rfl dX12_sight_120 ?_
                    have e252 : Iv h245 a0 40 = v234 := ((pI_n hh244 (ne_tag e233 t242 (by decide))).trans e235)
                    refine gf_I C fk_LandSurveyModel_423 rfl e247 e252 dX12_sight_121 ?_
                    refine g_bipush C (by decide) dX12_sight_124 ?_
                    refine g_iload_n C rfl 4 rfl dX12_sight_126 ?_
                    have f253 : (-2147483648 : Int) ≤ (w32 (12 * a3)) ∧ (w32 (12 * a3)) ≤ (2147483647 : Int) := w32_inR _
                    refine g_imulW C dX12_sight_127 ?_
                    refine g_iload_n C rfl 3 rfl dX12_sight_128 ?_
                    have f254 : (-2147483648 : Int) ≤ (w32 ((w32 (12 * a3)) + a2)) ∧ (w32 ((w32 (12 * a3)) + a2)) ≤ (2147483647 : Int) := w32_inR _
                    refine g_iaddW C dX12_sight_129 ?_
                    refine g_iast C t250 rfl l251 (ix f239 (by decide) (by decide)) f254 dX12_sight_130 (fun h256 hh255 => ?_)
                    have O257 := O246.pIa t250 ar_142100 hh255 rI_142100_0 (by omega) nofun
                    refine g_aload_n C rfl 1 rfl dX12_sight_131 ?_
                    have e258 : Tg h256 a0 = 12 := ((pIT hh255).trans e247)
                    obtain ⟨v259, e260⟩ : ∃ z, Rv h256 a0 43 = z := ⟨_, rfl⟩
                    have t261 := ok_R O257 e258 rE_12_43 e260
                    have l262 := ok_L O257 e258 rE_12_43 e260
                    refine gf_R C fk_LandSurveyModel_179 rfl e258 e260 dX12_sight_132 ?_
                    refine g_aload_n C rfl 1 rfl dX12_sight_135 ?_
                    have e263 : Iv h256 a0 40 = v234 := ((pI_n hh255 (ne_tag e247 t250 (by decide))).trans e252)
                    refine gf_I C fk_LandSurveyModel_423 rfl e258 e263 dX12_sight_136 ?_
                    refine g_iload C 5 rfl dX12_sight_139 ?_
                    refine g_iast C t261 rfl l262 (ix f239 (by decide) (by decide)) fa4 dX12_sight_141 (fun h265 hh264 => ?_)
                    have O266 := O257.pIa t261 ar_143100 hh264 rI_143100_0 (by omega) nofun
                    refine g_aload_n C rfl 1 rfl dX12_sight_142 ?_
                    have e267 : Tg h265 a0 = 12 := ((pIT hh264).trans e258)
                    obtain ⟨v268, e269⟩ : ∃ z, Rv h265 a0 44 = z := ⟨_, rfl⟩
                    have t270 := ok_R O266 e267 rE_12_44 e269
                    have l271 := ok_L O266 e267 rE_12_44 e269
                    refine gf_R C fk_LandSurveyModel_182 rfl e267 e269 dX12_sight_143 ?_
                    refine g_aload_n C rfl 1 rfl dX12_sight_146 ?_
                    have e272 : Iv h265 a0 40 = v234 := ((pI_n hh264 (ne_tag e258 t261 (by decide))).trans e263)
                    refine gf_I C fk_LandSurveyModel_423 rfl e267 e272 dX12_sight_147 ?_
                    refine g_iload C 6 rfl dX12_sight_150 ?_
                    refine g_iast C t270 rfl l271 (ix f239 (by decide) (by decide)) fa5 dX12_sight_152 (fun h274 hh273 => ?_)
                    have O275 := O266.pIa t270 ar_144100 hh273 rI_144100_0 (by omega) nofun
                    refine g_aload_n C rfl 1 rfl dX12_sight_153 ?_
                    have e276 : Tg h274 a0 = 12 := ((pIT hh273).trans e267)
                    obtain ⟨v277, e278⟩ : ∃ z, Rv h274 a0 45 = z := ⟨_, rfl⟩
                    have t279 := ok_R O275 e276 rE_12_45 e278
                    have l280 := ok_L O275 e276 rE_12_45 e278
                    refine gf_R C fk_LandSurveyModel_185 rfl e276 e278 dX12_sight_154 ?_
                    refine g_aload_n C rfl 1 rfl dX12_sight_157 ?_
                    have e281 : Iv h274 a0 40 = v234 := ((pI_n hh273 (ne_tag e267 t270 (by decide))).trans e272)
                    refine gf_I C fk_LandSurveyModel_423 rfl e276 e281 dX12_sight_158 ?_
                    refine g_iload C 7 rfl dX12_sight_161 ?_
                    refine g_iast C t279 rfl l280 (ix f239 (by decide) (by decide)) fa6 dX12_sight_163 (fun h283 hh282 => ?_)
                    have O284 := O275.pIa t279 ar_145100 hh282 rI_145100_0 (by omega) nofun
                    refine g_aload_n C rfl 1 rfl dX12_sight_164 ?_
                    have e285 : Tg h283 a0 = 12 := ((pIT hh282).trans e276)
                    obtain ⟨v286, e287⟩ : ∃ z, Rv h283 a0 46 = z := ⟨_, rfl⟩
                    have t288 := ok_R O284 e285 rE_12_46 e287
                    have l289 := ok_L O284 e285 rE_12_46 e287
                    refine gf_R C fk_LandSurveyModel_188 rfl e285 e287 dX12_sight_165 ?_
                    refine g_aload_n C rfl 1 rfl dX12_sight_168 ?_
                    have e290 : Iv h283 a0 40 = v234 := ((pI_n hh282 (ne_tag e276 t279 (by decide))).trans e281)
                    refine gf_I C fk_LandSurveyModel_423 rfl e285 e290 dX12_sight_169 ?_
                    refine g_aload_n C rfl 1 rfl dX12_sight_172 ?_
                    obtain ⟨v291, e292⟩ : ∃ z, Iv h283 a0 33 = z := ⟨_, rfl⟩
                    have f293 := ok_I O284 e285 rI_12_33 e292
                    refine gf_I C fk_LandSurveyModel_342 rfl e285 e292 dX12_sight_173 ?_
                    refine g_iast C t288 rfl l289 (ix f239 (by decide) (by decide)) (iw f293 (by decide) (by decide)) dX12_sight_176 (fun h295 hh294 => ?_)
                    have O296 := O284.pIa t288 ar_146100 hh294 rI_146100_0 f293 nofun
                    refine g_aload_n C rfl 1 rfl dX12_sight_177 ?_
                    have e297 : Tg h295 a0 = 12 := ((pIT hh294).trans e285)
                    obtain ⟨v298, e299⟩ : ∃ z, Rv h295 a0 47 = z := ⟨_, rfl⟩
                    have t300 := ok_R O296 e297 rE_12_47 e299
                    have l301 := ok_L O296 e297 rE_12_47 e299
                    refine gf_R C fk_LandSurveyModel_191 rfl e297 e299 dX12_sight_178 ?_
                    refine g_aload_n C rfl 1 rfl dX12_sight_181 ?_
                    have e302 : Iv h295 a0 40 = v234 := ((pI_n hh294 (ne_tag e285 t288 (by decide))).trans e290)
                    refine gf_I C fk_LandSurveyModel_423 rfl e297 e302 dX12_sight_182 ?_
                    refine g_iconst C dX12_sight_185 ?_
                    refine g_iast C t300 rfl l301 (ix f239 (by decide) (by decide)) (iw (il (-1)) (by decide) (by decide)) dX12_sight_186 (fun h304 hh303 => ?_)
                    have O305 := O296.pIa t300 ar_147100 hh303 rI_147100_0 (iw (il (-1)) (by decide) (by decide)) nofun
                    refine g_aload_n C rfl 1 rfl dX12_sight_187 ?_
                    have e306 : Tg h304 a0 = 12 := ((pIT hh303).trans e297)
                    obtain ⟨v307, e308⟩ : ∃ z, Rv h304 a0 48 = z := ⟨_, rfl⟩
                    have t309 := ok_R O305 e306 rE_12_48 e308
                    have l310 := ok_L O305 e306 rE_12_48 e308
                    refine gf_R C fk_LandSurveyModel_194 rfl e306 e308 dX12_sight_188 ?_
                    refine g_aload_n C rfl 1 rfl dX12_sight_191 ?_
                    have e311 : Iv h304 a0 40 = v234 := ((pI_n hh303 (ne_tag e297 t300 (by decide))).trans e302)
                    refine gf_I C fk_LandSurveyModel_423 rfl e306 e311 dX12_sight_192 ?_
                    refine g_iconst C dX12_sight_195 ?_
                    refine g_iast C t309 rfl l310 (ix f239 (by decide) (by decide)) (iw (il (-1)) (by decide) (by decide)) dX12_sight_196 (fun h313 hh312 => ?_)
                    have O314 := O305.pIa t309 ar_148100 hh312 rI_148100_0 (iw (il (-1)) (by decide) (by decide)) nofun
                    refine g_aload_n C rfl 1 rfl dX12_sight_197 ?_
                    have e315 : Tg h313 a0 = 12 := ((pIT hh312).trans e306)
                    obtain ⟨v316, e317⟩ : ∃ z, Rv h313 a0 51 = z := ⟨_, rfl⟩
                    have t318 := ok_R O314 e315 rE_12_51 e317
                    have l319 := ok_L O314 e315 rE_12_51 e317
                    refine gf_R C fk_LandSurveyModel_203 rfl e315 e317 dX12_sight_198 ?_
                    refine g_aload_n C rfl 1 rfl dX12_sight_201 ?_
                    have e320 : Iv h313 a0 40 = v234 := ((pI_n hh312 (ne_tag e306 t309 (by decide))).trans e311)
                    refine gf_I C fk_LandSurveyModel_423 rfl e315 e320 dX12_sight_202 ?_
                    refine g_iconst C dX12_sight_205 ?_
                    refine g_iast C t318 rfl l319 (ix f239 (by decide) (by decide)) (iw (il (-1)) (by decide) (by decide)) dX12_sight_206 (fun h322 hh321 => ?_)
                    have O323 := O314.pIa t318 ar_151100 hh321 rI_151100_0 (iw (il (-1)) (by decide) (by decide)) nofun
                    refine g_aload_n C rfl 1 rfl dX12_sight_207 ?_
                    refine g_dup C rfl dX12_sight_208 ?_
                    have e324 : Tg h322 a0 = 12 := ((pIT hh321).trans e315)
                    have e325 : Iv h322 a0 40 = v234 := ((pI_n hh321 (ne_tag e315 t318 (by decide))).trans e320)
                    refine gf_I C fk_LandSurveyModel_423 rfl e324 e325 dX12_sight_209 ?_
                    refine g_iconst C dX12_sight_212 ?_
                    have f326 : (1 : Int) ≤ (v234 + 1) ∧ (v234 + 1) ≤ (40 : Int) := ia_add f239 (il 1) (by decide) (by decide)
                    refine g_iadd C dX12_sight_213 ?_
                    refine gp_I C fk_LandSurveyModel_423 pk_LandSurveyModel_40 rfl e324 (iw f326 (by decide) (by decide)) (nf_i _) dX12_sight_214 (fun h328 hh327 => ?_)
                    have O329 := O323.pI e324 hh327 rI_12_40 (iw f326 (by decide) (by decide)) nofun
                    refine g_aload_n C rfl 1 rfl dX12_sight_217 ?_
                    refine g_iconst C dX12_sight_218 ?_
                    have e330 : Tg h328 a0 = 12 := ((pIT hh327).trans e324)
                    refine gp_I C fk_LandSurveyModel_290 pk_LandSurveyModel_35 rfl e330 (iw (il 1) (by decide) (by decide)) (nar_z2 (iw (il 1) (by decide) (by decide))) dX12_sight_219 (fun h332 hh331 => ?_)
                    have O333 := O329.pI e330 hh331 rI_12_35 (iw (il 1) (by decide) (by decide)) nofun
                    refine g_aload_n C rfl 1 rfl dX12_sight_222 ?_
                    have e334 : Tg h332 a0 = 12 := ((pIT hh331).trans e330)
                    have e335 : Iv h332 a0 40 = (v234 + 1) := ((pI_j hh331 (by decide)).trans (pI_e hh327))
                    refine gf_I C fk_LandSurveyModel_423 rfl e334 e335 dX12_sight_223 ?_
                    refine g_iconst C dX12_sight_226 ?_
                    have f336 : (0 : Int) ≤ ((v234 + 1) - 1) ∧ ((v234 + 1) - 1) ≤ (39 : Int) := ia_sub f326 (il 1) (by decide) (by decide)
                    refine g_isub C dX12_sight_227 ?_
                    exact g_iret C hr rfl (iw f336 (by decide) (by decide)) ⟨O333, ((((((((((((((((((Fx.rf (wr := wr_k_X12_sight)).pI ta0 hh1 rfl).call F9 rfl).call F23 rfl).call F192 rfl).call F206 rfl).call F220 rfl).pIa t242 ar_141100 hh244 rfl).pIa t250 ar_142100 hh255 rfl).pIa t261 ar_143100 hh264 rfl).pIa t270 ar_144100 hh273 rfl).pIa t279 ar_145100 hh282 rfl).pIa t288 ar_146100 hh294 rfl).pIa t300 ar_147100 hh303 rfl).pIa t309 ar_148100 hh312 rfl).pIa t318 ar_151100 hh321 rfl).pI e324 hh327 rfl).pI e330 hh331 rfl), (iw f336 (by decide) (by decide))⟩ (by decide) (by decide) dX12_sight_228
                  · have f337 : (40 : Int) ≤ v234 ∧ v234 ≤ (40 : Int) := ii f236 (r_eq (il 40) q238) (by decide) (by decide)
                    refine g_iconst C dX12_sight_104 ?_
                    exact g_iret C hr rfl (iw (il (-1)) (by decide) (by decide)) ⟨O219, (((((((Fx.rf (wr := wr_k_X12_sight)).pI ta0 hh1 rfl).call F9 rfl).call F23 rfl).call F192 rfl).call F206 rfl).call F220 rfl), (iw (il (-1)) (by decide) (by decide))⟩ (by decide) (by decide) dX12_sight_105
                · have f338 : (0 : Int) ≤ a1 ∧ a1 ≤ (0 : Int) := ii f186 (r_eq (il 0) q232) (by decide) (by decide)
                  refine g_aload_n C rfl 1 rfl dX12_sight_81 ?_
                  have e339 : Tg h216 a0 = 12 := (fxT F220 (fxT F206 (fxT F192 (fxT F23 (fxT F9 ((pIT hh1).trans ta0))))))
                  obtain ⟨v340, e341⟩ : ∃ z, Rv h216 a0 37 = z := ⟨_, rfl⟩
                  have t342 := ok_R O219 e339 rE_12_37 e341
                  have l343 := ok_L O219 e339 rE_12_37 e341
                  refine gf_R C fk_LandSurveyModel_164 rfl e339 e341 dX12_sight_82 ?_
                  refine g_bipush C (by decide) dX12_sight_85 ?_
                  refine g_iload_n C rfl 4 rfl dX12_sight_87 ?_
                  have f344 : (-2147483648 : Int) ≤ (w32 (12 * a3)) ∧ (w32 (12 * a3)) ≤ (2147483647 : Int) := w32_inR _
                  refine g_imulW C dX12_sight_88 ?_
                  refine g_iload_n C rfl 3 rfl dX12_sight_89 ?_
                  have f345 : (-2147483648 : Int) ≤ (w32 ((w32 (12 * a3)) + a2)) ∧ (w32 ((w32 (12 * a3)) + a2)) ≤ (2147483647 : Int) := w32_inR _
                  refine g_iaddW C dX12_sight_90 ?_
                  obtain ⟨v346, e347⟩ : ∃ z, Iv h216 v340 ((w32 ((w32 (12 * a3)) + a2)).toNat) = z := ⟨_, rfl⟩
                  have f348 := ok_Ia O219 t342 ar_137101 rI_137101_0 e347
                  refine g_zald C t342 rfl l343 (by omega) e347 dX12_sight_91 ?_
                  refine g_if_eq C (iw f348 (by decide) (by decide)) 104 (by decide) dX12_sight_92 (fun q349 => ?_) (fun q350 => ?_)
                  · have f351 : (0 : Int) ≤ v346 ∧ v346 ≤ (0 : Int) := ii f348 (r_eq (il 0) q349) (by decide) (by decide)
                    refine g_iconst C dX12_sight_104 ?_
                    exact g_iret C hr rfl (iw (il (-1)) (by decide) (by decide)) ⟨O219, (((((((Fx.rf (wr := wr_k_X12_sight)).pI ta0 hh1 rfl).call F9 rfl).call F23 rfl).call F192 rfl).call F206 rfl).call F220 rfl), (iw (il (-1)) (by decide) (by decide))⟩ (by decide) (by decide) dX12_sight_105
                  · have f352 : (1 : Int) ≤ v346 ∧ v346 ≤ (1 : Int) := r_nl f348 q350
                    refine g_aload_n C rfl 1 rfl dX12_sight_95 ?_
                    obtain ⟨v353, e354⟩ : ∃ z, Iv h216 a0 40 = z := ⟨_, rfl⟩
                    have f355 := ok_I O219 e339 rI_12_40 e354
                    refine gf_I C fk_LandSurveyModel_423 rfl e339 e354 dX12_sight_96 ?_
                    refine g_bipush C (by decide) dX12_sight_99 ?_
                    refine g_icmp_ne C (iw f355 (by decide) (by decide)) (iw (il 40) (by decide) (by decide)) 106 (by decide) dX12_sight_101 (fun q356 => ?_) (fun q357 => ?_)
                    · have f358 : (0 : Int) ≤ v353 ∧ v353 ≤ (39 : Int) := r_nh f355 q356
                      refine g_aload_n C rfl 1 rfl dX12_sight_106 ?_
                      obtain ⟨v359, e360⟩ : ∃ z, Rv h216 a0 41 = z := ⟨_, rfl⟩
                      have t361 := ok_R O219 e339 rE_12_41 e360
                      have l362 := ok_L O219 e339 rE_12_41 e360
                      refine gf_R C fk_LandSurveyModel_173 rfl e339 e360 dX12_sight_107 ?_
                      refine g_aload_n C rfl 1 rfl dX12_sight_110 ?_
                      refine gf_I C fk_LandSurveyModel_423 rfl e339 e354 dX12_sight_111 ?_
                      refine g_iload_n C rfl 2 rfl dX12_sight_114 ?_
                      refine g_iast C t361 rfl l362 (ix f358 (by decide) (by decide)) (iw f338 (by decide) (by decide)) dX12_sight_115 (fun h364 hh363 => ?_)
                      have O365 := O219.pIa t361 ar_141100 hh363 rI_141100_0 (iw f338 (by decide) (by decide)) nofun
                      refine g_aload_n C rfl 1 rfl dX12_sight_116 ?_
                      have e366 : Tg h364 a0 = 12 := ((pIT hh363).trans e339)
                      obtain ⟨v367, e368⟩ : ∃ z, Rv h364 a0 42 = z := ⟨_, rfl⟩
                      have t369 := ok_R O365 e366 rE_12_42 e368
                      have l370 := ok_L O365 e366 rE_12_42 e368
                      refine gf_R C fk_LandSurveyModel_176 rfl e366 e368 dX12_sight_117 ?_
                      refine g_aload_n C rfl 1 rfl dX12_sight_120 ?_
                      have e371 : Iv h364 a0 40 = v353 := ((pI_n hh363 (ne_tag e339 t361 (by decide))).trans e354)
                      refine gf_I C fk_LandSurveyModel_423 rfl e366 e371 dX12_sight_121 ?_
                      refine g_bipush C (by decide) dX12_sight_124 ?_
                      refine g_iload_n C rfl 4 rfl dX12_sight_126 ?_
                      refine g_imulW C dX12_sight_127 ?_
                      refine g_iload_n C rfl 3 rfl dX12_sight_128 ?_
                      refine g_iaddW C dX12_sight_129 ?_
                      refine g_iast C t369 rfl l370 (ix f358 (by decide) (by decide)) f345 dX12_sight_130 (fun h373 hh372 => ?_)
                      have O374 := O365.pIa t369 ar_142100 hh372 rI_142100_0 (by omega) nofun
                      refine g_aload_n C rfl 1 rfl dX12_sight_131 ?_
                      have e375 : Tg h373 a0 = 12 := ((pIT hh372).trans e366)
                      obtain ⟨v376, e377⟩ : ∃ z, Rv h373 a0 43 = z := ⟨_, rfl⟩
                      have t378 := ok_R O374 e375 rE_12_43 e377
                      have l379 := ok_L O374 e375 rE_12_43 e377
                      refine gf_R C fk_LandSurveyModel_179 rfl e375 e377 dX12_sight_132 ?_
                      refine g_aload_n C rfl 1 rfl dX12_sight_135 ?_
                      have e380 : Iv h373 a0 40 = v353 := ((pI_n hh372 (ne_tag e366 t369 (by decide))).trans e371)
                      refine gf_I C fk_LandSurveyModel_423 rfl e375 e380 dX12_sight_136 ?_
                      refine g_iload C 5 rfl dX12_sight_139 ?_
                      refine g_iast C t378 rfl l379 (ix f358 (by decide) (by decide)) fa4 dX12_sight_141 (fun h382 hh381 => ?_)
                      have O383 := O374.pIa t378 ar_143100 hh381 rI_143100_0 (by omega) nofun
                      refine g_aload_n C rfl 1 rfl dX12_sight_142 ?_
                      have e384 : Tg h382 a0 = 12 := ((pIT hh381).trans e375)
                      obtain ⟨v385, e386⟩ : ∃ z, Rv h382 a0 44 = z := ⟨_, rfl⟩
                      have t387 := ok_R O383 e384 rE_12_44 e386
                      have l388 := ok_L O383 e384 rE_12_44 e386
                      refine gf_R C fk_LandSurveyModel_182 rfl e384 e386 dX12_sight_143 ?_
                      refine g_aload_n C rfl 1 rfl dX12_sight_146 ?_
                      have e389 : Iv h382 a0 40 = v353 := ((pI_n hh381 (ne_tag e375 t378 (by decide))).trans e380)
                      refine gf_I C fk_LandSurveyModel_423 rfl e384 e389 dX12_sight_147 ?_
                      refine g_iload C 6 rfl dX12_sight_150 ?_
                      refine g_iast C t387 rfl l388 (ix f358 (by decide) (by decide)) fa5 dX12_sight_152 (fun h391 hh390 => ?_)
                      have O392 := O383.pIa t387 ar_144100 hh390 rI_144100_0 (by omega) nofun
                      refine g_aload_n C rfl 1 rfl dX12_sight_153 ?_
                      have e393 : Tg h391 a0 = 12 := ((pIT hh390).trans e384)
                      obtain ⟨v394, e395⟩ : ∃ z, Rv h391 a0 45 = z := ⟨_, rfl⟩
                      have t396 := ok_R O392 e393 rE_12_45 e395
                      have l397 := ok_L O392 e393 rE_12_45 e395
                      refine gf_R C fk_LandSurveyModel_185 rfl e393 e395 dX12_sight_154 ?_
                      refine g_aload_n C rfl 1 rfl dX12_sight_157 ?_
                      have e398 : Iv h391 a0 40 = v353 := ((pI_n hh390 (ne_tag e384 t387 (by decide))).trans e389)
                      refine gf_I C fk_LandSurveyModel_423 rfl e393 e398 dX12_sight_158 ?_
                      refine g_iload C 7 rfl dX12_sight_161 ?_
                      refine g_iast C t396 rfl l397 (ix f358 (by decide) (by decide)) fa6 dX12_sight_163 (fun h400 hh399 => ?_)
                      have O401 := O392.pIa t396 ar_145100 hh399 rI_145100_0 (by omega) nofun
                      refine g_aload_n C rfl 1 rfl dX12_sight_164 ?_
                      have e402 : Tg h400 a0 = 12 := ((pIT hh399).trans e393)
                      obtain ⟨v403, e404⟩ : ∃ z, Rv h400 a0 46 = z := ⟨_, rfl⟩
                      have t405 := ok_R O401 e402 rE_12_46 e404
                      have l406 := ok_L O401 e402 rE_12_46 e404
                      refine gf_R C fk_LandSurveyModel_188 rfl e402 e404 dX12_sight_165 ?_
                      refine g_aload_n C rfl 1 rfl dX12_sight_168 ?_
                      have e407 : Iv h400 a0 40 = v353 := ((pI_n hh399 (ne_tag e393 t396 (by decide))).trans e398)
                      refine gf_I C fk_LandSurveyModel_423 rfl e402 e407 dX12_sight_169 ?_
                      refine g_aload_n C rfl 1 rfl dX12_sight_172 ?_
                      obtain ⟨v408, e409⟩ : ∃ z, Iv h400 a0 33 = z := ⟨_, rfl⟩
                      have f410 := ok_I O401 e402 rI_12_33 e409
                      refine gf_I C fk_LandSurveyModel_342 rfl e402 e409 dX12_sight_173 ?_
                      refine g_iast C t405 rfl l406 (ix f358 (by decide) (by decide)) (iw f410 (by decide) (by decide)) dX12_sight_176 (fun h412 hh411 => ?_)
                      have O413 := O401.pIa t405 ar_146100 hh411 rI_146100_0 f410 nofun
                      refine g_aload_n C rfl 1 rfl dX12_sight_177 ?_
                      have e414 : Tg h412 a0 = 12 := ((pIT hh411).trans e402)
                      obtain ⟨v415, e416⟩ : ∃ z, Rv h412 a0 47 = z := ⟨_, rfl⟩
                      have t417 := ok_R O413 e414 rE_12_47 e416
                      have l418 := ok_L O413 e414 rE_12_47 e416
                      refine gf_R C fk_LandSurveyModel_191 rfl e414 e416 dX12_sight_178 ?_
                      refine g_aload_n C rfl 1 rfl dX12_sight_181 ?_
                      have e419 : Iv h412 a0 40 = v353 := ((pI_n hh411 (ne_tag e402 t405 (by decide))).trans e407)
                      refine gf_I C fk_LandSurveyModel_423 rfl e414 e419 dX12_sight_182 ?_
                      refine g_iconst C dX12_sight_185 ?_
                      refine g_iast C t417 rfl l418 (ix f358 (by decide) (by decide)) (iw (il (-1)) (by decide) (by decide)) dX12_sight_186 (fun h421 hh420 => ?_)
                      have O422 := O413.pIa t417 ar_147100 hh420 rI_147100_0 (iw (il (-1)) (by decide) (by decide)) nofun
                      refine g_aload_n C rfl 1 rfl dX12_sight_187 ?_
                      have e423 : Tg h421 a0 = 12 := ((pIT hh420).trans e414)
                      obtain ⟨v424, e425⟩ : ∃ z, Rv h421 a0 48 = z := ⟨_, rfl⟩
                      have t426 := ok_R O422 e423 rE_12_48 e425
                      have l427 := ok_L O422 e423 rE_12_48 e425
                      refine gf_R C fk_LandSurveyModel_194 rfl e423 e425 dX12_sight_188 ?_
                      refine g_aload_n C rfl 1 rfl dX12_sight_191 ?_
                      have e428 : Iv h421 a0 40 = v353 := ((pI_n hh420 (ne_tag e414 t417 (by decide))).trans e419)
                      refine gf_I C fk_LandSurveyModel_423 rfl e423 e428 dX12_sight_192 ?_
                      refine g_iconst C dX12_sight_195 ?_
                      refine g_iast C t426 rfl l427 (ix f358 (by decide) (by decide)) (iw (il (-1)) (by decide) (by decide)) dX12_sight_196 (fun h430 hh429 => ?_)
                      have O431 := O422.pIa t426 ar_148100 hh429 rI_148100_0 (iw (il (-1)) (by decide) (by decide)) nofun
                      refine g_aload_n C rfl 1 rfl dX12_sight_197 ?_
                      have e432 : Tg h430 a0 = 12 := ((pIT hh429).trans e423)
                      obtain ⟨v433, e434⟩ : ∃ z, Rv h430 a0 51 = z := ⟨_, rfl⟩
                      have t435 := ok_R O431 e432 rE_12_51 e434
                      have l436 := ok_L O431 e432 rE_12_51 e434
                      refine gf_R C fk_LandSurveyModel_203 rfl e432 e434 dX12_sight_198 ?_
                      refine g_aload_n C rfl 1 rfl dX12_sight_201 ?_
                      have e437 : Iv h430 a0 40 = v353 := ((pI_n hh429 (ne_tag e423 t426 (by decide))).trans e428)
                      refine gf_I C fk_LandSurveyModel_423 rfl e432 e437 dX12_sight_202 ?_
                      refine g_iconst C dX12_sight_205 ?_
                      refine g_iast C t435 rfl l436 (ix f358 (by decide) (by decide)) (iw (il (-1)) (by decide) (by decide)) dX12_sight_206 (fun h439 hh438 => ?_)
                      have O440 := O431.pIa t435 ar_151100 hh438 rI_151100_0 (iw (il (-1)) (by decide) (by decide)) nofun
                      refine g_aload_n C rfl 1 rfl dX12_sight_207 ?_
                      refine g_dup C rfl dX12_sight_208 ?_
                      have e441 : Tg h439 a0 = 12 := ((pIT hh438).trans e432)
                      have e442 : Iv h439 a0 40 = v353 := ((pI_n hh438 (ne_tag e432 t435 (by decide))).trans e437)
                      refine gf_I C fk_LandSurveyModel_423 rfl e441 e442 dX12_sight_209 ?_
                      refine g_iconst C dX12_sight_212 ?_
                      have f443 : (1 : Int) ≤ (v353 + 1) ∧ (v353 + 1) ≤ (40 : Int) := ia_add f358 (il 1) (by decide) (by decide)
                      refine g_iadd C dX12_sight_213 ?_
                      refine gp_I C fk_LandSurveyModel_423 pk_LandSurveyModel_40 rfl e441 (iw f443 (by decide) (by decide)) (nf_i _) dX12_sight_214 (fun h445 hh444 => ?_)
                      have O446 := O440.pI e441 hh444 rI_12_40 (iw f443 (by decide) (by decide)) nofun
                      refine g_aload_n C rfl 1 rfl dX12_sight_217 ?_
                      refine g_iconst C dX12_sight_218 ?_
                      have e447 : Tg h445 a0 = 12 := ((pIT hh444).trans e441)
                      refine gp_I C fk_LandSurveyModel_290 pk_LandSurveyModel_35 rfl e447 (iw (il 1) (by decide) (by decide)) (nar_z2 (iw (il 1) (by decide) (by decide))) dX12_sight_219 (fun h449 hh448 => ?_)
                      have O450 := O446.pI e447 hh448 rI_12_35 (iw (il 1) (by decide) (by decide)) nofun
                      refine g_aload_n C rfl 1 rfl dX12_sight_222 ?_
                      have e451 : Tg h449 a0 = 12 := ((pIT hh448).trans e447)
                      have e452 : Iv h449 a0 40 = (v353 + 1) := ((pI_j hh448 (by decide)).trans (pI_e hh444))
                      refine gf_I C fk_LandSurveyModel_423 rfl e451 e452 dX12_sight_223 ?_
                      refine g_iconst C dX12_sight_226 ?_
                      have f453 : (0 : Int) ≤ ((v353 + 1) - 1) ∧ ((v353 + 1) - 1) ≤ (39 : Int) := ia_sub f443 (il 1) (by decide) (by decide)
                      refine g_isub C dX12_sight_227 ?_
                      exact g_iret C hr rfl (iw f453 (by decide) (by decide)) ⟨O450, ((((((((((((((((((Fx.rf (wr := wr_k_X12_sight)).pI ta0 hh1 rfl).call F9 rfl).call F23 rfl).call F192 rfl).call F206 rfl).call F220 rfl).pIa t361 ar_141100 hh363 rfl).pIa t369 ar_142100 hh372 rfl).pIa t378 ar_143100 hh381 rfl).pIa t387 ar_144100 hh390 rfl).pIa t396 ar_145100 hh399 rfl).pIa t405 ar_146100 hh411 rfl).pIa t417 ar_147100 hh420 rfl).pIa t426 ar_148100 hh429 rfl).pIa t435 ar_151100 hh438 rfl).pI e441 hh444 rfl).pI e447 hh448 rfl), (iw f453 (by decide) (by decide))⟩ (by decide) (by decide) dX12_sight_228
                    · have f454 : (40 : Int) ≤ v353 ∧ v353 ≤ (40 : Int) := ii f355 (r_eq (il 40) q357) (by decide) (by decide)
                      refine g_iconst C dX12_sight_104 ?_
                      exact g_iret C hr rfl (iw (il (-1)) (by decide) (by decide)) ⟨O219, (((((((Fx.rf (wr := wr_k_X12_sight)).pI ta0 hh1 rfl).call F9 rfl).call F23 rfl).call F192 rfl).call F206 rfl).call F220 rfl), (iw (il (-1)) (by decide) (by decide))⟩ (by decide) (by decide) dX12_sight_105
def wr_k_X12_dip : List Nat := [2400, 2435, 29620000, 29820000, 30020000]
set_option maxRecDepth 100000 in
set_option maxHeartbeats 4000000 in
theorem k_X12_dip (l : Launch) (D : va_G) (cy : Nat → ClassId) (w : Nat → Nat) (z0 : Nat) {h : Hp} {a0 : Nat} {a1 : Int} {a2 : Int} {a3 : Int} {a4 : Int}  (O : Okh h) (ta0 : Tg h a0 = 12) (fa1 : (-2147483648) ≤ a1 ∧ a1 ≤ 2147483647) (fa2 : (-2147483648) ≤ a2 ∧ a2 ≤ 2147483647) (fa3 : (-2147483648) ≤ a3 ∧ a3 ≤ 2147483647) (fa4 : (-2147483648) ≤ a4 ∧ a4 ≤ 2147483647) : MI l D cy w z0 yX12_dip cX12_dip 5 (some .boolean) 1 22 0 0 [.inr (.inr a0), .inl a1, .inl a2, .inl a3, .inl a4] h (fun v h1 => Okh h1 ∧ Fx wr_k_X12_dip h h1 ∧ (0 ≤ v ∧ v ≤ 1)) := by
  refine hm_go (by decide +kernel) (Nat.le_of_ble_eq_true rfl) (fun p e s m below meth c C hr hn => ?_)
  refine g_aload_n C rfl 0 rfl dX12_dip_0 ?_
  refine g_iconst C dX12_dip_1 ?_
  refine gp_I C fk_LandSurveyModel_1 pk_LandSurveyModel_0 rfl ta0 (iw (il 0) (by decide) (by decide)) (nf_i _) dX12_dip_2 (fun h2 hh1 => ?_)
  have O3 := O.pI ta0 hh1 rI_12_0 (iw (il 0) (by decide) (by decide)) nofun
  refine g_aload_n C rfl 0 rfl dX12_dip_5 ?_
  refine g_iload_n C rfl 1 rfl dX12_dip_6 ?_
  have e4 : Tg h2 a0 = 12 := ((pIT hh1).trans ta0)
  refine g_callI (st := []) (gc_V C lk_LandSurveyModel_426 (k_X12_isSight l D cy w z0 O3 e4 fa1) e4 rfl rfl rfl ⟨by decide, by decide⟩ (Nat.le_of_ble_eq_true rfl) dX12_dip_7 ⟨(by decide), (by decide)⟩) (fun r5 h6 f8 K7 => ?_)
  obtain ⟨O9, F10, f11, p12⟩ := K7
  refine g_if_eq C (iw f11 (by decide) (by decide)) 53 (by decide) dX12_dip_10 (fun q13 => ?_) (fun q14 => ?_)
  · have f15 : (0 : Int) ≤ r5 ∧ r5 ≤ (0 : Int) := ii f11 (r_eq (il 0) q13) (by decide) (by decide)
    refine g_iconst C dX12_dip_53 ?_
    exact g_iret C hr (nar_z2 (iw (il 0) (by decide) (by decide))).1 (iw (il 0) (by decide) (by decide)) ⟨O9, (((Fx.rf (wr := wr_k_X12_dip)).pI ta0 hh1 rfl).call F10 rfl), (iw (il 0) (by decide) (by decide))⟩ (by decide) (by decide) dX12_dip_54
  · have f16 : (1 : Int) ≤ r5 ∧ r5 ≤ (1 : Int) := r_nl f11 q14
    refine g_iload_n C rfl 2 rfl dX12_dip_13 ?_
    refine g_iconst C dX12_dip_14 ?_
    refine g_iconst C dX12_dip_15 ?_
    refine g_callI (st := []) (gc_S C lk_LandSurveyModel_415 (k_X12_within l D cy w z0 O9 fa2 (iw (il 0) (by decide) (by decide)) (iw (il 3) (by decide) (by decide))) rfl ⟨by decide, by decide⟩ (Nat.le_of_ble_eq_true rfl) dX12_dip_16 ⟨(by decide), (by decide)⟩) (fun r17 h18 f20 K19 => ?_)
    obtain ⟨O21, F22, f23, p24⟩ := K19
    refine g_if_eq C (iw f23 (by decide) (by decide)) 53 (by decide) dX12_dip_19 (fun q25 => ?_) (fun q26 => ?_)
    · have f27 : (0 : Int) ≤ r17 ∧ r17 ≤ (0 : Int) := ii f23 (r_eq (il 0) q25) (by decide) (by decide)
      refine g_iconst C dX12_dip_53 ?_
      exact g_iret C hr (nar_z2 (iw (il 0) (by decide) (by decide))).1 (iw (il 0) (by decide) (by decide)) ⟨O21, ((((Fx.rf (wr := wr_k_X12_dip)).pI ta0 hh1 rfl).call F10 rfl).call F22 rfl), (iw (il 0) (by decide) (by decide))⟩ (by decide) (by decide) dX12_dip_54
    · have f28 : (1 : Int) ≤ r17 ∧ r17 ≤ (1 : Int) := r_nl f23 q26
      refine g_iload_n C rfl 3 rfl dX12_dip_22 ?_
      refine g_bipush C (by decide) dX12_dip_23 ?_
      refine g_bipush C (by decide) dX12_dip_25 ?_
      refine g_callI (st := []) (gc_S C lk_LandSurveyModel_415 (k_X12_within l D cy w z0 O21 fa3 (iw (il (-99)) (by decide) (by decide)) (iw (il 99) (by decide) (by decide))) rfl ⟨by decide, by decide⟩ (Nat.le_of_ble_eq_true rfl) dX12_dip_27 ⟨(by decide), (by decide)⟩) (fun r29 h30 f32 K31 => ?_)
      obtain ⟨O33, F34, f35, p36⟩ := K31
      refine g_if_eq C (iw f35 (by decide) (by decide)) 53 (by decide) dX12_dip_30 (fun q37 => ?_) (fun q38 => ?_)
      · have f39 : (0 : Int) ≤ r29 ∧ r29 ≤ (0 : Int) := ii f35 (r_eq (il 0) q37) (by decide) (by decide)
        refine g_iconst C dX12_dip_53 ?_
        exact g_iret C hr (nar_z2 (iw (il 0) (by decide) (by decide))).1 (iw (il 0) (by decide) (by decide)) ⟨O33, (((((Fx.rf (wr := wr_k_X12_dip)).pI ta0 hh1 rfl).call F10 rfl).call F22 rfl).call F34 rfl), (iw (il 0) (by decide) (by decide))⟩ (by decide) (by decide) dX12_dip_54
      · have f40 : (1 : Int) ≤ r29 ∧ r29 ≤ (1 : Int) := r_nl f35 q38
        refine g_iload C 4 rfl dX12_dip_33 ?_
        refine g_iconst C dX12_dip_35 ?_
        refine g_bipush C (by decide) dX12_dip_36 ?_
        refine g_callI (st := []) (gc_S C lk_LandSurveyModel_415 (k_X12_within l D cy w z0 O33 fa4 (iw (il 0) (by decide) (by decide)) (iw (il 99) (by decide) (by decide))) rfl ⟨by decide, by decide⟩ (Nat.le_of_ble_eq_true rfl) dX12_dip_38 ⟨(by decide), (by decide)⟩) (fun r41 h42 f44 K43 => ?_)
        obtain ⟨O45, F46, f47, p48⟩ := K43
        refine g_if_eq C (iw f47 (by decide) (by decide)) 53 (by decide) dX12_dip_41 (fun q49 => ?_) (fun q50 => ?_)
        · have f51 : (0 : Int) ≤ r41 ∧ r41 ≤ (0 : Int) := ii f47 (r_eq (il 0) q49) (by decide) (by decide)
          refine g_iconst C dX12_dip_53 ?_
          exact g_iret C hr (nar_z2 (iw (il 0) (by decide) (by decide))).1 (iw (il 0) (by decide) (by decide)) ⟨O45, ((((((Fx.rf (wr := wr_k_X12_dip)).pI ta0 hh1 rfl).call F10 rfl).call F22 rfl).call F34 rfl).call F46 rfl), (iw (il 0) (by decide) (by decide))⟩ (by decide) (by decide) dX12_dip_54
        · have f52 : (1 : Int) ≤ r41 ∧ r41 ≤ (1 : Int) := r_nl f47 q50
          refine g_aload_n C rfl 0 rfl dX12_dip_44 ?_
          have e53 : Tg h42 a0 = 12 := (fxT F46 (fxT F34 (fxT F22 (fxT F10 e4))))
          obtain ⟨v54, e55⟩ : ∃ z, Rv h42 a0 48 = z := ⟨_, rfl⟩
          have t56 := ok_R O45 e53 rE_12_48 e55
          have l57 := ok_L O45 e53 rE_12_48 e55
          refine gf_R C fk_LandSurveyModel_194 rfl e53 e55 dX12_dip_45 ?_
          refine g_iload_n C rfl 1 rfl dX12_dip_48 ?_
          obtain ⟨v58, e59⟩ : ∃ z, Iv h42 v54 a1.toNat = z := ⟨_, rfl⟩
          have f60 := ok_Ia O45 t56 ar_148100 rI_148100_0 e59
          refine g_iald C t56 rfl l57 (by omega) e59 dX12_dip_49 ?_
          refine g_if_lt C (iw f60 (by decide) (by decide)) 55 (by decide) dX12_dip_50 (fun q61 => ?_) (fun q62 => ?_)
          · have f63 : (-1 : Int) ≤ v58 ∧ v58 ≤ (-1 : Int) := r_lt f60 (il 0) q61 (by decide) (by decide)
            refine g_aload_n C rfl 0 rfl dX12_dip_55 ?_
            refine gf_R C fk_LandSurveyModel_194 rfl e53 e55 dX12_dip_56 ?_
            refine g_iload_n C rfl 1 rfl dX12_dip_59 ?_
            refine g_iload_n C rfl 2 rfl dX12_dip_60 ?_
            refine g_iast C t56 rfl l57 (by omega) fa2 dX12_dip_61 (fun h65 hh64 => ?_)
            have O66 := O45.pIa t56 ar_148100 hh64 rI_148100_0 (by omega) nofun
            refine g_aload_n C rfl 0 rfl dX12_dip_62 ?_
            have e67 : Tg h65 a0 = 12 := ((pIT hh64).trans e53)
            obtain ⟨v68, e69⟩ : ∃ z, Rv h65 a0 49 = z := ⟨_, rfl⟩
            have t70 := ok_R O66 e67 rE_12_49 e69
            have l71 := ok_L O66 e67 rE_12_49 e69
            refine gf_R C fk_LandSurveyModel_197 rfl e67 e69 dX12_dip_63 ?_
            refine g_iload_n C rfl 1 rfl dX12_dip_66 ?_
            refine g_iload_n C rfl 3 rfl dX12_dip_67 ?_
            refine g_iast C t70 rfl l71 (by omega) fa3 dX12_dip_68 (fun h73 hh72 => ?_)
            have O74 := O66.pIa t70 ar_149100 hh72 rI_149100_0 (by omega) nofun
            refine g_aload_n C rfl 0 rfl dX12_dip_69 ?_
            have e75 : Tg h73 a0 = 12 := ((pIT hh72).trans e67)
            obtain ⟨v76, e77⟩ : ∃ z, Rv h73 a0 50 = z := ⟨_, rfl⟩
            have t78 := ok_R O74 e75 rE_12_50 e77
            have l79 := ok_L O74 e75 rE_12_50 e77
            refine gf_R C fk_LandSurveyModel_200 rfl e75 e77 dX12_dip_70 ?_
            refine g_iload_n C rfl 1 rfl dX12_dip_73 ?_
            refine g_iload C 4 rfl dX12_dip_74 ?_
            refine g_iast C t78 rfl l79 (by omega) fa4 dX12_dip_76 (fun h81 hh80 => ?_)
            have O82 := O74.pIa t78 ar_150100 hh80 rI_150100_0 (by omega) nofun
            refine g_aload_n C rfl 0 rfl dX12_dip_77 ?_
            refine g_iconst C dX12_dip_78 ?_
            have e83 : Tg h81 a0 = 12 := ((pIT hh80).trans e75)
            refine gp_I C fk_LandSurveyModel_290 pk_LandSurveyModel_35 rfl e83 (iw (il 1) (by decide) (by decide)) (nar_z2 (iw (il 1) (by decide) (by decide))) dX12_dip_79 (fun h85 hh84 => ?_)
            have O86 := O82.pI e83 hh84 rI_12_35 (iw (il 1) (by decide) (by decide)) nofun
            refine g_iconst C dX12_dip_82 ?_
            exact g_iret C hr (nar_z2 (iw (il 1) (by decide) (by decide))).1 (iw (il 1) (by decide) (by decide)) ⟨O86, ((((((((((Fx.rf (wr := wr_k_X12_dip)).pI ta0 hh1 rfl).call F10 rfl).call F22 rfl).call F34 rfl).call F46 rfl).pIa t56 ar_148100 hh64 rfl).pIa t70 ar_149100 hh72 rfl).pIa t78 ar_150100 hh80 rfl).pI e83 hh84 rfl), (iw (il 1) (by decide) (by decide))⟩ (by decide) (by decide) dX12_dip_83
          · have f87 : (0 : Int) ≤ v58 ∧ v58 ≤ (3 : Int) := r_ge f60 (il 0) q62 (by decide) (by decide)
            refine g_iconst C dX12_dip_53 ?_
            exact g_iret C hr (nar_z2 (iw (il 0) (by decide) (by decide))).1 (iw (il 0) (by decide) (by decide)) ⟨O45, ((((((Fx.rf (wr := wr_k_X12_dip)).pI ta0 hh1 rfl).call F10 rfl).call F22 rfl).call F34 rfl).call F46 rfl), (iw (il 0) (by decide) (by decide))⟩ (by decide) (by decide) dX12_dip_54
def wr_k_X12_remain : List Nat := [2400, 30220000, 30420200]
set_option maxRecDepth 100000 in
set_option maxHeartbeats 4000000 in
theorem k_X12_remain (l : Launch) (D : va_G) (cy : Nat → ClassId) (w : Nat → Nat) (z0 : Nat) {h : Hp} {a0 : Nat} {a1 : Int} {a2 : Int} {a3 : Int}  (O : Okh h) (ta0 : Tg h a0 = 12) (fa1 : (-2147483648) ≤ a1 ∧ a1 ≤ 2147483647) (fa2 : (-2147483648) ≤ a2 ∧ a2 ≤ 2147483647) (fa3 : 0 ≤ a3 ∧ a3 ≤ 1) : MI l D cy w z0 yX12_remain cX12_remain 4 (some .boolean) 1 22 0 0 [.inr (.inr a0), .inl a1, .inl a2, .inl a3] h (fun v h1 => Okh h1 ∧ Fx wr_k_X12_remain h h1 ∧ (0 ≤ v ∧ v ≤ 1)) := by
  refine hm_go (by decide +kernel) (Nat.le_of_ble_eq_true rfl) (fun p e s m below meth c C hr hn => ?_)
  refine g_aload_n C rfl 0 rfl dX12_remain_0 ?_
  refine g_iconst C dX12_remain_1 ?_
  refine gp_I C fk_LandSurveyModel_1 pk_LandSurveyModel_0 rfl ta0 (iw (il 0) (by decide) (by decide)) (nf_i _) dX12_remain_2 (fun h2 hh1 => ?_)
  have O3 := O.pI ta0 hh1 rI_12_0 (iw (il 0) (by decide) (by decide)) nofun
  refine g_aload_n C rfl 0 rfl dX12_remain_5 ?_
  refine g_iload_n C rfl 1 rfl dX12_remain_6 ?_
  have e4 : Tg h2 a0 = 12 := ((pIT hh1).trans ta0)
  refine g_callI (st := []) (gc_V C lk_LandSurveyModel_426 (k_X12_isSight l D cy w z0 O3 e4 fa1) e4 rfl rfl rfl ⟨by decide, by decide⟩ (Nat.le_of_ble_eq_true rfl) dX12_remain_7 ⟨(by decide), (by decide)⟩) (fun r5 h6 f8 K7 => ?_)
  obtain ⟨O9, F10, f11, p12⟩ := K7
  refine g_if_eq C (iw f11 (by decide) (by decide)) 32 (by decide) dX12_remain_10 (fun q13 => ?_) (fun q14 => ?_)
  · have f15 : (0 : Int) ≤ r5 ∧ r5 ≤ (0 : Int) := ii f11 (r_eq (il 0) q13) (by decide) (by decide)
    refine g_iconst C dX12_remain_32 ?_
    exact g_iret C hr (nar_z2 (iw (il 0) (by decide) (by decide))).1 (iw (il 0) (by decide) (by decide)) ⟨O9, (((Fx.rf (wr := wr_k_X12_remain)).pI ta0 hh1 rfl).call F10 rfl), (iw (il 0) (by decide) (by decide))⟩ (by decide) (by decide) dX12_remain_33
  · have f16 : (1 : Int) ≤ r5 ∧ r5 ≤ (1 : Int) := r_nl f11 q14
    refine g_iload_n C rfl 2 rfl dX12_remain_13 ?_
    refine g_iconst C dX12_remain_14 ?_
    refine g_bipush C (by decide) dX12_remain_15 ?_
    refine g_callI (st := []) (gc_S C lk_LandSurveyModel_415 (k_X12_within l D cy w z0 O9 fa2 (iw (il 0) (by decide) (by decide)) (iw (il 9) (by decide) (by decide))) rfl ⟨by decide, by decide⟩ (Nat.le_of_ble_eq_true rfl) dX12_remain_17 ⟨(by decide), (by decide)⟩) (fun r17 h18 f20 K19 => ?_)
    obtain ⟨O21, F22, f23, p24⟩ := K19
    refine g_if_eq C (iw f23 (by decide) (by decide)) 32 (by decide) dX12_remain_20 (fun q25 => ?_) (fun q26 => ?_)
    · have f27 : (0 : Int) ≤ r17 ∧ r17 ≤ (0 : Int) := ii f23 (r_eq (il 0) q25) (by decide) (by decide)
      refine g_iconst C dX12_remain_32 ?_
      exact g_iret C hr (nar_z2 (iw (il 0) (by decide) (by decide))).1 (iw (il 0) (by decide) (by decide)) ⟨O21, ((((Fx.rf (wr := wr_k_X12_remain)).pI ta0 hh1 rfl).call F10 rfl).call F22 rfl), (iw (il 0) (by decide) (by decide))⟩ (by decide) (by decide) dX12_remain_33
    · have f28 : (1 : Int) ≤ r17 ∧ r17 ≤ (1 : Int) := r_nl f23 q26
      refine g_aload_n C rfl 0 rfl dX12_remain_23 ?_
      have e29 : Tg h18 a0 = 12 := (fxT F22 (fxT F10 e4))
      obtain ⟨v30, e31⟩ : ∃ z, Rv h18 a0 51 = z := ⟨_, rfl⟩
      have t32 := ok_R O21 e29 rE_12_51 e31
      have l33 := ok_L O21 e29 rE_12_51 e31
      refine gf_R C fk_LandSurveyModel_203 rfl e29 e31 dX12_remain_24 ?_
      refine g_iload_n C rfl 1 rfl dX12_remain_27 ?_
      obtain ⟨v34, e35⟩ : ∃ z, Iv h18 v30 a1.toNat = z := ⟨_, rfl⟩
      have f36 := ok_Ia O21 t32 ar_151100 rI_151100_0 e35
      refine g_iald C t32 rfl l33 (by omega) e35 dX12_remain_28 ?_
      refine g_if_lt C (iw f36 (by decide) (by decide)) 34 (by decide) dX12_remain_29 (fun q37 => ?_) (fun q38 => ?_)
      · have f39 : (-1 : Int) ≤ v34 ∧ v34 ≤ (-1 : Int) := r_lt f36 (il 0) q37 (by decide) (by decide)
        refine g_aload_n C rfl 0 rfl dX12_remain_34 ?_
        refine gf_R C fk_LandSurveyModel_203 rfl e29 e31 dX12_remain_35 ?_
        refine g_iload_n C rfl 1 rfl dX12_remain_38 ?_
        refine g_iload_n C rfl 2 rfl dX12_remain_39 ?_
        refine g_iast C t32 rfl l33 (by omega) fa2 dX12_remain_40 (fun h41 hh40 => ?_)
        have O42 := O21.pIa t32 ar_151100 hh40 rI_151100_0 (by omega) nofun
        refine g_aload_n C rfl 0 rfl dX12_remain_41 ?_
        have e43 : Tg h41 a0 = 12 := ((pIT hh40).trans e29)
        obtain ⟨v44, e45⟩ : ∃ z, Rv h41 a0 52 = z := ⟨_, rfl⟩
        have t46 := ok_R O42 e43 rE_12_52 e45
        have l47 := ok_L O42 e43 rE_12_52 e45
        refine gf_R C fk_LandSurveyModel_206 rfl e43 e45 dX12_remain_42 ?_
        refine g_iload_n C rfl 1 rfl dX12_remain_45 ?_
        refine g_iload_n C rfl 3 rfl dX12_remain_46 ?_
        refine g_zast C t46 rfl l47 (by omega) fa3 dX12_remain_47 (fun h49 hh48 => ?_)
        have O50 := O42.pIa t46 ar_152101 hh48 rI_152101_0 fa3 nofun
        refine g_iconst C dX12_remain_48 ?_
        exact g_iret C hr (nar_z2 (iw (il 1) (by decide) (by decide))).1 (iw (il 1) (by decide) (by decide)) ⟨O50, ((((((Fx.rf (wr := wr_k_X12_remain)).pI ta0 hh1 rfl).call F10 rfl).call F22 rfl).pIa t32 ar_151100 hh40 rfl).pIa t46 ar_152101 hh48 rfl), (iw (il 1) (by decide) (by decide))⟩ (by decide) (by decide) dX12_remain_49
      · have f51 : (0 : Int) ≤ v34 ∧ v34 ≤ (9 : Int) := r_ge f36 (il 0) q38 (by decide) (by decide)
        refine g_iconst C dX12_remain_32 ?_
        exact g_iret C hr (nar_z2 (iw (il 0) (by decide) (by decide))).1 (iw (il 0) (by decide) (by decide)) ⟨O21, ((((Fx.rf (wr := wr_k_X12_remain)).pI ta0 hh1 rfl).call F10 rfl).call F22 rfl), (iw (il 0) (by decide) (by decide))⟩ (by decide) (by decide) dX12_remain_33
def wr_k_X12_withdraw : List Nat := [2400, 2435, 29420000]
set_option maxRecDepth 100000 in
set_option maxHeartbeats 4000000 in
theorem k_X12_withdraw (l : Launch) (D : va_G) (cy : Nat → ClassId) (w : Nat → Nat) (z0 : Nat) {h : Hp} {a0 : Nat} {a1 : Int}  (O : Okh h) (ta0 : Tg h a0 = 12) (fa1 : (-2147483648) ≤ a1 ∧ a1 ≤ 2147483647) : MI l D cy w z0 yX12_withdraw cX12_withdraw 2 (some .boolean) 1 21 0 0 [.inr (.inr a0), .inl a1] h (fun v h1 => Okh h1 ∧ Fx wr_k_X12_withdraw h h1 ∧ (0 ≤ v ∧ v ≤ 1)) := by
  refine hm_go (by decide +kernel) (Nat.le_of_ble_eq_true rfl) (fun p e s m below meth c C hr hn => ?_)
  refine g_aload_n C rfl 0 rfl dX12_withdraw_0 ?_
  refine g_iconst C dX12_withdraw_1 ?_
  refine gp_I C fk_LandSurveyModel_1 pk_LandSurveyModel_0 rfl ta0 (iw (il 0) (by decide) (by decide)) (nf_i _) dX12_withdraw_2 (fun h2 hh1 => ?_)
  have O3 := O.pI ta0 hh1 rI_12_0 (iw (il 0) (by decide) (by decide)) nofun
  refine g_aload_n C rfl 0 rfl dX12_withdraw_5 ?_
  refine g_iload_n C rfl 1 rfl dX12_withdraw_6 ?_
  have e4 : Tg h2 a0 = 12 := ((pIT hh1).trans ta0)
  refine g_callI (st := []) (gc_V C lk_LandSurveyModel_426 (k_X12_isSight l D cy w z0 O3 e4 fa1) e4 rfl rfl rfl ⟨by decide, by decide⟩ (Nat.le_of_ble_eq_true rfl) dX12_withdraw_7 ⟨(by decide), (by decide)⟩) (fun r5 h6 f8 K7 => ?_)
  obtain ⟨O9, F10, f11, p12⟩ := K7
  refine g_if_eq C (iw f11 (by decide) (by decide)) 22 (by decide) dX12_withdraw_10 (fun q13 => ?_) (fun q14 => ?_)
  · have f15 : (0 : Int) ≤ r5 ∧ r5 ≤ (0 : Int) := ii f11 (r_eq (il 0) q13) (by decide) (by decide)
    refine g_iconst C dX12_withdraw_22 ?_
    exact g_iret C hr (nar_z2 (iw (il 0) (by decide) (by decide))).1 (iw (il 0) (by decide) (by decide)) ⟨O9, (((Fx.rf (wr := wr_k_X12_withdraw)).pI ta0 hh1 rfl).call F10 rfl), (iw (il 0) (by decide) (by decide))⟩ (by decide) (by decide) dX12_withdraw_23
  · have f16 : (1 : Int) ≤ r5 ∧ r5 ≤ (1 : Int) := r_nl f11 q14
    refine g_aload_n C rfl 0 rfl dX12_withdraw_13 ?_
    have e17 : Tg h6 a0 = 12 := (fxT F10 e4)
    obtain ⟨v18, e19⟩ : ∃ z, Rv h6 a0 47 = z := ⟨_, rfl⟩
    have t20 := ok_R O9 e17 rE_12_47 e19
    have l21 := ok_L O9 e17 rE_12_47 e19
    refine gf_R C fk_LandSurveyModel_191 rfl e17 e19 dX12_withdraw_14 ?_
    refine g_iload_n C rfl 1 rfl dX12_withdraw_17 ?_
    obtain ⟨v22, e23⟩ : ∃ z, Iv h6 v18 a1.toNat = z := ⟨_, rfl⟩
    have f24 := ok_Ia O9 t20 ar_147100 rI_147100_0 e23
    refine g_iald C t20 rfl l21 (by omega) e23 dX12_withdraw_18 ?_
    refine g_if_lt C (iw f24 (by decide) (by decide)) 24 (by decide) dX12_withdraw_19 (fun q25 => ?_) (fun q26 => ?_)
    · have f27 : (-1 : Int) ≤ v22 ∧ v22 ≤ (-1 : Int) := r_lt f24 (il 0) q25 (by decide) (by decide)
      refine g_aload_n C rfl 0 rfl dX12_withdraw_24 ?_
      refine gf_R C fk_LandSurveyModel_191 rfl e17 e19 dX12_withdraw_25 ?_
      refine g_iload_n C rfl 1 rfl dX12_withdraw_28 ?_
      refine g_aload_n C rfl 0 rfl dX12_withdraw_29 ?_
      obtain ⟨v28, e29⟩ : ∃ z, Iv h6 a0 33 = z := ⟨_, rfl⟩
      have f30 := ok_I O9 e17 rI_12_33 e29
      refine gf_I C fk_LandSurveyModel_342 rfl e17 e29 dX12_withdraw_30 ?_
      refine g_iast C t20 rfl l21 (by omega) (iw f30 (by decide) (by decide)) dX12_withdraw_33 (fun h32 hh31 => ?_)
      have O33 := O9.pIa t20 ar_147100 hh31 rI_147100_0 (iw f30 (by decide) (by decide)) nofun
      refine g_aload_n C rfl 0 rfl dX12_withdraw_34 ?_
      refine g_iconst C dX12_withdraw_35 ?_
      have e34 : Tg h32 a0 = 12 := ((pIT hh31).trans e17)
      refine gp_I C fk_LandSurveyModel_290 pk_LandSurveyModel_35 rfl e34 (iw (il 1) (by decide) (by decide)) (nar_z2 (iw (il 1) (by decide) (by decide))) dX12_withdraw_36 (fun h36 hh35 => ?_)
      have O37 := O33.pI e34 hh35 rI_12_35 (iw (il 1) (by decide) (by decide)) nofun
      refine g_iconst C dX12_withdraw_39 ?_
      exact g_iret C hr (nar_z2 (iw (il 1) (by decide) (by decide))).1 (iw (il 1) (by decide) (by decide)) ⟨O37, (((((Fx.rf (wr := wr_k_X12_withdraw)).pI ta0 hh1 rfl).call F10 rfl).pIa t20 ar_147100 hh31 rfl).pI e34 hh35 rfl), (iw (il 1) (by decide) (by decide))⟩ (by decide) (by decide) dX12_withdraw_40
    · have f38 : (0 : Int) ≤ v22 ∧ v22 ≤ (9999 : Int) := r_ge f24 (il 0) q26 (by decide) (by decide)
      refine g_iconst C dX12_withdraw_22 ?_
      exact g_iret C hr (nar_z2 (iw (il 0) (by decide) (by decide))).1 (iw (il 0) (by decide) (by decide)) ⟨O9, (((Fx.rf (wr := wr_k_X12_withdraw)).pI ta0 hh1 rfl).call F10 rfl), (iw (il 0) (by decide) (by decide))⟩ (by decide) (by decide) dX12_withdraw_23
def wr_k_X12_rivalry : List Nat := [2400, 2435, 2479]
set_option maxRecDepth 100000 in
set_option maxHeartbeats 4000000 in
theorem k_X12_rivalry (l : Launch) (D : va_G) (cy : Nat → ClassId) (w : Nat → Nat) (z0 : Nat) {h : Hp} {a0 : Nat} {a1 : Int}  (O : Okh h) (ta0 : Tg h a0 = 12) (fa1 : (-2147483648) ≤ a1 ∧ a1 ≤ 2147483647) : MI l D cy w z0 yX12_rivalry cX12_rivalry 2 (some .boolean) 1 22 0 0 [.inr (.inr a0), .inl a1] h (fun v h1 => Okh h1 ∧ Fx wr_k_X12_rivalry h h1 ∧ (0 ≤ v ∧ v ≤ 1)) := by
  refine hm_go (by decide +kernel) (Nat.le_of_ble_eq_true rfl) (fun p e s m below meth c C hr hn => ?_)
  refine g_aload_n C rfl 0 rfl dX12_rivalry_0 ?_
  refine g_iconst C dX12_rivalry_1 ?_
  refine gp_I C fk_LandSurveyModel_1 pk_LandSurveyModel_0 rfl ta0 (iw (il 0) (by decide) (by decide)) (nf_i _) dX12_rivalry_2 (fun h2 hh1 => ?_)
  have O3 := O.pI ta0 hh1 rI_12_0 (iw (il 0) (by decide) (by decide)) nofun
  refine g_iload_n C rfl 1 rfl dX12_rivalry_5 ?_
  refine g_iconst C dX12_rivalry_6 ?_
  refine g_sipush C (by decide) dX12_rivalry_7 ?_
  refine g_callI (st := []) (gc_S C lk_LandSurveyModel_415 (k_X12_within l D cy w z0 O3 fa1 (iw (il 0) (by decide) (by decide)) (iw (il 999) (by decide) (by decide))) rfl ⟨by decide, by decide⟩ (Nat.le_of_ble_eq_true rfl) dX12_rivalry_10 ⟨(by decide), (by decide)⟩) (fun r4 h5 f7 K6 => ?_)
  obtain ⟨O8, F9, f10, p11⟩ := K6
  refine g_if_ne C (iw f10 (by decide) (by decide)) 18 (by decide) dX12_rivalry_13 (fun q12 => ?_) (fun q13 => ?_)
  · have f14 : (1 : Int) ≤ r4 ∧ r4 ≤ (1 : Int) := r_nl f10 q12
    refine g_aload_n C rfl 0 rfl dX12_rivalry_18 ?_
    refine g_iload_n C rfl 1 rfl dX12_rivalry_19 ?_
    have e15 : Tg h5 a0 = 12 := (fxT F9 ((pIT hh1).trans ta0))
    refine gp_I C fk_LandSurveyModel_549 pk_LandSurveyModel_79 rfl e15 fa1 (nf_i _) dX12_rivalry_20 (fun h17 hh16 => ?_)
    have O18 := O8.pI e15 hh16 rI_12_79 (by omega) nofun
    refine g_aload_n C rfl 0 rfl dX12_rivalry_23 ?_
    refine g_iconst C dX12_rivalry_24 ?_
    have e19 : Tg h17 a0 = 12 := ((pIT hh16).trans e15)
    refine gp_I C fk_LandSurveyModel_290 pk_LandSurveyModel_35 rfl e19 (iw (il 1) (by decide) (by decide)) (nar_z2 (iw (il 1) (by decide) (by decide))) dX12_rivalry_25 (fun h21 hh20 => ?_)
    have O22 := O18.pI e19 hh20 rI_12_35 (iw (il 1) (by decide) (by decide)) nofun
    refine g_iconst C dX12_rivalry_28 ?_
    exact g_iret C hr (nar_z2 (iw (il 1) (by decide) (by decide))).1 (iw (il 1) (by decide) (by decide)) ⟨O22, (((((Fx.rf (wr := wr_k_X12_rivalry)).pI ta0 hh1 rfl).call F9 rfl).pI e15 hh16 rfl).pI e19 hh20 rfl), (iw (il 1) (by decide) (by decide))⟩ (by decide) (by decide) dX12_rivalry_29
  · have f23 : (0 : Int) ≤ r4 ∧ r4 ≤ (0 : Int) := ii f10 (r_eq (il 0) q13) (by decide) (by decide)
    refine g_iconst C dX12_rivalry_16 ?_
    exact g_iret C hr (nar_z2 (iw (il 0) (by decide) (by decide))).1 (iw (il 0) (by decide) (by decide)) ⟨O8, (((Fx.rf (wr := wr_k_X12_rivalry)).pI ta0 hh1 rfl).call F9 rfl), (iw (il 0) (by decide) (by decide))⟩ (by decide) (by decide) dX12_rivalry_17
def wr_k_X12_isSheet : List Nat := []
set_option maxRecDepth 100000 in
set_option maxHeartbeats 4000000 in
theorem k_X12_isSheet (l : Launch) (D : va_G) (cy : Nat → ClassId) (w : Nat → Nat) (z0 : Nat) {h : Hp} {a0 : Nat} {a1 : Int}  (O : Okh h) (ta0 : Tg h a0 = 12) (fa1 : (-2147483648) ≤ a1 ∧ a1 ≤ 2147483647) : MI l D cy w z0 yX12_isSheet cX12_isSheet 2 (some .boolean) 0 0 0 0 [.inr (.inr a0), .inl a1] h (fun v h1 => Okh h1 ∧ Fx wr_k_X12_isSheet h h1 ∧ (0 ≤ v ∧ v ≤ 1)) := by
  refine hm_go (by decide +kernel) (Nat.le_of_ble_eq_true rfl) (fun p e s m below meth c C hr hn => ?_)
  refine g_iload_n C rfl 1 rfl dX12_isSheet_0 ?_
  refine g_if_lt C fa1 16 (by decide) dX12_isSheet_1 (fun q1 => ?_) (fun q2 => ?_)
  · have f3 : (-2147483648 : Int) ≤ a1 ∧ a1 ≤ (-1 : Int) := r_lt fa1 (il 0) q1 (by decide) (by decide)
    refine g_iconst C dX12_isSheet_16 ?_
    exact g_iret C hr (nar_z2 (iw (il 0) (by decide) (by decide))).1 (iw (il 0) (by decide) (by decide)) ⟨O, Fx.rf, (iw (il 0) (by decide) (by decide))⟩ (by decide) (by decide) dX12_isSheet_17
  · have f4 : (0 : Int) ≤ a1 ∧ a1 ≤ (2147483647 : Int) := r_ge fa1 (il 0) q2 (by decide) (by decide)
    refine g_iload_n C rfl 1 rfl dX12_isSheet_4 ?_
    refine g_aload_n C rfl 0 rfl dX12_isSheet_5 ?_
    obtain ⟨v5, e6⟩ : ∃ z, Iv h a0 80 = z := ⟨_, rfl⟩
    have f7 := ok_I O ta0 rI_12_80 e6
    refine gf_I C fk_LandSurveyModel_603 rfl ta0 e6 dX12_isSheet_6 ?_
    refine g_icmp_ge C (iw f4 (by decide) (by decide)) (iw f7 (by decide) (by decide)) 16 (by decide) dX12_isSheet_9 (fun q8 => ?_) (fun q9 => ?_)
    · refine g_iconst C dX12_isSheet_16 ?_
      exact g_iret C hr (nar_z2 (iw (il 0) (by decide) (by decide))).1 (iw (il 0) (by decide) (by decide)) ⟨O, Fx.rf, (iw (il 0) (by decide) (by decide))⟩ (by decide) (by decide) dX12_isSheet_17
    · have f10 : (0 : Int) ≤ a1 ∧ a1 ≤ (9 : Int) := r_lt f4 f7 q9 (by decide) (by decide)
      have f11 : (1 : Int) ≤ v5 ∧ v5 ≤ (10 : Int) := r_gt f7 f4 q9 (by decide) (by decide)
      refine g_iconst C dX12_isSheet_12 ?_
      refine g_goto C 17 (by decide) dX12_isSheet_13 ?_
      exact g_iret C hr (nar_z2 (iw (il 1) (by decide) (by decide))).1 (iw (il 1) (by decide) (by decide)) ⟨O, Fx.rf, (iw (il 1) (by decide) (by decide))⟩ (by decide) (by decide) dX12_isSheet_17
def wr_k_X12_asked : List Nat := []
set_option maxRecDepth 100000 in
set_option maxHeartbeats 4000000 in
theorem k_X12_asked (l : Launch) (D : va_G) (cy : Nat → ClassId) (w : Nat → Nat) (z0 : Nat) {h : Hp} {a0 : Nat}  (O : Okh h) (ta0 : Tg h a0 = 12) : MI l D cy w z0 yX12_asked cX12_asked 3 (some .int) 0 0 0 0 [.inr (.inr a0)] h (fun v h1 => Okh h1 ∧ Fx wr_k_X12_asked h h1 ∧ ((-2147483648) ≤ v ∧ v ≤ 2147483647)) := by
  refine hm_go (by decide +kernel) (Nat.le_of_ble_eq_true rfl) (fun p e s m below meth c C hr hn => ?_)
  refine g_iconst C dX12_asked_0 ?_
  refine g_istore_n C [(1, .inl 0), (0, .inr (.inr a0))] rfl (by decide) rfl dX12_asked_1 ?_
  refine g_iconst C dX12_asked_2 ?_
  refine g_istore_n C [(2, .inl 0), (1, .inl 0), (0, .inr (.inr a0))] rfl (by decide) rfl dX12_asked_3 ?_
  refine GW.sub [2, 1, 0] rfl ?_
  -- loop at 4
  have L3 : ∀ (μ : Nat) (x1 : Int) (x2 : Int), (96 - x2).toNat = μ → ((-2147483648 : Int) ≤ x1 ∧ x1 ≤ (2147483647 : Int)) → ((0 : Int) ≤ x2 ∧ x2 ≤ (96 : Int)) → GW p l e (rmm 0 0 0 0) s m (List.map toV [.inr (.inr a0)]).toArray below meth c D cy z0 3 (MQ below (QI D cy z0 (fun v h1 => Okh h1 ∧ Fx wr_k_X12_asked h h1 ∧ ((-2147483648) ≤ v ∧ v ≤ 2147483647))) (List.map toV [.inr (.inr a0)]).toArray s 0 0 (Aof z0)) 4 [(0, .inr (.inr a0)), (1, .inl x1), (2, .inl x2)] [] h 0 0 := by
    intro μ
    induction μ using Nat.strongRecOn with
    | ind μ ih4 =>
      intro x1 x2 hm5 f6 f7
      refine g_iload_n C rfl 2 rfl dX12_asked_4 ?_
      refine g_bipush C (by decide) dX12_asked_5 ?_
      refine g_icmp_ge C (iw f7 (by decide) (by decide)) (iw (il 96) (by decide) (by decide)) 33 (by decide) dX12_asked_7 (fun q8 => ?_) (fun q9 => ?_)
      · have f10 : (96 : Int) ≤ x2 ∧ x2 ≤ (96 : Int) := r_ge f7 (il 96) q8 (by decide) (by decide)
        refine g_iload_n C rfl 1 rfl dX12_asked_33 ?_
        exact g_iret C hr rfl f6 ⟨O, Fx.rf, f6⟩ (by decide) (by decide) dX12_asked_34
      · have f11 : (0 : Int) ≤ x2 ∧ x2 ≤ (95 : Int) := r_lt f7 (il 96) q9 (by decide) (by decide)
        refine g_iload_n C rfl 1 rfl dX12_asked_10 ?_
        refine g_aload_n C rfl 0 rfl dX12_asked_11 ?_
        obtain ⟨v12, e13⟩ : ∃ z, Rv h a0 82 = z := ⟨_, rfl⟩
        have t14 := ok_R O ta0 rE_12_82 e13
        have l15 := ok_L O ta0 rE_12_82 e13
        refine gf_R C fk_LandSurveyModel_275 rfl ta0 e13 dX12_asked_12 ?_
        refine g_iload_n C rfl 2 rfl dX12_asked_15 ?_
        obtain ⟨v16, e17⟩ : ∃ z, Iv h v12 x2.toNat = z := ⟨_, rfl⟩
        have f18 := ok_Ia O t14 ar_182101 rI_182101_0 e17
        refine g_zald C t14 rfl l15 (ix f11 (by decide) (by decide)) e17 dX12_asked_16 ?_
        refine g_if_eq C (iw f18 (by decide) (by decide)) 24 (by decide) dX12_asked_17 (fun q19 => ?_) (fun q20 => ?_)
        · have f21 : (0 : Int) ≤ v16 ∧ v16 ≤ (0 : Int) := ii f18 (r_eq (il 0) q19) (by decide) (by decide)
          refine g_iconst C dX12_asked_24 ?_
          have f22 : (-2147483648 : Int) ≤ (x1 + 0) ∧ (x1 + 0) ≤ (2147483647 : Int) := ia_add f6 (il 0) (by decide) (by decide)
          refine g_iadd C dX12_asked_25 ?_
          refine g_istore_n C [(1, .inl (x1 + 0)), (0, .inr (.inr a0)), (2, .inl x2)] rfl (by decide) rfl dX12_asked_26 ?_
          have f23 : (1 : Int) ≤ (x2 + 1) ∧ (x2 + 1) ≤ (96 : Int) := ia_add f11 (il 1) (by decide) (by decide)
          refine g_iinc C [(2, .inl (x2 + 1)), (1, .inl (x1 + 0)), (0, .inr (.inr a0))] 2 rfl (by decide) rfl dX12_asked_27 ?_
          refine g_goto C 4 (by decide) dX12_asked_30 ?_
          refine GW.sub [2, 1, 0] rfl ?_
          exact ih4 _ (by omega) (x1 + 0) (x2 + 1) rfl f22 (iw f23 (by decide) (by decide))
        · have f24 : (1 : Int) ≤ v16 ∧ v16 ≤ (1 : Int) := r_nl f18 q20
          refine g_iconst C dX12_asked_20 ?_
          refine g_goto C 25 (by decide) dX12_asked_21 ?_
          have f25 : (-2147483648 : Int) ≤ (w32 (x1 + 1)) ∧ (w32 (x1 + 1)) ≤ (2147483647 : Int) := w32_inR _
          refine g_iaddW C dX12_asked_25 ?_
          refine g_istore_n C [(1, .inl (w32 (x1 + 1))), (0, .inr (.inr a0)), (2, .inl x2)] rfl (by decide) rfl dX12_asked_26 ?_
          have f26 : (1 : Int) ≤ (x2 + 1) ∧ (x2 + 1) ≤ (96 : Int) := ia_add f11 (il 1) (by decide) (by decide)
          refine g_iinc C [(2, .inl (x2 + 1)), (1, .inl (w32 (x1 + 1))), (0, .inr (.inr a0))] 2 rfl (by decide) rfl dX12_asked_27 ?_
          refine g_goto C 4 (by decide) dX12_asked_30 ?_
          refine GW.sub [2, 1, 0] rfl ?_
          exact ih4 _ (by omega) (w32 (x1 + 1)) (x2 + 1) rfl f25 (iw f26 (by decide) (by decide))
  exact L3 _ 0 0 rfl (iw (il 0) (by decide) (by decide)) (iw (il 0) (by decide) (by decide))
def wr_k_X12_question : List Nat := [2400, 36420200]
set_option maxRecDepth 100000 in
set_option maxHeartbeats 4000000 in
theorem k_X12_question (l : Launch) (D : va_G) (cy : Nat → ClassId) (w : Nat → Nat) (z0 : Nat) {h : Hp} {a0 : Nat} {a1 : Int} {a2 : Int} {a3 : Int}  (O : Okh h) (ta0 : Tg h a0 = 12) (fa1 : (-2147483648) ≤ a1 ∧ a1 ≤ 2147483647) (fa2 : (-2147483648) ≤ a2 ∧ a2 ≤ 2147483647) (fa3 : 0 ≤ a3 ∧ a3 ≤ 1) : MI l D cy w z0 yX12_question cX12_question 4 (some .boolean) 2 43 0 0 [.inr (.inr a0), .inl a1, .inl a2, .inl a3] h (fun v h1 => Okh h1 ∧ Fx wr_k_X12_question h h1 ∧ (0 ≤ v ∧ v ≤ 1)) := by
  refine hm_go (by decide +kernel) (Nat.le_of_ble_eq_true rfl) (fun p e s m below meth c C hr hn => ?_)
  refine g_aload_n C rfl 0 rfl dX12_question_0 ?_
  refine g_iconst C dX12_question_1 ?_
  refine gp_I C fk_LandSurveyModel_1 pk_LandSurveyModel_0 rfl ta0 (iw (il 0) (by decide) (by decide)) (nf_i _) dX12_question_2 (fun h2 hh1 => ?_)
  have O3 := O.pI ta0 hh1 rI_12_0 (iw (il 0) (by decide) (by decide)) nofun
  refine g_iload_n C rfl 1 rfl dX12_question_5 ?_
  refine g_iload_n C rfl 2 rfl dX12_question_6 ?_
  refine g_callI (st := []) (gc_S C lk_LandSurveyModel_419 (k_X12_isCell l D cy w z0 O3 fa1 fa2) rfl ⟨by decide, by decide⟩ (Nat.le_of_ble_eq_true rfl) dX12_question_7 ⟨(by decide), (by decide)⟩) (fun r4 h5 f7 K6 => ?_)
  obtain ⟨O8, F9, f10, p11⟩ := K6
  refine g_if_eq C (iw f10 (by decide) (by decide)) 40 (by decide) dX12_question_10 (fun q12 => ?_) (fun q13 => ?_)
  · have f14 : (0 : Int) ≤ r4 ∧ r4 ≤ (0 : Int) := ii f10 (r_eq (il 0) q12) (by decide) (by decide)
    refine g_iconst C dX12_question_40 ?_
    exact g_iret C hr (nar_z2 (iw (il 0) (by decide) (by decide))).1 (iw (il 0) (by decide) (by decide)) ⟨O8, (((Fx.rf (wr := wr_k_X12_question)).pI ta0 hh1 rfl).call F9 rfl), (iw (il 0) (by decide) (by decide))⟩ (by decide) (by decide) dX12_question_41
  · have f15 : (1 : Int) ≤ r4 ∧ r4 ≤ (1 : Int) := r_nl f10 q13
    refine g_iload_n C rfl 3 rfl dX12_question_13 ?_
    refine g_if_eq C (iw fa3 (by decide) (by decide)) 42 (by decide) dX12_question_14 (fun q16 => ?_) (fun q17 => ?_)
    · have f18 : (0 : Int) ≤ a3 ∧ a3 ≤ (0 : Int) := ii fa3 (r_eq (il 0) q16) (by decide) (by decide)
      refine g_aload_n C rfl 0 rfl dX12_question_42 ?_
      have e19 : Tg h5 a0 = 12 := (fxT F9 ((pIT hh1).trans ta0))
      obtain ⟨v20, e21⟩ : ∃ z, Rv h5 a0 82 = z := ⟨_, rfl⟩
      have t22 := ok_R O8 e19 rE_12_82 e21
      have l23 := ok_L O8 e19 rE_12_82 e21
      refine gf_R C fk_LandSurveyModel_275 rfl e19 e21 dX12_question_43 ?_
      refine g_bipush C (by decide) dX12_question_46 ?_
      refine g_iload_n C rfl 2 rfl dX12_question_48 ?_
      have f24 : (-2147483648 : Int) ≤ (w32 (12 * a2)) ∧ (w32 (12 * a2)) ≤ (2147483647 : Int) := w32_inR _
      refine g_imulW C dX12_question_49 ?_
      refine g_iload_n C rfl 1 rfl dX12_question_50 ?_
      have f25 : (-2147483648 : Int) ≤ (w32 ((w32 (12 * a2)) + a1)) ∧ (w32 ((w32 (12 * a2)) + a1)) ≤ (2147483647 : Int) := w32_inR _
      refine g_iaddW C dX12_question_51 ?_
      refine g_iload_n C rfl 3 rfl dX12_question_52 ?_
      refine g_zast C t22 rfl l23 (by omega) (iw f18 (by decide) (by decide)) dX12_question_53 (fun h27 hh26 => ?_)
      have O28 := O8.pIa t22 ar_182101 hh26 rI_182101_0 (iw f18 (by decide) (by decide)) nofun
      refine g_iconst C dX12_question_54 ?_
      exact g_iret C hr (nar_z2 (iw (il 1) (by decide) (by decide))).1 (iw (il 1) (by decide) (by decide)) ⟨O28, ((((Fx.rf (wr := wr_k_X12_question)).pI ta0 hh1 rfl).call F9 rfl).pIa t22 ar_182101 hh26 rfl), (iw (il 1) (by decide) (by decide))⟩ (by decide) (by decide) dX12_question_55
    · have f29 : (1 : Int) ≤ a3 ∧ a3 ≤ (1 : Int) := r_nl fa3 q17
      refine g_aload_n C rfl 0 rfl dX12_question_17 ?_
      have e30 : Tg h5 a0 = 12 := (fxT F9 ((pIT hh1).trans ta0))
      obtain ⟨v31, e32⟩ : ∃ z, Rv h5 a0 82 = z := ⟨_, rfl⟩
      have t33 := ok_R O8 e30 rE_12_82 e32
      have l34 := ok_L O8 e30 rE_12_82 e32
      refine gf_R C fk_LandSurveyModel_275 rfl e30 e32 dX12_question_18 ?_
      refine g_bipush C (by decide) dX12_question_21 ?_
      refine g_iload_n C rfl 2 rfl dX12_question_23 ?_
      have f35 : (-2147483648 : Int) ≤ (w32 (12 * a2)) ∧ (w32 (12 * a2)) ≤ (2147483647 : Int) := w32_inR _
      refine g_imulW C dX12_question_24 ?_
      refine g_iload_n C rfl 1 rfl dX12_question_25 ?_
      have f36 : (-2147483648 : Int) ≤ (w32 ((w32 (12 * a2)) + a1)) ∧ (w32 ((w32 (12 * a2)) + a1)) ≤ (2147483647 : Int) := w32_inR _
      refine g_iaddW C dX12_question_26 ?_
      obtain ⟨v37, e38⟩ : ∃ z, Iv h5 v31 ((w32 ((w32 (12 * a2)) + a1)).toNat) = z := ⟨_, rfl⟩
      have f39 := ok_Ia O8 t33 ar_182101 rI_182101_0 e38
      refine g_zald C t33 rfl l34 (by omega) e38 dX12_question_27 ?_
      refine g_if_ne C (iw f39 (by decide) (by decide)) 42 (by decide) dX12_question_28 (fun q40 => ?_) (fun q41 => ?_)
      · have f42 : (1 : Int) ≤ v37 ∧ v37 ≤ (1 : Int) := r_nl f39 q40
        refine g_aload_n C rfl 0 rfl dX12_question_42 ?_
        refine gf_R C fk_LandSurveyModel_275 rfl e30 e32 dX12_question_43 ?_
        refine g_bipush C (by decide) dX12_question_46 ?_
        refine g_iload_n C rfl 2 rfl dX12_question_48 ?_
        refine g_imulW C dX12_question_49 ?_
        refine g_iload_n C rfl 1 rfl dX12_question_50 ?_
        refine g_iaddW C dX12_question_51 ?_
        refine g_iload_n C rfl 3 rfl dX12_question_52 ?_
        refine g_zast C t33 rfl l34 (by omega) (iw f29 (by decide) (by decide)) dX12_question_53 (fun h44 hh43 => ?_)
        have O45 := O8.pIa t33 ar_182101 hh43 rI_182101_0 (iw f29 (by decide) (by decide)) nofun
        refine g_iconst C dX12_question_54 ?_
        exact g_iret C hr (nar_z2 (iw (il 1) (by decide) (by decide))).1 (iw (il 1) (by decide) (by decide)) ⟨O45, ((((Fx.rf (wr := wr_k_X12_question)).pI ta0 hh1 rfl).call F9 rfl).pIa t33 ar_182101 hh43 rfl), (iw (il 1) (by decide) (by decide))⟩ (by decide) (by decide) dX12_question_55
      · have f46 : (0 : Int) ≤ v37 ∧ v37 ≤ (0 : Int) := ii f39 (r_eq (il 0) q41) (by decide) (by decide)
        refine g_aload_n C rfl 0 rfl dX12_question_31 ?_
        refine g_callI (st := []) (gc_V C lk_LandSurveyModel_612 (k_X12_asked l D cy w z0 O8 e30) e30 rfl rfl rfl ⟨by decide, by decide⟩ (Nat.le_of_ble_eq_true rfl) dX12_question_32 ⟨(by decide), (by decide)⟩) (fun r47 h48 f50 K49 => ?_)
        obtain ⟨O51, F52, f53⟩ := K49
        refine g_bipush C (by decide) dX12_question_35 ?_
        refine g_icmp_ne C f53 (iw (il 8) (by decide) (by decide)) 42 (by decide) dX12_question_37 (fun q54 => ?_) (fun q55 => ?_)
        · refine g_aload_n C rfl 0 rfl dX12_question_42 ?_
          have e56 : Tg h48 a0 = 12 := (fxT F52 e30)
          have e57 : Rv h48 a0 82 = v31 := ((fxR F52 e30 rfl).trans e32)
          refine gf_R C fk_LandSurveyModel_275 rfl e56 e57 dX12_question_43 ?_
          refine g_bipush C (by decide) dX12_question_46 ?_
          refine g_iload_n C rfl 2 rfl dX12_question_48 ?_
          refine g_imulW C dX12_question_49 ?_
          refine g_iload_n C rfl 1 rfl dX12_question_50 ?_
          refine g_iaddW C dX12_question_51 ?_
          refine g_iload_n C rfl 3 rfl dX12_question_52 ?_
          have e58 : Tg h48 v31 = 182101 := (fxT F52 t33)
          have e59 : Ln h48 v31 = 96 := ((fxL F52 t33).trans l34)
          refine g_zast C e58 rfl e59 (by omega) (iw f29 (by decide) (by decide)) dX12_question_53 (fun h61 hh60 => ?_)
          have O62 := O51.pIa e58 ar_182101 hh60 rI_182101_0 (iw f29 (by decide) (by decide)) nofun
          refine g_iconst C dX12_question_54 ?_
          exact g_iret C hr (nar_z2 (iw (il 1) (by decide) (by decide))).1 (iw (il 1) (by decide) (by decide)) ⟨O62, (((((Fx.rf (wr := wr_k_X12_question)).pI ta0 hh1 rfl).call F9 rfl).call F52 rfl).pIa e58 ar_182101 hh60 rfl), (iw (il 1) (by decide) (by decide))⟩ (by decide) (by decide) dX12_question_55
        · have f63 : (8 : Int) ≤ r47 ∧ r47 ≤ (8 : Int) := ii f53 (r_eq (il 8) q55) (by decide) (by decide)
          refine g_iconst C dX12_question_40 ?_
          exact g_iret C hr (nar_z2 (iw (il 0) (by decide) (by decide))).1 (iw (il 0) (by decide) (by decide)) ⟨O51, ((((Fx.rf (wr := wr_k_X12_question)).pI ta0 hh1 rfl).call F9 rfl).call F52 rfl), (iw (il 0) (by decide) (by decide))⟩ (by decide) (by decide) dX12_question_41
def wr_k_X12_place : List Nat := [2400, 2483, 36820000, 37020000]
set_option maxRecDepth 100000 in
set_option maxHeartbeats 4000000 in
theorem k_X12_place (l : Launch) (D : va_G) (cy : Nat → ClassId) (w : Nat → Nat) (z0 : Nat) {h : Hp} {a0 : Nat} {a1 : Int} {a2 : Int} {a3 : Int}  (O : Okh h) (ta0 : Tg h a0 = 12) (fa1 : (-2147483648) ≤ a1 ∧ a1 ≤ 2147483647) (fa2 : (-2147483648) ≤ a2 ∧ a2 ≤ 2147483647) (fa3 : (-2147483648) ≤ a3 ∧ a3 ≤ 2147483647) : MI l D cy w z0 yX12_place cX12_place 4 (some .int) 2 43 0 0 [.inr (.inr a0), .inl a1, .inl a2, .inl a3] h (fun v h1 => Okh h1 ∧ Fx wr_k_X12_place h h1 ∧ ((-2147483648) ≤ v ∧ v ≤ 2147483647)) := by
  refine hm_go (by decide +kernel) (Nat.le_of_ble_eq_true rfl) (fun p e s m below meth c C hr hn => ?_)
  refine g_aload_n C rfl 0 rfl dX12_place_0 ?_
  refine g_iconst C dX12_place_1 ?_
  refine gp_I C fk_LandSurveyModel_1 pk_LandSurveyModel_0 rfl ta0 (iw (il 0) (by decide) (by decide)) (nf_i _) dX12_place_2 (fun h2 hh1 => ?_)
  have O3 := O.pI ta0 hh1 rI_12_0 (iw (il 0) (by decide) (by decide)) nofun
  refine g_iload_n C rfl 1 rfl dX12_place_5 ?_
  refine g_iload_n C rfl 2 rfl dX12_place_6 ?_
  refine g_callI (st := []) (gc_S C lk_LandSurveyModel_419 (k_X12_isCell l D cy w z0 O3 fa1 fa2) rfl ⟨by decide, by decide⟩ (Nat.le_of_ble_eq_true rfl) dX12_place_7 ⟨(by decide), (by decide)⟩) (fun r4 h5 f7 K6 => ?_)
  obtain ⟨O8, F9, f10, p11⟩ := K6
  refine g_if_eq C (iw f10 (by decide) (by decide)) 32 (by decide) dX12_place_10 (fun q12 => ?_) (fun q13 => ?_)
  · have f14 : (0 : Int) ≤ r4 ∧ r4 ≤ (0 : Int) := ii f10 (r_eq (il 0) q12) (by decide) (by decide)
    refine g_iconst C dX12_place_32 ?_
    exact g_iret C hr rfl (iw (il (-1)) (by decide) (by decide)) ⟨O8, (((Fx.rf (wr := wr_k_X12_place)).pI ta0 hh1 rfl).call F9 rfl), (iw (il (-1)) (by decide) (by decide))⟩ (by decide) (by decide) dX12_place_33
  · have f15 : (1 : Int) ≤ r4 ∧ r4 ≤ (1 : Int) := r_nl f10 q13
    refine g_iload_n C rfl 3 rfl dX12_place_13 ?_
    refine g_iconst C dX12_place_14 ?_
    refine g_bipush C (by decide) dX12_place_15 ?_
    refine g_callI (st := []) (gc_S C lk_LandSurveyModel_415 (k_X12_within l D cy w z0 O8 fa3 (iw (il 1) (by decide) (by decide)) (iw (il 99) (by decide) (by decide))) rfl ⟨by decide, by decide⟩ (Nat.le_of_ble_eq_true rfl) dX12_place_17 ⟨(by decide), (by decide)⟩) (fun r16 h17 f19 K18 => ?_)
    obtain ⟨O20, F21, f22, p23⟩ := K18
    refine g_if_eq C (iw f22 (by decide) (by decide)) 32 (by decide) dX12_place_20 (fun q24 => ?_) (fun q25 => ?_)
    · have f26 : (0 : Int) ≤ r16 ∧ r16 ≤ (0 : Int) := ii f22 (r_eq (il 0) q24) (by decide) (by decide)
      refine g_iconst C dX12_place_32 ?_
      exact g_iret C hr rfl (iw (il (-1)) (by decide) (by decide)) ⟨O20, ((((Fx.rf (wr := wr_k_X12_place)).pI ta0 hh1 rfl).call F9 rfl).call F21 rfl), (iw (il (-1)) (by decide) (by decide))⟩ (by decide) (by decide) dX12_place_33
    · have f27 : (1 : Int) ≤ r16 ∧ r16 ≤ (1 : Int) := r_nl f22 q25
      refine g_aload_n C rfl 0 rfl dX12_place_23 ?_
      have e28 : Tg h17 a0 = 12 := (fxT F21 (fxT F9 ((pIT hh1).trans ta0)))
      obtain ⟨v29, e30⟩ : ∃ z, Iv h17 a0 83 = z := ⟨_, rfl⟩
      have f31 := ok_I O20 e28 rI_12_83 e30
      refine gf_I C fk_LandSurveyModel_615 rfl e28 e30 dX12_place_24 ?_
      refine g_bipush C (by decide) dX12_place_27 ?_
      refine g_icmp_ne C (iw f31 (by decide) (by decide)) (iw (il 8) (by decide) (by decide)) 34 (by decide) dX12_place_29 (fun q32 => ?_) (fun q33 => ?_)
      · have f34 : (0 : Int) ≤ v29 ∧ v29 ≤ (7 : Int) := r_nh f31 q32
        refine g_aload_n C rfl 0 rfl dX12_place_34 ?_
        obtain ⟨v35, e36⟩ : ∃ z, Rv h17 a0 84 = z := ⟨_, rfl⟩
        have t37 := ok_R O20 e28 rE_12_84 e36
        have l38 := ok_L O20 e28 rE_12_84 e36
        refine gf_R C fk_LandSurveyModel_278 rfl e28 e36 dX12_place_35 ?_
        refine g_aload_n C rfl 0 rfl dX12_place_38 ?_
        refine gf_I C fk_LandSurveyModel_615 rfl e28 e30 dX12_place_39 ?_
        refine g_bipush C (by decide) dX12_place_42 ?_
        refine g_iload_n C rfl 2 rfl dX12_place_44 ?_
        have f39 : (-2147483648 : Int) ≤ (w32 (12 * a2)) ∧ (w32 (12 * a2)) ≤ (2147483647 : Int) := w32_inR _
        refine g_imulW C dX12_place_45 ?_
        refine g_iload_n C rfl 1 rfl dX12_place_46 ?_
        have f40 : (-2147483648 : Int) ≤ (w32 ((w32 (12 * a2)) + a1)) ∧ (w32 ((w32 (12 * a2)) + a1)) ≤ (2147483647 : Int) := w32_inR _
        refine g_iaddW C dX12_place_47 ?_
        refine g_iast C t37 rfl l38 (ix f34 (by decide) (by decide)) f40 dX12_place_48 (fun h42 hh41 => ?_)
        have O43 := O20.pIa t37 ar_184100 hh41 rI_184100_0 (by omega) nofun
        refine g_aload_n C rfl 0 rfl dX12_place_49 ?_
        have e44 : Tg h42 a0 = 12 := ((pIT hh41).trans e28)
        obtain ⟨v45, e46⟩ : ∃ z, Rv h42 a0 85 = z := ⟨_, rfl⟩
        have t47 := ok_R O43 e44 rE_12_85 e46
        have l48 := ok_L O43 e44 rE_12_85 e46
        refine gf_R C fk_LandSurveyModel_281 rfl e44 e46 dX12_place_50 ?_
        refine g_aload_n C rfl 0 rfl dX12_place_53 ?_
        have e49 : Iv h42 a0 83 = v29 := ((pI_n hh41 (ne_tag e28 t37 (by decide))).trans e30)
        refine gf_I C fk_LandSurveyModel_615 rfl e44 e49 dX12_place_54 ?_
        refine g_iload_n C rfl 3 rfl dX12_place_57 ?_
        refine g_iast C t47 rfl l48 (ix f34 (by decide) (by decide)) fa3 dX12_place_58 (fun h51 hh50 => ?_)
        have O52 := O43.pIa t47 ar_185100 hh50 rI_185100_0 (by omega) nofun
        refine g_aload_n C rfl 0 rfl dX12_place_59 ?_
        refine g_dup C rfl dX12_place_60 ?_
        have e53 : Tg h51 a0 = 12 := ((pIT hh50).trans e44)
        have e54 : Iv h51 a0 83 = v29 := ((pI_n hh50 (ne_tag e44 t47 (by decide))).trans e49)
        refine gf_I C fk_LandSurveyModel_615 rfl e53 e54 dX12_place_61 ?_
        refine g_iconst C dX12_place_64 ?_
        have f55 : (1 : Int) ≤ (v29 + 1) ∧ (v29 + 1) ≤ (8 : Int) := ia_add f34 (il 1) (by decide) (by decide)
        refine g_iadd C dX12_place_65 ?_
        refine gp_I C fk_LandSurveyModel_615 pk_LandSurveyModel_83 rfl e53 (iw f55 (by decide) (by decide)) (nf_i _) dX12_place_66 (fun h57 hh56 => ?_)
        have O58 := O52.pI e53 hh56 rI_12_83 (iw f55 (by decide) (by decide)) nofun
        refine g_aload_n C rfl 0 rfl dX12_place_69 ?_
        have e59 : Tg h57 a0 = 12 := ((pIT hh56).trans e53)
        refine gf_I C fk_LandSurveyModel_615 rfl e59 (pI_e hh56) dX12_place_70 ?_
        refine g_iconst C dX12_place_73 ?_
        have f60 : (0 : Int) ≤ ((v29 + 1) - 1) ∧ ((v29 + 1) - 1) ≤ (7 : Int) := ia_sub f55 (il 1) (by decide) (by decide)
        refine g_isub C dX12_place_74 ?_
        exact g_iret C hr rfl (iw f60 (by decide) (by decide)) ⟨O58, (((((((Fx.rf (wr := wr_k_X12_place)).pI ta0 hh1 rfl).call F9 rfl).call F21 rfl).pIa t37 ar_184100 hh41 rfl).pIa t47 ar_185100 hh50 rfl).pI e53 hh56 rfl), (iw f60 (by decide) (by decide))⟩ (by decide) (by decide) dX12_place_75
      · have f61 : (8 : Int) ≤ v29 ∧ v29 ≤ (8 : Int) := ii f31 (r_eq (il 8) q33) (by decide) (by decide)
        refine g_iconst C dX12_place_32 ?_
        exact g_iret C hr rfl (iw (il (-1)) (by decide) (by decide)) ⟨O20, ((((Fx.rf (wr := wr_k_X12_place)).pI ta0 hh1 rfl).call F9 rfl).call F21 rfl), (iw (il (-1)) (by decide) (by decide))⟩ (by decide) (by decide) dX12_place_33
def wr_k_X12_isSet : List Nat := []
set_option maxRecDepth 100000 in
set_option maxHeartbeats 4000000 in
theorem k_X12_isSet (l : Launch) (D : va_G) (cy : Nat → ClassId) (w : Nat → Nat) (z0 : Nat) {h : Hp} {a0 : Nat} {a1 : Int}  (O : Okh h) (ta0 : Tg h a0 = 12) (fa1 : (-2147483648) ≤ a1 ∧ a1 ≤ 2147483647) : MI l D cy w z0 yX12_isSet cX12_isSet 2 (some .boolean) 0 0 0 0 [.inr (.inr a0), .inl a1] h (fun v h1 => Okh h1 ∧ Fx wr_k_X12_isSet h h1 ∧ (0 ≤ v ∧ v ≤ 1)) := by
  refine hm_go (by decide +kernel) (Nat.le_of_ble_eq_true rfl) (fun p e s m below meth c C hr hn => ?_)
  refine g_iload_n C rfl 1 rfl dX12_isSet_0 ?_
  refine g_if_lt C fa1 18 (by decide) dX12_isSet_1 (fun q1 => ?_) (fun q2 => ?_)
  · have f3 : (-2147483648 : Int) ≤ a1 ∧ a1 ≤ (-1 : Int) := r_lt fa1 (il 0) q1 (by decide) (by decide)
    refine g_iconst C dX12_isSet_18 ?_
    exact g_iret C hr (nar_z2 (iw (il 0) (by decide) (by decide))).1 (iw (il 0) (by decide) (by decide)) ⟨O, Fx.rf, (iw (il 0) (by decide) (by decide))⟩ (by decide) (by decide) dX12_isSet_19
  · have f4 : (0 : Int) ≤ a1 ∧ a1 ≤ (2147483647 : Int) := r_ge fa1 (il 0) q2 (by decide) (by decide)
    refine g_iload_n C rfl 1 rfl dX12_isSet_4 ?_
    refine g_iconst C dX12_isSet_5 ?_
    refine g_aload_n C rfl 0 rfl dX12_isSet_6 ?_
    obtain ⟨v5, e6⟩ : ∃ z, Iv h a0 57 = z := ⟨_, rfl⟩
    have f7 := ok_I O ta0 rI_12_57 e6
    refine gf_I C fk_LandSurveyModel_477 rfl ta0 e6 dX12_isSet_7 ?_
    refine g_ishl C dX12_isSet_10 ?_
    have f8 : (1 : Int) ≤ (bShl 1 v5) ∧ (bShl 1 v5) ≤ (16 : Int) := bShl_4 f7
    refine g_icmp_ge C (iw f4 (by decide) (by decide)) (iw f8 (by decide) (by decide)) 18 (by decide) dX12_isSet_11 (fun q9 => ?_) (fun q10 => ?_)
    · have f11 : (1 : Int) ≤ a1 ∧ a1 ≤ (2147483647 : Int) := r_ge f4 f8 q9 (by decide) (by decide)
      refine g_iconst C dX12_isSet_18 ?_
      exact g_iret C hr (nar_z2 (iw (il 0) (by decide) (by decide))).1 (iw (il 0) (by decide) (by decide)) ⟨O, Fx.rf, (iw (il 0) (by decide) (by decide))⟩ (by decide) (by decide) dX12_isSet_19
    · have f12 : (0 : Int) ≤ a1 ∧ a1 ≤ (15 : Int) := r_lt f4 f8 q10 (by decide) (by decide)
      refine g_iconst C dX12_isSet_14 ?_
      refine g_goto C 19 (by decide) dX12_isSet_15 ?_
      exact g_iret C hr (nar_z2 (iw (il 1) (by decide) (by decide))).1 (iw (il 1) (by decide) (by decide)) ⟨O, Fx.rf, (iw (il 1) (by decide) (by decide))⟩ (by decide) (by decide) dX12_isSet_19
def wr_k_X12_isOne : List Nat := []
set_option maxRecDepth 100000 in
set_option maxHeartbeats 4000000 in
theorem k_X12_isOne (l : Launch) (D : va_G) (cy : Nat → ClassId) (w : Nat → Nat) (z0 : Nat) {h : Hp} {a0 : Int}  (O : Okh h) (fa0 : (-2147483648) ≤ a0 ∧ a0 ≤ 2147483647) : MI l D cy w z0 yX12_isOne cX12_isOne 1 (some .boolean) 0 0 0 0 [.inl a0] h (fun v h1 => Okh h1 ∧ Fx wr_k_X12_isOne h h1 ∧ (0 ≤ v ∧ v ≤ 1)) := by
  refine hm_go (by decide +kernel) (Nat.le_of_ble_eq_true rfl) (fun p e s m below meth c C hr hn => ?_)
  refine g_iload_n C rfl 0 rfl dX12_isOne_0 ?_
  refine g_if_eq C fa0 16 (by decide) dX12_isOne_1 (fun q1 => ?_) (fun q2 => ?_)
  · have f3 : (0 : Int) ≤ a0 ∧ a0 ≤ (0 : Int) := ii fa0 (r_eq (il 0) q1) (by decide) (by decide)
    refine g_iconst C dX12_isOne_16 ?_
    exact g_iret C hr (nar_z2 (iw (il 0) (by decide) (by decide))).1 (iw (il 0) (by decide) (by decide)) ⟨O, Fx.rf, (iw (il 0) (by decide) (by decide))⟩ (by decide) (by decide) dX12_isOne_17
  · refine g_iload_n C rfl 0 rfl dX12_isOne_4 ?_
    refine g_iload_n C rfl 0 rfl dX12_isOne_5 ?_
    refine g_iconst C dX12_isOne_6 ?_
    have f4 : (-2147483648 : Int) ≤ (w32 (a0 - 1)) ∧ (w32 (a0 - 1)) ≤ (2147483647 : Int) := w32_inR _
    refine g_isubW C dX12_isOne_7 ?_
    refine g_iand C dX12_isOne_8 ?_
    have f5 : (-2147483648 : Int) ≤ (bAnd a0 (w32 (a0 - 1))) ∧ (bAnd a0 (w32 (a0 - 1))) ≤ (2147483647 : Int) := inR_of _
    refine g_if_ne C f5 16 (by decide) dX12_isOne_9 (fun q6 => ?_) (fun q7 => ?_)
    · refine g_iconst C dX12_isOne_16 ?_
      exact g_iret C hr (nar_z2 (iw (il 0) (by decide) (by decide))).1 (iw (il 0) (by decide) (by decide)) ⟨O, Fx.rf, (iw (il 0) (by decide) (by decide))⟩ (by decide) (by decide) dX12_isOne_17
    · have f8 : (0 : Int) ≤ (bAnd a0 (w32 (a0 - 1))) ∧ (bAnd a0 (w32 (a0 - 1))) ≤ (0 : Int) := ii f5 (r_eq (il 0) q7) (by decide) (by decide)
      refine g_iconst C dX12_isOne_12 ?_
      refine g_goto C 17 (by decide) dX12_isOne_13 ?_
      exact g_iret C hr (nar_z2 (iw (il 1) (by decide) (by decide))).1 (iw (il 1) (by decide) (by decide)) ⟨O, Fx.rf, (iw (il 1) (by decide) (by decide))⟩ (by decide) (by decide) dX12_isOne_17
def wr_k_X12_halfDown : List Nat := []
set_option maxRecDepth 100000 in
set_option maxHeartbeats 4000000 in
theorem k_X12_halfDown (l : Launch) (D : va_G) (cy : Nat → ClassId) (w : Nat → Nat) (z0 : Nat) {h : Hp} {a0 : Int}  (O : Okh h) (fa0 : (-2147483648) ≤ a0 ∧ a0 ≤ 2147483647) : MI l D cy w z0 yX12_halfDown cX12_halfDown 1 (some .int) 0 0 0 0 [.inl a0] h (fun v h1 => Okh h1 ∧ Fx wr_k_X12_halfDown h h1 ∧ ((-2147483648) ≤ v ∧ v ≤ 2147483647)) := by
  refine hm_go (by decide +kernel) (Nat.le_of_ble_eq_true rfl) (fun p e s m below meth c C hr hn => ?_)
  refine g_iload_n C rfl 0 rfl dX12_halfDown_0 ?_
  refine g_if_ge C fa0 18 (by decide) dX12_halfDown_1 (fun q1 => ?_) (fun q2 => ?_)
  · have f3 : (0 : Int) ≤ a0 ∧ a0 ≤ (2147483647 : Int) := r_ge fa0 (il 0) q1 (by decide) (by decide)
    refine g_iload_n C rfl 0 rfl dX12_halfDown_18 ?_
    refine g_iconst C dX12_halfDown_19 ?_
    refine g_idivE (k := 2) C f3 (by decide) (by decide) dX12_halfDown_20 ?_
    have f4 : (0 : Int) ≤ (a0 / 2) ∧ (a0 / 2) ≤ (1073741823 : Int) := iv_div (by decide) f3 (by decide) (by decide)
    exact g_iret C hr rfl (iw f4 (by decide) (by decide)) ⟨O, Fx.rf, (iw f4 (by decide) (by decide))⟩ (by decide) (by decide) dX12_halfDown_21
  · have f5 : (-2147483648 : Int) ≤ a0 ∧ a0 ≤ (-1 : Int) := r_lt fa0 (il 0) q2 (by decide) (by decide)
    refine g_iload_n C rfl 0 rfl dX12_halfDown_4 ?_
    refine g_iconst C dX12_halfDown_5 ?_
    refine g_irem C (iw (il 2) (by decide) (by decide)) (by decide) dX12_halfDown_6 ?_
    have f6 : (-2147483648 : Int) ≤ (iM a0 2) ∧ (iM a0 2) ≤ (2147483647 : Int) := inR_of _
    refine g_if_eq C f6 18 (by decide) dX12_halfDown_7 (fun q7 => ?_) (fun q8 => ?_)
    · have f9 : (0 : Int) ≤ (iM a0 2) ∧ (iM a0 2) ≤ (0 : Int) := ii f6 (r_eq (il 0) q7) (by decide) (by decide)
      refine g_iload_n C rfl 0 rfl dX12_halfDown_18 ?_
      refine g_iconst C dX12_halfDown_19 ?_
      refine g_idiv C (iw (il 2) (by decide) (by decide)) (by decide) dX12_halfDown_20 ?_
      have f10 : (-2147483648 : Int) ≤ (iD a0 2) ∧ (iD a0 2) ≤ (2147483647 : Int) := inR_of _
      exact g_iret C hr rfl f10 ⟨O, Fx.rf, f10⟩ (by decide) (by decide) dX12_halfDown_21
    · refine g_iload_n C rfl 0 rfl dX12_halfDown_10 ?_
      refine g_iconst C dX12_halfDown_11 ?_
      refine g_idiv C (iw (il 2) (by decide) (by decide)) (by decide) dX12_halfDown_12 ?_
      have f11 : (-2147483648 : Int) ≤ (iD a0 2) ∧ (iD a0 2) ≤ (2147483647 : Int) := inR_of _
      refine g_iconst C dX12_halfDown_13 ?_
      have f12 : (-2147483648 : Int) ≤ (w32 ((iD a0 2) - 1)) ∧ (w32 ((iD a0 2) - 1)) ≤ (2147483647 : Int) := w32_inR _
      refine g_isubW C dX12_halfDown_14 ?_
      refine g_goto C 21 (by decide) dX12_halfDown_15 ?_
      exact g_iret C hr rfl f12 ⟨O, Fx.rf, f12⟩ (by decide) (by decide) dX12_halfDown_21
def wr_k_X12_isIn : List Nat := []
set_option maxRecDepth 100000 in
set_option maxHeartbeats 4000000 in
theorem k_X12_isIn (l : Launch) (D : va_G) (cy : Nat → ClassId) (w : Nat → Nat) (z0 : Nat) {h : Hp} {a0 : Int} {a1 : Int}  (O : Okh h) (fa0 : (-9223372036854775808) ≤ a0 ∧ a0 ≤ 9223372036854775807) (fa1 : (-2147483648) ≤ a1 ∧ a1 ≤ 2147483647) : MI l D cy w z0 yX12_isIn cX12_isIn 3 (some .boolean) 0 0 0 0 [.inr (.inl a0), .inl a1] h (fun v h1 => Okh h1 ∧ Fx wr_k_X12_isIn h h1 ∧ (0 ≤ v ∧ v ≤ 1)) := by
  refine hm_go (by decide +kernel) (Nat.le_of_ble_eq_true rfl) (fun p e s m below meth c C hr hn => ?_)
  refine g_lload_n C rfl 0 rfl dX12_isIn_0 ?_
  refine g_iload_n C rfl 1 rfl dX12_isIn_1 ?_
  refine g_lshr C dX12_isIn_2 ?_
  have f1 : (-9223372036854775808 : Int) ≤ (lShr a0 a1) ∧ (lShr a0 a1) ≤ (9223372036854775807 : Int) := inL_of _
  refine g_lconst (z := 1) C (by decide) dX12_isIn_3 ?_
  refine g_land C dX12_isIn_4 ?_
  have f2 : (-9223372036854775808 : Int) ≤ (lAnd (lShr a0 a1) 1) ∧ (lAnd (lShr a0 a1) 1) ≤ (9223372036854775807 : Int) := inL_of _
  refine g_lconst (z := 1) C (by decide) dX12_isIn_5 ?_
  refine g_lcmp C f2 (iw (il 1) (by decide) (by decide)) dX12_isIn_6 ?_
  have f3 : (-1 : Int) ≤ (lC (lAnd (lShr a0 a1) 1) 1) ∧ (lC (lAnd (lShr a0 a1) 1) 1) ≤ (1 : Int) := lC_rng _ _
  refine g_if_ne C (iw f3 (by decide) (by decide)) 14 (by decide) dX12_isIn_7 (fun q4 => ?_) (fun q5 => ?_)
  · have q6 : ¬ (lAnd (lShr a0 a1) 1) = (1 : Int) := fun z => q4 (lC_eq.mpr z)
    refine g_iconst C dX12_isIn_14 ?_
    exact g_iret C hr (nar_z2 (iw (il 0) (by decide) (by decide))).1 (iw (il 0) (by decide) (by decide)) ⟨O, Fx.rf, (iw (il 0) (by decide) (by decide))⟩ (by decide) (by decide) dX12_isIn_15
  · have q7 : (lAnd (lShr a0 a1) 1) = (1 : Int) := lC_eq.mp q5
    have f8 : (1 : Int) ≤ (lAnd (lShr a0 a1) 1) ∧ (lAnd (lShr a0 a1) 1) ≤ (1 : Int) := ii f2 (r_eq (il 1) q7) (by decide) (by decide)
    refine g_iconst C dX12_isIn_10 ?_
    refine g_goto C 15 (by decide) dX12_isIn_11 ?_
    exact g_iret C hr (nar_z2 (iw (il 1) (by decide) (by decide))).1 (iw (il 1) (by decide) (by decide)) ⟨O, Fx.rf, (iw (il 1) (by decide) (by decide))⟩ (by decide) (by decide) dX12_isIn_15
def wr_k_X12_isDouble : List Nat := []
set_option maxRecDepth 100000 in
set_option maxHeartbeats 4000000 in
theorem k_X12_isDouble (l : Launch) (D : va_G) (cy : Nat → ClassId) (w : Nat → Nat) (z0 : Nat) {h : Hp} {a0 : Nat} {a1 : Int} {a2 : Int}  (O : Okh h) (ta0 : Tg h a0 = 12) (fa1 : (-2147483648) ≤ a1 ∧ a1 ≤ 2147483647) (fa2 : (-2147483648) ≤ a2 ∧ a2 ≤ 2147483647) : MI l D cy w z0 yX12_isDouble cX12_isDouble 3 (some .boolean) 0 0 0 0 [.inr (.inr a0), .inl a1, .inl a2] h (fun v h1 => Okh h1 ∧ Fx wr_k_X12_isDouble h h1 ∧ (0 ≤ v ∧ v ≤ 1)) := by
  refine hm_go (by decide +kernel) (Nat.le_of_ble_eq_true rfl) (fun p e s m below meth c C hr hn => ?_)
  refine g_aload_n C rfl 0 rfl dX12_isDouble_0 ?_
  obtain ⟨v1, e2⟩ : ∃ z, Rv h a0 53 = z := ⟨_, rfl⟩
  have t3 := ok_R O ta0 rE_12_53 e2
  have l4 := ok_L O ta0 rE_12_53 e2
  refine gf_R C fk_LandSurveyModel_209 rfl ta0 e2 dX12_isDouble_1 ?_
  refine g_iload_n C rfl 1 rfl dX12_isDouble_4 ?_
  obtain ⟨v5, e6⟩ : ∃ z, Iv h v1 a1.toNat = z := ⟨_, rfl⟩
  have f7 := ok_Ia O t3 ar_153101 rI_153101_0 e6
  refine g_zald C t3 rfl l4 (by omega) e6 dX12_isDouble_5 ?_
  refine g_if_eq C (iw f7 (by decide) (by decide)) 52 (by decide) dX12_isDouble_6 (fun q8 => ?_) (fun q9 => ?_)
  · have f10 : (0 : Int) ≤ v5 ∧ v5 ≤ (0 : Int) := ii f7 (r_eq (il 0) q8) (by decide) (by decide)
    refine g_iconst C dX12_isDouble_52 ?_
    exact g_iret C hr (nar_z2 (iw (il 0) (by decide) (by decide))).1 (iw (il 0) (by decide) (by decide)) ⟨O, Fx.rf, (iw (il 0) (by decide) (by decide))⟩ (by decide) (by decide) dX12_isDouble_53
  · have f11 : (1 : Int) ≤ v5 ∧ v5 ≤ (1 : Int) := r_nl f7 q9
    refine g_aload_n C rfl 0 rfl dX12_isDouble_9 ?_
    refine gf_R C fk_LandSurveyModel_209 rfl ta0 e2 dX12_isDouble_10 ?_
    refine g_iload_n C rfl 2 rfl dX12_isDouble_13 ?_
    obtain ⟨v12, e13⟩ : ∃ z, Iv h v1 a2.toNat = z := ⟨_, rfl⟩
    have f14 := ok_Ia O t3 ar_153101 rI_153101_0 e13
    refine g_zald C t3 rfl l4 (by omega) e13 dX12_isDouble_14 ?_
    refine g_if_eq C (iw f14 (by decide) (by decide)) 52 (by decide) dX12_isDouble_15 (fun q15 => ?_) (fun q16 => ?_)
    · have f17 : (0 : Int) ≤ v12 ∧ v12 ≤ (0 : Int) := ii f14 (r_eq (il 0) q15) (by decide) (by decide)
      refine g_iconst C dX12_isDouble_52 ?_
      exact g_iret C hr (nar_z2 (iw (il 0) (by decide) (by decide))).1 (iw (il 0) (by decide) (by decide)) ⟨O, Fx.rf, (iw (il 0) (by decide) (by decide))⟩ (by decide) (by decide) dX12_isDouble_53
    · have f18 : (1 : Int) ≤ v12 ∧ v12 ≤ (1 : Int) := r_nl f14 q16
      refine g_aload_n C rfl 0 rfl dX12_isDouble_18 ?_
      obtain ⟨v19, e20⟩ : ∃ z, Rv h a0 42 = z := ⟨_, rfl⟩
      have t21 := ok_R O ta0 rE_12_42 e20
      have l22 := ok_L O ta0 rE_12_42 e20
      refine gf_R C fk_LandSurveyModel_176 rfl ta0 e20 dX12_isDouble_19 ?_
      refine g_iload_n C rfl 1 rfl dX12_isDouble_22 ?_
      obtain ⟨v23, e24⟩ : ∃ z, Iv h v19 a1.toNat = z := ⟨_, rfl⟩
      have f25 := ok_Ia O t21 ar_142100 rI_142100_0 e24
      refine g_iald C t21 rfl l22 (by omega) e24 dX12_isDouble_23 ?_
      refine g_aload_n C rfl 0 rfl dX12_isDouble_24 ?_
      refine gf_R C fk_LandSurveyModel_176 rfl ta0 e20 dX12_isDouble_25 ?_
      refine g_iload_n C rfl 2 rfl dX12_isDouble_28 ?_
      obtain ⟨v26, e27⟩ : ∃ z, Iv h v19 a2.toNat = z := ⟨_, rfl⟩
      have f28 := ok_Ia O t21 ar_142100 rI_142100_0 e27
      refine g_iald C t21 rfl l22 (by omega) e27 dX12_isDouble_29 ?_
      refine g_icmp_ne C (iw f25 (by decide) (by decide)) (iw f28 (by decide) (by decide)) 52 (by decide) dX12_isDouble_30 (fun q29 => ?_) (fun q30 => ?_)
      · refine g_iconst C dX12_isDouble_52 ?_
        exact g_iret C hr (nar_z2 (iw (il 0) (by decide) (by decide))).1 (iw (il 0) (by decide) (by decide)) ⟨O, Fx.rf, (iw (il 0) (by decide) (by decide))⟩ (by decide) (by decide) dX12_isDouble_53
      · refine g_aload_n C rfl 0 rfl dX12_isDouble_33 ?_
        obtain ⟨v31, e32⟩ : ∃ z, Rv h a0 43 = z := ⟨_, rfl⟩
        have t33 := ok_R O ta0 rE_12_43 e32
        have l34 := ok_L O ta0 rE_12_43 e32
        refine gf_R C fk_LandSurveyModel_179 rfl ta0 e32 dX12_isDouble_34 ?_
        refine g_iload_n C rfl 1 rfl dX12_isDouble_37 ?_
        obtain ⟨v35, e36⟩ : ∃ z, Iv h v31 a1.toNat = z := ⟨_, rfl⟩
        have f37 := ok_Ia O t33 ar_143100 rI_143100_0 e36
        refine g_iald C t33 rfl l34 (by omega) e36 dX12_isDouble_38 ?_
        refine g_aload_n C rfl 0 rfl dX12_isDouble_39 ?_
        refine gf_R C fk_LandSurveyModel_179 rfl ta0 e32 dX12_isDouble_40 ?_
        refine g_iload_n C rfl 2 rfl dX12_isDouble_43 ?_
        obtain ⟨v38, e39⟩ : ∃ z, Iv h v31 a2.toNat = z := ⟨_, rfl⟩
        have f40 := ok_Ia O t33 ar_143100 rI_143100_0 e39
        refine g_iald C t33 rfl l34 (by omega) e39 dX12_isDouble_44 ?_
        refine g_icmp_ne C (iw f37 (by decide) (by decide)) (iw f40 (by decide) (by decide)) 52 (by decide) dX12_isDouble_45 (fun q41 => ?_) (fun q42 => ?_)
        · refine g_iconst C dX12_isDouble_52 ?_
          exact g_iret C hr (nar_z2 (iw (il 0) (by decide) (by decide))).1 (iw (il 0) (by decide) (by decide)) ⟨O, Fx.rf, (iw (il 0) (by decide) (by decide))⟩ (by decide) (by decide) dX12_isDouble_53
        · refine g_iconst C dX12_isDouble_48 ?_
          refine g_goto C 53 (by decide) dX12_isDouble_49 ?_
          exact g_iret C hr (nar_z2 (iw (il 1) (by decide) (by decide))).1 (iw (il 1) (by decide) (by decide)) ⟨O, Fx.rf, (iw (il 1) (by decide) (by decide))⟩ (by decide) (by decide) dX12_isDouble_53
