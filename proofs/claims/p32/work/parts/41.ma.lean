abbrev cX12_isLetter : ByteArray := prog_14_method_5_code
def yX12_isLetter : MethodName := ⟨RX12, "isLetter", "(I)Z"⟩
theorem okX12_isLetter : yok yX12_isLetter 1 := by decide +kernel
theorem dX12_isLetter_0 : decode cX12_isLetter 0 = .ok (.iload_n 0, 1) := by decide +kernel
theorem dX12_isLetter_1 : decode cX12_isLetter 1 = .ok (.bipush 97, 2) := by decide +kernel
theorem dX12_isLetter_3 : decode cX12_isLetter 3 = .ok (.if_icmp .lt 13, 3) := by decide +kernel
theorem dX12_isLetter_16 : decode cX12_isLetter 16 = .ok (.iconst 0, 1) := by decide +kernel
theorem dX12_isLetter_17 : decode cX12_isLetter 17 = .ok (.ireturn, 1) := by decide +kernel
theorem dX12_isLetter_6 : decode cX12_isLetter 6 = .ok (.iload_n 0, 1) := by decide +kernel
theorem dX12_isLetter_7 : decode cX12_isLetter 7 = .ok (.bipush 122, 2) := by decide +kernel
theorem dX12_isLetter_9 : decode cX12_isLetter 9 = .ok (.if_icmp .gt 7, 3) := by decide +kernel
theorem dX12_isLetter_12 : decode cX12_isLetter 12 = .ok (.iconst 1, 1) := by decide +kernel
theorem dX12_isLetter_13 : decode cX12_isLetter 13 = .ok (.goto 4, 3) := by decide +kernel
abbrev cX12_isDigit : ByteArray := prog_14_method_6_code
def yX12_isDigit : MethodName := ⟨RX12, "isDigit", "(I)Z"⟩
theorem okX12_isDigit : yok yX12_isDigit 1 := by decide +kernel
theorem dX12_isDigit_0 : decode cX12_isDigit 0 = .ok (.iload_n 0, 1) := by decide +kernel
theorem dX12_isDigit_1 : decode cX12_isDigit 1 = .ok (.bipush 48, 2) := by decide +kernel
theorem dX12_isDigit_3 : decode cX12_isDigit 3 = .ok (.if_icmp .lt 13, 3) := by decide +kernel
theorem dX12_isDigit_16 : decode cX12_isDigit 16 = .ok (.iconst 0, 1) := by decide +kernel
theorem dX12_isDigit_17 : decode cX12_isDigit 17 = .ok (.ireturn, 1) := by decide +kernel
theorem dX12_isDigit_6 : decode cX12_isDigit 6 = .ok (.iload_n 0, 1) := by decide +kernel
theorem dX12_isDigit_7 : decode cX12_isDigit 7 = .ok (.bipush 57, 2) := by decide +kernel
theorem dX12_isDigit_9 : decode cX12_isDigit 9 = .ok (.if_icmp .gt 7, 3) := by decide +kernel
theorem dX12_isDigit_12 : decode cX12_isDigit 12 = .ok (.iconst 1, 1) := by decide +kernel
theorem dX12_isDigit_13 : decode cX12_isDigit 13 = .ok (.goto 4, 3) := by decide +kernel
abbrev cX12_rank : ByteArray := prog_14_method_7_code
def yX12_rank : MethodName := ⟨RX12, "rank", "(I)I"⟩
theorem okX12_rank : yok yX12_rank 1 := by decide +kernel
theorem dX12_rank_0 : decode cX12_rank 0 = .ok (.iload_n 0, 1) := by decide +kernel
theorem dX12_rank_1 : decode cX12_rank 1 = .ok (.invokestatic 294, 3) := by decide +kernel
theorem kw_1778 : Cond.code yX12_isLetter prog_14_method_5_code 1 (some .boolean) ∈ uu := uu_in (i := 1778) (by decide +kernel) (by decide +kernel)
theorem kw_152 : Cond.initialized "LandSurveyModel" ∈ uu := uu_in (i := 152) (by decide +kernel) (by decide +kernel)
theorem kw_1776 : Cond.methodLink "LandSurveyModel" 294 yX12_isLetter ∈ uu := uu_in (i := 1776) (by decide +kernel) (by decide +kernel)
theorem kw_1777 : Cond.static yX12_isLetter ∈ uu := uu_in (i := 1777) (by decide +kernel) (by decide +kernel)
theorem lk_LandSurveyModel_294 : lkS "LandSurveyModel" 294 yX12_isLetter cX12_isLetter 1 (some .boolean) 1 := ⟨kw_1776, kw_1777, kw_152, kw_1778, okX12_isLetter⟩
theorem dX12_rank_4 : decode cX12_rank 4 = .ok (.ifCond .eq 10, 3) := by decide +kernel
theorem dX12_rank_14 : decode cX12_rank 14 = .ok (.iload_n 0, 1) := by decide +kernel
theorem dX12_rank_15 : decode cX12_rank 15 = .ok (.bipush 21, 2) := by decide +kernel
theorem dX12_rank_17 : decode cX12_rank 17 = .ok (.isub, 1) := by decide +kernel
theorem dX12_rank_18 : decode cX12_rank 18 = .ok (.ireturn, 1) := by decide +kernel
theorem dX12_rank_7 : decode cX12_rank 7 = .ok (.iload_n 0, 1) := by decide +kernel
theorem dX12_rank_8 : decode cX12_rank 8 = .ok (.bipush 96, 2) := by decide +kernel
theorem dX12_rank_10 : decode cX12_rank 10 = .ok (.isub, 1) := by decide +kernel
theorem dX12_rank_11 : decode cX12_rank 11 = .ok (.goto 7, 3) := by decide +kernel
abbrev cX12_isSignOf : ByteArray := prog_14_method_8_code
def yX12_isSignOf : MethodName := ⟨RX12, "isSignOf", "(I)Z"⟩
theorem okX12_isSignOf : yok yX12_isSignOf 1 := by decide +kernel
theorem dX12_isSignOf_0 : decode cX12_isSignOf 0 = .ok (.iload_n 0, 1) := by decide +kernel
theorem dX12_isSignOf_1 : decode cX12_isSignOf 1 = .ok (.bipush 40, 2) := by decide +kernel
theorem dX12_isSignOf_3 : decode cX12_isSignOf 3 = .ok (.if_icmp .eq 39, 3) := by decide +kernel
theorem dX12_isSignOf_42 : decode cX12_isSignOf 42 = .ok (.iconst 1, 1) := by decide +kernel
theorem dX12_isSignOf_43 : decode cX12_isSignOf 43 = .ok (.goto 4, 3) := by decide +kernel
theorem dX12_isSignOf_47 : decode cX12_isSignOf 47 = .ok (.ireturn, 1) := by decide +kernel
theorem dX12_isSignOf_6 : decode cX12_isSignOf 6 = .ok (.iload_n 0, 1) := by decide +kernel
theorem dX12_isSignOf_7 : decode cX12_isSignOf 7 = .ok (.bipush 41, 2) := by decide +kernel
theorem dX12_isSignOf_9 : decode cX12_isSignOf 9 = .ok (.if_icmp .eq 33, 3) := by decide +kernel
theorem dX12_isSignOf_12 : decode cX12_isSignOf 12 = .ok (.iload_n 0, 1) := by decide +kernel
theorem dX12_isSignOf_13 : decode cX12_isSignOf 13 = .ok (.bipush 59, 2) := by decide +kernel
theorem dX12_isSignOf_15 : decode cX12_isSignOf 15 = .ok (.if_icmp .eq 27, 3) := by decide +kernel
theorem dX12_isSignOf_18 : decode cX12_isSignOf 18 = .ok (.iload_n 0, 1) := by decide +kernel
theorem dX12_isSignOf_19 : decode cX12_isSignOf 19 = .ok (.bipush 61, 2) := by decide +kernel
theorem dX12_isSignOf_21 : decode cX12_isSignOf 21 = .ok (.if_icmp .eq 21, 3) := by decide +kernel
theorem dX12_isSignOf_24 : decode cX12_isSignOf 24 = .ok (.iload_n 0, 1) := by decide +kernel
theorem dX12_isSignOf_25 : decode cX12_isSignOf 25 = .ok (.bipush 60, 2) := by decide +kernel
theorem dX12_isSignOf_27 : decode cX12_isSignOf 27 = .ok (.if_icmp .eq 15, 3) := by decide +kernel
theorem dX12_isSignOf_30 : decode cX12_isSignOf 30 = .ok (.iload_n 0, 1) := by decide +kernel
theorem dX12_isSignOf_31 : decode cX12_isSignOf 31 = .ok (.bipush 43, 2) := by decide +kernel
theorem dX12_isSignOf_33 : decode cX12_isSignOf 33 = .ok (.if_icmp .eq 9, 3) := by decide +kernel
theorem dX12_isSignOf_36 : decode cX12_isSignOf 36 = .ok (.iload_n 0, 1) := by decide +kernel
theorem dX12_isSignOf_37 : decode cX12_isSignOf 37 = .ok (.bipush 45, 2) := by decide +kernel
theorem dX12_isSignOf_39 : decode cX12_isSignOf 39 = .ok (.if_icmp .ne 7, 3) := by decide +kernel
theorem dX12_isSignOf_46 : decode cX12_isSignOf 46 = .ok (.iconst 0, 1) := by decide +kernel
abbrev cX12_within : ByteArray := prog_14_method_36_code
def yX12_within : MethodName := ⟨RX12, "within", "(III)Z"⟩
theorem okX12_within : yok yX12_within 3 := by decide +kernel
theorem dX12_within_0 : decode cX12_within 0 = .ok (.iload_n 0, 1) := by decide +kernel
theorem dX12_within_1 : decode cX12_within 1 = .ok (.iload_n 1, 1) := by decide +kernel
theorem dX12_within_2 : decode cX12_within 2 = .ok (.if_icmp .lt 12, 3) := by decide +kernel
theorem dX12_within_14 : decode cX12_within 14 = .ok (.iconst 0, 1) := by decide +kernel
theorem dX12_within_15 : decode cX12_within 15 = .ok (.ireturn, 1) := by decide +kernel
theorem dX12_within_5 : decode cX12_within 5 = .ok (.iload_n 0, 1) := by decide +kernel
theorem dX12_within_6 : decode cX12_within 6 = .ok (.iload_n 2, 1) := by decide +kernel
theorem dX12_within_7 : decode cX12_within 7 = .ok (.if_icmp .gt 7, 3) := by decide +kernel
theorem dX12_within_10 : decode cX12_within 10 = .ok (.iconst 1, 1) := by decide +kernel
theorem dX12_within_11 : decode cX12_within 11 = .ok (.goto 4, 3) := by decide +kernel
abbrev cX12_isCell : ByteArray := prog_14_method_37_code
def yX12_isCell : MethodName := ⟨RX12, "isCell", "(II)Z"⟩
theorem okX12_isCell : yok yX12_isCell 2 := by decide +kernel
theorem dX12_isCell_0 : decode cX12_isCell 0 = .ok (.iload_n 0, 1) := by decide +kernel
theorem dX12_isCell_1 : decode cX12_isCell 1 = .ok (.iconst 0, 1) := by decide +kernel
theorem dX12_isCell_2 : decode cX12_isCell 2 = .ok (.bipush 11, 2) := by decide +kernel
theorem dX12_isCell_4 : decode cX12_isCell 4 = .ok (.invokestatic 415, 3) := by decide +kernel
theorem kw_1890 : Cond.code yX12_within prog_14_method_36_code 3 (some .boolean) ∈ uu := uu_in (i := 1890) (by decide +kernel) (by decide +kernel)
theorem kw_1888 : Cond.methodLink "LandSurveyModel" 415 yX12_within ∈ uu := uu_in (i := 1888) (by decide +kernel) (by decide +kernel)
theorem kw_1889 : Cond.static yX12_within ∈ uu := uu_in (i := 1889) (by decide +kernel) (by decide +kernel)
theorem lk_LandSurveyModel_415 : lkS "LandSurveyModel" 415 yX12_within cX12_within 3 (some .boolean) 3 := ⟨kw_1888, kw_1889, kw_152, kw_1890, okX12_within⟩
theorem dX12_isCell_7 : decode cX12_isCell 7 = .ok (.ifCond .eq 17, 3) := by decide +kernel
theorem dX12_isCell_24 : decode cX12_isCell 24 = .ok (.iconst 0, 1) := by decide +kernel
theorem dX12_isCell_25 : decode cX12_isCell 25 = .ok (.ireturn, 1) := by decide +kernel
theorem dX12_isCell_10 : decode cX12_isCell 10 = .ok (.iload_n 1, 1) := by decide +kernel
theorem dX12_isCell_11 : decode cX12_isCell 11 = .ok (.iconst 0, 1) := by decide +kernel
theorem dX12_isCell_12 : decode cX12_isCell 12 = .ok (.bipush 7, 2) := by decide +kernel
theorem dX12_isCell_14 : decode cX12_isCell 14 = .ok (.invokestatic 415, 3) := by decide +kernel
theorem dX12_isCell_17 : decode cX12_isCell 17 = .ok (.ifCond .eq 7, 3) := by decide +kernel
theorem dX12_isCell_20 : decode cX12_isCell 20 = .ok (.iconst 1, 1) := by decide +kernel
theorem dX12_isCell_21 : decode cX12_isCell 21 = .ok (.goto 4, 3) := by decide +kernel
abbrev cX12_lay : ByteArray := prog_14_method_3_code
def yX12_lay : MethodName := ⟨RX12, "lay", "(J)V"⟩
theorem okX12_lay : yok yX12_lay 1 := by decide +kernel
theorem kw_1508 : Cond.fieldLink "LandSurveyModel" 11 "LandSurveyModel" "taped" "I" ∈ uu := uu_in (i := 1508) (by decide +kernel) (by decide +kernel)
theorem fk_LandSurveyModel_11 : fkI "LandSurveyModel" 11 11 2 RX12 TX12 87 := ⟨rfl, rfl, inX12, by decide, kw_1508, by decide⟩
theorem dX12_lay_0 : decode cX12_lay 0 = .ok (.bipush 56, 2) := by decide +kernel
theorem dX12_lay_2 : decode cX12_lay 2 = .ok (.istore_n 3, 1) := by decide +kernel
theorem dX12_lay_3 : decode cX12_lay 3 = .ok (.iload_n 3, 1) := by decide +kernel
theorem dX12_lay_4 : decode cX12_lay 4 = .ok (.ifCond .lt 71, 3) := by decide +kernel
theorem dX12_lay_75 : decode cX12_lay 75 = .ok (.return_, 1) := by decide +kernel
theorem dX12_lay_7 : decode cX12_lay 7 = .ok (.lload_n 1, 1) := by decide +kernel
theorem dX12_lay_8 : decode cX12_lay 8 = .ok (.iload_n 3, 1) := by decide +kernel
theorem dX12_lay_9 : decode cX12_lay 9 = .ok (.lshr, 1) := by decide +kernel
theorem dX12_lay_10 : decode cX12_lay 10 = .ok (.l2i, 1) := by decide +kernel
theorem dX12_lay_11 : decode cX12_lay 11 = .ok (.sipush 255, 3) := by decide +kernel
theorem dX12_lay_14 : decode cX12_lay 14 = .ok (.iand, 1) := by decide +kernel
theorem dX12_lay_15 : decode cX12_lay 15 = .ok (.istore 4, 2) := by decide +kernel
theorem dX12_lay_17 : decode cX12_lay 17 = .ok (.iload 4, 2) := by decide +kernel
theorem dX12_lay_19 : decode cX12_lay 19 = .ok (.bipush 10, 2) := by decide +kernel
theorem dX12_lay_21 : decode cX12_lay 21 = .ok (.if_icmp .eq 17, 3) := by decide +kernel
theorem dX12_lay_38 : decode cX12_lay 38 = .ok (.aload_n 0, 1) := by decide +kernel
theorem dX12_lay_39 : decode cX12_lay 39 = .ok (.getfield 11, 3) := by decide +kernel
theorem dX12_lay_42 : decode cX12_lay 42 = .ok (.sipush 1500, 3) := by decide +kernel
theorem dX12_lay_45 : decode cX12_lay 45 = .ok (.if_icmp .ge 24, 3) := by decide +kernel
theorem dX12_lay_69 : decode cX12_lay 69 = .ok (.iinc 3 (-8), 3) := by decide +kernel
theorem dX12_lay_72 : decode cX12_lay 72 = .ok (.goto (-69), 3) := by decide +kernel
theorem dX12_lay_48 : decode cX12_lay 48 = .ok (.aload_n 0, 1) := by decide +kernel
theorem dX12_lay_49 : decode cX12_lay 49 = .ok (.getfield 14, 3) := by decide +kernel
theorem kw_1507 : Cond.fieldLink "LandSurveyModel" 14 "LandSurveyModel" "tape" "[I" ∈ uu := uu_in (i := 1507) (by decide +kernel) (by decide +kernel)
theorem fk_LandSurveyModel_14 : fkR "LandSurveyModel" 14 11 1 RX12 TX12 87 := ⟨rfl, rfl, inX12, by decide, kw_1507, by decide⟩
theorem dX12_lay_52 : decode cX12_lay 52 = .ok (.aload_n 0, 1) := by decide +kernel
theorem dX12_lay_53 : decode cX12_lay 53 = .ok (.getfield 11, 3) := by decide +kernel
theorem dX12_lay_56 : decode cX12_lay 56 = .ok (.iload 4, 2) := by decide +kernel
theorem dX12_lay_58 : decode cX12_lay 58 = .ok (.iastore, 1) := by decide +kernel
theorem dX12_lay_59 : decode cX12_lay 59 = .ok (.aload_n 0, 1) := by decide +kernel
theorem dX12_lay_60 : decode cX12_lay 60 = .ok (.dup, 1) := by decide +kernel
theorem dX12_lay_61 : decode cX12_lay 61 = .ok (.getfield 11, 3) := by decide +kernel
theorem dX12_lay_64 : decode cX12_lay 64 = .ok (.iconst 1, 1) := by decide +kernel
theorem dX12_lay_65 : decode cX12_lay 65 = .ok (.iadd, 1) := by decide +kernel
theorem dX12_lay_66 : decode cX12_lay 66 = .ok (.putfield 11, 3) := by decide +kernel
theorem pk_LandSurveyModel_2 : pk RX12 TX12 87 2 tyX12 false := ⟨tyX12_ok, nmX12, rfl⟩
theorem dX12_lay_24 : decode cX12_lay 24 = .ok (.iload 4, 2) := by decide +kernel
theorem dX12_lay_26 : decode cX12_lay 26 = .ok (.bipush 32, 2) := by decide +kernel
theorem dX12_lay_28 : decode cX12_lay 28 = .ok (.if_icmp .lt 41, 3) := by decide +kernel
theorem dX12_lay_31 : decode cX12_lay 31 = .ok (.iload 4, 2) := by decide +kernel
theorem dX12_lay_33 : decode cX12_lay 33 = .ok (.bipush 126, 2) := by decide +kernel
theorem dX12_lay_35 : decode cX12_lay 35 = .ok (.if_icmp .gt 34, 3) := by decide +kernel
abbrev cX12_feed : ByteArray := prog_14_method_2_code
def yX12_feed : MethodName := ⟨RX12, "feed", "(JJJ)I"⟩
theorem okX12_feed : yok yX12_feed 3 := by decide +kernel
theorem kw_1506 : Cond.fieldLink "LandSurveyModel" 1 "LandSurveyModel" "thrown" "I" ∈ uu := uu_in (i := 1506) (by decide +kernel) (by decide +kernel)
theorem fk_LandSurveyModel_1 : fkI "LandSurveyModel" 1 11 0 RX12 TX12 87 := ⟨rfl, rfl, inX12, by decide, kw_1506, by decide⟩
theorem dX12_feed_0 : decode cX12_feed 0 = .ok (.aload_n 0, 1) := by decide +kernel
theorem dX12_feed_1 : decode cX12_feed 1 = .ok (.iconst 0, 1) := by decide +kernel
theorem dX12_feed_2 : decode cX12_feed 2 = .ok (.putfield 1, 3) := by decide +kernel
theorem pk_LandSurveyModel_0 : pk RX12 TX12 87 0 tyX12 false := ⟨tyX12_ok, nmX12, rfl⟩
theorem dX12_feed_5 : decode cX12_feed 5 = .ok (.aload_n 0, 1) := by decide +kernel
theorem dX12_feed_6 : decode cX12_feed 6 = .ok (.lload_n 1, 1) := by decide +kernel
theorem dX12_feed_7 : decode cX12_feed 7 = .ok (.invokevirtual 7, 3) := by decide +kernel
theorem kw_1470 : Cond.code yX12_lay prog_14_method_3_code 5 none ∈ uu := uu_in (i := 1470) (by decide +kernel) (by decide +kernel)
theorem kw_1466 : Cond.methodLink "LandSurveyModel" 7 yX12_lay ∈ uu := uu_in (i := 1466) (by decide +kernel) (by decide +kernel)
theorem kw_1468 : Cond.instanceMethod yX12_lay ∈ uu := uu_in (i := 1468) (by decide +kernel) (by decide +kernel)
theorem kw_63 : Cond.selects "LandSurveyModel" yX12_lay yX12_lay ∈ uu := uu_in (i := 63) (by decide +kernel) (by decide +kernel)
theorem lk_LandSurveyModel_7 : lkV "LandSurveyModel" 7 yX12_lay cX12_lay 5 none 1 := ⟨kw_1466, kw_1468, kw_63, kw_152, kw_1470, okX12_lay⟩
theorem dX12_feed_10 : decode cX12_feed 10 = .ok (.aload_n 0, 1) := by decide +kernel
theorem dX12_feed_11 : decode cX12_feed 11 = .ok (.lload_n 3, 1) := by decide +kernel
theorem dX12_feed_12 : decode cX12_feed 12 = .ok (.invokevirtual 7, 3) := by decide +kernel
theorem dX12_feed_15 : decode cX12_feed 15 = .ok (.aload_n 0, 1) := by decide +kernel
theorem dX12_feed_16 : decode cX12_feed 16 = .ok (.lload 5, 2) := by decide +kernel
theorem dX12_feed_18 : decode cX12_feed 18 = .ok (.invokevirtual 7, 3) := by decide +kernel
theorem dX12_feed_21 : decode cX12_feed 21 = .ok (.aload_n 0, 1) := by decide +kernel
theorem dX12_feed_22 : decode cX12_feed 22 = .ok (.getfield 11, 3) := by decide +kernel
theorem dX12_feed_25 : decode cX12_feed 25 = .ok (.ireturn, 1) := by decide +kernel
abbrev cX12_days : ByteArray := prog_14_method_38_code
def yX12_days : MethodName := ⟨RX12, "days", "(I)I"⟩
theorem okX12_days : yok yX12_days 1 := by decide +kernel
theorem kw_1539 : Cond.fieldLink "LandSurveyModel" 342 "LandSurveyModel" "now" "I" ∈ uu := uu_in (i := 1539) (by decide +kernel) (by decide +kernel)
theorem fk_LandSurveyModel_342 : fkI "LandSurveyModel" 342 11 33 RX12 TX12 87 := ⟨rfl, rfl, inX12, by decide, kw_1539, by decide⟩
theorem kw_1541 : Cond.fieldLink "LandSurveyModel" 290 "LandSurveyModel" "isChanged" "Z" ∈ uu := uu_in (i := 1541) (by decide +kernel) (by decide +kernel)
theorem fk_LandSurveyModel_290 : fkI "LandSurveyModel" 290 11 35 RX12 TX12 87 := ⟨rfl, rfl, inX12, by decide, kw_1541, by decide⟩
theorem dX12_days_0 : decode cX12_days 0 = .ok (.aload_n 0, 1) := by decide +kernel
theorem dX12_days_1 : decode cX12_days 1 = .ok (.iconst 0, 1) := by decide +kernel
theorem dX12_days_2 : decode cX12_days 2 = .ok (.putfield 1, 3) := by decide +kernel
theorem dX12_days_5 : decode cX12_days 5 = .ok (.iload_n 1, 1) := by decide +kernel
theorem dX12_days_6 : decode cX12_days 6 = .ok (.iconst 0, 1) := by decide +kernel
theorem dX12_days_7 : decode cX12_days 7 = .ok (.sipush 1000, 3) := by decide +kernel
theorem dX12_days_10 : decode cX12_days 10 = .ok (.invokestatic 415, 3) := by decide +kernel
theorem dX12_days_13 : decode cX12_days 13 = .ok (.ifCond .eq 15, 3) := by decide +kernel
theorem dX12_days_28 : decode cX12_days 28 = .ok (.iconst (-1), 1) := by decide +kernel
theorem dX12_days_29 : decode cX12_days 29 = .ok (.ireturn, 1) := by decide +kernel
theorem dX12_days_16 : decode cX12_days 16 = .ok (.aload_n 0, 1) := by decide +kernel
theorem dX12_days_17 : decode cX12_days 17 = .ok (.getfield 342, 3) := by decide +kernel
theorem dX12_days_20 : decode cX12_days 20 = .ok (.iload_n 1, 1) := by decide +kernel
theorem dX12_days_21 : decode cX12_days 21 = .ok (.iadd, 1) := by decide +kernel
theorem dX12_days_22 : decode cX12_days 22 = .ok (.sipush 9999, 3) := by decide +kernel
theorem dX12_days_25 : decode cX12_days 25 = .ok (.if_icmp .le 5, 3) := by decide +kernel
theorem dX12_days_30 : decode cX12_days 30 = .ok (.aload_n 0, 1) := by decide +kernel
theorem dX12_days_31 : decode cX12_days 31 = .ok (.dup, 1) := by decide +kernel
theorem dX12_days_32 : decode cX12_days 32 = .ok (.getfield 342, 3) := by decide +kernel
theorem dX12_days_35 : decode cX12_days 35 = .ok (.iload_n 1, 1) := by decide +kernel
theorem dX12_days_36 : decode cX12_days 36 = .ok (.iadd, 1) := by decide +kernel
theorem dX12_days_37 : decode cX12_days 37 = .ok (.putfield 342, 3) := by decide +kernel
theorem pk_LandSurveyModel_33 : pk RX12 TX12 87 33 tyX12 false := ⟨tyX12_ok, nmX12, rfl⟩
theorem dX12_days_40 : decode cX12_days 40 = .ok (.aload_n 0, 1) := by decide +kernel
theorem dX12_days_41 : decode cX12_days 41 = .ok (.iconst 1, 1) := by decide +kernel
theorem dX12_days_42 : decode cX12_days 42 = .ok (.putfield 290, 3) := by decide +kernel
theorem pk_LandSurveyModel_35 : pk RX12 TX12 87 35 tyX12 false := ⟨tyX12_ok, nmX12, rfl⟩
theorem dX12_days_45 : decode cX12_days 45 = .ok (.aload_n 0, 1) := by decide +kernel
theorem dX12_days_46 : decode cX12_days 46 = .ok (.getfield 342, 3) := by decide +kernel
theorem dX12_days_49 : decode cX12_days 49 = .ok (.ireturn, 1) := by decide +kernel
abbrev cX12_view : ByteArray := prog_14_method_39_code
def yX12_view : MethodName := ⟨RX12, "view", "(I)Z"⟩
theorem okX12_view : yok yX12_view 1 := by decide +kernel
theorem kw_1540 : Cond.fieldLink "LandSurveyModel" 287 "LandSurveyModel" "viewed" "I" ∈ uu := uu_in (i := 1540) (by decide +kernel) (by decide +kernel)
theorem fk_LandSurveyModel_287 : fkI "LandSurveyModel" 287 11 34 RX12 TX12 87 := ⟨rfl, rfl, inX12, by decide, kw_1540, by decide⟩
theorem dX12_view_0 : decode cX12_view 0 = .ok (.aload_n 0, 1) := by decide +kernel
theorem dX12_view_1 : decode cX12_view 1 = .ok (.iconst 0, 1) := by decide +kernel
theorem dX12_view_2 : decode cX12_view 2 = .ok (.putfield 1, 3) := by decide +kernel
theorem dX12_view_5 : decode cX12_view 5 = .ok (.iload_n 1, 1) := by decide +kernel
theorem dX12_view_6 : decode cX12_view 6 = .ok (.iconst 0, 1) := by decide +kernel
theorem dX12_view_7 : decode cX12_view 7 = .ok (.aload_n 0, 1) := by decide +kernel
theorem dX12_view_8 : decode cX12_view 8 = .ok (.getfield 342, 3) := by decide +kernel
theorem dX12_view_11 : decode cX12_view 11 = .ok (.invokestatic 415, 3) := by decide +kernel
theorem dX12_view_14 : decode cX12_view 14 = .ok (.ifCond .ne 5, 3) := by decide +kernel
theorem dX12_view_19 : decode cX12_view 19 = .ok (.aload_n 0, 1) := by decide +kernel
theorem dX12_view_20 : decode cX12_view 20 = .ok (.iload_n 1, 1) := by decide +kernel
theorem dX12_view_21 : decode cX12_view 21 = .ok (.aload_n 0, 1) := by decide +kernel
theorem dX12_view_22 : decode cX12_view 22 = .ok (.getfield 342, 3) := by decide +kernel
theorem dX12_view_25 : decode cX12_view 25 = .ok (.if_icmp .ne 7, 3) := by decide +kernel
theorem dX12_view_32 : decode cX12_view 32 = .ok (.iload_n 1, 1) := by decide +kernel
theorem dX12_view_33 : decode cX12_view 33 = .ok (.putfield 287, 3) := by decide +kernel
theorem pk_LandSurveyModel_34 : pk RX12 TX12 87 34 tyX12 false := ⟨tyX12_ok, nmX12, rfl⟩
theorem dX12_view_36 : decode cX12_view 36 = .ok (.aload_n 0, 1) := by decide +kernel
theorem dX12_view_37 : decode cX12_view 37 = .ok (.iconst 1, 1) := by decide +kernel
theorem dX12_view_38 : decode cX12_view 38 = .ok (.putfield 290, 3) := by decide +kernel
theorem dX12_view_41 : decode cX12_view 41 = .ok (.iconst 1, 1) := by decide +kernel
theorem dX12_view_42 : decode cX12_view 42 = .ok (.ireturn, 1) := by decide +kernel
theorem dX12_view_28 : decode cX12_view 28 = .ok (.iconst (-1), 1) := by decide +kernel
theorem dX12_view_29 : decode cX12_view 29 = .ok (.goto 4, 3) := by decide +kernel
theorem dX12_view_17 : decode cX12_view 17 = .ok (.iconst 0, 1) := by decide +kernel
theorem dX12_view_18 : decode cX12_view 18 = .ok (.ireturn, 1) := by decide +kernel
abbrev cX12_isSight : ByteArray := prog_14_method_45_code
def yX12_isSight : MethodName := ⟨RX12, "isSight", "(I)Z"⟩
theorem okX12_isSight : yok yX12_isSight 1 := by decide +kernel
theorem dX12_isSight_0 : decode cX12_isSight 0 = .ok (.iload_n 1, 1) := by decide +kernel
theorem dX12_isSight_1 : decode cX12_isSight 1 = .ok (.ifCond .lt 15, 3) := by decide +kernel
theorem dX12_isSight_16 : decode cX12_isSight 16 = .ok (.iconst 0, 1) := by decide +kernel
theorem dX12_isSight_17 : decode cX12_isSight 17 = .ok (.ireturn, 1) := by decide +kernel
theorem dX12_isSight_4 : decode cX12_isSight 4 = .ok (.iload_n 1, 1) := by decide +kernel
theorem dX12_isSight_5 : decode cX12_isSight 5 = .ok (.aload_n 0, 1) := by decide +kernel
theorem dX12_isSight_6 : decode cX12_isSight 6 = .ok (.getfield 423, 3) := by decide +kernel
theorem kw_1546 : Cond.fieldLink "LandSurveyModel" 423 "LandSurveyModel" "sights" "I" ∈ uu := uu_in (i := 1546) (by decide +kernel) (by decide +kernel)
theorem fk_LandSurveyModel_423 : fkI "LandSurveyModel" 423 11 40 RX12 TX12 87 := ⟨rfl, rfl, inX12, by decide, kw_1546, by decide⟩
theorem dX12_isSight_9 : decode cX12_isSight 9 = .ok (.if_icmp .ge 7, 3) := by decide +kernel
theorem dX12_isSight_12 : decode cX12_isSight 12 = .ok (.iconst 1, 1) := by decide +kernel
theorem dX12_isSight_13 : decode cX12_isSight 13 = .ok (.goto 4, 3) := by decide +kernel
abbrev cX12_cell : ByteArray := prog_14_method_41_code
def yX12_cell : MethodName := ⟨RX12, "cell", "(IIIZ)Z"⟩
theorem okX12_cell : yok yX12_cell 4 := by decide +kernel
theorem dX12_cell_0 : decode cX12_cell 0 = .ok (.aload_n 0, 1) := by decide +kernel
theorem dX12_cell_1 : decode cX12_cell 1 = .ok (.iconst 0, 1) := by decide +kernel
theorem dX12_cell_2 : decode cX12_cell 2 = .ok (.putfield 1, 3) := by decide +kernel
theorem dX12_cell_5 : decode cX12_cell 5 = .ok (.iload_n 1, 1) := by decide +kernel
theorem dX12_cell_6 : decode cX12_cell 6 = .ok (.iload_n 2, 1) := by decide +kernel
theorem dX12_cell_7 : decode cX12_cell 7 = .ok (.invokestatic 419, 3) := by decide +kernel
theorem kw_1901 : Cond.code yX12_isCell prog_14_method_37_code 2 (some .boolean) ∈ uu := uu_in (i := 1901) (by decide +kernel) (by decide +kernel)
theorem kw_1899 : Cond.methodLink "LandSurveyModel" 419 yX12_isCell ∈ uu := uu_in (i := 1899) (by decide +kernel) (by decide +kernel)
theorem kw_1900 : Cond.static yX12_isCell ∈ uu := uu_in (i := 1900) (by decide +kernel) (by decide +kernel)
theorem lk_LandSurveyModel_419 : lkS "LandSurveyModel" 419 yX12_isCell cX12_isCell 2 (some .boolean) 2 := ⟨kw_1899, kw_1900, kw_152, kw_1901, okX12_isCell⟩
theorem dX12_cell_10 : decode cX12_cell 10 = .ok (.ifCond .eq 14, 3) := by decide +kernel
theorem dX12_cell_24 : decode cX12_cell 24 = .ok (.iconst 0, 1) := by decide +kernel
theorem dX12_cell_25 : decode cX12_cell 25 = .ok (.ireturn, 1) := by decide +kernel
theorem dX12_cell_13 : decode cX12_cell 13 = .ok (.iload_n 3, 1) := by decide +kernel
theorem dX12_cell_14 : decode cX12_cell 14 = .ok (.iconst 0, 1) := by decide +kernel
theorem dX12_cell_15 : decode cX12_cell 15 = .ok (.sipush 999, 3) := by decide +kernel
theorem dX12_cell_18 : decode cX12_cell 18 = .ok (.invokestatic 415, 3) := by decide +kernel
theorem dX12_cell_21 : decode cX12_cell 21 = .ok (.ifCond .ne 5, 3) := by decide +kernel
theorem dX12_cell_26 : decode cX12_cell 26 = .ok (.aload_n 0, 1) := by decide +kernel
theorem dX12_cell_27 : decode cX12_cell 27 = .ok (.getfield 161, 3) := by decide +kernel
theorem kw_1542 : Cond.fieldLink "LandSurveyModel" 161 "LandSurveyModel" "heights" "[I" ∈ uu := uu_in (i := 1542) (by decide +kernel) (by decide +kernel)
theorem fk_LandSurveyModel_161 : fkR "LandSurveyModel" 161 11 36 RX12 TX12 87 := ⟨rfl, rfl, inX12, by decide, kw_1542, by decide⟩
theorem dX12_cell_30 : decode cX12_cell 30 = .ok (.bipush 12, 2) := by decide +kernel
theorem dX12_cell_32 : decode cX12_cell 32 = .ok (.iload_n 2, 1) := by decide +kernel
theorem dX12_cell_33 : decode cX12_cell 33 = .ok (.imul, 1) := by decide +kernel
theorem dX12_cell_34 : decode cX12_cell 34 = .ok (.iload_n 1, 1) := by decide +kernel
theorem dX12_cell_35 : decode cX12_cell 35 = .ok (.iadd, 1) := by decide +kernel
theorem dX12_cell_36 : decode cX12_cell 36 = .ok (.iload_n 3, 1) := by decide +kernel
theorem dX12_cell_37 : decode cX12_cell 37 = .ok (.iastore, 1) := by decide +kernel
theorem dX12_cell_38 : decode cX12_cell 38 = .ok (.aload_n 0, 1) := by decide +kernel
theorem dX12_cell_39 : decode cX12_cell 39 = .ok (.getfield 164, 3) := by decide +kernel
theorem kw_1543 : Cond.fieldLink "LandSurveyModel" 164 "LandSurveyModel" "isBare" "[Z" ∈ uu := uu_in (i := 1543) (by decide +kernel) (by decide +kernel)
theorem fk_LandSurveyModel_164 : fkR "LandSurveyModel" 164 11 37 RX12 TX12 87 := ⟨rfl, rfl, inX12, by decide, kw_1543, by decide⟩
theorem dX12_cell_42 : decode cX12_cell 42 = .ok (.bipush 12, 2) := by decide +kernel
theorem dX12_cell_44 : decode cX12_cell 44 = .ok (.iload_n 2, 1) := by decide +kernel
theorem dX12_cell_45 : decode cX12_cell 45 = .ok (.imul, 1) := by decide +kernel
theorem dX12_cell_46 : decode cX12_cell 46 = .ok (.iload_n 1, 1) := by decide +kernel
theorem dX12_cell_47 : decode cX12_cell 47 = .ok (.iadd, 1) := by decide +kernel
theorem dX12_cell_48 : decode cX12_cell 48 = .ok (.iload 4, 2) := by decide +kernel
theorem dX12_cell_50 : decode cX12_cell 50 = .ok (.bastore, 1) := by decide +kernel
theorem dX12_cell_51 : decode cX12_cell 51 = .ok (.aload_n 0, 1) := by decide +kernel
theorem dX12_cell_52 : decode cX12_cell 52 = .ok (.iconst 1, 1) := by decide +kernel
theorem dX12_cell_53 : decode cX12_cell 53 = .ok (.putfield 290, 3) := by decide +kernel
theorem dX12_cell_56 : decode cX12_cell 56 = .ok (.iconst 1, 1) := by decide +kernel
theorem dX12_cell_57 : decode cX12_cell 57 = .ok (.ireturn, 1) := by decide +kernel
abbrev cX12_fold : ByteArray := prog_14_method_42_code
def yX12_fold : MethodName := ⟨RX12, "fold", "(IIZ)Z"⟩
theorem okX12_fold : yok yX12_fold 3 := by decide +kernel
theorem dX12_fold_0 : decode cX12_fold 0 = .ok (.aload_n 0, 1) := by decide +kernel
theorem dX12_fold_1 : decode cX12_fold 1 = .ok (.iconst 0, 1) := by decide +kernel
theorem dX12_fold_2 : decode cX12_fold 2 = .ok (.putfield 1, 3) := by decide +kernel
theorem dX12_fold_5 : decode cX12_fold 5 = .ok (.iload_n 1, 1) := by decide +kernel
theorem dX12_fold_6 : decode cX12_fold 6 = .ok (.iload_n 2, 1) := by decide +kernel
theorem dX12_fold_7 : decode cX12_fold 7 = .ok (.invokestatic 419, 3) := by decide +kernel
theorem dX12_fold_10 : decode cX12_fold 10 = .ok (.ifCond .ne 5, 3) := by decide +kernel
theorem dX12_fold_15 : decode cX12_fold 15 = .ok (.aload_n 0, 1) := by decide +kernel
theorem dX12_fold_16 : decode cX12_fold 16 = .ok (.getfield 167, 3) := by decide +kernel
theorem kw_1544 : Cond.fieldLink "LandSurveyModel" 167 "LandSurveyModel" "isTurned" "[Z" ∈ uu := uu_in (i := 1544) (by decide +kernel) (by decide +kernel)
theorem fk_LandSurveyModel_167 : fkR "LandSurveyModel" 167 11 38 RX12 TX12 87 := ⟨rfl, rfl, inX12, by decide, kw_1544, by decide⟩
theorem dX12_fold_19 : decode cX12_fold 19 = .ok (.bipush 12, 2) := by decide +kernel
theorem dX12_fold_21 : decode cX12_fold 21 = .ok (.iload_n 2, 1) := by decide +kernel
theorem dX12_fold_22 : decode cX12_fold 22 = .ok (.imul, 1) := by decide +kernel
theorem dX12_fold_23 : decode cX12_fold 23 = .ok (.iload_n 1, 1) := by decide +kernel
theorem dX12_fold_24 : decode cX12_fold 24 = .ok (.iadd, 1) := by decide +kernel
theorem dX12_fold_25 : decode cX12_fold 25 = .ok (.iload_n 3, 1) := by decide +kernel
theorem dX12_fold_26 : decode cX12_fold 26 = .ok (.bastore, 1) := by decide +kernel
theorem dX12_fold_27 : decode cX12_fold 27 = .ok (.aload_n 0, 1) := by decide +kernel
theorem dX12_fold_28 : decode cX12_fold 28 = .ok (.iconst 1, 1) := by decide +kernel
theorem dX12_fold_29 : decode cX12_fold 29 = .ok (.putfield 290, 3) := by decide +kernel
theorem dX12_fold_32 : decode cX12_fold 32 = .ok (.iconst 1, 1) := by decide +kernel
theorem dX12_fold_33 : decode cX12_fold 33 = .ok (.ireturn, 1) := by decide +kernel
theorem dX12_fold_13 : decode cX12_fold 13 = .ok (.iconst 0, 1) := by decide +kernel
theorem dX12_fold_14 : decode cX12_fold 14 = .ok (.ireturn, 1) := by decide +kernel
abbrev cX12_own : ByteArray := prog_14_method_43_code
def yX12_own : MethodName := ⟨RX12, "own", "(III)Z"⟩
theorem okX12_own : yok yX12_own 3 := by decide +kernel
theorem dX12_own_0 : decode cX12_own 0 = .ok (.aload_n 0, 1) := by decide +kernel
theorem dX12_own_1 : decode cX12_own 1 = .ok (.iconst 0, 1) := by decide +kernel
theorem dX12_own_2 : decode cX12_own 2 = .ok (.putfield 1, 3) := by decide +kernel
theorem dX12_own_5 : decode cX12_own 5 = .ok (.iload_n 1, 1) := by decide +kernel
theorem dX12_own_6 : decode cX12_own 6 = .ok (.iload_n 2, 1) := by decide +kernel
theorem dX12_own_7 : decode cX12_own 7 = .ok (.invokestatic 419, 3) := by decide +kernel
theorem dX12_own_10 : decode cX12_own 10 = .ok (.ifCond .eq 12, 3) := by decide +kernel
theorem dX12_own_22 : decode cX12_own 22 = .ok (.iconst 0, 1) := by decide +kernel
theorem dX12_own_23 : decode cX12_own 23 = .ok (.ireturn, 1) := by decide +kernel
theorem dX12_own_13 : decode cX12_own 13 = .ok (.iload_n 3, 1) := by decide +kernel
theorem dX12_own_14 : decode cX12_own 14 = .ok (.iconst (-1), 1) := by decide +kernel
theorem dX12_own_15 : decode cX12_own 15 = .ok (.iconst 3, 1) := by decide +kernel
theorem dX12_own_16 : decode cX12_own 16 = .ok (.invokestatic 415, 3) := by decide +kernel
theorem dX12_own_19 : decode cX12_own 19 = .ok (.ifCond .ne 5, 3) := by decide +kernel
theorem dX12_own_24 : decode cX12_own 24 = .ok (.aload_n 0, 1) := by decide +kernel
theorem dX12_own_25 : decode cX12_own 25 = .ok (.getfield 170, 3) := by decide +kernel
theorem kw_1545 : Cond.fieldLink "LandSurveyModel" 170 "LandSurveyModel" "owners" "[I" ∈ uu := uu_in (i := 1545) (by decide +kernel) (by decide +kernel)
theorem fk_LandSurveyModel_170 : fkR "LandSurveyModel" 170 11 39 RX12 TX12 87 := ⟨rfl, rfl, inX12, by decide, kw_1545, by decide⟩
theorem dX12_own_28 : decode cX12_own 28 = .ok (.bipush 12, 2) := by decide +kernel
theorem dX12_own_30 : decode cX12_own 30 = .ok (.iload_n 2, 1) := by decide +kernel
theorem dX12_own_31 : decode cX12_own 31 = .ok (.imul, 1) := by decide +kernel
theorem dX12_own_32 : decode cX12_own 32 = .ok (.iload_n 1, 1) := by decide +kernel
theorem dX12_own_33 : decode cX12_own 33 = .ok (.iadd, 1) := by decide +kernel
theorem dX12_own_34 : decode cX12_own 34 = .ok (.iload_n 3, 1) := by decide +kernel
theorem dX12_own_35 : decode cX12_own 35 = .ok (.iastore, 1) := by decide +kernel
theorem dX12_own_36 : decode cX12_own 36 = .ok (.iconst 1, 1) := by decide +kernel
theorem dX12_own_37 : decode cX12_own 37 = .ok (.ireturn, 1) := by decide +kernel
abbrev cX12_sight : ByteArray := prog_14_method_44_code
def yX12_sight : MethodName := ⟨RX12, "sight", "(IIIIII)I"⟩
theorem okX12_sight : yok yX12_sight 6 := by decide +kernel
theorem dX12_sight_0 : decode cX12_sight 0 = .ok (.aload_n 0, 1) := by decide +kernel
theorem dX12_sight_1 : decode cX12_sight 1 = .ok (.iconst 0, 1) := by decide +kernel
theorem dX12_sight_2 : decode cX12_sight 2 = .ok (.putfield 1, 3) := by decide +kernel
theorem dX12_sight_5 : decode cX12_sight 5 = .ok (.iload_n 1, 1) := by decide +kernel
theorem dX12_sight_6 : decode cX12_sight 6 = .ok (.iconst 0, 1) := by decide +kernel
theorem dX12_sight_7 : decode cX12_sight 7 = .ok (.iconst 4, 1) := by decide +kernel
theorem dX12_sight_8 : decode cX12_sight 8 = .ok (.invokestatic 415, 3) := by decide +kernel
theorem dX12_sight_11 : decode cX12_sight 11 = .ok (.ifCond .eq 58, 3) := by decide +kernel
theorem dX12_sight_69 : decode cX12_sight 69 = .ok (.iconst 0, 1) := by decide +kernel
theorem dX12_sight_70 : decode cX12_sight 70 = .ok (.istore 7, 2) := by decide +kernel
theorem dX12_sight_72 : decode cX12_sight 72 = .ok (.iload 7, 2) := by decide +kernel
theorem dX12_sight_74 : decode cX12_sight 74 = .ok (.ifCond .eq 30, 3) := by decide +kernel
theorem dX12_sight_104 : decode cX12_sight 104 = .ok (.iconst (-1), 1) := by decide +kernel
theorem dX12_sight_105 : decode cX12_sight 105 = .ok (.ireturn, 1) := by decide +kernel
theorem dX12_sight_14 : decode cX12_sight 14 = .ok (.iload_n 2, 1) := by decide +kernel
theorem dX12_sight_15 : decode cX12_sight 15 = .ok (.iload_n 3, 1) := by decide +kernel
theorem dX12_sight_16 : decode cX12_sight 16 = .ok (.invokestatic 419, 3) := by decide +kernel
theorem dX12_sight_19 : decode cX12_sight 19 = .ok (.ifCond .eq 50, 3) := by decide +kernel
theorem dX12_sight_22 : decode cX12_sight 22 = .ok (.iload 4, 2) := by decide +kernel
theorem dX12_sight_24 : decode cX12_sight 24 = .ok (.iconst 0, 1) := by decide +kernel
theorem dX12_sight_25 : decode cX12_sight 25 = .ok (.iload_n 1, 1) := by decide +kernel
theorem dX12_sight_26 : decode cX12_sight 26 = .ok (.iconst 2, 1) := by decide +kernel
theorem dX12_sight_27 : decode cX12_sight 27 = .ok (.if_icmp .ge 7, 3) := by decide +kernel
theorem dX12_sight_34 : decode cX12_sight 34 = .ok (.sipush 999, 3) := by decide +kernel
theorem dX12_sight_37 : decode cX12_sight 37 = .ok (.invokestatic 415, 3) := by decide +kernel
theorem dX12_sight_40 : decode cX12_sight 40 = .ok (.ifCond .eq 29, 3) := by decide +kernel
theorem dX12_sight_43 : decode cX12_sight 43 = .ok (.iload 5, 2) := by decide +kernel
theorem dX12_sight_45 : decode cX12_sight 45 = .ok (.iconst 0, 1) := by decide +kernel
theorem dX12_sight_46 : decode cX12_sight 46 = .ok (.iconst 5, 1) := by decide +kernel
theorem dX12_sight_47 : decode cX12_sight 47 = .ok (.invokestatic 415, 3) := by decide +kernel
theorem dX12_sight_50 : decode cX12_sight 50 = .ok (.ifCond .eq 19, 3) := by decide +kernel
theorem dX12_sight_53 : decode cX12_sight 53 = .ok (.iload 6, 2) := by decide +kernel
theorem dX12_sight_55 : decode cX12_sight 55 = .ok (.iconst 0, 1) := by decide +kernel
theorem dX12_sight_56 : decode cX12_sight 56 = .ok (.sipush 9999, 3) := by decide +kernel
theorem dX12_sight_59 : decode cX12_sight 59 = .ok (.invokestatic 415, 3) := by decide +kernel
theorem dX12_sight_62 : decode cX12_sight 62 = .ok (.ifCond .eq 7, 3) := by decide +kernel
theorem dX12_sight_65 : decode cX12_sight 65 = .ok (.iconst 1, 1) := by decide +kernel
theorem dX12_sight_66 : decode cX12_sight 66 = .ok (.goto 4, 3) := by decide +kernel
theorem dX12_sight_77 : decode cX12_sight 77 = .ok (.iload_n 1, 1) := by decide +kernel
theorem dX12_sight_78 : decode cX12_sight 78 = .ok (.ifCond .ne 17, 3) := by decide +kernel
theorem dX12_sight_95 : decode cX12_sight 95 = .ok (.aload_n 0, 1) := by decide +kernel
theorem dX12_sight_96 : decode cX12_sight 96 = .ok (.getfield 423, 3) := by decide +kernel
theorem dX12_sight_99 : decode cX12_sight 99 = .ok (.bipush 40, 2) := by decide +kernel
theorem dX12_sight_101 : decode cX12_sight 101 = .ok (.if_icmp .ne 5, 3) := by decide +kernel
theorem dX12_sight_106 : decode cX12_sight 106 = .ok (.aload_n 0, 1) := by decide +kernel
theorem dX12_sight_107 : decode cX12_sight 107 = .ok (.getfield 173, 3) := by decide +kernel
theorem kw_1547 : Cond.fieldLink "LandSurveyModel" 173 "LandSurveyModel" "kindOf" "[I" ∈ uu := uu_in (i := 1547) (by decide +kernel) (by decide +kernel)
theorem fk_LandSurveyModel_173 : fkR "LandSurveyModel" 173 11 41 RX12 TX12 87 := ⟨rfl, rfl, inX12, by decide, kw_1547, by decide⟩
theorem dX12_sight_110 : decode cX12_sight 110 = .ok (.aload_n 0, 1) := by decide +kernel
theorem dX12_sight_111 : decode cX12_sight 111 = .ok (.getfield 423, 3) := by decide +kernel
theorem dX12_sight_114 : decode cX12_sight 114 = .ok (.iload_n 1, 1) := by decide +kernel
theorem dX12_sight_115 : decode cX12_sight 115 = .ok (.iastore, 1) := by decide +kernel
theorem dX12_sight_116 : decode cX12_sight 116 = .ok (.aload_n 0, 1) := by decide +kernel
theorem dX12_sight_117 : decode cX12_sight 117 = .ok (.getfield 176, 3) := by decide +kernel
theorem kw_1548 : Cond.fieldLink "LandSurveyModel" 176 "LandSurveyModel" "cellOf" "[I" ∈ uu := uu_in (i := 1548) (by decide +kernel) (by decide +kernel)
theorem fk_LandSurveyModel_176 : fkR "LandSurveyModel" 176 11 42 RX12 TX12 87 := ⟨rfl, rfl, inX12, by decide, kw_1548, by decide⟩
theorem dX12_sight_120 : decode cX12_sight 120 = .ok (.aload_n 0, 1) := by decide +kernel
theorem dX12_sight_121 : decode cX12_sight 121 = .ok (.getfield 423, 3) := by decide +kernel
theorem dX12_sight_124 : decode cX12_sight 124 = .ok (.bipush 12, 2) := by decide +kernel
theorem dX12_sight_126 : decode cX12_sight 126 = .ok (.iload_n 3, 1) := by decide +kernel
theorem dX12_sight_127 : decode cX12_sight 127 = .ok (.imul, 1) := by decide +kernel
theorem dX12_sight_128 : decode cX12_sight 128 = .ok (.iload_n 2, 1) := by decide +kernel
theorem dX12_sight_129 : decode cX12_sight 129 = .ok (.iadd, 1) := by decide +kernel
theorem dX12_sight_130 : decode cX12_sight 130 = .ok (.iastore, 1) := by decide +kernel
theorem dX12_sight_131 : decode cX12_sight 131 = .ok (.aload_n 0, 1) := by decide +kernel
theorem dX12_sight_132 : decode cX12_sight 132 = .ok (.getfield 179, 3) := by decide +kernel
theorem kw_1549 : Cond.fieldLink "LandSurveyModel" 179 "LandSurveyModel" "depthOf" "[I" ∈ uu := uu_in (i := 1549) (by decide +kernel) (by decide +kernel)
theorem fk_LandSurveyModel_179 : fkR "LandSurveyModel" 179 11 43 RX12 TX12 87 := ⟨rfl, rfl, inX12, by decide, kw_1549, by decide⟩
theorem dX12_sight_135 : decode cX12_sight 135 = .ok (.aload_n 0, 1) := by decide +kernel
theorem dX12_sight_136 : decode cX12_sight 136 = .ok (.getfield 423, 3) := by decide +kernel
theorem dX12_sight_139 : decode cX12_sight 139 = .ok (.iload 4, 2) := by decide +kernel
theorem dX12_sight_141 : decode cX12_sight 141 = .ok (.iastore, 1) := by decide +kernel
theorem dX12_sight_142 : decode cX12_sight 142 = .ok (.aload_n 0, 1) := by decide +kernel
theorem dX12_sight_143 : decode cX12_sight 143 = .ok (.getfield 182, 3) := by decide +kernel
theorem kw_1550 : Cond.fieldLink "LandSurveyModel" 182 "LandSurveyModel" "handOf" "[I" ∈ uu := uu_in (i := 1550) (by decide +kernel) (by decide +kernel)
theorem fk_LandSurveyModel_182 : fkR "LandSurveyModel" 182 11 44 RX12 TX12 87 := ⟨rfl, rfl, inX12, by decide, kw_1550, by decide⟩
theorem dX12_sight_146 : decode cX12_sight 146 = .ok (.aload_n 0, 1) := by decide +kernel
theorem dX12_sight_147 : decode cX12_sight 147 = .ok (.getfield 423, 3) := by decide +kernel
theorem dX12_sight_150 : decode cX12_sight 150 = .ok (.iload 5, 2) := by decide +kernel
theorem dX12_sight_152 : decode cX12_sight 152 = .ok (.iastore, 1) := by decide +kernel
theorem dX12_sight_153 : decode cX12_sight 153 = .ok (.aload_n 0, 1) := by decide +kernel
theorem dX12_sight_154 : decode cX12_sight 154 = .ok (.getfield 185, 3) := by decide +kernel
theorem kw_1551 : Cond.fieldLink "LandSurveyModel" 185 "LandSurveyModel" "facts" "[I" ∈ uu := uu_in (i := 1551) (by decide +kernel) (by decide +kernel)
theorem fk_LandSurveyModel_185 : fkR "LandSurveyModel" 185 11 45 RX12 TX12 87 := ⟨rfl, rfl, inX12, by decide, kw_1551, by decide⟩
theorem dX12_sight_157 : decode cX12_sight 157 = .ok (.aload_n 0, 1) := by decide +kernel
theorem dX12_sight_158 : decode cX12_sight 158 = .ok (.getfield 423, 3) := by decide +kernel
theorem dX12_sight_161 : decode cX12_sight 161 = .ok (.iload 6, 2) := by decide +kernel
theorem dX12_sight_163 : decode cX12_sight 163 = .ok (.iastore, 1) := by decide +kernel
theorem dX12_sight_164 : decode cX12_sight 164 = .ok (.aload_n 0, 1) := by decide +kernel
theorem dX12_sight_165 : decode cX12_sight 165 = .ok (.getfield 188, 3) := by decide +kernel
theorem kw_1552 : Cond.fieldLink "LandSurveyModel" 188 "LandSurveyModel" "toldOn" "[I" ∈ uu := uu_in (i := 1552) (by decide +kernel) (by decide +kernel)
theorem fk_LandSurveyModel_188 : fkR "LandSurveyModel" 188 11 46 RX12 TX12 87 := ⟨rfl, rfl, inX12, by decide, kw_1552, by decide⟩
theorem dX12_sight_168 : decode cX12_sight 168 = .ok (.aload_n 0, 1) := by decide +kernel
theorem dX12_sight_169 : decode cX12_sight 169 = .ok (.getfield 423, 3) := by decide +kernel
theorem dX12_sight_172 : decode cX12_sight 172 = .ok (.aload_n 0, 1) := by decide +kernel
theorem dX12_sight_173 : decode cX12_sight 173 = .ok (.getfield 342, 3) := by decide +kernel
theorem dX12_sight_176 : decode cX12_sight 176 = .ok (.iastore, 1) := by decide +kernel
theorem dX12_sight_177 : decode cX12_sight 177 = .ok (.aload_n 0, 1) := by decide +kernel
theorem dX12_sight_178 : decode cX12_sight 178 = .ok (.getfield 191, 3) := by decide +kernel
theorem kw_1553 : Cond.fieldLink "LandSurveyModel" 191 "LandSurveyModel" "goneOn" "[I" ∈ uu := uu_in (i := 1553) (by decide +kernel) (by decide +kernel)
theorem fk_LandSurveyModel_191 : fkR "LandSurveyModel" 191 11 47 RX12 TX12 87 := ⟨rfl, rfl, inX12, by decide, kw_1553, by decide⟩
theorem dX12_sight_181 : decode cX12_sight 181 = .ok (.aload_n 0, 1) := by decide +kernel
theorem dX12_sight_182 : decode cX12_sight 182 = .ok (.getfield 423, 3) := by decide +kernel
theorem dX12_sight_185 : decode cX12_sight 185 = .ok (.iconst (-1), 1) := by decide +kernel
theorem dX12_sight_186 : decode cX12_sight 186 = .ok (.iastore, 1) := by decide +kernel
theorem dX12_sight_187 : decode cX12_sight 187 = .ok (.aload_n 0, 1) := by decide +kernel
theorem dX12_sight_188 : decode cX12_sight 188 = .ok (.getfield 194, 3) := by decide +kernel
theorem kw_1554 : Cond.fieldLink "LandSurveyModel" 194 "LandSurveyModel" "dipTo" "[I" ∈ uu := uu_in (i := 1554) (by decide +kernel) (by decide +kernel)
theorem fk_LandSurveyModel_194 : fkR "LandSurveyModel" 194 11 48 RX12 TX12 87 := ⟨rfl, rfl, inX12, by decide, kw_1554, by decide⟩
theorem dX12_sight_191 : decode cX12_sight 191 = .ok (.aload_n 0, 1) := by decide +kernel
theorem dX12_sight_192 : decode cX12_sight 192 = .ok (.getfield 423, 3) := by decide +kernel
theorem dX12_sight_195 : decode cX12_sight 195 = .ok (.iconst (-1), 1) := by decide +kernel
theorem dX12_sight_196 : decode cX12_sight 196 = .ok (.iastore, 1) := by decide +kernel
theorem dX12_sight_197 : decode cX12_sight 197 = .ok (.aload_n 0, 1) := by decide +kernel
theorem dX12_sight_198 : decode cX12_sight 198 = .ok (.getfield 203, 3) := by decide +kernel
theorem kw_1557 : Cond.fieldLink "LandSurveyModel" 203 "LandSurveyModel" "remainOf" "[I" ∈ uu := uu_in (i := 1557) (by decide +kernel) (by decide +kernel)
theorem fk_LandSurveyModel_203 : fkR "LandSurveyModel" 203 11 51 RX12 TX12 87 := ⟨rfl, rfl, inX12, by decide, kw_1557, by decide⟩
theorem dX12_sight_201 : decode cX12_sight 201 = .ok (.aload_n 0, 1) := by decide +kernel
theorem dX12_sight_202 : decode cX12_sight 202 = .ok (.getfield 423, 3) := by decide +kernel
theorem dX12_sight_205 : decode cX12_sight 205 = .ok (.iconst (-1), 1) := by decide +kernel
theorem dX12_sight_206 : decode cX12_sight 206 = .ok (.iastore, 1) := by decide +kernel
theorem dX12_sight_207 : decode cX12_sight 207 = .ok (.aload_n 0, 1) := by decide +kernel
theorem dX12_sight_208 : decode cX12_sight 208 = .ok (.dup, 1) := by decide +kernel
theorem dX12_sight_209 : decode cX12_sight 209 = .ok (.getfield 423, 3) := by decide +kernel
theorem dX12_sight_212 : decode cX12_sight 212 = .ok (.iconst 1, 1) := by decide +kernel
theorem dX12_sight_213 : decode cX12_sight 213 = .ok (.iadd, 1) := by decide +kernel
theorem dX12_sight_214 : decode cX12_sight 214 = .ok (.putfield 423, 3) := by decide +kernel
theorem pk_LandSurveyModel_40 : pk RX12 TX12 87 40 tyX12 false := ⟨tyX12_ok, nmX12, rfl⟩
theorem dX12_sight_217 : decode cX12_sight 217 = .ok (.aload_n 0, 1) := by decide +kernel
theorem dX12_sight_218 : decode cX12_sight 218 = .ok (.iconst 1, 1) := by decide +kernel
theorem dX12_sight_219 : decode cX12_sight 219 = .ok (.putfield 290, 3) := by decide +kernel
theorem dX12_sight_222 : decode cX12_sight 222 = .ok (.aload_n 0, 1) := by decide +kernel
theorem dX12_sight_223 : decode cX12_sight 223 = .ok (.getfield 423, 3) := by decide +kernel
theorem dX12_sight_226 : decode cX12_sight 226 = .ok (.iconst 1, 1) := by decide +kernel
theorem dX12_sight_227 : decode cX12_sight 227 = .ok (.isub, 1) := by decide +kernel
theorem dX12_sight_228 : decode cX12_sight 228 = .ok (.ireturn, 1) := by decide +kernel
theorem dX12_sight_30 : decode cX12_sight 30 = .ok (.iconst 0, 1) := by decide +kernel
theorem dX12_sight_31 : decode cX12_sight 31 = .ok (.goto 6, 3) := by decide +kernel
theorem dX12_sight_81 : decode cX12_sight 81 = .ok (.aload_n 0, 1) := by decide +kernel
theorem dX12_sight_82 : decode cX12_sight 82 = .ok (.getfield 164, 3) := by decide +kernel
theorem dX12_sight_85 : decode cX12_sight 85 = .ok (.bipush 12, 2) := by decide +kernel
theorem dX12_sight_87 : decode cX12_sight 87 = .ok (.iload_n 3, 1) := by decide +kernel
theorem dX12_sight_88 : decode cX12_sight 88 = .ok (.imul, 1) := by decide +kernel
theorem dX12_sight_89 : decode cX12_sight 89 = .ok (.iload_n 2, 1) := by decide +kernel
theorem dX12_sight_90 : decode cX12_sight 90 = .ok (.iadd, 1) := by decide +kernel
theorem dX12_sight_91 : decode cX12_sight 91 = .ok (.baload, 1) := by decide +kernel
theorem dX12_sight_92 : decode cX12_sight 92 = .ok (.ifCond .eq 12, 3) := by decide +kernel
abbrev cX12_dip : ByteArray := prog_14_method_46_code
def yX12_dip : MethodName := ⟨RX12, "dip", "(IIII)Z"⟩
theorem okX12_dip : yok yX12_dip 4 := by decide +kernel
theorem dX12_dip_0 : decode cX12_dip 0 = .ok (.aload_n 0, 1) := by decide +kernel
theorem dX12_dip_1 : decode cX12_dip 1 = .ok (.iconst 0, 1) := by decide +kernel
theorem dX12_dip_2 : decode cX12_dip 2 = .ok (.putfield 1, 3) := by decide +kernel
theorem dX12_dip_5 : decode cX12_dip 5 = .ok (.aload_n 0, 1) := by decide +kernel
theorem dX12_dip_6 : decode cX12_dip 6 = .ok (.iload_n 1, 1) := by decide +kernel
theorem dX12_dip_7 : decode cX12_dip 7 = .ok (.invokevirtual 426, 3) := by decide +kernel
theorem kw_1921 : Cond.code yX12_isSight prog_14_method_45_code 2 (some .boolean) ∈ uu := uu_in (i := 1921) (by decide +kernel) (by decide +kernel)
theorem kw_1918 : Cond.methodLink "LandSurveyModel" 426 yX12_isSight ∈ uu := uu_in (i := 1918) (by decide +kernel) (by decide +kernel)
theorem kw_1920 : Cond.instanceMethod yX12_isSight ∈ uu := uu_in (i := 1920) (by decide +kernel) (by decide +kernel)
theorem kw_88 : Cond.selects "LandSurveyModel" yX12_isSight yX12_isSight ∈ uu := uu_in (i := 88) (by decide +kernel) (by decide +kernel)
theorem lk_LandSurveyModel_426 : lkV "LandSurveyModel" 426 yX12_isSight cX12_isSight 2 (some .boolean) 1 := ⟨kw_1918, kw_1920, kw_88, kw_152, kw_1921, okX12_isSight⟩
theorem dX12_dip_10 : decode cX12_dip 10 = .ok (.ifCond .eq 43, 3) := by decide +kernel
theorem dX12_dip_53 : decode cX12_dip 53 = .ok (.iconst 0, 1) := by decide +kernel
theorem dX12_dip_54 : decode cX12_dip 54 = .ok (.ireturn, 1) := by decide +kernel
theorem dX12_dip_13 : decode cX12_dip 13 = .ok (.iload_n 2, 1) := by decide +kernel
theorem dX12_dip_14 : decode cX12_dip 14 = .ok (.iconst 0, 1) := by decide +kernel
theorem dX12_dip_15 : decode cX12_dip 15 = .ok (.iconst 3, 1) := by decide +kernel
theorem dX12_dip_16 : decode cX12_dip 16 = .ok (.invokestatic 415, 3) := by decide +kernel
theorem dX12_dip_19 : decode cX12_dip 19 = .ok (.ifCond .eq 34, 3) := by decide +kernel
theorem dX12_dip_22 : decode cX12_dip 22 = .ok (.iload_n 3, 1) := by decide +kernel
theorem dX12_dip_23 : decode cX12_dip 23 = .ok (.bipush (-99), 2) := by decide +kernel
theorem dX12_dip_25 : decode cX12_dip 25 = .ok (.bipush 99, 2) := by decide +kernel
theorem dX12_dip_27 : decode cX12_dip 27 = .ok (.invokestatic 415, 3) := by decide +kernel
theorem dX12_dip_30 : decode cX12_dip 30 = .ok (.ifCond .eq 23, 3) := by decide +kernel
theorem dX12_dip_33 : decode cX12_dip 33 = .ok (.iload 4, 2) := by decide +kernel
theorem dX12_dip_35 : decode cX12_dip 35 = .ok (.iconst 0, 1) := by decide +kernel
theorem dX12_dip_36 : decode cX12_dip 36 = .ok (.bipush 99, 2) := by decide +kernel
theorem dX12_dip_38 : decode cX12_dip 38 = .ok (.invokestatic 415, 3) := by decide +kernel
theorem dX12_dip_41 : decode cX12_dip 41 = .ok (.ifCond .eq 12, 3) := by decide +kernel
theorem dX12_dip_44 : decode cX12_dip 44 = .ok (.aload_n 0, 1) := by decide +kernel
theorem dX12_dip_45 : decode cX12_dip 45 = .ok (.getfield 194, 3) := by decide +kernel
theorem dX12_dip_48 : decode cX12_dip 48 = .ok (.iload_n 1, 1) := by decide +kernel
theorem dX12_dip_49 : decode cX12_dip 49 = .ok (.iaload, 1) := by decide +kernel
theorem dX12_dip_50 : decode cX12_dip 50 = .ok (.ifCond .lt 5, 3) := by decide +kernel
theorem dX12_dip_55 : decode cX12_dip 55 = .ok (.aload_n 0, 1) := by decide +kernel
theorem dX12_dip_56 : decode cX12_dip 56 = .ok (.getfield 194, 3) := by decide +kernel
theorem dX12_dip_59 : decode cX12_dip 59 = .ok (.iload_n 1, 1) := by decide +kernel
theorem dX12_dip_60 : decode cX12_dip 60 = .ok (.iload_n 2, 1) := by decide +kernel
theorem dX12_dip_61 : decode cX12_dip 61 = .ok (.iastore, 1) := by decide +kernel
theorem dX12_dip_62 : decode cX12_dip 62 = .ok (.aload_n 0, 1) := by decide +kernel
theorem dX12_dip_63 : decode cX12_dip 63 = .ok (.getfield 197, 3) := by decide +kernel
theorem kw_1555 : Cond.fieldLink "LandSurveyModel" 197 "LandSurveyModel" "dipN" "[I" ∈ uu := uu_in (i := 1555) (by decide +kernel) (by decide +kernel)
theorem fk_LandSurveyModel_197 : fkR "LandSurveyModel" 197 11 49 RX12 TX12 87 := ⟨rfl, rfl, inX12, by decide, kw_1555, by decide⟩
theorem dX12_dip_66 : decode cX12_dip 66 = .ok (.iload_n 1, 1) := by decide +kernel
theorem dX12_dip_67 : decode cX12_dip 67 = .ok (.iload_n 3, 1) := by decide +kernel
theorem dX12_dip_68 : decode cX12_dip 68 = .ok (.iastore, 1) := by decide +kernel
theorem dX12_dip_69 : decode cX12_dip 69 = .ok (.aload_n 0, 1) := by decide +kernel
theorem dX12_dip_70 : decode cX12_dip 70 = .ok (.getfield 200, 3) := by decide +kernel
theorem kw_1556 : Cond.fieldLink "LandSurveyModel" 200 "LandSurveyModel" "dipW" "[I" ∈ uu := uu_in (i := 1556) (by decide +kernel) (by decide +kernel)
theorem fk_LandSurveyModel_200 : fkR "LandSurveyModel" 200 11 50 RX12 TX12 87 := ⟨rfl, rfl, inX12, by decide, kw_1556, by decide⟩
theorem dX12_dip_73 : decode cX12_dip 73 = .ok (.iload_n 1, 1) := by decide +kernel
theorem dX12_dip_74 : decode cX12_dip 74 = .ok (.iload 4, 2) := by decide +kernel
theorem dX12_dip_76 : decode cX12_dip 76 = .ok (.iastore, 1) := by decide +kernel
theorem dX12_dip_77 : decode cX12_dip 77 = .ok (.aload_n 0, 1) := by decide +kernel
theorem dX12_dip_78 : decode cX12_dip 78 = .ok (.iconst 1, 1) := by decide +kernel
theorem dX12_dip_79 : decode cX12_dip 79 = .ok (.putfield 290, 3) := by decide +kernel
theorem dX12_dip_82 : decode cX12_dip 82 = .ok (.iconst 1, 1) := by decide +kernel
theorem dX12_dip_83 : decode cX12_dip 83 = .ok (.ireturn, 1) := by decide +kernel
abbrev cX12_remain : ByteArray := prog_14_method_47_code
def yX12_remain : MethodName := ⟨RX12, "remain", "(IIZ)Z"⟩
theorem okX12_remain : yok yX12_remain 3 := by decide +kernel
theorem dX12_remain_0 : decode cX12_remain 0 = .ok (.aload_n 0, 1) := by decide +kernel
theorem dX12_remain_1 : decode cX12_remain 1 = .ok (.iconst 0, 1) := by decide +kernel
theorem dX12_remain_2 : decode cX12_remain 2 = .ok (.putfield 1, 3) := by decide +kernel
theorem dX12_remain_5 : decode cX12_remain 5 = .ok (.aload_n 0, 1) := by decide +kernel
theorem dX12_remain_6 : decode cX12_remain 6 = .ok (.iload_n 1, 1) := by decide +kernel
theorem dX12_remain_7 : decode cX12_remain 7 = .ok (.invokevirtual 426, 3) := by decide +kernel
theorem dX12_remain_10 : decode cX12_remain 10 = .ok (.ifCond .eq 22, 3) := by decide +kernel
theorem dX12_remain_32 : decode cX12_remain 32 = .ok (.iconst 0, 1) := by decide +kernel
theorem dX12_remain_33 : decode cX12_remain 33 = .ok (.ireturn, 1) := by decide +kernel
theorem dX12_remain_13 : decode cX12_remain 13 = .ok (.iload_n 2, 1) := by decide +kernel
theorem dX12_remain_14 : decode cX12_remain 14 = .ok (.iconst 0, 1) := by decide +kernel
theorem dX12_remain_15 : decode cX12_remain 15 = .ok (.bipush 9, 2) := by decide +kernel
theorem dX12_remain_17 : decode cX12_remain 17 = .ok (.invokestatic 415, 3) := by decide +kernel
theorem dX12_remain_20 : decode cX12_remain 20 = .ok (.ifCond .eq 12, 3) := by decide +kernel
theorem dX12_remain_23 : decode cX12_remain 23 = .ok (.aload_n 0, 1) := by decide +kernel
theorem dX12_remain_24 : decode cX12_remain 24 = .ok (.getfield 203, 3) := by decide +kernel
theorem dX12_remain_27 : decode cX12_remain 27 = .ok (.iload_n 1, 1) := by decide +kernel
theorem dX12_remain_28 : decode cX12_remain 28 = .ok (.iaload, 1) := by decide +kernel
theorem dX12_remain_29 : decode cX12_remain 29 = .ok (.ifCond .lt 5, 3) := by decide +kernel
theorem dX12_remain_34 : decode cX12_remain 34 = .ok (.aload_n 0, 1) := by decide +kernel
theorem dX12_remain_35 : decode cX12_remain 35 = .ok (.getfield 203, 3) := by decide +kernel
theorem dX12_remain_38 : decode cX12_remain 38 = .ok (.iload_n 1, 1) := by decide +kernel
theorem dX12_remain_39 : decode cX12_remain 39 = .ok (.iload_n 2, 1) := by decide +kernel
theorem dX12_remain_40 : decode cX12_remain 40 = .ok (.iastore, 1) := by decide +kernel
theorem dX12_remain_41 : decode cX12_remain 41 = .ok (.aload_n 0, 1) := by decide +kernel
theorem dX12_remain_42 : decode cX12_remain 42 = .ok (.getfield 206, 3) := by decide +kernel
theorem kw_1558 : Cond.fieldLink "LandSurveyModel" 206 "LandSurveyModel" "isWashed" "[Z" ∈ uu := uu_in (i := 1558) (by decide +kernel) (by decide +kernel)
theorem fk_LandSurveyModel_206 : fkR "LandSurveyModel" 206 11 52 RX12 TX12 87 := ⟨rfl, rfl, inX12, by decide, kw_1558, by decide⟩
theorem dX12_remain_45 : decode cX12_remain 45 = .ok (.iload_n 1, 1) := by decide +kernel
theorem dX12_remain_46 : decode cX12_remain 46 = .ok (.iload_n 3, 1) := by decide +kernel
theorem dX12_remain_47 : decode cX12_remain 47 = .ok (.bastore, 1) := by decide +kernel
theorem dX12_remain_48 : decode cX12_remain 48 = .ok (.iconst 1, 1) := by decide +kernel
theorem dX12_remain_49 : decode cX12_remain 49 = .ok (.ireturn, 1) := by decide +kernel
abbrev cX12_withdraw : ByteArray := prog_14_method_48_code
def yX12_withdraw : MethodName := ⟨RX12, "withdraw", "(I)Z"⟩
theorem okX12_withdraw : yok yX12_withdraw 1 := by decide +kernel
theorem dX12_withdraw_0 : decode cX12_withdraw 0 = .ok (.aload_n 0, 1) := by decide +kernel
theorem dX12_withdraw_1 : decode cX12_withdraw 1 = .ok (.iconst 0, 1) := by decide +kernel
theorem dX12_withdraw_2 : decode cX12_withdraw 2 = .ok (.putfield 1, 3) := by decide +kernel
theorem dX12_withdraw_5 : decode cX12_withdraw 5 = .ok (.aload_n 0, 1) := by decide +kernel
theorem dX12_withdraw_6 : decode cX12_withdraw 6 = .ok (.iload_n 1, 1) := by decide +kernel
theorem dX12_withdraw_7 : decode cX12_withdraw 7 = .ok (.invokevirtual 426, 3) := by decide +kernel
theorem dX12_withdraw_10 : decode cX12_withdraw 10 = .ok (.ifCond .eq 12, 3) := by decide +kernel
theorem dX12_withdraw_22 : decode cX12_withdraw 22 = .ok (.iconst 0, 1) := by decide +kernel
theorem dX12_withdraw_23 : decode cX12_withdraw 23 = .ok (.ireturn, 1) := by decide +kernel
theorem dX12_withdraw_13 : decode cX12_withdraw 13 = .ok (.aload_n 0, 1) := by decide +kernel
theorem dX12_withdraw_14 : decode cX12_withdraw 14 = .ok (.getfield 191, 3) := by decide +kernel
theorem dX12_withdraw_17 : decode cX12_withdraw 17 = .ok (.iload_n 1, 1) := by decide +kernel
theorem dX12_withdraw_18 : decode cX12_withdraw 18 = .ok (.iaload, 1) := by decide +kernel
theorem dX12_withdraw_19 : decode cX12_withdraw 19 = .ok (.ifCond .lt 5, 3) := by decide +kernel
theorem dX12_withdraw_24 : decode cX12_withdraw 24 = .ok (.aload_n 0, 1) := by decide +kernel
theorem dX12_withdraw_25 : decode cX12_withdraw 25 = .ok (.getfield 191, 3) := by decide +kernel
theorem dX12_withdraw_28 : decode cX12_withdraw 28 = .ok (.iload_n 1, 1) := by decide +kernel
theorem dX12_withdraw_29 : decode cX12_withdraw 29 = .ok (.aload_n 0, 1) := by decide +kernel
theorem dX12_withdraw_30 : decode cX12_withdraw 30 = .ok (.getfield 342, 3) := by decide +kernel
theorem dX12_withdraw_33 : decode cX12_withdraw 33 = .ok (.iastore, 1) := by decide +kernel
theorem dX12_withdraw_34 : decode cX12_withdraw 34 = .ok (.aload_n 0, 1) := by decide +kernel
theorem dX12_withdraw_35 : decode cX12_withdraw 35 = .ok (.iconst 1, 1) := by decide +kernel
theorem dX12_withdraw_36 : decode cX12_withdraw 36 = .ok (.putfield 290, 3) := by decide +kernel
theorem dX12_withdraw_39 : decode cX12_withdraw 39 = .ok (.iconst 1, 1) := by decide +kernel
theorem dX12_withdraw_40 : decode cX12_withdraw 40 = .ok (.ireturn, 1) := by decide +kernel
abbrev cX12_rivalry : ByteArray := prog_14_method_84_code
def yX12_rivalry : MethodName := ⟨RX12, "rivalry", "(I)Z"⟩
theorem okX12_rivalry : yok yX12_rivalry 1 := by decide +kernel
theorem kw_1585 : Cond.fieldLink "LandSurveyModel" 549 "LandSurveyModel" "rivals" "I" ∈ uu := uu_in (i := 1585) (by decide +kernel) (by decide +kernel)
theorem fk_LandSurveyModel_549 : fkI "LandSurveyModel" 549 11 79 RX12 TX12 87 := ⟨rfl, rfl, inX12, by decide, kw_1585, by decide⟩
theorem dX12_rivalry_0 : decode cX12_rivalry 0 = .ok (.aload_n 0, 1) := by decide +kernel
theorem dX12_rivalry_1 : decode cX12_rivalry 1 = .ok (.iconst 0, 1) := by decide +kernel
theorem dX12_rivalry_2 : decode cX12_rivalry 2 = .ok (.putfield 1, 3) := by decide +kernel
theorem dX12_rivalry_5 : decode cX12_rivalry 5 = .ok (.iload_n 1, 1) := by decide +kernel
theorem dX12_rivalry_6 : decode cX12_rivalry 6 = .ok (.iconst 0, 1) := by decide +kernel
theorem dX12_rivalry_7 : decode cX12_rivalry 7 = .ok (.sipush 999, 3) := by decide +kernel
theorem dX12_rivalry_10 : decode cX12_rivalry 10 = .ok (.invokestatic 415, 3) := by decide +kernel
theorem dX12_rivalry_13 : decode cX12_rivalry 13 = .ok (.ifCond .ne 5, 3) := by decide +kernel
theorem dX12_rivalry_18 : decode cX12_rivalry 18 = .ok (.aload_n 0, 1) := by decide +kernel
theorem dX12_rivalry_19 : decode cX12_rivalry 19 = .ok (.iload_n 1, 1) := by decide +kernel
theorem dX12_rivalry_20 : decode cX12_rivalry 20 = .ok (.putfield 549, 3) := by decide +kernel
theorem pk_LandSurveyModel_79 : pk RX12 TX12 87 79 tyX12 false := ⟨tyX12_ok, nmX12, rfl⟩
theorem dX12_rivalry_23 : decode cX12_rivalry 23 = .ok (.aload_n 0, 1) := by decide +kernel
theorem dX12_rivalry_24 : decode cX12_rivalry 24 = .ok (.iconst 1, 1) := by decide +kernel
theorem dX12_rivalry_25 : decode cX12_rivalry 25 = .ok (.putfield 290, 3) := by decide +kernel
theorem dX12_rivalry_28 : decode cX12_rivalry 28 = .ok (.iconst 1, 1) := by decide +kernel
theorem dX12_rivalry_29 : decode cX12_rivalry 29 = .ok (.ireturn, 1) := by decide +kernel
theorem dX12_rivalry_16 : decode cX12_rivalry 16 = .ok (.iconst 0, 1) := by decide +kernel
theorem dX12_rivalry_17 : decode cX12_rivalry 17 = .ok (.ireturn, 1) := by decide +kernel
abbrev cX12_isSheet : ByteArray := prog_14_method_109_code
def yX12_isSheet : MethodName := ⟨RX12, "isSheet", "(I)Z"⟩
theorem okX12_isSheet : yok yX12_isSheet 1 := by decide +kernel
theorem dX12_isSheet_0 : decode cX12_isSheet 0 = .ok (.iload_n 1, 1) := by decide +kernel
theorem dX12_isSheet_1 : decode cX12_isSheet 1 = .ok (.ifCond .lt 15, 3) := by decide +kernel
theorem dX12_isSheet_16 : decode cX12_isSheet 16 = .ok (.iconst 0, 1) := by decide +kernel
theorem dX12_isSheet_17 : decode cX12_isSheet 17 = .ok (.ireturn, 1) := by decide +kernel
theorem dX12_isSheet_4 : decode cX12_isSheet 4 = .ok (.iload_n 1, 1) := by decide +kernel
theorem dX12_isSheet_5 : decode cX12_isSheet 5 = .ok (.aload_n 0, 1) := by decide +kernel
theorem dX12_isSheet_6 : decode cX12_isSheet 6 = .ok (.getfield 603, 3) := by decide +kernel
theorem kw_1586 : Cond.fieldLink "LandSurveyModel" 603 "LandSurveyModel" "sheets" "I" ∈ uu := uu_in (i := 1586) (by decide +kernel) (by decide +kernel)
theorem fk_LandSurveyModel_603 : fkI "LandSurveyModel" 603 11 80 RX12 TX12 87 := ⟨rfl, rfl, inX12, by decide, kw_1586, by decide⟩
theorem dX12_isSheet_9 : decode cX12_isSheet 9 = .ok (.if_icmp .ge 7, 3) := by decide +kernel
theorem dX12_isSheet_12 : decode cX12_isSheet 12 = .ok (.iconst 1, 1) := by decide +kernel
theorem dX12_isSheet_13 : decode cX12_isSheet 13 = .ok (.goto 4, 3) := by decide +kernel
abbrev cX12_asked : ByteArray := prog_14_method_116_code
def yX12_asked : MethodName := ⟨RX12, "asked", "()I"⟩
theorem okX12_asked : yok yX12_asked 0 := by decide +kernel
theorem dX12_asked_0 : decode cX12_asked 0 = .ok (.iconst 0, 1) := by decide +kernel
theorem dX12_asked_1 : decode cX12_asked 1 = .ok (.istore_n 1, 1) := by decide +kernel
theorem dX12_asked_2 : decode cX12_asked 2 = .ok (.iconst 0, 1) := by decide +kernel
theorem dX12_asked_3 : decode cX12_asked 3 = .ok (.istore_n 2, 1) := by decide +kernel
theorem dX12_asked_4 : decode cX12_asked 4 = .ok (.iload_n 2, 1) := by decide +kernel
theorem dX12_asked_5 : decode cX12_asked 5 = .ok (.bipush 96, 2) := by decide +kernel
theorem dX12_asked_7 : decode cX12_asked 7 = .ok (.if_icmp .ge 26, 3) := by decide +kernel
theorem dX12_asked_33 : decode cX12_asked 33 = .ok (.iload_n 1, 1) := by decide +kernel
theorem dX12_asked_34 : decode cX12_asked 34 = .ok (.ireturn, 1) := by decide +kernel
theorem dX12_asked_10 : decode cX12_asked 10 = .ok (.iload_n 1, 1) := by decide +kernel
theorem dX12_asked_11 : decode cX12_asked 11 = .ok (.aload_n 0, 1) := by decide +kernel
theorem dX12_asked_12 : decode cX12_asked 12 = .ok (.getfield 275, 3) := by decide +kernel
theorem kw_1588 : Cond.fieldLink "LandSurveyModel" 275 "LandSurveyModel" "isAsked" "[Z" ∈ uu := uu_in (i := 1588) (by decide +kernel) (by decide +kernel)
theorem fk_LandSurveyModel_275 : fkR "LandSurveyModel" 275 11 82 RX12 TX12 87 := ⟨rfl, rfl, inX12, by decide, kw_1588, by decide⟩
theorem dX12_asked_15 : decode cX12_asked 15 = .ok (.iload_n 2, 1) := by decide +kernel
theorem dX12_asked_16 : decode cX12_asked 16 = .ok (.baload, 1) := by decide +kernel
theorem dX12_asked_17 : decode cX12_asked 17 = .ok (.ifCond .eq 7, 3) := by decide +kernel
theorem dX12_asked_24 : decode cX12_asked 24 = .ok (.iconst 0, 1) := by decide +kernel
theorem dX12_asked_25 : decode cX12_asked 25 = .ok (.iadd, 1) := by decide +kernel
theorem dX12_asked_26 : decode cX12_asked 26 = .ok (.istore_n 1, 1) := by decide +kernel
theorem dX12_asked_27 : decode cX12_asked 27 = .ok (.iinc 2 1, 3) := by decide +kernel
theorem dX12_asked_30 : decode cX12_asked 30 = .ok (.goto (-26), 3) := by decide +kernel
theorem dX12_asked_20 : decode cX12_asked 20 = .ok (.iconst 1, 1) := by decide +kernel
theorem dX12_asked_21 : decode cX12_asked 21 = .ok (.goto 4, 3) := by decide +kernel
abbrev cX12_question : ByteArray := prog_14_method_117_code
def yX12_question : MethodName := ⟨RX12, "question", "(IIZ)Z"⟩
theorem okX12_question : yok yX12_question 3 := by decide +kernel
theorem dX12_question_0 : decode cX12_question 0 = .ok (.aload_n 0, 1) := by decide +kernel
theorem dX12_question_1 : decode cX12_question 1 = .ok (.iconst 0, 1) := by decide +kernel
theorem dX12_question_2 : decode cX12_question 2 = .ok (.putfield 1, 3) := by decide +kernel
theorem dX12_question_5 : decode cX12_question 5 = .ok (.iload_n 1, 1) := by decide +kernel
theorem dX12_question_6 : decode cX12_question 6 = .ok (.iload_n 2, 1) := by decide +kernel
theorem dX12_question_7 : decode cX12_question 7 = .ok (.invokestatic 419, 3) := by decide +kernel
theorem dX12_question_10 : decode cX12_question 10 = .ok (.ifCond .eq 30, 3) := by decide +kernel
theorem dX12_question_40 : decode cX12_question 40 = .ok (.iconst 0, 1) := by decide +kernel
theorem dX12_question_41 : decode cX12_question 41 = .ok (.ireturn, 1) := by decide +kernel
theorem dX12_question_13 : decode cX12_question 13 = .ok (.iload_n 3, 1) := by decide +kernel
theorem dX12_question_14 : decode cX12_question 14 = .ok (.ifCond .eq 28, 3) := by decide +kernel
theorem dX12_question_42 : decode cX12_question 42 = .ok (.aload_n 0, 1) := by decide +kernel
theorem dX12_question_43 : decode cX12_question 43 = .ok (.getfield 275, 3) := by decide +kernel
theorem dX12_question_46 : decode cX12_question 46 = .ok (.bipush 12, 2) := by decide +kernel
theorem dX12_question_48 : decode cX12_question 48 = .ok (.iload_n 2, 1) := by decide +kernel
theorem dX12_question_49 : decode cX12_question 49 = .ok (.imul, 1) := by decide +kernel
theorem dX12_question_50 : decode cX12_question 50 = .ok (.iload_n 1, 1) := by decide +kernel
theorem dX12_question_51 : decode cX12_question 51 = .ok (.iadd, 1) := by decide +kernel
theorem dX12_question_52 : decode cX12_question 52 = .ok (.iload_n 3, 1) := by decide +kernel
theorem dX12_question_53 : decode cX12_question 53 = .ok (.bastore, 1) := by decide +kernel
theorem dX12_question_54 : decode cX12_question 54 = .ok (.iconst 1, 1) := by decide +kernel
theorem dX12_question_55 : decode cX12_question 55 = .ok (.ireturn, 1) := by decide +kernel
theorem dX12_question_17 : decode cX12_question 17 = .ok (.aload_n 0, 1) := by decide +kernel
theorem dX12_question_18 : decode cX12_question 18 = .ok (.getfield 275, 3) := by decide +kernel
theorem dX12_question_21 : decode cX12_question 21 = .ok (.bipush 12, 2) := by decide +kernel
theorem dX12_question_23 : decode cX12_question 23 = .ok (.iload_n 2, 1) := by decide +kernel
theorem dX12_question_24 : decode cX12_question 24 = .ok (.imul, 1) := by decide +kernel
theorem dX12_question_25 : decode cX12_question 25 = .ok (.iload_n 1, 1) := by decide +kernel
theorem dX12_question_26 : decode cX12_question 26 = .ok (.iadd, 1) := by decide +kernel
theorem dX12_question_27 : decode cX12_question 27 = .ok (.baload, 1) := by decide +kernel
theorem dX12_question_28 : decode cX12_question 28 = .ok (.ifCond .ne 14, 3) := by decide +kernel
theorem dX12_question_31 : decode cX12_question 31 = .ok (.aload_n 0, 1) := by decide +kernel
theorem dX12_question_32 : decode cX12_question 32 = .ok (.invokevirtual 612, 3) := by decide +kernel
theorem kw_2215 : Cond.code yX12_asked prog_14_method_116_code 3 (some .int) ∈ uu := uu_in (i := 2215) (by decide +kernel) (by decide +kernel)
theorem kw_2212 : Cond.methodLink "LandSurveyModel" 612 yX12_asked ∈ uu := uu_in (i := 2212) (by decide +kernel) (by decide +kernel)
theorem kw_2214 : Cond.instanceMethod yX12_asked ∈ uu := uu_in (i := 2214) (by decide +kernel) (by decide +kernel)
theorem kw_136 : Cond.selects "LandSurveyModel" yX12_asked yX12_asked ∈ uu := uu_in (i := 136) (by decide +kernel) (by decide +kernel)
theorem lk_LandSurveyModel_612 : lkV "LandSurveyModel" 612 yX12_asked cX12_asked 3 (some .int) 0 := ⟨kw_2212, kw_2214, kw_136, kw_152, kw_2215, okX12_asked⟩
theorem dX12_question_35 : decode cX12_question 35 = .ok (.bipush 8, 2) := by decide +kernel
theorem dX12_question_37 : decode cX12_question 37 = .ok (.if_icmp .ne 5, 3) := by decide +kernel
abbrev cX12_place : ByteArray := prog_14_method_118_code
def yX12_place : MethodName := ⟨RX12, "place", "(III)I"⟩
theorem okX12_place : yok yX12_place 3 := by decide +kernel
theorem kw_1589 : Cond.fieldLink "LandSurveyModel" 615 "LandSurveyModel" "places" "I" ∈ uu := uu_in (i := 1589) (by decide +kernel) (by decide +kernel)
theorem fk_LandSurveyModel_615 : fkI "LandSurveyModel" 615 11 83 RX12 TX12 87 := ⟨rfl, rfl, inX12, by decide, kw_1589, by decide⟩
theorem dX12_place_0 : decode cX12_place 0 = .ok (.aload_n 0, 1) := by decide +kernel
theorem dX12_place_1 : decode cX12_place 1 = .ok (.iconst 0, 1) := by decide +kernel
theorem dX12_place_2 : decode cX12_place 2 = .ok (.putfield 1, 3) := by decide +kernel
theorem dX12_place_5 : decode cX12_place 5 = .ok (.iload_n 1, 1) := by decide +kernel
theorem dX12_place_6 : decode cX12_place 6 = .ok (.iload_n 2, 1) := by decide +kernel
theorem dX12_place_7 : decode cX12_place 7 = .ok (.invokestatic 419, 3) := by decide +kernel
theorem dX12_place_10 : decode cX12_place 10 = .ok (.ifCond .eq 22, 3) := by decide +kernel
theorem dX12_place_32 : decode cX12_place 32 = .ok (.iconst (-1), 1) := by decide +kernel
theorem dX12_place_33 : decode cX12_place 33 = .ok (.ireturn, 1) := by decide +kernel
theorem dX12_place_13 : decode cX12_place 13 = .ok (.iload_n 3, 1) := by decide +kernel
theorem dX12_place_14 : decode cX12_place 14 = .ok (.iconst 1, 1) := by decide +kernel
theorem dX12_place_15 : decode cX12_place 15 = .ok (.bipush 99, 2) := by decide +kernel
theorem dX12_place_17 : decode cX12_place 17 = .ok (.invokestatic 415, 3) := by decide +kernel
theorem dX12_place_20 : decode cX12_place 20 = .ok (.ifCond .eq 12, 3) := by decide +kernel
theorem dX12_place_23 : decode cX12_place 23 = .ok (.aload_n 0, 1) := by decide +kernel
theorem dX12_place_24 : decode cX12_place 24 = .ok (.getfield 615, 3) := by decide +kernel
theorem dX12_place_27 : decode cX12_place 27 = .ok (.bipush 8, 2) := by decide +kernel
theorem dX12_place_29 : decode cX12_place 29 = .ok (.if_icmp .ne 5, 3) := by decide +kernel
theorem dX12_place_34 : decode cX12_place 34 = .ok (.aload_n 0, 1) := by decide +kernel
theorem dX12_place_35 : decode cX12_place 35 = .ok (.getfield 278, 3) := by decide +kernel
theorem kw_1590 : Cond.fieldLink "LandSurveyModel" 278 "LandSurveyModel" "placeAt" "[I" ∈ uu := uu_in (i := 1590) (by decide +kernel) (by decide +kernel)
theorem fk_LandSurveyModel_278 : fkR "LandSurveyModel" 278 11 84 RX12 TX12 87 := ⟨rfl, rfl, inX12, by decide, kw_1590, by decide⟩
theorem dX12_place_38 : decode cX12_place 38 = .ok (.aload_n 0, 1) := by decide +kernel
theorem dX12_place_39 : decode cX12_place 39 = .ok (.getfield 615, 3) := by decide +kernel
theorem dX12_place_42 : decode cX12_place 42 = .ok (.bipush 12, 2) := by decide +kernel
theorem dX12_place_44 : decode cX12_place 44 = .ok (.iload_n 2, 1) := by decide +kernel
theorem dX12_place_45 : decode cX12_place 45 = .ok (.imul, 1) := by decide +kernel
theorem dX12_place_46 : decode cX12_place 46 = .ok (.iload_n 1, 1) := by decide +kernel
theorem dX12_place_47 : decode cX12_place 47 = .ok (.iadd, 1) := by decide +kernel
theorem dX12_place_48 : decode cX12_place 48 = .ok (.iastore, 1) := by decide +kernel
theorem dX12_place_49 : decode cX12_place 49 = .ok (.aload_n 0, 1) := by decide +kernel
theorem dX12_place_50 : decode cX12_place 50 = .ok (.getfield 281, 3) := by decide +kernel
theorem kw_1591 : Cond.fieldLink "LandSurveyModel" 281 "LandSurveyModel" "placeCost" "[I" ∈ uu := uu_in (i := 1591) (by decide +kernel) (by decide +kernel)
theorem fk_LandSurveyModel_281 : fkR "LandSurveyModel" 281 11 85 RX12 TX12 87 := ⟨rfl, rfl, inX12, by decide, kw_1591, by decide⟩
theorem dX12_place_53 : decode cX12_place 53 = .ok (.aload_n 0, 1) := by decide +kernel
theorem dX12_place_54 : decode cX12_place 54 = .ok (.getfield 615, 3) := by decide +kernel
theorem dX12_place_57 : decode cX12_place 57 = .ok (.iload_n 3, 1) := by decide +kernel
theorem dX12_place_58 : decode cX12_place 58 = .ok (.iastore, 1) := by decide +kernel
theorem dX12_place_59 : decode cX12_place 59 = .ok (.aload_n 0, 1) := by decide +kernel
theorem dX12_place_60 : decode cX12_place 60 = .ok (.dup, 1) := by decide +kernel
theorem dX12_place_61 : decode cX12_place 61 = .ok (.getfield 615, 3) := by decide +kernel
theorem dX12_place_64 : decode cX12_place 64 = .ok (.iconst 1, 1) := by decide +kernel
theorem dX12_place_65 : decode cX12_place 65 = .ok (.iadd, 1) := by decide +kernel
theorem dX12_place_66 : decode cX12_place 66 = .ok (.putfield 615, 3) := by decide +kernel
theorem pk_LandSurveyModel_83 : pk RX12 TX12 87 83 tyX12 false := ⟨tyX12_ok, nmX12, rfl⟩
theorem dX12_place_69 : decode cX12_place 69 = .ok (.aload_n 0, 1) := by decide +kernel
theorem dX12_place_70 : decode cX12_place 70 = .ok (.getfield 615, 3) := by decide +kernel
theorem dX12_place_73 : decode cX12_place 73 = .ok (.iconst 1, 1) := by decide +kernel
theorem dX12_place_74 : decode cX12_place 74 = .ok (.isub, 1) := by decide +kernel
theorem dX12_place_75 : decode cX12_place 75 = .ok (.ireturn, 1) := by decide +kernel
abbrev cX12_isSet : ByteArray := prog_14_method_83_code
def yX12_isSet : MethodName := ⟨RX12, "isSet", "(I)Z"⟩
theorem okX12_isSet : yok yX12_isSet 1 := by decide +kernel
theorem dX12_isSet_0 : decode cX12_isSet 0 = .ok (.iload_n 1, 1) := by decide +kernel
theorem dX12_isSet_1 : decode cX12_isSet 1 = .ok (.ifCond .lt 17, 3) := by decide +kernel
theorem dX12_isSet_18 : decode cX12_isSet 18 = .ok (.iconst 0, 1) := by decide +kernel
theorem dX12_isSet_19 : decode cX12_isSet 19 = .ok (.ireturn, 1) := by decide +kernel
theorem dX12_isSet_4 : decode cX12_isSet 4 = .ok (.iload_n 1, 1) := by decide +kernel
theorem dX12_isSet_5 : decode cX12_isSet 5 = .ok (.iconst 1, 1) := by decide +kernel
theorem dX12_isSet_6 : decode cX12_isSet 6 = .ok (.aload_n 0, 1) := by decide +kernel
theorem dX12_isSet_7 : decode cX12_isSet 7 = .ok (.getfield 477, 3) := by decide +kernel
theorem kw_1563 : Cond.fieldLink "LandSurveyModel" 477 "LandSurveyModel" "breaks" "I" ∈ uu := uu_in (i := 1563) (by decide +kernel) (by decide +kernel)
theorem fk_LandSurveyModel_477 : fkI "LandSurveyModel" 477 11 57 RX12 TX12 87 := ⟨rfl, rfl, inX12, by decide, kw_1563, by decide⟩
theorem dX12_isSet_10 : decode cX12_isSet 10 = .ok (.ishl, 1) := by decide +kernel
theorem dX12_isSet_11 : decode cX12_isSet 11 = .ok (.if_icmp .ge 7, 3) := by decide +kernel
theorem dX12_isSet_14 : decode cX12_isSet 14 = .ok (.iconst 1, 1) := by decide +kernel
theorem dX12_isSet_15 : decode cX12_isSet 15 = .ok (.goto 4, 3) := by decide +kernel
abbrev cX12_isOne : ByteArray := prog_14_method_96_code
def yX12_isOne : MethodName := ⟨RX12, "isOne", "(I)Z"⟩
theorem okX12_isOne : yok yX12_isOne 1 := by decide +kernel
theorem dX12_isOne_0 : decode cX12_isOne 0 = .ok (.iload_n 0, 1) := by decide +kernel
theorem dX12_isOne_1 : decode cX12_isOne 1 = .ok (.ifCond .eq 15, 3) := by decide +kernel
theorem dX12_isOne_16 : decode cX12_isOne 16 = .ok (.iconst 0, 1) := by decide +kernel
theorem dX12_isOne_17 : decode cX12_isOne 17 = .ok (.ireturn, 1) := by decide +kernel
theorem dX12_isOne_4 : decode cX12_isOne 4 = .ok (.iload_n 0, 1) := by decide +kernel
theorem dX12_isOne_5 : decode cX12_isOne 5 = .ok (.iload_n 0, 1) := by decide +kernel
theorem dX12_isOne_6 : decode cX12_isOne 6 = .ok (.iconst 1, 1) := by decide +kernel
theorem dX12_isOne_7 : decode cX12_isOne 7 = .ok (.isub, 1) := by decide +kernel
theorem dX12_isOne_8 : decode cX12_isOne 8 = .ok (.iand, 1) := by decide +kernel
theorem dX12_isOne_9 : decode cX12_isOne 9 = .ok (.ifCond .ne 7, 3) := by decide +kernel
theorem dX12_isOne_12 : decode cX12_isOne 12 = .ok (.iconst 1, 1) := by decide +kernel
theorem dX12_isOne_13 : decode cX12_isOne 13 = .ok (.goto 4, 3) := by decide +kernel
abbrev cX12_halfDown : ByteArray := prog_14_method_122_code
def yX12_halfDown : MethodName := ⟨RX12, "halfDown", "(I)I"⟩
theorem okX12_halfDown : yok yX12_halfDown 1 := by decide +kernel
theorem dX12_halfDown_0 : decode cX12_halfDown 0 = .ok (.iload_n 0, 1) := by decide +kernel
theorem dX12_halfDown_1 : decode cX12_halfDown 1 = .ok (.ifCond .ge 17, 3) := by decide +kernel
theorem dX12_halfDown_18 : decode cX12_halfDown 18 = .ok (.iload_n 0, 1) := by decide +kernel
theorem dX12_halfDown_19 : decode cX12_halfDown 19 = .ok (.iconst 2, 1) := by decide +kernel
theorem dX12_halfDown_20 : decode cX12_halfDown 20 = .ok (.idiv, 1) := by decide +kernel
theorem dX12_halfDown_21 : decode cX12_halfDown 21 = .ok (.ireturn, 1) := by decide +kernel
theorem dX12_halfDown_4 : decode cX12_halfDown 4 = .ok (.iload_n 0, 1) := by decide +kernel
theorem dX12_halfDown_5 : decode cX12_halfDown 5 = .ok (.iconst 2, 1) := by decide +kernel
theorem dX12_halfDown_6 : decode cX12_halfDown 6 = .ok (.irem, 1) := by decide +kernel
theorem dX12_halfDown_7 : decode cX12_halfDown 7 = .ok (.ifCond .eq 11, 3) := by decide +kernel
theorem dX12_halfDown_10 : decode cX12_halfDown 10 = .ok (.iload_n 0, 1) := by decide +kernel
theorem dX12_halfDown_11 : decode cX12_halfDown 11 = .ok (.iconst 2, 1) := by decide +kernel
theorem dX12_halfDown_12 : decode cX12_halfDown 12 = .ok (.idiv, 1) := by decide +kernel
theorem dX12_halfDown_13 : decode cX12_halfDown 13 = .ok (.iconst 1, 1) := by decide +kernel
theorem dX12_halfDown_14 : decode cX12_halfDown 14 = .ok (.isub, 1) := by decide +kernel
theorem dX12_halfDown_15 : decode cX12_halfDown 15 = .ok (.goto 6, 3) := by decide +kernel
abbrev cX12_isIn : ByteArray := prog_14_method_70_code
def yX12_isIn : MethodName := ⟨RX12, "isIn", "(JI)Z"⟩
theorem okX12_isIn : yok yX12_isIn 2 := by decide +kernel
theorem dX12_isIn_0 : decode cX12_isIn 0 = .ok (.lload_n 0, 1) := by decide +kernel
theorem dX12_isIn_1 : decode cX12_isIn 1 = .ok (.iload_n 2, 1) := by decide +kernel
theorem dX12_isIn_2 : decode cX12_isIn 2 = .ok (.lshr, 1) := by decide +kernel
theorem dX12_isIn_3 : decode cX12_isIn 3 = .ok (.lconst 1, 1) := by decide +kernel
theorem dX12_isIn_4 : decode cX12_isIn 4 = .ok (.land, 1) := by decide +kernel
theorem dX12_isIn_5 : decode cX12_isIn 5 = .ok (.lconst 1, 1) := by decide +kernel
theorem dX12_isIn_6 : decode cX12_isIn 6 = .ok (.lcmp, 1) := by decide +kernel
theorem dX12_isIn_7 : decode cX12_isIn 7 = .ok (.ifCond .ne 7, 3) := by decide +kernel
theorem dX12_isIn_14 : decode cX12_isIn 14 = .ok (.iconst 0, 1) := by decide +kernel
theorem dX12_isIn_15 : decode cX12_isIn 15 = .ok (.ireturn, 1) := by decide +kernel
theorem dX12_isIn_10 : decode cX12_isIn 10 = .ok (.iconst 1, 1) := by decide +kernel
theorem dX12_isIn_11 : decode cX12_isIn 11 = .ok (.goto 4, 3) := by decide +kernel
abbrev cX12_isDouble : ByteArray := prog_14_method_113_code
def yX12_isDouble : MethodName := ⟨RX12, "isDouble", "(II)Z"⟩
theorem okX12_isDouble : yok yX12_isDouble 2 := by decide +kernel
theorem dX12_isDouble_0 : decode cX12_isDouble 0 = .ok (.aload_n 0, 1) := by decide +kernel
theorem dX12_isDouble_1 : decode cX12_isDouble 1 = .ok (.getfield 209, 3) := by decide +kernel
theorem kw_1559 : Cond.fieldLink "LandSurveyModel" 209 "LandSurveyModel" "isSaying" "[Z" ∈ uu := uu_in (i := 1559) (by decide +kernel) (by decide +kernel)
theorem fk_LandSurveyModel_209 : fkR "LandSurveyModel" 209 11 53 RX12 TX12 87 := ⟨rfl, rfl, inX12, by decide, kw_1559, by decide⟩
theorem dX12_isDouble_4 : decode cX12_isDouble 4 = .ok (.iload_n 1, 1) := by decide +kernel
theorem dX12_isDouble_5 : decode cX12_isDouble 5 = .ok (.baload, 1) := by decide +kernel
theorem dX12_isDouble_6 : decode cX12_isDouble 6 = .ok (.ifCond .eq 46, 3) := by decide +kernel
theorem dX12_isDouble_52 : decode cX12_isDouble 52 = .ok (.iconst 0, 1) := by decide +kernel
theorem dX12_isDouble_53 : decode cX12_isDouble 53 = .ok (.ireturn, 1) := by decide +kernel
theorem dX12_isDouble_9 : decode cX12_isDouble 9 = .ok (.aload_n 0, 1) := by decide +kernel
theorem dX12_isDouble_10 : decode cX12_isDouble 10 = .ok (.getfield 209, 3) := by decide +kernel
theorem dX12_isDouble_13 : decode cX12_isDouble 13 = .ok (.iload_n 2, 1) := by decide +kernel
theorem dX12_isDouble_14 : decode cX12_isDouble 14 = .ok (.baload, 1) := by decide +kernel
theorem dX12_isDouble_15 : decode cX12_isDouble 15 = .ok (.ifCond .eq 37, 3) := by decide +kernel
theorem dX12_isDouble_18 : decode cX12_isDouble 18 = .ok (.aload_n 0, 1) := by decide +kernel
theorem dX12_isDouble_19 : decode cX12_isDouble 19 = .ok (.getfield 176, 3) := by decide +kernel
theorem dX12_isDouble_22 : decode cX12_isDouble 22 = .ok (.iload_n 1, 1) := by decide +kernel
theorem dX12_isDouble_23 : decode cX12_isDouble 23 = .ok (.iaload, 1) := by decide +kernel
theorem dX12_isDouble_24 : decode cX12_isDouble 24 = .ok (.aload_n 0, 1) := by decide +kernel
theorem dX12_isDouble_25 : decode cX12_isDouble 25 = .ok (.getfield 176, 3) := by decide +kernel
theorem dX12_isDouble_28 : decode cX12_isDouble 28 = .ok (.iload_n 2, 1) := by decide +kernel
theorem dX12_isDouble_29 : decode cX12_isDouble 29 = .ok (.iaload, 1) := by decide +kernel
theorem dX12_isDouble_30 : decode cX12_isDouble 30 = .ok (.if_icmp .ne 22, 3) := by decide +kernel
theorem dX12_isDouble_33 : decode cX12_isDouble 33 = .ok (.aload_n 0, 1) := by decide +kernel
theorem dX12_isDouble_34 : decode cX12_isDouble 34 = .ok (.getfield 179, 3) := by decide +kernel
theorem dX12_isDouble_37 : decode cX12_isDouble 37 = .ok (.iload_n 1, 1) := by decide +kernel
theorem dX12_isDouble_38 : decode cX12_isDouble 38 = .ok (.iaload, 1) := by decide +kernel
theorem dX12_isDouble_39 : decode cX12_isDouble 39 = .ok (.aload_n 0, 1) := by decide +kernel
theorem dX12_isDouble_40 : decode cX12_isDouble 40 = .ok (.getfield 179, 3) := by decide +kernel
theorem dX12_isDouble_43 : decode cX12_isDouble 43 = .ok (.iload_n 2, 1) := by decide +kernel
theorem dX12_isDouble_44 : decode cX12_isDouble 44 = .ok (.iaload, 1) := by decide +kernel
theorem dX12_isDouble_45 : decode cX12_isDouble 45 = .ok (.if_icmp .ne 7, 3) := by decide +kernel
theorem dX12_isDouble_48 : decode cX12_isDouble 48 = .ok (.iconst 1, 1) := by decide +kernel
theorem dX12_isDouble_49 : decode cX12_isDouble 49 = .ok (.goto 4, 3) := by decide +kernel
def wr_k_X12_isLetter : List Nat := []
set_option maxRecDepth 100000 in
set_option maxHeartbeats 4000000 in
theorem k_X12_isLetter (l : Launch) (D : va_G) (cy : Nat → ClassId) (w : Nat → Nat) (z0 : Nat)  {h : Hp} {a0 : Int}  (O : Okh h) (fa0 : (-2147483648) ≤ a0 ∧ a0 ≤ 2147483647) : MI l D cy w z0 yX12_isLetter cX12_isLetter 1 (some .boolean) 0 0 0 0 [.inl a0] h (fun v h1 => Okh h1 ∧ Fx wr_k_X12_isLetter h h1 ∧ (0 ≤ v ∧ v ≤ 1) ∧ ((v = 1 ∧ 97 ≤ a0 ∧ a0 ≤ 122) ∨ (v = 0 ∧ (a0 < 97 ∨ 122 < a0)))) := by
  refine hm_go (by decide +kernel) (Nat.le_of_ble_eq_true rfl) (fun p e s m below meth c C hr hn => ?_)
  refine g_iload_n C rfl 0 rfl dX12_isLetter_0 ?_
  refine g_bipush C (by decide) dX12_isLetter_1 ?_
  refine g_icmp_lt C fa0 (iw (il 97) (by decide) (by decide)) 16 (by decide) dX12_isLetter_3 (fun q1 => ?_) (fun q2 => ?_)
  · have f3 : (-2147483648 : Int) ≤ a0 ∧ a0 ≤ (96 : Int) := r_lt fa0 (il 97) q1 (by decide) (by decide)
    refine g_iconst C dX12_isLetter_16 ?_
    exact g_iret C hr (nar_z2 (iw (il 0) (by decide) (by decide))).1 (iw (il 0) (by decide) (by decide)) ⟨O, Fx.rf, (iw (il 0) (by decide) (by decide)), (by omega)⟩ (by decide) (by decide) dX12_isLetter_17
  · have f4 : (97 : Int) ≤ a0 ∧ a0 ≤ (2147483647 : Int) := r_ge fa0 (il 97) q2 (by decide) (by decide)
    refine g_iload_n C rfl 0 rfl dX12_isLetter_6 ?_
    refine g_bipush C (by decide) dX12_isLetter_7 ?_
    refine g_icmp_gt C (iw f4 (by decide) (by decide)) (iw (il 122) (by decide) (by decide)) 16 (by decide) dX12_isLetter_9 (fun q5 => ?_) (fun q6 => ?_)
    · have f7 : (123 : Int) ≤ a0 ∧ a0 ≤ (2147483647 : Int) := r_gt f4 (il 122) q5 (by decide) (by decide)
      refine g_iconst C dX12_isLetter_16 ?_
      exact g_iret C hr (nar_z2 (iw (il 0) (by decide) (by decide))).1 (iw (il 0) (by decide) (by decide)) ⟨O, Fx.rf, (iw (il 0) (by decide) (by decide)), (by omega)⟩ (by decide) (by decide) dX12_isLetter_17
    · have f8 : (97 : Int) ≤ a0 ∧ a0 ≤ (122 : Int) := r_le f4 (il 122) q6 (by decide) (by decide)
      refine g_iconst C dX12_isLetter_12 ?_
      refine g_goto C 17 (by decide) dX12_isLetter_13 ?_
      exact g_iret C hr (nar_z2 (iw (il 1) (by decide) (by decide))).1 (iw (il 1) (by decide) (by decide)) ⟨O, Fx.rf, (iw (il 1) (by decide) (by decide)), (by omega)⟩ (by decide) (by decide) dX12_isLetter_17
def wr_k_X12_isDigit : List Nat := []
set_option maxRecDepth 100000 in
set_option maxHeartbeats 4000000 in
theorem k_X12_isDigit (l : Launch) (D : va_G) (cy : Nat → ClassId) (w : Nat → Nat) (z0 : Nat)  {h : Hp} {a0 : Int}  (O : Okh h) (fa0 : (-2147483648) ≤ a0 ∧ a0 ≤ 2147483647) : MI l D cy w z0 yX12_isDigit cX12_isDigit 1 (some .boolean) 0 0 0 0 [.inl a0] h (fun v h1 => Okh h1 ∧ Fx wr_k_X12_isDigit h h1 ∧ (0 ≤ v ∧ v ≤ 1) ∧ ((v = 1 ∧ 48 ≤ a0 ∧ a0 ≤ 57) ∨ (v = 0 ∧ (a0 < 48 ∨ 57 < a0)))) := by
  refine hm_go (by decide +kernel) (Nat.le_of_ble_eq_true rfl) (fun p e s m below meth c C hr hn => ?_)
  refine g_iload_n C rfl 0 rfl dX12_isDigit_0 ?_
  refine g_bipush C (by decide) dX12_isDigit_1 ?_
  refine g_icmp_lt C fa0 (iw (il 48) (by decide) (by decide)) 16 (by decide) dX12_isDigit_3 (fun q1 => ?_) (fun q2 => ?_)
  · have f3 : (-2147483648 : Int) ≤ a0 ∧ a0 ≤ (47 : Int) := r_lt fa0 (il 48) q1 (by decide) (by decide)
    refine g_iconst C dX12_isDigit_16 ?_
    exact g_iret C hr (nar_z2 (iw (il 0) (by decide) (by decide))).1 (iw (il 0) (by decide) (by decide)) ⟨O, Fx.rf, (iw (il 0) (by decide) (by decide)), (by omega)⟩ (by decide) (by decide) dX12_isDigit_17
  · have f4 : (48 : Int) ≤ a0 ∧ a0 ≤ (2147483647 : Int) := r_ge fa0 (il 48) q2 (by decide) (by decide)
    refine g_iload_n C rfl 0 rfl dX12_isDigit_6 ?_
    refine g_bipush C (by decide) dX12_isDigit_7 ?_
    refine g_icmp_gt C (iw f4 (by decide) (by decide)) (iw (il 57) (by decide) (by decide)) 16 (by decide) dX12_isDigit_9 (fun q5 => ?_) (fun q6 => ?_)
    · have f7 : (58 : Int) ≤ a0 ∧ a0 ≤ (2147483647 : Int) := r_gt f4 (il 57) q5 (by decide) (by decide)
      refine g_iconst C dX12_isDigit_16 ?_
      exact g_iret C hr (nar_z2 (iw (il 0) (by decide) (by decide))).1 (iw (il 0) (by decide) (by decide)) ⟨O, Fx.rf, (iw (il 0) (by decide) (by decide)), (by omega)⟩ (by decide) (by decide) dX12_isDigit_17
    · have f8 : (48 : Int) ≤ a0 ∧ a0 ≤ (57 : Int) := r_le f4 (il 57) q6 (by decide) (by decide)
      refine g_iconst C dX12_isDigit_12 ?_
      refine g_goto C 17 (by decide) dX12_isDigit_13 ?_
      exact g_iret C hr (nar_z2 (iw (il 1) (by decide) (by decide))).1 (iw (il 1) (by decide) (by decide)) ⟨O, Fx.rf, (iw (il 1) (by decide) (by decide)), (by omega)⟩ (by decide) (by decide) dX12_isDigit_17
def wr_k_X12_rank : List Nat := []
set_option maxRecDepth 100000 in
set_option maxHeartbeats 4000000 in
theorem k_X12_rank (l : Launch) (D : va_G) (cy : Nat → ClassId) (w : Nat → Nat) (z0 : Nat)  {h : Hp} {a0 : Int}  (O : Okh h) (fa0 : (-2147483648) ≤ a0 ∧ a0 ≤ 2147483647) : MI l D cy w z0 yX12_rank cX12_rank 1 (some .int) 1 20 0 0 [.inl a0] h (fun v h1 => Okh h1 ∧ Fx wr_k_X12_rank h h1 ∧ ((-2147483648) ≤ v ∧ v ≤ 2147483647)) := by
  refine hm_go (by decide +kernel) (Nat.le_of_ble_eq_true rfl) (fun p e s m below meth c C hr hn => ?_)
  refine g_iload_n C rfl 0 rfl dX12_rank_0 ?_
  refine g_callI (st := []) (gc_S C lk_LandSurveyModel_294 (k_X12_isLetter l D cy w z0 O fa0) rfl ⟨by decide, by decide⟩ (Nat.le_of_ble_eq_true rfl) dX12_rank_1 ⟨(by decide), (by decide)⟩) (fun r1 h2 f4 K3 => ?_)
  obtain ⟨O5, F6, f7, p8⟩ := K3
  refine g_if_eq C (iw f7 (by decide) (by decide)) 14 (by decide) dX12_rank_4 (fun q9 => ?_) (fun q10 => ?_)
  · have f11 : (0 : Int) ≤ r1 ∧ r1 ≤ (0 : Int) := ii f7 (r_eq (il 0) q9) (by decide) (by decide)
    refine g_iload_n C rfl 0 rfl dX12_rank_14 ?_
    refine g_bipush C (by decide) dX12_rank_15 ?_
    have f12 : (-2147483648 : Int) ≤ (w32 (a0 - 21)) ∧ (w32 (a0 - 21)) ≤ (2147483647 : Int) := w32_inR _
    refine g_isubW C dX12_rank_17 ?_
    exact g_iret C hr rfl f12 ⟨O5, ((Fx.rf (wr := wr_k_X12_rank)).call F6 rfl), f12⟩ (by decide) (by decide) dX12_rank_18
  · have f13 : (1 : Int) ≤ r1 ∧ r1 ≤ (1 : Int) := r_nl f7 q10
    refine g_iload_n C rfl 0 rfl dX12_rank_7 ?_
    refine g_bipush C (by decide) dX12_rank_8 ?_
    have f14 : (-2147483648 : Int) ≤ (w32 (a0 - 96)) ∧ (w32 (a0 - 96)) ≤ (2147483647 : Int) := w32_inR _
    refine g_isubW C dX12_rank_10 ?_
    refine g_goto C 18 (by decide) dX12_rank_11 ?_
    exact g_iret C hr rfl f14 ⟨O5, ((Fx.rf (wr := wr_k_X12_rank)).call F6 rfl), f14⟩ (by decide) (by decide) dX12_rank_18
def wr_k_X12_isSignOf : List Nat := []
set_option maxRecDepth 100000 in
set_option maxHeartbeats 4000000 in
theorem k_X12_isSignOf (l : Launch) (D : va_G) (cy : Nat → ClassId) (w : Nat → Nat) (z0 : Nat)  {h : Hp} {a0 : Int}  (O : Okh h) (fa0 : (-2147483648) ≤ a0 ∧ a0 ≤ 2147483647) : MI l D cy w z0 yX12_isSignOf cX12_isSignOf 1 (some .boolean) 0 0 0 0 [.inl a0] h (fun v h1 => Okh h1 ∧ Fx wr_k_X12_isSignOf h h1 ∧ (0 ≤ v ∧ v ≤ 1)) := by
  refine hm_go (by decide +kernel) (Nat.le_of_ble_eq_true rfl) (fun p e s m below meth c C hr hn => ?_)
  refine g_iload_n C rfl 0 rfl dX12_isSignOf_0 ?_
  refine g_bipush C (by decide) dX12_isSignOf_1 ?_
  refine g_icmp_eq C fa0 (iw (il 40) (by decide) (by decide)) 42 (by decide) dX12_isSignOf_3 (fun q1 => ?_) (fun q2 => ?_)
  · have f3 : (40 : Int) ≤ a0 ∧ a0 ≤ (40 : Int) := ii fa0 (r_eq (il 40) q1) (by decide) (by decide)
    refine g_iconst C dX12_isSignOf_42 ?_
    refine g_goto C 47 (by decide) dX12_isSignOf_43 ?_
    exact g_iret C hr (nar_z2 (iw (il 1) (by decide) (by decide))).1 (iw (il 1) (by decide) (by decide)) ⟨O, Fx.rf, (iw (il 1) (by decide) (by decide))⟩ (by decide) (by decide) dX12_isSignOf_47
  · refine g_iload_n C rfl 0 rfl dX12_isSignOf_6 ?_
    refine g_bipush C (by decide) dX12_isSignOf_7 ?_
    refine g_icmp_eq C fa0 (iw (il 41) (by decide) (by decide)) 42 (by decide) dX12_isSignOf_9 (fun q4 => ?_) (fun q5 => ?_)
    · have f6 : (41 : Int) ≤ a0 ∧ a0 ≤ (41 : Int) := ii fa0 (r_eq (il 41) q4) (by decide) (by decide)
      refine g_iconst C dX12_isSignOf_42 ?_
      refine g_goto C 47 (by decide) dX12_isSignOf_43 ?_
      exact g_iret C hr (nar_z2 (iw (il 1) (by decide) (by decide))).1 (iw (il 1) (by decide) (by decide)) ⟨O, Fx.rf, (iw (il 1) (by decide) (by decide))⟩ (by decide) (by decide) dX12_isSignOf_47
    · refine g_iload_n C rfl 0 rfl dX12_isSignOf_12 ?_
      refine g_bipush C (by decide) dX12_isSignOf_13 ?_
      refine g_icmp_eq C fa0 (iw (il 59) (by decide) (by decide)) 42 (by decide) dX12_isSignOf_15 (fun q7 => ?_) (fun q8 => ?_)
      · have f9 : (59 : Int) ≤ a0 ∧ a0 ≤ (59 : Int) := ii fa0 (r_eq (il 59) q7) (by decide) (by decide)
        refine g_iconst C dX12_isSignOf_42 ?_
        refine g_goto C 47 (by decide) dX12_isSignOf_43 ?_
        exact g_iret C hr (nar_z2 (iw (il 1) (by decide) (by decide))).1 (iw (il 1) (by decide) (by decide)) ⟨O, Fx.rf, (iw (il 1) (by decide) (by decide))⟩ (by decide) (by decide) dX12_isSignOf_47
      · refine g_iload_n C rfl 0 rfl dX12_isSignOf_18 ?_
        refine g_bipush C (by decide) dX12_isSignOf_19 ?_
        refine g_icmp_eq C fa0 (iw (il 61) (by decide) (by decide)) 42 (by decide) dX12_isSignOf_21 (fun q10 => ?_) (fun q11 => ?_)
        · have f12 : (61 : Int) ≤ a0 ∧ a0 ≤ (61 : Int) := ii fa0 (r_eq (il 61) q10) (by decide) (by decide)
          refine g_iconst C dX12_isSignOf_42 ?_
          refine g_goto C 47 (by decide) dX12_isSignOf_43 ?_
          exact g_iret C hr (nar_z2 (iw (il 1) (by decide) (by decide))).1 (iw (il 1) (by decide) (by decide)) ⟨O, Fx.rf, (iw (il 1) (by decide) (by decide))⟩ (by decide) (by decide) dX12_isSignOf_47
        · refine g_iload_n C rfl 0 rfl dX12_isSignOf_24 ?_
          refine g_bipush C (by decide) dX12_isSignOf_25 ?_
          refine g_icmp_eq C fa0 (iw (il 60) (by decide) (by decide)) 42 (by decide) dX12_isSignOf_27 (fun q13 => ?_) (fun q14 => ?_)
          · have f15 : (60 : Int) ≤ a0 ∧ a0 ≤ (60 : Int) := ii fa0 (r_eq (il 60) q13) (by decide) (by decide)
            refine g_iconst C dX12_isSignOf_42 ?_
            refine g_goto C 47 (by decide) dX12_isSignOf_43 ?_
            exact g_iret C hr (nar_z2 (iw (il 1) (by decide) (by decide))).1 (iw (il 1) (by decide) (by decide)) ⟨O, Fx.rf, (iw (il 1) (by decide) (by decide))⟩ (by decide) (by decide) dX12_isSignOf_47
          · refine g_iload_n C rfl 0 rfl dX12_isSignOf_30 ?_
            refine g_bipush C (by decide) dX12_isSignOf_31 ?_
            refine g_icmp_eq C fa0 (iw (il 43) (by decide) (by decide)) 42 (by decide) dX12_isSignOf_33 (fun q16 => ?_) (fun q17 => ?_)
            · have f18 : (43 : Int) ≤ a0 ∧ a0 ≤ (43 : Int) := ii fa0 (r_eq (il 43) q16) (by decide) (by decide)
              refine g_iconst C dX12_isSignOf_42 ?_
              refine g_goto C 47 (by decide) dX12_isSignOf_43 ?_
              exact g_iret C hr (nar_z2 (iw (il 1) (by decide) (by decide))).1 (iw (il 1) (by decide) (by decide)) ⟨O, Fx.rf, (iw (il 1) (by decide) (by decide))⟩ (by decide) (by decide) dX12_isSignOf_47
            · refine g_iload_n C rfl 0 rfl dX12_isSignOf_36 ?_
              refine g_bipush C (by decide) dX12_isSignOf_37 ?_
              refine g_icmp_ne C fa0 (iw (il 45) (by decide) (by decide)) 46 (by decide) dX12_isSignOf_39 (fun q19 => ?_) (fun q20 => ?_)
              · refine g_iconst C dX12_isSignOf_46 ?_
                exact g_iret C hr (nar_z2 (iw (il 0) (by decide) (by decide))).1 (iw (il 0) (by decide) (by decide)) ⟨O, Fx.rf, (iw (il 0) (by decide) (by decide))⟩ (by decide) (by decide) dX12_isSignOf_47
              · have f21 : (45 : Int) ≤ a0 ∧ a0 ≤ (45 : Int) := ii fa0 (r_eq (il 45) q20) (by decide) (by decide)
                refine g_iconst C dX12_isSignOf_42 ?_
                refine g_goto C 47 (by decide) dX12_isSignOf_43 ?_
                exact g_iret C hr (nar_z2 (iw (il 1) (by decide) (by decide))).1 (iw (il 1) (by decide) (by decide)) ⟨O, Fx.rf, (iw (il 1) (by decide) (by decide))⟩ (by decide) (by decide) dX12_isSignOf_47
def wr_k_X12_within : List Nat := []
set_option maxRecDepth 100000 in
set_option maxHeartbeats 4000000 in
theorem k_X12_within (l : Launch) (D : va_G) (cy : Nat → ClassId) (w : Nat → Nat) (z0 : Nat)  {h : Hp} {a0 : Int} {a1 : Int} {a2 : Int}  (O : Okh h) (fa0 : (-2147483648) ≤ a0 ∧ a0 ≤ 2147483647) (fa1 : (-2147483648) ≤ a1 ∧ a1 ≤ 2147483647) (fa2 : (-2147483648) ≤ a2 ∧ a2 ≤ 2147483647) : MI l D cy w z0 yX12_within cX12_within 3 (some .boolean) 0 0 0 0 [.inl a0, .inl a1, .inl a2] h (fun v h1 => Okh h1 ∧ Fx wr_k_X12_within h h1 ∧ (0 ≤ v ∧ v ≤ 1) ∧ ((v = 1 → a1 ≤ a0 ∧ a0 ≤ a2) ∧ (v = 0 → a0 < a1 ∨ a2 < a0))) := by
  refine hm_go (by decide +kernel) (Nat.le_of_ble_eq_true rfl) (fun p e s m below meth c C hr hn => ?_)
  refine g_iload_n C rfl 0 rfl dX12_within_0 ?_
  refine g_iload_n C rfl 1 rfl dX12_within_1 ?_
  refine g_icmp_lt C fa0 fa1 14 (by decide) dX12_within_2 (fun q1 => ?_) (fun q2 => ?_)
  · have f3 : (-2147483648 : Int) ≤ a0 ∧ a0 ≤ (2147483646 : Int) := r_lt fa0 fa1 q1 (by decide) (by decide)
    have f4 : (-2147483647 : Int) ≤ a1 ∧ a1 ≤ (2147483647 : Int) := r_gt fa1 fa0 q1 (by decide) (by decide)
    refine g_iconst C dX12_within_14 ?_
    exact g_iret C hr (nar_z2 (iw (il 0) (by decide) (by decide))).1 (iw (il 0) (by decide) (by decide)) ⟨O, Fx.rf, (iw (il 0) (by decide) (by decide)), (by omega)⟩ (by decide) (by decide) dX12_within_15
  · refine g_iload_n C rfl 0 rfl dX12_within_5 ?_
    refine g_iload_n C rfl 2 rfl dX12_within_6 ?_
    refine g_icmp_gt C fa0 fa2 14 (by decide) dX12_within_7 (fun q5 => ?_) (fun q6 => ?_)
    · have f7 : (-2147483648 : Int) ≤ a2 ∧ a2 ≤ (2147483646 : Int) := r_lt fa2 fa0 q5 (by decide) (by decide)
      have f8 : (-2147483647 : Int) ≤ a0 ∧ a0 ≤ (2147483647 : Int) := r_gt fa0 fa2 q5 (by decide) (by decide)
      refine g_iconst C dX12_within_14 ?_
      exact g_iret C hr (nar_z2 (iw (il 0) (by decide) (by decide))).1 (iw (il 0) (by decide) (by decide)) ⟨O, Fx.rf, (iw (il 0) (by decide) (by decide)), (by omega)⟩ (by decide) (by decide) dX12_within_15
    · refine g_iconst C dX12_within_10 ?_
      refine g_goto C 15 (by decide) dX12_within_11 ?_
      exact g_iret C hr (nar_z2 (iw (il 1) (by decide) (by decide))).1 (iw (il 1) (by decide) (by decide)) ⟨O, Fx.rf, (iw (il 1) (by decide) (by decide)), (by omega)⟩ (by decide) (by decide) dX12_within_15
def wr_k_X12_isCell : List Nat := []
set_option maxRecDepth 100000 in
set_option maxHeartbeats 4000000 in
theorem k_X12_isCell (l : Launch) (D : va_G) (cy : Nat → ClassId) (w : Nat → Nat) (z0 : Nat)  {h : Hp} {a0 : Int} {a1 : Int}  (O : Okh h) (fa0 : (-2147483648) ≤ a0 ∧ a0 ≤ 2147483647) (fa1 : (-2147483648) ≤ a1 ∧ a1 ≤ 2147483647) : MI l D cy w z0 yX12_isCell cX12_isCell 2 (some .boolean) 1 22 0 0 [.inl a0, .inl a1] h (fun v h1 => Okh h1 ∧ Fx wr_k_X12_isCell h h1 ∧ (0 ≤ v ∧ v ≤ 1) ∧ ((v = 1 ∧ 0 ≤ a0 ∧ a0 ≤ 11 ∧ 0 ≤ a1 ∧ a1 ≤ 7) ∨ (v = 0 ∧ (a0 < 0 ∨ 11 < a0 ∨ a1 < 0 ∨ 7 < a1)))) := by
  refine hm_go (by decide +kernel) (Nat.le_of_ble_eq_true rfl) (fun p e s m below meth c C hr hn => ?_)
  refine g_iload_n C rfl 0 rfl dX12_isCell_0 ?_
  refine g_iconst C dX12_isCell_1 ?_
  refine g_bipush C (by decide) dX12_isCell_2 ?_
  refine g_callI (st := []) (gc_S C lk_LandSurveyModel_415 (k_X12_within l D cy w z0 O fa0 (iw (il 0) (by decide) (by decide)) (iw (il 11) (by decide) (by decide))) rfl ⟨by decide, by decide⟩ (Nat.le_of_ble_eq_true rfl) dX12_isCell_4 ⟨(by decide), (by decide)⟩) (fun r1 h2 f4 K3 => ?_)
  obtain ⟨O5, F6, f7, p8⟩ := K3
  refine g_if_eq C (iw f7 (by decide) (by decide)) 24 (by decide) dX12_isCell_7 (fun q9 => ?_) (fun q10 => ?_)
  · have f11 : (0 : Int) ≤ r1 ∧ r1 ≤ (0 : Int) := ii f7 (r_eq (il 0) q9) (by decide) (by decide)
    refine g_iconst C dX12_isCell_24 ?_
    exact g_iret C hr (nar_z2 (iw (il 0) (by decide) (by decide))).1 (iw (il 0) (by decide) (by decide)) ⟨O5, ((Fx.rf (wr := wr_k_X12_isCell)).call F6 rfl), (iw (il 0) (by decide) (by decide)), (by omega)⟩ (by decide) (by decide) dX12_isCell_25
  · have f12 : (1 : Int) ≤ r1 ∧ r1 ≤ (1 : Int) := r_nl f7 q10
    have f13 : (0 : Int) ≤ a0 ∧ a0 ≤ (11 : Int) := by omega
    refine g_iload_n C rfl 1 rfl dX12_isCell_10 ?_
    refine g_iconst C dX12_isCell_11 ?_
    refine g_bipush C (by decide) dX12_isCell_12 ?_
    refine g_callI (st := []) (gc_S C lk_LandSurveyModel_415 (k_X12_within l D cy w z0 O5 fa1 (iw (il 0) (by decide) (by decide)) (iw (il 7) (by decide) (by decide))) rfl ⟨by decide, by decide⟩ (Nat.le_of_ble_eq_true rfl) dX12_isCell_14 ⟨(by decide), (by decide)⟩) (fun r14 h15 f17 K16 => ?_)
    obtain ⟨O18, F19, f20, p21⟩ := K16
    refine g_if_eq C (iw f20 (by decide) (by decide)) 24 (by decide) dX12_isCell_17 (fun q22 => ?_) (fun q23 => ?_)
    · have f24 : (0 : Int) ≤ r14 ∧ r14 ≤ (0 : Int) := ii f20 (r_eq (il 0) q22) (by decide) (by decide)
      refine g_iconst C dX12_isCell_24 ?_
      exact g_iret C hr (nar_z2 (iw (il 0) (by decide) (by decide))).1 (iw (il 0) (by decide) (by decide)) ⟨O18, (((Fx.rf (wr := wr_k_X12_isCell)).call F6 rfl).call F19 rfl), (iw (il 0) (by decide) (by decide)), (by omega)⟩ (by decide) (by decide) dX12_isCell_25
    · have f25 : (1 : Int) ≤ r14 ∧ r14 ≤ (1 : Int) := r_nl f20 q23
      have f26 : (0 : Int) ≤ a1 ∧ a1 ≤ (7 : Int) := by omega
      refine g_iconst C dX12_isCell_20 ?_
      refine g_goto C 25 (by decide) dX12_isCell_21 ?_
      exact g_iret C hr (nar_z2 (iw (il 1) (by decide) (by decide))).1 (iw (il 1) (by decide) (by decide)) ⟨O18, (((Fx.rf (wr := wr_k_X12_isCell)).call F6 rfl).call F19 rfl), (iw (il 1) (by decide) (by decide)), (by omega)⟩ (by decide) (by decide) dX12_isCell_25
def wr_k_X12_lay : List Nat := [2402, 20220000]
set_option maxRecDepth 100000 in
set_option maxHeartbeats 4000000 in
theorem k_X12_lay (l : Launch) (D : va_G) (cy : Nat → ClassId) (w : Nat → Nat) (z0 : Nat)  {h : Hp} {a0 : Nat} {a1 : Int}  (O : Okh h) (ta0 : Tg h a0 = 12) (fa1 : (-9223372036854775808) ≤ a1 ∧ a1 ≤ 9223372036854775807) : MV l D cy w z0 yX12_lay cX12_lay 5 none 0 0 0 0 [.inr (.inr a0), .inr (.inl a1)] h (fun h1 => Okh h1 ∧ Fx wr_k_X12_lay h h1) := by
  refine hm_go (by decide +kernel) (Nat.le_of_ble_eq_true rfl) (fun p e s m below meth c C hr hn => ?_)
  refine g_bipush C (by decide) dX12_lay_0 ?_
  refine g_istore_n C [(3, .inl 56), (0, .inr (.inr a0)), (1, .inr (.inl a1))] rfl (by decide) rfl dX12_lay_2 ?_
  refine GW.sub [1, 2, 0] rfl ?_
  -- loop at 3
  have L3 : ∀ (μ : Nat) (x1 : Int) (h2 : Hp), (x1 - (-8)).toNat = μ → Okh h2 → Fx [2402, 20220000] h h2 → ((-8 : Int) ≤ x1 ∧ x1 ≤ (56 : Int)) → GW p l e (rmm 0 0 0 0) s m (List.map toV [.inr (.inr a0), .inr (.inl a1)]).toArray below meth c D cy z0 5 (MQ below (QV D cy z0 (fun h1 => Okh h1 ∧ Fx wr_k_X12_lay h h1)) (List.map toV [.inr (.inr a0), .inr (.inl a1)]).toArray s 0 0 (Aof z0)) 3 [(0, .inr (.inr a0)), (1, .inr (.inl a1)), (3, .inl x1)] [] h2 0 0 := by
    intro μ
    induction μ using Nat.strongRecOn with
    | ind μ ih4 =>
      intro x1 h2 hm5 O6 F7 f8
      refine g_iload_n C rfl 2 rfl dX12_lay_3 ?_
      refine g_if_lt C (iw f8 (by decide) (by decide)) 75 (by decide) dX12_lay_4 (fun q9 => ?_) (fun q10 => ?_)
      · have f11 : (-8 : Int) ≤ x1 ∧ x1 ≤ (-1 : Int) := r_lt f8 (il 0) q9 (by decide) (by decide)
        exact g_vret C hr ⟨O6, ((Fx.rf (wr := wr_k_X12_lay)).call F7 rfl)⟩ (by decide) (by decide) dX12_lay_75
      · have f12 : (0 : Int) ≤ x1 ∧ x1 ≤ (56 : Int) := r_ge f8 (il 0) q10 (by decide) (by decide)
        refine g_lload_n C rfl 1 rfl dX12_lay_7 ?_
        refine g_iload_n C rfl 2 rfl dX12_lay_8 ?_
        refine g_lshr C dX12_lay_9 ?_
        have f13 : (-9223372036854775808 : Int) ≤ (lShr a1 x1) ∧ (lShr a1 x1) ≤ (9223372036854775807 : Int) := inL_of _
        refine g_l2i C dX12_lay_10 ?_
        have f14 : (-2147483648 : Int) ≤ (l2w (lShr a1 x1)) ∧ (l2w (lShr a1 x1)) ≤ (2147483647 : Int) := inR_of _
        refine g_sipush C (by decide) dX12_lay_11 ?_
        refine g_iand C dX12_lay_14 ?_
        have f15 : (0 : Int) ≤ (bAnd (l2w (lShr a1 x1)) 255) ∧ (bAnd (l2w (lShr a1 x1)) 255) ≤ (255 : Int) := bAnd_255 _
        refine g_istore C [(4, .inl (bAnd (l2w (lShr a1 x1)) 255)), (0, .inr (.inr a0)), (1, .inr (.inl a1)), (3, .inl x1)] (by decide) rfl dX12_lay_15 ?_
        refine g_iload C 0 rfl dX12_lay_17 ?_
        refine g_bipush C (by decide) dX12_lay_19 ?_
        refine g_icmp_eq C (iw f15 (by decide) (by decide)) (iw (il 10) (by decide) (by decide)) 38 (by decide) dX12_lay_21 (fun q16 => ?_) (fun q17 => ?_)
        · have f18 : (10 : Int) ≤ (bAnd (l2w (lShr a1 x1)) 255) ∧ (bAnd (l2w (lShr a1 x1)) 255) ≤ (10 : Int) := ii f15 (r_eq (il 10) q16) (by decide) (by decide)
          refine g_aload_n C rfl 1 rfl dX12_lay_38 ?_
          have e19 : Tg h2 a0 = 12 := (fxT F7 ta0)
          obtain ⟨v20, e21⟩ : ∃ z, Iv h2 a0 2 = z := ⟨_, rfl⟩
          have f22 := ok_I O6 e19 rI_12_2 e21
          refine gf_I C fk_LandSurveyModel_11 rfl e19 e21 dX12_lay_39 ?_
          refine g_sipush C (by decide) dX12_lay_42 ?_
          refine g_icmp_ge C (iw f22 (by decide) (by decide)) (iw (il 1500) (by decide) (by decide)) 69 (by decide) dX12_lay_45 (fun q23 => ?_) (fun q24 => ?_)
          · have f25 : (1500 : Int) ≤ v20 ∧ v20 ≤ (1500 : Int) := r_ge f22 (il 1500) q23 (by decide) (by decide)
            have f26 : (-8 : Int) ≤ (x1 + (-8)) ∧ (x1 + (-8)) ≤ (48 : Int) := ia_add f12 (il (-8)) (by decide) (by decide)
            refine g_iinc C [(3, .inl (x1 + (-8))), (4, .inl (bAnd (l2w (lShr a1 x1)) 255)), (0, .inr (.inr a0)), (1, .inr (.inl a1))] 3 rfl (by decide) rfl dX12_lay_69 ?_
            refine g_goto C 3 (by decide) dX12_lay_72 ?_
            refine GW.sub [2, 3, 0] rfl ?_
            exact ih4 _ (by omega) (x1 + (-8)) h2 rfl O6 F7 (iw f26 (by decide) (by decide))
          · have f27 : (0 : Int) ≤ v20 ∧ v20 ≤ (1499 : Int) := r_lt f22 (il 1500) q24 (by decide) (by decide)
            refine g_aload_n C rfl 1 rfl dX12_lay_48 ?_
            obtain ⟨v28, e29⟩ : ∃ z, Rv h2 a0 1 = z := ⟨_, rfl⟩
            have t30 := ok_R O6 e19 rE_12_1 e29
            have l31 := ok_L O6 e19 rE_12_1 e29
            refine gf_R C fk_LandSurveyModel_14 rfl e19 e29 dX12_lay_49 ?_
            refine g_aload_n C rfl 1 rfl dX12_lay_52 ?_
            refine gf_I C fk_LandSurveyModel_11 rfl e19 e21 dX12_lay_53 ?_
            refine g_iload C 0 rfl dX12_lay_56 ?_
            refine g_iast C t30 rfl l31 (ix f27 (by decide) (by decide)) (iw f18 (by decide) (by decide)) dX12_lay_58 (fun h33 hh32 => ?_)
            have O34 := O6.pIa t30 ar_101100 hh32 rI_101100_0 (iw f18 (by decide) (by decide)) nofun
            refine g_aload_n C rfl 1 rfl dX12_lay_59 ?_
            refine g_dup C rfl dX12_lay_60 ?_
            have e35 : Tg h33 a0 = 12 := ((pIT hh32).trans e19)
            have e36 : Iv h33 a0 2 = v20 := ((pI_n hh32 (ne_tag e19 t30 (by decide))).trans e21)
            refine gf_I C fk_LandSurveyModel_11 rfl e35 e36 dX12_lay_61 ?_
            refine g_iconst C dX12_lay_64 ?_
            have f37 : (1 : Int) ≤ (v20 + 1) ∧ (v20 + 1) ≤ (1500 : Int) := ia_add f27 (il 1) (by decide) (by decide)
            refine g_iadd C dX12_lay_65 ?_
            refine gp_I C fk_LandSurveyModel_11 pk_LandSurveyModel_2 rfl e35 (iw f37 (by decide) (by decide)) (nf_i _) dX12_lay_66 (fun h39 hh38 => ?_)
            have O40 := O34.pI e35 hh38 rI_12_2 (iw f37 (by decide) (by decide)) nofun
            have f41 : (-8 : Int) ≤ (x1 + (-8)) ∧ (x1 + (-8)) ≤ (48 : Int) := ia_add f12 (il (-8)) (by decide) (by decide)
            refine g_iinc C [(3, .inl (x1 + (-8))), (4, .inl (bAnd (l2w (lShr a1 x1)) 255)), (0, .inr (.inr a0)), (1, .inr (.inl a1))] 3 rfl (by decide) rfl dX12_lay_69 ?_
            refine g_goto C 3 (by decide) dX12_lay_72 ?_
            refine GW.sub [2, 3, 0] rfl ?_
            exact ih4 _ (by omega) (x1 + (-8)) h39 rfl O40 ((F7.pIa t30 ar_101100 hh32 rfl).pI e35 hh38 rfl) (iw f41 (by decide) (by decide))
        · refine g_iload C 0 rfl dX12_lay_24 ?_
          refine g_bipush C (by decide) dX12_lay_26 ?_
          refine g_icmp_lt C (iw f15 (by decide) (by decide)) (iw (il 32) (by decide) (by decide)) 69 (by decide) dX12_lay_28 (fun q42 => ?_) (fun q43 => ?_)
          · have f44 : (0 : Int) ≤ (bAnd (l2w (lShr a1 x1)) 255) ∧ (bAnd (l2w (lShr a1 x1)) 255) ≤ (31 : Int) := r_lt f15 (il 32) q42 (by decide) (by decide)
            have f45 : (-8 : Int) ≤ (x1 + (-8)) ∧ (x1 + (-8)) ≤ (48 : Int) := ia_add f12 (il (-8)) (by decide) (by decide)
            refine g_iinc C [(3, .inl (x1 + (-8))), (4, .inl (bAnd (l2w (lShr a1 x1)) 255)), (0, .inr (.inr a0)), (1, .inr (.inl a1))] 3 rfl (by decide) rfl dX12_lay_69 ?_
            refine g_goto C 3 (by decide) dX12_lay_72 ?_
            refine GW.sub [2, 3, 0] rfl ?_
            exact ih4 _ (by omega) (x1 + (-8)) h2 rfl O6 F7 (iw f45 (by decide) (by decide))
          · have f46 : (32 : Int) ≤ (bAnd (l2w (lShr a1 x1)) 255) ∧ (bAnd (l2w (lShr a1 x1)) 255) ≤ (255 : Int) := r_ge f15 (il 32) q43 (by decide) (by decide)
            refine g_iload C 0 rfl dX12_lay_31 ?_
            refine g_bipush C (by decide) dX12_lay_33 ?_
            refine g_icmp_gt C (iw f46 (by decide) (by decide)) (iw (il 126) (by decide) (by decide)) 69 (by decide) dX12_lay_35 (fun q47 => ?_) (fun q48 => ?_)
            · have f49 : (127 : Int) ≤ (bAnd (l2w (lShr a1 x1)) 255) ∧ (bAnd (l2w (lShr a1 x1)) 255) ≤ (255 : Int) := r_gt f46 (il 126) q47 (by decide) (by decide)
              have f50 : (-8 : Int) ≤ (x1 + (-8)) ∧ (x1 + (-8)) ≤ (48 : Int) := ia_add f12 (il (-8)) (by decide) (by decide)
              refine g_iinc C [(3, .inl (x1 + (-8))), (4, .inl (bAnd (l2w (lShr a1 x1)) 255)), (0, .inr (.inr a0)), (1, .inr (.inl a1))] 3 rfl (by decide) rfl dX12_lay_69 ?_
              refine g_goto C 3 (by decide) dX12_lay_72 ?_
              refine GW.sub [2, 3, 0] rfl ?_
              exact ih4 _ (by omega) (x1 + (-8)) h2 rfl O6 F7 (iw f50 (by decide) (by decide))
            · have f51 : (32 : Int) ≤ (bAnd (l2w (lShr a1 x1)) 255) ∧ (bAnd (l2w (lShr a1 x1)) 255) ≤ (126 : Int) := r_le f46 (il 126) q48 (by decide) (by decide)
              refine g_aload_n C rfl 1 rfl dX12_lay_38 ?_
              have e52 : Tg h2 a0 = 12 := (fxT F7 ta0)
              obtain ⟨v53, e54⟩ : ∃ z, Iv h2 a0 2 = z := ⟨_, rfl⟩
              have f55 := ok_I O6 e52 rI_12_2 e54
              refine gf_I C fk_LandSurveyModel_11 rfl e52 e54 dX12_lay_39 ?_
              refine g_sipush C (by decide) dX12_lay_42 ?_
              refine g_icmp_ge C (iw f55 (by decide) (by decide)) (iw (il 1500) (by decide) (by decide)) 69 (by decide) dX12_lay_45 (fun q56 => ?_) (fun q57 => ?_)
              · have f58 : (1500 : Int) ≤ v53 ∧ v53 ≤ (1500 : Int) := r_ge f55 (il 1500) q56 (by decide) (by decide)
                have f59 : (-8 : Int) ≤ (x1 + (-8)) ∧ (x1 + (-8)) ≤ (48 : Int) := ia_add f12 (il (-8)) (by decide) (by decide)
                refine g_iinc C [(3, .inl (x1 + (-8))), (4, .inl (bAnd (l2w (lShr a1 x1)) 255)), (0, .inr (.inr a0)), (1, .inr (.inl a1))] 3 rfl (by decide) rfl dX12_lay_69 ?_
                refine g_goto C 3 (by decide) dX12_lay_72 ?_
                refine GW.sub [2, 3, 0] rfl ?_
                exact ih4 _ (by omega) (x1 + (-8)) h2 rfl O6 F7 (iw f59 (by decide) (by decide))
              · have f60 : (0 : Int) ≤ v53 ∧ v53 ≤ (1499 : Int) := r_lt f55 (il 1500) q57 (by decide) (by decide)
                refine g_aload_n C rfl 1 rfl dX12_lay_48 ?_
                obtain ⟨v61, e62⟩ : ∃ z, Rv h2 a0 1 = z := ⟨_, rfl⟩
                have t63 := ok_R O6 e52 rE_12_1 e62
                have l64 := ok_L O6 e52 rE_12_1 e62
                refine gf_R C fk_LandSurveyModel_14 rfl e52 e62 dX12_lay_49 ?_
                refine g_aload_n C rfl 1 rfl dX12_lay_52 ?_
                refine gf_I C fk_LandSurveyModel_11 rfl e52 e54 dX12_lay_53 ?_
                refine g_iload C 0 rfl dX12_lay_56 ?_
                refine g_iast C t63 rfl l64 (ix f60 (by decide) (by decide)) (iw f51 (by decide) (by decide)) dX12_lay_58 (fun h66 hh65 => ?_)
                have O67 := O6.pIa t63 ar_101100 hh65 rI_101100_0 (iw f51 (by decide) (by decide)) nofun
                refine g_aload_n C rfl 1 rfl dX12_lay_59 ?_
                refine g_dup C rfl dX12_lay_60 ?_
                have e68 : Tg h66 a0 = 12 := ((pIT hh65).trans e52)
                have e69 : Iv h66 a0 2 = v53 := ((pI_n hh65 (ne_tag e52 t63 (by decide))).trans e54)
                refine gf_I C fk_LandSurveyModel_11 rfl e68 e69 dX12_lay_61 ?_
                refine g_iconst C dX12_lay_64 ?_
                have f70 : (1 : Int) ≤ (v53 + 1) ∧ (v53 + 1) ≤ (1500 : Int) := ia_add f60 (il 1) (by decide) (by decide)
                refine g_iadd C dX12_lay_65 ?_
                refine gp_I C fk_LandSurveyModel_11 pk_LandSurveyModel_2 rfl e68 (iw f70 (by decide) (by decide)) (nf_i _) dX12_lay_66 (fun h72 hh71 => ?_)
                have O73 := O67.pI e68 hh71 rI_12_2 (iw f70 (by decide) (by decide)) nofun
                have f74 : (-8 : Int) ≤ (x1 + (-8)) ∧ (x1 + (-8)) ≤ (48 : Int) := ia_add f12 (il (-8)) (by decide) (by decide)
                refine g_iinc C [(3, .inl (x1 + (-8))), (4, .inl (bAnd (l2w (lShr a1 x1)) 255)), (0, .inr (.inr a0)), (1, .inr (.inl a1))] 3 rfl (by decide) rfl dX12_lay_69 ?_
                refine g_goto C 3 (by decide) dX12_lay_72 ?_
                refine GW.sub [2, 3, 0] rfl ?_
                exact ih4 _ (by omega) (x1 + (-8)) h72 rfl O73 ((F7.pIa t63 ar_101100 hh65 rfl).pI e68 hh71 rfl) (iw f74 (by decide) (by decide))
  exact L3 _ 56 h rfl O Fx.rf (iw (il 56) (by decide) (by decide))
def wr_k_X12_feed : List Nat := [2400, 2402, 20220000]
set_option maxRecDepth 100000 in
set_option maxHeartbeats 4000000 in
theorem k_X12_feed (l : Launch) (D : va_G) (cy : Nat → ClassId) (w : Nat → Nat) (z0 : Nat)  {h : Hp} {a0 : Nat} {a1 : Int} {a2 : Int} {a3 : Int}  (O : Okh h) (ta0 : Tg h a0 = 12) (fa1 : (-9223372036854775808) ≤ a1 ∧ a1 ≤ 9223372036854775807) (fa2 : (-9223372036854775808) ≤ a2 ∧ a2 ≤ 9223372036854775807) (fa3 : (-9223372036854775808) ≤ a3 ∧ a3 ≤ 9223372036854775807) : MI l D cy w z0 yX12_feed cX12_feed 7 (some .int) 1 24 0 0 [.inr (.inr a0), .inr (.inl a1), .inr (.inl a2), .inr (.inl a3)] h (fun v h1 => Okh h1 ∧ Fx wr_k_X12_feed h h1 ∧ (0 ≤ v ∧ v ≤ 1500)) := by
  refine hm_go (by decide +kernel) (Nat.le_of_ble_eq_true rfl) (fun p e s m below meth c C hr hn => ?_)
  refine g_aload_n C rfl 0 rfl dX12_feed_0 ?_
  refine g_iconst C dX12_feed_1 ?_
  refine gp_I C fk_LandSurveyModel_1 pk_LandSurveyModel_0 rfl ta0 (iw (il 0) (by decide) (by decide)) (nf_i _) dX12_feed_2 (fun h2 hh1 => ?_)
  have O3 := O.pI ta0 hh1 rI_12_0 (iw (il 0) (by decide) (by decide)) nofun
  refine g_aload_n C rfl 0 rfl dX12_feed_5 ?_
  refine g_lload_n C rfl 1 rfl dX12_feed_6 ?_
  have e4 : Tg h2 a0 = 12 := ((pIT hh1).trans ta0)
  refine g_callV (st := []) (gc_V C lk_LandSurveyModel_7 (k_X12_lay l D cy w z0 O3 e4 fa1) e4 rfl rfl rfl ⟨by decide, by decide⟩ (Nat.le_of_ble_eq_true rfl) dX12_feed_7 ⟨(by decide), (by decide)⟩) (fun h6 K7 => ?_)
  obtain ⟨O9, F10⟩ := K7
  refine g_aload_n C rfl 0 rfl dX12_feed_10 ?_
  refine g_lload_n C rfl 2 rfl dX12_feed_11 ?_
  have e11 : Tg h6 a0 = 12 := (fxT F10 e4)
  refine g_callV (st := []) (gc_V C lk_LandSurveyModel_7 (k_X12_lay l D cy w z0 O9 e11 fa2) e11 rfl rfl rfl ⟨by decide, by decide⟩ (Nat.le_of_ble_eq_true rfl) dX12_feed_12 ⟨(by decide), (by decide)⟩) (fun h13 K14 => ?_)
  obtain ⟨O16, F17⟩ := K14
  refine g_aload_n C rfl 0 rfl dX12_feed_15 ?_
  refine g_lload C 3 rfl dX12_feed_16 ?_
  have e18 : Tg h13 a0 = 12 := (fxT F17 e11)
  refine g_callV (st := []) (gc_V C lk_LandSurveyModel_7 (k_X12_lay l D cy w z0 O16 e18 fa3) e18 rfl rfl rfl ⟨by decide, by decide⟩ (Nat.le_of_ble_eq_true rfl) dX12_feed_18 ⟨(by decide), (by decide)⟩) (fun h20 K21 => ?_)
  obtain ⟨O23, F24⟩ := K21
  refine g_aload_n C rfl 0 rfl dX12_feed_21 ?_
  have e25 : Tg h20 a0 = 12 := (fxT F24 e18)
  obtain ⟨v26, e27⟩ : ∃ z, Iv h20 a0 2 = z := ⟨_, rfl⟩
  have f28 := ok_I O23 e25 rI_12_2 e27
  refine gf_I C fk_LandSurveyModel_11 rfl e25 e27 dX12_feed_22 ?_
  exact g_iret C hr rfl (iw f28 (by decide) (by decide)) ⟨O23, (((((Fx.rf (wr := wr_k_X12_feed)).pI ta0 hh1 rfl).call F10 rfl).call F17 rfl).call F24 rfl), f28⟩ (by decide) (by decide) dX12_feed_25
def wr_k_X12_days : List Nat := [2400, 2433, 2435]
set_option maxRecDepth 100000 in
set_option maxHeartbeats 4000000 in
theorem k_X12_days (l : Launch) (D : va_G) (cy : Nat → ClassId) (w : Nat → Nat) (z0 : Nat)  {h : Hp} {a0 : Nat} {a1 : Int}  (O : Okh h) (ta0 : Tg h a0 = 12) (fa1 : (-2147483648) ≤ a1 ∧ a1 ≤ 2147483647) : MI l D cy w z0 yX12_days cX12_days 2 (some .int) 1 22 0 0 [.inr (.inr a0), .inl a1] h (fun v h1 => Okh h1 ∧ Fx wr_k_X12_days h h1 ∧ ((-1) ≤ v ∧ v ≤ 9999) ∧ (v = dyF a1 (Iv h a0 33)) ∧ (Iv h1 a0 33 = dnF a1 (Iv h a0 33))) := by
  refine hm_go (by decide +kernel) (Nat.le_of_ble_eq_true rfl) (fun p e s m below meth c C hr hn => ?_)
  obtain ⟨v1, e2⟩ : ∃ z, Iv h a0 33 = z := ⟨_, rfl⟩
  have f3 := ok_I O ta0 rI_12_33 e2
  refine g_aload_n C rfl 0 rfl dX12_days_0 ?_
  refine g_iconst C dX12_days_1 ?_
  refine gp_I C fk_LandSurveyModel_1 pk_LandSurveyModel_0 rfl ta0 (iw (il 0) (by decide) (by decide)) (nf_i _) dX12_days_2 (fun h5 hh4 => ?_)
  have O6 := O.pI ta0 hh4 rI_12_0 (iw (il 0) (by decide) (by decide)) nofun
  refine g_iload_n C rfl 1 rfl dX12_days_5 ?_
  refine g_iconst C dX12_days_6 ?_
  refine g_sipush C (by decide) dX12_days_7 ?_
  refine g_callI (st := []) (gc_S C lk_LandSurveyModel_415 (k_X12_within l D cy w z0 O6 fa1 (iw (il 0) (by decide) (by decide)) (iw (il 1000) (by decide) (by decide))) rfl ⟨by decide, by decide⟩ (Nat.le_of_ble_eq_true rfl) dX12_days_10 ⟨(by decide), (by decide)⟩) (fun r7 h8 f10 K9 => ?_)
  obtain ⟨O11, F12, f13, p14⟩ := K9
  refine g_if_eq C (iw f13 (by decide) (by decide)) 28 (by decide) dX12_days_13 (fun q15 => ?_) (fun q16 => ?_)
  · have f17 : (0 : Int) ≤ r7 ∧ r7 ≤ (0 : Int) := ii f13 (r_eq (il 0) q15) (by decide) (by decide)
    refine g_iconst C dX12_days_28 ?_
    have e18 : Tg h5 a0 = 12 := ((pIT hh4).trans ta0)
    have e19 : Iv h8 a0 33 = v1 := ((fxI F12 e18 rfl).trans ((pI_j hh4 (by decide)).trans e2))
    exact g_iret C hr rfl (iw (il (-1)) (by decide) (by decide)) ⟨O11, (((Fx.rf (wr := wr_k_X12_days)).pI ta0 hh4 rfl).call F12 rfl), (iw (il (-1)) (by decide) (by decide)), (by unfold dyF; rw [e2]; split <;> omega), (by unfold dnF; rw [e19, e2]; split <;> omega)⟩ (by decide) (by decide) dX12_days_29
  · have f20 : (1 : Int) ≤ r7 ∧ r7 ≤ (1 : Int) := r_nl f13 q16
    have f21 : (0 : Int) ≤ a1 ∧ a1 ≤ (1000 : Int) := by omega
    refine g_aload_n C rfl 0 rfl dX12_days_16 ?_
    have e22 : Tg h8 a0 = 12 := (fxT F12 ((pIT hh4).trans ta0))
    have e23 : Tg h5 a0 = 12 := ((pIT hh4).trans ta0)
    have e24 : Iv h8 a0 33 = v1 := ((fxI F12 e23 rfl).trans ((pI_j hh4 (by decide)).trans e2))
    refine gf_I C fk_LandSurveyModel_342 rfl e22 e24 dX12_days_17 ?_
    refine g_iload_n C rfl 1 rfl dX12_days_20 ?_
    have f25 : (0 : Int) ≤ (v1 + a1) ∧ (v1 + a1) ≤ (10999 : Int) := ia_add f3 f21 (by decide) (by decide)
    refine g_iadd C dX12_days_21 ?_
    refine g_sipush C (by decide) dX12_days_22 ?_
    refine g_icmp_le C (iw f25 (by decide) (by decide)) (iw (il 9999) (by decide) (by decide)) 30 (by decide) dX12_days_25 (fun q26 => ?_) (fun q27 => ?_)
    · have f28 : (0 : Int) ≤ (v1 + a1) ∧ (v1 + a1) ≤ (9999 : Int) := r_le f25 (il 9999) q26 (by decide) (by decide)
      refine g_aload_n C rfl 0 rfl dX12_days_30 ?_
      refine g_dup C rfl dX12_days_31 ?_
      refine gf_I C fk_LandSurveyModel_342 rfl e22 e24 dX12_days_32 ?_
      refine g_iload_n C rfl 1 rfl dX12_days_35 ?_
      refine g_iadd C dX12_days_36 ?_
      refine gp_I C fk_LandSurveyModel_342 pk_LandSurveyModel_33 rfl e22 (iw f28 (by decide) (by decide)) (nf_i _) dX12_days_37 (fun h30 hh29 => ?_)
      have O31 := O11.pI e22 hh29 rI_12_33 f28 nofun
      refine g_aload_n C rfl 0 rfl dX12_days_40 ?_
      refine g_iconst C dX12_days_41 ?_
      have e32 : Tg h30 a0 = 12 := ((pIT hh29).trans e22)
      refine gp_I C fk_LandSurveyModel_290 pk_LandSurveyModel_35 rfl e32 (iw (il 1) (by decide) (by decide)) (nar_z2 (iw (il 1) (by decide) (by decide))) dX12_days_42 (fun h34 hh33 => ?_)
      have O35 := O31.pI e32 hh33 rI_12_35 (iw (il 1) (by decide) (by decide)) nofun
      refine g_aload_n C rfl 0 rfl dX12_days_45 ?_
      have e36 : Tg h34 a0 = 12 := ((pIT hh33).trans e32)
      have e37 : Iv h34 a0 33 = (v1 + a1) := ((pI_j hh33 (by decide)).trans (pI_e hh29))
      refine gf_I C fk_LandSurveyModel_342 rfl e36 e37 dX12_days_46 ?_
      exact g_iret C hr rfl (iw f28 (by decide) (by decide)) ⟨O35, (((((Fx.rf (wr := wr_k_X12_days)).pI ta0 hh4 rfl).call F12 rfl).pI e22 hh29 rfl).pI e32 hh33 rfl), (iw f28 (by decide) (by decide)), (by unfold dyF; rw [e2]; split <;> omega), (by unfold dnF; rw [e37, e2]; split <;> omega)⟩ (by decide) (by decide) dX12_days_49
    · have f38 : (10000 : Int) ≤ (v1 + a1) ∧ (v1 + a1) ≤ (10999 : Int) := r_gt f25 (il 9999) q27 (by decide) (by decide)
      refine g_iconst C dX12_days_28 ?_
      exact g_iret C hr rfl (iw (il (-1)) (by decide) (by decide)) ⟨O11, (((Fx.rf (wr := wr_k_X12_days)).pI ta0 hh4 rfl).call F12 rfl), (iw (il (-1)) (by decide) (by decide)), (by unfold dyF; rw [e2]; split <;> omega), (by unfold dnF; rw [e24, e2]; split <;> omega)⟩ (by decide) (by decide) dX12_days_29
def wr_k_X12_view : List Nat := [2400, 2434, 2435]
set_option maxRecDepth 100000 in
set_option maxHeartbeats 4000000 in
theorem k_X12_view (l : Launch) (D : va_G) (cy : Nat → ClassId) (w : Nat → Nat) (z0 : Nat)  {h : Hp} {a0 : Nat} {a1 : Int}  (O : Okh h) (ta0 : Tg h a0 = 12) (fa1 : (-2147483648) ≤ a1 ∧ a1 ≤ 2147483647) : MI l D cy w z0 yX12_view cX12_view 2 (some .boolean) 1 22 0 0 [.inr (.inr a0), .inl a1] h (fun v h1 => Okh h1 ∧ Fx wr_k_X12_view h h1 ∧ (0 ≤ v ∧ v ≤ 1)) := by
  refine hm_go (by decide +kernel) (Nat.le_of_ble_eq_true rfl) (fun p e s m below meth c C hr hn => ?_)
  refine g_aload_n C rfl 0 rfl dX12_view_0 ?_
  refine g_iconst C dX12_view_1 ?_
  refine gp_I C fk_LandSurveyModel_1 pk_LandSurveyModel_0 rfl ta0 (iw (il 0) (by decide) (by decide)) (nf_i _) dX12_view_2 (fun h2 hh1 => ?_)
  have O3 := O.pI ta0 hh1 rI_12_0 (iw (il 0) (by decide) (by decide)) nofun
  refine g_iload_n C rfl 1 rfl dX12_view_5 ?_
  refine g_iconst C dX12_view_6 ?_
  refine g_aload_n C rfl 0 rfl dX12_view_7 ?_
  have e4 : Tg h2 a0 = 12 := ((pIT hh1).trans ta0)
  obtain ⟨v5, e6⟩ : ∃ z, Iv h2 a0 33 = z := ⟨_, rfl⟩
  have f7 := ok_I O3 e4 rI_12_33 e6
  refine gf_I C fk_LandSurveyModel_342 rfl e4 e6 dX12_view_8 ?_
  refine g_callI (st := []) (gc_S C lk_LandSurveyModel_415 (k_X12_within l D cy w z0 O3 fa1 (iw (il 0) (by decide) (by decide)) (iw f7 (by decide) (by decide))) rfl ⟨by decide, by decide⟩ (Nat.le_of_ble_eq_true rfl) dX12_view_11 ⟨(by decide), (by decide)⟩) (fun r8 h9 f11 K10 => ?_)
  obtain ⟨O12, F13, f14, p15⟩ := K10
  refine g_if_ne C (iw f14 (by decide) (by decide)) 19 (by decide) dX12_view_14 (fun q16 => ?_) (fun q17 => ?_)
  · have f18 : (1 : Int) ≤ r8 ∧ r8 ≤ (1 : Int) := r_nl f14 q16
    have f19 : (0 : Int) ≤ a1 ∧ a1 ≤ (9999 : Int) := by omega
    refine g_aload_n C rfl 0 rfl dX12_view_19 ?_
    refine g_iload_n C rfl 1 rfl dX12_view_20 ?_
    refine g_aload_n C rfl 0 rfl dX12_view_21 ?_
    have e20 : Tg h9 a0 = 12 := (fxT F13 e4)
    have e21 : Iv h9 a0 33 = v5 := ((fxI F13 e4 rfl).trans e6)
    refine gf_I C fk_LandSurveyModel_342 rfl e20 e21 dX12_view_22 ?_
    refine g_icmp_ne C (iw f19 (by decide) (by decide)) (iw f7 (by decide) (by decide)) 32 (by decide) dX12_view_25 (fun q22 => ?_) (fun q23 => ?_)
    · refine g_iload_n C rfl 1 rfl dX12_view_32 ?_
      refine gp_I C fk_LandSurveyModel_287 pk_LandSurveyModel_34 rfl e20 (iw f19 (by decide) (by decide)) (nf_i _) dX12_view_33 (fun h25 hh24 => ?_)
      have O26 := O12.pI e20 hh24 rI_12_34 (iw f19 (by decide) (by decide)) nofun
      refine g_aload_n C rfl 0 rfl dX12_view_36 ?_
      refine g_iconst C dX12_view_37 ?_
      have e27 : Tg h25 a0 = 12 := ((pIT hh24).trans e20)
      refine gp_I C fk_LandSurveyModel_290 pk_LandSurveyModel_35 rfl e27 (iw (il 1) (by decide) (by decide)) (nar_z2 (iw (il 1) (by decide) (by decide))) dX12_view_38 (fun h29 hh28 => ?_)
      have O30 := O26.pI e27 hh28 rI_12_35 (iw (il 1) (by decide) (by decide)) nofun
      refine g_iconst C dX12_view_41 ?_
      exact g_iret C hr (nar_z2 (iw (il 1) (by decide) (by decide))).1 (iw (il 1) (by decide) (by decide)) ⟨O30, (((((Fx.rf (wr := wr_k_X12_view)).pI ta0 hh1 rfl).call F13 rfl).pI e20 hh24 rfl).pI e27 hh28 rfl), (iw (il 1) (by decide) (by decide))⟩ (by decide) (by decide) dX12_view_42
    · refine g_iconst C dX12_view_28 ?_
      refine g_goto C 33 (by decide) dX12_view_29 ?_
      refine gp_I C fk_LandSurveyModel_287 pk_LandSurveyModel_34 rfl e20 (iw (il (-1)) (by decide) (by decide)) (nf_i _) dX12_view_33 (fun h32 hh31 => ?_)
      have O33 := O12.pI e20 hh31 rI_12_34 (iw (il (-1)) (by decide) (by decide)) nofun
      refine g_aload_n C rfl 0 rfl dX12_view_36 ?_
      refine g_iconst C dX12_view_37 ?_
      have e34 : Tg h32 a0 = 12 := ((pIT hh31).trans e20)
      refine gp_I C fk_LandSurveyModel_290 pk_LandSurveyModel_35 rfl e34 (iw (il 1) (by decide) (by decide)) (nar_z2 (iw (il 1) (by decide) (by decide))) dX12_view_38 (fun h36 hh35 => ?_)
      have O37 := O33.pI e34 hh35 rI_12_35 (iw (il 1) (by decide) (by decide)) nofun
      refine g_iconst C dX12_view_41 ?_
      exact g_iret C hr (nar_z2 (iw (il 1) (by decide) (by decide))).1 (iw (il 1) (by decide) (by decide)) ⟨O37, (((((Fx.rf (wr := wr_k_X12_view)).pI ta0 hh1 rfl).call F13 rfl).pI e20 hh31 rfl).pI e34 hh35 rfl), (iw (il 1) (by decide) (by decide))⟩ (by decide) (by decide) dX12_view_42
  · have f38 : (0 : Int) ≤ r8 ∧ r8 ≤ (0 : Int) := ii f14 (r_eq (il 0) q17) (by decide) (by decide)
    refine g_iconst C dX12_view_17 ?_
    exact g_iret C hr (nar_z2 (iw (il 0) (by decide) (by decide))).1 (iw (il 0) (by decide) (by decide)) ⟨O12, (((Fx.rf (wr := wr_k_X12_view)).pI ta0 hh1 rfl).call F13 rfl), (iw (il 0) (by decide) (by decide))⟩ (by decide) (by decide) dX12_view_18
def wr_k_X12_isSight : List Nat := []
set_option maxRecDepth 100000 in
set_option maxHeartbeats 4000000 in
theorem k_X12_isSight (l : Launch) (D : va_G) (cy : Nat → ClassId) (w : Nat → Nat) (z0 : Nat)  {h : Hp} {a0 : Nat} {a1 : Int}  (O : Okh h) (ta0 : Tg h a0 = 12) (fa1 : (-2147483648) ≤ a1 ∧ a1 ≤ 2147483647) : MI l D cy w z0 yX12_isSight cX12_isSight 2 (some .boolean) 0 0 0 0 [.inr (.inr a0), .inl a1] h (fun v h1 => Okh h1 ∧ Fx wr_k_X12_isSight h h1 ∧ (0 ≤ v ∧ v ≤ 1) ∧ (v = 1 → 0 ≤ a1 ∧ a1 ≤ 39)) := by
  refine hm_go (by decide +kernel) (Nat.le_of_ble_eq_true rfl) (fun p e s m below meth c C hr hn => ?_)
  refine g_iload_n C rfl 1 rfl dX12_isSight_0 ?_
  refine g_if_lt C fa1 16 (by decide) dX12_isSight_1 (fun q1 => ?_) (fun q2 => ?_)
  · have f3 : (-2147483648 : Int) ≤ a1 ∧ a1 ≤ (-1 : Int) := r_lt fa1 (il 0) q1 (by decide) (by decide)
    refine g_iconst C dX12_isSight_16 ?_
    exact g_iret C hr (nar_z2 (iw (il 0) (by decide) (by decide))).1 (iw (il 0) (by decide) (by decide)) ⟨O, Fx.rf, (iw (il 0) (by decide) (by decide)), (by omega)⟩ (by decide) (by decide) dX12_isSight_17
  · have f4 : (0 : Int) ≤ a1 ∧ a1 ≤ (2147483647 : Int) := r_ge fa1 (il 0) q2 (by decide) (by decide)
    refine g_iload_n C rfl 1 rfl dX12_isSight_4 ?_
    refine g_aload_n C rfl 0 rfl dX12_isSight_5 ?_
    obtain ⟨v5, e6⟩ : ∃ z, Iv h a0 40 = z := ⟨_, rfl⟩
    have f7 := ok_I O ta0 rI_12_40 e6
    refine gf_I C fk_LandSurveyModel_423 rfl ta0 e6 dX12_isSight_6 ?_
    refine g_icmp_ge C (iw f4 (by decide) (by decide)) (iw f7 (by decide) (by decide)) 16 (by decide) dX12_isSight_9 (fun q8 => ?_) (fun q9 => ?_)
    · refine g_iconst C dX12_isSight_16 ?_
      exact g_iret C hr (nar_z2 (iw (il 0) (by decide) (by decide))).1 (iw (il 0) (by decide) (by decide)) ⟨O, Fx.rf, (iw (il 0) (by decide) (by decide)), (by omega)⟩ (by decide) (by decide) dX12_isSight_17
    · have f10 : (0 : Int) ≤ a1 ∧ a1 ≤ (39 : Int) := r_lt f4 f7 q9 (by decide) (by decide)
      have f11 : (1 : Int) ≤ v5 ∧ v5 ≤ (40 : Int) := r_gt f7 f4 q9 (by decide) (by decide)
      refine g_iconst C dX12_isSight_12 ?_
      refine g_goto C 17 (by decide) dX12_isSight_13 ?_
      exact g_iret C hr (nar_z2 (iw (il 1) (by decide) (by decide))).1 (iw (il 1) (by decide) (by decide)) ⟨O, Fx.rf, (iw (il 1) (by decide) (by decide)), (by omega)⟩ (by decide) (by decide) dX12_isSight_17
def wr_k_X12_cell : List Nat := [2400, 2435, 27220000, 27420200]
set_option maxRecDepth 100000 in
set_option maxHeartbeats 4000000 in
theorem k_X12_cell (l : Launch) (D : va_G) (cy : Nat → ClassId) (w : Nat → Nat) (z0 : Nat)  {h : Hp} {a0 : Nat} {a1 : Int} {a2 : Int} {a3 : Int} {a4 : Int}  (O : Okh h) (ta0 : Tg h a0 = 12) (fa1 : (-2147483648) ≤ a1 ∧ a1 ≤ 2147483647) (fa2 : (-2147483648) ≤ a2 ∧ a2 ≤ 2147483647) (fa3 : (-2147483648) ≤ a3 ∧ a3 ≤ 2147483647) (fa4 : 0 ≤ a4 ∧ a4 ≤ 1) : MI l D cy w z0 yX12_cell cX12_cell 5 (some .boolean) 2 43 0 0 [.inr (.inr a0), .inl a1, .inl a2, .inl a3, .inl a4] h (fun v h1 => Okh h1 ∧ Fx wr_k_X12_cell h h1 ∧ (0 ≤ v ∧ v ≤ 1)) := by
  refine hm_go (by decide +kernel) (Nat.le_of_ble_eq_true rfl) (fun p e s m below meth c C hr hn => ?_)
  refine g_aload_n C rfl 0 rfl dX12_cell_0 ?_
  refine g_iconst C dX12_cell_1 ?_
  refine gp_I C fk_LandSurveyModel_1 pk_LandSurveyModel_0 rfl ta0 (iw (il 0) (by decide) (by decide)) (nf_i _) dX12_cell_2 (fun h2 hh1 => ?_)
  have O3 := O.pI ta0 hh1 rI_12_0 (iw (il 0) (by decide) (by decide)) nofun
  refine g_iload_n C rfl 1 rfl dX12_cell_5 ?_
  refine g_iload_n C rfl 2 rfl dX12_cell_6 ?_
  refine g_callI (st := []) (gc_S C lk_LandSurveyModel_419 (k_X12_isCell l D cy w z0 O3 fa1 fa2) rfl ⟨by decide, by decide⟩ (Nat.le_of_ble_eq_true rfl) dX12_cell_7 ⟨(by decide), (by decide)⟩) (fun r4 h5 f7 K6 => ?_)
  obtain ⟨O8, F9, f10, p11⟩ := K6
  refine g_if_eq C (iw f10 (by decide) (by decide)) 24 (by decide) dX12_cell_10 (fun q12 => ?_) (fun q13 => ?_)
  · have f14 : (0 : Int) ≤ r4 ∧ r4 ≤ (0 : Int) := ii f10 (r_eq (il 0) q12) (by decide) (by decide)
    refine g_iconst C dX12_cell_24 ?_
    exact g_iret C hr (nar_z2 (iw (il 0) (by decide) (by decide))).1 (iw (il 0) (by decide) (by decide)) ⟨O8, (((Fx.rf (wr := wr_k_X12_cell)).pI ta0 hh1 rfl).call F9 rfl), (iw (il 0) (by decide) (by decide))⟩ (by decide) (by decide) dX12_cell_25
  · have f15 : (1 : Int) ≤ r4 ∧ r4 ≤ (1 : Int) := r_nl f10 q13
    have f16 : (0 : Int) ≤ a1 ∧ a1 ≤ (11 : Int) := by omega
    have f17 : (0 : Int) ≤ a2 ∧ a2 ≤ (7 : Int) := by omega
    refine g_iload_n C rfl 3 rfl dX12_cell_13 ?_
    refine g_iconst C dX12_cell_14 ?_
    refine g_sipush C (by decide) dX12_cell_15 ?_
    refine g_callI (st := []) (gc_S C lk_LandSurveyModel_415 (k_X12_within l D cy w z0 O8 fa3 (iw (il 0) (by decide) (by decide)) (iw (il 999) (by decide) (by decide))) rfl ⟨by decide, by decide⟩ (Nat.le_of_ble_eq_true rfl) dX12_cell_18 ⟨(by decide), (by decide)⟩) (fun r18 h19 f21 K20 => ?_)
    obtain ⟨O22, F23, f24, p25⟩ := K20
    refine g_if_ne C (iw f24 (by decide) (by decide)) 26 (by decide) dX12_cell_21 (fun q26 => ?_) (fun q27 => ?_)
    · have f28 : (1 : Int) ≤ r18 ∧ r18 ≤ (1 : Int) := r_nl f24 q26
      have f29 : (0 : Int) ≤ a3 ∧ a3 ≤ (999 : Int) := by omega
      refine g_aload_n C rfl 0 rfl dX12_cell_26 ?_
      have e30 : Tg h19 a0 = 12 := (fxT F23 (fxT F9 ((pIT hh1).trans ta0)))
      obtain ⟨v31, e32⟩ : ∃ z, Rv h19 a0 36 = z := ⟨_, rfl⟩
      have t33 := ok_R O22 e30 rE_12_36 e32
      have l34 := ok_L O22 e30 rE_12_36 e32
      refine gf_R C fk_LandSurveyModel_161 rfl e30 e32 dX12_cell_27 ?_
      refine g_bipush C (by decide) dX12_cell_30 ?_
      refine g_iload_n C rfl 2 rfl dX12_cell_32 ?_
      have f35 : (0 : Int) ≤ (12 * a2) ∧ (12 * a2) ≤ (84 : Int) := ia_mul (by decide) f17 (by decide) (by decide)
      refine g_imul C dX12_cell_33 ?_
      refine g_iload_n C rfl 1 rfl dX12_cell_34 ?_
      have f36 : (0 : Int) ≤ ((12 * a2) + a1) ∧ ((12 * a2) + a1) ≤ (95 : Int) := ia_add f35 f16 (by decide) (by decide)
      refine g_iadd C dX12_cell_35 ?_
      refine g_iload_n C rfl 3 rfl dX12_cell_36 ?_
      refine g_iast C t33 rfl l34 (ix f36 (by decide) (by decide)) (iw f29 (by decide) (by decide)) dX12_cell_37 (fun h38 hh37 => ?_)
      have O39 := O22.pIa t33 ar_136100 hh37 rI_136100_0 f29 nofun
      refine g_aload_n C rfl 0 rfl dX12_cell_38 ?_
      have e40 : Tg h38 a0 = 12 := ((pIT hh37).trans e30)
      obtain ⟨v41, e42⟩ : ∃ z, Rv h38 a0 37 = z := ⟨_, rfl⟩
      have t43 := ok_R O39 e40 rE_12_37 e42
      have l44 := ok_L O39 e40 rE_12_37 e42
      refine gf_R C fk_LandSurveyModel_164 rfl e40 e42 dX12_cell_39 ?_
      refine g_bipush C (by decide) dX12_cell_42 ?_
      refine g_iload_n C rfl 2 rfl dX12_cell_44 ?_
      refine g_imul C dX12_cell_45 ?_
      refine g_iload_n C rfl 1 rfl dX12_cell_46 ?_
      refine g_iadd C dX12_cell_47 ?_
      refine g_iload C 4 rfl dX12_cell_48 ?_
      refine g_zast C t43 rfl l44 (ix f36 (by decide) (by decide)) fa4 dX12_cell_50 (fun h46 hh45 => ?_)
      have O47 := O39.pIa t43 ar_137101 hh45 rI_137101_0 fa4 nofun
      refine g_aload_n C rfl 0 rfl dX12_cell_51 ?_
      refine g_iconst C dX12_cell_52 ?_
      have e48 : Tg h46 a0 = 12 := ((pIT hh45).trans e40)
      refine gp_I C fk_LandSurveyModel_290 pk_LandSurveyModel_35 rfl e48 (iw (il 1) (by decide) (by decide)) (nar_z2 (iw (il 1) (by decide) (by decide))) dX12_cell_53 (fun h50 hh49 => ?_)
      have O51 := O47.pI e48 hh49 rI_12_35 (iw (il 1) (by decide) (by decide)) nofun
      refine g_iconst C dX12_cell_56 ?_
      exact g_iret C hr (nar_z2 (iw (il 1) (by decide) (by decide))).1 (iw (il 1) (by decide) (by decide)) ⟨O51, (((((((Fx.rf (wr := wr_k_X12_cell)).pI ta0 hh1 rfl).call F9 rfl).call F23 rfl).pIa t33 ar_136100 hh37 rfl).pIa t43 ar_137101 hh45 rfl).pI e48 hh49 rfl), (iw (il 1) (by decide) (by decide))⟩ (by decide) (by decide) dX12_cell_57
    · have f52 : (0 : Int) ≤ r18 ∧ r18 ≤ (0 : Int) := ii f24 (r_eq (il 0) q27) (by decide) (by decide)
      refine g_iconst C dX12_cell_24 ?_
      exact g_iret C hr (nar_z2 (iw (il 0) (by decide) (by decide))).1 (iw (il 0) (by decide) (by decide)) ⟨O22, ((((Fx.rf (wr := wr_k_X12_cell)).pI ta0 hh1 rfl).call F9 rfl).call F23 rfl), (iw (il 0) (by decide) (by decide))⟩ (by decide) (by decide) dX12_cell_25
def wr_k_X12_fold : List Nat := [2400, 2435, 27620200]
set_option maxRecDepth 100000 in
set_option maxHeartbeats 4000000 in
theorem k_X12_fold (l : Launch) (D : va_G) (cy : Nat → ClassId) (w : Nat → Nat) (z0 : Nat)  {h : Hp} {a0 : Nat} {a1 : Int} {a2 : Int} {a3 : Int}  (O : Okh h) (ta0 : Tg h a0 = 12) (fa1 : (-2147483648) ≤ a1 ∧ a1 ≤ 2147483647) (fa2 : (-2147483648) ≤ a2 ∧ a2 ≤ 2147483647) (fa3 : 0 ≤ a3 ∧ a3 ≤ 1) : MI l D cy w z0 yX12_fold cX12_fold 4 (some .boolean) 2 43 0 0 [.inr (.inr a0), .inl a1, .inl a2, .inl a3] h (fun v h1 => Okh h1 ∧ Fx wr_k_X12_fold h h1 ∧ (0 ≤ v ∧ v ≤ 1)) := by
  refine hm_go (by decide +kernel) (Nat.le_of_ble_eq_true rfl) (fun p e s m below meth c C hr hn => ?_)
  refine g_aload_n C rfl 0 rfl dX12_fold_0 ?_
  refine g_iconst C dX12_fold_1 ?_
  refine gp_I C fk_LandSurveyModel_1 pk_LandSurveyModel_0 rfl ta0 (iw (il 0) (by decide) (by decide)) (nf_i _) dX12_fold_2 (fun h2 hh1 => ?_)
  have O3 := O.pI ta0 hh1 rI_12_0 (iw (il 0) (by decide) (by decide)) nofun
  refine g_iload_n C rfl 1 rfl dX12_fold_5 ?_
  refine g_iload_n C rfl 2 rfl dX12_fold_6 ?_
  refine g_callI (st := []) (gc_S C lk_LandSurveyModel_419 (k_X12_isCell l D cy w z0 O3 fa1 fa2) rfl ⟨by decide, by decide⟩ (Nat.le_of_ble_eq_true rfl) dX12_fold_7 ⟨(by decide), (by decide)⟩) (fun r4 h5 f7 K6 => ?_)
  obtain ⟨O8, F9, f10, p11⟩ := K6
  refine g_if_ne C (iw f10 (by decide) (by decide)) 15 (by decide) dX12_fold_10 (fun q12 => ?_) (fun q13 => ?_)
  · have f14 : (1 : Int) ≤ r4 ∧ r4 ≤ (1 : Int) := r_nl f10 q12
    have f15 : (0 : Int) ≤ a1 ∧ a1 ≤ (11 : Int) := by omega
    have f16 : (0 : Int) ≤ a2 ∧ a2 ≤ (7 : Int) := by omega
    refine g_aload_n C rfl 0 rfl dX12_fold_15 ?_
    have e17 : Tg h5 a0 = 12 := (fxT F9 ((pIT hh1).trans ta0))
    obtain ⟨v18, e19⟩ : ∃ z, Rv h5 a0 38 = z := ⟨_, rfl⟩
    have t20 := ok_R O8 e17 rE_12_38 e19
    have l21 := ok_L O8 e17 rE_12_38 e19
    refine gf_R C fk_LandSurveyModel_167 rfl e17 e19 dX12_fold_16 ?_
    refine g_bipush C (by decide) dX12_fold_19 ?_
    refine g_iload_n C rfl 2 rfl dX12_fold_21 ?_
    have f22 : (0 : Int) ≤ (12 * a2) ∧ (12 * a2) ≤ (84 : Int) := ia_mul (by decide) f16 (by decide) (by decide)
    refine g_imul C dX12_fold_22 ?_
    refine g_iload_n C rfl 1 rfl dX12_fold_23 ?_
    have f23 : (0 : Int) ≤ ((12 * a2) + a1) ∧ ((12 * a2) + a1) ≤ (95 : Int) := ia_add f22 f15 (by decide) (by decide)
    refine g_iadd C dX12_fold_24 ?_
    refine g_iload_n C rfl 3 rfl dX12_fold_25 ?_
    refine g_zast C t20 rfl l21 (ix f23 (by decide) (by decide)) fa3 dX12_fold_26 (fun h25 hh24 => ?_)
    have O26 := O8.pIa t20 ar_138101 hh24 rI_138101_0 fa3 nofun
    refine g_aload_n C rfl 0 rfl dX12_fold_27 ?_
    refine g_iconst C dX12_fold_28 ?_
    have e27 : Tg h25 a0 = 12 := ((pIT hh24).trans e17)
    refine gp_I C fk_LandSurveyModel_290 pk_LandSurveyModel_35 rfl e27 (iw (il 1) (by decide) (by decide)) (nar_z2 (iw (il 1) (by decide) (by decide))) dX12_fold_29 (fun h29 hh28 => ?_)
    have O30 := O26.pI e27 hh28 rI_12_35 (iw (il 1) (by decide) (by decide)) nofun
    refine g_iconst C dX12_fold_32 ?_
    exact g_iret C hr (nar_z2 (iw (il 1) (by decide) (by decide))).1 (iw (il 1) (by decide) (by decide)) ⟨O30, (((((Fx.rf (wr := wr_k_X12_fold)).pI ta0 hh1 rfl).call F9 rfl).pIa t20 ar_138101 hh24 rfl).pI e27 hh28 rfl), (iw (il 1) (by decide) (by decide))⟩ (by decide) (by decide) dX12_fold_33
  · have f31 : (0 : Int) ≤ r4 ∧ r4 ≤ (0 : Int) := ii f10 (r_eq (il 0) q13) (by decide) (by decide)
    refine g_iconst C dX12_fold_13 ?_
    exact g_iret C hr (nar_z2 (iw (il 0) (by decide) (by decide))).1 (iw (il 0) (by decide) (by decide)) ⟨O8, (((Fx.rf (wr := wr_k_X12_fold)).pI ta0 hh1 rfl).call F9 rfl), (iw (il 0) (by decide) (by decide))⟩ (by decide) (by decide) dX12_fold_14
def wr_k_X12_own : List Nat := [2400, 27820000]
set_option maxRecDepth 100000 in
set_option maxHeartbeats 4000000 in
theorem k_X12_own (l : Launch) (D : va_G) (cy : Nat → ClassId) (w : Nat → Nat) (z0 : Nat)  {h : Hp} {a0 : Nat} {a1 : Int} {a2 : Int} {a3 : Int}  (O : Okh h) (ta0 : Tg h a0 = 12) (fa1 : (-2147483648) ≤ a1 ∧ a1 ≤ 2147483647) (fa2 : (-2147483648) ≤ a2 ∧ a2 ≤ 2147483647) (fa3 : (-2147483648) ≤ a3 ∧ a3 ≤ 2147483647) : MI l D cy w z0 yX12_own cX12_own 4 (some .boolean) 2 43 0 0 [.inr (.inr a0), .inl a1, .inl a2, .inl a3] h (fun v h1 => Okh h1 ∧ Fx wr_k_X12_own h h1 ∧ (0 ≤ v ∧ v ≤ 1)) := by
  refine hm_go (by decide +kernel) (Nat.le_of_ble_eq_true rfl) (fun p e s m below meth c C hr hn => ?_)
  refine g_aload_n C rfl 0 rfl dX12_own_0 ?_
  refine g_iconst C dX12_own_1 ?_
  refine gp_I C fk_LandSurveyModel_1 pk_LandSurveyModel_0 rfl ta0 (iw (il 0) (by decide) (by decide)) (nf_i _) dX12_own_2 (fun h2 hh1 => ?_)
  have O3 := O.pI ta0 hh1 rI_12_0 (iw (il 0) (by decide) (by decide)) nofun
  refine g_iload_n C rfl 1 rfl dX12_own_5 ?_
  refine g_iload_n C rfl 2 rfl dX12_own_6 ?_
  refine g_callI (st := []) (gc_S C lk_LandSurveyModel_419 (k_X12_isCell l D cy w z0 O3 fa1 fa2) rfl ⟨by decide, by decide⟩ (Nat.le_of_ble_eq_true rfl) dX12_own_7 ⟨(by decide), (by decide)⟩) (fun r4 h5 f7 K6 => ?_)
  obtain ⟨O8, F9, f10, p11⟩ := K6
  refine g_if_eq C (iw f10 (by decide) (by decide)) 22 (by decide) dX12_own_10 (fun q12 => ?_) (fun q13 => ?_)
  · have f14 : (0 : Int) ≤ r4 ∧ r4 ≤ (0 : Int) := ii f10 (r_eq (il 0) q12) (by decide) (by decide)
    refine g_iconst C dX12_own_22 ?_
    exact g_iret C hr (nar_z2 (iw (il 0) (by decide) (by decide))).1 (iw (il 0) (by decide) (by decide)) ⟨O8, (((Fx.rf (wr := wr_k_X12_own)).pI ta0 hh1 rfl).call F9 rfl), (iw (il 0) (by decide) (by decide))⟩ (by decide) (by decide) dX12_own_23
  · have f15 : (1 : Int) ≤ r4 ∧ r4 ≤ (1 : Int) := r_nl f10 q13
    have f16 : (0 : Int) ≤ a1 ∧ a1 ≤ (11 : Int) := by omega
    have f17 : (0 : Int) ≤ a2 ∧ a2 ≤ (7 : Int) := by omega
    refine g_iload_n C rfl 3 rfl dX12_own_13 ?_
    refine g_iconst C dX12_own_14 ?_
    refine g_iconst C dX12_own_15 ?_
    refine g_callI (st := []) (gc_S C lk_LandSurveyModel_415 (k_X12_within l D cy w z0 O8 fa3 (iw (il (-1)) (by decide) (by decide)) (iw (il 3) (by decide) (by decide))) rfl ⟨by decide, by decide⟩ (Nat.le_of_ble_eq_true rfl) dX12_own_16 ⟨(by decide), (by decide)⟩) (fun r18 h19 f21 K20 => ?_)
    obtain ⟨O22, F23, f24, p25⟩ := K20
    refine g_if_ne C (iw f24 (by decide) (by decide)) 24 (by decide) dX12_own_19 (fun q26 => ?_) (fun q27 => ?_)
    · have f28 : (1 : Int) ≤ r18 ∧ r18 ≤ (1 : Int) := r_nl f24 q26
      have f29 : (-1 : Int) ≤ a3 ∧ a3 ≤ (3 : Int) := by omega
      refine g_aload_n C rfl 0 rfl dX12_own_24 ?_
      have e30 : Tg h19 a0 = 12 := (fxT F23 (fxT F9 ((pIT hh1).trans ta0)))
      obtain ⟨v31, e32⟩ : ∃ z, Rv h19 a0 39 = z := ⟨_, rfl⟩
      have t33 := ok_R O22 e30 rE_12_39 e32
      have l34 := ok_L O22 e30 rE_12_39 e32
      refine gf_R C fk_LandSurveyModel_170 rfl e30 e32 dX12_own_25 ?_
      refine g_bipush C (by decide) dX12_own_28 ?_
      refine g_iload_n C rfl 2 rfl dX12_own_30 ?_
      have f35 : (0 : Int) ≤ (12 * a2) ∧ (12 * a2) ≤ (84 : Int) := ia_mul (by decide) f17 (by decide) (by decide)
      refine g_imul C dX12_own_31 ?_
      refine g_iload_n C rfl 1 rfl dX12_own_32 ?_
      have f36 : (0 : Int) ≤ ((12 * a2) + a1) ∧ ((12 * a2) + a1) ≤ (95 : Int) := ia_add f35 f16 (by decide) (by decide)
      refine g_iadd C dX12_own_33 ?_
      refine g_iload_n C rfl 3 rfl dX12_own_34 ?_
      refine g_iast C t33 rfl l34 (ix f36 (by decide) (by decide)) (iw f29 (by decide) (by decide)) dX12_own_35 (fun h38 hh37 => ?_)
      have O39 := O22.pIa t33 ar_139100 hh37 rI_139100_0 f29 nofun
      refine g_iconst C dX12_own_36 ?_
      exact g_iret C hr (nar_z2 (iw (il 1) (by decide) (by decide))).1 (iw (il 1) (by decide) (by decide)) ⟨O39, (((((Fx.rf (wr := wr_k_X12_own)).pI ta0 hh1 rfl).call F9 rfl).call F23 rfl).pIa t33 ar_139100 hh37 rfl), (iw (il 1) (by decide) (by decide))⟩ (by decide) (by decide) dX12_own_37
    · have f40 : (0 : Int) ≤ r18 ∧ r18 ≤ (0 : Int) := ii f24 (r_eq (il 0) q27) (by decide) (by decide)
      refine g_iconst C dX12_own_22 ?_
      exact g_iret C hr (nar_z2 (iw (il 0) (by decide) (by decide))).1 (iw (il 0) (by decide) (by decide)) ⟨O22, ((((Fx.rf (wr := wr_k_X12_own)).pI ta0 hh1 rfl).call F9 rfl).call F23 rfl), (iw (il 0) (by decide) (by decide))⟩ (by decide) (by decide) dX12_own_23
def wr_k_X12_sight : List Nat := [2400, 2435, 2440, 28220000, 28420000, 28620000, 28820000, 29020000, 29220000, 29420000, 29620000, 30220000]
set_option maxRecDepth 100000 in
set_option maxHeartbeats 4000000 in
theorem k_X12_sight (l : Launch) (D : va_G) (cy : Nat → ClassId) (w : Nat → Nat) (z0 : Nat)  {h : Hp} {a0 : Nat} {a1 : Int} {a2 : Int} {a3 : Int} {a4 : Int} {a5 : Int} {a6 : Int}  (O : Okh h) (ta0 : Tg h a0 = 12) (fa1 : (-2147483648) ≤ a1 ∧ a1 ≤ 2147483647) (fa2 : (-2147483648) ≤ a2 ∧ a2 ≤ 2147483647) (fa3 : (-2147483648) ≤ a3 ∧ a3 ≤ 2147483647) (fa4 : (-2147483648) ≤ a4 ∧ a4 ≤ 2147483647) (fa5 : (-2147483648) ≤ a5 ∧ a5 ≤ 2147483647) (fa6 : (-2147483648) ≤ a6 ∧ a6 ≤ 2147483647) : MI l D cy w z0 yX12_sight cX12_sight 8 (some .int) 2 43 0 0 [.inr (.inr a0), .inl a1, .inl a2, .inl a3, .inl a4, .inl a5, .inl a6] h (fun v h1 => Okh h1 ∧ Fx wr_k_X12_sight h h1 ∧ ((-2147483648) ≤ v ∧ v ≤ 2147483647)) := by
  refine hm_go (by decide +kernel) (Nat.le_of_ble_eq_true rfl) (fun p e s m below meth c C hr hn => ?_)
  refine g_aload_n C rfl 0 rfl dX12_sight_0 ?_
  refine g_iconst C dX12_sight_1 ?_
  refine gp_I C fk_LandSurveyModel_1 pk_LandSurveyModel_0 rfl ta0 (iw (il 0) (by decide) (by decide)) (nf_i _) dX12_sight_2 (fun h2 hh1 => ?_)
  have O3 := O.pI ta0 hh1 rI_12_0 (iw (il 0) (by decide) (by decide)) nofun
  refine g_iload_n C rfl 1 rfl dX12_sight_5 ?_
  refine g_iconst C dX12_sight_6 ?_
  refine g_iconst C dX12_sight_7 ?_
  refine g_callI (st := []) (gc_S C lk_LandSurveyModel_415 (k_X12_within l D cy w z0 O3 fa1 (iw (il 0) (by decide) (by decide)) (iw (il 4) (by decide) (by decide))) rfl ⟨by decide, by decide⟩ (Nat.le_of_ble_eq_true rfl) dX12_sight_8 ⟨(by decide), (by decide)⟩) (fun r4 h5 f7 K6 => ?_)
  obtain ⟨O8, F9, f10, p11⟩ := K6
  refine g_if_eq C (iw f10 (by decide) (by decide)) 69 (by decide) dX12_sight_11 (fun q12 => ?_) (fun q13 => ?_)
  · have f14 : (0 : Int) ≤ r4 ∧ r4 ≤ (0 : Int) := ii f10 (r_eq (il 0) q12) (by decide) (by decide)
    refine g_iconst C dX12_sight_69 ?_
    refine g_istore C [(7, .inl 0), (0, .inr (.inr a0)), (1, .inl a1), (2, .inl a2), (3, .inl a3), (4, .inl a4), (5, .inl a5), (6, .inl a6)] (by decide) rfl dX12_sight_70 ?_
    refine g_iload C 0 rfl dX12_sight_72 ?_
    refine g_if_eq C (iw (il 0) (by decide) (by decide)) 104 (by decide) dX12_sight_74 (fun q15 => ?_) (fun q16 => ?_)
    · refine g_iconst C dX12_sight_104 ?_
      exact g_iret C hr rfl (iw (il (-1)) (by decide) (by decide)) ⟨O8, (((Fx.rf (wr := wr_k_X12_sight)).pI ta0 hh1 rfl).call F9 rfl), (iw (il (-1)) (by decide) (by decide))⟩ (by decide) (by decide) dX12_sight_105
    · exact (no_ne (il 0) (il 0) q16 (by decide)).elim
  · have f17 : (1 : Int) ≤ r4 ∧ r4 ≤ (1 : Int) := r_nl f10 q13
    have f18 : (0 : Int) ≤ a1 ∧ a1 ≤ (4 : Int) := by omega
    refine g_iload_n C rfl 2 rfl dX12_sight_14 ?_
    refine g_iload_n C rfl 3 rfl dX12_sight_15 ?_
    refine g_callI (st := []) (gc_S C lk_LandSurveyModel_419 (k_X12_isCell l D cy w z0 O8 fa2 fa3) rfl ⟨by decide, by decide⟩ (Nat.le_of_ble_eq_true rfl) dX12_sight_16 ⟨(by decide), (by decide)⟩) (fun r19 h20 f22 K21 => ?_)
    obtain ⟨O23, F24, f25, p26⟩ := K21
    refine g_if_eq C (iw f25 (by decide) (by decide)) 69 (by decide) dX12_sight_19 (fun q27 => ?_) (fun q28 => ?_)
    · have f29 : (0 : Int) ≤ r19 ∧ r19 ≤ (0 : Int) := ii f25 (r_eq (il 0) q27) (by decide) (by decide)
      refine g_iconst C dX12_sight_69 ?_
      refine g_istore C [(7, .inl 0), (0, .inr (.inr a0)), (1, .inl a1), (2, .inl a2), (3, .inl a3), (4, .inl a4), (5, .inl a5), (6, .inl a6)] (by decide) rfl dX12_sight_70 ?_
      refine g_iload C 0 rfl dX12_sight_72 ?_
      refine g_if_eq C (iw (il 0) (by decide) (by decide)) 104 (by decide) dX12_sight_74 (fun q30 => ?_) (fun q31 => ?_)
      · refine g_iconst C dX12_sight_104 ?_
        exact g_iret C hr rfl (iw (il (-1)) (by decide) (by decide)) ⟨O23, ((((Fx.rf (wr := wr_k_X12_sight)).pI ta0 hh1 rfl).call F9 rfl).call F24 rfl), (iw (il (-1)) (by decide) (by decide))⟩ (by decide) (by decide) dX12_sight_105
      · exact (no_ne (il 0) (il 0) q31 (by decide)).elim
    · have f32 : (1 : Int) ≤ r19 ∧ r19 ≤ (1 : Int) := r_nl f25 q28
      have f33 : (0 : Int) ≤ a2 ∧ a2 ≤ (11 : Int) := by omega
      have f34 : (0 : Int) ≤ a3 ∧ a3 ≤ (7 : Int) := by omega
      refine g_iload C 4 rfl dX12_sight_22 ?_
      refine g_iconst C dX12_sight_24 ?_
      refine g_iload_n C rfl 1 rfl dX12_sight_25 ?_
      refine g_iconst C dX12_sight_26 ?_
      refine g_icmp_ge C (iw f18 (by decide) (by decide)) (iw (il 2) (by decide) (by decide)) 34 (by decide) dX12_sight_27 (fun q35 => ?_) (fun q36 => ?_)
      · have f37 : (2 : Int) ≤ a1 ∧ a1 ≤ (4 : Int) := r_ge f18 (il 2) q35 (by decide) (by decide)
        refine g_sipush C (by decide) dX12_sight_34 ?_
        refine g_callI (st := []) (gc_S C lk_LandSurveyModel_415 (k_X12_within l D cy w z0 O23 fa4 (iw (il 0) (by decide) (by decide)) (iw (il 999) (by decide) (by decide))) rfl ⟨by decide, by decide⟩ (Nat.le_of_ble_eq_true rfl) dX12_sight_37 ⟨(by decide), (by decide)⟩) (fun r38 h39 f41 K40 => ?_)
        obtain ⟨O42, F43, f44, p45⟩ := K40
        refine g_if_eq C (iw f44 (by decide) (by decide)) 69 (by decide) dX12_sight_40 (fun q46 => ?_) (fun q47 => ?_)
        · have f48 : (0 : Int) ≤ r38 ∧ r38 ≤ (0 : Int) := ii f44 (r_eq (il 0) q46) (by decide) (by decide)
          refine g_iconst C dX12_sight_69 ?_
          refine g_istore C [(7, .inl 0), (0, .inr (.inr a0)), (1, .inl a1), (2, .inl a2), (3, .inl a3), (4, .inl a4), (5, .inl a5), (6, .inl a6)] (by decide) rfl dX12_sight_70 ?_
          refine g_iload C 0 rfl dX12_sight_72 ?_
          refine g_if_eq C (iw (il 0) (by decide) (by decide)) 104 (by decide) dX12_sight_74 (fun q49 => ?_) (fun q50 => ?_)
          · refine g_iconst C dX12_sight_104 ?_
            exact g_iret C hr rfl (iw (il (-1)) (by decide) (by decide)) ⟨O42, (((((Fx.rf (wr := wr_k_X12_sight)).pI ta0 hh1 rfl).call F9 rfl).call F24 rfl).call F43 rfl), (iw (il (-1)) (by decide) (by decide))⟩ (by decide) (by decide) dX12_sight_105
          · exact (no_ne (il 0) (il 0) q50 (by decide)).elim
        · have f51 : (1 : Int) ≤ r38 ∧ r38 ≤ (1 : Int) := r_nl f44 q47
          have f52 : (0 : Int) ≤ a4 ∧ a4 ≤ (999 : Int) := by omega
          refine g_iload C 5 rfl dX12_sight_43 ?_
          refine g_iconst C dX12_sight_45 ?_
          refine g_iconst C dX12_sight_46 ?_
          refine g_callI (st := []) (gc_S C lk_LandSurveyModel_415 (k_X12_within l D cy w z0 O42 fa5 (iw (il 0) (by decide) (by decide)) (iw (il 5) (by decide) (by decide))) rfl ⟨by decide, by decide⟩ (Nat.le_of_ble_eq_true rfl) dX12_sight_47 ⟨(by decide), (by decide)⟩) (fun r53 h54 f56 K55 => ?_)
          obtain ⟨O57, F58, f59, p60⟩ := K55
          refine g_if_eq C (iw f59 (by decide) (by decide)) 69 (by decide) dX12_sight_50 (fun q61 => ?_) (fun q62 => ?_)
          · have f63 : (0 : Int) ≤ r53 ∧ r53 ≤ (0 : Int) := ii f59 (r_eq (il 0) q61) (by decide) (by decide)
            refine g_iconst C dX12_sight_69 ?_
            refine g_istore C [(7, .inl 0), (0, .inr (.inr a0)), (1, .inl a1), (2, .inl a2), (3, .inl a3), (4, .inl a4), (5, .inl a5), (6, .inl a6)] (by decide) rfl dX12_sight_70 ?_
            refine g_iload C 0 rfl dX12_sight_72 ?_
            refine g_if_eq C (iw (il 0) (by decide) (by decide)) 104 (by decide) dX12_sight_74 (fun q64 => ?_) (fun q65 => ?_)
            · refine g_iconst C dX12_sight_104 ?_
              exact g_iret C hr rfl (iw (il (-1)) (by decide) (by decide)) ⟨O57, ((((((Fx.rf (wr := wr_k_X12_sight)).pI ta0 hh1 rfl).call F9 rfl).call F24 rfl).call F43 rfl).call F58 rfl), (iw (il (-1)) (by decide) (by decide))⟩ (by decide) (by decide) dX12_sight_105
            · exact (no_ne (il 0) (il 0) q65 (by decide)).elim
          · have f66 : (1 : Int) ≤ r53 ∧ r53 ≤ (1 : Int) := r_nl f59 q62
            have f67 : (0 : Int) ≤ a5 ∧ a5 ≤ (5 : Int) := by omega
            refine g_iload C 6 rfl dX12_sight_53 ?_
            refine g_iconst C dX12_sight_55 ?_
            refine g_sipush C (by decide) dX12_sight_56 ?_
            refine g_callI (st := []) (gc_S C lk_LandSurveyModel_415 (k_X12_within l D cy w z0 O57 fa6 (iw (il 0) (by decide) (by decide)) (iw (il 9999) (by decide) (by decide))) rfl ⟨by decide, by decide⟩ (Nat.le_of_ble_eq_true rfl) dX12_sight_59 ⟨(by decide), (by decide)⟩) (fun r68 h69 f71 K70 => ?_)
            obtain ⟨O72, F73, f74, p75⟩ := K70
            refine g_if_eq C (iw f74 (by decide) (by decide)) 69 (by decide) dX12_sight_62 (fun q76 => ?_) (fun q77 => ?_)
            · have f78 : (0 : Int) ≤ r68 ∧ r68 ≤ (0 : Int) := ii f74 (r_eq (il 0) q76) (by decide) (by decide)
              refine g_iconst C dX12_sight_69 ?_
              refine g_istore C [(7, .inl 0), (0, .inr (.inr a0)), (1, .inl a1), (2, .inl a2), (3, .inl a3), (4, .inl a4), (5, .inl a5), (6, .inl a6)] (by decide) rfl dX12_sight_70 ?_
              refine g_iload C 0 rfl dX12_sight_72 ?_
              refine g_if_eq C (iw (il 0) (by decide) (by decide)) 104 (by decide) dX12_sight_74 (fun q79 => ?_) (fun q80 => ?_)
              · refine g_iconst C dX12_sight_104 ?_
                exact g_iret C hr rfl (iw (il (-1)) (by decide) (by decide)) ⟨O72, (((((((Fx.rf (wr := wr_k_X12_sight)).pI ta0 hh1 rfl).call F9 rfl).call F24 rfl).call F43 rfl).call F58 rfl).call F73 rfl), (iw (il (-1)) (by decide) (by decide))⟩ (by decide) (by decide) dX12_sight_105
              · exact (no_ne (il 0) (il 0) q80 (by decide)).elim
            · have f81 : (1 : Int) ≤ r68 ∧ r68 ≤ (1 : Int) := r_nl f74 q77
              have f82 : (0 : Int) ≤ a6 ∧ a6 ≤ (9999 : Int) := by omega
              refine g_iconst C dX12_sight_65 ?_
              refine g_goto C 70 (by decide) dX12_sight_66 ?_
              refine g_istore C [(7, .inl 1), (0, .inr (.inr a0)), (1, .inl a1), (2, .inl a2), (3, .inl a3), (4, .inl a4), (5, .inl a5), (6, .inl a6)] (by decide) rfl dX12_sight_70 ?_
              refine g_iload C 0 rfl dX12_sight_72 ?_
              refine g_if_eq C (iw (il 1) (by decide) (by decide)) 104 (by decide) dX12_sight_74 (fun q83 => ?_) (fun q84 => ?_)
              · exact (no_eq (il 1) (il 0) q83 (by decide)).elim
              · refine g_iload_n C rfl 2 rfl dX12_sight_77 ?_
                refine g_if_ne C (iw f37 (by decide) (by decide)) 95 (by decide) dX12_sight_78 (fun q85 => ?_) (fun q86 => ?_)
                · refine g_aload_n C rfl 1 rfl dX12_sight_95 ?_
                  have e87 : Tg h69 a0 = 12 := (fxT F73 (fxT F58 (fxT F43 (fxT F24 (fxT F9 ((pIT hh1).trans ta0))))))
                  obtain ⟨v88, e89⟩ : ∃ z, Iv h69 a0 40 = z := ⟨_, rfl⟩
                  have f90 := ok_I O72 e87 rI_12_40 e89
                  refine gf_I C fk_LandSurveyModel_423 rfl e87 e89 dX12_sight_96 ?_
                  refine g_bipush C (by decide) dX12_sight_99 ?_
                  refine g_icmp_ne C (iw f90 (by decide) (by decide)) (iw (il 40) (by decide) (by decide)) 106 (by decide) dX12_sight_101 (fun q91 => ?_) (fun q92 => ?_)
                  · have f93 : (0 : Int) ≤ v88 ∧ v88 ≤ (39 : Int) := r_nh f90 q91
                    refine g_aload_n C rfl 1 rfl dX12_sight_106 ?_
                    obtain ⟨v94, e95⟩ : ∃ z, Rv h69 a0 41 = z := ⟨_, rfl⟩
                    have t96 := ok_R O72 e87 rE_12_41 e95
                    have l97 := ok_L O72 e87 rE_12_41 e95
                    refine gf_R C fk_LandSurveyModel_173 rfl e87 e95 dX12_sight_107 ?_
                    refine g_aload_n C rfl 1 rfl dX12_sight_110 ?_
                    refine gf_I C fk_LandSurveyModel_423 rfl e87 e89 dX12_sight_111 ?_
                    refine g_iload_n C rfl 2 rfl dX12_sight_114 ?_
                    refine g_iast C t96 rfl l97 (ix f93 (by decide) (by decide)) (iw f37 (by decide) (by decide)) dX12_sight_115 (fun h99 hh98 => ?_)
                    have O100 := O72.pIa t96 ar_141100 hh98 rI_141100_0 (iw f37 (by decide) (by decide)) nofun
                    refine g_aload_n C rfl 1 rfl dX12_sight_116 ?_
                    have e101 : Tg h99 a0 = 12 := ((pIT hh98).trans e87)
                    obtain ⟨v102, e103⟩ : ∃ z, Rv h99 a0 42 = z := ⟨_, rfl⟩
                    have t104 := ok_R O100 e101 rE_12_42 e103
                    have l105 := ok_L O100 e101 rE_12_42 e103
                    refine gf_R C fk_LandSurveyModel_176 rfl e101 e103 dX12_sight_117 ?_
                    refine g_aload_n C rfl 1 rfl dX12_sight_120 ?_
                    have e106 : Iv h99 a0 40 = v88 := ((pI_n hh98 (ne_tag e87 t96 (by decide))).trans e89)
                    refine gf_I C fk_LandSurveyModel_423 rfl e101 e106 dX12_sight_121 ?_
                    refine g_bipush C (by decide) dX12_sight_124 ?_
                    refine g_iload_n C rfl 4 rfl dX12_sight_126 ?_
                    have f107 : (0 : Int) ≤ (12 * a3) ∧ (12 * a3) ≤ (84 : Int) := ia_mul (by decide) f34 (by decide) (by decide)
                    refine g_imul C dX12_sight_127 ?_
                    refine g_iload_n C rfl 3 rfl dX12_sight_128 ?_
                    have f108 : (0 : Int) ≤ ((12 * a3) + a2) ∧ ((12 * a3) + a2) ≤ (95 : Int) := ia_add f107 f33 (by decide) (by decide)
                    refine g_iadd C dX12_sight_129 ?_
                    refine g_iast C t104 rfl l105 (ix f93 (by decide) (by decide)) (iw f108 (by decide) (by decide)) dX12_sight_130 (fun h110 hh109 => ?_)
                    have O111 := O100.pIa t104 ar_142100 hh109 rI_142100_0 f108 nofun
                    refine g_aload_n C rfl 1 rfl dX12_sight_131 ?_
                    have e112 : Tg h110 a0 = 12 := ((pIT hh109).trans e101)
                    obtain ⟨v113, e114⟩ : ∃ z, Rv h110 a0 43 = z := ⟨_, rfl⟩
                    have t115 := ok_R O111 e112 rE_12_43 e114
                    have l116 := ok_L O111 e112 rE_12_43 e114
                    refine gf_R C fk_LandSurveyModel_179 rfl e112 e114 dX12_sight_132 ?_
                    refine g_aload_n C rfl 1 rfl dX12_sight_135 ?_
                    have e117 : Iv h110 a0 40 = v88 := ((pI_n hh109 (ne_tag e101 t104 (by decide))).trans e106)
                    refine gf_I C fk_LandSurveyModel_423 rfl e112 e117 dX12_sight_136 ?_
                    refine g_iload C 5 rfl dX12_sight_139 ?_
                    refine g_iast C t115 rfl l116 (ix f93 (by decide) (by decide)) (iw f52 (by decide) (by decide)) dX12_sight_141 (fun h119 hh118 => ?_)
                    have O120 := O111.pIa t115 ar_143100 hh118 rI_143100_0 f52 nofun
                    refine g_aload_n C rfl 1 rfl dX12_sight_142 ?_
                    have e121 : Tg h119 a0 = 12 := ((pIT hh118).trans e112)
                    obtain ⟨v122, e123⟩ : ∃ z, Rv h119 a0 44 = z := ⟨_, rfl⟩
                    have t124 := ok_R O120 e121 rE_12_44 e123
                    have l125 := ok_L O120 e121 rE_12_44 e123
                    refine gf_R C fk_LandSurveyModel_182 rfl e121 e123 dX12_sight_143 ?_
                    refine g_aload_n C rfl 1 rfl dX12_sight_146 ?_
                    have e126 : Iv h119 a0 40 = v88 := ((pI_n hh118 (ne_tag e112 t115 (by decide))).trans e117)
                    refine gf_I C fk_LandSurveyModel_423 rfl e121 e126 dX12_sight_147 ?_
                    refine g_iload C 6 rfl dX12_sight_150 ?_
                    refine g_iast C t124 rfl l125 (ix f93 (by decide) (by decide)) (iw f67 (by decide) (by decide)) dX12_sight_152 (fun h128 hh127 => ?_)
                    have O129 := O120.pIa t124 ar_144100 hh127 rI_144100_0 f67 nofun
                    refine g_aload_n C rfl 1 rfl dX12_sight_153 ?_
                    have e130 : Tg h128 a0 = 12 := ((pIT hh127).trans e121)
                    obtain ⟨v131, e132⟩ : ∃ z, Rv h128 a0 45 = z := ⟨_, rfl⟩
                    have t133 := ok_R O129 e130 rE_12_45 e132
                    have l134 := ok_L O129 e130 rE_12_45 e132
                    refine gf_R C fk_LandSurveyModel_185 rfl e130 e132 dX12_sight_154 ?_
                    refine g_aload_n C rfl 1 rfl dX12_sight_157 ?_
                    have e135 : Iv h128 a0 40 = v88 := ((pI_n hh127 (ne_tag e121 t124 (by decide))).trans e126)
                    refine gf_I C fk_LandSurveyModel_423 rfl e130 e135 dX12_sight_158 ?_
                    refine g_iload C 7 rfl dX12_sight_161 ?_
                    refine g_iast C t133 rfl l134 (ix f93 (by decide) (by decide)) (iw f82 (by decide) (by decide)) dX12_sight_163 (fun h137 hh136 => ?_)
                    have O138 := O129.pIa t133 ar_145100 hh136 rI_145100_0 f82 nofun
                    refine g_aload_n C rfl 1 rfl dX12_sight_164 ?_
                    have e139 : Tg h137 a0 = 12 := ((pIT hh136).trans e130)
                    obtain ⟨v140, e141⟩ : ∃ z, Rv h137 a0 46 = z := ⟨_, rfl⟩
                    have t142 := ok_R O138 e139 rE_12_46 e141
                    have l143 := ok_L O138 e139 rE_12_46 e141
                    refine gf_R C fk_LandSurveyModel_188 rfl e139 e141 dX12_sight_165 ?_
                    refine g_aload_n C rfl 1 rfl dX12_sight_168 ?_
                    have e144 : Iv h137 a0 40 = v88 := ((pI_n hh136 (ne_tag e130 t133 (by decide))).trans e135)
                    refine gf_I C fk_LandSurveyModel_423 rfl e139 e144 dX12_sight_169 ?_
                    refine g_aload_n C rfl 1 rfl dX12_sight_172 ?_
                    obtain ⟨v145, e146⟩ : ∃ z, Iv h137 a0 33 = z := ⟨_, rfl⟩
                    have f147 := ok_I O138 e139 rI_12_33 e146
                    refine gf_I C fk_LandSurveyModel_342 rfl e139 e146 dX12_sight_173 ?_
                    refine g_iast C t142 rfl l143 (ix f93 (by decide) (by decide)) (iw f147 (by decide) (by decide)) dX12_sight_176 (fun h149 hh148 => ?_)
                    have O150 := O138.pIa t142 ar_146100 hh148 rI_146100_0 f147 nofun
                    refine g_aload_n C rfl 1 rfl dX12_sight_177 ?_
                    have e151 : Tg h149 a0 = 12 := ((pIT hh148).trans e139)
                    obtain ⟨v152, e153⟩ : ∃ z, Rv h149 a0 47 = z := ⟨_, rfl⟩
                    have t154 := ok_R O150 e151 rE_12_47 e153
                    have l155 := ok_L O150 e151 rE_12_47 e153
                    refine gf_R C fk_LandSurveyModel_191 rfl e151 e153 dX12_sight_178 ?_
                    refine g_aload_n C rfl 1 rfl dX12_sight_181 ?_
                    have e156 : Iv h149 a0 40 = v88 := ((pI_n hh148 (ne_tag e139 t142 (by decide))).trans e144)
                    refine gf_I C fk_LandSurveyModel_423 rfl e151 e156 dX12_sight_182 ?_
                    refine g_iconst C dX12_sight_185 ?_
                    refine g_iast C t154 rfl l155 (ix f93 (by decide) (by decide)) (iw (il (-1)) (by decide) (by decide)) dX12_sight_186 (fun h158 hh157 => ?_)
                    have O159 := O150.pIa t154 ar_147100 hh157 rI_147100_0 (iw (il (-1)) (by decide) (by decide)) nofun
                    refine g_aload_n C rfl 1 rfl dX12_sight_187 ?_
                    have e160 : Tg h158 a0 = 12 := ((pIT hh157).trans e151)
                    obtain ⟨v161, e162⟩ : ∃ z, Rv h158 a0 48 = z := ⟨_, rfl⟩
                    have t163 := ok_R O159 e160 rE_12_48 e162
                    have l164 := ok_L O159 e160 rE_12_48 e162
                    refine gf_R C fk_LandSurveyModel_194 rfl e160 e162 dX12_sight_188 ?_
                    refine g_aload_n C rfl 1 rfl dX12_sight_191 ?_
                    have e165 : Iv h158 a0 40 = v88 := ((pI_n hh157 (ne_tag e151 t154 (by decide))).trans e156)
                    refine gf_I C fk_LandSurveyModel_423 rfl e160 e165 dX12_sight_192 ?_
                    refine g_iconst C dX12_sight_195 ?_
                    refine g_iast C t163 rfl l164 (ix f93 (by decide) (by decide)) (iw (il (-1)) (by decide) (by decide)) dX12_sight_196 (fun h167 hh166 => ?_)
                    have O168 := O159.pIa t163 ar_148100 hh166 rI_148100_0 (iw (il (-1)) (by decide) (by decide)) nofun
                    refine g_aload_n C rfl 1 rfl dX12_sight_197 ?_
                    have e169 : Tg h167 a0 = 12 := ((pIT hh166).trans e160)
                    obtain ⟨v170, e171⟩ : ∃ z, Rv h167 a0 51 = z := ⟨_, rfl⟩
                    have t172 := ok_R O168 e169 rE_12_51 e171
                    have l173 := ok_L O168 e169 rE_12_51 e171
                    refine gf_R C fk_LandSurveyModel_203 rfl e169 e171 dX12_sight_198 ?_
                    refine g_aload_n C rfl 1 rfl dX12_sight_201 ?_
                    have e174 : Iv h167 a0 40 = v88 := ((pI_n hh166 (ne_tag e160 t163 (by decide))).trans e165)
                    refine gf_I C fk_LandSurveyModel_423 rfl e169 e174 dX12_sight_202 ?_
                    refine g_iconst C dX12_sight_205 ?_
                    refine g_iast C t172 rfl l173 (ix f93 (by decide) (by decide)) (iw (il (-1)) (by decide) (by decide)) dX12_sight_206 (fun h176 hh175 => ?_)
                    have O177 := O168.pIa t172 ar_151100 hh175 rI_151100_0 (iw (il (-1)) (by decide) (by decide)) nofun
                    refine g_aload_n C rfl 1 rfl dX12_sight_207 ?_
                    refine g_dup C rfl dX12_sight_208 ?_
                    have e178 : Tg h176 a0 = 12 := ((pIT hh175).trans e169)
                    have e179 : Iv h176 a0 40 = v88 := ((pI_n hh175 (ne_tag e169 t172 (by decide))).trans e174)
                    refine gf_I C fk_LandSurveyModel_423 rfl e178 e179 dX12_sight_209 ?_
                    refine g_iconst C dX12_sight_212 ?_
                    have f180 : (1 : Int) ≤ (v88 + 1) ∧ (v88 + 1) ≤ (40 : Int) := ia_add f93 (il 1) (by decide) (by decide)
                    refine g_iadd C dX12_sight_213 ?_
                    refine gp_I C fk_LandSurveyModel_423 pk_LandSurveyModel_40 rfl e178 (iw f180 (by decide) (by decide)) (nf_i _) dX12_sight_214 (fun h182 hh181 => ?_)
                    have O183 := O177.pI e178 hh181 rI_12_40 (iw f180 (by decide) (by decide)) nofun
                    refine g_aload_n C rfl 1 rfl dX12_sight_217 ?_
                    refine g_iconst C dX12_sight_218 ?_
                    have e184 : Tg h182 a0 = 12 := ((pIT hh181).trans e178)
                    refine gp_I C fk_LandSurveyModel_290 pk_LandSurveyModel_35 rfl e184 (iw (il 1) (by decide) (by decide)) (nar_z2 (iw (il 1) (by decide) (by decide))) dX12_sight_219 (fun h186 hh185 => ?_)
                    have O187 := O183.pI e184 hh185 rI_12_35 (iw (il 1) (by decide) (by decide)) nofun
                    refine g_aload_n C rfl 1 rfl dX12_sight_222 ?_
                    have e188 : Tg h186 a0 = 12 := ((pIT hh185).trans e184)
                    have e189 : Iv h186 a0 40 = (v88 + 1) := ((pI_j hh185 (by decide)).trans (pI_e hh181))
                    refine gf_I C fk_LandSurveyModel_423 rfl e188 e189 dX12_sight_223 ?_
                    refine g_iconst C dX12_sight_226 ?_
                    have f190 : (0 : Int) ≤ ((v88 + 1) - 1) ∧ ((v88 + 1) - 1) ≤ (39 : Int) := ia_sub f180 (il 1) (by decide) (by decide)
                    refine g_isub C dX12_sight_227 ?_
                    exact g_iret C hr rfl (iw f190 (by decide) (by decide)) ⟨O187, ((((((((((((((((((Fx.rf (wr := wr_k_X12_sight)).pI ta0 hh1 rfl).call F9 rfl).call F24 rfl).call F43 rfl).call F58 rfl).call F73 rfl).pIa t96 ar_141100 hh98 rfl).pIa t104 ar_142100 hh109 rfl).pIa t115 ar_143100 hh118 rfl).pIa t124 ar_144100 hh127 rfl).pIa t133 ar_145100 hh136 rfl).pIa t142 ar_146100 hh148 rfl).pIa t154 ar_147100 hh157 rfl).pIa t163 ar_148100 hh166 rfl).pIa t172 ar_151100 hh175 rfl).pI e178 hh181 rfl).pI e184 hh185 rfl), (iw f190 (by decide) (by decide))⟩ (by decide) (by decide) dX12_sight_228
                  · have f191 : (40 : Int) ≤ v88 ∧ v88 ≤ (40 : Int) := ii f90 (r_eq (il 40) q92) (by decide) (by decide)
                    refine g_iconst C dX12_sight_104 ?_
                    exact g_iret C hr rfl (iw (il (-1)) (by decide) (by decide)) ⟨O72, (((((((Fx.rf (wr := wr_k_X12_sight)).pI ta0 hh1 rfl).call F9 rfl).call F24 rfl).call F43 rfl).call F58 rfl).call F73 rfl), (iw (il (-1)) (by decide) (by decide))⟩ (by decide) (by decide) dX12_sight_105
                · exact (no_eq f37 (il 0) q86 (by decide)).elim
      · have f192 : (0 : Int) ≤ a1 ∧ a1 ≤ (1 : Int) := r_lt f18 (il 2) q36 (by decide) (by decide)
        refine g_iconst C dX12_sight_30 ?_
        refine g_goto C 37 (by decide) dX12_sight_31 ?_
        refine g_callI (st := []) (gc_S C lk_LandSurveyModel_415 (k_X12_within l D cy w z0 O23 fa4 (iw (il 0) (by decide) (by decide)) (iw (il 0) (by decide) (by decide))) rfl ⟨by decide, by decide⟩ (Nat.le_of_ble_eq_true rfl) dX12_sight_37 ⟨(by decide), (by decide)⟩) (fun r193 h194 f196 K195 => ?_)
        obtain ⟨O197, F198, f199, p200⟩ := K195
        refine g_if_eq C (iw f199 (by decide) (by decide)) 69 (by decide) dX12_sight_40 (fun q201 => ?_) (fun q202 => ?_)
        · have f203 : (0 : Int) ≤ r193 ∧ r193 ≤ (0 : Int) := ii f199 (r_eq (il 0) q201) (by decide) (by decide)
          refine g_iconst C dX12_sight_69 ?_
          refine g_istore C [(7, .inl 0), (0, .inr (.inr a0)), (1, .inl a1), (2, .inl a2), (3, .inl a3), (4, .inl a4), (5, .inl a5), (6, .inl a6)] (by decide) rfl dX12_sight_70 ?_
          refine g_iload C 0 rfl dX12_sight_72 ?_
          refine g_if_eq C (iw (il 0) (by decide) (by decide)) 104 (by decide) dX12_sight_74 (fun q204 => ?_) (fun q205 => ?_)
          · refine g_iconst C dX12_sight_104 ?_
            exact g_iret C hr rfl (iw (il (-1)) (by decide) (by decide)) ⟨O197, (((((Fx.rf (wr := wr_k_X12_sight)).pI ta0 hh1 rfl).call F9 rfl).call F24 rfl).call F198 rfl), (iw (il (-1)) (by decide) (by decide))⟩ (by decide) (by decide) dX12_sight_105
          · exact (no_ne (il 0) (il 0) q205 (by decide)).elim
        · have f206 : (1 : Int) ≤ r193 ∧ r193 ≤ (1 : Int) := r_nl f199 q202
          have f207 : (0 : Int) ≤ a4 ∧ a4 ≤ (0 : Int) := by omega
          refine g_iload C 5 rfl dX12_sight_43 ?_
          refine g_iconst C dX12_sight_45 ?_
          refine g_iconst C dX12_sight_46 ?_
          refine g_callI (st := []) (gc_S C lk_LandSurveyModel_415 (k_X12_within l D cy w z0 O197 fa5 (iw (il 0) (by decide) (by decide)) (iw (il 5) (by decide) (by decide))) rfl ⟨by decide, by decide⟩ (Nat.le_of_ble_eq_true rfl) dX12_sight_47 ⟨(by decide), (by decide)⟩) (fun r208 h209 f211 K210 => ?_)
          obtain ⟨O212, F213, f214, p215⟩ := K210
          refine g_if_eq C (iw f214 (by decide) (by decide)) 69 (by decide) dX12_sight_50 (fun q216 => ?_) (fun q217 => ?_)
          · have f218 : (0 : Int) ≤ r208 ∧ r208 ≤ (0 : Int) := ii f214 (r_eq (il 0) q216) (by decide) (by decide)
            refine g_iconst C dX12_sight_69 ?_
            refine g_istore C [(7, .inl 0), (0, .inr (.inr a0)), (1, .inl a1), (2, .inl a2), (3, .inl a3), (4, .inl a4), (5, .inl a5), (6, .inl a6)] (by decide) rfl dX12_sight_70 ?_
            refine g_iload C 0 rfl dX12_sight_72 ?_
            refine g_if_eq C (iw (il 0) (by decide) (by decide)) 104 (by decide) dX12_sight_74 (fun q219 => ?_) (fun q220 => ?_)
            · refine g_iconst C dX12_sight_104 ?_
              exact g_iret C hr rfl (iw (il (-1)) (by decide) (by decide)) ⟨O212, ((((((Fx.rf (wr := wr_k_X12_sight)).pI ta0 hh1 rfl).call F9 rfl).call F24 rfl).call F198 rfl).call F213 rfl), (iw (il (-1)) (by decide) (by decide))⟩ (by decide) (by decide) dX12_sight_105
            · exact (no_ne (il 0) (il 0) q220 (by decide)).elim
          · have f221 : (1 : Int) ≤ r208 ∧ r208 ≤ (1 : Int) := r_nl f214 q217
            have f222 : (0 : Int) ≤ a5 ∧ a5 ≤ (5 : Int) := by omega
            refine g_iload C 6 rfl dX12_sight_53 ?_
            refine g_iconst C dX12_sight_55 ?_
            refine g_sipush C (by decide) dX12_sight_56 ?_
            refine g_callI (st := []) (gc_S C lk_LandSurveyModel_415 (k_X12_within l D cy w z0 O212 fa6 (iw (il 0) (by decide) (by decide)) (iw (il 9999) (by decide) (by decide))) rfl ⟨by decide, by decide⟩ (Nat.le_of_ble_eq_true rfl) dX12_sight_59 ⟨(by decide), (by decide)⟩) (fun r223 h224 f226 K225 => ?_)
            obtain ⟨O227, F228, f229, p230⟩ := K225
            refine g_if_eq C (iw f229 (by decide) (by decide)) 69 (by decide) dX12_sight_62 (fun q231 => ?_) (fun q232 => ?_)
            · have f233 : (0 : Int) ≤ r223 ∧ r223 ≤ (0 : Int) := ii f229 (r_eq (il 0) q231) (by decide) (by decide)
              refine g_iconst C dX12_sight_69 ?_
              refine g_istore C [(7, .inl 0), (0, .inr (.inr a0)), (1, .inl a1), (2, .inl a2), (3, .inl a3), (4, .inl a4), (5, .inl a5), (6, .inl a6)] (by decide) rfl dX12_sight_70 ?_
              refine g_iload C 0 rfl dX12_sight_72 ?_
              refine g_if_eq C (iw (il 0) (by decide) (by decide)) 104 (by decide) dX12_sight_74 (fun q234 => ?_) (fun q235 => ?_)
              · refine g_iconst C dX12_sight_104 ?_
                exact g_iret C hr rfl (iw (il (-1)) (by decide) (by decide)) ⟨O227, (((((((Fx.rf (wr := wr_k_X12_sight)).pI ta0 hh1 rfl).call F9 rfl).call F24 rfl).call F198 rfl).call F213 rfl).call F228 rfl), (iw (il (-1)) (by decide) (by decide))⟩ (by decide) (by decide) dX12_sight_105
              · exact (no_ne (il 0) (il 0) q235 (by decide)).elim
            · have f236 : (1 : Int) ≤ r223 ∧ r223 ≤ (1 : Int) := r_nl f229 q232
              have f237 : (0 : Int) ≤ a6 ∧ a6 ≤ (9999 : Int) := by omega
              refine g_iconst C dX12_sight_65 ?_
              refine g_goto C 70 (by decide) dX12_sight_66 ?_
              refine g_istore C [(7, .inl 1), (0, .inr (.inr a0)), (1, .inl a1), (2, .inl a2), (3, .inl a3), (4, .inl a4), (5, .inl a5), (6, .inl a6)] (by decide) rfl dX12_sight_70 ?_
              refine g_iload C 0 rfl dX12_sight_72 ?_
              refine g_if_eq C (iw (il 1) (by decide) (by decide)) 104 (by decide) dX12_sight_74 (fun q238 => ?_) (fun q239 => ?_)
              · exact (no_eq (il 1) (il 0) q238 (by decide)).elim
              · refine g_iload_n C rfl 2 rfl dX12_sight_77 ?_
                refine g_if_ne C (iw f192 (by decide) (by decide)) 95 (by decide) dX12_sight_78 (fun q240 => ?_) (fun q241 => ?_)
                · have f242 : (1 : Int) ≤ a1 ∧ a1 ≤ (1 : Int) := r_nl f192 q240
                  refine g_aload_n C rfl 1 rfl dX12_sight_95 ?_
                  have e243 : Tg h224 a0 = 12 := (fxT F228 (fxT F213 (fxT F198 (fxT F24 (fxT F9 ((pIT hh1).trans ta0))))))
                  obtain ⟨v244, e245⟩ : ∃ z, Iv h224 a0 40 = z := ⟨_, rfl⟩
                  have f246 := ok_I O227 e243 rI_12_40 e245
                  refine gf_I C fk_LandSurveyModel_423 rfl e243 e245 dX12_sight_96 ?_
                  refine g_bipush C (by decide) dX12_sight_99 ?_
                  refine g_icmp_ne C (iw f246 (by decide) (by decide)) (iw (il 40) (by decide) (by decide)) 106 (by decide) dX12_sight_101 (fun q247 => ?_) (fun q248 => ?_)
                  · have f249 : (0 : Int) ≤ v244 ∧ v244 ≤ (39 : Int) := r_nh f246 q247
                    refine g_aload_n C rfl 1 rfl dX12_sight_106 ?_
                    obtain ⟨v250, e251⟩ : ∃ z, Rv h224 a0 41 = z := ⟨_, rfl⟩
                    have t252 := ok_R O227 e243 rE_12_41 e251
                    have l253 := ok_L O227 e243 rE_12_41 e251
                    refine gf_R C fk_LandSurveyModel_173 rfl e243 e251 dX12_sight_107 ?_
                    refine g_aload_n C rfl 1 rfl dX12_sight_110 ?_
                    refine gf_I C fk_LandSurveyModel_423 rfl e243 e245 dX12_sight_111 ?_
                    refine g_iload_n C rfl 2 rfl dX12_sight_114 ?_
                    refine g_iast C t252 rfl l253 (ix f249 (by decide) (by decide)) (iw f242 (by decide) (by decide)) dX12_sight_115 (fun h255 hh254 => ?_)
                    have O256 := O227.pIa t252 ar_141100 hh254 rI_141100_0 (iw f242 (by decide) (by decide)) nofun
                    refine g_aload_n C rfl 1 rfl dX12_sight_116 ?_
                    have e257 : Tg h255 a0 = 12 := ((pIT hh254).trans e243)
                    obtain ⟨v258, e259⟩ : ∃ z, Rv h255 a0 42 = z := ⟨_, rfl⟩
                    have t260 := ok_R O256 e257 rE_12_42 e259
                    have l261 := ok_L O256 e257 rE_12_42 e259
                    refine gf_R C fk_LandSurveyModel_176 rfl e257 e259 dX12_sight_117 ?_
                    refine g_aload_n C rfl 1 rfl dX12_sight_120 ?_
                    have e262 : Iv h255 a0 40 = v244 := ((pI_n hh254 (ne_tag e243 t252 (by decide))).trans e245)
                    refine gf_I C fk_LandSurveyModel_423 rfl e257 e262 dX12_sight_121 ?_
                    refine g_bipush C (by decide) dX12_sight_124 ?_
                    refine g_iload_n C rfl 4 rfl dX12_sight_126 ?_
                    have f263 : (0 : Int) ≤ (12 * a3) ∧ (12 * a3) ≤ (84 : Int) := ia_mul (by decide) f34 (by decide) (by decide)
                    refine g_imul C dX12_sight_127 ?_
                    refine g_iload_n C rfl 3 rfl dX12_sight_128 ?_
                    have f264 : (0 : Int) ≤ ((12 * a3) + a2) ∧ ((12 * a3) + a2) ≤ (95 : Int) := ia_add f263 f33 (by decide) (by decide)
                    refine g_iadd C dX12_sight_129 ?_
                    refine g_iast C t260 rfl l261 (ix f249 (by decide) (by decide)) (iw f264 (by decide) (by decide)) dX12_sight_130 (fun h266 hh265 => ?_)
                    have O267 := O256.pIa t260 ar_142100 hh265 rI_142100_0 f264 nofun
                    refine g_aload_n C rfl 1 rfl dX12_sight_131 ?_
                    have e268 : Tg h266 a0 = 12 := ((pIT hh265).trans e257)
                    obtain ⟨v269, e270⟩ : ∃ z, Rv h266 a0 43 = z := ⟨_, rfl⟩
                    have t271 := ok_R O267 e268 rE_12_43 e270
                    have l272 := ok_L O267 e268 rE_12_43 e270
                    refine gf_R C fk_LandSurveyModel_179 rfl e268 e270 dX12_sight_132 ?_
                    refine g_aload_n C rfl 1 rfl dX12_sight_135 ?_
                    have e273 : Iv h266 a0 40 = v244 := ((pI_n hh265 (ne_tag e257 t260 (by decide))).trans e262)
                    refine gf_I C fk_LandSurveyModel_423 rfl e268 e273 dX12_sight_136 ?_
                    refine g_iload C 5 rfl dX12_sight_139 ?_
                    refine g_iast C t271 rfl l272 (ix f249 (by decide) (by decide)) (iw f207 (by decide) (by decide)) dX12_sight_141 (fun h275 hh274 => ?_)
                    have O276 := O267.pIa t271 ar_143100 hh274 rI_143100_0 (iw f207 (by decide) (by decide)) nofun
                    refine g_aload_n C rfl 1 rfl dX12_sight_142 ?_
                    have e277 : Tg h275 a0 = 12 := ((pIT hh274).trans e268)
                    obtain ⟨v278, e279⟩ : ∃ z, Rv h275 a0 44 = z := ⟨_, rfl⟩
                    have t280 := ok_R O276 e277 rE_12_44 e279
                    have l281 := ok_L O276 e277 rE_12_44 e279
                    refine gf_R C fk_LandSurveyModel_182 rfl e277 e279 dX12_sight_143 ?_
                    refine g_aload_n C rfl 1 rfl dX12_sight_146 ?_
                    have e282 : Iv h275 a0 40 = v244 := ((pI_n hh274 (ne_tag e268 t271 (by decide))).trans e273)
                    refine gf_I C fk_LandSurveyModel_423 rfl e277 e282 dX12_sight_147 ?_
                    refine g_iload C 6 rfl dX12_sight_150 ?_
                    refine g_iast C t280 rfl l281 (ix f249 (by decide) (by decide)) (iw f222 (by decide) (by decide)) dX12_sight_152 (fun h284 hh283 => ?_)
                    have O285 := O276.pIa t280 ar_144100 hh283 rI_144100_0 f222 nofun
                    refine g_aload_n C rfl 1 rfl dX12_sight_153 ?_
                    have e286 : Tg h284 a0 = 12 := ((pIT hh283).trans e277)
                    obtain ⟨v287, e288⟩ : ∃ z, Rv h284 a0 45 = z := ⟨_, rfl⟩
                    have t289 := ok_R O285 e286 rE_12_45 e288
                    have l290 := ok_L O285 e286 rE_12_45 e288
                    refine gf_R C fk_LandSurveyModel_185 rfl e286 e288 dX12_sight_154 ?_
                    refine g_aload_n C rfl 1 rfl dX12_sight_157 ?_
                    have e291 : Iv h284 a0 40 = v244 := ((pI_n hh283 (ne_tag e277 t280 (by decide))).trans e282)
                    refine gf_I C fk_LandSurveyModel_423 rfl e286 e291 dX12_sight_158 ?_
                    refine g_iload C 7 rfl dX12_sight_161 ?_
                    refine g_iast C t289 rfl l290 (ix f249 (by decide) (by decide)) (iw f237 (by decide) (by decide)) dX12_sight_163 (fun h293 hh292 => ?_)
                    have O294 := O285.pIa t289 ar_145100 hh292 rI_145100_0 f237 nofun
                    refine g_aload_n C rfl 1 rfl dX12_sight_164 ?_
                    have e295 : Tg h293 a0 = 12 := ((pIT hh292).trans e286)
                    obtain ⟨v296, e297⟩ : ∃ z, Rv h293 a0 46 = z := ⟨_, rfl⟩
                    have t298 := ok_R O294 e295 rE_12_46 e297
                    have l299 := ok_L O294 e295 rE_12_46 e297
                    refine gf_R C fk_LandSurveyModel_188 rfl e295 e297 dX12_sight_165 ?_
                    refine g_aload_n C rfl 1 rfl dX12_sight_168 ?_
                    have e300 : Iv h293 a0 40 = v244 := ((pI_n hh292 (ne_tag e286 t289 (by decide))).trans e291)
                    refine gf_I C fk_LandSurveyModel_423 rfl e295 e300 dX12_sight_169 ?_
                    refine g_aload_n C rfl 1 rfl dX12_sight_172 ?_
                    obtain ⟨v301, e302⟩ : ∃ z, Iv h293 a0 33 = z := ⟨_, rfl⟩
                    have f303 := ok_I O294 e295 rI_12_33 e302
                    refine gf_I C fk_LandSurveyModel_342 rfl e295 e302 dX12_sight_173 ?_
                    refine g_iast C t298 rfl l299 (ix f249 (by decide) (by decide)) (iw f303 (by decide) (by decide)) dX12_sight_176 (fun h305 hh304 => ?_)
                    have O306 := O294.pIa t298 ar_146100 hh304 rI_146100_0 f303 nofun
                    refine g_aload_n C rfl 1 rfl dX12_sight_177 ?_
                    have e307 : Tg h305 a0 = 12 := ((pIT hh304).trans e295)
                    obtain ⟨v308, e309⟩ : ∃ z, Rv h305 a0 47 = z := ⟨_, rfl⟩
                    have t310 := ok_R O306 e307 rE_12_47 e309
                    have l311 := ok_L O306 e307 rE_12_47 e309
                    refine gf_R C fk_LandSurveyModel_191 rfl e307 e309 dX12_sight_178 ?_
                    refine g_aload_n C rfl 1 rfl dX12_sight_181 ?_
                    have e312 : Iv h305 a0 40 = v244 := ((pI_n hh304 (ne_tag e295 t298 (by decide))).trans e300)
                    refine gf_I C fk_LandSurveyModel_423 rfl e307 e312 dX12_sight_182 ?_
                    refine g_iconst C dX12_sight_185 ?_
                    refine g_iast C t310 rfl l311 (ix f249 (by decide) (by decide)) (iw (il (-1)) (by decide) (by decide)) dX12_sight_186 (fun h314 hh313 => ?_)
                    have O315 := O306.pIa t310 ar_147100 hh313 rI_147100_0 (iw (il (-1)) (by decide) (by decide)) nofun
                    refine g_aload_n C rfl 1 rfl dX12_sight_187 ?_
                    have e316 : Tg h314 a0 = 12 := ((pIT hh313).trans e307)
                    obtain ⟨v317, e318⟩ : ∃ z, Rv h314 a0 48 = z := ⟨_, rfl⟩
                    have t319 := ok_R O315 e316 rE_12_48 e318
                    have l320 := ok_L O315 e316 rE_12_48 e318
                    refine gf_R C fk_LandSurveyModel_194 rfl e316 e318 dX12_sight_188 ?_
                    refine g_aload_n C rfl 1 rfl dX12_sight_191 ?_
                    have e321 : Iv h314 a0 40 = v244 := ((pI_n hh313 (ne_tag e307 t310 (by decide))).trans e312)
                    refine gf_I C fk_LandSurveyModel_423 rfl e316 e321 dX12_sight_192 ?_
                    refine g_iconst C dX12_sight_195 ?_
                    refine g_iast C t319 rfl l320 (ix f249 (by decide) (by decide)) (iw (il (-1)) (by decide) (by decide)) dX12_sight_196 (fun h323 hh322 => ?_)
                    have O324 := O315.pIa t319 ar_148100 hh322 rI_148100_0 (iw (il (-1)) (by decide) (by decide)) nofun
                    refine g_aload_n C rfl 1 rfl dX12_sight_197 ?_
                    have e325 : Tg h323 a0 = 12 := ((pIT hh322).trans e316)
                    obtain ⟨v326, e327⟩ : ∃ z, Rv h323 a0 51 = z := ⟨_, rfl⟩
                    have t328 := ok_R O324 e325 rE_12_51 e327
                    have l329 := ok_L O324 e325 rE_12_51 e327
                    refine gf_R C fk_LandSurveyModel_203 rfl e325 e327 dX12_sight_198 ?_
                    refine g_aload_n C rfl 1 rfl dX12_sight_201 ?_
                    have e330 : Iv h323 a0 40 = v244 := ((pI_n hh322 (ne_tag e316 t319 (by decide))).trans e321)
                    refine gf_I C fk_LandSurveyModel_423 rfl e325 e330 dX12_sight_202 ?_
                    refine g_iconst C dX12_sight_205 ?_
                    refine g_iast C t328 rfl l329 (ix f249 (by decide) (by decide)) (iw (il (-1)) (by decide) (by decide)) dX12_sight_206 (fun h332 hh331 => ?_)
                    have O333 := O324.pIa t328 ar_151100 hh331 rI_151100_0 (iw (il (-1)) (by decide) (by decide)) nofun
                    refine g_aload_n C rfl 1 rfl dX12_sight_207 ?_
                    refine g_dup C rfl dX12_sight_208 ?_
                    have e334 : Tg h332 a0 = 12 := ((pIT hh331).trans e325)
                    have e335 : Iv h332 a0 40 = v244 := ((pI_n hh331 (ne_tag e325 t328 (by decide))).trans e330)
                    refine gf_I C fk_LandSurveyModel_423 rfl e334 e335 dX12_sight_209 ?_
                    refine g_iconst C dX12_sight_212 ?_
                    have f336 : (1 : Int) ≤ (v244 + 1) ∧ (v244 + 1) ≤ (40 : Int) := ia_add f249 (il 1) (by decide) (by decide)
                    refine g_iadd C dX12_sight_213 ?_
                    refine gp_I C fk_LandSurveyModel_423 pk_LandSurveyModel_40 rfl e334 (iw f336 (by decide) (by decide)) (nf_i _) dX12_sight_214 (fun h338 hh337 => ?_)
                    have O339 := O333.pI e334 hh337 rI_12_40 (iw f336 (by decide) (by decide)) nofun
                    refine g_aload_n C rfl 1 rfl dX12_sight_217 ?_
                    refine g_iconst C dX12_sight_218 ?_
                    have e340 : Tg h338 a0 = 12 := ((pIT hh337).trans e334)
                    refine gp_I C fk_LandSurveyModel_290 pk_LandSurveyModel_35 rfl e340 (iw (il 1) (by decide) (by decide)) (nar_z2 (iw (il 1) (by decide) (by decide))) dX12_sight_219 (fun h342 hh341 => ?_)
                    have O343 := O339.pI e340 hh341 rI_12_35 (iw (il 1) (by decide) (by decide)) nofun
                    refine g_aload_n C rfl 1 rfl dX12_sight_222 ?_
                    have e344 : Tg h342 a0 = 12 := ((pIT hh341).trans e340)
                    have e345 : Iv h342 a0 40 = (v244 + 1) := ((pI_j hh341 (by decide)).trans (pI_e hh337))
                    refine gf_I C fk_LandSurveyModel_423 rfl e344 e345 dX12_sight_223 ?_
                    refine g_iconst C dX12_sight_226 ?_
                    have f346 : (0 : Int) ≤ ((v244 + 1) - 1) ∧ ((v244 + 1) - 1) ≤ (39 : Int) := ia_sub f336 (il 1) (by decide) (by decide)
                    refine g_isub C dX12_sight_227 ?_
                    exact g_iret C hr rfl (iw f346 (by decide) (by decide)) ⟨O343, ((((((((((((((((((Fx.rf (wr := wr_k_X12_sight)).pI ta0 hh1 rfl).call F9 rfl).call F24 rfl).call F198 rfl).call F213 rfl).call F228 rfl).pIa t252 ar_141100 hh254 rfl).pIa t260 ar_142100 hh265 rfl).pIa t271 ar_143100 hh274 rfl).pIa t280 ar_144100 hh283 rfl).pIa t289 ar_145100 hh292 rfl).pIa t298 ar_146100 hh304 rfl).pIa t310 ar_147100 hh313 rfl).pIa t319 ar_148100 hh322 rfl).pIa t328 ar_151100 hh331 rfl).pI e334 hh337 rfl).pI e340 hh341 rfl), (iw f346 (by decide) (by decide))⟩ (by decide) (by decide) dX12_sight_228
                  · have f347 : (40 : Int) ≤ v244 ∧ v244 ≤ (40 : Int) := ii f246 (r_eq (il 40) q248) (by decide) (by decide)
                    refine g_iconst C dX12_sight_104 ?_
                    exact g_iret C hr rfl (iw (il (-1)) (by decide) (by decide)) ⟨O227, (((((((Fx.rf (wr := wr_k_X12_sight)).pI ta0 hh1 rfl).call F9 rfl).call F24 rfl).call F198 rfl).call F213 rfl).call F228 rfl), (iw (il (-1)) (by decide) (by decide))⟩ (by decide) (by decide) dX12_sight_105
                · have f348 : (0 : Int) ≤ a1 ∧ a1 ≤ (0 : Int) := ii f192 (r_eq (il 0) q241) (by decide) (by decide)
                  refine g_aload_n C rfl 1 rfl dX12_sight_81 ?_
                  have e349 : Tg h224 a0 = 12 := (fxT F228 (fxT F213 (fxT F198 (fxT F24 (fxT F9 ((pIT hh1).trans ta0))))))
                  obtain ⟨v350, e351⟩ : ∃ z, Rv h224 a0 37 = z := ⟨_, rfl⟩
                  have t352 := ok_R O227 e349 rE_12_37 e351
                  have l353 := ok_L O227 e349 rE_12_37 e351
                  refine gf_R C fk_LandSurveyModel_164 rfl e349 e351 dX12_sight_82 ?_
                  refine g_bipush C (by decide) dX12_sight_85 ?_
                  refine g_iload_n C rfl 4 rfl dX12_sight_87 ?_
                  have f354 : (0 : Int) ≤ (12 * a3) ∧ (12 * a3) ≤ (84 : Int) := ia_mul (by decide) f34 (by decide) (by decide)
                  refine g_imul C dX12_sight_88 ?_
                  refine g_iload_n C rfl 3 rfl dX12_sight_89 ?_
                  have f355 : (0 : Int) ≤ ((12 * a3) + a2) ∧ ((12 * a3) + a2) ≤ (95 : Int) := ia_add f354 f33 (by decide) (by decide)
                  refine g_iadd C dX12_sight_90 ?_
                  obtain ⟨v356, e357⟩ : ∃ z, Iv h224 v350 (((12 * a3) + a2).toNat) = z := ⟨_, rfl⟩
                  have f358 := ok_Ia O227 t352 ar_137101 rI_137101_0 e357
                  refine g_zald C t352 rfl l353 (ix f355 (by decide) (by decide)) e357 dX12_sight_91 ?_
                  refine g_if_eq C (iw f358 (by decide) (by decide)) 104 (by decide) dX12_sight_92 (fun q359 => ?_) (fun q360 => ?_)
                  · have f361 : (0 : Int) ≤ v356 ∧ v356 ≤ (0 : Int) := ii f358 (r_eq (il 0) q359) (by decide) (by decide)
                    refine g_iconst C dX12_sight_104 ?_
                    exact g_iret C hr rfl (iw (il (-1)) (by decide) (by decide)) ⟨O227, (((((((Fx.rf (wr := wr_k_X12_sight)).pI ta0 hh1 rfl).call F9 rfl).call F24 rfl).call F198 rfl).call F213 rfl).call F228 rfl), (iw (il (-1)) (by decide) (by decide))⟩ (by decide) (by decide) dX12_sight_105
                  · have f362 : (1 : Int) ≤ v356 ∧ v356 ≤ (1 : Int) := r_nl f358 q360
                    refine g_aload_n C rfl 1 rfl dX12_sight_95 ?_
                    obtain ⟨v363, e364⟩ : ∃ z, Iv h224 a0 40 = z := ⟨_, rfl⟩
                    have f365 := ok_I O227 e349 rI_12_40 e364
                    refine gf_I C fk_LandSurveyModel_423 rfl e349 e364 dX12_sight_96 ?_
                    refine g_bipush C (by decide) dX12_sight_99 ?_
                    refine g_icmp_ne C (iw f365 (by decide) (by decide)) (iw (il 40) (by decide) (by decide)) 106 (by decide) dX12_sight_101 (fun q366 => ?_) (fun q367 => ?_)
                    · have f368 : (0 : Int) ≤ v363 ∧ v363 ≤ (39 : Int) := r_nh f365 q366
                      refine g_aload_n C rfl 1 rfl dX12_sight_106 ?_
                      obtain ⟨v369, e370⟩ : ∃ z, Rv h224 a0 41 = z := ⟨_, rfl⟩
                      have t371 := ok_R O227 e349 rE_12_41 e370
                      have l372 := ok_L O227 e349 rE_12_41 e370
                      refine gf_R C fk_LandSurveyModel_173 rfl e349 e370 dX12_sight_107 ?_
                      refine g_aload_n C rfl 1 rfl dX12_sight_110 ?_
                      refine gf_I C fk_LandSurveyModel_423 rfl e349 e364 dX12_sight_111 ?_
                      refine g_iload_n C rfl 2 rfl dX12_sight_114 ?_
                      refine g_iast C t371 rfl l372 (ix f368 (by decide) (by decide)) (iw f348 (by decide) (by decide)) dX12_sight_115 (fun h374 hh373 => ?_)
                      have O375 := O227.pIa t371 ar_141100 hh373 rI_141100_0 (iw f348 (by decide) (by decide)) nofun
                      refine g_aload_n C rfl 1 rfl dX12_sight_116 ?_
                      have e376 : Tg h374 a0 = 12 := ((pIT hh373).trans e349)
                      obtain ⟨v377, e378⟩ : ∃ z, Rv h374 a0 42 = z := ⟨_, rfl⟩
                      have t379 := ok_R O375 e376 rE_12_42 e378
                      have l380 := ok_L O375 e376 rE_12_42 e378
                      refine gf_R C fk_LandSurveyModel_176 rfl e376 e378 dX12_sight_117 ?_
                      refine g_aload_n C rfl 1 rfl dX12_sight_120 ?_
                      have e381 : Iv h374 a0 40 = v363 := ((pI_n hh373 (ne_tag e349 t371 (by decide))).trans e364)
                      refine gf_I C fk_LandSurveyModel_423 rfl e376 e381 dX12_sight_121 ?_
                      refine g_bipush C (by decide) dX12_sight_124 ?_
                      refine g_iload_n C rfl 4 rfl dX12_sight_126 ?_
                      refine g_imul C dX12_sight_127 ?_
                      refine g_iload_n C rfl 3 rfl dX12_sight_128 ?_
                      refine g_iadd C dX12_sight_129 ?_
                      refine g_iast C t379 rfl l380 (ix f368 (by decide) (by decide)) (iw f355 (by decide) (by decide)) dX12_sight_130 (fun h383 hh382 => ?_)
                      have O384 := O375.pIa t379 ar_142100 hh382 rI_142100_0 f355 nofun
                      refine g_aload_n C rfl 1 rfl dX12_sight_131 ?_
                      have e385 : Tg h383 a0 = 12 := ((pIT hh382).trans e376)
                      obtain ⟨v386, e387⟩ : ∃ z, Rv h383 a0 43 = z := ⟨_, rfl⟩
                      have t388 := ok_R O384 e385 rE_12_43 e387
                      have l389 := ok_L O384 e385 rE_12_43 e387
                      refine gf_R C fk_LandSurveyModel_179 rfl e385 e387 dX12_sight_132 ?_
                      refine g_aload_n C rfl 1 rfl dX12_sight_135 ?_
                      have e390 : Iv h383 a0 40 = v363 := ((pI_n hh382 (ne_tag e376 t379 (by decide))).trans e381)
                      refine gf_I C fk_LandSurveyModel_423 rfl e385 e390 dX12_sight_136 ?_
                      refine g_iload C 5 rfl dX12_sight_139 ?_
                      refine g_iast C t388 rfl l389 (ix f368 (by decide) (by decide)) (iw f207 (by decide) (by decide)) dX12_sight_141 (fun h392 hh391 => ?_)
                      have O393 := O384.pIa t388 ar_143100 hh391 rI_143100_0 (iw f207 (by decide) (by decide)) nofun
                      refine g_aload_n C rfl 1 rfl dX12_sight_142 ?_
                      have e394 : Tg h392 a0 = 12 := ((pIT hh391).trans e385)
                      obtain ⟨v395, e396⟩ : ∃ z, Rv h392 a0 44 = z := ⟨_, rfl⟩
                      have t397 := ok_R O393 e394 rE_12_44 e396
                      have l398 := ok_L O393 e394 rE_12_44 e396
                      refine gf_R C fk_LandSurveyModel_182 rfl e394 e396 dX12_sight_143 ?_
                      refine g_aload_n C rfl 1 rfl dX12_sight_146 ?_
                      have e399 : Iv h392 a0 40 = v363 := ((pI_n hh391 (ne_tag e385 t388 (by decide))).trans e390)
                      refine gf_I C fk_LandSurveyModel_423 rfl e394 e399 dX12_sight_147 ?_
                      refine g_iload C 6 rfl dX12_sight_150 ?_
                      refine g_iast C t397 rfl l398 (ix f368 (by decide) (by decide)) (iw f222 (by decide) (by decide)) dX12_sight_152 (fun h401 hh400 => ?_)
                      have O402 := O393.pIa t397 ar_144100 hh400 rI_144100_0 f222 nofun
                      refine g_aload_n C rfl 1 rfl dX12_sight_153 ?_
                      have e403 : Tg h401 a0 = 12 := ((pIT hh400).trans e394)
                      obtain ⟨v404, e405⟩ : ∃ z, Rv h401 a0 45 = z := ⟨_, rfl⟩
                      have t406 := ok_R O402 e403 rE_12_45 e405
                      have l407 := ok_L O402 e403 rE_12_45 e405
                      refine gf_R C fk_LandSurveyModel_185 rfl e403 e405 dX12_sight_154 ?_
                      refine g_aload_n C rfl 1 rfl dX12_sight_157 ?_
                      have e408 : Iv h401 a0 40 = v363 := ((pI_n hh400 (ne_tag e394 t397 (by decide))).trans e399)
                      refine gf_I C fk_LandSurveyModel_423 rfl e403 e408 dX12_sight_158 ?_
                      refine g_iload C 7 rfl dX12_sight_161 ?_
                      refine g_iast C t406 rfl l407 (ix f368 (by decide) (by decide)) (iw f237 (by decide) (by decide)) dX12_sight_163 (fun h410 hh409 => ?_)
                      have O411 := O402.pIa t406 ar_145100 hh409 rI_145100_0 f237 nofun
                      refine g_aload_n C rfl 1 rfl dX12_sight_164 ?_
                      have e412 : Tg h410 a0 = 12 := ((pIT hh409).trans e403)
                      obtain ⟨v413, e414⟩ : ∃ z, Rv h410 a0 46 = z := ⟨_, rfl⟩
                      have t415 := ok_R O411 e412 rE_12_46 e414
                      have l416 := ok_L O411 e412 rE_12_46 e414
                      refine gf_R C fk_LandSurveyModel_188 rfl e412 e414 dX12_sight_165 ?_
                      refine g_aload_n C rfl 1 rfl dX12_sight_168 ?_
                      have e417 : Iv h410 a0 40 = v363 := ((pI_n hh409 (ne_tag e403 t406 (by decide))).trans e408)
                      refine gf_I C fk_LandSurveyModel_423 rfl e412 e417 dX12_sight_169 ?_
                      refine g_aload_n C rfl 1 rfl dX12_sight_172 ?_
                      obtain ⟨v418, e419⟩ : ∃ z, Iv h410 a0 33 = z := ⟨_, rfl⟩
                      have f420 := ok_I O411 e412 rI_12_33 e419
                      refine gf_I C fk_LandSurveyModel_342 rfl e412 e419 dX12_sight_173 ?_
                      refine g_iast C t415 rfl l416 (ix f368 (by decide) (by decide)) (iw f420 (by decide) (by decide)) dX12_sight_176 (fun h422 hh421 => ?_)
                      have O423 := O411.pIa t415 ar_146100 hh421 rI_146100_0 f420 nofun
                      refine g_aload_n C rfl 1 rfl dX12_sight_177 ?_
                      have e424 : Tg h422 a0 = 12 := ((pIT hh421).trans e412)
                      obtain ⟨v425, e426⟩ : ∃ z, Rv h422 a0 47 = z := ⟨_, rfl⟩
                      have t427 := ok_R O423 e424 rE_12_47 e426
                      have l428 := ok_L O423 e424 rE_12_47 e426
                      refine gf_R C fk_LandSurveyModel_191 rfl e424 e426 dX12_sight_178 ?_
                      refine g_aload_n C rfl 1 rfl dX12_sight_181 ?_
                      have e429 : Iv h422 a0 40 = v363 := ((pI_n hh421 (ne_tag e412 t415 (by decide))).trans e417)
                      refine gf_I C fk_LandSurveyModel_423 rfl e424 e429 dX12_sight_182 ?_
                      refine g_iconst C dX12_sight_185 ?_
                      refine g_iast C t427 rfl l428 (ix f368 (by decide) (by decide)) (iw (il (-1)) (by decide) (by decide)) dX12_sight_186 (fun h431 hh430 => ?_)
                      have O432 := O423.pIa t427 ar_147100 hh430 rI_147100_0 (iw (il (-1)) (by decide) (by decide)) nofun
                      refine g_aload_n C rfl 1 rfl dX12_sight_187 ?_
                      have e433 : Tg h431 a0 = 12 := ((pIT hh430).trans e424)
                      obtain ⟨v434, e435⟩ : ∃ z, Rv h431 a0 48 = z := ⟨_, rfl⟩
                      have t436 := ok_R O432 e433 rE_12_48 e435
                      have l437 := ok_L O432 e433 rE_12_48 e435
                      refine gf_R C fk_LandSurveyModel_194 rfl e433 e435 dX12_sight_188 ?_
                      refine g_aload_n C rfl 1 rfl dX12_sight_191 ?_
                      have e438 : Iv h431 a0 40 = v363 := ((pI_n hh430 (ne_tag e424 t427 (by decide))).trans e429)
                      refine gf_I C fk_LandSurveyModel_423 rfl e433 e438 dX12_sight_192 ?_
                      refine g_iconst C dX12_sight_195 ?_
                      refine g_iast C t436 rfl l437 (ix f368 (by decide) (by decide)) (iw (il (-1)) (by decide) (by decide)) dX12_sight_196 (fun h440 hh439 => ?_)
                      have O441 := O432.pIa t436 ar_148100 hh439 rI_148100_0 (iw (il (-1)) (by decide) (by decide)) nofun
                      refine g_aload_n C rfl 1 rfl dX12_sight_197 ?_
                      have e442 : Tg h440 a0 = 12 := ((pIT hh439).trans e433)
                      obtain ⟨v443, e444⟩ : ∃ z, Rv h440 a0 51 = z := ⟨_, rfl⟩
                      have t445 := ok_R O441 e442 rE_12_51 e444
                      have l446 := ok_L O441 e442 rE_12_51 e444
                      refine gf_R C fk_LandSurveyModel_203 rfl e442 e444 dX12_sight_198 ?_
                      refine g_aload_n C rfl 1 rfl dX12_sight_201 ?_
                      have e447 : Iv h440 a0 40 = v363 := ((pI_n hh439 (ne_tag e433 t436 (by decide))).trans e438)
                      refine gf_I C fk_LandSurveyModel_423 rfl e442 e447 dX12_sight_202 ?_
                      refine g_iconst C dX12_sight_205 ?_
                      refine g_iast C t445 rfl l446 (ix f368 (by decide) (by decide)) (iw (il (-1)) (by decide) (by decide)) dX12_sight_206 (fun h449 hh448 => ?_)
                      have O450 := O441.pIa t445 ar_151100 hh448 rI_151100_0 (iw (il (-1)) (by decide) (by decide)) nofun
                      refine g_aload_n C rfl 1 rfl dX12_sight_207 ?_
                      refine g_dup C rfl dX12_sight_208 ?_
                      have e451 : Tg h449 a0 = 12 := ((pIT hh448).trans e442)
                      have e452 : Iv h449 a0 40 = v363 := ((pI_n hh448 (ne_tag e442 t445 (by decide))).trans e447)
                      refine gf_I C fk_LandSurveyModel_423 rfl e451 e452 dX12_sight_209 ?_
                      refine g_iconst C dX12_sight_212 ?_
                      have f453 : (1 : Int) ≤ (v363 + 1) ∧ (v363 + 1) ≤ (40 : Int) := ia_add f368 (il 1) (by decide) (by decide)
                      refine g_iadd C dX12_sight_213 ?_
                      refine gp_I C fk_LandSurveyModel_423 pk_LandSurveyModel_40 rfl e451 (iw f453 (by decide) (by decide)) (nf_i _) dX12_sight_214 (fun h455 hh454 => ?_)
                      have O456 := O450.pI e451 hh454 rI_12_40 (iw f453 (by decide) (by decide)) nofun
                      refine g_aload_n C rfl 1 rfl dX12_sight_217 ?_
                      refine g_iconst C dX12_sight_218 ?_
                      have e457 : Tg h455 a0 = 12 := ((pIT hh454).trans e451)
                      refine gp_I C fk_LandSurveyModel_290 pk_LandSurveyModel_35 rfl e457 (iw (il 1) (by decide) (by decide)) (nar_z2 (iw (il 1) (by decide) (by decide))) dX12_sight_219 (fun h459 hh458 => ?_)
                      have O460 := O456.pI e457 hh458 rI_12_35 (iw (il 1) (by decide) (by decide)) nofun
                      refine g_aload_n C rfl 1 rfl dX12_sight_222 ?_
                      have e461 : Tg h459 a0 = 12 := ((pIT hh458).trans e457)
                      have e462 : Iv h459 a0 40 = (v363 + 1) := ((pI_j hh458 (by decide)).trans (pI_e hh454))
                      refine gf_I C fk_LandSurveyModel_423 rfl e461 e462 dX12_sight_223 ?_
                      refine g_iconst C dX12_sight_226 ?_
                      have f463 : (0 : Int) ≤ ((v363 + 1) - 1) ∧ ((v363 + 1) - 1) ≤ (39 : Int) := ia_sub f453 (il 1) (by decide) (by decide)
                      refine g_isub C dX12_sight_227 ?_
                      exact g_iret C hr rfl (iw f463 (by decide) (by decide)) ⟨O460, ((((((((((((((((((Fx.rf (wr := wr_k_X12_sight)).pI ta0 hh1 rfl).call F9 rfl).call F24 rfl).call F198 rfl).call F213 rfl).call F228 rfl).pIa t371 ar_141100 hh373 rfl).pIa t379 ar_142100 hh382 rfl).pIa t388 ar_143100 hh391 rfl).pIa t397 ar_144100 hh400 rfl).pIa t406 ar_145100 hh409 rfl).pIa t415 ar_146100 hh421 rfl).pIa t427 ar_147100 hh430 rfl).pIa t436 ar_148100 hh439 rfl).pIa t445 ar_151100 hh448 rfl).pI e451 hh454 rfl).pI e457 hh458 rfl), (iw f463 (by decide) (by decide))⟩ (by decide) (by decide) dX12_sight_228
                    · have f464 : (40 : Int) ≤ v363 ∧ v363 ≤ (40 : Int) := ii f365 (r_eq (il 40) q367) (by decide) (by decide)
                      refine g_iconst C dX12_sight_104 ?_
                      exact g_iret C hr rfl (iw (il (-1)) (by decide) (by decide)) ⟨O227, (((((((Fx.rf (wr := wr_k_X12_sight)).pI ta0 hh1 rfl).call F9 rfl).call F24 rfl).call F198 rfl).call F213 rfl).call F228 rfl), (iw (il (-1)) (by decide) (by decide))⟩ (by decide) (by decide) dX12_sight_105
def wr_k_X12_dip : List Nat := [2400, 2435, 29620000, 29820000, 30020000]
set_option maxRecDepth 100000 in
set_option maxHeartbeats 4000000 in
theorem k_X12_dip (l : Launch) (D : va_G) (cy : Nat → ClassId) (w : Nat → Nat) (z0 : Nat)  {h : Hp} {a0 : Nat} {a1 : Int} {a2 : Int} {a3 : Int} {a4 : Int}  (O : Okh h) (ta0 : Tg h a0 = 12) (fa1 : (-2147483648) ≤ a1 ∧ a1 ≤ 2147483647) (fa2 : (-2147483648) ≤ a2 ∧ a2 ≤ 2147483647) (fa3 : (-2147483648) ≤ a3 ∧ a3 ≤ 2147483647) (fa4 : (-2147483648) ≤ a4 ∧ a4 ≤ 2147483647) : MI l D cy w z0 yX12_dip cX12_dip 5 (some .boolean) 1 22 0 0 [.inr (.inr a0), .inl a1, .inl a2, .inl a3, .inl a4] h (fun v h1 => Okh h1 ∧ Fx wr_k_X12_dip h h1 ∧ (0 ≤ v ∧ v ≤ 1)) := by
  refine hm_go (by decide +kernel) (Nat.le_of_ble_eq_true rfl) (fun p e s m below meth c C hr hn => ?_)
  refine g_aload_n C rfl 0 rfl dX12_dip_0 ?_
  refine g_iconst C dX12_dip_1 ?_
  refine gp_I C fk_LandSurveyModel_1 pk_LandSurveyModel_0 rfl ta0 (iw (il 0) (by decide) (by decide)) (nf_i _) dX12_dip_2 (fun h2 hh1 => ?_)
  have O3 := O.pI ta0 hh1 rI_12_0 (iw (il 0) (by decide) (by decide)) nofun
  refine g_aload_n C rfl 0 rfl dX12_dip_5 ?_
  refine g_iload_n C rfl 1 rfl dX12_dip_6 ?_
  have e4 : Tg h2 a0 = 12 := ((pIT hh1).trans ta0)
  refine g_callI (st := []) (gc_V C lk_LandSurveyModel_426 (k_X12_isSight l D cy w z0 O3 e4 fa1) e4 rfl rfl rfl ⟨by decide, by decide⟩ (Nat.le_of_ble_eq_true rfl) dX12_dip_7 ⟨(by decide), (by decide)⟩) (fun r5 h6 f8 K7 => ?_)
  obtain ⟨O9, F10, f11, p12⟩ := K7
  refine g_if_eq C (iw f11 (by decide) (by decide)) 53 (by decide) dX12_dip_10 (fun q13 => ?_) (fun q14 => ?_)
  · have f15 : (0 : Int) ≤ r5 ∧ r5 ≤ (0 : Int) := ii f11 (r_eq (il 0) q13) (by decide) (by decide)
    refine g_iconst C dX12_dip_53 ?_
    exact g_iret C hr (nar_z2 (iw (il 0) (by decide) (by decide))).1 (iw (il 0) (by decide) (by decide)) ⟨O9, (((Fx.rf (wr := wr_k_X12_dip)).pI ta0 hh1 rfl).call F10 rfl), (iw (il 0) (by decide) (by decide))⟩ (by decide) (by decide) dX12_dip_54
  · have f16 : (1 : Int) ≤ r5 ∧ r5 ≤ (1 : Int) := r_nl f11 q14
    have f17 : (0 : Int) ≤ a1 ∧ a1 ≤ (39 : Int) := by omega
    refine g_iload_n C rfl 2 rfl dX12_dip_13 ?_
    refine g_iconst C dX12_dip_14 ?_
    refine g_iconst C dX12_dip_15 ?_
    refine g_callI (st := []) (gc_S C lk_LandSurveyModel_415 (k_X12_within l D cy w z0 O9 fa2 (iw (il 0) (by decide) (by decide)) (iw (il 3) (by decide) (by decide))) rfl ⟨by decide, by decide⟩ (Nat.le_of_ble_eq_true rfl) dX12_dip_16 ⟨(by decide), (by decide)⟩) (fun r18 h19 f21 K20 => ?_)
    obtain ⟨O22, F23, f24, p25⟩ := K20
    refine g_if_eq C (iw f24 (by decide) (by decide)) 53 (by decide) dX12_dip_19 (fun q26 => ?_) (fun q27 => ?_)
    · have f28 : (0 : Int) ≤ r18 ∧ r18 ≤ (0 : Int) := ii f24 (r_eq (il 0) q26) (by decide) (by decide)
      refine g_iconst C dX12_dip_53 ?_
      exact g_iret C hr (nar_z2 (iw (il 0) (by decide) (by decide))).1 (iw (il 0) (by decide) (by decide)) ⟨O22, ((((Fx.rf (wr := wr_k_X12_dip)).pI ta0 hh1 rfl).call F10 rfl).call F23 rfl), (iw (il 0) (by decide) (by decide))⟩ (by decide) (by decide) dX12_dip_54
    · have f29 : (1 : Int) ≤ r18 ∧ r18 ≤ (1 : Int) := r_nl f24 q27
      have f30 : (0 : Int) ≤ a2 ∧ a2 ≤ (3 : Int) := by omega
      refine g_iload_n C rfl 3 rfl dX12_dip_22 ?_
      refine g_bipush C (by decide) dX12_dip_23 ?_
      refine g_bipush C (by decide) dX12_dip_25 ?_
      refine g_callI (st := []) (gc_S C lk_LandSurveyModel_415 (k_X12_within l D cy w z0 O22 fa3 (iw (il (-99)) (by decide) (by decide)) (iw (il 99) (by decide) (by decide))) rfl ⟨by decide, by decide⟩ (Nat.le_of_ble_eq_true rfl) dX12_dip_27 ⟨(by decide), (by decide)⟩) (fun r31 h32 f34 K33 => ?_)
      obtain ⟨O35, F36, f37, p38⟩ := K33
      refine g_if_eq C (iw f37 (by decide) (by decide)) 53 (by decide) dX12_dip_30 (fun q39 => ?_) (fun q40 => ?_)
      · have f41 : (0 : Int) ≤ r31 ∧ r31 ≤ (0 : Int) := ii f37 (r_eq (il 0) q39) (by decide) (by decide)
        refine g_iconst C dX12_dip_53 ?_
        exact g_iret C hr (nar_z2 (iw (il 0) (by decide) (by decide))).1 (iw (il 0) (by decide) (by decide)) ⟨O35, (((((Fx.rf (wr := wr_k_X12_dip)).pI ta0 hh1 rfl).call F10 rfl).call F23 rfl).call F36 rfl), (iw (il 0) (by decide) (by decide))⟩ (by decide) (by decide) dX12_dip_54
      · have f42 : (1 : Int) ≤ r31 ∧ r31 ≤ (1 : Int) := r_nl f37 q40
        have f43 : (-99 : Int) ≤ a3 ∧ a3 ≤ (99 : Int) := by omega
        refine g_iload C 4 rfl dX12_dip_33 ?_
        refine g_iconst C dX12_dip_35 ?_
        refine g_bipush C (by decide) dX12_dip_36 ?_
        refine g_callI (st := []) (gc_S C lk_LandSurveyModel_415 (k_X12_within l D cy w z0 O35 fa4 (iw (il 0) (by decide) (by decide)) (iw (il 99) (by decide) (by decide))) rfl ⟨by decide, by decide⟩ (Nat.le_of_ble_eq_true rfl) dX12_dip_38 ⟨(by decide), (by decide)⟩) (fun r44 h45 f47 K46 => ?_)
        obtain ⟨O48, F49, f50, p51⟩ := K46
        refine g_if_eq C (iw f50 (by decide) (by decide)) 53 (by decide) dX12_dip_41 (fun q52 => ?_) (fun q53 => ?_)
        · have f54 : (0 : Int) ≤ r44 ∧ r44 ≤ (0 : Int) := ii f50 (r_eq (il 0) q52) (by decide) (by decide)
          refine g_iconst C dX12_dip_53 ?_
          exact g_iret C hr (nar_z2 (iw (il 0) (by decide) (by decide))).1 (iw (il 0) (by decide) (by decide)) ⟨O48, ((((((Fx.rf (wr := wr_k_X12_dip)).pI ta0 hh1 rfl).call F10 rfl).call F23 rfl).call F36 rfl).call F49 rfl), (iw (il 0) (by decide) (by decide))⟩ (by decide) (by decide) dX12_dip_54
        · have f55 : (1 : Int) ≤ r44 ∧ r44 ≤ (1 : Int) := r_nl f50 q53
          have f56 : (0 : Int) ≤ a4 ∧ a4 ≤ (99 : Int) := by omega
          refine g_aload_n C rfl 0 rfl dX12_dip_44 ?_
          have e57 : Tg h45 a0 = 12 := (fxT F49 (fxT F36 (fxT F23 (fxT F10 e4))))
          obtain ⟨v58, e59⟩ : ∃ z, Rv h45 a0 48 = z := ⟨_, rfl⟩
          have t60 := ok_R O48 e57 rE_12_48 e59
          have l61 := ok_L O48 e57 rE_12_48 e59
          refine gf_R C fk_LandSurveyModel_194 rfl e57 e59 dX12_dip_45 ?_
          refine g_iload_n C rfl 1 rfl dX12_dip_48 ?_
          obtain ⟨v62, e63⟩ : ∃ z, Iv h45 v58 a1.toNat = z := ⟨_, rfl⟩
          have f64 := ok_Ia O48 t60 ar_148100 rI_148100_0 e63
          refine g_iald C t60 rfl l61 (ix f17 (by decide) (by decide)) e63 dX12_dip_49 ?_
          refine g_if_lt C (iw f64 (by decide) (by decide)) 55 (by decide) dX12_dip_50 (fun q65 => ?_) (fun q66 => ?_)
          · have f67 : (-1 : Int) ≤ v62 ∧ v62 ≤ (-1 : Int) := r_lt f64 (il 0) q65 (by decide) (by decide)
            refine g_aload_n C rfl 0 rfl dX12_dip_55 ?_
            refine gf_R C fk_LandSurveyModel_194 rfl e57 e59 dX12_dip_56 ?_
            refine g_iload_n C rfl 1 rfl dX12_dip_59 ?_
            refine g_iload_n C rfl 2 rfl dX12_dip_60 ?_
            refine g_iast C t60 rfl l61 (ix f17 (by decide) (by decide)) (iw f30 (by decide) (by decide)) dX12_dip_61 (fun h69 hh68 => ?_)
            have O70 := O48.pIa t60 ar_148100 hh68 rI_148100_0 (iw f30 (by decide) (by decide)) nofun
            refine g_aload_n C rfl 0 rfl dX12_dip_62 ?_
            have e71 : Tg h69 a0 = 12 := ((pIT hh68).trans e57)
            obtain ⟨v72, e73⟩ : ∃ z, Rv h69 a0 49 = z := ⟨_, rfl⟩
            have t74 := ok_R O70 e71 rE_12_49 e73
            have l75 := ok_L O70 e71 rE_12_49 e73
            refine gf_R C fk_LandSurveyModel_197 rfl e71 e73 dX12_dip_63 ?_
            refine g_iload_n C rfl 1 rfl dX12_dip_66 ?_
            refine g_iload_n C rfl 3 rfl dX12_dip_67 ?_
            refine g_iast C t74 rfl l75 (ix f17 (by decide) (by decide)) (iw f43 (by decide) (by decide)) dX12_dip_68 (fun h77 hh76 => ?_)
            have O78 := O70.pIa t74 ar_149100 hh76 rI_149100_0 f43 nofun
            refine g_aload_n C rfl 0 rfl dX12_dip_69 ?_
            have e79 : Tg h77 a0 = 12 := ((pIT hh76).trans e71)
            obtain ⟨v80, e81⟩ : ∃ z, Rv h77 a0 50 = z := ⟨_, rfl⟩
            have t82 := ok_R O78 e79 rE_12_50 e81
            have l83 := ok_L O78 e79 rE_12_50 e81
            refine gf_R C fk_LandSurveyModel_200 rfl e79 e81 dX12_dip_70 ?_
            refine g_iload_n C rfl 1 rfl dX12_dip_73 ?_
            refine g_iload C 4 rfl dX12_dip_74 ?_
            refine g_iast C t82 rfl l83 (ix f17 (by decide) (by decide)) (iw f56 (by decide) (by decide)) dX12_dip_76 (fun h85 hh84 => ?_)
            have O86 := O78.pIa t82 ar_150100 hh84 rI_150100_0 f56 nofun
            refine g_aload_n C rfl 0 rfl dX12_dip_77 ?_
            refine g_iconst C dX12_dip_78 ?_
            have e87 : Tg h85 a0 = 12 := ((pIT hh84).trans e79)
            refine gp_I C fk_LandSurveyModel_290 pk_LandSurveyModel_35 rfl e87 (iw (il 1) (by decide) (by decide)) (nar_z2 (iw (il 1) (by decide) (by decide))) dX12_dip_79 (fun h89 hh88 => ?_)
            have O90 := O86.pI e87 hh88 rI_12_35 (iw (il 1) (by decide) (by decide)) nofun
            refine g_iconst C dX12_dip_82 ?_
            exact g_iret C hr (nar_z2 (iw (il 1) (by decide) (by decide))).1 (iw (il 1) (by decide) (by decide)) ⟨O90, ((((((((((Fx.rf (wr := wr_k_X12_dip)).pI ta0 hh1 rfl).call F10 rfl).call F23 rfl).call F36 rfl).call F49 rfl).pIa t60 ar_148100 hh68 rfl).pIa t74 ar_149100 hh76 rfl).pIa t82 ar_150100 hh84 rfl).pI e87 hh88 rfl), (iw (il 1) (by decide) (by decide))⟩ (by decide) (by decide) dX12_dip_83
          · have f91 : (0 : Int) ≤ v62 ∧ v62 ≤ (3 : Int) := r_ge f64 (il 0) q66 (by decide) (by decide)
            refine g_iconst C dX12_dip_53 ?_
            exact g_iret C hr (nar_z2 (iw (il 0) (by decide) (by decide))).1 (iw (il 0) (by decide) (by decide)) ⟨O48, ((((((Fx.rf (wr := wr_k_X12_dip)).pI ta0 hh1 rfl).call F10 rfl).call F23 rfl).call F36 rfl).call F49 rfl), (iw (il 0) (by decide) (by decide))⟩ (by decide) (by decide) dX12_dip_54
def wr_k_X12_remain : List Nat := [2400, 30220000, 30420200]
set_option maxRecDepth 100000 in
set_option maxHeartbeats 4000000 in
theorem k_X12_remain (l : Launch) (D : va_G) (cy : Nat → ClassId) (w : Nat → Nat) (z0 : Nat)  {h : Hp} {a0 : Nat} {a1 : Int} {a2 : Int} {a3 : Int}  (O : Okh h) (ta0 : Tg h a0 = 12) (fa1 : (-2147483648) ≤ a1 ∧ a1 ≤ 2147483647) (fa2 : (-2147483648) ≤ a2 ∧ a2 ≤ 2147483647) (fa3 : 0 ≤ a3 ∧ a3 ≤ 1) : MI l D cy w z0 yX12_remain cX12_remain 4 (some .boolean) 1 22 0 0 [.inr (.inr a0), .inl a1, .inl a2, .inl a3] h (fun v h1 => Okh h1 ∧ Fx wr_k_X12_remain h h1 ∧ (0 ≤ v ∧ v ≤ 1)) := by
  refine hm_go (by decide +kernel) (Nat.le_of_ble_eq_true rfl) (fun p e s m below meth c C hr hn => ?_)
  refine g_aload_n C rfl 0 rfl dX12_remain_0 ?_
  refine g_iconst C dX12_remain_1 ?_
  refine gp_I C fk_LandSurveyModel_1 pk_LandSurveyModel_0 rfl ta0 (iw (il 0) (by decide) (by decide)) (nf_i _) dX12_remain_2 (fun h2 hh1 => ?_)
  have O3 := O.pI ta0 hh1 rI_12_0 (iw (il 0) (by decide) (by decide)) nofun
  refine g_aload_n C rfl 0 rfl dX12_remain_5 ?_
  refine g_iload_n C rfl 1 rfl dX12_remain_6 ?_
  have e4 : Tg h2 a0 = 12 := ((pIT hh1).trans ta0)
  refine g_callI (st := []) (gc_V C lk_LandSurveyModel_426 (k_X12_isSight l D cy w z0 O3 e4 fa1) e4 rfl rfl rfl ⟨by decide, by decide⟩ (Nat.le_of_ble_eq_true rfl) dX12_remain_7 ⟨(by decide), (by decide)⟩) (fun r5 h6 f8 K7 => ?_)
  obtain ⟨O9, F10, f11, p12⟩ := K7
  refine g_if_eq C (iw f11 (by decide) (by decide)) 32 (by decide) dX12_remain_10 (fun q13 => ?_) (fun q14 => ?_)
  · have f15 : (0 : Int) ≤ r5 ∧ r5 ≤ (0 : Int) := ii f11 (r_eq (il 0) q13) (by decide) (by decide)
    refine g_iconst C dX12_remain_32 ?_
    exact g_iret C hr (nar_z2 (iw (il 0) (by decide) (by decide))).1 (iw (il 0) (by decide) (by decide)) ⟨O9, (((Fx.rf (wr := wr_k_X12_remain)).pI ta0 hh1 rfl).call F10 rfl), (iw (il 0) (by decide) (by decide))⟩ (by decide) (by decide) dX12_remain_33
  · have f16 : (1 : Int) ≤ r5 ∧ r5 ≤ (1 : Int) := r_nl f11 q14
    have f17 : (0 : Int) ≤ a1 ∧ a1 ≤ (39 : Int) := by omega
    refine g_iload_n C rfl 2 rfl dX12_remain_13 ?_
    refine g_iconst C dX12_remain_14 ?_
    refine g_bipush C (by decide) dX12_remain_15 ?_
    refine g_callI (st := []) (gc_S C lk_LandSurveyModel_415 (k_X12_within l D cy w z0 O9 fa2 (iw (il 0) (by decide) (by decide)) (iw (il 9) (by decide) (by decide))) rfl ⟨by decide, by decide⟩ (Nat.le_of_ble_eq_true rfl) dX12_remain_17 ⟨(by decide), (by decide)⟩) (fun r18 h19 f21 K20 => ?_)
    obtain ⟨O22, F23, f24, p25⟩ := K20
    refine g_if_eq C (iw f24 (by decide) (by decide)) 32 (by decide) dX12_remain_20 (fun q26 => ?_) (fun q27 => ?_)
    · have f28 : (0 : Int) ≤ r18 ∧ r18 ≤ (0 : Int) := ii f24 (r_eq (il 0) q26) (by decide) (by decide)
      refine g_iconst C dX12_remain_32 ?_
      exact g_iret C hr (nar_z2 (iw (il 0) (by decide) (by decide))).1 (iw (il 0) (by decide) (by decide)) ⟨O22, ((((Fx.rf (wr := wr_k_X12_remain)).pI ta0 hh1 rfl).call F10 rfl).call F23 rfl), (iw (il 0) (by decide) (by decide))⟩ (by decide) (by decide) dX12_remain_33
    · have f29 : (1 : Int) ≤ r18 ∧ r18 ≤ (1 : Int) := r_nl f24 q27
      have f30 : (0 : Int) ≤ a2 ∧ a2 ≤ (9 : Int) := by omega
      refine g_aload_n C rfl 0 rfl dX12_remain_23 ?_
      have e31 : Tg h19 a0 = 12 := (fxT F23 (fxT F10 e4))
      obtain ⟨v32, e33⟩ : ∃ z, Rv h19 a0 51 = z := ⟨_, rfl⟩
      have t34 := ok_R O22 e31 rE_12_51 e33
      have l35 := ok_L O22 e31 rE_12_51 e33
      refine gf_R C fk_LandSurveyModel_203 rfl e31 e33 dX12_remain_24 ?_
      refine g_iload_n C rfl 1 rfl dX12_remain_27 ?_
      obtain ⟨v36, e37⟩ : ∃ z, Iv h19 v32 a1.toNat = z := ⟨_, rfl⟩
      have f38 := ok_Ia O22 t34 ar_151100 rI_151100_0 e37
      refine g_iald C t34 rfl l35 (ix f17 (by decide) (by decide)) e37 dX12_remain_28 ?_
      refine g_if_lt C (iw f38 (by decide) (by decide)) 34 (by decide) dX12_remain_29 (fun q39 => ?_) (fun q40 => ?_)
      · have f41 : (-1 : Int) ≤ v36 ∧ v36 ≤ (-1 : Int) := r_lt f38 (il 0) q39 (by decide) (by decide)
        refine g_aload_n C rfl 0 rfl dX12_remain_34 ?_
        refine gf_R C fk_LandSurveyModel_203 rfl e31 e33 dX12_remain_35 ?_
        refine g_iload_n C rfl 1 rfl dX12_remain_38 ?_
        refine g_iload_n C rfl 2 rfl dX12_remain_39 ?_
        refine g_iast C t34 rfl l35 (ix f17 (by decide) (by decide)) (iw f30 (by decide) (by decide)) dX12_remain_40 (fun h43 hh42 => ?_)
        have O44 := O22.pIa t34 ar_151100 hh42 rI_151100_0 (iw f30 (by decide) (by decide)) nofun
        refine g_aload_n C rfl 0 rfl dX12_remain_41 ?_
        have e45 : Tg h43 a0 = 12 := ((pIT hh42).trans e31)
        obtain ⟨v46, e47⟩ : ∃ z, Rv h43 a0 52 = z := ⟨_, rfl⟩
        have t48 := ok_R O44 e45 rE_12_52 e47
        have l49 := ok_L O44 e45 rE_12_52 e47
        refine gf_R C fk_LandSurveyModel_206 rfl e45 e47 dX12_remain_42 ?_
        refine g_iload_n C rfl 1 rfl dX12_remain_45 ?_
        refine g_iload_n C rfl 3 rfl dX12_remain_46 ?_
        refine g_zast C t48 rfl l49 (ix f17 (by decide) (by decide)) fa3 dX12_remain_47 (fun h51 hh50 => ?_)
        have O52 := O44.pIa t48 ar_152101 hh50 rI_152101_0 fa3 nofun
        refine g_iconst C dX12_remain_48 ?_
        exact g_iret C hr (nar_z2 (iw (il 1) (by decide) (by decide))).1 (iw (il 1) (by decide) (by decide)) ⟨O52, ((((((Fx.rf (wr := wr_k_X12_remain)).pI ta0 hh1 rfl).call F10 rfl).call F23 rfl).pIa t34 ar_151100 hh42 rfl).pIa t48 ar_152101 hh50 rfl), (iw (il 1) (by decide) (by decide))⟩ (by decide) (by decide) dX12_remain_49
      · have f53 : (0 : Int) ≤ v36 ∧ v36 ≤ (9 : Int) := r_ge f38 (il 0) q40 (by decide) (by decide)
        refine g_iconst C dX12_remain_32 ?_
        exact g_iret C hr (nar_z2 (iw (il 0) (by decide) (by decide))).1 (iw (il 0) (by decide) (by decide)) ⟨O22, ((((Fx.rf (wr := wr_k_X12_remain)).pI ta0 hh1 rfl).call F10 rfl).call F23 rfl), (iw (il 0) (by decide) (by decide))⟩ (by decide) (by decide) dX12_remain_33
def wr_k_X12_withdraw : List Nat := [2400, 2435, 29420000]
set_option maxRecDepth 100000 in
set_option maxHeartbeats 4000000 in
theorem k_X12_withdraw (l : Launch) (D : va_G) (cy : Nat → ClassId) (w : Nat → Nat) (z0 : Nat)  {h : Hp} {a0 : Nat} {a1 : Int}  (O : Okh h) (ta0 : Tg h a0 = 12) (fa1 : (-2147483648) ≤ a1 ∧ a1 ≤ 2147483647) : MI l D cy w z0 yX12_withdraw cX12_withdraw 2 (some .boolean) 1 21 0 0 [.inr (.inr a0), .inl a1] h (fun v h1 => Okh h1 ∧ Fx wr_k_X12_withdraw h h1 ∧ (0 ≤ v ∧ v ≤ 1)) := by
  refine hm_go (by decide +kernel) (Nat.le_of_ble_eq_true rfl) (fun p e s m below meth c C hr hn => ?_)
  refine g_aload_n C rfl 0 rfl dX12_withdraw_0 ?_
  refine g_iconst C dX12_withdraw_1 ?_
  refine gp_I C fk_LandSurveyModel_1 pk_LandSurveyModel_0 rfl ta0 (iw (il 0) (by decide) (by decide)) (nf_i _) dX12_withdraw_2 (fun h2 hh1 => ?_)
  have O3 := O.pI ta0 hh1 rI_12_0 (iw (il 0) (by decide) (by decide)) nofun
  refine g_aload_n C rfl 0 rfl dX12_withdraw_5 ?_
  refine g_iload_n C rfl 1 rfl dX12_withdraw_6 ?_
  have e4 : Tg h2 a0 = 12 := ((pIT hh1).trans ta0)
  refine g_callI (st := []) (gc_V C lk_LandSurveyModel_426 (k_X12_isSight l D cy w z0 O3 e4 fa1) e4 rfl rfl rfl ⟨by decide, by decide⟩ (Nat.le_of_ble_eq_true rfl) dX12_withdraw_7 ⟨(by decide), (by decide)⟩) (fun r5 h6 f8 K7 => ?_)
  obtain ⟨O9, F10, f11, p12⟩ := K7
  refine g_if_eq C (iw f11 (by decide) (by decide)) 22 (by decide) dX12_withdraw_10 (fun q13 => ?_) (fun q14 => ?_)
  · have f15 : (0 : Int) ≤ r5 ∧ r5 ≤ (0 : Int) := ii f11 (r_eq (il 0) q13) (by decide) (by decide)
    refine g_iconst C dX12_withdraw_22 ?_
    exact g_iret C hr (nar_z2 (iw (il 0) (by decide) (by decide))).1 (iw (il 0) (by decide) (by decide)) ⟨O9, (((Fx.rf (wr := wr_k_X12_withdraw)).pI ta0 hh1 rfl).call F10 rfl), (iw (il 0) (by decide) (by decide))⟩ (by decide) (by decide) dX12_withdraw_23
  · have f16 : (1 : Int) ≤ r5 ∧ r5 ≤ (1 : Int) := r_nl f11 q14
    have f17 : (0 : Int) ≤ a1 ∧ a1 ≤ (39 : Int) := by omega
    refine g_aload_n C rfl 0 rfl dX12_withdraw_13 ?_
    have e18 : Tg h6 a0 = 12 := (fxT F10 e4)
    obtain ⟨v19, e20⟩ : ∃ z, Rv h6 a0 47 = z := ⟨_, rfl⟩
    have t21 := ok_R O9 e18 rE_12_47 e20
    have l22 := ok_L O9 e18 rE_12_47 e20
    refine gf_R C fk_LandSurveyModel_191 rfl e18 e20 dX12_withdraw_14 ?_
    refine g_iload_n C rfl 1 rfl dX12_withdraw_17 ?_
    obtain ⟨v23, e24⟩ : ∃ z, Iv h6 v19 a1.toNat = z := ⟨_, rfl⟩
    have f25 := ok_Ia O9 t21 ar_147100 rI_147100_0 e24
    refine g_iald C t21 rfl l22 (ix f17 (by decide) (by decide)) e24 dX12_withdraw_18 ?_
    refine g_if_lt C (iw f25 (by decide) (by decide)) 24 (by decide) dX12_withdraw_19 (fun q26 => ?_) (fun q27 => ?_)
    · have f28 : (-1 : Int) ≤ v23 ∧ v23 ≤ (-1 : Int) := r_lt f25 (il 0) q26 (by decide) (by decide)
      refine g_aload_n C rfl 0 rfl dX12_withdraw_24 ?_
      refine gf_R C fk_LandSurveyModel_191 rfl e18 e20 dX12_withdraw_25 ?_
      refine g_iload_n C rfl 1 rfl dX12_withdraw_28 ?_
      refine g_aload_n C rfl 0 rfl dX12_withdraw_29 ?_
      obtain ⟨v29, e30⟩ : ∃ z, Iv h6 a0 33 = z := ⟨_, rfl⟩
      have f31 := ok_I O9 e18 rI_12_33 e30
      refine gf_I C fk_LandSurveyModel_342 rfl e18 e30 dX12_withdraw_30 ?_
      refine g_iast C t21 rfl l22 (ix f17 (by decide) (by decide)) (iw f31 (by decide) (by decide)) dX12_withdraw_33 (fun h33 hh32 => ?_)
      have O34 := O9.pIa t21 ar_147100 hh32 rI_147100_0 (iw f31 (by decide) (by decide)) nofun
      refine g_aload_n C rfl 0 rfl dX12_withdraw_34 ?_
      refine g_iconst C dX12_withdraw_35 ?_
      have e35 : Tg h33 a0 = 12 := ((pIT hh32).trans e18)
      refine gp_I C fk_LandSurveyModel_290 pk_LandSurveyModel_35 rfl e35 (iw (il 1) (by decide) (by decide)) (nar_z2 (iw (il 1) (by decide) (by decide))) dX12_withdraw_36 (fun h37 hh36 => ?_)
      have O38 := O34.pI e35 hh36 rI_12_35 (iw (il 1) (by decide) (by decide)) nofun
      refine g_iconst C dX12_withdraw_39 ?_
      exact g_iret C hr (nar_z2 (iw (il 1) (by decide) (by decide))).1 (iw (il 1) (by decide) (by decide)) ⟨O38, (((((Fx.rf (wr := wr_k_X12_withdraw)).pI ta0 hh1 rfl).call F10 rfl).pIa t21 ar_147100 hh32 rfl).pI e35 hh36 rfl), (iw (il 1) (by decide) (by decide))⟩ (by decide) (by decide) dX12_withdraw_40
    · have f39 : (0 : Int) ≤ v23 ∧ v23 ≤ (9999 : Int) := r_ge f25 (il 0) q27 (by decide) (by decide)
      refine g_iconst C dX12_withdraw_22 ?_
      exact g_iret C hr (nar_z2 (iw (il 0) (by decide) (by decide))).1 (iw (il 0) (by decide) (by decide)) ⟨O9, (((Fx.rf (wr := wr_k_X12_withdraw)).pI ta0 hh1 rfl).call F10 rfl), (iw (il 0) (by decide) (by decide))⟩ (by decide) (by decide) dX12_withdraw_23
def wr_k_X12_rivalry : List Nat := [2400, 2435, 2479]
set_option maxRecDepth 100000 in
set_option maxHeartbeats 4000000 in
theorem k_X12_rivalry (l : Launch) (D : va_G) (cy : Nat → ClassId) (w : Nat → Nat) (z0 : Nat)  {h : Hp} {a0 : Nat} {a1 : Int}  (O : Okh h) (ta0 : Tg h a0 = 12) (fa1 : (-2147483648) ≤ a1 ∧ a1 ≤ 2147483647) : MI l D cy w z0 yX12_rivalry cX12_rivalry 2 (some .boolean) 1 22 0 0 [.inr (.inr a0), .inl a1] h (fun v h1 => Okh h1 ∧ Fx wr_k_X12_rivalry h h1 ∧ (0 ≤ v ∧ v ≤ 1)) := by
  refine hm_go (by decide +kernel) (Nat.le_of_ble_eq_true rfl) (fun p e s m below meth c C hr hn => ?_)
  refine g_aload_n C rfl 0 rfl dX12_rivalry_0 ?_
  refine g_iconst C dX12_rivalry_1 ?_
  refine gp_I C fk_LandSurveyModel_1 pk_LandSurveyModel_0 rfl ta0 (iw (il 0) (by decide) (by decide)) (nf_i _) dX12_rivalry_2 (fun h2 hh1 => ?_)
  have O3 := O.pI ta0 hh1 rI_12_0 (iw (il 0) (by decide) (by decide)) nofun
  refine g_iload_n C rfl 1 rfl dX12_rivalry_5 ?_
  refine g_iconst C dX12_rivalry_6 ?_
  refine g_sipush C (by decide) dX12_rivalry_7 ?_
  refine g_callI (st := []) (gc_S C lk_LandSurveyModel_415 (k_X12_within l D cy w z0 O3 fa1 (iw (il 0) (by decide) (by decide)) (iw (il 999) (by decide) (by decide))) rfl ⟨by decide, by decide⟩ (Nat.le_of_ble_eq_true rfl) dX12_rivalry_10 ⟨(by decide), (by decide)⟩) (fun r4 h5 f7 K6 => ?_)
  obtain ⟨O8, F9, f10, p11⟩ := K6
  refine g_if_ne C (iw f10 (by decide) (by decide)) 18 (by decide) dX12_rivalry_13 (fun q12 => ?_) (fun q13 => ?_)
  · have f14 : (1 : Int) ≤ r4 ∧ r4 ≤ (1 : Int) := r_nl f10 q12
    have f15 : (0 : Int) ≤ a1 ∧ a1 ≤ (999 : Int) := by omega
    refine g_aload_n C rfl 0 rfl dX12_rivalry_18 ?_
    refine g_iload_n C rfl 1 rfl dX12_rivalry_19 ?_
    have e16 : Tg h5 a0 = 12 := (fxT F9 ((pIT hh1).trans ta0))
    refine gp_I C fk_LandSurveyModel_549 pk_LandSurveyModel_79 rfl e16 (iw f15 (by decide) (by decide)) (nf_i _) dX12_rivalry_20 (fun h18 hh17 => ?_)
    have O19 := O8.pI e16 hh17 rI_12_79 f15 nofun
    refine g_aload_n C rfl 0 rfl dX12_rivalry_23 ?_
    refine g_iconst C dX12_rivalry_24 ?_
    have e20 : Tg h18 a0 = 12 := ((pIT hh17).trans e16)
    refine gp_I C fk_LandSurveyModel_290 pk_LandSurveyModel_35 rfl e20 (iw (il 1) (by decide) (by decide)) (nar_z2 (iw (il 1) (by decide) (by decide))) dX12_rivalry_25 (fun h22 hh21 => ?_)
    have O23 := O19.pI e20 hh21 rI_12_35 (iw (il 1) (by decide) (by decide)) nofun
    refine g_iconst C dX12_rivalry_28 ?_
    exact g_iret C hr (nar_z2 (iw (il 1) (by decide) (by decide))).1 (iw (il 1) (by decide) (by decide)) ⟨O23, (((((Fx.rf (wr := wr_k_X12_rivalry)).pI ta0 hh1 rfl).call F9 rfl).pI e16 hh17 rfl).pI e20 hh21 rfl), (iw (il 1) (by decide) (by decide))⟩ (by decide) (by decide) dX12_rivalry_29
  · have f24 : (0 : Int) ≤ r4 ∧ r4 ≤ (0 : Int) := ii f10 (r_eq (il 0) q13) (by decide) (by decide)
    refine g_iconst C dX12_rivalry_16 ?_
    exact g_iret C hr (nar_z2 (iw (il 0) (by decide) (by decide))).1 (iw (il 0) (by decide) (by decide)) ⟨O8, (((Fx.rf (wr := wr_k_X12_rivalry)).pI ta0 hh1 rfl).call F9 rfl), (iw (il 0) (by decide) (by decide))⟩ (by decide) (by decide) dX12_rivalry_17
def wr_k_X12_isSheet : List Nat := []
set_option maxRecDepth 100000 in
set_option maxHeartbeats 4000000 in
theorem k_X12_isSheet (l : Launch) (D : va_G) (cy : Nat → ClassId) (w : Nat → Nat) (z0 : Nat)  {h : Hp} {a0 : Nat} {a1 : Int}  (O : Okh h) (ta0 : Tg h a0 = 12) (fa1 : (-2147483648) ≤ a1 ∧ a1 ≤ 2147483647) : MI l D cy w z0 yX12_isSheet cX12_isSheet 2 (some .boolean) 0 0 0 0 [.inr (.inr a0), .inl a1] h (fun v h1 => Okh h1 ∧ Fx wr_k_X12_isSheet h h1 ∧ (0 ≤ v ∧ v ≤ 1)) := by
  refine hm_go (by decide +kernel) (Nat.le_of_ble_eq_true rfl) (fun p e s m below meth c C hr hn => ?_)
  refine g_iload_n C rfl 1 rfl dX12_isSheet_0 ?_
  refine g_if_lt C fa1 16 (by decide) dX12_isSheet_1 (fun q1 => ?_) (fun q2 => ?_)
  · have f3 : (-2147483648 : Int) ≤ a1 ∧ a1 ≤ (-1 : Int) := r_lt fa1 (il 0) q1 (by decide) (by decide)
    refine g_iconst C dX12_isSheet_16 ?_
    exact g_iret C hr (nar_z2 (iw (il 0) (by decide) (by decide))).1 (iw (il 0) (by decide) (by decide)) ⟨O, Fx.rf, (iw (il 0) (by decide) (by decide))⟩ (by decide) (by decide) dX12_isSheet_17
  · have f4 : (0 : Int) ≤ a1 ∧ a1 ≤ (2147483647 : Int) := r_ge fa1 (il 0) q2 (by decide) (by decide)
    refine g_iload_n C rfl 1 rfl dX12_isSheet_4 ?_
    refine g_aload_n C rfl 0 rfl dX12_isSheet_5 ?_
    obtain ⟨v5, e6⟩ : ∃ z, Iv h a0 80 = z := ⟨_, rfl⟩
    have f7 := ok_I O ta0 rI_12_80 e6
    refine gf_I C fk_LandSurveyModel_603 rfl ta0 e6 dX12_isSheet_6 ?_
    refine g_icmp_ge C (iw f4 (by decide) (by decide)) (iw f7 (by decide) (by decide)) 16 (by decide) dX12_isSheet_9 (fun q8 => ?_) (fun q9 => ?_)
    · refine g_iconst C dX12_isSheet_16 ?_
      exact g_iret C hr (nar_z2 (iw (il 0) (by decide) (by decide))).1 (iw (il 0) (by decide) (by decide)) ⟨O, Fx.rf, (iw (il 0) (by decide) (by decide))⟩ (by decide) (by decide) dX12_isSheet_17
    · have f10 : (0 : Int) ≤ a1 ∧ a1 ≤ (9 : Int) := r_lt f4 f7 q9 (by decide) (by decide)
      have f11 : (1 : Int) ≤ v5 ∧ v5 ≤ (10 : Int) := r_gt f7 f4 q9 (by decide) (by decide)
      refine g_iconst C dX12_isSheet_12 ?_
      refine g_goto C 17 (by decide) dX12_isSheet_13 ?_
      exact g_iret C hr (nar_z2 (iw (il 1) (by decide) (by decide))).1 (iw (il 1) (by decide) (by decide)) ⟨O, Fx.rf, (iw (il 1) (by decide) (by decide))⟩ (by decide) (by decide) dX12_isSheet_17
def wr_k_X12_asked : List Nat := []
set_option maxRecDepth 100000 in
set_option maxHeartbeats 4000000 in
theorem k_X12_asked (l : Launch) (D : va_G) (cy : Nat → ClassId) (w : Nat → Nat) (z0 : Nat)  {h : Hp} {a0 : Nat}  (O : Okh h) (ta0 : Tg h a0 = 12) : MI l D cy w z0 yX12_asked cX12_asked 3 (some .int) 0 0 0 0 [.inr (.inr a0)] h (fun v h1 => Okh h1 ∧ Fx wr_k_X12_asked h h1 ∧ ((-2147483648) ≤ v ∧ v ≤ 2147483647)) := by
  refine hm_go (by decide +kernel) (Nat.le_of_ble_eq_true rfl) (fun p e s m below meth c C hr hn => ?_)
  refine g_iconst C dX12_asked_0 ?_
  refine g_istore_n C [(1, .inl 0), (0, .inr (.inr a0))] rfl (by decide) rfl dX12_asked_1 ?_
  refine g_iconst C dX12_asked_2 ?_
  refine g_istore_n C [(2, .inl 0), (1, .inl 0), (0, .inr (.inr a0))] rfl (by decide) rfl dX12_asked_3 ?_
  refine GW.sub [2, 1, 0] rfl ?_
  -- loop at 4
  have L3 : ∀ (μ : Nat) (x1 : Int) (x2 : Int), (96 - x2).toNat = μ → ((-2147483648 : Int) ≤ x1 ∧ x1 ≤ (2147483647 : Int)) → ((0 : Int) ≤ x2 ∧ x2 ≤ (96 : Int)) → GW p l e (rmm 0 0 0 0) s m (List.map toV [.inr (.inr a0)]).toArray below meth c D cy z0 3 (MQ below (QI D cy z0 (fun v h1 => Okh h1 ∧ Fx wr_k_X12_asked h h1 ∧ ((-2147483648) ≤ v ∧ v ≤ 2147483647))) (List.map toV [.inr (.inr a0)]).toArray s 0 0 (Aof z0)) 4 [(0, .inr (.inr a0)), (1, .inl x1), (2, .inl x2)] [] h 0 0 := by
    intro μ
    induction μ using Nat.strongRecOn with
    | ind μ ih4 =>
      intro x1 x2 hm5 f6 f7
      refine g_iload_n C rfl 2 rfl dX12_asked_4 ?_
      refine g_bipush C (by decide) dX12_asked_5 ?_
      refine g_icmp_ge C (iw f7 (by decide) (by decide)) (iw (il 96) (by decide) (by decide)) 33 (by decide) dX12_asked_7 (fun q8 => ?_) (fun q9 => ?_)
      · have f10 : (96 : Int) ≤ x2 ∧ x2 ≤ (96 : Int) := r_ge f7 (il 96) q8 (by decide) (by decide)
        refine g_iload_n C rfl 1 rfl dX12_asked_33 ?_
        exact g_iret C hr rfl f6 ⟨O, Fx.rf, f6⟩ (by decide) (by decide) dX12_asked_34
      · have f11 : (0 : Int) ≤ x2 ∧ x2 ≤ (95 : Int) := r_lt f7 (il 96) q9 (by decide) (by decide)
        refine g_iload_n C rfl 1 rfl dX12_asked_10 ?_
        refine g_aload_n C rfl 0 rfl dX12_asked_11 ?_
        obtain ⟨v12, e13⟩ : ∃ z, Rv h a0 82 = z := ⟨_, rfl⟩
        have t14 := ok_R O ta0 rE_12_82 e13
        have l15 := ok_L O ta0 rE_12_82 e13
        refine gf_R C fk_LandSurveyModel_275 rfl ta0 e13 dX12_asked_12 ?_
        refine g_iload_n C rfl 2 rfl dX12_asked_15 ?_
        obtain ⟨v16, e17⟩ : ∃ z, Iv h v12 x2.toNat = z := ⟨_, rfl⟩
        have f18 := ok_Ia O t14 ar_182101 rI_182101_0 e17
        refine g_zald C t14 rfl l15 (ix f11 (by decide) (by decide)) e17 dX12_asked_16 ?_
        refine g_if_eq C (iw f18 (by decide) (by decide)) 24 (by decide) dX12_asked_17 (fun q19 => ?_) (fun q20 => ?_)
        · have f21 : (0 : Int) ≤ v16 ∧ v16 ≤ (0 : Int) := ii f18 (r_eq (il 0) q19) (by decide) (by decide)
          refine g_iconst C dX12_asked_24 ?_
          have f22 : (-2147483648 : Int) ≤ (x1 + 0) ∧ (x1 + 0) ≤ (2147483647 : Int) := ia_add f6 (il 0) (by decide) (by decide)
          refine g_iadd C dX12_asked_25 ?_
          refine g_istore_n C [(1, .inl (x1 + 0)), (0, .inr (.inr a0)), (2, .inl x2)] rfl (by decide) rfl dX12_asked_26 ?_
          have f23 : (1 : Int) ≤ (x2 + 1) ∧ (x2 + 1) ≤ (96 : Int) := ia_add f11 (il 1) (by decide) (by decide)
          refine g_iinc C [(2, .inl (x2 + 1)), (1, .inl (x1 + 0)), (0, .inr (.inr a0))] 2 rfl (by decide) rfl dX12_asked_27 ?_
          refine g_goto C 4 (by decide) dX12_asked_30 ?_
          refine GW.sub [2, 1, 0] rfl ?_
          exact ih4 _ (by omega) (x1 + 0) (x2 + 1) rfl f22 (iw f23 (by decide) (by decide))
        · have f24 : (1 : Int) ≤ v16 ∧ v16 ≤ (1 : Int) := r_nl f18 q20
          refine g_iconst C dX12_asked_20 ?_
          refine g_goto C 25 (by decide) dX12_asked_21 ?_
          have f25 : (-2147483648 : Int) ≤ (w32 (x1 + 1)) ∧ (w32 (x1 + 1)) ≤ (2147483647 : Int) := w32_inR _
          refine g_iaddW C dX12_asked_25 ?_
          refine g_istore_n C [(1, .inl (w32 (x1 + 1))), (0, .inr (.inr a0)), (2, .inl x2)] rfl (by decide) rfl dX12_asked_26 ?_
          have f26 : (1 : Int) ≤ (x2 + 1) ∧ (x2 + 1) ≤ (96 : Int) := ia_add f11 (il 1) (by decide) (by decide)
          refine g_iinc C [(2, .inl (x2 + 1)), (1, .inl (w32 (x1 + 1))), (0, .inr (.inr a0))] 2 rfl (by decide) rfl dX12_asked_27 ?_
          refine g_goto C 4 (by decide) dX12_asked_30 ?_
          refine GW.sub [2, 1, 0] rfl ?_
          exact ih4 _ (by omega) (w32 (x1 + 1)) (x2 + 1) rfl f25 (iw f26 (by decide) (by decide))
  exact L3 _ 0 0 rfl (iw (il 0) (by decide) (by decide)) (iw (il 0) (by decide) (by decide))
def wr_k_X12_question : List Nat := [2400, 36420200]
set_option maxRecDepth 100000 in
set_option maxHeartbeats 4000000 in
theorem k_X12_question (l : Launch) (D : va_G) (cy : Nat → ClassId) (w : Nat → Nat) (z0 : Nat)  {h : Hp} {a0 : Nat} {a1 : Int} {a2 : Int} {a3 : Int}  (O : Okh h) (ta0 : Tg h a0 = 12) (fa1 : (-2147483648) ≤ a1 ∧ a1 ≤ 2147483647) (fa2 : (-2147483648) ≤ a2 ∧ a2 ≤ 2147483647) (fa3 : 0 ≤ a3 ∧ a3 ≤ 1) : MI l D cy w z0 yX12_question cX12_question 4 (some .boolean) 2 43 0 0 [.inr (.inr a0), .inl a1, .inl a2, .inl a3] h (fun v h1 => Okh h1 ∧ Fx wr_k_X12_question h h1 ∧ (0 ≤ v ∧ v ≤ 1)) := by
  refine hm_go (by decide +kernel) (Nat.le_of_ble_eq_true rfl) (fun p e s m below meth c C hr hn => ?_)
  refine g_aload_n C rfl 0 rfl dX12_question_0 ?_
  refine g_iconst C dX12_question_1 ?_
  refine gp_I C fk_LandSurveyModel_1 pk_LandSurveyModel_0 rfl ta0 (iw (il 0) (by decide) (by decide)) (nf_i _) dX12_question_2 (fun h2 hh1 => ?_)
  have O3 := O.pI ta0 hh1 rI_12_0 (iw (il 0) (by decide) (by decide)) nofun
  refine g_iload_n C rfl 1 rfl dX12_question_5 ?_
  refine g_iload_n C rfl 2 rfl dX12_question_6 ?_
  refine g_callI (st := []) (gc_S C lk_LandSurveyModel_419 (k_X12_isCell l D cy w z0 O3 fa1 fa2) rfl ⟨by decide, by decide⟩ (Nat.le_of_ble_eq_true rfl) dX12_question_7 ⟨(by decide), (by decide)⟩) (fun r4 h5 f7 K6 => ?_)
  obtain ⟨O8, F9, f10, p11⟩ := K6
  refine g_if_eq C (iw f10 (by decide) (by decide)) 40 (by decide) dX12_question_10 (fun q12 => ?_) (fun q13 => ?_)
  · have f14 : (0 : Int) ≤ r4 ∧ r4 ≤ (0 : Int) := ii f10 (r_eq (il 0) q12) (by decide) (by decide)
    refine g_iconst C dX12_question_40 ?_
    exact g_iret C hr (nar_z2 (iw (il 0) (by decide) (by decide))).1 (iw (il 0) (by decide) (by decide)) ⟨O8, (((Fx.rf (wr := wr_k_X12_question)).pI ta0 hh1 rfl).call F9 rfl), (iw (il 0) (by decide) (by decide))⟩ (by decide) (by decide) dX12_question_41
  · have f15 : (1 : Int) ≤ r4 ∧ r4 ≤ (1 : Int) := r_nl f10 q13
    have f16 : (0 : Int) ≤ a1 ∧ a1 ≤ (11 : Int) := by omega
    have f17 : (0 : Int) ≤ a2 ∧ a2 ≤ (7 : Int) := by omega
    refine g_iload_n C rfl 3 rfl dX12_question_13 ?_
    refine g_if_eq C (iw fa3 (by decide) (by decide)) 42 (by decide) dX12_question_14 (fun q18 => ?_) (fun q19 => ?_)
    · have f20 : (0 : Int) ≤ a3 ∧ a3 ≤ (0 : Int) := ii fa3 (r_eq (il 0) q18) (by decide) (by decide)
      refine g_aload_n C rfl 0 rfl dX12_question_42 ?_
      have e21 : Tg h5 a0 = 12 := (fxT F9 ((pIT hh1).trans ta0))
      obtain ⟨v22, e23⟩ : ∃ z, Rv h5 a0 82 = z := ⟨_, rfl⟩
      have t24 := ok_R O8 e21 rE_12_82 e23
      have l25 := ok_L O8 e21 rE_12_82 e23
      refine gf_R C fk_LandSurveyModel_275 rfl e21 e23 dX12_question_43 ?_
      refine g_bipush C (by decide) dX12_question_46 ?_
      refine g_iload_n C rfl 2 rfl dX12_question_48 ?_
      have f26 : (0 : Int) ≤ (12 * a2) ∧ (12 * a2) ≤ (84 : Int) := ia_mul (by decide) f17 (by decide) (by decide)
      refine g_imul C dX12_question_49 ?_
      refine g_iload_n C rfl 1 rfl dX12_question_50 ?_
      have f27 : (0 : Int) ≤ ((12 * a2) + a1) ∧ ((12 * a2) + a1) ≤ (95 : Int) := ia_add f26 f16 (by decide) (by decide)
      refine g_iadd C dX12_question_51 ?_
      refine g_iload_n C rfl 3 rfl dX12_question_52 ?_
      refine g_zast C t24 rfl l25 (ix f27 (by decide) (by decide)) (iw f20 (by decide) (by decide)) dX12_question_53 (fun h29 hh28 => ?_)
      have O30 := O8.pIa t24 ar_182101 hh28 rI_182101_0 (iw f20 (by decide) (by decide)) nofun
      refine g_iconst C dX12_question_54 ?_
      exact g_iret C hr (nar_z2 (iw (il 1) (by decide) (by decide))).1 (iw (il 1) (by decide) (by decide)) ⟨O30, ((((Fx.rf (wr := wr_k_X12_question)).pI ta0 hh1 rfl).call F9 rfl).pIa t24 ar_182101 hh28 rfl), (iw (il 1) (by decide) (by decide))⟩ (by decide) (by decide) dX12_question_55
    · have f31 : (1 : Int) ≤ a3 ∧ a3 ≤ (1 : Int) := r_nl fa3 q19
      refine g_aload_n C rfl 0 rfl dX12_question_17 ?_
      have e32 : Tg h5 a0 = 12 := (fxT F9 ((pIT hh1).trans ta0))
      obtain ⟨v33, e34⟩ : ∃ z, Rv h5 a0 82 = z := ⟨_, rfl⟩
      have t35 := ok_R O8 e32 rE_12_82 e34
      have l36 := ok_L O8 e32 rE_12_82 e34
      refine gf_R C fk_LandSurveyModel_275 rfl e32 e34 dX12_question_18 ?_
      refine g_bipush C (by decide) dX12_question_21 ?_
      refine g_iload_n C rfl 2 rfl dX12_question_23 ?_
      have f37 : (0 : Int) ≤ (12 * a2) ∧ (12 * a2) ≤ (84 : Int) := ia_mul (by decide) f17 (by decide) (by decide)
      refine g_imul C dX12_question_24 ?_
      refine g_iload_n C rfl 1 rfl dX12_question_25 ?_
      have f38 : (0 : Int) ≤ ((12 * a2) + a1) ∧ ((12 * a2) + a1) ≤ (95 : Int) := ia_add f37 f16 (by decide) (by decide)
      refine g_iadd C dX12_question_26 ?_
      obtain ⟨v39, e40⟩ : ∃ z, Iv h5 v33 (((12 * a2) + a1).toNat) = z := ⟨_, rfl⟩
      have f41 := ok_Ia O8 t35 ar_182101 rI_182101_0 e40
      refine g_zald C t35 rfl l36 (ix f38 (by decide) (by decide)) e40 dX12_question_27 ?_
      refine g_if_ne C (iw f41 (by decide) (by decide)) 42 (by decide) dX12_question_28 (fun q42 => ?_) (fun q43 => ?_)
      · have f44 : (1 : Int) ≤ v39 ∧ v39 ≤ (1 : Int) := r_nl f41 q42
        refine g_aload_n C rfl 0 rfl dX12_question_42 ?_
        refine gf_R C fk_LandSurveyModel_275 rfl e32 e34 dX12_question_43 ?_
        refine g_bipush C (by decide) dX12_question_46 ?_
        refine g_iload_n C rfl 2 rfl dX12_question_48 ?_
        refine g_imul C dX12_question_49 ?_
        refine g_iload_n C rfl 1 rfl dX12_question_50 ?_
        refine g_iadd C dX12_question_51 ?_
        refine g_iload_n C rfl 3 rfl dX12_question_52 ?_
        refine g_zast C t35 rfl l36 (ix f38 (by decide) (by decide)) (iw f31 (by decide) (by decide)) dX12_question_53 (fun h46 hh45 => ?_)
        have O47 := O8.pIa t35 ar_182101 hh45 rI_182101_0 (iw f31 (by decide) (by decide)) nofun
        refine g_iconst C dX12_question_54 ?_
        exact g_iret C hr (nar_z2 (iw (il 1) (by decide) (by decide))).1 (iw (il 1) (by decide) (by decide)) ⟨O47, ((((Fx.rf (wr := wr_k_X12_question)).pI ta0 hh1 rfl).call F9 rfl).pIa t35 ar_182101 hh45 rfl), (iw (il 1) (by decide) (by decide))⟩ (by decide) (by decide) dX12_question_55
      · have f48 : (0 : Int) ≤ v39 ∧ v39 ≤ (0 : Int) := ii f41 (r_eq (il 0) q43) (by decide) (by decide)
        refine g_aload_n C rfl 0 rfl dX12_question_31 ?_
        refine g_callI (st := []) (gc_V C lk_LandSurveyModel_612 (k_X12_asked l D cy w z0 O8 e32) e32 rfl rfl rfl ⟨by decide, by decide⟩ (Nat.le_of_ble_eq_true rfl) dX12_question_32 ⟨(by decide), (by decide)⟩) (fun r49 h50 f52 K51 => ?_)
        obtain ⟨O53, F54, f55⟩ := K51
        refine g_bipush C (by decide) dX12_question_35 ?_
        refine g_icmp_ne C f55 (iw (il 8) (by decide) (by decide)) 42 (by decide) dX12_question_37 (fun q56 => ?_) (fun q57 => ?_)
        · refine g_aload_n C rfl 0 rfl dX12_question_42 ?_
          have e58 : Tg h50 a0 = 12 := (fxT F54 e32)
          have e59 : Rv h50 a0 82 = v33 := ((fxR F54 e32 rfl).trans e34)
          refine gf_R C fk_LandSurveyModel_275 rfl e58 e59 dX12_question_43 ?_
          refine g_bipush C (by decide) dX12_question_46 ?_
          refine g_iload_n C rfl 2 rfl dX12_question_48 ?_
          refine g_imul C dX12_question_49 ?_
          refine g_iload_n C rfl 1 rfl dX12_question_50 ?_
          refine g_iadd C dX12_question_51 ?_
          refine g_iload_n C rfl 3 rfl dX12_question_52 ?_
          have e60 : Tg h50 v33 = 182101 := (fxT F54 t35)
          have e61 : Ln h50 v33 = 96 := ((fxL F54 t35).trans l36)
          refine g_zast C e60 rfl e61 (ix f38 (by decide) (by decide)) (iw f31 (by decide) (by decide)) dX12_question_53 (fun h63 hh62 => ?_)
          have O64 := O53.pIa e60 ar_182101 hh62 rI_182101_0 (iw f31 (by decide) (by decide)) nofun
          refine g_iconst C dX12_question_54 ?_
          exact g_iret C hr (nar_z2 (iw (il 1) (by decide) (by decide))).1 (iw (il 1) (by decide) (by decide)) ⟨O64, (((((Fx.rf (wr := wr_k_X12_question)).pI ta0 hh1 rfl).call F9 rfl).call F54 rfl).pIa e60 ar_182101 hh62 rfl), (iw (il 1) (by decide) (by decide))⟩ (by decide) (by decide) dX12_question_55
        · have f65 : (8 : Int) ≤ r49 ∧ r49 ≤ (8 : Int) := ii f55 (r_eq (il 8) q57) (by decide) (by decide)
          refine g_iconst C dX12_question_40 ?_
          exact g_iret C hr (nar_z2 (iw (il 0) (by decide) (by decide))).1 (iw (il 0) (by decide) (by decide)) ⟨O53, ((((Fx.rf (wr := wr_k_X12_question)).pI ta0 hh1 rfl).call F9 rfl).call F54 rfl), (iw (il 0) (by decide) (by decide))⟩ (by decide) (by decide) dX12_question_41
def wr_k_X12_place : List Nat := [2400, 2483, 36820000, 37020000]
set_option maxRecDepth 100000 in
set_option maxHeartbeats 4000000 in
theorem k_X12_place (l : Launch) (D : va_G) (cy : Nat → ClassId) (w : Nat → Nat) (z0 : Nat)  {h : Hp} {a0 : Nat} {a1 : Int} {a2 : Int} {a3 : Int}  (O : Okh h) (ta0 : Tg h a0 = 12) (fa1 : (-2147483648) ≤ a1 ∧ a1 ≤ 2147483647) (fa2 : (-2147483648) ≤ a2 ∧ a2 ≤ 2147483647) (fa3 : (-2147483648) ≤ a3 ∧ a3 ≤ 2147483647) : MI l D cy w z0 yX12_place cX12_place 4 (some .int) 2 43 0 0 [.inr (.inr a0), .inl a1, .inl a2, .inl a3] h (fun v h1 => Okh h1 ∧ Fx wr_k_X12_place h h1 ∧ ((-2147483648) ≤ v ∧ v ≤ 2147483647)) := by
  refine hm_go (by decide +kernel) (Nat.le_of_ble_eq_true rfl) (fun p e s m below meth c C hr hn => ?_)
  refine g_aload_n C rfl 0 rfl dX12_place_0 ?_
  refine g_iconst C dX12_place_1 ?_
  refine gp_I C fk_LandSurveyModel_1 pk_LandSurveyModel_0 rfl ta0 (iw (il 0) (by decide) (by decide)) (nf_i _) dX12_place_2 (fun h2 hh1 => ?_)
  have O3 := O.pI ta0 hh1 rI_12_0 (iw (il 0) (by decide) (by decide)) nofun
  refine g_iload_n C rfl 1 rfl dX12_place_5 ?_
  refine g_iload_n C rfl 2 rfl dX12_place_6 ?_
  refine g_callI (st := []) (gc_S C lk_LandSurveyModel_419 (k_X12_isCell l D cy w z0 O3 fa1 fa2) rfl ⟨by decide, by decide⟩ (Nat.le_of_ble_eq_true rfl) dX12_place_7 ⟨(by decide), (by decide)⟩) (fun r4 h5 f7 K6 => ?_)
  obtain ⟨O8, F9, f10, p11⟩ := K6
  refine g_if_eq C (iw f10 (by decide) (by decide)) 32 (by decide) dX12_place_10 (fun q12 => ?_) (fun q13 => ?_)
  · have f14 : (0 : Int) ≤ r4 ∧ r4 ≤ (0 : Int) := ii f10 (r_eq (il 0) q12) (by decide) (by decide)
    refine g_iconst C dX12_place_32 ?_
    exact g_iret C hr rfl (iw (il (-1)) (by decide) (by decide)) ⟨O8, (((Fx.rf (wr := wr_k_X12_place)).pI ta0 hh1 rfl).call F9 rfl), (iw (il (-1)) (by decide) (by decide))⟩ (by decide) (by decide) dX12_place_33
  · have f15 : (1 : Int) ≤ r4 ∧ r4 ≤ (1 : Int) := r_nl f10 q13
    have f16 : (0 : Int) ≤ a1 ∧ a1 ≤ (11 : Int) := by omega
    have f17 : (0 : Int) ≤ a2 ∧ a2 ≤ (7 : Int) := by omega
    refine g_iload_n C rfl 3 rfl dX12_place_13 ?_
    refine g_iconst C dX12_place_14 ?_
    refine g_bipush C (by decide) dX12_place_15 ?_
    refine g_callI (st := []) (gc_S C lk_LandSurveyModel_415 (k_X12_within l D cy w z0 O8 fa3 (iw (il 1) (by decide) (by decide)) (iw (il 99) (by decide) (by decide))) rfl ⟨by decide, by decide⟩ (Nat.le_of_ble_eq_true rfl) dX12_place_17 ⟨(by decide), (by decide)⟩) (fun r18 h19 f21 K20 => ?_)
    obtain ⟨O22, F23, f24, p25⟩ := K20
    refine g_if_eq C (iw f24 (by decide) (by decide)) 32 (by decide) dX12_place_20 (fun q26 => ?_) (fun q27 => ?_)
    · have f28 : (0 : Int) ≤ r18 ∧ r18 ≤ (0 : Int) := ii f24 (r_eq (il 0) q26) (by decide) (by decide)
      refine g_iconst C dX12_place_32 ?_
      exact g_iret C hr rfl (iw (il (-1)) (by decide) (by decide)) ⟨O22, ((((Fx.rf (wr := wr_k_X12_place)).pI ta0 hh1 rfl).call F9 rfl).call F23 rfl), (iw (il (-1)) (by decide) (by decide))⟩ (by decide) (by decide) dX12_place_33
    · have f29 : (1 : Int) ≤ r18 ∧ r18 ≤ (1 : Int) := r_nl f24 q27
      have f30 : (1 : Int) ≤ a3 ∧ a3 ≤ (99 : Int) := by omega
      refine g_aload_n C rfl 0 rfl dX12_place_23 ?_
      have e31 : Tg h19 a0 = 12 := (fxT F23 (fxT F9 ((pIT hh1).trans ta0)))
      obtain ⟨v32, e33⟩ : ∃ z, Iv h19 a0 83 = z := ⟨_, rfl⟩
      have f34 := ok_I O22 e31 rI_12_83 e33
      refine gf_I C fk_LandSurveyModel_615 rfl e31 e33 dX12_place_24 ?_
      refine g_bipush C (by decide) dX12_place_27 ?_
      refine g_icmp_ne C (iw f34 (by decide) (by decide)) (iw (il 8) (by decide) (by decide)) 34 (by decide) dX12_place_29 (fun q35 => ?_) (fun q36 => ?_)
      · have f37 : (0 : Int) ≤ v32 ∧ v32 ≤ (7 : Int) := r_nh f34 q35
        refine g_aload_n C rfl 0 rfl dX12_place_34 ?_
        obtain ⟨v38, e39⟩ : ∃ z, Rv h19 a0 84 = z := ⟨_, rfl⟩
        have t40 := ok_R O22 e31 rE_12_84 e39
        have l41 := ok_L O22 e31 rE_12_84 e39
        refine gf_R C fk_LandSurveyModel_278 rfl e31 e39 dX12_place_35 ?_
        refine g_aload_n C rfl 0 rfl dX12_place_38 ?_
        refine gf_I C fk_LandSurveyModel_615 rfl e31 e33 dX12_place_39 ?_
        refine g_bipush C (by decide) dX12_place_42 ?_
        refine g_iload_n C rfl 2 rfl dX12_place_44 ?_
        have f42 : (0 : Int) ≤ (12 * a2) ∧ (12 * a2) ≤ (84 : Int) := ia_mul (by decide) f17 (by decide) (by decide)
        refine g_imul C dX12_place_45 ?_
        refine g_iload_n C rfl 1 rfl dX12_place_46 ?_
        have f43 : (0 : Int) ≤ ((12 * a2) + a1) ∧ ((12 * a2) + a1) ≤ (95 : Int) := ia_add f42 f16 (by decide) (by decide)
        refine g_iadd C dX12_place_47 ?_
        refine g_iast C t40 rfl l41 (ix f37 (by decide) (by decide)) (iw f43 (by decide) (by decide)) dX12_place_48 (fun h45 hh44 => ?_)
        have O46 := O22.pIa t40 ar_184100 hh44 rI_184100_0 f43 nofun
        refine g_aload_n C rfl 0 rfl dX12_place_49 ?_
        have e47 : Tg h45 a0 = 12 := ((pIT hh44).trans e31)
        obtain ⟨v48, e49⟩ : ∃ z, Rv h45 a0 85 = z := ⟨_, rfl⟩
        have t50 := ok_R O46 e47 rE_12_85 e49
        have l51 := ok_L O46 e47 rE_12_85 e49
        refine gf_R C fk_LandSurveyModel_281 rfl e47 e49 dX12_place_50 ?_
        refine g_aload_n C rfl 0 rfl dX12_place_53 ?_
        have e52 : Iv h45 a0 83 = v32 := ((pI_n hh44 (ne_tag e31 t40 (by decide))).trans e33)
        refine gf_I C fk_LandSurveyModel_615 rfl e47 e52 dX12_place_54 ?_
        refine g_iload_n C rfl 3 rfl dX12_place_57 ?_
        refine g_iast C t50 rfl l51 (ix f37 (by decide) (by decide)) (iw f30 (by decide) (by decide)) dX12_place_58 (fun h54 hh53 => ?_)
        have O55 := O46.pIa t50 ar_185100 hh53 rI_185100_0 (iw f30 (by decide) (by decide)) nofun
        refine g_aload_n C rfl 0 rfl dX12_place_59 ?_
        refine g_dup C rfl dX12_place_60 ?_
        have e56 : Tg h54 a0 = 12 := ((pIT hh53).trans e47)
        have e57 : Iv h54 a0 83 = v32 := ((pI_n hh53 (ne_tag e47 t50 (by decide))).trans e52)
        refine gf_I C fk_LandSurveyModel_615 rfl e56 e57 dX12_place_61 ?_
        refine g_iconst C dX12_place_64 ?_
        have f58 : (1 : Int) ≤ (v32 + 1) ∧ (v32 + 1) ≤ (8 : Int) := ia_add f37 (il 1) (by decide) (by decide)
        refine g_iadd C dX12_place_65 ?_
        refine gp_I C fk_LandSurveyModel_615 pk_LandSurveyModel_83 rfl e56 (iw f58 (by decide) (by decide)) (nf_i _) dX12_place_66 (fun h60 hh59 => ?_)
        have O61 := O55.pI e56 hh59 rI_12_83 (iw f58 (by decide) (by decide)) nofun
        refine g_aload_n C rfl 0 rfl dX12_place_69 ?_
        have e62 : Tg h60 a0 = 12 := ((pIT hh59).trans e56)
        refine gf_I C fk_LandSurveyModel_615 rfl e62 (pI_e hh59) dX12_place_70 ?_
        refine g_iconst C dX12_place_73 ?_
        have f63 : (0 : Int) ≤ ((v32 + 1) - 1) ∧ ((v32 + 1) - 1) ≤ (7 : Int) := ia_sub f58 (il 1) (by decide) (by decide)
        refine g_isub C dX12_place_74 ?_
        exact g_iret C hr rfl (iw f63 (by decide) (by decide)) ⟨O61, (((((((Fx.rf (wr := wr_k_X12_place)).pI ta0 hh1 rfl).call F9 rfl).call F23 rfl).pIa t40 ar_184100 hh44 rfl).pIa t50 ar_185100 hh53 rfl).pI e56 hh59 rfl), (iw f63 (by decide) (by decide))⟩ (by decide) (by decide) dX12_place_75
      · have f64 : (8 : Int) ≤ v32 ∧ v32 ≤ (8 : Int) := ii f34 (r_eq (il 8) q36) (by decide) (by decide)
        refine g_iconst C dX12_place_32 ?_
        exact g_iret C hr rfl (iw (il (-1)) (by decide) (by decide)) ⟨O22, ((((Fx.rf (wr := wr_k_X12_place)).pI ta0 hh1 rfl).call F9 rfl).call F23 rfl), (iw (il (-1)) (by decide) (by decide))⟩ (by decide) (by decide) dX12_place_33
def wr_k_X12_isSet : List Nat := []
set_option maxRecDepth 100000 in
set_option maxHeartbeats 4000000 in
theorem k_X12_isSet (l : Launch) (D : va_G) (cy : Nat → ClassId) (w : Nat → Nat) (z0 : Nat)  {h : Hp} {a0 : Nat} {a1 : Int}  (O : Okh h) (ta0 : Tg h a0 = 12) (fa1 : (-2147483648) ≤ a1 ∧ a1 ≤ 2147483647) : MI l D cy w z0 yX12_isSet cX12_isSet 2 (some .boolean) 0 0 0 0 [.inr (.inr a0), .inl a1] h (fun v h1 => Okh h1 ∧ Fx wr_k_X12_isSet h h1 ∧ (0 ≤ v ∧ v ≤ 1)) := by
  refine hm_go (by decide +kernel) (Nat.le_of_ble_eq_true rfl) (fun p e s m below meth c C hr hn => ?_)
  refine g_iload_n C rfl 1 rfl dX12_isSet_0 ?_
  refine g_if_lt C fa1 18 (by decide) dX12_isSet_1 (fun q1 => ?_) (fun q2 => ?_)
  · have f3 : (-2147483648 : Int) ≤ a1 ∧ a1 ≤ (-1 : Int) := r_lt fa1 (il 0) q1 (by decide) (by decide)
    refine g_iconst C dX12_isSet_18 ?_
    exact g_iret C hr (nar_z2 (iw (il 0) (by decide) (by decide))).1 (iw (il 0) (by decide) (by decide)) ⟨O, Fx.rf, (iw (il 0) (by decide) (by decide))⟩ (by decide) (by decide) dX12_isSet_19
  · have f4 : (0 : Int) ≤ a1 ∧ a1 ≤ (2147483647 : Int) := r_ge fa1 (il 0) q2 (by decide) (by decide)
    refine g_iload_n C rfl 1 rfl dX12_isSet_4 ?_
    refine g_iconst C dX12_isSet_5 ?_
    refine g_aload_n C rfl 0 rfl dX12_isSet_6 ?_
    obtain ⟨v5, e6⟩ : ∃ z, Iv h a0 57 = z := ⟨_, rfl⟩
    have f7 := ok_I O ta0 rI_12_57 e6
    refine gf_I C fk_LandSurveyModel_477 rfl ta0 e6 dX12_isSet_7 ?_
    refine g_ishl C dX12_isSet_10 ?_
    have f8 : (1 : Int) ≤ (bShl 1 v5) ∧ (bShl 1 v5) ≤ (16 : Int) := bShl_4 f7
    refine g_icmp_ge C (iw f4 (by decide) (by decide)) (iw f8 (by decide) (by decide)) 18 (by decide) dX12_isSet_11 (fun q9 => ?_) (fun q10 => ?_)
    · have f11 : (1 : Int) ≤ a1 ∧ a1 ≤ (2147483647 : Int) := r_ge f4 f8 q9 (by decide) (by decide)
      refine g_iconst C dX12_isSet_18 ?_
      exact g_iret C hr (nar_z2 (iw (il 0) (by decide) (by decide))).1 (iw (il 0) (by decide) (by decide)) ⟨O, Fx.rf, (iw (il 0) (by decide) (by decide))⟩ (by decide) (by decide) dX12_isSet_19
    · have f12 : (0 : Int) ≤ a1 ∧ a1 ≤ (15 : Int) := r_lt f4 f8 q10 (by decide) (by decide)
      refine g_iconst C dX12_isSet_14 ?_
      refine g_goto C 19 (by decide) dX12_isSet_15 ?_
      exact g_iret C hr (nar_z2 (iw (il 1) (by decide) (by decide))).1 (iw (il 1) (by decide) (by decide)) ⟨O, Fx.rf, (iw (il 1) (by decide) (by decide))⟩ (by decide) (by decide) dX12_isSet_19
def wr_k_X12_isOne : List Nat := []
set_option maxRecDepth 100000 in
set_option maxHeartbeats 4000000 in
theorem k_X12_isOne (l : Launch) (D : va_G) (cy : Nat → ClassId) (w : Nat → Nat) (z0 : Nat)  {h : Hp} {a0 : Int}  (O : Okh h) (fa0 : (-2147483648) ≤ a0 ∧ a0 ≤ 2147483647) : MI l D cy w z0 yX12_isOne cX12_isOne 1 (some .boolean) 0 0 0 0 [.inl a0] h (fun v h1 => Okh h1 ∧ Fx wr_k_X12_isOne h h1 ∧ (0 ≤ v ∧ v ≤ 1)) := by
  refine hm_go (by decide +kernel) (Nat.le_of_ble_eq_true rfl) (fun p e s m below meth c C hr hn => ?_)
  refine g_iload_n C rfl 0 rfl dX12_isOne_0 ?_
  refine g_if_eq C fa0 16 (by decide) dX12_isOne_1 (fun q1 => ?_) (fun q2 => ?_)
  · have f3 : (0 : Int) ≤ a0 ∧ a0 ≤ (0 : Int) := ii fa0 (r_eq (il 0) q1) (by decide) (by decide)
    refine g_iconst C dX12_isOne_16 ?_
    exact g_iret C hr (nar_z2 (iw (il 0) (by decide) (by decide))).1 (iw (il 0) (by decide) (by decide)) ⟨O, Fx.rf, (iw (il 0) (by decide) (by decide))⟩ (by decide) (by decide) dX12_isOne_17
  · refine g_iload_n C rfl 0 rfl dX12_isOne_4 ?_
    refine g_iload_n C rfl 0 rfl dX12_isOne_5 ?_
    refine g_iconst C dX12_isOne_6 ?_
    have f4 : (-2147483648 : Int) ≤ (w32 (a0 - 1)) ∧ (w32 (a0 - 1)) ≤ (2147483647 : Int) := w32_inR _
    refine g_isubW C dX12_isOne_7 ?_
    refine g_iand C dX12_isOne_8 ?_
    have f5 : (-2147483648 : Int) ≤ (bAnd a0 (w32 (a0 - 1))) ∧ (bAnd a0 (w32 (a0 - 1))) ≤ (2147483647 : Int) := inR_of _
    refine g_if_ne C f5 16 (by decide) dX12_isOne_9 (fun q6 => ?_) (fun q7 => ?_)
    · refine g_iconst C dX12_isOne_16 ?_
      exact g_iret C hr (nar_z2 (iw (il 0) (by decide) (by decide))).1 (iw (il 0) (by decide) (by decide)) ⟨O, Fx.rf, (iw (il 0) (by decide) (by decide))⟩ (by decide) (by decide) dX12_isOne_17
    · have f8 : (0 : Int) ≤ (bAnd a0 (w32 (a0 - 1))) ∧ (bAnd a0 (w32 (a0 - 1))) ≤ (0 : Int) := ii f5 (r_eq (il 0) q7) (by decide) (by decide)
      refine g_iconst C dX12_isOne_12 ?_
      refine g_goto C 17 (by decide) dX12_isOne_13 ?_
      exact g_iret C hr (nar_z2 (iw (il 1) (by decide) (by decide))).1 (iw (il 1) (by decide) (by decide)) ⟨O, Fx.rf, (iw (il 1) (by decide) (by decide))⟩ (by decide) (by decide) dX12_isOne_17
def wr_k_X12_halfDown : List Nat := []
set_option maxRecDepth 100000 in
set_option maxHeartbeats 4000000 in
theorem k_X12_halfDown (l : Launch) (D : va_G) (cy : Nat → ClassId) (w : Nat → Nat) (z0 : Nat)  {h : Hp} {a0 : Int}  (O : Okh h) (fa0 : (-2147483648) ≤ a0 ∧ a0 ≤ 2147483647) : MI l D cy w z0 yX12_halfDown cX12_halfDown 1 (some .int) 0 0 0 0 [.inl a0] h (fun v h1 => Okh h1 ∧ Fx wr_k_X12_halfDown h h1 ∧ ((-2147483648) ≤ v ∧ v ≤ 2147483647)) := by
  refine hm_go (by decide +kernel) (Nat.le_of_ble_eq_true rfl) (fun p e s m below meth c C hr hn => ?_)
  refine g_iload_n C rfl 0 rfl dX12_halfDown_0 ?_
  refine g_if_ge C fa0 18 (by decide) dX12_halfDown_1 (fun q1 => ?_) (fun q2 => ?_)
  · have f3 : (0 : Int) ≤ a0 ∧ a0 ≤ (2147483647 : Int) := r_ge fa0 (il 0) q1 (by decide) (by decide)
    refine g_iload_n C rfl 0 rfl dX12_halfDown_18 ?_
    refine g_iconst C dX12_halfDown_19 ?_
    refine g_idivE (k := 2) C f3 (by decide) (by decide) dX12_halfDown_20 ?_
    have f4 : (0 : Int) ≤ (a0 / 2) ∧ (a0 / 2) ≤ (1073741823 : Int) := iv_div (by decide) f3 (by decide) (by decide)
    exact g_iret C hr rfl (iw f4 (by decide) (by decide)) ⟨O, Fx.rf, (iw f4 (by decide) (by decide))⟩ (by decide) (by decide) dX12_halfDown_21
  · have f5 : (-2147483648 : Int) ≤ a0 ∧ a0 ≤ (-1 : Int) := r_lt fa0 (il 0) q2 (by decide) (by decide)
    refine g_iload_n C rfl 0 rfl dX12_halfDown_4 ?_
    refine g_iconst C dX12_halfDown_5 ?_
    refine g_irem C (iw (il 2) (by decide) (by decide)) (by decide) dX12_halfDown_6 ?_
    have f6 : (-2147483648 : Int) ≤ (iM a0 2) ∧ (iM a0 2) ≤ (2147483647 : Int) := inR_of _
    refine g_if_eq C f6 18 (by decide) dX12_halfDown_7 (fun q7 => ?_) (fun q8 => ?_)
    · have f9 : (0 : Int) ≤ (iM a0 2) ∧ (iM a0 2) ≤ (0 : Int) := ii f6 (r_eq (il 0) q7) (by decide) (by decide)
      refine g_iload_n C rfl 0 rfl dX12_halfDown_18 ?_
      refine g_iconst C dX12_halfDown_19 ?_
      refine g_idiv C (iw (il 2) (by decide) (by decide)) (by decide) dX12_halfDown_20 ?_
      have f10 : (-2147483648 : Int) ≤ (iD a0 2) ∧ (iD a0 2) ≤ (2147483647 : Int) := inR_of _
      exact g_iret C hr rfl f10 ⟨O, Fx.rf, f10⟩ (by decide) (by decide) dX12_halfDown_21
    · refine g_iload_n C rfl 0 rfl dX12_halfDown_10 ?_
      refine g_iconst C dX12_halfDown_11 ?_
      refine g_idiv C (iw (il 2) (by decide) (by decide)) (by decide) dX12_halfDown_12 ?_
      have f11 : (-2147483648 : Int) ≤ (iD a0 2) ∧ (iD a0 2) ≤ (2147483647 : Int) := inR_of _
      refine g_iconst C dX12_halfDown_13 ?_
      have f12 : (-2147483648 : Int) ≤ (w32 ((iD a0 2) - 1)) ∧ (w32 ((iD a0 2) - 1)) ≤ (2147483647 : Int) := w32_inR _
      refine g_isubW C dX12_halfDown_14 ?_
      refine g_goto C 21 (by decide) dX12_halfDown_15 ?_
      exact g_iret C hr rfl f12 ⟨O, Fx.rf, f12⟩ (by decide) (by decide) dX12_halfDown_21
def wr_k_X12_isIn : List Nat := []
set_option maxRecDepth 100000 in
set_option maxHeartbeats 4000000 in
theorem k_X12_isIn (l : Launch) (D : va_G) (cy : Nat → ClassId) (w : Nat → Nat) (z0 : Nat)  {h : Hp} {a0 : Int} {a1 : Int}  (O : Okh h) (fa0 : (-9223372036854775808) ≤ a0 ∧ a0 ≤ 9223372036854775807) (fa1 : (-2147483648) ≤ a1 ∧ a1 ≤ 2147483647) : MI l D cy w z0 yX12_isIn cX12_isIn 3 (some .boolean) 0 0 0 0 [.inr (.inl a0), .inl a1] h (fun v h1 => Okh h1 ∧ Fx wr_k_X12_isIn h h1 ∧ (0 ≤ v ∧ v ≤ 1)) := by
  refine hm_go (by decide +kernel) (Nat.le_of_ble_eq_true rfl) (fun p e s m below meth c C hr hn => ?_)
  refine g_lload_n C rfl 0 rfl dX12_isIn_0 ?_
  refine g_iload_n C rfl 1 rfl dX12_isIn_1 ?_
  refine g_lshr C dX12_isIn_2 ?_
  have f1 : (-9223372036854775808 : Int) ≤ (lShr a0 a1) ∧ (lShr a0 a1) ≤ (9223372036854775807 : Int) := inL_of _
  refine g_lconst (z := 1) C (by decide) dX12_isIn_3 ?_
  refine g_land C dX12_isIn_4 ?_
  have f2 : (-9223372036854775808 : Int) ≤ (lAnd (lShr a0 a1) 1) ∧ (lAnd (lShr a0 a1) 1) ≤ (9223372036854775807 : Int) := inL_of _
  refine g_lconst (z := 1) C (by decide) dX12_isIn_5 ?_
  refine g_lcmp C f2 (iw (il 1) (by decide) (by decide)) dX12_isIn_6 ?_
  have f3 : (-1 : Int) ≤ (lC (lAnd (lShr a0 a1) 1) 1) ∧ (lC (lAnd (lShr a0 a1) 1) 1) ≤ (1 : Int) := lC_rng _ _
  refine g_if_ne C (iw f3 (by decide) (by decide)) 14 (by decide) dX12_isIn_7 (fun q4 => ?_) (fun q5 => ?_)
  · have q6 : ¬ (lAnd (lShr a0 a1) 1) = (1 : Int) := fun z => q4 (lC_eq.mpr z)
    refine g_iconst C dX12_isIn_14 ?_
    exact g_iret C hr (nar_z2 (iw (il 0) (by decide) (by decide))).1 (iw (il 0) (by decide) (by decide)) ⟨O, Fx.rf, (iw (il 0) (by decide) (by decide))⟩ (by decide) (by decide) dX12_isIn_15
  · have q7 : (lAnd (lShr a0 a1) 1) = (1 : Int) := lC_eq.mp q5
    have f8 : (1 : Int) ≤ (lAnd (lShr a0 a1) 1) ∧ (lAnd (lShr a0 a1) 1) ≤ (1 : Int) := ii f2 (r_eq (il 1) q7) (by decide) (by decide)
    refine g_iconst C dX12_isIn_10 ?_
    refine g_goto C 15 (by decide) dX12_isIn_11 ?_
    exact g_iret C hr (nar_z2 (iw (il 1) (by decide) (by decide))).1 (iw (il 1) (by decide) (by decide)) ⟨O, Fx.rf, (iw (il 1) (by decide) (by decide))⟩ (by decide) (by decide) dX12_isIn_15
def wr_k_X12_isDouble : List Nat := []
set_option maxRecDepth 100000 in
set_option maxHeartbeats 4000000 in
theorem k_X12_isDouble (l : Launch) (D : va_G) (cy : Nat → ClassId) (w : Nat → Nat) (z0 : Nat)  {h : Hp} {a0 : Nat} {a1 : Int} {a2 : Int}  (O : Okh h) (ta0 : Tg h a0 = 12) (fa1 : 0 ≤ a1 ∧ a1 ≤ 39) (fa2 : 0 ≤ a2 ∧ a2 ≤ 39) : MI l D cy w z0 yX12_isDouble cX12_isDouble 3 (some .boolean) 0 0 0 0 [.inr (.inr a0), .inl a1, .inl a2] h (fun v h1 => Okh h1 ∧ Fx wr_k_X12_isDouble h h1 ∧ (0 ≤ v ∧ v ≤ 1)) := by
  refine hm_go (by decide +kernel) (Nat.le_of_ble_eq_true rfl) (fun p e s m below meth c C hr hn => ?_)
  refine g_aload_n C rfl 0 rfl dX12_isDouble_0 ?_
  obtain ⟨v1, e2⟩ : ∃ z, Rv h a0 53 = z := ⟨_, rfl⟩
  have t3 := ok_R O ta0 rE_12_53 e2
  have l4 := ok_L O ta0 rE_12_53 e2
  refine gf_R C fk_LandSurveyModel_209 rfl ta0 e2 dX12_isDouble_1 ?_
  refine g_iload_n C rfl 1 rfl dX12_isDouble_4 ?_
  obtain ⟨v5, e6⟩ : ∃ z, Iv h v1 a1.toNat = z := ⟨_, rfl⟩
  have f7 := ok_Ia O t3 ar_153101 rI_153101_0 e6
  refine g_zald C t3 rfl l4 (ix fa1 (by decide) (by decide)) e6 dX12_isDouble_5 ?_
  refine g_if_eq C (iw f7 (by decide) (by decide)) 52 (by decide) dX12_isDouble_6 (fun q8 => ?_) (fun q9 => ?_)
  · have f10 : (0 : Int) ≤ v5 ∧ v5 ≤ (0 : Int) := ii f7 (r_eq (il 0) q8) (by decide) (by decide)
    refine g_iconst C dX12_isDouble_52 ?_
    exact g_iret C hr (nar_z2 (iw (il 0) (by decide) (by decide))).1 (iw (il 0) (by decide) (by decide)) ⟨O, Fx.rf, (iw (il 0) (by decide) (by decide))⟩ (by decide) (by decide) dX12_isDouble_53
  · have f11 : (1 : Int) ≤ v5 ∧ v5 ≤ (1 : Int) := r_nl f7 q9
    refine g_aload_n C rfl 0 rfl dX12_isDouble_9 ?_
    refine gf_R C fk_LandSurveyModel_209 rfl ta0 e2 dX12_isDouble_10 ?_
    refine g_iload_n C rfl 2 rfl dX12_isDouble_13 ?_
    obtain ⟨v12, e13⟩ : ∃ z, Iv h v1 a2.toNat = z := ⟨_, rfl⟩
    have f14 := ok_Ia O t3 ar_153101 rI_153101_0 e13
    refine g_zald C t3 rfl l4 (ix fa2 (by decide) (by decide)) e13 dX12_isDouble_14 ?_
    refine g_if_eq C (iw f14 (by decide) (by decide)) 52 (by decide) dX12_isDouble_15 (fun q15 => ?_) (fun q16 => ?_)
    · have f17 : (0 : Int) ≤ v12 ∧ v12 ≤ (0 : Int) := ii f14 (r_eq (il 0) q15) (by decide) (by decide)
      refine g_iconst C dX12_isDouble_52 ?_
      exact g_iret C hr (nar_z2 (iw (il 0) (by decide) (by decide))).1 (iw (il 0) (by decide) (by decide)) ⟨O, Fx.rf, (iw (il 0) (by decide) (by decide))⟩ (by decide) (by decide) dX12_isDouble_53
    · have f18 : (1 : Int) ≤ v12 ∧ v12 ≤ (1 : Int) := r_nl f14 q16
      refine g_aload_n C rfl 0 rfl dX12_isDouble_18 ?_
      obtain ⟨v19, e20⟩ : ∃ z, Rv h a0 42 = z := ⟨_, rfl⟩
      have t21 := ok_R O ta0 rE_12_42 e20
      have l22 := ok_L O ta0 rE_12_42 e20
      refine gf_R C fk_LandSurveyModel_176 rfl ta0 e20 dX12_isDouble_19 ?_
      refine g_iload_n C rfl 1 rfl dX12_isDouble_22 ?_
      obtain ⟨v23, e24⟩ : ∃ z, Iv h v19 a1.toNat = z := ⟨_, rfl⟩
      have f25 := ok_Ia O t21 ar_142100 rI_142100_0 e24
      refine g_iald C t21 rfl l22 (ix fa1 (by decide) (by decide)) e24 dX12_isDouble_23 ?_
      refine g_aload_n C rfl 0 rfl dX12_isDouble_24 ?_
      refine gf_R C fk_LandSurveyModel_176 rfl ta0 e20 dX12_isDouble_25 ?_
      refine g_iload_n C rfl 2 rfl dX12_isDouble_28 ?_
      obtain ⟨v26, e27⟩ : ∃ z, Iv h v19 a2.toNat = z := ⟨_, rfl⟩
      have f28 := ok_Ia O t21 ar_142100 rI_142100_0 e27
      refine g_iald C t21 rfl l22 (ix fa2 (by decide) (by decide)) e27 dX12_isDouble_29 ?_
      refine g_icmp_ne C (iw f25 (by decide) (by decide)) (iw f28 (by decide) (by decide)) 52 (by decide) dX12_isDouble_30 (fun q29 => ?_) (fun q30 => ?_)
      · refine g_iconst C dX12_isDouble_52 ?_
        exact g_iret C hr (nar_z2 (iw (il 0) (by decide) (by decide))).1 (iw (il 0) (by decide) (by decide)) ⟨O, Fx.rf, (iw (il 0) (by decide) (by decide))⟩ (by decide) (by decide) dX12_isDouble_53
      · refine g_aload_n C rfl 0 rfl dX12_isDouble_33 ?_
        obtain ⟨v31, e32⟩ : ∃ z, Rv h a0 43 = z := ⟨_, rfl⟩
        have t33 := ok_R O ta0 rE_12_43 e32
        have l34 := ok_L O ta0 rE_12_43 e32
        refine gf_R C fk_LandSurveyModel_179 rfl ta0 e32 dX12_isDouble_34 ?_
        refine g_iload_n C rfl 1 rfl dX12_isDouble_37 ?_
        obtain ⟨v35, e36⟩ : ∃ z, Iv h v31 a1.toNat = z := ⟨_, rfl⟩
        have f37 := ok_Ia O t33 ar_143100 rI_143100_0 e36
        refine g_iald C t33 rfl l34 (ix fa1 (by decide) (by decide)) e36 dX12_isDouble_38 ?_
        refine g_aload_n C rfl 0 rfl dX12_isDouble_39 ?_
        refine gf_R C fk_LandSurveyModel_179 rfl ta0 e32 dX12_isDouble_40 ?_
        refine g_iload_n C rfl 2 rfl dX12_isDouble_43 ?_
        obtain ⟨v38, e39⟩ : ∃ z, Iv h v31 a2.toNat = z := ⟨_, rfl⟩
        have f40 := ok_Ia O t33 ar_143100 rI_143100_0 e39
        refine g_iald C t33 rfl l34 (ix fa2 (by decide) (by decide)) e39 dX12_isDouble_44 ?_
        refine g_icmp_ne C (iw f37 (by decide) (by decide)) (iw f40 (by decide) (by decide)) 52 (by decide) dX12_isDouble_45 (fun q41 => ?_) (fun q42 => ?_)
        · refine g_iconst C dX12_isDouble_52 ?_
          exact g_iret C hr (nar_z2 (iw (il 0) (by decide) (by decide))).1 (iw (il 0) (by decide) (by decide)) ⟨O, Fx.rf, (iw (il 0) (by decide) (by decide))⟩ (by decide) (by decide) dX12_isDouble_53
        · refine g_iconst C dX12_isDouble_48 ?_
          refine g_goto C 53 (by decide) dX12_isDouble_49 ?_
          exact g_iret C hr (nar_z2 (iw (il 1) (by decide) (by decide))).1 (iw (il 1) (by decide) (by decide)) ⟨O, Fx.rf, (iw (il 1) (by decide) (by decide))⟩ (by decide) (by decide) dX12_isDouble_53
