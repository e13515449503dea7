abbrev cX11_remain : ByteArray := prog_1_method_9_code
def yX11_remain : MethodName := ⟨RX11, "remain", "(IIZ)Z"⟩
theorem okX11_remain : yok yX11_remain 3 := by decide +kernel
theorem dX11_remain_0 : decode cX11_remain 0 = .ok (.aload_n 0, 1) := by decide +kernel
theorem dX11_remain_1 : decode cX11_remain 1 = .ok (.iload_n 1, 1) := by decide +kernel
theorem dX11_remain_2 : decode cX11_remain 2 = .ok (.invokevirtual 108, 3) := by decide +kernel
theorem kw_643 : Cond.code yX11_isSight prog_1_method_40_code 2 (some .boolean) ∈ uu := uu_in (i := 643) (by decide +kernel) (by decide +kernel)
theorem kw_640 : Cond.methodLink "LandSurvey" 108 yX11_isSight ∈ uu := uu_in (i := 640) (by decide +kernel) (by decide +kernel)
theorem kw_642 : Cond.instanceMethod yX11_isSight ∈ uu := uu_in (i := 642) (by decide +kernel) (by decide +kernel)
theorem kw_0 : Cond.selects "LandSurvey" yX11_isSight yX11_isSight ∈ uu := uu_in (i := 0) (by decide +kernel) (by decide +kernel)
theorem lk_LandSurvey_108 : lkV "LandSurvey" 108 yX11_isSight cX11_isSight 2 (some .boolean) 1 := ⟨kw_640, kw_642, kw_0, kw_144, kw_643, okX11_isSight⟩
theorem dX11_remain_5 : decode cX11_remain 5 = .ok (.ifCond .eq 26, 3) := by decide +kernel
theorem dX11_remain_31 : decode cX11_remain 31 = .ok (.iconst 0, 1) := by decide +kernel
theorem dX11_remain_32 : decode cX11_remain 32 = .ok (.ireturn, 1) := by decide +kernel
theorem dX11_remain_8 : decode cX11_remain 8 = .ok (.aload_n 0, 1) := by decide +kernel
theorem dX11_remain_9 : decode cX11_remain 9 = .ok (.getfield 22, 3) := by decide +kernel
theorem dX11_remain_12 : decode cX11_remain 12 = .ok (.iload_n 1, 1) := by decide +kernel
theorem dX11_remain_13 : decode cX11_remain 13 = .ok (.aaload, 1) := by decide +kernel
theorem dX11_remain_14 : decode cX11_remain 14 = .ok (.getfield 130, 3) := by decide +kernel
theorem dX11_remain_17 : decode cX11_remain 17 = .ok (.iconst (-1), 1) := by decide +kernel
theorem dX11_remain_18 : decode cX11_remain 18 = .ok (.if_icmp .ne 13, 3) := by decide +kernel
theorem dX11_remain_21 : decode cX11_remain 21 = .ok (.iload_n 2, 1) := by decide +kernel
theorem dX11_remain_22 : decode cX11_remain 22 = .ok (.ifCond .lt 9, 3) := by decide +kernel
theorem dX11_remain_25 : decode cX11_remain 25 = .ok (.iload_n 2, 1) := by decide +kernel
theorem dX11_remain_26 : decode cX11_remain 26 = .ok (.bipush 10, 2) := by decide +kernel
theorem dX11_remain_28 : decode cX11_remain 28 = .ok (.if_icmp .lt 5, 3) := by decide +kernel
theorem dX11_remain_33 : decode cX11_remain 33 = .ok (.aload_n 0, 1) := by decide +kernel
theorem dX11_remain_34 : decode cX11_remain 34 = .ok (.getfield 22, 3) := by decide +kernel
theorem dX11_remain_37 : decode cX11_remain 37 = .ok (.iload_n 1, 1) := by decide +kernel
theorem dX11_remain_38 : decode cX11_remain 38 = .ok (.aaload, 1) := by decide +kernel
theorem dX11_remain_39 : decode cX11_remain 39 = .ok (.iload_n 2, 1) := by decide +kernel
theorem dX11_remain_40 : decode cX11_remain 40 = .ok (.putfield 130, 3) := by decide +kernel
theorem pk_LandSurvey_Sight_11 : pk RX8 TX8 19 11 tyX8 false := ⟨tyX8_ok, nmX8, rfl⟩
theorem dX11_remain_43 : decode cX11_remain 43 = .ok (.aload_n 0, 1) := by decide +kernel
theorem dX11_remain_44 : decode cX11_remain 44 = .ok (.getfield 22, 3) := by decide +kernel
theorem dX11_remain_47 : decode cX11_remain 47 = .ok (.iload_n 1, 1) := by decide +kernel
theorem dX11_remain_48 : decode cX11_remain 48 = .ok (.aaload, 1) := by decide +kernel
theorem dX11_remain_49 : decode cX11_remain 49 = .ok (.iload_n 3, 1) := by decide +kernel
theorem dX11_remain_50 : decode cX11_remain 50 = .ok (.putfield 133, 3) := by decide +kernel
theorem pk_LandSurvey_Sight_12 : pk RX8 TX8 19 12 tyX8 false := ⟨tyX8_ok, nmX8, rfl⟩
theorem dX11_remain_53 : decode cX11_remain 53 = .ok (.iconst 1, 1) := by decide +kernel
theorem dX11_remain_54 : decode cX11_remain 54 = .ok (.ireturn, 1) := by decide +kernel
abbrev cX11_withdraw : ByteArray := prog_1_method_10_code
def yX11_withdraw : MethodName := ⟨RX11, "withdraw", "(I)Z"⟩
theorem okX11_withdraw : yok yX11_withdraw 1 := by decide +kernel
theorem kw_571 : Cond.fieldLink "LandSurvey" 136 "LandSurvey$Sight" "withdrawn" "I" ∈ uu := uu_in (i := 571) (by decide +kernel) (by decide +kernel)
theorem fk_LandSurvey_136 : fkI "LandSurvey" 136 8 6 RX8 TX8 19 := ⟨rfl, rfl, inX8, by decide, kw_571, by decide⟩
theorem dX11_withdraw_0 : decode cX11_withdraw 0 = .ok (.aload_n 0, 1) := by decide +kernel
theorem dX11_withdraw_1 : decode cX11_withdraw 1 = .ok (.iload_n 1, 1) := by decide +kernel
theorem dX11_withdraw_2 : decode cX11_withdraw 2 = .ok (.invokevirtual 108, 3) := by decide +kernel
theorem dX11_withdraw_5 : decode cX11_withdraw 5 = .ok (.ifCond .eq 16, 3) := by decide +kernel
theorem dX11_withdraw_21 : decode cX11_withdraw 21 = .ok (.iconst 0, 1) := by decide +kernel
theorem dX11_withdraw_22 : decode cX11_withdraw 22 = .ok (.ireturn, 1) := by decide +kernel
theorem dX11_withdraw_8 : decode cX11_withdraw 8 = .ok (.aload_n 0, 1) := by decide +kernel
theorem dX11_withdraw_9 : decode cX11_withdraw 9 = .ok (.getfield 22, 3) := by decide +kernel
theorem dX11_withdraw_12 : decode cX11_withdraw 12 = .ok (.iload_n 1, 1) := by decide +kernel
theorem dX11_withdraw_13 : decode cX11_withdraw 13 = .ok (.aaload, 1) := by decide +kernel
theorem dX11_withdraw_14 : decode cX11_withdraw 14 = .ok (.getfield 136, 3) := by decide +kernel
theorem dX11_withdraw_17 : decode cX11_withdraw 17 = .ok (.iconst (-1), 1) := by decide +kernel
theorem dX11_withdraw_18 : decode cX11_withdraw 18 = .ok (.if_icmp .eq 5, 3) := by decide +kernel
theorem dX11_withdraw_23 : decode cX11_withdraw 23 = .ok (.aload_n 0, 1) := by decide +kernel
theorem dX11_withdraw_24 : decode cX11_withdraw 24 = .ok (.getfield 22, 3) := by decide +kernel
theorem dX11_withdraw_27 : decode cX11_withdraw 27 = .ok (.iload_n 1, 1) := by decide +kernel
theorem dX11_withdraw_28 : decode cX11_withdraw 28 = .ok (.aaload, 1) := by decide +kernel
theorem dX11_withdraw_29 : decode cX11_withdraw 29 = .ok (.aload_n 0, 1) := by decide +kernel
theorem dX11_withdraw_30 : decode cX11_withdraw 30 = .ok (.getfield 78, 3) := by decide +kernel
theorem dX11_withdraw_33 : decode cX11_withdraw 33 = .ok (.putfield 136, 3) := by decide +kernel
theorem pk_LandSurvey_Sight_6 : pk RX8 TX8 19 6 tyX8 false := ⟨tyX8_ok, nmX8, rfl⟩
theorem dX11_withdraw_36 : decode cX11_withdraw 36 = .ok (.aload_n 0, 1) := by decide +kernel
theorem dX11_withdraw_37 : decode cX11_withdraw 37 = .ok (.iconst 0, 1) := by decide +kernel
theorem dX11_withdraw_38 : decode cX11_withdraw 38 = .ok (.putfield 81, 3) := by decide +kernel
theorem dX11_withdraw_41 : decode cX11_withdraw 41 = .ok (.iconst 1, 1) := by decide +kernel
theorem dX11_withdraw_42 : decode cX11_withdraw 42 = .ok (.ireturn, 1) := by decide +kernel
abbrev cX11_cost : ByteArray := prog_1_method_16_code
def yX11_cost : MethodName := ⟨RX11, "cost", "(I)I"⟩
theorem okX11_cost : yok yX11_cost 1 := by decide +kernel
theorem dX11_cost_0 : decode cX11_cost 0 = .ok (.aload_n 0, 1) := by decide +kernel
theorem dX11_cost_1 : decode cX11_cost 1 = .ok (.iload_n 1, 1) := by decide +kernel
theorem dX11_cost_2 : decode cX11_cost 2 = .ok (.invokevirtual 197, 3) := by decide +kernel
theorem kw_955 : Cond.code yX11_groundOf prog_1_method_52_code 3 (some (.object "LandSurvey$Ground")) ∈ uu := uu_in (i := 955) (by decide +kernel) (by decide +kernel)
theorem kw_952 : Cond.methodLink "LandSurvey" 197 yX11_groundOf ∈ uu := uu_in (i := 952) (by decide +kernel) (by decide +kernel)
theorem kw_954 : Cond.instanceMethod yX11_groundOf ∈ uu := uu_in (i := 954) (by decide +kernel) (by decide +kernel)
theorem kw_21 : Cond.selects "LandSurvey" yX11_groundOf yX11_groundOf ∈ uu := uu_in (i := 21) (by decide +kernel) (by decide +kernel)
theorem lk_LandSurvey_197 : lkV "LandSurvey" 197 yX11_groundOf cX11_groundOf 3 (some (.object "LandSurvey$Ground")) 1 := ⟨kw_952, kw_954, kw_21, kw_144, kw_955, okX11_groundOf⟩
theorem dX11_cost_5 : decode cX11_cost 5 = .ok (.astore_n 2, 1) := by decide +kernel
theorem dX11_cost_6 : decode cX11_cost 6 = .ok (.aload_n 2, 1) := by decide +kernel
theorem dX11_cost_7 : decode cX11_cost 7 = .ok (.ifnonnull 7, 3) := by decide +kernel
theorem dX11_cost_14 : decode cX11_cost 14 = .ok (.aload_n 2, 1) := by decide +kernel
theorem dX11_cost_15 : decode cX11_cost 15 = .ok (.getfield 201, 3) := by decide +kernel
theorem dX11_cost_18 : decode cX11_cost 18 = .ok (.ireturn, 1) := by decide +kernel
theorem dX11_cost_10 : decode cX11_cost 10 = .ok (.iconst (-1), 1) := by decide +kernel
theorem dX11_cost_11 : decode cX11_cost 11 = .ok (.goto 7, 3) := by decide +kernel
abbrev cX11_doubted : ByteArray := prog_1_method_17_code
def yX11_doubted : MethodName := ⟨RX11, "doubted", "(II)I"⟩
theorem okX11_doubted : yok yX11_doubted 2 := by decide +kernel
theorem dX11_doubted_0 : decode cX11_doubted 0 = .ok (.aload_n 0, 1) := by decide +kernel
theorem dX11_doubted_1 : decode cX11_doubted 1 = .ok (.iload_n 1, 1) := by decide +kernel
theorem dX11_doubted_2 : decode cX11_doubted 2 = .ok (.invokevirtual 197, 3) := by decide +kernel
theorem dX11_doubted_5 : decode cX11_doubted 5 = .ok (.astore_n 3, 1) := by decide +kernel
theorem dX11_doubted_6 : decode cX11_doubted 6 = .ok (.aload_n 3, 1) := by decide +kernel
theorem dX11_doubted_7 : decode cX11_doubted 7 = .ok (.ifnull 7, 3) := by decide +kernel
theorem dX11_doubted_14 : decode cX11_doubted 14 = .ok (.iconst (-1), 1) := by decide +kernel
theorem dX11_doubted_15 : decode cX11_doubted 15 = .ok (.ireturn, 1) := by decide +kernel
theorem dX11_doubted_10 : decode cX11_doubted 10 = .ok (.iload_n 2, 1) := by decide +kernel
theorem dX11_doubted_11 : decode cX11_doubted 11 = .ok (.ifCond .ge 5, 3) := by decide +kernel
theorem dX11_doubted_16 : decode cX11_doubted 16 = .ok (.iload_n 2, 1) := by decide +kernel
theorem dX11_doubted_17 : decode cX11_doubted 17 = .ok (.istore 4, 2) := by decide +kernel
theorem dX11_doubted_19 : decode cX11_doubted 19 = .ok (.iconst 0, 1) := by decide +kernel
theorem dX11_doubted_20 : decode cX11_doubted 20 = .ok (.istore 5, 2) := by decide +kernel
theorem dX11_doubted_22 : decode cX11_doubted 22 = .ok (.iload 5, 2) := by decide +kernel
theorem dX11_doubted_24 : decode cX11_doubted 24 = .ok (.aload_n 0, 1) := by decide +kernel
theorem dX11_doubted_25 : decode cX11_doubted 25 = .ok (.getfield 102, 3) := by decide +kernel
theorem dX11_doubted_28 : decode cX11_doubted 28 = .ok (.if_icmp .ge 29, 3) := by decide +kernel
theorem dX11_doubted_57 : decode cX11_doubted 57 = .ok (.iconst (-1), 1) := by decide +kernel
theorem dX11_doubted_58 : decode cX11_doubted 58 = .ok (.ireturn, 1) := by decide +kernel
theorem dX11_doubted_31 : decode cX11_doubted 31 = .ok (.aload_n 3, 1) := by decide +kernel
theorem dX11_doubted_32 : decode cX11_doubted 32 = .ok (.iload 5, 2) := by decide +kernel
theorem dX11_doubted_34 : decode cX11_doubted 34 = .ok (.invokevirtual 204, 3) := by decide +kernel
theorem dX11_doubted_37 : decode cX11_doubted 37 = .ok (.ifCond .eq 14, 3) := by decide +kernel
theorem dX11_doubted_51 : decode cX11_doubted 51 = .ok (.iinc 5 1, 3) := by decide +kernel
theorem dX11_doubted_54 : decode cX11_doubted 54 = .ok (.goto (-32), 3) := by decide +kernel
theorem dX11_doubted_40 : decode cX11_doubted 40 = .ok (.iload 4, 2) := by decide +kernel
theorem dX11_doubted_42 : decode cX11_doubted 42 = .ok (.ifCond .ne 6, 3) := by decide +kernel
theorem dX11_doubted_48 : decode cX11_doubted 48 = .ok (.iinc 4 (-1), 3) := by decide +kernel
theorem dX11_doubted_45 : decode cX11_doubted 45 = .ok (.iload 5, 2) := by decide +kernel
theorem dX11_doubted_47 : decode cX11_doubted 47 = .ok (.ireturn, 1) := by decide +kernel
abbrev cX11_best : ByteArray := prog_1_method_18_code
def yX11_best : MethodName := ⟨RX11, "best", "(I)I"⟩
theorem okX11_best : yok yX11_best 1 := by decide +kernel
theorem dX11_best_0 : decode cX11_best 0 = .ok (.aload_n 0, 1) := by decide +kernel
theorem dX11_best_1 : decode cX11_best 1 = .ok (.invokevirtual 207, 3) := by decide +kernel
theorem dX11_best_4 : decode cX11_best 4 = .ok (.pop, 1) := by decide +kernel
theorem dX11_best_5 : decode cX11_best 5 = .ok (.iload_n 1, 1) := by decide +kernel
theorem dX11_best_6 : decode cX11_best 6 = .ok (.iconst 3, 1) := by decide +kernel
theorem dX11_best_7 : decode cX11_best 7 = .ok (.if_icmp .ne 8, 3) := by decide +kernel
theorem dX11_best_15 : decode cX11_best 15 = .ok (.aload_n 0, 1) := by decide +kernel
theorem dX11_best_16 : decode cX11_best 16 = .ok (.getfield 214, 3) := by decide +kernel
theorem dX11_best_19 : decode cX11_best 19 = .ok (.ifnonnull 5, 3) := by decide +kernel
theorem dX11_best_24 : decode cX11_best 24 = .ok (.iload_n 1, 1) := by decide +kernel
theorem dX11_best_25 : decode cX11_best 25 = .ok (.tableswitch 54 0 2 #[27, 35, 43], 27) := by decide +kernel
theorem dX11_best_52 : decode cX11_best 52 = .ok (.aload_n 0, 1) := by decide +kernel
theorem dX11_best_53 : decode cX11_best 53 = .ok (.getfield 214, 3) := by decide +kernel
theorem dX11_best_56 : decode cX11_best 56 = .ok (.getfield 218, 3) := by decide +kernel
theorem kw_1015 : Cond.fieldLink "LandSurvey" 218 "LandSurvey$Ground" "set" "I" ∈ uu := uu_in (i := 1015) (by decide +kernel) (by decide +kernel)
theorem fk_LandSurvey_218 : fkI "LandSurvey" 218 1 0 RX1 TX1 9 := ⟨rfl, rfl, inX1, by decide, kw_1015, by decide⟩
theorem dX11_best_59 : decode cX11_best 59 = .ok (.ireturn, 1) := by decide +kernel
theorem dX11_best_60 : decode cX11_best 60 = .ok (.aload_n 0, 1) := by decide +kernel
theorem dX11_best_61 : decode cX11_best 61 = .ok (.getfield 214, 3) := by decide +kernel
theorem dX11_best_64 : decode cX11_best 64 = .ok (.getfield 201, 3) := by decide +kernel
theorem dX11_best_67 : decode cX11_best 67 = .ok (.ireturn, 1) := by decide +kernel
theorem dX11_best_68 : decode cX11_best 68 = .ok (.aload_n 0, 1) := by decide +kernel
theorem dX11_best_69 : decode cX11_best 69 = .ok (.getfield 214, 3) := by decide +kernel
theorem dX11_best_72 : decode cX11_best 72 = .ok (.getfield 221, 3) := by decide +kernel
theorem kw_1024 : Cond.fieldLink "LandSurvey" 221 "LandSurvey$Ground" "doubted" "J" ∈ uu := uu_in (i := 1024) (by decide +kernel) (by decide +kernel)
theorem fk_LandSurvey_221 : fkJ "LandSurvey" 221 1 4 RX1 TX1 9 := ⟨rfl, rfl, inX1, by decide, kw_1024, by decide⟩
theorem dX11_best_75 : decode cX11_best 75 = .ok (.invokestatic 225, 3) := by decide +kernel
theorem kw_1155 : Cond.code yJ13_bitCount_95d88 prog_20_method_50_code 2 (some .int) ∈ uu := uu_in (i := 1155) (by decide +kernel) (by decide +kernel)
theorem kw_169 : Cond.initialized "java/lang/Long" ∈ uu := uu_in (i := 169) (by decide +kernel) (by decide +kernel)
theorem kw_1153 : Cond.methodLink "LandSurvey" 225 yJ13_bitCount_95d88 ∈ uu := uu_in (i := 1153) (by decide +kernel) (by decide +kernel)
theorem kw_1154 : Cond.static yJ13_bitCount_95d88 ∈ uu := uu_in (i := 1154) (by decide +kernel) (by decide +kernel)
theorem lk_LandSurvey_225 : lkS "LandSurvey" 225 yJ13_bitCount_95d88 cJ13_bitCount_95d88 2 (some .int) 1 := ⟨kw_1153, kw_1154, kw_169, kw_1155, okJ13_bitCount_95d88⟩
theorem dX11_best_78 : decode cX11_best 78 = .ok (.ireturn, 1) := by decide +kernel
theorem dX11_best_79 : decode cX11_best 79 = .ok (.iconst (-1), 1) := by decide +kernel
theorem dX11_best_80 : decode cX11_best 80 = .ok (.ireturn, 1) := by decide +kernel
theorem dX11_best_22 : decode cX11_best 22 = .ok (.iconst (-1), 1) := by decide +kernel
theorem dX11_best_23 : decode cX11_best 23 = .ok (.ireturn, 1) := by decide +kernel
theorem dX11_best_10 : decode cX11_best 10 = .ok (.aload_n 0, 1) := by decide +kernel
theorem dX11_best_11 : decode cX11_best 11 = .ok (.invokevirtual 211, 3) := by decide +kernel
theorem kw_1148 : Cond.code yX11_countKept prog_1_method_55_code 3 (some .int) ∈ uu := uu_in (i := 1148) (by decide +kernel) (by decide +kernel)
theorem kw_1145 : Cond.methodLink "LandSurvey" 211 yX11_countKept ∈ uu := uu_in (i := 1145) (by decide +kernel) (by decide +kernel)
theorem kw_1147 : Cond.instanceMethod yX11_countKept ∈ uu := uu_in (i := 1147) (by decide +kernel) (by decide +kernel)
theorem kw_37 : Cond.selects "LandSurvey" yX11_countKept yX11_countKept ∈ uu := uu_in (i := 37) (by decide +kernel) (by decide +kernel)
theorem lk_LandSurvey_211 : lkV "LandSurvey" 211 yX11_countKept cX11_countKept 3 (some .int) 0 := ⟨kw_1145, kw_1147, kw_37, kw_144, kw_1148, okX11_countKept⟩
theorem dX11_best_14 : decode cX11_best 14 = .ok (.ireturn, 1) := by decide +kernel
abbrev cX11_kept : ByteArray := prog_1_method_19_code
def yX11_kept : MethodName := ⟨RX11, "kept", "(I)I"⟩
theorem okX11_kept : yok yX11_kept 1 := by decide +kernel
theorem dX11_kept_0 : decode cX11_kept 0 = .ok (.aload_n 0, 1) := by decide +kernel
theorem dX11_kept_1 : decode cX11_kept 1 = .ok (.iload_n 1, 1) := by decide +kernel
theorem dX11_kept_2 : decode cX11_kept 2 = .ok (.invokevirtual 231, 3) := by decide +kernel
theorem dX11_kept_5 : decode cX11_kept 5 = .ok (.ifCond .ne 5, 3) := by decide +kernel
theorem dX11_kept_10 : decode cX11_kept 10 = .ok (.aload_n 0, 1) := by decide +kernel
theorem dX11_kept_11 : decode cX11_kept 11 = .ok (.invokevirtual 207, 3) := by decide +kernel
theorem dX11_kept_14 : decode cX11_kept 14 = .ok (.pop, 1) := by decide +kernel
theorem dX11_kept_15 : decode cX11_kept 15 = .ok (.aload_n 0, 1) := by decide +kernel
theorem dX11_kept_16 : decode cX11_kept 16 = .ok (.iload_n 1, 1) := by decide +kernel
theorem dX11_kept_17 : decode cX11_kept 17 = .ok (.invokevirtual 234, 3) := by decide +kernel
theorem dX11_kept_20 : decode cX11_kept 20 = .ok (.ifCond .eq 7, 3) := by decide +kernel
theorem dX11_kept_27 : decode cX11_kept 27 = .ok (.iconst 0, 1) := by decide +kernel
theorem dX11_kept_28 : decode cX11_kept 28 = .ok (.ireturn, 1) := by decide +kernel
theorem dX11_kept_23 : decode cX11_kept 23 = .ok (.iconst 1, 1) := by decide +kernel
theorem dX11_kept_24 : decode cX11_kept 24 = .ok (.goto 4, 3) := by decide +kernel
theorem dX11_kept_8 : decode cX11_kept 8 = .ok (.iconst (-1), 1) := by decide +kernel
theorem dX11_kept_9 : decode cX11_kept 9 = .ok (.ireturn, 1) := by decide +kernel
abbrev cX11_lies : ByteArray := prog_1_method_21_code
def yX11_lies : MethodName := ⟨RX11, "lies", "(III)I"⟩
theorem okX11_lies : yok yX11_lies 3 := by decide +kernel
theorem dX11_lies_0 : decode cX11_lies 0 = .ok (.iload_n 1, 1) := by decide +kernel
theorem dX11_lies_1 : decode cX11_lies 1 = .ok (.iload_n 2, 1) := by decide +kernel
theorem dX11_lies_2 : decode cX11_lies 2 = .ok (.invokestatic 85, 3) := by decide +kernel
theorem dX11_lies_5 : decode cX11_lies 5 = .ok (.istore 4, 2) := by decide +kernel
theorem dX11_lies_7 : decode cX11_lies 7 = .ok (.iload 4, 2) := by decide +kernel
theorem dX11_lies_9 : decode cX11_lies 9 = .ok (.iconst (-1), 1) := by decide +kernel
theorem dX11_lies_10 : decode cX11_lies 10 = .ok (.if_icmp .eq 21, 3) := by decide +kernel
theorem dX11_lies_31 : decode cX11_lies 31 = .ok (.iconst (-1), 1) := by decide +kernel
theorem dX11_lies_32 : decode cX11_lies 32 = .ok (.ireturn, 1) := by decide +kernel
theorem dX11_lies_13 : decode cX11_lies 13 = .ok (.iload_n 3, 1) := by decide +kernel
theorem dX11_lies_14 : decode cX11_lies 14 = .ok (.ifCond .lt 17, 3) := by decide +kernel
theorem dX11_lies_17 : decode cX11_lies 17 = .ok (.iload_n 3, 1) := by decide +kernel
theorem dX11_lies_18 : decode cX11_lies 18 = .ok (.sipush 2000, 3) := by decide +kernel
theorem dX11_lies_21 : decode cX11_lies 21 = .ok (.if_icmp .gt 10, 3) := by decide +kernel
theorem dX11_lies_24 : decode cX11_lies 24 = .ok (.aload_n 0, 1) := by decide +kernel
theorem dX11_lies_25 : decode cX11_lies 25 = .ok (.invokevirtual 253, 3) := by decide +kernel
theorem kw_1170 : Cond.code yX11_prepare prog_1_method_56_code 2 (some .boolean) ∈ uu := uu_in (i := 1170) (by decide +kernel) (by decide +kernel)
theorem kw_1167 : Cond.methodLink "LandSurvey" 253 yX11_prepare ∈ uu := uu_in (i := 1167) (by decide +kernel) (by decide +kernel)
theorem kw_1169 : Cond.instanceMethod yX11_prepare ∈ uu := uu_in (i := 1169) (by decide +kernel) (by decide +kernel)
theorem kw_39 : Cond.selects "LandSurvey" yX11_prepare yX11_prepare ∈ uu := uu_in (i := 39) (by decide +kernel) (by decide +kernel)
theorem lk_LandSurvey_253 : lkV "LandSurvey" 253 yX11_prepare cX11_prepare 2 (some .boolean) 0 := ⟨kw_1167, kw_1169, kw_39, kw_144, kw_1170, okX11_prepare⟩
theorem dX11_lies_28 : decode cX11_lies 28 = .ok (.ifCond .ne 5, 3) := by decide +kernel
theorem dX11_lies_33 : decode cX11_lies 33 = .ok (.aload_n 0, 1) := by decide +kernel
theorem dX11_lies_34 : decode cX11_lies 34 = .ok (.iload 4, 2) := by decide +kernel
theorem dX11_lies_36 : decode cX11_lies 36 = .ok (.iload_n 3, 1) := by decide +kernel
theorem dX11_lies_37 : decode cX11_lies 37 = .ok (.invokevirtual 256, 3) := by decide +kernel
theorem dX11_lies_40 : decode cX11_lies 40 = .ok (.ireturn, 1) := by decide +kernel
abbrev cX11_line : ByteArray := prog_1_method_22_code
def yX11_line : MethodName := ⟨RX11, "line", "(III)I"⟩
theorem okX11_line : yok yX11_line 3 := by decide +kernel
theorem dX11_line_0 : decode cX11_line 0 = .ok (.iload_n 1, 1) := by decide +kernel
theorem dX11_line_1 : decode cX11_line 1 = .ok (.iload_n 2, 1) := by decide +kernel
theorem dX11_line_2 : decode cX11_line 2 = .ok (.invokestatic 85, 3) := by decide +kernel
theorem dX11_line_5 : decode cX11_line 5 = .ok (.istore 4, 2) := by decide +kernel
theorem dX11_line_7 : decode cX11_line 7 = .ok (.iload 4, 2) := by decide +kernel
theorem dX11_line_9 : decode cX11_line 9 = .ok (.iconst (-1), 1) := by decide +kernel
theorem dX11_line_10 : decode cX11_line 10 = .ok (.if_icmp .eq 12, 3) := by decide +kernel
theorem dX11_line_22 : decode cX11_line 22 = .ok (.iconst (-1), 1) := by decide +kernel
theorem dX11_line_23 : decode cX11_line 23 = .ok (.ireturn, 1) := by decide +kernel
theorem dX11_line_13 : decode cX11_line 13 = .ok (.iload_n 3, 1) := by decide +kernel
theorem dX11_line_14 : decode cX11_line 14 = .ok (.ifCond .lt 8, 3) := by decide +kernel
theorem dX11_line_17 : decode cX11_line 17 = .ok (.iload_n 3, 1) := by decide +kernel
theorem dX11_line_18 : decode cX11_line 18 = .ok (.iconst 4, 1) := by decide +kernel
theorem dX11_line_19 : decode cX11_line 19 = .ok (.if_icmp .lt 5, 3) := by decide +kernel
theorem dX11_line_24 : decode cX11_line 24 = .ok (.iload 4, 2) := by decide +kernel
theorem dX11_line_26 : decode cX11_line 26 = .ok (.iload_n 3, 1) := by decide +kernel
theorem dX11_line_27 : decode cX11_line 27 = .ok (.invokestatic 118, 3) := by decide +kernel
theorem kw_646 : Cond.code yX11_neighbour prog_1_method_39_code 2 (some .int) ∈ uu := uu_in (i := 646) (by decide +kernel) (by decide +kernel)
theorem kw_644 : Cond.methodLink "LandSurvey" 118 yX11_neighbour ∈ uu := uu_in (i := 644) (by decide +kernel) (by decide +kernel)
theorem kw_645 : Cond.static yX11_neighbour ∈ uu := uu_in (i := 645) (by decide +kernel) (by decide +kernel)
theorem lk_LandSurvey_118 : lkS "LandSurvey" 118 yX11_neighbour cX11_neighbour 2 (some .int) 2 := ⟨kw_644, kw_645, kw_144, kw_646, okX11_neighbour⟩
theorem dX11_line_30 : decode cX11_line 30 = .ok (.istore 5, 2) := by decide +kernel
theorem dX11_line_32 : decode cX11_line 32 = .ok (.iload 5, 2) := by decide +kernel
theorem dX11_line_34 : decode cX11_line 34 = .ok (.iconst (-1), 1) := by decide +kernel
theorem dX11_line_35 : decode cX11_line 35 = .ok (.if_icmp .eq 10, 3) := by decide +kernel
theorem dX11_line_45 : decode cX11_line 45 = .ok (.iconst (-1), 1) := by decide +kernel
theorem dX11_line_46 : decode cX11_line 46 = .ok (.ireturn, 1) := by decide +kernel
theorem dX11_line_38 : decode cX11_line 38 = .ok (.aload_n 0, 1) := by decide +kernel
theorem dX11_line_39 : decode cX11_line 39 = .ok (.invokevirtual 253, 3) := by decide +kernel
theorem dX11_line_42 : decode cX11_line 42 = .ok (.ifCond .ne 5, 3) := by decide +kernel
theorem dX11_line_47 : decode cX11_line 47 = .ok (.aload_n 0, 1) := by decide +kernel
theorem dX11_line_48 : decode cX11_line 48 = .ok (.iload 4, 2) := by decide +kernel
theorem dX11_line_50 : decode cX11_line 50 = .ok (.iload 5, 2) := by decide +kernel
theorem dX11_line_52 : decode cX11_line 52 = .ok (.invokevirtual 259, 3) := by decide +kernel
theorem kw_1195 : Cond.code yX11_gatherLineFacts prog_1_method_62_code 11 none ∈ uu := uu_in (i := 1195) (by decide +kernel) (by decide +kernel)
theorem kw_1192 : Cond.methodLink "LandSurvey" 259 yX11_gatherLineFacts ∈ uu := uu_in (i := 1192) (by decide +kernel) (by decide +kernel)
theorem kw_1194 : Cond.instanceMethod yX11_gatherLineFacts ∈ uu := uu_in (i := 1194) (by decide +kernel) (by decide +kernel)
theorem kw_42 : Cond.selects "LandSurvey" yX11_gatherLineFacts yX11_gatherLineFacts ∈ uu := uu_in (i := 42) (by decide +kernel) (by decide +kernel)
theorem lk_LandSurvey_259 : lkV "LandSurvey" 259 yX11_gatherLineFacts cX11_gatherLineFacts 11 none 2 := ⟨kw_1192, kw_1194, kw_42, kw_144, kw_1195, okX11_gatherLineFacts⟩
theorem dX11_line_55 : decode cX11_line 55 = .ok (.aload_n 0, 1) := by decide +kernel
theorem dX11_line_56 : decode cX11_line 56 = .ok (.getfield 44, 3) := by decide +kernel
theorem dX11_line_59 : decode cX11_line 59 = .ok (.iconst 2, 1) := by decide +kernel
theorem dX11_line_60 : decode cX11_line 60 = .ok (.aload_n 0, 1) := by decide +kernel
theorem dX11_line_61 : decode cX11_line 61 = .ok (.getfield 74, 3) := by decide +kernel
theorem dX11_line_64 : decode cX11_line 64 = .ok (.invokevirtual 263, 3) := by decide +kernel
theorem dX11_line_67 : decode cX11_line 67 = .ok (.istore 6, 2) := by decide +kernel
theorem dX11_line_69 : decode cX11_line 69 = .ok (.iload 6, 2) := by decide +kernel
theorem dX11_line_71 : decode cX11_line 71 = .ok (.iconst (-1), 1) := by decide +kernel
theorem dX11_line_72 : decode cX11_line 72 = .ok (.if_icmp .eq 14, 3) := by decide +kernel
theorem dX11_line_86 : decode cX11_line 86 = .ok (.aload_n 0, 1) := by decide +kernel
theorem dX11_line_87 : decode cX11_line 87 = .ok (.getfield 74, 3) := by decide +kernel
theorem dX11_line_90 : decode cX11_line 90 = .ok (.bipush 8, 2) := by decide +kernel
theorem dX11_line_92 : decode cX11_line 92 = .ok (.iaload, 1) := by decide +kernel
theorem dX11_line_93 : decode cX11_line 93 = .ok (.sipush 1000, 3) := by decide +kernel
theorem dX11_line_96 : decode cX11_line 96 = .ok (.if_icmp .ne 5, 3) := by decide +kernel
theorem dX11_line_101 : decode cX11_line 101 = .ok (.aload_n 0, 1) := by decide +kernel
theorem dX11_line_102 : decode cX11_line 102 = .ok (.getfield 74, 3) := by decide +kernel
theorem dX11_line_105 : decode cX11_line 105 = .ok (.bipush 9, 2) := by decide +kernel
theorem dX11_line_107 : decode cX11_line 107 = .ok (.iaload, 1) := by decide +kernel
theorem dX11_line_108 : decode cX11_line 108 = .ok (.sipush 1000, 3) := by decide +kernel
theorem dX11_line_111 : decode cX11_line 111 = .ok (.if_icmp .ne 5, 3) := by decide +kernel
theorem dX11_line_116 : decode cX11_line 116 = .ok (.aload_n 0, 1) := by decide +kernel
theorem dX11_line_117 : decode cX11_line 117 = .ok (.getfield 74, 3) := by decide +kernel
theorem dX11_line_120 : decode cX11_line 120 = .ok (.bipush 10, 2) := by decide +kernel
theorem dX11_line_122 : decode cX11_line 122 = .ok (.iaload, 1) := by decide +kernel
theorem dX11_line_123 : decode cX11_line 123 = .ok (.sipush 1000, 3) := by decide +kernel
theorem dX11_line_126 : decode cX11_line 126 = .ok (.if_icmp .ne 7, 3) := by decide +kernel
theorem dX11_line_133 : decode cX11_line 133 = .ok (.iconst 1, 1) := by decide +kernel
theorem dX11_line_134 : decode cX11_line 134 = .ok (.ireturn, 1) := by decide +kernel
theorem dX11_line_129 : decode cX11_line 129 = .ok (.iconst 0, 1) := by decide +kernel
theorem dX11_line_130 : decode cX11_line 130 = .ok (.goto 4, 3) := by decide +kernel
theorem dX11_line_114 : decode cX11_line 114 = .ok (.iconst 2, 1) := by decide +kernel
theorem dX11_line_115 : decode cX11_line 115 = .ok (.ireturn, 1) := by decide +kernel
theorem dX11_line_99 : decode cX11_line 99 = .ok (.iconst 3, 1) := by decide +kernel
theorem dX11_line_100 : decode cX11_line 100 = .ok (.ireturn, 1) := by decide +kernel
theorem dX11_line_75 : decode cX11_line 75 = .ok (.aload_n 0, 1) := by decide +kernel
theorem dX11_line_76 : decode cX11_line 76 = .ok (.getfield 44, 3) := by decide +kernel
theorem dX11_line_79 : decode cX11_line 79 = .ok (.getfield 269, 3) := by decide +kernel
theorem dX11_line_82 : decode cX11_line 82 = .ok (.iload 6, 2) := by decide +kernel
theorem dX11_line_84 : decode cX11_line 84 = .ok (.iaload, 1) := by decide +kernel
theorem dX11_line_85 : decode cX11_line 85 = .ok (.ireturn, 1) := by decide +kernel
abbrev cX11_water : ByteArray := prog_1_method_24_code
def yX11_water : MethodName := ⟨RX11, "water", "(III)I"⟩
theorem okX11_water : yok yX11_water 3 := by decide +kernel
theorem dX11_water_0 : decode cX11_water 0 = .ok (.iload_n 1, 1) := by decide +kernel
theorem dX11_water_1 : decode cX11_water 1 = .ok (.iload_n 2, 1) := by decide +kernel
theorem dX11_water_2 : decode cX11_water 2 = .ok (.invokestatic 85, 3) := by decide +kernel
theorem dX11_water_5 : decode cX11_water 5 = .ok (.istore 4, 2) := by decide +kernel
theorem dX11_water_7 : decode cX11_water 7 = .ok (.iload 4, 2) := by decide +kernel
theorem dX11_water_9 : decode cX11_water 9 = .ok (.iconst (-1), 1) := by decide +kernel
theorem dX11_water_10 : decode cX11_water 10 = .ok (.if_icmp .eq 26, 3) := by decide +kernel
theorem dX11_water_36 : decode cX11_water 36 = .ok (.iconst (-1), 1) := by decide +kernel
theorem dX11_water_37 : decode cX11_water 37 = .ok (.ireturn, 1) := by decide +kernel
theorem dX11_water_13 : decode cX11_water 13 = .ok (.iload_n 3, 1) := by decide +kernel
theorem dX11_water_14 : decode cX11_water 14 = .ok (.ifCond .lt 22, 3) := by decide +kernel
theorem dX11_water_17 : decode cX11_water 17 = .ok (.iload_n 3, 1) := by decide +kernel
theorem dX11_water_18 : decode cX11_water 18 = .ok (.iconst 1, 1) := by decide +kernel
theorem dX11_water_19 : decode cX11_water 19 = .ok (.if_icmp .gt 17, 3) := by decide +kernel
theorem dX11_water_22 : decode cX11_water 22 = .ok (.aload_n 0, 1) := by decide +kernel
theorem dX11_water_23 : decode cX11_water 23 = .ok (.invokevirtual 253, 3) := by decide +kernel
theorem dX11_water_26 : decode cX11_water 26 = .ok (.ifCond .eq 10, 3) := by decide +kernel
theorem dX11_water_29 : decode cX11_water 29 = .ok (.aload_n 0, 1) := by decide +kernel
theorem dX11_water_30 : decode cX11_water 30 = .ok (.invokevirtual 275, 3) := by decide +kernel
theorem kw_1209 : Cond.code yX11_allKeptKnown prog_1_method_57_code 2 (some .boolean) ∈ uu := uu_in (i := 1209) (by decide +kernel) (by decide +kernel)
theorem kw_1206 : Cond.methodLink "LandSurvey" 275 yX11_allKeptKnown ∈ uu := uu_in (i := 1206) (by decide +kernel) (by decide +kernel)
theorem kw_1208 : Cond.instanceMethod yX11_allKeptKnown ∈ uu := uu_in (i := 1208) (by decide +kernel) (by decide +kernel)
theorem kw_43 : Cond.selects "LandSurvey" yX11_allKeptKnown yX11_allKeptKnown ∈ uu := uu_in (i := 43) (by decide +kernel) (by decide +kernel)
theorem lk_LandSurvey_275 : lkV "LandSurvey" 275 yX11_allKeptKnown cX11_allKeptKnown 2 (some .boolean) 0 := ⟨kw_1206, kw_1208, kw_43, kw_144, kw_1209, okX11_allKeptKnown⟩
theorem dX11_water_33 : decode cX11_water 33 = .ok (.ifCond .ne 5, 3) := by decide +kernel
theorem dX11_water_38 : decode cX11_water 38 = .ok (.aload_n 0, 1) := by decide +kernel
theorem dX11_water_39 : decode cX11_water 39 = .ok (.getfield 16, 3) := by decide +kernel
theorem dX11_water_42 : decode cX11_water 42 = .ok (.getfield 96, 3) := by decide +kernel
theorem dX11_water_45 : decode cX11_water 45 = .ok (.iload 4, 2) := by decide +kernel
theorem dX11_water_47 : decode cX11_water 47 = .ok (.baload, 1) := by decide +kernel
theorem dX11_water_48 : decode cX11_water 48 = .ok (.ifCond .eq 7, 3) := by decide +kernel
theorem dX11_water_55 : decode cX11_water 55 = .ok (.iconst 1, 1) := by decide +kernel
theorem dX11_water_56 : decode cX11_water 56 = .ok (.istore 5, 2) := by decide +kernel
theorem dX11_water_58 : decode cX11_water 58 = .ok (.aload_n 0, 1) := by decide +kernel
theorem dX11_water_59 : decode cX11_water 59 = .ok (.getfield 16, 3) := by decide +kernel
theorem dX11_water_62 : decode cX11_water 62 = .ok (.getfield 96, 3) := by decide +kernel
theorem dX11_water_65 : decode cX11_water 65 = .ok (.iload 4, 2) := by decide +kernel
theorem dX11_water_67 : decode cX11_water 67 = .ok (.baload, 1) := by decide +kernel
theorem dX11_water_68 : decode cX11_water 68 = .ok (.ifCond .eq 15, 3) := by decide +kernel
theorem dX11_water_83 : decode cX11_water 83 = .ok (.iconst 0, 1) := by decide +kernel
theorem dX11_water_84 : decode cX11_water 84 = .ok (.istore 6, 2) := by decide +kernel
theorem dX11_water_86 : decode cX11_water 86 = .ok (.iconst 1, 1) := by decide +kernel
theorem dX11_water_87 : decode cX11_water 87 = .ok (.istore 7, 2) := by decide +kernel
theorem dX11_water_89 : decode cX11_water 89 = .ok (.iload 7, 2) := by decide +kernel
theorem dX11_water_91 : decode cX11_water 91 = .ok (.aload_n 0, 1) := by decide +kernel
theorem dX11_water_92 : decode cX11_water 92 = .ok (.getfield 44, 3) := by decide +kernel
theorem dX11_water_95 : decode cX11_water 95 = .ok (.getfield 284, 3) := by decide +kernel
theorem dX11_water_98 : decode cX11_water 98 = .ok (.if_icmp .ge 78, 3) := by decide +kernel
theorem dX11_water_176 : decode cX11_water 176 = .ok (.iconst (-1), 1) := by decide +kernel
theorem dX11_water_177 : decode cX11_water 177 = .ok (.ireturn, 1) := by decide +kernel
theorem dX11_water_101 : decode cX11_water 101 = .ok (.aload_n 0, 1) := by decide +kernel
theorem dX11_water_102 : decode cX11_water 102 = .ok (.getfield 44, 3) := by decide +kernel
theorem dX11_water_105 : decode cX11_water 105 = .ok (.iload 6, 2) := by decide +kernel
theorem dX11_water_107 : decode cX11_water 107 = .ok (.invokevirtual 287, 3) := by decide +kernel
theorem kw_1213 : Cond.code yX5_holdsWater prog_7_method_3_code 2 (some .boolean) ∈ uu := uu_in (i := 1213) (by decide +kernel) (by decide +kernel)
theorem kw_1210 : Cond.methodLink "LandSurvey" 287 yX5_holdsWater ∈ uu := uu_in (i := 1210) (by decide +kernel) (by decide +kernel)
theorem kw_1211 : Cond.instanceMethod yX5_holdsWater ∈ uu := uu_in (i := 1211) (by decide +kernel) (by decide +kernel)
theorem kw_1212 : Cond.selects "LandSurvey$Rules" yX5_holdsWater yX5_holdsWater ∈ uu := uu_in (i := 1212) (by decide +kernel) (by decide +kernel)
theorem lk_LandSurvey_287 : lkV "LandSurvey" 287 yX5_holdsWater cX5_holdsWater 2 (some .boolean) 1 := ⟨kw_1210, kw_1211, kw_1212, kw_149, kw_1213, okX5_holdsWater⟩
theorem dX11_water_110 : decode cX11_water 110 = .ok (.ifCond .eq 53, 3) := by decide +kernel
theorem dX11_water_163 : decode cX11_water 163 = .ok (.iload 6, 2) := by decide +kernel
theorem dX11_water_165 : decode cX11_water 165 = .ok (.iload 5, 2) := by decide +kernel
theorem dX11_water_167 : decode cX11_water 167 = .ok (.iadd, 1) := by decide +kernel
theorem dX11_water_168 : decode cX11_water 168 = .ok (.istore 6, 2) := by decide +kernel
theorem dX11_water_170 : decode cX11_water 170 = .ok (.iinc 7 1, 3) := by decide +kernel
theorem dX11_water_173 : decode cX11_water 173 = .ok (.goto (-84), 3) := by decide +kernel
theorem dX11_water_113 : decode cX11_water 113 = .ok (.aload_n 0, 1) := by decide +kernel
theorem dX11_water_114 : decode cX11_water 114 = .ok (.getfield 44, 3) := by decide +kernel
theorem dX11_water_117 : decode cX11_water 117 = .ok (.iload 6, 2) := by decide +kernel
theorem dX11_water_119 : decode cX11_water 119 = .ok (.iload 5, 2) := by decide +kernel
theorem dX11_water_121 : decode cX11_water 121 = .ok (.iadd, 1) := by decide +kernel
theorem dX11_water_122 : decode cX11_water 122 = .ok (.invokevirtual 290, 3) := by decide +kernel
theorem kw_1217 : Cond.code yX5_isTight prog_7_method_4_code 2 (some .boolean) ∈ uu := uu_in (i := 1217) (by decide +kernel) (by decide +kernel)
theorem kw_1214 : Cond.methodLink "LandSurvey" 290 yX5_isTight ∈ uu := uu_in (i := 1214) (by decide +kernel) (by decide +kernel)
theorem kw_1215 : Cond.instanceMethod yX5_isTight ∈ uu := uu_in (i := 1215) (by decide +kernel) (by decide +kernel)
theorem kw_1216 : Cond.selects "LandSurvey$Rules" yX5_isTight yX5_isTight ∈ uu := uu_in (i := 1216) (by decide +kernel) (by decide +kernel)
theorem lk_LandSurvey_290 : lkV "LandSurvey" 290 yX5_isTight cX5_isTight 2 (some .boolean) 1 := ⟨kw_1214, kw_1215, kw_1216, kw_149, kw_1217, okX5_isTight⟩
theorem dX11_water_125 : decode cX11_water 125 = .ok (.ifCond .eq 38, 3) := by decide +kernel
theorem dX11_water_128 : decode cX11_water 128 = .ok (.aload_n 0, 1) := by decide +kernel
theorem dX11_water_129 : decode cX11_water 129 = .ok (.iload 4, 2) := by decide +kernel
theorem dX11_water_131 : decode cX11_water 131 = .ok (.iload 6, 2) := by decide +kernel
theorem dX11_water_133 : decode cX11_water 133 = .ok (.invokevirtual 293, 3) := by decide +kernel
theorem dX11_water_136 : decode cX11_water 136 = .ok (.ifCond .lt 27, 3) := by decide +kernel
theorem dX11_water_139 : decode cX11_water 139 = .ok (.iload_n 3, 1) := by decide +kernel
theorem dX11_water_140 : decode cX11_water 140 = .ok (.ifCond .ne 14, 3) := by decide +kernel
theorem dX11_water_154 : decode cX11_water 154 = .ok (.aload_n 0, 1) := by decide +kernel
theorem dX11_water_155 : decode cX11_water 155 = .ok (.iload 4, 2) := by decide +kernel
theorem dX11_water_157 : decode cX11_water 157 = .ok (.iload 6, 2) := by decide +kernel
theorem dX11_water_159 : decode cX11_water 159 = .ok (.invokevirtual 296, 3) := by decide +kernel
theorem dX11_water_162 : decode cX11_water 162 = .ok (.ireturn, 1) := by decide +kernel
theorem dX11_water_143 : decode cX11_water 143 = .ok (.aload_n 0, 1) := by decide +kernel
theorem dX11_water_144 : decode cX11_water 144 = .ok (.iload 4, 2) := by decide +kernel
theorem dX11_water_146 : decode cX11_water 146 = .ok (.iload 6, 2) := by decide +kernel
theorem dX11_water_148 : decode cX11_water 148 = .ok (.invokevirtual 293, 3) := by decide +kernel
theorem dX11_water_151 : decode cX11_water 151 = .ok (.goto 11, 3) := by decide +kernel
theorem dX11_water_51 : decode cX11_water 51 = .ok (.iconst (-1), 1) := by decide +kernel
theorem dX11_water_52 : decode cX11_water 52 = .ok (.goto 4, 3) := by decide +kernel
theorem dX11_water_71 : decode cX11_water 71 = .ok (.aload_n 0, 1) := by decide +kernel
theorem dX11_water_72 : decode cX11_water 72 = .ok (.getfield 44, 3) := by decide +kernel
theorem dX11_water_75 : decode cX11_water 75 = .ok (.getfield 284, 3) := by decide +kernel
theorem dX11_water_78 : decode cX11_water 78 = .ok (.iconst 1, 1) := by decide +kernel
theorem dX11_water_79 : decode cX11_water 79 = .ok (.isub, 1) := by decide +kernel
theorem dX11_water_80 : decode cX11_water 80 = .ok (.goto 4, 3) := by decide +kernel
abbrev cX11_seam : ByteArray := prog_1_method_25_code
def yX11_seam : MethodName := ⟨RX11, "seam", "(III)I"⟩
theorem okX11_seam : yok yX11_seam 3 := by decide +kernel
theorem dX11_seam_0 : decode cX11_seam 0 = .ok (.iload_n 2, 1) := by decide +kernel
theorem dX11_seam_1 : decode cX11_seam 1 = .ok (.ifCond .lt 17, 3) := by decide +kernel
theorem dX11_seam_18 : decode cX11_seam 18 = .ok (.iconst (-1), 1) := by decide +kernel
theorem dX11_seam_19 : decode cX11_seam 19 = .ok (.ireturn, 1) := by decide +kernel
theorem dX11_seam_4 : decode cX11_seam 4 = .ok (.iload_n 2, 1) := by decide +kernel
theorem dX11_seam_5 : decode cX11_seam 5 = .ok (.iconst 4, 1) := by decide +kernel
theorem dX11_seam_6 : decode cX11_seam 6 = .ok (.if_icmp .ge 12, 3) := by decide +kernel
theorem dX11_seam_9 : decode cX11_seam 9 = .ok (.iload_n 3, 1) := by decide +kernel
theorem dX11_seam_10 : decode cX11_seam 10 = .ok (.ifCond .lt 8, 3) := by decide +kernel
theorem dX11_seam_13 : decode cX11_seam 13 = .ok (.iload_n 3, 1) := by decide +kernel
theorem dX11_seam_14 : decode cX11_seam 14 = .ok (.iconst 1, 1) := by decide +kernel
theorem dX11_seam_15 : decode cX11_seam 15 = .ok (.if_icmp .le 5, 3) := by decide +kernel
theorem dX11_seam_20 : decode cX11_seam 20 = .ok (.aload_n 0, 1) := by decide +kernel
theorem dX11_seam_21 : decode cX11_seam 21 = .ok (.invokevirtual 253, 3) := by decide +kernel
theorem dX11_seam_24 : decode cX11_seam 24 = .ok (.ifCond .eq 18, 3) := by decide +kernel
theorem dX11_seam_42 : decode cX11_seam 42 = .ok (.iconst (-1), 1) := by decide +kernel
theorem dX11_seam_43 : decode cX11_seam 43 = .ok (.ireturn, 1) := by decide +kernel
theorem dX11_seam_27 : decode cX11_seam 27 = .ok (.aload_n 0, 1) := by decide +kernel
theorem dX11_seam_28 : decode cX11_seam 28 = .ok (.iload_n 1, 1) := by decide +kernel
theorem dX11_seam_29 : decode cX11_seam 29 = .ok (.invokevirtual 272, 3) := by decide +kernel
theorem kw_1247 : Cond.code yX11_isRock prog_1_method_42_code 2 (some .boolean) ∈ uu := uu_in (i := 1247) (by decide +kernel) (by decide +kernel)
theorem kw_1244 : Cond.methodLink "LandSurvey" 272 yX11_isRock ∈ uu := uu_in (i := 1244) (by decide +kernel) (by decide +kernel)
theorem kw_1246 : Cond.instanceMethod yX11_isRock ∈ uu := uu_in (i := 1246) (by decide +kernel) (by decide +kernel)
theorem kw_48 : Cond.selects "LandSurvey" yX11_isRock yX11_isRock ∈ uu := uu_in (i := 48) (by decide +kernel) (by decide +kernel)
theorem lk_LandSurvey_272 : lkV "LandSurvey" 272 yX11_isRock cX11_isRock 2 (some .boolean) 1 := ⟨kw_1244, kw_1246, kw_48, kw_144, kw_1247, okX11_isRock⟩
theorem dX11_seam_32 : decode cX11_seam 32 = .ok (.ifCond .eq 10, 3) := by decide +kernel
theorem dX11_seam_35 : decode cX11_seam 35 = .ok (.aload_n 0, 1) := by decide +kernel
theorem dX11_seam_36 : decode cX11_seam 36 = .ok (.invokevirtual 275, 3) := by decide +kernel
theorem dX11_seam_39 : decode cX11_seam 39 = .ok (.ifCond .ne 5, 3) := by decide +kernel
theorem dX11_seam_44 : decode cX11_seam 44 = .ok (.iconst 0, 1) := by decide +kernel
theorem dX11_seam_45 : decode cX11_seam 45 = .ok (.istore 4, 2) := by decide +kernel
theorem dX11_seam_47 : decode cX11_seam 47 = .ok (.iconst 0, 1) := by decide +kernel
theorem dX11_seam_48 : decode cX11_seam 48 = .ok (.istore 5, 2) := by decide +kernel
theorem dX11_seam_50 : decode cX11_seam 50 = .ok (.iload 5, 2) := by decide +kernel
theorem dX11_seam_52 : decode cX11_seam 52 = .ok (.bipush 96, 2) := by decide +kernel
theorem dX11_seam_54 : decode cX11_seam 54 = .ok (.if_icmp .ge 49, 3) := by decide +kernel
theorem dX11_seam_103 : decode cX11_seam 103 = .ok (.iload 4, 2) := by decide +kernel
theorem dX11_seam_105 : decode cX11_seam 105 = .ok (.ireturn, 1) := by decide +kernel
theorem dX11_seam_57 : decode cX11_seam 57 = .ok (.aload_n 0, 1) := by decide +kernel
theorem dX11_seam_58 : decode cX11_seam 58 = .ok (.getfield 16, 3) := by decide +kernel
theorem dX11_seam_61 : decode cX11_seam 61 = .ok (.getfield 99, 3) := by decide +kernel
theorem dX11_seam_64 : decode cX11_seam 64 = .ok (.iload 5, 2) := by decide +kernel
theorem dX11_seam_66 : decode cX11_seam 66 = .ok (.iaload, 1) := by decide +kernel
theorem dX11_seam_67 : decode cX11_seam 67 = .ok (.iload_n 2, 1) := by decide +kernel
theorem dX11_seam_68 : decode cX11_seam 68 = .ok (.if_icmp .ne 29, 3) := by decide +kernel
theorem dX11_seam_97 : decode cX11_seam 97 = .ok (.iinc 5 1, 3) := by decide +kernel
theorem dX11_seam_100 : decode cX11_seam 100 = .ok (.goto (-50), 3) := by decide +kernel
theorem dX11_seam_71 : decode cX11_seam 71 = .ok (.iload 4, 2) := by decide +kernel
theorem dX11_seam_73 : decode cX11_seam 73 = .ok (.iload_n 3, 1) := by decide +kernel
theorem dX11_seam_74 : decode cX11_seam 74 = .ok (.ifCond .ne 13, 3) := by decide +kernel
theorem dX11_seam_87 : decode cX11_seam 87 = .ok (.aload_n 0, 1) := by decide +kernel
theorem dX11_seam_88 : decode cX11_seam 88 = .ok (.iload 5, 2) := by decide +kernel
theorem dX11_seam_90 : decode cX11_seam 90 = .ok (.iload_n 1, 1) := by decide +kernel
theorem dX11_seam_91 : decode cX11_seam 91 = .ok (.invokevirtual 302, 3) := by decide +kernel
theorem kw_1259 : Cond.code yX11_perhapsThick prog_1_method_70_code 3 (some .int) ∈ uu := uu_in (i := 1259) (by decide +kernel) (by decide +kernel)
theorem kw_1256 : Cond.methodLink "LandSurvey" 302 yX11_perhapsThick ∈ uu := uu_in (i := 1256) (by decide +kernel) (by decide +kernel)
theorem kw_1258 : Cond.instanceMethod yX11_perhapsThick ∈ uu := uu_in (i := 1258) (by decide +kernel) (by decide +kernel)
theorem kw_51 : Cond.selects "LandSurvey" yX11_perhapsThick yX11_perhapsThick ∈ uu := uu_in (i := 51) (by decide +kernel) (by decide +kernel)
theorem lk_LandSurvey_302 : lkV "LandSurvey" 302 yX11_perhapsThick cX11_perhapsThick 3 (some .int) 2 := ⟨kw_1256, kw_1258, kw_51, kw_144, kw_1259, okX11_perhapsThick⟩
theorem dX11_seam_94 : decode cX11_seam 94 = .ok (.iadd, 1) := by decide +kernel
theorem dX11_seam_95 : decode cX11_seam 95 = .ok (.istore 4, 2) := by decide +kernel
theorem dX11_seam_77 : decode cX11_seam 77 = .ok (.aload_n 0, 1) := by decide +kernel
theorem dX11_seam_78 : decode cX11_seam 78 = .ok (.iload 5, 2) := by decide +kernel
theorem dX11_seam_80 : decode cX11_seam 80 = .ok (.iload_n 1, 1) := by decide +kernel
theorem dX11_seam_81 : decode cX11_seam 81 = .ok (.invokevirtual 299, 3) := by decide +kernel
theorem kw_1251 : Cond.code yX11_surelyThick prog_1_method_69_code 3 (some .int) ∈ uu := uu_in (i := 1251) (by decide +kernel) (by decide +kernel)
theorem kw_1248 : Cond.methodLink "LandSurvey" 299 yX11_surelyThick ∈ uu := uu_in (i := 1248) (by decide +kernel) (by decide +kernel)
theorem kw_1250 : Cond.instanceMethod yX11_surelyThick ∈ uu := uu_in (i := 1250) (by decide +kernel) (by decide +kernel)
theorem kw_49 : Cond.selects "LandSurvey" yX11_surelyThick yX11_surelyThick ∈ uu := uu_in (i := 49) (by decide +kernel) (by decide +kernel)
theorem lk_LandSurvey_299 : lkV "LandSurvey" 299 yX11_surelyThick cX11_surelyThick 3 (some .int) 2 := ⟨kw_1248, kw_1250, kw_49, kw_144, kw_1251, okX11_surelyThick⟩
theorem dX11_seam_84 : decode cX11_seam 84 = .ok (.goto 10, 3) := by decide +kernel
abbrev cX11_drawn : ByteArray := prog_1_method_27_code
def yX11_drawn : MethodName := ⟨RX11, "drawn", "(III)I"⟩
theorem okX11_drawn : yok yX11_drawn 3 := by decide +kernel
theorem dX11_drawn_0 : decode cX11_drawn 0 = .ok (.iload_n 2, 1) := by decide +kernel
theorem dX11_drawn_1 : decode cX11_drawn 1 = .ok (.iload_n 3, 1) := by decide +kernel
theorem dX11_drawn_2 : decode cX11_drawn 2 = .ok (.invokestatic 85, 3) := by decide +kernel
theorem dX11_drawn_5 : decode cX11_drawn 5 = .ok (.istore 4, 2) := by decide +kernel
theorem dX11_drawn_7 : decode cX11_drawn 7 = .ok (.iload 4, 2) := by decide +kernel
theorem dX11_drawn_9 : decode cX11_drawn 9 = .ok (.iconst (-1), 1) := by decide +kernel
theorem dX11_drawn_10 : decode cX11_drawn 10 = .ok (.if_icmp .eq 11, 3) := by decide +kernel
theorem dX11_drawn_21 : decode cX11_drawn 21 = .ok (.iconst (-1), 1) := by decide +kernel
theorem dX11_drawn_22 : decode cX11_drawn 22 = .ok (.goto 15, 3) := by decide +kernel
theorem dX11_drawn_37 : decode cX11_drawn 37 = .ok (.ireturn, 1) := by decide +kernel
theorem dX11_drawn_13 : decode cX11_drawn 13 = .ok (.aload_n 0, 1) := by decide +kernel
theorem dX11_drawn_14 : decode cX11_drawn 14 = .ok (.iload_n 1, 1) := by decide +kernel
theorem dX11_drawn_15 : decode cX11_drawn 15 = .ok (.invokevirtual 312, 3) := by decide +kernel
theorem kw_1282 : Cond.code yX11_isSheet prog_1_method_41_code 2 (some .boolean) ∈ uu := uu_in (i := 1282) (by decide +kernel) (by decide +kernel)
theorem kw_1279 : Cond.methodLink "LandSurvey" 312 yX11_isSheet ∈ uu := uu_in (i := 1279) (by decide +kernel) (by decide +kernel)
theorem kw_1281 : Cond.instanceMethod yX11_isSheet ∈ uu := uu_in (i := 1281) (by decide +kernel) (by decide +kernel)
theorem kw_52 : Cond.selects "LandSurvey" yX11_isSheet yX11_isSheet ∈ uu := uu_in (i := 52) (by decide +kernel) (by decide +kernel)
theorem lk_LandSurvey_312 : lkV "LandSurvey" 312 yX11_isSheet cX11_isSheet 2 (some .boolean) 1 := ⟨kw_1279, kw_1281, kw_52, kw_144, kw_1282, okX11_isSheet⟩
theorem dX11_drawn_18 : decode cX11_drawn 18 = .ok (.ifCond .ne 7, 3) := by decide +kernel
theorem dX11_drawn_25 : decode cX11_drawn 25 = .ok (.aload_n 0, 1) := by decide +kernel
theorem dX11_drawn_26 : decode cX11_drawn 26 = .ok (.getfield 55, 3) := by decide +kernel
theorem kw_479 : Cond.fieldLink "LandSurvey" 55 "LandSurvey" "sheets" "[LLandSurvey$Sheet;" ∈ uu := uu_in (i := 479) (by decide +kernel) (by decide +kernel)
theorem fk_LandSurvey_55 : fkR "LandSurvey" 55 10 11 RX11 TX11 19 := ⟨rfl, rfl, inX11, by decide, kw_479, by decide⟩
theorem dX11_drawn_29 : decode cX11_drawn 29 = .ok (.iload_n 1, 1) := by decide +kernel
theorem dX11_drawn_30 : decode cX11_drawn 30 = .ok (.aaload, 1) := by decide +kernel
theorem dX11_drawn_31 : decode cX11_drawn 31 = .ok (.getfield 309, 3) := by decide +kernel
theorem kw_1271 : Cond.fieldLink "LandSurvey" 309 "LandSurvey$Sheet" "bits" "[I" ∈ uu := uu_in (i := 1271) (by decide +kernel) (by decide +kernel)
theorem fk_LandSurvey_309 : fkR "LandSurvey" 309 7 0 RX7 TX7 1 := ⟨rfl, rfl, inX7, by decide, kw_1271, by decide⟩
theorem dX11_drawn_34 : decode cX11_drawn 34 = .ok (.iload 4, 2) := by decide +kernel
theorem dX11_drawn_36 : decode cX11_drawn 36 = .ok (.iaload, 1) := by decide +kernel
abbrev cX11_quarrel : ByteArray := prog_1_method_28_code
def yX11_quarrel : MethodName := ⟨RX11, "quarrel", "(II)I"⟩
theorem okX11_quarrel : yok yX11_quarrel 2 := by decide +kernel
theorem dX11_quarrel_0 : decode cX11_quarrel 0 = .ok (.aload_n 0, 1) := by decide +kernel
theorem dX11_quarrel_1 : decode cX11_quarrel 1 = .ok (.iload_n 1, 1) := by decide +kernel
theorem dX11_quarrel_2 : decode cX11_quarrel 2 = .ok (.invokevirtual 312, 3) := by decide +kernel
theorem dX11_quarrel_5 : decode cX11_quarrel 5 = .ok (.ifCond .eq 11, 3) := by decide +kernel
theorem dX11_quarrel_16 : decode cX11_quarrel 16 = .ok (.iconst (-1), 1) := by decide +kernel
theorem dX11_quarrel_17 : decode cX11_quarrel 17 = .ok (.ireturn, 1) := by decide +kernel
theorem dX11_quarrel_8 : decode cX11_quarrel 8 = .ok (.aload_n 0, 1) := by decide +kernel
theorem dX11_quarrel_9 : decode cX11_quarrel 9 = .ok (.iload_n 2, 1) := by decide +kernel
theorem dX11_quarrel_10 : decode cX11_quarrel 10 = .ok (.invokevirtual 312, 3) := by decide +kernel
theorem dX11_quarrel_13 : decode cX11_quarrel 13 = .ok (.ifCond .ne 5, 3) := by decide +kernel
theorem dX11_quarrel_18 : decode cX11_quarrel 18 = .ok (.iconst 0, 1) := by decide +kernel
theorem dX11_quarrel_19 : decode cX11_quarrel 19 = .ok (.istore_n 3, 1) := by decide +kernel
theorem dX11_quarrel_20 : decode cX11_quarrel 20 = .ok (.iconst 0, 1) := by decide +kernel
theorem dX11_quarrel_21 : decode cX11_quarrel 21 = .ok (.istore 4, 2) := by decide +kernel
theorem dX11_quarrel_23 : decode cX11_quarrel 23 = .ok (.iload 4, 2) := by decide +kernel
theorem dX11_quarrel_25 : decode cX11_quarrel 25 = .ok (.bipush 96, 2) := by decide +kernel
theorem dX11_quarrel_27 : decode cX11_quarrel 27 = .ok (.if_icmp .ge 60, 3) := by decide +kernel
theorem dX11_quarrel_87 : decode cX11_quarrel 87 = .ok (.iload_n 3, 1) := by decide +kernel
theorem dX11_quarrel_88 : decode cX11_quarrel 88 = .ok (.ireturn, 1) := by decide +kernel
theorem dX11_quarrel_30 : decode cX11_quarrel 30 = .ok (.aload_n 0, 1) := by decide +kernel
theorem dX11_quarrel_31 : decode cX11_quarrel 31 = .ok (.getfield 55, 3) := by decide +kernel
theorem dX11_quarrel_34 : decode cX11_quarrel 34 = .ok (.iload_n 1, 1) := by decide +kernel
theorem dX11_quarrel_35 : decode cX11_quarrel 35 = .ok (.aaload, 1) := by decide +kernel
theorem dX11_quarrel_36 : decode cX11_quarrel 36 = .ok (.getfield 309, 3) := by decide +kernel
theorem dX11_quarrel_39 : decode cX11_quarrel 39 = .ok (.iload 4, 2) := by decide +kernel
theorem dX11_quarrel_41 : decode cX11_quarrel 41 = .ok (.iaload, 1) := by decide +kernel
theorem dX11_quarrel_42 : decode cX11_quarrel 42 = .ok (.istore 5, 2) := by decide +kernel
theorem dX11_quarrel_44 : decode cX11_quarrel 44 = .ok (.aload_n 0, 1) := by decide +kernel
theorem dX11_quarrel_45 : decode cX11_quarrel 45 = .ok (.getfield 55, 3) := by decide +kernel
theorem dX11_quarrel_48 : decode cX11_quarrel 48 = .ok (.iload_n 2, 1) := by decide +kernel
theorem dX11_quarrel_49 : decode cX11_quarrel 49 = .ok (.aaload, 1) := by decide +kernel
theorem dX11_quarrel_50 : decode cX11_quarrel 50 = .ok (.getfield 309, 3) := by decide +kernel
theorem dX11_quarrel_53 : decode cX11_quarrel 53 = .ok (.iload 4, 2) := by decide +kernel
theorem dX11_quarrel_55 : decode cX11_quarrel 55 = .ok (.iaload, 1) := by decide +kernel
theorem dX11_quarrel_56 : decode cX11_quarrel 56 = .ok (.istore 6, 2) := by decide +kernel
theorem dX11_quarrel_58 : decode cX11_quarrel 58 = .ok (.iload 5, 2) := by decide +kernel
theorem dX11_quarrel_60 : decode cX11_quarrel 60 = .ok (.iconst (-1), 1) := by decide +kernel
theorem dX11_quarrel_61 : decode cX11_quarrel 61 = .ok (.if_icmp .eq 20, 3) := by decide +kernel
theorem dX11_quarrel_81 : decode cX11_quarrel 81 = .ok (.iinc 4 1, 3) := by decide +kernel
theorem dX11_quarrel_84 : decode cX11_quarrel 84 = .ok (.goto (-61), 3) := by decide +kernel
theorem dX11_quarrel_64 : decode cX11_quarrel 64 = .ok (.iload 6, 2) := by decide +kernel
theorem dX11_quarrel_66 : decode cX11_quarrel 66 = .ok (.iconst (-1), 1) := by decide +kernel
theorem dX11_quarrel_67 : decode cX11_quarrel 67 = .ok (.if_icmp .eq 14, 3) := by decide +kernel
theorem dX11_quarrel_70 : decode cX11_quarrel 70 = .ok (.iload 5, 2) := by decide +kernel
theorem dX11_quarrel_72 : decode cX11_quarrel 72 = .ok (.iload 6, 2) := by decide +kernel
theorem dX11_quarrel_74 : decode cX11_quarrel 74 = .ok (.iand, 1) := by decide +kernel
theorem dX11_quarrel_75 : decode cX11_quarrel 75 = .ok (.ifCond .ne 6, 3) := by decide +kernel
theorem dX11_quarrel_78 : decode cX11_quarrel 78 = .ok (.iinc 3 1, 3) := by decide +kernel
abbrev cX11_stale : ByteArray := prog_1_method_29_code
def yX11_stale : MethodName := ⟨RX11, "stale", "(I)I"⟩
theorem okX11_stale : yok yX11_stale 1 := by decide +kernel
theorem dX11_stale_0 : decode cX11_stale 0 = .ok (.aload_n 0, 1) := by decide +kernel
theorem dX11_stale_1 : decode cX11_stale 1 = .ok (.iload_n 1, 1) := by decide +kernel
theorem dX11_stale_2 : decode cX11_stale 2 = .ok (.invokevirtual 312, 3) := by decide +kernel
theorem dX11_stale_5 : decode cX11_stale 5 = .ok (.ifCond .eq 10, 3) := by decide +kernel
theorem dX11_stale_15 : decode cX11_stale 15 = .ok (.iconst (-1), 1) := by decide +kernel
theorem dX11_stale_16 : decode cX11_stale 16 = .ok (.ireturn, 1) := by decide +kernel
theorem dX11_stale_8 : decode cX11_stale 8 = .ok (.aload_n 0, 1) := by decide +kernel
theorem dX11_stale_9 : decode cX11_stale 9 = .ok (.invokevirtual 253, 3) := by decide +kernel
theorem dX11_stale_12 : decode cX11_stale 12 = .ok (.ifCond .ne 5, 3) := by decide +kernel
theorem dX11_stale_17 : decode cX11_stale 17 = .ok (.iconst 0, 1) := by decide +kernel
theorem dX11_stale_18 : decode cX11_stale 18 = .ok (.istore_n 2, 1) := by decide +kernel
theorem dX11_stale_19 : decode cX11_stale 19 = .ok (.iconst 0, 1) := by decide +kernel
theorem dX11_stale_20 : decode cX11_stale 20 = .ok (.istore_n 3, 1) := by decide +kernel
theorem dX11_stale_21 : decode cX11_stale 21 = .ok (.iload_n 3, 1) := by decide +kernel
theorem dX11_stale_22 : decode cX11_stale 22 = .ok (.bipush 96, 2) := by decide +kernel
theorem dX11_stale_24 : decode cX11_stale 24 = .ok (.if_icmp .ge 42, 3) := by decide +kernel
theorem dX11_stale_66 : decode cX11_stale 66 = .ok (.iload_n 2, 1) := by decide +kernel
theorem dX11_stale_67 : decode cX11_stale 67 = .ok (.ireturn, 1) := by decide +kernel
theorem dX11_stale_27 : decode cX11_stale 27 = .ok (.aload_n 0, 1) := by decide +kernel
theorem dX11_stale_28 : decode cX11_stale 28 = .ok (.getfield 55, 3) := by decide +kernel
theorem dX11_stale_31 : decode cX11_stale 31 = .ok (.iload_n 1, 1) := by decide +kernel
theorem dX11_stale_32 : decode cX11_stale 32 = .ok (.aaload, 1) := by decide +kernel
theorem dX11_stale_33 : decode cX11_stale 33 = .ok (.getfield 309, 3) := by decide +kernel
theorem dX11_stale_36 : decode cX11_stale 36 = .ok (.iload_n 3, 1) := by decide +kernel
theorem dX11_stale_37 : decode cX11_stale 37 = .ok (.iaload, 1) := by decide +kernel
theorem dX11_stale_38 : decode cX11_stale 38 = .ok (.istore 4, 2) := by decide +kernel
theorem dX11_stale_40 : decode cX11_stale 40 = .ok (.iload 4, 2) := by decide +kernel
theorem dX11_stale_42 : decode cX11_stale 42 = .ok (.iconst (-1), 1) := by decide +kernel
theorem dX11_stale_43 : decode cX11_stale 43 = .ok (.if_icmp .eq 17, 3) := by decide +kernel
theorem dX11_stale_60 : decode cX11_stale 60 = .ok (.iinc 3 1, 3) := by decide +kernel
theorem dX11_stale_63 : decode cX11_stale 63 = .ok (.goto (-42), 3) := by decide +kernel
theorem dX11_stale_46 : decode cX11_stale 46 = .ok (.iload 4, 2) := by decide +kernel
theorem dX11_stale_48 : decode cX11_stale 48 = .ok (.aload_n 0, 1) := by decide +kernel
theorem dX11_stale_49 : decode cX11_stale 49 = .ok (.iload_n 3, 1) := by decide +kernel
theorem dX11_stale_50 : decode cX11_stale 50 = .ok (.iconst 0, 1) := by decide +kernel
theorem dX11_stale_51 : decode cX11_stale 51 = .ok (.invokevirtual 256, 3) := by decide +kernel
theorem dX11_stale_54 : decode cX11_stale 54 = .ok (.if_icmp .eq 6, 3) := by decide +kernel
theorem dX11_stale_57 : decode cX11_stale 57 = .ok (.iinc 2 1, 3) := by decide +kernel
abbrev cX11_doubles : ByteArray := prog_1_method_30_code
def yX11_doubles : MethodName := ⟨RX11, "doubles", "(III)I"⟩
theorem okX11_doubles : yok yX11_doubles 3 := by decide +kernel
theorem dX11_doubles_0 : decode cX11_doubles 0 = .ok (.iload_n 1, 1) := by decide +kernel
theorem dX11_doubles_1 : decode cX11_doubles 1 = .ok (.invokestatic 315, 3) := by decide +kernel
theorem kw_1297 : Cond.code yX11_isHand prog_1_method_44_code 1 (some .boolean) ∈ uu := uu_in (i := 1297) (by decide +kernel) (by decide +kernel)
theorem kw_1295 : Cond.methodLink "LandSurvey" 315 yX11_isHand ∈ uu := uu_in (i := 1295) (by decide +kernel) (by decide +kernel)
theorem kw_1296 : Cond.static yX11_isHand ∈ uu := uu_in (i := 1296) (by decide +kernel) (by decide +kernel)
theorem lk_LandSurvey_315 : lkS "LandSurvey" 315 yX11_isHand cX11_isHand 1 (some .boolean) 1 := ⟨kw_1295, kw_1296, kw_144, kw_1297, okX11_isHand⟩
theorem dX11_doubles_4 : decode cX11_doubles 4 = .ok (.ifCond .eq 24, 3) := by decide +kernel
theorem dX11_doubles_28 : decode cX11_doubles 28 = .ok (.iconst (-1), 1) := by decide +kernel
theorem dX11_doubles_29 : decode cX11_doubles 29 = .ok (.ireturn, 1) := by decide +kernel
theorem dX11_doubles_7 : decode cX11_doubles 7 = .ok (.iload_n 2, 1) := by decide +kernel
theorem dX11_doubles_8 : decode cX11_doubles 8 = .ok (.invokestatic 315, 3) := by decide +kernel
theorem dX11_doubles_11 : decode cX11_doubles 11 = .ok (.ifCond .eq 17, 3) := by decide +kernel
theorem dX11_doubles_14 : decode cX11_doubles 14 = .ok (.iload_n 1, 1) := by decide +kernel
theorem dX11_doubles_15 : decode cX11_doubles 15 = .ok (.iload_n 2, 1) := by decide +kernel
theorem dX11_doubles_16 : decode cX11_doubles 16 = .ok (.if_icmp .eq 12, 3) := by decide +kernel
theorem dX11_doubles_19 : decode cX11_doubles 19 = .ok (.iload_n 3, 1) := by decide +kernel
theorem dX11_doubles_20 : decode cX11_doubles 20 = .ok (.ifCond .lt 8, 3) := by decide +kernel
theorem dX11_doubles_23 : decode cX11_doubles 23 = .ok (.iload_n 3, 1) := by decide +kernel
theorem dX11_doubles_24 : decode cX11_doubles 24 = .ok (.iconst 1, 1) := by decide +kernel
theorem dX11_doubles_25 : decode cX11_doubles 25 = .ok (.if_icmp .le 5, 3) := by decide +kernel
theorem dX11_doubles_30 : decode cX11_doubles 30 = .ok (.aload_n 0, 1) := by decide +kernel
theorem dX11_doubles_31 : decode cX11_doubles 31 = .ok (.invokevirtual 169, 3) := by decide +kernel
theorem dX11_doubles_34 : decode cX11_doubles 34 = .ok (.iconst 0, 1) := by decide +kernel
theorem dX11_doubles_35 : decode cX11_doubles 35 = .ok (.istore 4, 2) := by decide +kernel
theorem dX11_doubles_37 : decode cX11_doubles 37 = .ok (.iconst 0, 1) := by decide +kernel
theorem dX11_doubles_38 : decode cX11_doubles 38 = .ok (.istore 5, 2) := by decide +kernel
theorem dX11_doubles_40 : decode cX11_doubles 40 = .ok (.iload 5, 2) := by decide +kernel
theorem dX11_doubles_42 : decode cX11_doubles 42 = .ok (.aload_n 0, 1) := by decide +kernel
theorem dX11_doubles_43 : decode cX11_doubles 43 = .ok (.getfield 102, 3) := by decide +kernel
theorem dX11_doubles_46 : decode cX11_doubles 46 = .ok (.if_icmp .ge 112, 3) := by decide +kernel
theorem dX11_doubles_158 : decode cX11_doubles 158 = .ok (.iload 4, 2) := by decide +kernel
theorem dX11_doubles_160 : decode cX11_doubles 160 = .ok (.ireturn, 1) := by decide +kernel
theorem dX11_doubles_49 : decode cX11_doubles 49 = .ok (.iconst 0, 1) := by decide +kernel
theorem dX11_doubles_50 : decode cX11_doubles 50 = .ok (.istore 6, 2) := by decide +kernel
theorem dX11_doubles_52 : decode cX11_doubles 52 = .ok (.iload 6, 2) := by decide +kernel
theorem dX11_doubles_54 : decode cX11_doubles 54 = .ok (.aload_n 0, 1) := by decide +kernel
theorem dX11_doubles_55 : decode cX11_doubles 55 = .ok (.getfield 102, 3) := by decide +kernel
theorem dX11_doubles_58 : decode cX11_doubles 58 = .ok (.if_icmp .ge 94, 3) := by decide +kernel
theorem dX11_doubles_152 : decode cX11_doubles 152 = .ok (.iinc 5 1, 3) := by decide +kernel
theorem dX11_doubles_155 : decode cX11_doubles 155 = .ok (.goto (-115), 3) := by decide +kernel
theorem dX11_doubles_61 : decode cX11_doubles 61 = .ok (.aload_n 0, 1) := by decide +kernel
theorem dX11_doubles_62 : decode cX11_doubles 62 = .ok (.getfield 22, 3) := by decide +kernel
theorem dX11_doubles_65 : decode cX11_doubles 65 = .ok (.iload 5, 2) := by decide +kernel
theorem dX11_doubles_67 : decode cX11_doubles 67 = .ok (.aaload, 1) := by decide +kernel
theorem dX11_doubles_68 : decode cX11_doubles 68 = .ok (.getfield 318, 3) := by decide +kernel
theorem dX11_doubles_71 : decode cX11_doubles 71 = .ok (.iload_n 1, 1) := by decide +kernel
theorem dX11_doubles_72 : decode cX11_doubles 72 = .ok (.if_icmp .ne 74, 3) := by decide +kernel
theorem dX11_doubles_146 : decode cX11_doubles 146 = .ok (.iinc 6 1, 3) := by decide +kernel
theorem dX11_doubles_149 : decode cX11_doubles 149 = .ok (.goto (-97), 3) := by decide +kernel
theorem dX11_doubles_75 : decode cX11_doubles 75 = .ok (.aload_n 0, 1) := by decide +kernel
theorem dX11_doubles_76 : decode cX11_doubles 76 = .ok (.getfield 22, 3) := by decide +kernel
theorem dX11_doubles_79 : decode cX11_doubles 79 = .ok (.iload 6, 2) := by decide +kernel
theorem dX11_doubles_81 : decode cX11_doubles 81 = .ok (.aaload, 1) := by decide +kernel
theorem dX11_doubles_82 : decode cX11_doubles 82 = .ok (.getfield 318, 3) := by decide +kernel
theorem dX11_doubles_85 : decode cX11_doubles 85 = .ok (.iload_n 2, 1) := by decide +kernel
theorem dX11_doubles_86 : decode cX11_doubles 86 = .ok (.if_icmp .ne 60, 3) := by decide +kernel
theorem dX11_doubles_89 : decode cX11_doubles 89 = .ok (.aload_n 0, 1) := by decide +kernel
theorem dX11_doubles_90 : decode cX11_doubles 90 = .ok (.getfield 22, 3) := by decide +kernel
theorem dX11_doubles_93 : decode cX11_doubles 93 = .ok (.iload 5, 2) := by decide +kernel
theorem dX11_doubles_95 : decode cX11_doubles 95 = .ok (.aaload, 1) := by decide +kernel
theorem dX11_doubles_96 : decode cX11_doubles 96 = .ok (.aload_n 0, 1) := by decide +kernel
theorem dX11_doubles_97 : decode cX11_doubles 97 = .ok (.getfield 22, 3) := by decide +kernel
theorem dX11_doubles_100 : decode cX11_doubles 100 = .ok (.iload 6, 2) := by decide +kernel
theorem dX11_doubles_102 : decode cX11_doubles 102 = .ok (.aaload, 1) := by decide +kernel
theorem dX11_doubles_103 : decode cX11_doubles 103 = .ok (.invokestatic 321, 3) := by decide +kernel
theorem kw_1300 : Cond.code yX11_areDoubles prog_1_method_51_code 2 (some .boolean) ∈ uu := uu_in (i := 1300) (by decide +kernel) (by decide +kernel)
theorem kw_1298 : Cond.methodLink "LandSurvey" 321 yX11_areDoubles ∈ uu := uu_in (i := 1298) (by decide +kernel) (by decide +kernel)
theorem kw_1299 : Cond.static yX11_areDoubles ∈ uu := uu_in (i := 1299) (by decide +kernel) (by decide +kernel)
theorem lk_LandSurvey_321 : lkS "LandSurvey" 321 yX11_areDoubles cX11_areDoubles 2 (some .boolean) 2 := ⟨kw_1298, kw_1299, kw_144, kw_1300, okX11_areDoubles⟩
theorem dX11_doubles_106 : decode cX11_doubles 106 = .ok (.ifCond .eq 40, 3) := by decide +kernel
theorem dX11_doubles_109 : decode cX11_doubles 109 = .ok (.iload 4, 2) := by decide +kernel
theorem dX11_doubles_111 : decode cX11_doubles 111 = .ok (.iload_n 3, 1) := by decide +kernel
theorem dX11_doubles_112 : decode cX11_doubles 112 = .ok (.ifCond .eq 26, 3) := by decide +kernel
theorem dX11_doubles_138 : decode cX11_doubles 138 = .ok (.iconst 1, 1) := by decide +kernel
theorem dX11_doubles_139 : decode cX11_doubles 139 = .ok (.goto 4, 3) := by decide +kernel
theorem dX11_doubles_143 : decode cX11_doubles 143 = .ok (.iadd, 1) := by decide +kernel
theorem dX11_doubles_144 : decode cX11_doubles 144 = .ok (.istore 4, 2) := by decide +kernel
theorem dX11_doubles_115 : decode cX11_doubles 115 = .ok (.aload_n 0, 1) := by decide +kernel
theorem dX11_doubles_116 : decode cX11_doubles 116 = .ok (.getfield 22, 3) := by decide +kernel
theorem dX11_doubles_119 : decode cX11_doubles 119 = .ok (.iload 5, 2) := by decide +kernel
theorem dX11_doubles_121 : decode cX11_doubles 121 = .ok (.aaload, 1) := by decide +kernel
theorem dX11_doubles_122 : decode cX11_doubles 122 = .ok (.getfield 175, 3) := by decide +kernel
theorem dX11_doubles_125 : decode cX11_doubles 125 = .ok (.aload_n 0, 1) := by decide +kernel
theorem dX11_doubles_126 : decode cX11_doubles 126 = .ok (.getfield 22, 3) := by decide +kernel
theorem dX11_doubles_129 : decode cX11_doubles 129 = .ok (.iload 6, 2) := by decide +kernel
theorem dX11_doubles_131 : decode cX11_doubles 131 = .ok (.aaload, 1) := by decide +kernel
theorem dX11_doubles_132 : decode cX11_doubles 132 = .ok (.getfield 175, 3) := by decide +kernel
theorem dX11_doubles_135 : decode cX11_doubles 135 = .ok (.if_icmp .ne 7, 3) := by decide +kernel
theorem dX11_doubles_142 : decode cX11_doubles 142 = .ok (.iconst 0, 1) := by decide +kernel
abbrev cX11_question : ByteArray := prog_1_method_32_code
def yX11_question : MethodName := ⟨RX11, "question", "(IIZ)Z"⟩
theorem okX11_question : yok yX11_question 3 := by decide +kernel
theorem kw_199 : Cond.fieldLink "LandSurvey" 334 "LandSurvey$Land" "askedCount" "I" ∈ uu := uu_in (i := 199) (by decide +kernel) (by decide +kernel)
theorem fk_LandSurvey_334 : fkI "LandSurvey" 334 2 5 RX2 TX2 9 := ⟨rfl, rfl, inX2, by decide, kw_199, by decide⟩
theorem dX11_question_0 : decode cX11_question 0 = .ok (.iload_n 1, 1) := by decide +kernel
theorem dX11_question_1 : decode cX11_question 1 = .ok (.iload_n 2, 1) := by decide +kernel
theorem dX11_question_2 : decode cX11_question 2 = .ok (.invokestatic 85, 3) := by decide +kernel
theorem dX11_question_5 : decode cX11_question 5 = .ok (.istore 4, 2) := by decide +kernel
theorem dX11_question_7 : decode cX11_question 7 = .ok (.iload 4, 2) := by decide +kernel
theorem dX11_question_9 : decode cX11_question 9 = .ok (.iconst (-1), 1) := by decide +kernel
theorem dX11_question_10 : decode cX11_question 10 = .ok (.if_icmp .ne 5, 3) := by decide +kernel
theorem dX11_question_15 : decode cX11_question 15 = .ok (.aload_n 0, 1) := by decide +kernel
theorem dX11_question_16 : decode cX11_question 16 = .ok (.getfield 16, 3) := by decide +kernel
theorem dX11_question_19 : decode cX11_question 19 = .ok (.getfield 331, 3) := by decide +kernel
theorem dX11_question_22 : decode cX11_question 22 = .ok (.iload 4, 2) := by decide +kernel
theorem dX11_question_24 : decode cX11_question 24 = .ok (.baload, 1) := by decide +kernel
theorem dX11_question_25 : decode cX11_question 25 = .ok (.iload_n 3, 1) := by decide +kernel
theorem dX11_question_26 : decode cX11_question 26 = .ok (.if_icmp .ne 5, 3) := by decide +kernel
theorem dX11_question_31 : decode cX11_question 31 = .ok (.iload_n 3, 1) := by decide +kernel
theorem dX11_question_32 : decode cX11_question 32 = .ok (.ifCond .eq 17, 3) := by decide +kernel
theorem dX11_question_49 : decode cX11_question 49 = .ok (.aload_n 0, 1) := by decide +kernel
theorem dX11_question_50 : decode cX11_question 50 = .ok (.getfield 16, 3) := by decide +kernel
theorem dX11_question_53 : decode cX11_question 53 = .ok (.getfield 331, 3) := by decide +kernel
theorem dX11_question_56 : decode cX11_question 56 = .ok (.iload 4, 2) := by decide +kernel
theorem dX11_question_58 : decode cX11_question 58 = .ok (.iload_n 3, 1) := by decide +kernel
theorem dX11_question_59 : decode cX11_question 59 = .ok (.bastore, 1) := by decide +kernel
theorem dX11_question_60 : decode cX11_question 60 = .ok (.aload_n 0, 1) := by decide +kernel
theorem dX11_question_61 : decode cX11_question 61 = .ok (.getfield 16, 3) := by decide +kernel
theorem dX11_question_64 : decode cX11_question 64 = .ok (.dup, 1) := by decide +kernel
theorem dX11_question_65 : decode cX11_question 65 = .ok (.getfield 334, 3) := by decide +kernel
theorem dX11_question_68 : decode cX11_question 68 = .ok (.iload_n 3, 1) := by decide +kernel
theorem dX11_question_69 : decode cX11_question 69 = .ok (.ifCond .eq 7, 3) := by decide +kernel
theorem dX11_question_76 : decode cX11_question 76 = .ok (.iconst (-1), 1) := by decide +kernel
theorem dX11_question_77 : decode cX11_question 77 = .ok (.iadd, 1) := by decide +kernel
theorem dX11_question_78 : decode cX11_question 78 = .ok (.putfield 334, 3) := by decide +kernel
theorem pk_LandSurvey_Land_5 : pk RX2 TX2 9 5 tyX2 false := ⟨tyX2_ok, nmX2, rfl⟩
theorem dX11_question_81 : decode cX11_question 81 = .ok (.iconst 1, 1) := by decide +kernel
theorem dX11_question_82 : decode cX11_question 82 = .ok (.ireturn, 1) := by decide +kernel
theorem dX11_question_35 : decode cX11_question 35 = .ok (.aload_n 0, 1) := by decide +kernel
theorem dX11_question_36 : decode cX11_question 36 = .ok (.getfield 16, 3) := by decide +kernel
theorem dX11_question_39 : decode cX11_question 39 = .ok (.getfield 334, 3) := by decide +kernel
theorem dX11_question_42 : decode cX11_question 42 = .ok (.bipush 8, 2) := by decide +kernel
theorem dX11_question_44 : decode cX11_question 44 = .ok (.if_icmp .lt 5, 3) := by decide +kernel
theorem dX11_question_72 : decode cX11_question 72 = .ok (.iconst 1, 1) := by decide +kernel
theorem dX11_question_73 : decode cX11_question 73 = .ok (.goto 4, 3) := by decide +kernel
theorem dX11_question_47 : decode cX11_question 47 = .ok (.iconst 0, 1) := by decide +kernel
theorem dX11_question_48 : decode cX11_question 48 = .ok (.ireturn, 1) := by decide +kernel
theorem dX11_question_29 : decode cX11_question 29 = .ok (.iconst 1, 1) := by decide +kernel
theorem dX11_question_30 : decode cX11_question 30 = .ok (.ireturn, 1) := by decide +kernel
theorem dX11_question_13 : decode cX11_question 13 = .ok (.iconst 0, 1) := by decide +kernel
theorem dX11_question_14 : decode cX11_question 14 = .ok (.ireturn, 1) := by decide +kernel
abbrev cX11_place : ByteArray := prog_1_method_33_code
def yX11_place : MethodName := ⟨RX11, "place", "(III)I"⟩
theorem okX11_place : yok yX11_place 3 := by decide +kernel
theorem kw_204 : Cond.fieldLink "LandSurvey" 337 "LandSurvey$Land" "placeCount" "I" ∈ uu := uu_in (i := 204) (by decide +kernel) (by decide +kernel)
theorem fk_LandSurvey_337 : fkI "LandSurvey" 337 2 8 RX2 TX2 9 := ⟨rfl, rfl, inX2, by decide, kw_204, by decide⟩
theorem dX11_place_0 : decode cX11_place 0 = .ok (.iload_n 1, 1) := by decide +kernel
theorem dX11_place_1 : decode cX11_place 1 = .ok (.iload_n 2, 1) := by decide +kernel
theorem dX11_place_2 : decode cX11_place 2 = .ok (.invokestatic 85, 3) := by decide +kernel
theorem dX11_place_5 : decode cX11_place 5 = .ok (.istore 4, 2) := by decide +kernel
theorem dX11_place_7 : decode cX11_place 7 = .ok (.iload 4, 2) := by decide +kernel
theorem dX11_place_9 : decode cX11_place 9 = .ok (.iconst (-1), 1) := by decide +kernel
theorem dX11_place_10 : decode cX11_place 10 = .ok (.if_icmp .eq 26, 3) := by decide +kernel
theorem dX11_place_36 : decode cX11_place 36 = .ok (.iconst (-1), 1) := by decide +kernel
theorem dX11_place_37 : decode cX11_place 37 = .ok (.ireturn, 1) := by decide +kernel
theorem dX11_place_13 : decode cX11_place 13 = .ok (.iload_n 3, 1) := by decide +kernel
theorem dX11_place_14 : decode cX11_place 14 = .ok (.iconst 1, 1) := by decide +kernel
theorem dX11_place_15 : decode cX11_place 15 = .ok (.if_icmp .lt 21, 3) := by decide +kernel
theorem dX11_place_18 : decode cX11_place 18 = .ok (.iload_n 3, 1) := by decide +kernel
theorem dX11_place_19 : decode cX11_place 19 = .ok (.bipush 99, 2) := by decide +kernel
theorem dX11_place_21 : decode cX11_place 21 = .ok (.if_icmp .gt 15, 3) := by decide +kernel
theorem dX11_place_24 : decode cX11_place 24 = .ok (.aload_n 0, 1) := by decide +kernel
theorem dX11_place_25 : decode cX11_place 25 = .ok (.getfield 16, 3) := by decide +kernel
theorem dX11_place_28 : decode cX11_place 28 = .ok (.getfield 337, 3) := by decide +kernel
theorem dX11_place_31 : decode cX11_place 31 = .ok (.bipush 8, 2) := by decide +kernel
theorem dX11_place_33 : decode cX11_place 33 = .ok (.if_icmp .lt 5, 3) := by decide +kernel
theorem dX11_place_38 : decode cX11_place 38 = .ok (.aload_n 0, 1) := by decide +kernel
theorem dX11_place_39 : decode cX11_place 39 = .ok (.getfield 16, 3) := by decide +kernel
theorem dX11_place_42 : decode cX11_place 42 = .ok (.getfield 340, 3) := by decide +kernel
theorem kw_201 : Cond.fieldLink "LandSurvey" 340 "LandSurvey$Land" "placeCell" "[I" ∈ uu := uu_in (i := 201) (by decide +kernel) (by decide +kernel)
theorem fk_LandSurvey_340 : fkR "LandSurvey" 340 2 6 RX2 TX2 9 := ⟨rfl, rfl, inX2, by decide, kw_201, by decide⟩
theorem dX11_place_45 : decode cX11_place 45 = .ok (.aload_n 0, 1) := by decide +kernel
theorem dX11_place_46 : decode cX11_place 46 = .ok (.getfield 16, 3) := by decide +kernel
theorem dX11_place_49 : decode cX11_place 49 = .ok (.getfield 337, 3) := by decide +kernel
theorem dX11_place_52 : decode cX11_place 52 = .ok (.iload 4, 2) := by decide +kernel
theorem dX11_place_54 : decode cX11_place 54 = .ok (.iastore, 1) := by decide +kernel
theorem dX11_place_55 : decode cX11_place 55 = .ok (.aload_n 0, 1) := by decide +kernel
theorem dX11_place_56 : decode cX11_place 56 = .ok (.getfield 16, 3) := by decide +kernel
theorem dX11_place_59 : decode cX11_place 59 = .ok (.getfield 343, 3) := by decide +kernel
theorem kw_203 : Cond.fieldLink "LandSurvey" 343 "LandSurvey$Land" "placeCost" "[I" ∈ uu := uu_in (i := 203) (by decide +kernel) (by decide +kernel)
theorem fk_LandSurvey_343 : fkR "LandSurvey" 343 2 7 RX2 TX2 9 := ⟨rfl, rfl, inX2, by decide, kw_203, by decide⟩
theorem dX11_place_62 : decode cX11_place 62 = .ok (.aload_n 0, 1) := by decide +kernel
theorem dX11_place_63 : decode cX11_place 63 = .ok (.getfield 16, 3) := by decide +kernel
theorem dX11_place_66 : decode cX11_place 66 = .ok (.getfield 337, 3) := by decide +kernel
theorem dX11_place_69 : decode cX11_place 69 = .ok (.iload_n 3, 1) := by decide +kernel
theorem dX11_place_70 : decode cX11_place 70 = .ok (.iastore, 1) := by decide +kernel
theorem dX11_place_71 : decode cX11_place 71 = .ok (.aload_n 0, 1) := by decide +kernel
theorem dX11_place_72 : decode cX11_place 72 = .ok (.getfield 16, 3) := by decide +kernel
theorem dX11_place_75 : decode cX11_place 75 = .ok (.dup, 1) := by decide +kernel
theorem dX11_place_76 : decode cX11_place 76 = .ok (.getfield 337, 3) := by decide +kernel
theorem dX11_place_79 : decode cX11_place 79 = .ok (.dup_x1, 1) := by decide +kernel
theorem dX11_place_80 : decode cX11_place 80 = .ok (.iconst 1, 1) := by decide +kernel
theorem dX11_place_81 : decode cX11_place 81 = .ok (.iadd, 1) := by decide +kernel
theorem dX11_place_82 : decode cX11_place 82 = .ok (.putfield 337, 3) := by decide +kernel
theorem pk_LandSurvey_Land_8 : pk RX2 TX2 9 8 tyX2 false := ⟨tyX2_ok, nmX2, rfl⟩
theorem dX11_place_85 : decode cX11_place 85 = .ok (.ireturn, 1) := by decide +kernel
abbrev cX11_doubt : ByteArray := prog_1_method_34_code
def yX11_doubt : MethodName := ⟨RX11, "doubt", "()I"⟩
theorem okX11_doubt : yok yX11_doubt 0 := by decide +kernel
theorem dX11_doubt_0 : decode cX11_doubt 0 = .ok (.aload_n 0, 1) := by decide +kernel
theorem dX11_doubt_1 : decode cX11_doubt 1 = .ok (.invokevirtual 346, 3) := by decide +kernel
theorem kw_1316 : Cond.code yX11_knownBest prog_1_method_58_code 1 (some (.object "LandSurvey$Ground")) ∈ uu := uu_in (i := 1316) (by decide +kernel) (by decide +kernel)
theorem kw_1313 : Cond.methodLink "LandSurvey" 346 yX11_knownBest ∈ uu := uu_in (i := 1313) (by decide +kernel) (by decide +kernel)
theorem kw_1315 : Cond.instanceMethod yX11_knownBest ∈ uu := uu_in (i := 1315) (by decide +kernel) (by decide +kernel)
theorem kw_53 : Cond.selects "LandSurvey" yX11_knownBest yX11_knownBest ∈ uu := uu_in (i := 53) (by decide +kernel) (by decide +kernel)
theorem lk_LandSurvey_346 : lkV "LandSurvey" 346 yX11_knownBest cX11_knownBest 1 (some (.object "LandSurvey$Ground")) 0 := ⟨kw_1313, kw_1315, kw_53, kw_144, kw_1316, okX11_knownBest⟩
theorem dX11_doubt_4 : decode cX11_doubt 4 = .ok (.astore_n 1, 1) := by decide +kernel
theorem dX11_doubt_5 : decode cX11_doubt 5 = .ok (.aload_n 1, 1) := by decide +kernel
theorem dX11_doubt_6 : decode cX11_doubt 6 = .ok (.ifnonnull 7, 3) := by decide +kernel
theorem dX11_doubt_13 : decode cX11_doubt 13 = .ok (.aload_n 0, 1) := by decide +kernel
theorem dX11_doubt_14 : decode cX11_doubt 14 = .ok (.aload_n 1, 1) := by decide +kernel
theorem dX11_doubt_15 : decode cX11_doubt 15 = .ok (.invokevirtual 350, 3) := by decide +kernel
theorem kw_1320 : Cond.code yX11_doubtIn prog_1_method_71_code 4 (some .int) ∈ uu := uu_in (i := 1320) (by decide +kernel) (by decide +kernel)
theorem kw_1317 : Cond.methodLink "LandSurvey" 350 yX11_doubtIn ∈ uu := uu_in (i := 1317) (by decide +kernel) (by decide +kernel)
theorem kw_1319 : Cond.instanceMethod yX11_doubtIn ∈ uu := uu_in (i := 1319) (by decide +kernel) (by decide +kernel)
theorem kw_54 : Cond.selects "LandSurvey" yX11_doubtIn yX11_doubtIn ∈ uu := uu_in (i := 54) (by decide +kernel) (by decide +kernel)
theorem lk_LandSurvey_350 : lkV "LandSurvey" 350 yX11_doubtIn cX11_doubtIn 4 (some .int) 1 := ⟨kw_1317, kw_1319, kw_54, kw_144, kw_1320, okX11_doubtIn⟩
theorem dX11_doubt_18 : decode cX11_doubt 18 = .ok (.ireturn, 1) := by decide +kernel
theorem dX11_doubt_9 : decode cX11_doubt 9 = .ok (.iconst (-1), 1) := by decide +kernel
theorem dX11_doubt_10 : decode cX11_doubt 10 = .ok (.goto 8, 3) := by decide +kernel
abbrev cX11_count : ByteArray := prog_1_method_37_code
def yX11_count : MethodName := ⟨RX11, "count", "(I)I"⟩
theorem okX11_count : yok yX11_count 1 := by decide +kernel
theorem dX11_count_0 : decode cX11_count 0 = .ok (.aload_n 0, 1) := by decide +kernel
theorem dX11_count_1 : decode cX11_count 1 = .ok (.invokevirtual 169, 3) := by decide +kernel
theorem dX11_count_4 : decode cX11_count 4 = .ok (.iload_n 1, 1) := by decide +kernel
theorem dX11_count_5 : decode cX11_count 5 = .ok (.tableswitch 160 0 12 #[67, 72, 77, 82, 88, 96, 101, 106, 112, 120, 128, 144, 152], 67) := by decide +kernel
theorem dX11_count_72 : decode cX11_count 72 = .ok (.aload_n 0, 1) := by decide +kernel
theorem dX11_count_73 : decode cX11_count 73 = .ok (.getfield 78, 3) := by decide +kernel
theorem dX11_count_76 : decode cX11_count 76 = .ok (.ireturn, 1) := by decide +kernel
theorem dX11_count_77 : decode cX11_count 77 = .ok (.aload_n 0, 1) := by decide +kernel
theorem dX11_count_78 : decode cX11_count 78 = .ok (.invokevirtual 362, 3) := by decide +kernel
theorem dX11_count_81 : decode cX11_count 81 = .ok (.ireturn, 1) := by decide +kernel
theorem dX11_count_82 : decode cX11_count 82 = .ok (.aload_n 0, 1) := by decide +kernel
theorem dX11_count_83 : decode cX11_count 83 = .ok (.getfield 102, 3) := by decide +kernel
theorem dX11_count_86 : decode cX11_count 86 = .ok (.ireturn, 1) := by decide +kernel
theorem dX11_count_87 : decode cX11_count 87 = .ok (.aload_n 0, 1) := by decide +kernel
theorem dX11_count_88 : decode cX11_count 88 = .ok (.iconst 0, 1) := by decide +kernel
theorem dX11_count_89 : decode cX11_count 89 = .ok (.invokevirtual 365, 3) := by decide +kernel
theorem kw_1352 : Cond.code yX11_countSaying prog_1_method_50_code 4 (some .int) ∈ uu := uu_in (i := 1352) (by decide +kernel) (by decide +kernel)
theorem kw_1349 : Cond.methodLink "LandSurvey" 365 yX11_countSaying ∈ uu := uu_in (i := 1349) (by decide +kernel) (by decide +kernel)
theorem kw_1351 : Cond.instanceMethod yX11_countSaying ∈ uu := uu_in (i := 1351) (by decide +kernel) (by decide +kernel)
theorem kw_57 : Cond.selects "LandSurvey" yX11_countSaying yX11_countSaying ∈ uu := uu_in (i := 57) (by decide +kernel) (by decide +kernel)
theorem lk_LandSurvey_365 : lkV "LandSurvey" 365 yX11_countSaying cX11_countSaying 4 (some .int) 1 := ⟨kw_1349, kw_1351, kw_57, kw_144, kw_1352, okX11_countSaying⟩
theorem dX11_count_92 : decode cX11_count 92 = .ok (.ireturn, 1) := by decide +kernel
theorem dX11_count_93 : decode cX11_count 93 = .ok (.aload_n 0, 1) := by decide +kernel
theorem dX11_count_94 : decode cX11_count 94 = .ok (.getfield 44, 3) := by decide +kernel
theorem dX11_count_97 : decode cX11_count 97 = .ok (.getfield 284, 3) := by decide +kernel
theorem dX11_count_100 : decode cX11_count 100 = .ok (.ireturn, 1) := by decide +kernel
theorem dX11_count_101 : decode cX11_count 101 = .ok (.aload_n 0, 1) := by decide +kernel
theorem dX11_count_102 : decode cX11_count 102 = .ok (.getfield 157, 3) := by decide +kernel
theorem dX11_count_105 : decode cX11_count 105 = .ok (.ireturn, 1) := by decide +kernel
theorem dX11_count_106 : decode cX11_count 106 = .ok (.aload_n 0, 1) := by decide +kernel
theorem dX11_count_107 : decode cX11_count 107 = .ok (.getfield 305, 3) := by decide +kernel
theorem dX11_count_110 : decode cX11_count 110 = .ok (.ireturn, 1) := by decide +kernel
theorem dX11_count_111 : decode cX11_count 111 = .ok (.aload_n 0, 1) := by decide +kernel
theorem dX11_count_112 : decode cX11_count 112 = .ok (.iconst 1, 1) := by decide +kernel
theorem dX11_count_113 : decode cX11_count 113 = .ok (.invokevirtual 365, 3) := by decide +kernel
theorem dX11_count_116 : decode cX11_count 116 = .ok (.ireturn, 1) := by decide +kernel
theorem dX11_count_117 : decode cX11_count 117 = .ok (.aload_n 0, 1) := by decide +kernel
theorem dX11_count_118 : decode cX11_count 118 = .ok (.getfield 36, 3) := by decide +kernel
theorem dX11_count_121 : decode cX11_count 121 = .ok (.getfield 369, 3) := by decide +kernel
theorem kw_380 : Cond.fieldLink "LandSurvey" 369 "LandSurvey$RuleBook" "size" "I" ∈ uu := uu_in (i := 380) (by decide +kernel) (by decide +kernel)
theorem fk_LandSurvey_369 : fkI "LandSurvey" 369 4 2 RX4 TX4 4 := ⟨rfl, rfl, inX4, by decide, kw_380, by decide⟩
theorem dX11_count_124 : decode cX11_count 124 = .ok (.ireturn, 1) := by decide +kernel
theorem dX11_count_125 : decode cX11_count 125 = .ok (.aload_n 0, 1) := by decide +kernel
theorem dX11_count_126 : decode cX11_count 126 = .ok (.getfield 29, 3) := by decide +kernel
theorem kw_473 : Cond.fieldLink "LandSurvey" 29 "LandSurvey" "reader" "LLandSurvey$Reader;" ∈ uu := uu_in (i := 473) (by decide +kernel) (by decide +kernel)
theorem fk_LandSurvey_29 : fkR "LandSurvey" 29 10 5 RX11 TX11 19 := ⟨rfl, rfl, inX11, by decide, kw_473, by decide⟩
theorem dX11_count_129 : decode cX11_count 129 = .ok (.getfield 143, 3) := by decide +kernel
theorem kw_236 : Cond.fieldLink "LandSurvey" 143 "LandSurvey$Reader" "length" "I" ∈ uu := uu_in (i := 236) (by decide +kernel) (by decide +kernel)
theorem fk_LandSurvey_143 : fkI "LandSurvey" 143 3 1 RX3 TX3 14 := ⟨rfl, rfl, inX3, by decide, kw_236, by decide⟩
theorem dX11_count_132 : decode cX11_count 132 = .ok (.ireturn, 1) := by decide +kernel
theorem dX11_count_133 : decode cX11_count 133 = .ok (.aload_n 0, 1) := by decide +kernel
theorem dX11_count_134 : decode cX11_count 134 = .ok (.invokevirtual 253, 3) := by decide +kernel
theorem dX11_count_137 : decode cX11_count 137 = .ok (.ifCond .eq 10, 3) := by decide +kernel
theorem dX11_count_147 : decode cX11_count 147 = .ok (.iconst 0, 1) := by decide +kernel
theorem dX11_count_148 : decode cX11_count 148 = .ok (.ireturn, 1) := by decide +kernel
theorem dX11_count_140 : decode cX11_count 140 = .ok (.aload_n 0, 1) := by decide +kernel
theorem dX11_count_141 : decode cX11_count 141 = .ok (.invokevirtual 372, 3) := by decide +kernel
theorem kw_1360 : Cond.code yX11_countCertain prog_1_method_61_code 3 (some .int) ∈ uu := uu_in (i := 1360) (by decide +kernel) (by decide +kernel)
theorem kw_1357 : Cond.methodLink "LandSurvey" 372 yX11_countCertain ∈ uu := uu_in (i := 1357) (by decide +kernel) (by decide +kernel)
theorem kw_1359 : Cond.instanceMethod yX11_countCertain ∈ uu := uu_in (i := 1359) (by decide +kernel) (by decide +kernel)
theorem kw_59 : Cond.selects "LandSurvey" yX11_countCertain yX11_countCertain ∈ uu := uu_in (i := 59) (by decide +kernel) (by decide +kernel)
theorem lk_LandSurvey_372 : lkV "LandSurvey" 372 yX11_countCertain cX11_countCertain 3 (some .int) 0 := ⟨kw_1357, kw_1359, kw_59, kw_144, kw_1360, okX11_countCertain⟩
theorem dX11_count_144 : decode cX11_count 144 = .ok (.goto 4, 3) := by decide +kernel
theorem dX11_count_149 : decode cX11_count 149 = .ok (.aload_n 0, 1) := by decide +kernel
theorem dX11_count_150 : decode cX11_count 150 = .ok (.getfield 16, 3) := by decide +kernel
theorem dX11_count_153 : decode cX11_count 153 = .ok (.getfield 334, 3) := by decide +kernel
theorem dX11_count_156 : decode cX11_count 156 = .ok (.ireturn, 1) := by decide +kernel
theorem dX11_count_157 : decode cX11_count 157 = .ok (.aload_n 0, 1) := by decide +kernel
theorem dX11_count_158 : decode cX11_count 158 = .ok (.getfield 16, 3) := by decide +kernel
theorem dX11_count_161 : decode cX11_count 161 = .ok (.getfield 337, 3) := by decide +kernel
theorem dX11_count_164 : decode cX11_count 164 = .ok (.ireturn, 1) := by decide +kernel
theorem dX11_count_165 : decode cX11_count 165 = .ok (.iconst (-1), 1) := by decide +kernel
theorem dX11_count_166 : decode cX11_count 166 = .ok (.ireturn, 1) := by decide +kernel
def wr_kx_X11_view : List Nat := [2201, 2215]
set_option maxRecDepth 100000 in
set_option maxHeartbeats 4000000 in
theorem kx_X11_view (l : Launch) (D : va_G) (cy : Nat → ClassId) (w : Nat → Nat) (z0 : Nat) {h : Hp} {a0 : Nat} {a1 : Int}  (O : Okh h) (ta0 : Tg h a0 = 11) (fa1 : (-2147483648) ≤ a1 ∧ a1 ≤ 2147483647) (P_XInv : XInv h a0) : MI l D cy w z0 yX11_view cX11_view 2 (some .boolean) 0 0 0 0 [.inr (.inr a0), .inl a1] h (fun v h1 => Okh h1 ∧ Fx wr_kx_X11_view h h1 ∧ (0 ≤ v ∧ v ≤ 1) ∧ (XInv h1 a0)) := by
  obtain ⟨v1, e2⟩ : ∃ z, Rv h a0 3 = z := ⟨_, rfl⟩
  have t3 := ok_R O ta0 rE_11_3 e2
  have l4 := ok_L O ta0 rE_11_3 e2
  obtain ⟨v5, e6⟩ : ∃ z, Iv h a0 4 = z := ⟨_, rfl⟩
  have f7 := ok_I O ta0 rI_11_4 e6
  obtain ⟨v8, e9⟩ : ∃ z, Rv h a0 8 = z := ⟨_, rfl⟩
  have t10 := ok_R O ta0 rE_11_8 e9
  have l11 := ok_L O ta0 rE_11_8 e9
  obtain ⟨v12, e13⟩ : ∃ z, Iv h a0 9 = z := ⟨_, rfl⟩
  have f14 := ok_I O ta0 rI_11_9 e13
  obtain ⟨v15, e16⟩ : ∃ z, Rv h a0 11 = z := ⟨_, rfl⟩
  have t17 := ok_R O ta0 rE_11_11 e16
  have l18 := ok_L O ta0 rE_11_11 e16
  obtain ⟨v19, e20⟩ : ∃ z, Iv h a0 12 = z := ⟨_, rfl⟩
  have f21 := ok_I O ta0 rI_11_12 e20
  obtain ⟨v22, e23⟩ : ∃ z, Iv h a0 15 = z := ⟨_, rfl⟩
  have f24 := ok_I O ta0 rI_11_15 e23
  obtain ⟨v25, e26⟩ : ∃ z, Rv h a0 14 = z := ⟨_, rfl⟩
  have t27 := ok_R O ta0 rE_11_14 e26
  have l28 := ok_L O ta0 rE_11_14 e26
  obtain ⟨v29, e30⟩ : ∃ z, Rv h a0 13 = z := ⟨_, rfl⟩
  have t31 := ok_R O ta0 rE_11_13 e30
  obtain ⟨v32, e33⟩ : ∃ z, Rv h a0 6 = z := ⟨_, rfl⟩
  have t34 := ok_R O ta0 rE_11_6 e33
  obtain ⟨v35, e36⟩ : ∃ z, Rv h a0 7 = z := ⟨_, rfl⟩
  have t37 := ok_R O ta0 rE_11_7 e36
  have p48 := P_XInv
  unfold XInv at p48
  rw [e2, e6, e9, e13, e16, e20, e23, e26, e30, e33, e36] at p48
  obtain ⟨p38, p39, p40, p41, p42, p43, p44, p45, p46, p47⟩ := p48
  obtain ⟨v49, e50⟩ : ∃ z, Iv h v29 3 = z := ⟨_, rfl⟩
  have f51 := ok_I O t31 rI_7_3 e50
  obtain ⟨v52, e53⟩ : ∃ z, Iv h v29 4 = z := ⟨_, rfl⟩
  have f54 := ok_I O t31 rI_7_4 e53
  rw [e50] at p44
  rw [e53] at p45
  refine hm_go (by decide +kernel) (Nat.le_of_ble_eq_true rfl) (fun p e s m below meth c C hr hn => ?_)
  refine g_iload_n C rfl 1 rfl dX11_view_0 ?_
  refine g_if_lt C fa1 12 (by decide) dX11_view_1 (fun q55 => ?_) (fun q56 => ?_)
  · have f57 : (-2147483648 : Int) ≤ a1 ∧ a1 ≤ (-1 : Int) := r_lt fa1 (il 0) q55 (by decide) (by decide)
    refine g_iconst C dX11_view_12 ?_
    exact g_iret C hr (nar_z2 (iw (il 0) (by decide) (by decide))).1 (iw (il 0) (by decide) (by decide)) ⟨O, Fx.rf, (iw (il 0) (by decide) (by decide)), P_XInv⟩ (by decide) (by decide) dX11_view_13
  · have f58 : (0 : Int) ≤ a1 ∧ a1 ≤ (2147483647 : Int) := r_ge fa1 (il 0) q56 (by decide) (by decide)
    refine g_iload_n C rfl 1 rfl dX11_view_4 ?_
    refine g_aload_n C rfl 0 rfl dX11_view_5 ?_
    obtain ⟨v59, e60⟩ : ∃ z, Iv h a0 0 = z := ⟨_, rfl⟩
    have f61 := ok_I O ta0 rI_11_0 e60
    refine gf_I C fk_LandSurvey_78 rfl ta0 e60 dX11_view_6 ?_
    refine g_icmp_le C (iw f58 (by decide) (by decide)) (iw f61 (by decide) (by decide)) 14 (by decide) dX11_view_9 (fun q62 => ?_) (fun q63 => ?_)
    · have f64 : (0 : Int) ≤ a1 ∧ a1 ≤ (9999 : Int) := r_le f58 f61 q62 (by decide) (by decide)
      refine g_aload_n C rfl 0 rfl dX11_view_14 ?_
      refine g_iload_n C rfl 1 rfl dX11_view_15 ?_
      refine g_aload_n C rfl 0 rfl dX11_view_16 ?_
      refine gf_I C fk_LandSurvey_78 rfl ta0 e60 dX11_view_17 ?_
      refine g_icmp_ne C (iw f64 (by decide) (by decide)) (iw f61 (by decide) (by decide)) 27 (by decide) dX11_view_20 (fun q65 => ?_) (fun q66 => ?_)
      · refine g_iload_n C rfl 1 rfl dX11_view_27 ?_
        refine gp_I C fk_LandSurvey_9 pk_LandSurvey_1 rfl ta0 (iw f64 (by decide) (by decide)) (nf_i _) dX11_view_28 (fun h68 hh67 => ?_)
        have O69 := O.pI ta0 hh67 rI_11_1 (iw f64 (by decide) (by decide)) nofun
        refine g_aload_n C rfl 0 rfl dX11_view_31 ?_
        refine g_iconst C dX11_view_32 ?_
        have e70 : Tg h68 a0 = 11 := ((pIT hh67).trans ta0)
        refine gp_I C fk_LandSurvey_81 pk_LandSurvey_15 rfl e70 (iw (il 0) (by decide) (by decide)) (nar_z2 (iw (il 0) (by decide) (by decide))) dX11_view_33 (fun h72 hh71 => ?_)
        have O73 := O69.pI e70 hh71 rI_11_15 (iw (il 0) (by decide) (by decide)) nofun
        refine g_iconst C dX11_view_36 ?_
        have e74 : Rv h72 a0 3 = v1 := ((pIR hh71).trans ((pIR hh67).trans e2))
        have e75 : Iv h72 a0 4 = v5 := ((pI_j hh71 (by decide)).trans ((pI_j hh67 (by decide)).trans e6))
        have e76 : Rv h72 a0 8 = v8 := ((pIR hh71).trans ((pIR hh67).trans e9))
        have e77 : Iv h72 a0 9 = v12 := ((pI_j hh71 (by decide)).trans ((pI_j hh67 (by decide)).trans e13))
        have e78 : Rv h72 a0 11 = v15 := ((pIR hh71).trans ((pIR hh67).trans e16))
        have e79 : Iv h72 a0 12 = v19 := ((pI_j hh71 (by decide)).trans ((pI_j hh67 (by decide)).trans e20))
        have e80 : Rv h72 a0 14 = v25 := ((pIR hh71).trans ((pIR hh67).trans e26))
        have e81 : Rv h72 a0 13 = v29 := ((pIR hh71).trans ((pIR hh67).trans e30))
        have e82 : Rv h72 a0 6 = v32 := ((pIR hh71).trans ((pIR hh67).trans e33))
        have e83 : Rv h72 a0 7 = v35 := ((pIR hh71).trans ((pIR hh67).trans e36))
        have e84 : Rv h72 v29 1 = v1 := ((pIR hh71).trans ((pIR hh67).trans p42))
        have e85 : Rv h72 v29 2 = v8 := ((pIR hh71).trans ((pIR hh67).trans p43))
        have e86 : Tg h68 v29 = 7 := ((pIT hh67).trans t31)
        have e87 : Iv h72 v29 3 = v49 := ((pI_n hh71 (ne_tag e86 e70 (by decide))).trans ((pI_n hh67 (ne_tag t31 ta0 (by decide))).trans e50))
        have e88 : Iv h72 v29 4 = v52 := ((pI_n hh71 (ne_tag e86 e70 (by decide))).trans ((pI_n hh67 (ne_tag t31 ta0 (by decide))).trans e53))
        have e89 : Tg h68 v1 = 38104 := ((pIT hh67).trans t3)
        have p90 := (SOK_fx O69 ((Fx.rf (wr := [2215]) (h := h68)).pI e70 hh71 rfl) e89 rfl rfl rfl (SOK_fx O ((Fx.rf (wr := [2201]) (h := h)).pI ta0 hh67 rfl) t3 rfl rfl rfl p38))
        have e91 : Tg h68 v8 = 39105 := ((pIT hh67).trans t10)
        have p92 := (BOK_fx O69 ((Fx.rf (wr := [2215]) (h := h68)).pI e70 hh71 rfl) e91 rfl rfl rfl rfl (BOK_fx O ((Fx.rf (wr := [2201]) (h := h)).pI ta0 hh67 rfl) t10 rfl rfl rfl rfl p39))
        have e93 : Tg h68 v15 = 48106 := ((pIT hh67).trans t17)
        have p94 := (NN_fx ((Fx.rf (wr := [2215]) (h := h68)).pI e70 hh71 rfl) e93 ar_48106 rfl (NN_fx ((Fx.rf (wr := [2201]) (h := h)).pI ta0 hh67 rfl) t17 ar_48106 rfl p40))
        have e95 : Tg h68 v32 = 5 := ((pIT hh67).trans t34)
        have p96 := (BkOk_fx O69 ((Fx.rf (wr := [2215]) (h := h68)).pI e70 hh71 rfl) e95 rfl rfl (BkOk_fx O ((Fx.rf (wr := [2201]) (h := h)).pI ta0 hh67 rfl) t34 rfl rfl p46))
        have e97 : Tg h68 v35 = 6 := ((pIT hh67).trans t37)
        have p98 := (RulesOk_fx O69 ((Fx.rf (wr := [2215]) (h := h68)).pI e70 hh71 rfl) e97 rfl (RulesOk_fx O ((Fx.rf (wr := [2201]) (h := h)).pI ta0 hh67 rfl) t37 rfl p47))
        exact g_iret C hr (nar_z2 (iw (il 1) (by decide) (by decide))).1 (iw (il 1) (by decide) (by decide)) ⟨O73, (((Fx.rf (wr := wr_kx_X11_view)).pI ta0 hh67 rfl).pI e70 hh71 rfl), (iw (il 1) (by decide) (by decide)), (by unfold XInv; rw [e74, e75, e76, e77, e78, e79, (pI_e hh71), e80, e81, e82, e83, e84, e85, e87, e88]; exact ⟨p90, p92, p94, (fun z => absurd z (by decide)), rfl, rfl, (by omega), (by omega), p96, p98⟩)⟩ (by decide) (by decide) dX11_view_37
      · refine g_iconst C dX11_view_23 ?_
        refine g_goto C 28 (by decide) dX11_view_24 ?_
        refine gp_I C fk_LandSurvey_9 pk_LandSurvey_1 rfl ta0 (iw (il (-1)) (by decide) (by decide)) (nf_i _) dX11_view_28 (fun h100 hh99 => ?_)
        have O101 := O.pI ta0 hh99 rI_11_1 (iw (il (-1)) (by decide) (by decide)) nofun
        refine g_aload_n C rfl 0 rfl dX11_view_31 ?_
        refine g_iconst C dX11_view_32 ?_
        have e102 : Tg h100 a0 = 11 := ((pIT hh99).trans ta0)
        refine gp_I C fk_LandSurvey_81 pk_LandSurvey_15 rfl e102 (iw (il 0) (by decide) (by decide)) (nar_z2 (iw (il 0) (by decide) (by decide))) dX11_view_33 (fun h104 hh103 => ?_)
        have O105 := O101.pI e102 hh103 rI_11_15 (iw (il 0) (by decide) (by decide)) nofun
        refine g_iconst C dX11_view_36 ?_
        have e106 : Rv h104 a0 3 = v1 := ((pIR hh103).trans ((pIR hh99).trans e2))
        have e107 : Iv h104 a0 4 = v5 := ((pI_j hh103 (by decide)).trans ((pI_j hh99 (by decide)).trans e6))
        have e108 : Rv h104 a0 8 = v8 := ((pIR hh103).trans ((pIR hh99).trans e9))
        have e109 : Iv h104 a0 9 = v12 := ((pI_j hh103 (by decide)).trans ((pI_j hh99 (by decide)).trans e13))
        have e110 : Rv h104 a0 11 = v15 := ((pIR hh103).trans ((pIR hh99).trans e16))
        have e111 : Iv h104 a0 12 = v19 := ((pI_j hh103 (by decide)).trans ((pI_j hh99 (by decide)).trans e20))
        have e112 : Rv h104 a0 14 = v25 := ((pIR hh103).trans ((pIR hh99).trans e26))
        have e113 : Rv h104 a0 13 = v29 := ((pIR hh103).trans ((pIR hh99).trans e30))
        have e114 : Rv h104 a0 6 = v32 := ((pIR hh103).trans ((pIR hh99).trans e33))
        have e115 : Rv h104 a0 7 = v35 := ((pIR hh103).trans ((pIR hh99).trans e36))
        have e116 : Rv h104 v29 1 = v1 := ((pIR hh103).trans ((pIR hh99).trans p42))
        have e117 : Rv h104 v29 2 = v8 := ((pIR hh103).trans ((pIR hh99).trans p43))
        have e118 : Tg h100 v29 = 7 := ((pIT hh99).trans t31)
        have e119 : Iv h104 v29 3 = v49 := ((pI_n hh103 (ne_tag e118 e102 (by decide))).trans ((pI_n hh99 (ne_tag t31 ta0 (by decide))).trans e50))
        have e120 : Iv h104 v29 4 = v52 := ((pI_n hh103 (ne_tag e118 e102 (by decide))).trans ((pI_n hh99 (ne_tag t31 ta0 (by decide))).trans e53))
        have e121 : Tg h100 v1 = 38104 := ((pIT hh99).trans t3)
        have p122 := (SOK_fx O101 ((Fx.rf (wr := [2215]) (h := h100)).pI e102 hh103 rfl) e121 rfl rfl rfl (SOK_fx O ((Fx.rf (wr := [2201]) (h := h)).pI ta0 hh99 rfl) t3 rfl rfl rfl p38))
        have e123 : Tg h100 v8 = 39105 := ((pIT hh99).trans t10)
        have p124 := (BOK_fx O101 ((Fx.rf (wr := [2215]) (h := h100)).pI e102 hh103 rfl) e123 rfl rfl rfl rfl (BOK_fx O ((Fx.rf (wr := [2201]) (h := h)).pI ta0 hh99 rfl) t10 rfl rfl rfl rfl p39))
        have e125 : Tg h100 v15 = 48106 := ((pIT hh99).trans t17)
        have p126 := (NN_fx ((Fx.rf (wr := [2215]) (h := h100)).pI e102 hh103 rfl) e125 ar_48106 rfl (NN_fx ((Fx.rf (wr := [2201]) (h := h)).pI ta0 hh99 rfl) t17 ar_48106 rfl p40))
        have e127 : Tg h100 v32 = 5 := ((pIT hh99).trans t34)
        have p128 := (BkOk_fx O101 ((Fx.rf (wr := [2215]) (h := h100)).pI e102 hh103 rfl) e127 rfl rfl (BkOk_fx O ((Fx.rf (wr := [2201]) (h := h)).pI ta0 hh99 rfl) t34 rfl rfl p46))
        have e129 : Tg h100 v35 = 6 := ((pIT hh99).trans t37)
        have p130 := (RulesOk_fx O101 ((Fx.rf (wr := [2215]) (h := h100)).pI e102 hh103 rfl) e129 rfl (RulesOk_fx O ((Fx.rf (wr := [2201]) (h := h)).pI ta0 hh99 rfl) t37 rfl p47))
        exact g_iret C hr (nar_z2 (iw (il 1) (by decide) (by decide))).1 (iw (il 1) (by decide) (by decide)) ⟨O105, (((Fx.rf (wr := wr_kx_X11_view)).pI ta0 hh99 rfl).pI e102 hh103 rfl), (iw (il 1) (by decide) (by decide)), (by unfold XInv; rw [e106, e107, e108, e109, e110, e111, (pI_e hh103), e112, e113, e114, e115, e116, e117, e119, e120]; exact ⟨p122, p124, p126, (fun z => absurd z (by decide)), rfl, rfl, (by omega), (by omega), p128, p130⟩)⟩ (by decide) (by decide) dX11_view_37
    · have f131 : (1 : Int) ≤ a1 ∧ a1 ≤ (2147483647 : Int) := r_gt f58 f61 q63 (by decide) (by decide)
      refine g_iconst C dX11_view_12 ?_
      exact g_iret C hr (nar_z2 (iw (il 0) (by decide) (by decide))).1 (iw (il 0) (by decide) (by decide)) ⟨O, Fx.rf, (iw (il 0) (by decide) (by decide)), P_XInv⟩ (by decide) (by decide) dX11_view_13
def wr_kx_X11_cell : List Nat := [2215, 2420000, 2620200]
set_option maxRecDepth 100000 in
set_option maxHeartbeats 4000000 in
theorem kx_X11_cell (l : Launch) (D : va_G) (cy : Nat → ClassId) (w : Nat → Nat) (z0 : Nat) {h : Hp} {a0 : Nat} {a1 : Int} {a2 : Int} {a3 : Int} {a4 : Int}  (O : Okh h) (ta0 : Tg h a0 = 11) (fa1 : (-2147483648) ≤ a1 ∧ a1 ≤ 2147483647) (fa2 : (-2147483648) ≤ a2 ∧ a2 ≤ 2147483647) (fa3 : (-2147483648) ≤ a3 ∧ a3 ≤ 2147483647) (fa4 : 0 ≤ a4 ∧ a4 ≤ 1) (P_XInv : XInv h a0) : MI l D cy w z0 yX11_cell cX11_cell 6 (some .boolean) 1 21 0 0 [.inr (.inr a0), .inl a1, .inl a2, .inl a3, .inl a4] h (fun v h1 => Okh h1 ∧ Fx wr_kx_X11_cell h h1 ∧ (0 ≤ v ∧ v ≤ 1) ∧ (XInv h1 a0)) := by
  obtain ⟨v1, e2⟩ : ∃ z, Rv h a0 3 = z := ⟨_, rfl⟩
  have t3 := ok_R O ta0 rE_11_3 e2
  have l4 := ok_L O ta0 rE_11_3 e2
  obtain ⟨v5, e6⟩ : ∃ z, Iv h a0 4 = z := ⟨_, rfl⟩
  have f7 := ok_I O ta0 rI_11_4 e6
  obtain ⟨v8, e9⟩ : ∃ z, Rv h a0 8 = z := ⟨_, rfl⟩
  have t10 := ok_R O ta0 rE_11_8 e9
  have l11 := ok_L O ta0 rE_11_8 e9
  obtain ⟨v12, e13⟩ : ∃ z, Iv h a0 9 = z := ⟨_, rfl⟩
  have f14 := ok_I O ta0 rI_11_9 e13
  obtain ⟨v15, e16⟩ : ∃ z, Rv h a0 11 = z := ⟨_, rfl⟩
  have t17 := ok_R O ta0 rE_11_11 e16
  have l18 := ok_L O ta0 rE_11_11 e16
  obtain ⟨v19, e20⟩ : ∃ z, Iv h a0 12 = z := ⟨_, rfl⟩
  have f21 := ok_I O ta0 rI_11_12 e20
  obtain ⟨v22, e23⟩ : ∃ z, Iv h a0 15 = z := ⟨_, rfl⟩
  have f24 := ok_I O ta0 rI_11_15 e23
  obtain ⟨v25, e26⟩ : ∃ z, Rv h a0 14 = z := ⟨_, rfl⟩
  have t27 := ok_R O ta0 rE_11_14 e26
  have l28 := ok_L O ta0 rE_11_14 e26
  obtain ⟨v29, e30⟩ : ∃ z, Rv h a0 13 = z := ⟨_, rfl⟩
  have t31 := ok_R O ta0 rE_11_13 e30
  obtain ⟨v32, e33⟩ : ∃ z, Rv h a0 6 = z := ⟨_, rfl⟩
  have t34 := ok_R O ta0 rE_11_6 e33
  obtain ⟨v35, e36⟩ : ∃ z, Rv h a0 7 = z := ⟨_, rfl⟩
  have t37 := ok_R O ta0 rE_11_7 e36
  have p48 := P_XInv
  unfold XInv at p48
  rw [e2, e6, e9, e13, e16, e20, e23, e26, e30, e33, e36] at p48
  obtain ⟨p38, p39, p40, p41, p42, p43, p44, p45, p46, p47⟩ := p48
  obtain ⟨v49, e50⟩ : ∃ z, Iv h v29 3 = z := ⟨_, rfl⟩
  have f51 := ok_I O t31 rI_7_3 e50
  obtain ⟨v52, e53⟩ : ∃ z, Iv h v29 4 = z := ⟨_, rfl⟩
  have f54 := ok_I O t31 rI_7_4 e53
  rw [e50] at p44
  rw [e53] at p45
  refine hm_go (by decide +kernel) (Nat.le_of_ble_eq_true rfl) (fun p e s m below meth c C hr hn => ?_)
  refine g_iload_n C rfl 1 rfl dX11_cell_0 ?_
  refine g_iload_n C rfl 2 rfl dX11_cell_1 ?_
  refine g_callI (st := []) (gc_S C lk_LandSurvey_85 (k_X11_cellAt l D cy w z0 O fa1 fa2) rfl ⟨by decide, by decide⟩ (Nat.le_of_ble_eq_true rfl) dX11_cell_2 ⟨(by decide), (by decide)⟩) (fun r55 h56 f58 K57 => ?_)
  obtain ⟨O59, F60, f61, p62⟩ := K57
  refine g_istore C [(5, .inl r55), (0, .inr (.inr a0)), (1, .inl a1), (2, .inl a2), (3, .inl a3), (4, .inl a4)] (by decide) rfl dX11_cell_5 ?_
  refine g_iload C 0 rfl dX11_cell_7 ?_
  refine g_iconst C dX11_cell_9 ?_
  refine g_icmp_eq C (iw f61 (by decide) (by decide)) (iw (il (-1)) (by decide) (by decide)) 24 (by decide) dX11_cell_10 (fun q63 => ?_) (fun q64 => ?_)
  · have f65 : (-1 : Int) ≤ r55 ∧ r55 ≤ (-1 : Int) := ii f61 (r_eq (il (-1)) q63) (by decide) (by decide)
    refine g_iconst C dX11_cell_24 ?_
    have p66 := (XInv_fx O F60 ta0 rfl P_XInv)
    exact g_iret C hr (nar_z2 (iw (il 0) (by decide) (by decide))).1 (iw (il 0) (by decide) (by decide)) ⟨O59, ((Fx.rf (wr := wr_kx_X11_cell)).call F60 rfl), (iw (il 0) (by decide) (by decide)), p66⟩ (by decide) (by decide) dX11_cell_25
  · have f67 : (0 : Int) ≤ r55 ∧ r55 ≤ (95 : Int) := r_nl f61 q64
    refine g_iload_n C rfl 4 rfl dX11_cell_13 ?_
    refine g_if_lt C fa3 24 (by decide) dX11_cell_14 (fun q68 => ?_) (fun q69 => ?_)
    · have f70 : (-2147483648 : Int) ≤ a3 ∧ a3 ≤ (-1 : Int) := r_lt fa3 (il 0) q68 (by decide) (by decide)
      refine g_iconst C dX11_cell_24 ?_
      have p71 := (XInv_fx O F60 ta0 rfl P_XInv)
      exact g_iret C hr (nar_z2 (iw (il 0) (by decide) (by decide))).1 (iw (il 0) (by decide) (by decide)) ⟨O59, ((Fx.rf (wr := wr_kx_X11_cell)).call F60 rfl), (iw (il 0) (by decide) (by decide)), p71⟩ (by decide) (by decide) dX11_cell_25
    · have f72 : (0 : Int) ≤ a3 ∧ a3 ≤ (2147483647 : Int) := r_ge fa3 (il 0) q69 (by decide) (by decide)
      refine g_iload_n C rfl 4 rfl dX11_cell_17 ?_
      refine g_sipush C (by decide) dX11_cell_18 ?_
      refine g_icmp_le C (iw f72 (by decide) (by decide)) (iw (il 999) (by decide) (by decide)) 26 (by decide) dX11_cell_21 (fun q73 => ?_) (fun q74 => ?_)
      · have f75 : (0 : Int) ≤ a3 ∧ a3 ≤ (999 : Int) := r_le f72 (il 999) q73 (by decide) (by decide)
        refine g_aload_n C rfl 1 rfl dX11_cell_26 ?_
        have e76 : Tg h56 a0 = 11 := (fxT F60 ta0)
        obtain ⟨v77, e78⟩ : ∃ z, Rv h56 a0 2 = z := ⟨_, rfl⟩
        have t79 := ok_R O59 e76 rE_11_2 e78
        refine gf_R C fk_LandSurvey_16 rfl e76 e78 dX11_cell_27 ?_
        obtain ⟨v80, e81⟩ : ∃ z, Rv h56 v77 0 = z := ⟨_, rfl⟩
        have t82 := ok_R O59 t79 rE_3_0 e81
        have l83 := ok_L O59 t79 rE_3_0 e81
        refine gf_R C fk_LandSurvey_89 rfl t79 e81 dX11_cell_30 ?_
        refine g_iload C 0 rfl dX11_cell_33 ?_
        refine g_iload_n C rfl 4 rfl dX11_cell_35 ?_
        refine g_iast C t82 rfl l83 (ix f67 (by decide) (by decide)) (iw f75 (by decide) (by decide)) dX11_cell_36 (fun h85 hh84 => ?_)
        have O86 := O59.pIa t82 ar_12100 hh84 rI_12100_0 f75 nofun
        refine g_aload_n C rfl 1 rfl dX11_cell_37 ?_
        have e87 : Tg h85 a0 = 11 := ((pIT hh84).trans e76)
        have e88 : Rv h85 a0 2 = v77 := ((pIR hh84).trans e78)
        refine gf_R C fk_LandSurvey_16 rfl e87 e88 dX11_cell_38 ?_
        have e89 : Tg h85 v77 = 3 := ((pIT hh84).trans t79)
        obtain ⟨v90, e91⟩ : ∃ z, Rv h85 v77 1 = z := ⟨_, rfl⟩
        have t92 := ok_R O86 e89 rE_3_1 e91
        have l93 := ok_L O86 e89 rE_3_1 e91
        refine gf_R C fk_LandSurvey_92 rfl e89 e91 dX11_cell_41 ?_
        refine g_iload C 0 rfl dX11_cell_44 ?_
        refine g_iload C 5 rfl dX11_cell_46 ?_
        refine g_if_ne C (iw fa4 (by decide) (by decide)) 55 (by decide) dX11_cell_48 (fun q94 => ?_) (fun q95 => ?_)
        · have f96 : (1 : Int) ≤ a4 ∧ a4 ≤ (1 : Int) := r_nl fa4 q94
          refine g_iconst C dX11_cell_55 ?_
          refine g_zast C t92 rfl l93 (ix f67 (by decide) (by decide)) (iw (il 0) (by decide) (by decide)) dX11_cell_56 (fun h98 hh97 => ?_)
          have O99 := O86.pIa t92 ar_13101 hh97 rI_13101_0 (iw (il 0) (by decide) (by decide)) nofun
          refine g_aload_n C rfl 1 rfl dX11_cell_57 ?_
          refine g_iconst C dX11_cell_58 ?_
          have e100 : Tg h98 a0 = 11 := ((pIT hh97).trans e87)
          refine gp_I C fk_LandSurvey_81 pk_LandSurvey_15 rfl e100 (iw (il 0) (by decide) (by decide)) (nar_z2 (iw (il 0) (by decide) (by decide))) dX11_cell_59 (fun h102 hh101 => ?_)
          have O103 := O99.pI e100 hh101 rI_11_15 (iw (il 0) (by decide) (by decide)) nofun
          refine g_iconst C dX11_cell_62 ?_
          have e104 : Rv h102 a0 3 = v1 := ((pIR hh101).trans ((pIR hh97).trans ((pIR hh84).trans ((fxR F60 ta0 rfl).trans e2))))
          have e105 : Iv h102 a0 4 = v5 := ((pI_j hh101 (by decide)).trans ((pI_n hh97 (ne_tag e87 t92 (by decide))).trans ((pI_n hh84 (ne_tag e76 t82 (by decide))).trans ((fxI F60 ta0 rfl).trans e6))))
          have e106 : Rv h102 a0 8 = v8 := ((pIR hh101).trans ((pIR hh97).trans ((pIR hh84).trans ((fxR F60 ta0 rfl).trans e9))))
          have e107 : Iv h102 a0 9 = v12 := ((pI_j hh101 (by decide)).trans ((pI_n hh97 (ne_tag e87 t92 (by decide))).trans ((pI_n hh84 (ne_tag e76 t82 (by decide))).trans ((fxI F60 ta0 rfl).trans e13))))
          have e108 : Rv h102 a0 11 = v15 := ((pIR hh101).trans ((pIR hh97).trans ((pIR hh84).trans ((fxR F60 ta0 rfl).trans e16))))
          have e109 : Iv h102 a0 12 = v19 := ((pI_j hh101 (by decide)).trans ((pI_n hh97 (ne_tag e87 t92 (by decide))).trans ((pI_n hh84 (ne_tag e76 t82 (by decide))).trans ((fxI F60 ta0 rfl).trans e20))))
          have e110 : Rv h102 a0 14 = v25 := ((pIR hh101).trans ((pIR hh97).trans ((pIR hh84).trans ((fxR F60 ta0 rfl).trans e26))))
          have e111 : Rv h102 a0 13 = v29 := ((pIR hh101).trans ((pIR hh97).trans ((pIR hh84).trans ((fxR F60 ta0 rfl).trans e30))))
          have e112 : Rv h102 a0 6 = v32 := ((pIR hh101).trans ((pIR hh97).trans ((pIR hh84).trans ((fxR F60 ta0 rfl).trans e33))))
          have e113 : Rv h102 a0 7 = v35 := ((pIR hh101).trans ((pIR hh97).trans ((pIR hh84).trans ((fxR F60 ta0 rfl).trans e36))))
          have e114 : Rv h102 v29 1 = v1 := ((pIR hh101).trans ((pIR hh97).trans ((pIR hh84).trans ((fxR F60 t31 rfl).trans p42))))
          have e115 : Rv h102 v29 2 = v8 := ((pIR hh101).trans ((pIR hh97).trans ((pIR hh84).trans ((fxR F60 t31 rfl).trans p43))))
          have e116 : Tg h56 v29 = 7 := (fxT F60 t31)
          have e117 : Tg h85 v29 = 7 := ((pIT hh84).trans e116)
          have e118 : Tg h98 v29 = 7 := ((pIT hh97).trans e117)
          have e119 : Iv h102 v29 3 = v49 := ((pI_n hh101 (ne_tag e118 e100 (by decide))).trans ((pI_n hh97 (ne_tag e117 t92 (by decide))).trans ((pI_n hh84 (ne_tag e116 t82 (by decide))).trans ((fxI F60 t31 rfl).trans e50))))
          have e120 : Iv h102 v29 4 = v52 := ((pI_n hh101 (ne_tag e118 e100 (by decide))).trans ((pI_n hh97 (ne_tag e117 t92 (by decide))).trans ((pI_n hh84 (ne_tag e116 t82 (by decide))).trans ((fxI F60 t31 rfl).trans e53))))
          have e121 : Tg h56 v1 = 38104 := (fxT F60 t3)
          have e122 : Tg h85 v1 = 38104 := ((pIT hh84).trans e121)
          have e123 : Tg h98 v1 = 38104 := ((pIT hh97).trans e122)
          have p124 := (SOK_fx O99 ((Fx.rf (wr := [2215]) (h := h98)).pI e100 hh101 rfl) e123 rfl rfl rfl (SOK_fx O86 ((Fx.rf (wr := [2620200]) (h := h85)).pIa t92 ar_13101 hh97 rfl) e122 rfl rfl rfl (SOK_fx O59 ((Fx.rf (wr := [2420000]) (h := h56)).pIa t82 ar_12100 hh84 rfl) e121 rfl rfl rfl (SOK_fx O F60 t3 rfl rfl rfl p38))))
          have e125 : Tg h56 v8 = 39105 := (fxT F60 t10)
          have e126 : Tg h85 v8 = 39105 := ((pIT hh84).trans e125)
          have e127 : Tg h98 v8 = 39105 := ((pIT hh97).trans e126)
          have p128 := (BOK_fx O99 ((Fx.rf (wr := [2215]) (h := h98)).pI e100 hh101 rfl) e127 rfl rfl rfl rfl (BOK_fx O86 ((Fx.rf (wr := [2620200]) (h := h85)).pIa t92 ar_13101 hh97 rfl) e126 rfl rfl rfl rfl (BOK_fx O59 ((Fx.rf (wr := [2420000]) (h := h56)).pIa t82 ar_12100 hh84 rfl) e125 rfl rfl rfl rfl (BOK_fx O F60 t10 rfl rfl rfl rfl p39))))
          have e129 : Tg h56 v15 = 48106 := (fxT F60 t17)
          have e130 : Tg h85 v15 = 48106 := ((pIT hh84).trans e129)
          have e131 : Tg h98 v15 = 48106 := ((pIT hh97).trans e130)
          have p132 := (NN_fx ((Fx.rf (wr := [2215]) (h := h98)).pI e100 hh101 rfl) e131 ar_48106 rfl (NN_fx ((Fx.rf (wr := [2620200]) (h := h85)).pIa t92 ar_13101 hh97 rfl) e130 ar_48106 rfl (NN_fx ((Fx.rf (wr := [2420000]) (h := h56)).pIa t82 ar_12100 hh84 rfl) e129 ar_48106 rfl (NN_fx F60 t17 ar_48106 rfl p40))))
          have e133 : Tg h56 v32 = 5 := (fxT F60 t34)
          have e134 : Tg h85 v32 = 5 := ((pIT hh84).trans e133)
          have e135 : Tg h98 v32 = 5 := ((pIT hh97).trans e134)
          have p136 := (BkOk_fx O99 ((Fx.rf (wr := [2215]) (h := h98)).pI e100 hh101 rfl) e135 rfl rfl (BkOk_fx O86 ((Fx.rf (wr := [2620200]) (h := h85)).pIa t92 ar_13101 hh97 rfl) e134 rfl rfl (BkOk_fx O59 ((Fx.rf (wr := [2420000]) (h := h56)).pIa t82 ar_12100 hh84 rfl) e133 rfl rfl (BkOk_fx O F60 t34 rfl rfl p46))))
          have e137 : Tg h56 v35 = 6 := (fxT F60 t37)
          have e138 : Tg h85 v35 = 6 := ((pIT hh84).trans e137)
          have e139 : Tg h98 v35 = 6 := ((pIT hh97).trans e138)
          have p140 := (RulesOk_fx O99 ((Fx.rf (wr := [2215]) (h := h98)).pI e100 hh101 rfl) e139 rfl (RulesOk_fx O86 ((Fx.rf (wr := [2620200]) (h := h85)).pIa t92 ar_13101 hh97 rfl) e138 rfl (RulesOk_fx O59 ((Fx.rf (wr := [2420000]) (h := h56)).pIa t82 ar_12100 hh84 rfl) e137 rfl (RulesOk_fx O F60 t37 rfl p47))))
          exact g_iret C hr (nar_z2 (iw (il 1) (by decide) (by decide))).1 (iw (il 1) (by decide) (by decide)) ⟨O103, (((((Fx.rf (wr := wr_kx_X11_cell)).call F60 rfl).pIa t82 ar_12100 hh84 rfl).pIa t92 ar_13101 hh97 rfl).pI e100 hh101 rfl), (iw (il 1) (by decide) (by decide)), (by unfold XInv; rw [e104, e105, e106, e107, e108, e109, (pI_e hh101), e110, e111, e112, e113, e114, e115, e119, e120]; exact ⟨p124, p128, p132, (fun z => absurd z (by decide)), rfl, rfl, (by omega), (by omega), p136, p140⟩)⟩ (by decide) (by decide) dX11_cell_63
        · have f141 : (0 : Int) ≤ a4 ∧ a4 ≤ (0 : Int) := ii fa4 (r_eq (il 0) q95) (by decide) (by decide)
          refine g_iconst C dX11_cell_51 ?_
          refine g_goto C 56 (by decide) dX11_cell_52 ?_
          refine g_zast C t92 rfl l93 (ix f67 (by decide) (by decide)) (iw (il 1) (by decide) (by decide)) dX11_cell_56 (fun h143 hh142 => ?_)
          have O144 := O86.pIa t92 ar_13101 hh142 rI_13101_0 (iw (il 1) (by decide) (by decide)) nofun
          refine g_aload_n C rfl 1 rfl dX11_cell_57 ?_
          refine g_iconst C dX11_cell_58 ?_
          have e145 : Tg h143 a0 = 11 := ((pIT hh142).trans e87)
          refine gp_I C fk_LandSurvey_81 pk_LandSurvey_15 rfl e145 (iw (il 0) (by decide) (by decide)) (nar_z2 (iw (il 0) (by decide) (by decide))) dX11_cell_59 (fun h147 hh146 => ?_)
          have O148 := O144.pI e145 hh146 rI_11_15 (iw (il 0) (by decide) (by decide)) nofun
          refine g_iconst C dX11_cell_62 ?_
          have e149 : Rv h147 a0 3 = v1 := ((pIR hh146).trans ((pIR hh142).trans ((pIR hh84).trans ((fxR F60 ta0 rfl).trans e2))))
          have e150 : Iv h147 a0 4 = v5 := ((pI_j hh146 (by decide)).trans ((pI_n hh142 (ne_tag e87 t92 (by decide))).trans ((pI_n hh84 (ne_tag e76 t82 (by decide))).trans ((fxI F60 ta0 rfl).trans e6))))
          have e151 : Rv h147 a0 8 = v8 := ((pIR hh146).trans ((pIR hh142).trans ((pIR hh84).trans ((fxR F60 ta0 rfl).trans e9))))
          have e152 : Iv h147 a0 9 = v12 := ((pI_j hh146 (by decide)).trans ((pI_n hh142 (ne_tag e87 t92 (by decide))).trans ((pI_n hh84 (ne_tag e76 t82 (by decide))).trans ((fxI F60 ta0 rfl).trans e13))))
          have e153 : Rv h147 a0 11 = v15 := ((pIR hh146).trans ((pIR hh142).trans ((pIR hh84).trans ((fxR F60 ta0 rfl).trans e16))))
          have e154 : Iv h147 a0 12 = v19 := ((pI_j hh146 (by decide)).trans ((pI_n hh142 (ne_tag e87 t92 (by decide))).trans ((pI_n hh84 (ne_tag e76 t82 (by decide))).trans ((fxI F60 ta0 rfl).trans e20))))
          have e155 : Rv h147 a0 14 = v25 := ((pIR hh146).trans ((pIR hh142).trans ((pIR hh84).trans ((fxR F60 ta0 rfl).trans e26))))
          have e156 : Rv h147 a0 13 = v29 := ((pIR hh146).trans ((pIR hh142).trans ((pIR hh84).trans ((fxR F60 ta0 rfl).trans e30))))
          have e157 : Rv h147 a0 6 = v32 := ((pIR hh146).trans ((pIR hh142).trans ((pIR hh84).trans ((fxR F60 ta0 rfl).trans e33))))
          have e158 : Rv h147 a0 7 = v35 := ((pIR hh146).trans ((pIR hh142).trans ((pIR hh84).trans ((fxR F60 ta0 rfl).trans e36))))
          have e159 : Rv h147 v29 1 = v1 := ((pIR hh146).trans ((pIR hh142).trans ((pIR hh84).trans ((fxR F60 t31 rfl).trans p42))))
          have e160 : Rv h147 v29 2 = v8 := ((pIR hh146).trans ((pIR hh142).trans ((pIR hh84).trans ((fxR F60 t31 rfl).trans p43))))
          have e161 : Tg h56 v29 = 7 := (fxT F60 t31)
          have e162 : Tg h85 v29 = 7 := ((pIT hh84).trans e161)
          have e163 : Tg h143 v29 = 7 := ((pIT hh142).trans e162)
          have e164 : Iv h147 v29 3 = v49 := ((pI_n hh146 (ne_tag e163 e145 (by decide))).trans ((pI_n hh142 (ne_tag e162 t92 (by decide))).trans ((pI_n hh84 (ne_tag e161 t82 (by decide))).trans ((fxI F60 t31 rfl).trans e50))))
          have e165 : Iv h147 v29 4 = v52 := ((pI_n hh146 (ne_tag e163 e145 (by decide))).trans ((pI_n hh142 (ne_tag e162 t92 (by decide))).trans ((pI_n hh84 (ne_tag e161 t82 (by decide))).trans ((fxI F60 t31 rfl).trans e53))))
          have e166 : Tg h56 v1 = 38104 := (fxT F60 t3)
          have e167 : Tg h85 v1 = 38104 := ((pIT hh84).trans e166)
          have e168 : Tg h143 v1 = 38104 := ((pIT hh142).trans e167)
          have p169 := (SOK_fx O144 ((Fx.rf (wr := [2215]) (h := h143)).pI e145 hh146 rfl) e168 rfl rfl rfl (SOK_fx O86 ((Fx.rf (wr := [2620200]) (h := h85)).pIa t92 ar_13101 hh142 rfl) e167 rfl rfl rfl (SOK_fx O59 ((Fx.rf (wr := [2420000]) (h := h56)).pIa t82 ar_12100 hh84 rfl) e166 rfl rfl rfl (SOK_fx O F60 t3 rfl rfl rfl p38))))
          have e170 : Tg h56 v8 = 39105 := (fxT F60 t10)
          have e171 : Tg h85 v8 = 39105 := ((pIT hh84).trans e170)
          have e172 : Tg h143 v8 = 39105 := ((pIT hh142).trans e171)
          have p173 := (BOK_fx O144 ((Fx.rf (wr := [2215]) (h := h143)).pI e145 hh146 rfl) e172 rfl rfl rfl rfl (BOK_fx O86 ((Fx.rf (wr := [2620200]) (h := h85)).pIa t92 ar_13101 hh142 rfl) e171 rfl rfl rfl rfl (BOK_fx O59 ((Fx.rf (wr := [2420000]) (h := h56)).pIa t82 ar_12100 hh84 rfl) e170 rfl rfl rfl rfl (BOK_fx O F60 t10 rfl rfl rfl rfl p39))))
          have e174 : Tg h56 v15 = 48106 := (fxT F60 t17)
          have e175 : Tg h85 v15 = 48106 := ((pIT hh84).trans e174)
          have e176 : Tg h143 v15 = 48106 := ((pIT hh142).trans e175)
          have p177 := (NN_fx ((Fx.rf (wr := [2215]) (h := h143)).pI e145 hh146 rfl) e176 ar_48106 rfl (NN_fx ((Fx.rf (wr := [2620200]) (h := h85)).pIa t92 ar_13101 hh142 rfl) e175 ar_48106 rfl (NN_fx ((Fx.rf (wr := [2420000]) (h := h56)).pIa t82 ar_12100 hh84 rfl) e174 ar_48106 rfl (NN_fx F60 t17 ar_48106 rfl p40))))
          have e178 : Tg h56 v32 = 5 := (fxT F60 t34)
          have e179 : Tg h85 v32 = 5 := ((pIT hh84).trans e178)
          have e180 : Tg h143 v32 = 5 := ((pIT hh142).trans e179)
          have p181 := (BkOk_fx O144 ((Fx.rf (wr := [2215]) (h := h143)).pI e145 hh146 rfl) e180 rfl rfl (BkOk_fx O86 ((Fx.rf (wr := [2620200]) (h := h85)).pIa t92 ar_13101 hh142 rfl) e179 rfl rfl (BkOk_fx O59 ((Fx.rf (wr := [2420000]) (h := h56)).pIa t82 ar_12100 hh84 rfl) e178 rfl rfl (BkOk_fx O F60 t34 rfl rfl p46))))
          have e182 : Tg h56 v35 = 6 := (fxT F60 t37)
          have e183 : Tg h85 v35 = 6 := ((pIT hh84).trans e182)
          have e184 : Tg h143 v35 = 6 := ((pIT hh142).trans e183)
          have p185 := (RulesOk_fx O144 ((Fx.rf (wr := [2215]) (h := h143)).pI e145 hh146 rfl) e184 rfl (RulesOk_fx O86 ((Fx.rf (wr := [2620200]) (h := h85)).pIa t92 ar_13101 hh142 rfl) e183 rfl (RulesOk_fx O59 ((Fx.rf (wr := [2420000]) (h := h56)).pIa t82 ar_12100 hh84 rfl) e182 rfl (RulesOk_fx O F60 t37 rfl p47))))
          exact g_iret C hr (nar_z2 (iw (il 1) (by decide) (by decide))).1 (iw (il 1) (by decide) (by decide)) ⟨O148, (((((Fx.rf (wr := wr_kx_X11_cell)).call F60 rfl).pIa t82 ar_12100 hh84 rfl).pIa t92 ar_13101 hh142 rfl).pI e145 hh146 rfl), (iw (il 1) (by decide) (by decide)), (by unfold XInv; rw [e149, e150, e151, e152, e153, e154, (pI_e hh146), e155, e156, e157, e158, e159, e160, e164, e165]; exact ⟨p169, p173, p177, (fun z => absurd z (by decide)), rfl, rfl, (by omega), (by omega), p181, p185⟩)⟩ (by decide) (by decide) dX11_cell_63
      · have f186 : (1000 : Int) ≤ a3 ∧ a3 ≤ (2147483647 : Int) := r_gt f72 (il 999) q74 (by decide) (by decide)
        refine g_iconst C dX11_cell_24 ?_
        have p187 := (XInv_fx O F60 ta0 rfl P_XInv)
        exact g_iret C hr (nar_z2 (iw (il 0) (by decide) (by decide))).1 (iw (il 0) (by decide) (by decide)) ⟨O59, ((Fx.rf (wr := wr_kx_X11_cell)).call F60 rfl), (iw (il 0) (by decide) (by decide)), p187⟩ (by decide) (by decide) dX11_cell_25
def wr_kx_X11_fold : List Nat := [2215, 2820200]
set_option maxRecDepth 100000 in
set_option maxHeartbeats 4000000 in
theorem kx_X11_fold (l : Launch) (D : va_G) (cy : Nat → ClassId) (w : Nat → Nat) (z0 : Nat) {h : Hp} {a0 : Nat} {a1 : Int} {a2 : Int} {a3 : Int}  (O : Okh h) (ta0 : Tg h a0 = 11) (fa1 : (-2147483648) ≤ a1 ∧ a1 ≤ 2147483647) (fa2 : (-2147483648) ≤ a2 ∧ a2 ≤ 2147483647) (fa3 : 0 ≤ a3 ∧ a3 ≤ 1) (P_XInv : XInv h a0) : MI l D cy w z0 yX11_fold cX11_fold 5 (some .boolean) 1 21 0 0 [.inr (.inr a0), .inl a1, .inl a2, .inl a3] h (fun v h1 => Okh h1 ∧ Fx wr_kx_X11_fold h h1 ∧ (0 ≤ v ∧ v ≤ 1) ∧ (XInv h1 a0)) := by
  obtain ⟨v1, e2⟩ : ∃ z, Rv h a0 3 = z := ⟨_, rfl⟩
  have t3 := ok_R O ta0 rE_11_3 e2
  have l4 := ok_L O ta0 rE_11_3 e2
  obtain ⟨v5, e6⟩ : ∃ z, Iv h a0 4 = z := ⟨_, rfl⟩
  have f7 := ok_I O ta0 rI_11_4 e6
  obtain ⟨v8, e9⟩ : ∃ z, Rv h a0 8 = z := ⟨_, rfl⟩
  have t10 := ok_R O ta0 rE_11_8 e9
  have l11 := ok_L O ta0 rE_11_8 e9
  obtain ⟨v12, e13⟩ : ∃ z, Iv h a0 9 = z := ⟨_, rfl⟩
  have f14 := ok_I O ta0 rI_11_9 e13
  obtain ⟨v15, e16⟩ : ∃ z, Rv h a0 11 = z := ⟨_, rfl⟩
  have t17 := ok_R O ta0 rE_11_11 e16
  have l18 := ok_L O ta0 rE_11_11 e16
  obtain ⟨v19, e20⟩ : ∃ z, Iv h a0 12 = z := ⟨_, rfl⟩
  have f21 := ok_I O ta0 rI_11_12 e20
  obtain ⟨v22, e23⟩ : ∃ z, Iv h a0 15 = z := ⟨_, rfl⟩
  have f24 := ok_I O ta0 rI_11_15 e23
  obtain ⟨v25, e26⟩ : ∃ z, Rv h a0 14 = z := ⟨_, rfl⟩
  have t27 := ok_R O ta0 rE_11_14 e26
  have l28 := ok_L O ta0 rE_11_14 e26
  obtain ⟨v29, e30⟩ : ∃ z, Rv h a0 13 = z := ⟨_, rfl⟩
  have t31 := ok_R O ta0 rE_11_13 e30
  obtain ⟨v32, e33⟩ : ∃ z, Rv h a0 6 = z := ⟨_, rfl⟩
  have t34 := ok_R O ta0 rE_11_6 e33
  obtain ⟨v35, e36⟩ : ∃ z, Rv h a0 7 = z := ⟨_, rfl⟩
  have t37 := ok_R O ta0 rE_11_7 e36
  have p48 := P_XInv
  unfold XInv at p48
  rw [e2, e6, e9, e13, e16, e20, e23, e26, e30, e33, e36] at p48
  obtain ⟨p38, p39, p40, p41, p42, p43, p44, p45, p46, p47⟩ := p48
  obtain ⟨v49, e50⟩ : ∃ z, Iv h v29 3 = z := ⟨_, rfl⟩
  have f51 := ok_I O t31 rI_7_3 e50
  obtain ⟨v52, e53⟩ : ∃ z, Iv h v29 4 = z := ⟨_, rfl⟩
  have f54 := ok_I O t31 rI_7_4 e53
  rw [e50] at p44
  rw [e53] at p45
  refine hm_go (by decide +kernel) (Nat.le_of_ble_eq_true rfl) (fun p e s m below meth c C hr hn => ?_)
  refine g_iload_n C rfl 1 rfl dX11_fold_0 ?_
  refine g_iload_n C rfl 2 rfl dX11_fold_1 ?_
  refine g_callI (st := []) (gc_S C lk_LandSurvey_85 (k_X11_cellAt l D cy w z0 O fa1 fa2) rfl ⟨by decide, by decide⟩ (Nat.le_of_ble_eq_true rfl) dX11_fold_2 ⟨(by decide), (by decide)⟩) (fun r55 h56 f58 K57 => ?_)
  obtain ⟨O59, F60, f61, p62⟩ := K57
  refine g_istore C [(4, .inl r55), (0, .inr (.inr a0)), (1, .inl a1), (2, .inl a2), (3, .inl a3)] (by decide) rfl dX11_fold_5 ?_
  refine g_iload C 0 rfl dX11_fold_7 ?_
  refine g_iconst C dX11_fold_9 ?_
  refine g_icmp_ne C (iw f61 (by decide) (by decide)) (iw (il (-1)) (by decide) (by decide)) 15 (by decide) dX11_fold_10 (fun q63 => ?_) (fun q64 => ?_)
  · have f65 : (0 : Int) ≤ r55 ∧ r55 ≤ (95 : Int) := r_nl f61 q63
    refine g_aload_n C rfl 1 rfl dX11_fold_15 ?_
    have e66 : Tg h56 a0 = 11 := (fxT F60 ta0)
    obtain ⟨v67, e68⟩ : ∃ z, Rv h56 a0 2 = z := ⟨_, rfl⟩
    have t69 := ok_R O59 e66 rE_11_2 e68
    refine gf_R C fk_LandSurvey_16 rfl e66 e68 dX11_fold_16 ?_
    obtain ⟨v70, e71⟩ : ∃ z, Rv h56 v67 2 = z := ⟨_, rfl⟩
    have t72 := ok_R O59 t69 rE_3_2 e71
    have l73 := ok_L O59 t69 rE_3_2 e71
    refine gf_R C fk_LandSurvey_96 rfl t69 e71 dX11_fold_19 ?_
    refine g_iload C 0 rfl dX11_fold_22 ?_
    refine g_iload_n C rfl 4 rfl dX11_fold_24 ?_
    refine g_zast C t72 rfl l73 (ix f65 (by decide) (by decide)) fa3 dX11_fold_25 (fun h75 hh74 => ?_)
    have O76 := O59.pIa t72 ar_14101 hh74 rI_14101_0 fa3 nofun
    refine g_aload_n C rfl 1 rfl dX11_fold_26 ?_
    refine g_iconst C dX11_fold_27 ?_
    have e77 : Tg h75 a0 = 11 := ((pIT hh74).trans e66)
    refine gp_I C fk_LandSurvey_81 pk_LandSurvey_15 rfl e77 (iw (il 0) (by decide) (by decide)) (nar_z2 (iw (il 0) (by decide) (by decide))) dX11_fold_28 (fun h79 hh78 => ?_)
    have O80 := O76.pI e77 hh78 rI_11_15 (iw (il 0) (by decide) (by decide)) nofun
    refine g_iconst C dX11_fold_31 ?_
    have e81 : Rv h79 a0 3 = v1 := ((pIR hh78).trans ((pIR hh74).trans ((fxR F60 ta0 rfl).trans e2)))
    have e82 : Iv h79 a0 4 = v5 := ((pI_j hh78 (by decide)).trans ((pI_n hh74 (ne_tag e66 t72 (by decide))).trans ((fxI F60 ta0 rfl).trans e6)))
    have e83 : Rv h79 a0 8 = v8 := ((pIR hh78).trans ((pIR hh74).trans ((fxR F60 ta0 rfl).trans e9)))
    have e84 : Iv h79 a0 9 = v12 := ((pI_j hh78 (by decide)).trans ((pI_n hh74 (ne_tag e66 t72 (by decide))).trans ((fxI F60 ta0 rfl).trans e13)))
    have e85 : Rv h79 a0 11 = v15 := ((pIR hh78).trans ((pIR hh74).trans ((fxR F60 ta0 rfl).trans e16)))
    have e86 : Iv h79 a0 12 = v19 := ((pI_j hh78 (by decide)).trans ((pI_n hh74 (ne_tag e66 t72 (by decide))).trans ((fxI F60 ta0 rfl).trans e20)))
    have e87 : Rv h79 a0 14 = v25 := ((pIR hh78).trans ((pIR hh74).trans ((fxR F60 ta0 rfl).trans e26)))
    have e88 : Rv h79 a0 13 = v29 := ((pIR hh78).trans ((pIR hh74).trans ((fxR F60 ta0 rfl).trans e30)))
    have e89 : Rv h79 a0 6 = v32 := ((pIR hh78).trans ((pIR hh74).trans ((fxR F60 ta0 rfl).trans e33)))
    have e90 : Rv h79 a0 7 = v35 := ((pIR hh78).trans ((pIR hh74).trans ((fxR F60 ta0 rfl).trans e36)))
    have e91 : Rv h79 v29 1 = v1 := ((pIR hh78).trans ((pIR hh74).trans ((fxR F60 t31 rfl).trans p42)))
    have e92 : Rv h79 v29 2 = v8 := ((pIR hh78).trans ((pIR hh74).trans ((fxR F60 t31 rfl).trans p43)))
    have e93 : Tg h56 v29 = 7 := (fxT F60 t31)
    have e94 : Tg h75 v29 = 7 := ((pIT hh74).trans e93)
    have e95 : Iv h79 v29 3 = v49 := ((pI_n hh78 (ne_tag e94 e77 (by decide))).trans ((pI_n hh74 (ne_tag e93 t72 (by decide))).trans ((fxI F60 t31 rfl).trans e50)))
    have e96 : Iv h79 v29 4 = v52 := ((pI_n hh78 (ne_tag e94 e77 (by decide))).trans ((pI_n hh74 (ne_tag e93 t72 (by decide))).trans ((fxI F60 t31 rfl).trans e53)))
    have e97 : Tg h56 v1 = 38104 := (fxT F60 t3)
    have e98 : Tg h75 v1 = 38104 := ((pIT hh74).trans e97)
    have p99 := (SOK_fx O76 ((Fx.rf (wr := [2215]) (h := h75)).pI e77 hh78 rfl) e98 rfl rfl rfl (SOK_fx O59 ((Fx.rf (wr := [2820200]) (h := h56)).pIa t72 ar_14101 hh74 rfl) e97 rfl rfl rfl (SOK_fx O F60 t3 rfl rfl rfl p38)))
    have e100 : Tg h56 v8 = 39105 := (fxT F60 t10)
    have e101 : Tg h75 v8 = 39105 := ((pIT hh74).trans e100)
    have p102 := (BOK_fx O76 ((Fx.rf (wr := [2215]) (h := h75)).pI e77 hh78 rfl) e101 rfl rfl rfl rfl (BOK_fx O59 ((Fx.rf (wr := [2820200]) (h := h56)).pIa t72 ar_14101 hh74 rfl) e100 rfl rfl rfl rfl (BOK_fx O F60 t10 rfl rfl rfl rfl p39)))
    have e103 : Tg h56 v15 = 48106 := (fxT F60 t17)
    have e104 : Tg h75 v15 = 48106 := ((pIT hh74).trans e103)
    have p105 := (NN_fx ((Fx.rf (wr := [2215]) (h := h75)).pI e77 hh78 rfl) e104 ar_48106 rfl (NN_fx ((Fx.rf (wr := [2820200]) (h := h56)).pIa t72 ar_14101 hh74 rfl) e103 ar_48106 rfl (NN_fx F60 t17 ar_48106 rfl p40)))
    have e106 : Tg h56 v32 = 5 := (fxT F60 t34)
    have e107 : Tg h75 v32 = 5 := ((pIT hh74).trans e106)
    have p108 := (BkOk_fx O76 ((Fx.rf (wr := [2215]) (h := h75)).pI e77 hh78 rfl) e107 rfl rfl (BkOk_fx O59 ((Fx.rf (wr := [2820200]) (h := h56)).pIa t72 ar_14101 hh74 rfl) e106 rfl rfl (BkOk_fx O F60 t34 rfl rfl p46)))
    have e109 : Tg h56 v35 = 6 := (fxT F60 t37)
    have e110 : Tg h75 v35 = 6 := ((pIT hh74).trans e109)
    have p111 := (RulesOk_fx O76 ((Fx.rf (wr := [2215]) (h := h75)).pI e77 hh78 rfl) e110 rfl (RulesOk_fx O59 ((Fx.rf (wr := [2820200]) (h := h56)).pIa t72 ar_14101 hh74 rfl) e109 rfl (RulesOk_fx O F60 t37 rfl p47)))
    exact g_iret C hr (nar_z2 (iw (il 1) (by decide) (by decide))).1 (iw (il 1) (by decide) (by decide)) ⟨O80, ((((Fx.rf (wr := wr_kx_X11_fold)).call F60 rfl).pIa t72 ar_14101 hh74 rfl).pI e77 hh78 rfl), (iw (il 1) (by decide) (by decide)), (by unfold XInv; rw [e81, e82, e83, e84, e85, e86, (pI_e hh78), e87, e88, e89, e90, e91, e92, e95, e96]; exact ⟨p99, p102, p105, (fun z => absurd z (by decide)), rfl, rfl, (by omega), (by omega), p108, p111⟩)⟩ (by decide) (by decide) dX11_fold_32
  · have f112 : (-1 : Int) ≤ r55 ∧ r55 ≤ (-1 : Int) := ii f61 (r_eq (il (-1)) q64) (by decide) (by decide)
    refine g_iconst C dX11_fold_13 ?_
    have p113 := (XInv_fx O F60 ta0 rfl P_XInv)
    exact g_iret C hr (nar_z2 (iw (il 0) (by decide) (by decide))).1 (iw (il 0) (by decide) (by decide)) ⟨O59, ((Fx.rf (wr := wr_kx_X11_fold)).call F60 rfl), (iw (il 0) (by decide) (by decide)), p113⟩ (by decide) (by decide) dX11_fold_14
def wr_k_X11_remain : List Nat := [1811, 1812]
set_option maxRecDepth 100000 in
set_option maxHeartbeats 4000000 in
theorem k_X11_remain (l : Launch) (D : va_G) (cy : Nat → ClassId) (w : Nat → Nat) (z0 : Nat) {h : Hp} {a0 : Nat} {a1 : Int} {a2 : Int} {a3 : Int}  (O : Okh h) (ta0 : Tg h a0 = 11) (fa1 : (-2147483648) ≤ a1 ∧ a1 ≤ 2147483647) (fa2 : (-2147483648) ≤ a2 ∧ a2 ≤ 2147483647) (fa3 : 0 ≤ a3 ∧ a3 ≤ 1) (P_XInv : XInv h a0) : MI l D cy w z0 yX11_remain cX11_remain 4 (some .boolean) 1 21 0 0 [.inr (.inr a0), .inl a1, .inl a2, .inl a3] h (fun v h1 => Okh h1 ∧ Fx wr_k_X11_remain h h1 ∧ (0 ≤ v ∧ v ≤ 1) ∧ (XInv h1 a0)) := by
  obtain ⟨v1, e2⟩ : ∃ z, Rv h a0 3 = z := ⟨_, rfl⟩
  have t3 := ok_R O ta0 rE_11_3 e2
  have l4 := ok_L O ta0 rE_11_3 e2
  obtain ⟨v5, e6⟩ : ∃ z, Iv h a0 4 = z := ⟨_, rfl⟩
  have f7 := ok_I O ta0 rI_11_4 e6
  obtain ⟨v8, e9⟩ : ∃ z, Rv h a0 8 = z := ⟨_, rfl⟩
  have t10 := ok_R O ta0 rE_11_8 e9
  have l11 := ok_L O ta0 rE_11_8 e9
  obtain ⟨v12, e13⟩ : ∃ z, Iv h a0 9 = z := ⟨_, rfl⟩
  have f14 := ok_I O ta0 rI_11_9 e13
  obtain ⟨v15, e16⟩ : ∃ z, Rv h a0 11 = z := ⟨_, rfl⟩
  have t17 := ok_R O ta0 rE_11_11 e16
  have l18 := ok_L O ta0 rE_11_11 e16
  obtain ⟨v19, e20⟩ : ∃ z, Iv h a0 12 = z := ⟨_, rfl⟩
  have f21 := ok_I O ta0 rI_11_12 e20
  obtain ⟨v22, e23⟩ : ∃ z, Iv h a0 15 = z := ⟨_, rfl⟩
  have f24 := ok_I O ta0 rI_11_15 e23
  obtain ⟨v25, e26⟩ : ∃ z, Rv h a0 14 = z := ⟨_, rfl⟩
  have t27 := ok_R O ta0 rE_11_14 e26
  have l28 := ok_L O ta0 rE_11_14 e26
  obtain ⟨v29, e30⟩ : ∃ z, Rv h a0 13 = z := ⟨_, rfl⟩
  have t31 := ok_R O ta0 rE_11_13 e30
  obtain ⟨v32, e33⟩ : ∃ z, Rv h a0 6 = z := ⟨_, rfl⟩
  have t34 := ok_R O ta0 rE_11_6 e33
  obtain ⟨v35, e36⟩ : ∃ z, Rv h a0 7 = z := ⟨_, rfl⟩
  have t37 := ok_R O ta0 rE_11_7 e36
  have p48 := P_XInv
  unfold XInv at p48
  rw [e2, e6, e9, e13, e16, e20, e23, e26, e30, e33, e36] at p48
  obtain ⟨p38, p39, p40, p41, p42, p43, p44, p45, p46, p47⟩ := p48
  obtain ⟨v49, e50⟩ : ∃ z, Iv h v29 3 = z := ⟨_, rfl⟩
  have f51 := ok_I O t31 rI_7_3 e50
  obtain ⟨v52, e53⟩ : ∃ z, Iv h v29 4 = z := ⟨_, rfl⟩
  have f54 := ok_I O t31 rI_7_4 e53
  rw [e50] at p44
  rw [e53] at p45
  refine hm_go (by decide +kernel) (Nat.le_of_ble_eq_true rfl) (fun p e s m below meth c C hr hn => ?_)
  refine g_aload_n C rfl 0 rfl dX11_remain_0 ?_
  refine g_iload_n C rfl 1 rfl dX11_remain_1 ?_
  refine g_callI (st := []) (gc_V C lk_LandSurvey_108 (k_X11_isSight l D cy w z0 O ta0 fa1) ta0 rfl rfl rfl ⟨by decide, by decide⟩ (Nat.le_of_ble_eq_true rfl) dX11_remain_2 ⟨(by decide), (by decide)⟩) (fun r55 h56 f58 K57 => ?_)
  obtain ⟨O59, F60, f61, p62⟩ := K57
  refine g_if_eq C (iw f61 (by decide) (by decide)) 31 (by decide) dX11_remain_5 (fun q63 => ?_) (fun q64 => ?_)
  · have f65 : (0 : Int) ≤ r55 ∧ r55 ≤ (0 : Int) := ii f61 (r_eq (il 0) q63) (by decide) (by decide)
    refine g_iconst C dX11_remain_31 ?_
    have p66 := (XInv_fx O F60 ta0 rfl P_XInv)
    exact g_iret C hr (nar_z2 (iw (il 0) (by decide) (by decide))).1 (iw (il 0) (by decide) (by decide)) ⟨O59, ((Fx.rf (wr := wr_k_X11_remain)).call F60 rfl), (iw (il 0) (by decide) (by decide)), p66⟩ (by decide) (by decide) dX11_remain_32
  · have f67 : (1 : Int) ≤ r55 ∧ r55 ≤ (1 : Int) := r_nl f61 q64
    refine g_aload_n C rfl 0 rfl dX11_remain_8 ?_
    have e68 : Tg h56 a0 = 11 := (fxT F60 ta0)
    have e69 : Rv h56 a0 3 = v1 := ((fxR F60 ta0 rfl).trans e2)
    refine gf_R C fk_LandSurvey_22 rfl e68 e69 dX11_remain_9 ?_
    refine g_iload_n C rfl 1 rfl dX11_remain_12 ?_
    have e70 : Tg h56 v1 = 38104 := (fxT F60 t3)
    have e71 : Ln h56 v1 = 40 := ((fxL F60 t3).trans l4)
    obtain ⟨v72, e73⟩ : ∃ z, Rv h56 v1 a1.toNat = z := ⟨_, rfl⟩
    refine g_aald (t := 4) C e70 rfl (by decide) rfl e71 (by omega) e73 dX11_remain_13 ?_
    have p74 := (SOK_fx O F60 t3 rfl rfl rfl p38)
    have q75 := nn_get p74.nn (by omega) e73
    have t76 := ok_Na O59 e70 ar_38104 rE_38104_0 e73 q75
    obtain ⟨v77, e78⟩ : ∃ z, Iv h56 v72 11 = z := ⟨_, rfl⟩
    have f79 := ok_I O59 t76 rI_9_11 e78
    refine gf_I C fk_LandSurvey_130 rfl t76 e78 dX11_remain_14 ?_
    refine g_iconst C dX11_remain_17 ?_
    refine g_icmp_ne C (iw f79 (by decide) (by decide)) (iw (il (-1)) (by decide) (by decide)) 31 (by decide) dX11_remain_18 (fun q80 => ?_) (fun q81 => ?_)
    · have f82 : (0 : Int) ≤ v77 ∧ v77 ≤ (9 : Int) := r_nl f79 q80
      refine g_iconst C dX11_remain_31 ?_
      have p83 := (XInv_fx O F60 ta0 rfl P_XInv)
      exact g_iret C hr (nar_z2 (iw (il 0) (by decide) (by decide))).1 (iw (il 0) (by decide) (by decide)) ⟨O59, ((Fx.rf (wr := wr_k_X11_remain)).call F60 rfl), (iw (il 0) (by decide) (by decide)), p83⟩ (by decide) (by decide) dX11_remain_32
    · have f84 : (-1 : Int) ≤ v77 ∧ v77 ≤ (-1 : Int) := ii f79 (r_eq (il (-1)) q81) (by decide) (by decide)
      refine g_iload_n C rfl 2 rfl dX11_remain_21 ?_
      refine g_if_lt C fa2 31 (by decide) dX11_remain_22 (fun q85 => ?_) (fun q86 => ?_)
      · have f87 : (-2147483648 : Int) ≤ a2 ∧ a2 ≤ (-1 : Int) := r_lt fa2 (il 0) q85 (by decide) (by decide)
        refine g_iconst C dX11_remain_31 ?_
        have p88 := (XInv_fx O F60 ta0 rfl P_XInv)
        exact g_iret C hr (nar_z2 (iw (il 0) (by decide) (by decide))).1 (iw (il 0) (by decide) (by decide)) ⟨O59, ((Fx.rf (wr := wr_k_X11_remain)).call F60 rfl), (iw (il 0) (by decide) (by decide)), p88⟩ (by decide) (by decide) dX11_remain_32
      · have f89 : (0 : Int) ≤ a2 ∧ a2 ≤ (2147483647 : Int) := r_ge fa2 (il 0) q86 (by decide) (by decide)
        refine g_iload_n C rfl 2 rfl dX11_remain_25 ?_
        refine g_bipush C (by decide) dX11_remain_26 ?_
        refine g_icmp_lt C (iw f89 (by decide) (by decide)) (iw (il 10) (by decide) (by decide)) 33 (by decide) dX11_remain_28 (fun q90 => ?_) (fun q91 => ?_)
        · have f92 : (0 : Int) ≤ a2 ∧ a2 ≤ (9 : Int) := r_lt f89 (il 10) q90 (by decide) (by decide)
          refine g_aload_n C rfl 0 rfl dX11_remain_33 ?_
          refine gf_R C fk_LandSurvey_22 rfl e68 e69 dX11_remain_34 ?_
          refine g_iload_n C rfl 1 rfl dX11_remain_37 ?_
          refine g_aald (t := 4) C e70 rfl (by decide) rfl e71 (by omega) e73 dX11_remain_38 ?_
          refine g_iload_n C rfl 2 rfl dX11_remain_39 ?_
          refine gp_I C fk_LandSurvey_130 pk_LandSurvey_Sight_11 rfl t76 (iw f92 (by decide) (by decide)) (nf_i _) dX11_remain_40 (fun h94 hh93 => ?_)
          have O95 := O59.pI t76 hh93 rI_9_11 (iw f92 (by decide) (by decide)) nofun
          refine g_aload_n C rfl 0 rfl dX11_remain_43 ?_
          have e96 : Tg h94 a0 = 11 := ((pIT hh93).trans e68)
          have e97 : Rv h94 a0 3 = v1 := ((pIR hh93).trans e69)
          refine gf_R C fk_LandSurvey_22 rfl e96 e97 dX11_remain_44 ?_
          refine g_iload_n C rfl 1 rfl dX11_remain_47 ?_
          have e98 : Tg h94 v1 = 38104 := ((pIT hh93).trans e70)
          have e99 : Ln h94 v1 = 40 := ((pIL hh93).trans e71)
          have e100 : Rv h94 v1 a1.toNat = v72 := ((pIR hh93).trans e73)
          refine g_aald (t := 4) C e98 rfl (by decide) rfl e99 (by omega) e100 dX11_remain_48 ?_
          have e101 : Tg h94 v72 = 9 := ((pIT hh93).trans t76)
          refine g_iload_n C rfl 3 rfl dX11_remain_49 ?_
          refine gp_I C fk_LandSurvey_133 pk_LandSurvey_Sight_12 rfl e101 (iw fa3 (by decide) (by decide)) (nar_z2 fa3) dX11_remain_50 (fun h103 hh102 => ?_)
          have O104 := O95.pI e101 hh102 rI_9_12 fa3 nofun
          refine g_iconst C dX11_remain_53 ?_
          have p105 := (XInv_fx O95 ((Fx.rf (wr := [1812]) (h := h94)).pI e101 hh102 rfl) e96 rfl (XInv_fx O59 ((Fx.rf (wr := [1811]) (h := h56)).pI t76 hh93 rfl) e68 rfl (XInv_fx O F60 ta0 rfl P_XInv)))
          exact g_iret C hr (nar_z2 (iw (il 1) (by decide) (by decide))).1 (iw (il 1) (by decide) (by decide)) ⟨O104, ((((Fx.rf (wr := wr_k_X11_remain)).call F60 rfl).pI t76 hh93 rfl).pI e101 hh102 rfl), (iw (il 1) (by decide) (by decide)), p105⟩ (by decide) (by decide) dX11_remain_54
        · have f106 : (10 : Int) ≤ a2 ∧ a2 ≤ (2147483647 : Int) := r_ge f89 (il 10) q91 (by decide) (by decide)
          refine g_iconst C dX11_remain_31 ?_
          have p107 := (XInv_fx O F60 ta0 rfl P_XInv)
          exact g_iret C hr (nar_z2 (iw (il 0) (by decide) (by decide))).1 (iw (il 0) (by decide) (by decide)) ⟨O59, ((Fx.rf (wr := wr_k_X11_remain)).call F60 rfl), (iw (il 0) (by decide) (by decide)), p107⟩ (by decide) (by decide) dX11_remain_32
def wr_k_X11_withdraw : List Nat := [1806, 2215]
set_option maxRecDepth 100000 in
set_option maxHeartbeats 4000000 in
theorem k_X11_withdraw (l : Launch) (D : va_G) (cy : Nat → ClassId) (w : Nat → Nat) (z0 : Nat) {h : Hp} {a0 : Nat} {a1 : Int}  (O : Okh h) (ta0 : Tg h a0 = 11) (fa1 : (-2147483648) ≤ a1 ∧ a1 ≤ 2147483647) (P_XInv : XInv h a0) : MI l D cy w z0 yX11_withdraw cX11_withdraw 2 (some .boolean) 1 21 0 0 [.inr (.inr a0), .inl a1] h (fun v h1 => Okh h1 ∧ Fx wr_k_X11_withdraw h h1 ∧ (0 ≤ v ∧ v ≤ 1) ∧ (XInv h1 a0)) := by
  obtain ⟨v1, e2⟩ : ∃ z, Rv h a0 3 = z := ⟨_, rfl⟩
  have t3 := ok_R O ta0 rE_11_3 e2
  have l4 := ok_L O ta0 rE_11_3 e2
  obtain ⟨v5, e6⟩ : ∃ z, Iv h a0 4 = z := ⟨_, rfl⟩
  have f7 := ok_I O ta0 rI_11_4 e6
  obtain ⟨v8, e9⟩ : ∃ z, Rv h a0 8 = z := ⟨_, rfl⟩
  have t10 := ok_R O ta0 rE_11_8 e9
  have l11 := ok_L O ta0 rE_11_8 e9
  obtain ⟨v12, e13⟩ : ∃ z, Iv h a0 9 = z := ⟨_, rfl⟩
  have f14 := ok_I O ta0 rI_11_9 e13
  obtain ⟨v15, e16⟩ : ∃ z, Rv h a0 11 = z := ⟨_, rfl⟩
  have t17 := ok_R O ta0 rE_11_11 e16
  have l18 := ok_L O ta0 rE_11_11 e16
  obtain ⟨v19, e20⟩ : ∃ z, Iv h a0 12 = z := ⟨_, rfl⟩
  have f21 := ok_I O ta0 rI_11_12 e20
  obtain ⟨v22, e23⟩ : ∃ z, Iv h a0 15 = z := ⟨_, rfl⟩
  have f24 := ok_I O ta0 rI_11_15 e23
  obtain ⟨v25, e26⟩ : ∃ z, Rv h a0 14 = z := ⟨_, rfl⟩
  have t27 := ok_R O ta0 rE_11_14 e26
  have l28 := ok_L O ta0 rE_11_14 e26
  obtain ⟨v29, e30⟩ : ∃ z, Rv h a0 13 = z := ⟨_, rfl⟩
  have t31 := ok_R O ta0 rE_11_13 e30
  obtain ⟨v32, e33⟩ : ∃ z, Rv h a0 6 = z := ⟨_, rfl⟩
  have t34 := ok_R O ta0 rE_11_6 e33
  obtain ⟨v35, e36⟩ : ∃ z, Rv h a0 7 = z := ⟨_, rfl⟩
  have t37 := ok_R O ta0 rE_11_7 e36
  have p48 := P_XInv
  unfold XInv at p48
  rw [e2, e6, e9, e13, e16, e20, e23, e26, e30, e33, e36] at p48
  obtain ⟨p38, p39, p40, p41, p42, p43, p44, p45, p46, p47⟩ := p48
  obtain ⟨v49, e50⟩ : ∃ z, Iv h v29 3 = z := ⟨_, rfl⟩
  have f51 := ok_I O t31 rI_7_3 e50
  obtain ⟨v52, e53⟩ : ∃ z, Iv h v29 4 = z := ⟨_, rfl⟩
  have f54 := ok_I O t31 rI_7_4 e53
  rw [e50] at p44
  rw [e53] at p45
  refine hm_go (by decide +kernel) (Nat.le_of_ble_eq_true rfl) (fun p e s m below meth c C hr hn => ?_)
  refine g_aload_n C rfl 0 rfl dX11_withdraw_0 ?_
  refine g_iload_n C rfl 1 rfl dX11_withdraw_1 ?_
  refine g_callI (st := []) (gc_V C lk_LandSurvey_108 (k_X11_isSight l D cy w z0 O ta0 fa1) ta0 rfl rfl rfl ⟨by decide, by decide⟩ (Nat.le_of_ble_eq_true rfl) dX11_withdraw_2 ⟨(by decide), (by decide)⟩) (fun r55 h56 f58 K57 => ?_)
  obtain ⟨O59, F60, f61, p62⟩ := K57
  refine g_if_eq C (iw f61 (by decide) (by decide)) 21 (by decide) dX11_withdraw_5 (fun q63 => ?_) (fun q64 => ?_)
  · have f65 : (0 : Int) ≤ r55 ∧ r55 ≤ (0 : Int) := ii f61 (r_eq (il 0) q63) (by decide) (by decide)
    refine g_iconst C dX11_withdraw_21 ?_
    have p66 := (XInv_fx O F60 ta0 rfl P_XInv)
    exact g_iret C hr (nar_z2 (iw (il 0) (by decide) (by decide))).1 (iw (il 0) (by decide) (by decide)) ⟨O59, ((Fx.rf (wr := wr_k_X11_withdraw)).call F60 rfl), (iw (il 0) (by decide) (by decide)), p66⟩ (by decide) (by decide) dX11_withdraw_22
  · have f67 : (1 : Int) ≤ r55 ∧ r55 ≤ (1 : Int) := r_nl f61 q64
    refine g_aload_n C rfl 0 rfl dX11_withdraw_8 ?_
    have e68 : Tg h56 a0 = 11 := (fxT F60 ta0)
    have e69 : Rv h56 a0 3 = v1 := ((fxR F60 ta0 rfl).trans e2)
    refine gf_R C fk_LandSurvey_22 rfl e68 e69 dX11_withdraw_9 ?_
    refine g_iload_n C rfl 1 rfl dX11_withdraw_12 ?_
    have e70 : Tg h56 v1 = 38104 := (fxT F60 t3)
    have e71 : Ln h56 v1 = 40 := ((fxL F60 t3).trans l4)
    obtain ⟨v72, e73⟩ : ∃ z, Rv h56 v1 a1.toNat = z := ⟨_, rfl⟩
    refine g_aald (t := 4) C e70 rfl (by decide) rfl e71 (by omega) e73 dX11_withdraw_13 ?_
    have p74 := (SOK_fx O F60 t3 rfl rfl rfl p38)
    have q75 := nn_get p74.nn (by omega) e73
    have t76 := ok_Na O59 e70 ar_38104 rE_38104_0 e73 q75
    obtain ⟨v77, e78⟩ : ∃ z, Iv h56 v72 6 = z := ⟨_, rfl⟩
    have f79 := ok_I O59 t76 rI_9_6 e78
    refine gf_I C fk_LandSurvey_136 rfl t76 e78 dX11_withdraw_14 ?_
    refine g_iconst C dX11_withdraw_17 ?_
    refine g_icmp_eq C (iw f79 (by decide) (by decide)) (iw (il (-1)) (by decide) (by decide)) 23 (by decide) dX11_withdraw_18 (fun q80 => ?_) (fun q81 => ?_)
    · have f82 : (-1 : Int) ≤ v77 ∧ v77 ≤ (-1 : Int) := ii f79 (r_eq (il (-1)) q80) (by decide) (by decide)
      refine g_aload_n C rfl 0 rfl dX11_withdraw_23 ?_
      refine gf_R C fk_LandSurvey_22 rfl e68 e69 dX11_withdraw_24 ?_
      refine g_iload_n C rfl 1 rfl dX11_withdraw_27 ?_
      refine g_aald (t := 4) C e70 rfl (by decide) rfl e71 (by omega) e73 dX11_withdraw_28 ?_
      refine g_aload_n C rfl 0 rfl dX11_withdraw_29 ?_
      obtain ⟨v83, e84⟩ : ∃ z, Iv h56 a0 0 = z := ⟨_, rfl⟩
      have f85 := ok_I O59 e68 rI_11_0 e84
      refine gf_I C fk_LandSurvey_78 rfl e68 e84 dX11_withdraw_30 ?_
      refine gp_I C fk_LandSurvey_136 pk_LandSurvey_Sight_6 rfl t76 (iw f85 (by decide) (by decide)) (nf_i _) dX11_withdraw_33 (fun h87 hh86 => ?_)
      have O88 := O59.pI t76 hh86 rI_9_6 (iw f85 (by decide) (by decide)) nofun
      refine g_aload_n C rfl 0 rfl dX11_withdraw_36 ?_
      refine g_iconst C dX11_withdraw_37 ?_
      have e89 : Tg h87 a0 = 11 := ((pIT hh86).trans e68)
      refine gp_I C fk_LandSurvey_81 pk_LandSurvey_15 rfl e89 (iw (il 0) (by decide) (by decide)) (nar_z2 (iw (il 0) (by decide) (by decide))) dX11_withdraw_38 (fun h91 hh90 => ?_)
      have O92 := O88.pI e89 hh90 rI_11_15 (iw (il 0) (by decide) (by decide)) nofun
      refine g_iconst C dX11_withdraw_41 ?_
      have e93 : Rv h91 a0 3 = v1 := ((pIR hh90).trans ((pIR hh86).trans e69))
      have e94 : Iv h91 a0 4 = v5 := ((pI_j hh90 (by decide)).trans ((pI_n hh86 (ne_tag e68 t76 (by decide))).trans ((fxI F60 ta0 rfl).trans e6)))
      have e95 : Rv h91 a0 8 = v8 := ((pIR hh90).trans ((pIR hh86).trans ((fxR F60 ta0 rfl).trans e9)))
      have e96 : Iv h91 a0 9 = v12 := ((pI_j hh90 (by decide)).trans ((pI_n hh86 (ne_tag e68 t76 (by decide))).trans ((fxI F60 ta0 rfl).trans e13)))
      have e97 : Rv h91 a0 11 = v15 := ((pIR hh90).trans ((pIR hh86).trans ((fxR F60 ta0 rfl).trans e16)))
      have e98 : Iv h91 a0 12 = v19 := ((pI_j hh90 (by decide)).trans ((pI_n hh86 (ne_tag e68 t76 (by decide))).trans ((fxI F60 ta0 rfl).trans e20)))
      have e99 : Rv h91 a0 14 = v25 := ((pIR hh90).trans ((pIR hh86).trans ((fxR F60 ta0 rfl).trans e26)))
      have e100 : Rv h91 a0 13 = v29 := ((pIR hh90).trans ((pIR hh86).trans ((fxR F60 ta0 rfl).trans e30)))
      have e101 : Rv h91 a0 6 = v32 := ((pIR hh90).trans ((pIR hh86).trans ((fxR F60 ta0 rfl).trans e33)))
      have e102 : Rv h91 a0 7 = v35 := ((pIR hh90).trans ((pIR hh86).trans ((fxR F60 ta0 rfl).trans e36)))
      have e103 : Rv h91 v29 1 = v1 := ((pIR hh90).trans ((pIR hh86).trans ((fxR F60 t31 rfl).trans p42)))
      have e104 : Rv h91 v29 2 = v8 := ((pIR hh90).trans ((pIR hh86).trans ((fxR F60 t31 rfl).trans p43)))
      have e105 : Tg h56 v29 = 7 := (fxT F60 t31)
      have e106 : Tg h87 v29 = 7 := ((pIT hh86).trans e105)
      have e107 : Iv h91 v29 3 = v49 := ((pI_n hh90 (ne_tag e106 e89 (by decide))).trans ((pI_n hh86 (ne_tag e105 t76 (by decide))).trans ((fxI F60 t31 rfl).trans e50)))
      have e108 : Iv h91 v29 4 = v52 := ((pI_n hh90 (ne_tag e106 e89 (by decide))).trans ((pI_n hh86 (ne_tag e105 t76 (by decide))).trans ((fxI F60 t31 rfl).trans e53)))
      have e109 : Tg h87 v1 = 38104 := ((pIT hh86).trans e70)
      have p110 := (SOK_fx O88 ((Fx.rf (wr := [2215]) (h := h87)).pI e89 hh90 rfl) e109 rfl rfl rfl (SOK_fx O59 ((Fx.rf (wr := [1806]) (h := h56)).pI t76 hh86 rfl) e70 rfl rfl rfl p74))
      have e111 : Tg h56 v8 = 39105 := (fxT F60 t10)
      have e112 : Tg h87 v8 = 39105 := ((pIT hh86).trans e111)
      have p113 := (BOK_fx O88 ((Fx.rf (wr := [2215]) (h := h87)).pI e89 hh90 rfl) e112 rfl rfl rfl rfl (BOK_fx O59 ((Fx.rf (wr := [1806]) (h := h56)).pI t76 hh86 rfl) e111 rfl rfl rfl rfl (BOK_fx O F60 t10 rfl rfl rfl rfl p39)))
      have e114 : Tg h56 v15 = 48106 := (fxT F60 t17)
      have e115 : Tg h87 v15 = 48106 := ((pIT hh86).trans e114)
      have p116 := (NN_fx ((Fx.rf (wr := [2215]) (h := h87)).pI e89 hh90 rfl) e115 ar_48106 rfl (NN_fx ((Fx.rf (wr := [1806]) (h := h56)).pI t76 hh86 rfl) e114 ar_48106 rfl (NN_fx F60 t17 ar_48106 rfl p40)))
      have e117 : Tg h56 v32 = 5 := (fxT F60 t34)
      have e118 : Tg h87 v32 = 5 := ((pIT hh86).trans e117)
      have p119 := (BkOk_fx O88 ((Fx.rf (wr := [2215]) (h := h87)).pI e89 hh90 rfl) e118 rfl rfl (BkOk_fx O59 ((Fx.rf (wr := [1806]) (h := h56)).pI t76 hh86 rfl) e117 rfl rfl (BkOk_fx O F60 t34 rfl rfl p46)))
      have e120 : Tg h56 v35 = 6 := (fxT F60 t37)
      have e121 : Tg h87 v35 = 6 := ((pIT hh86).trans e120)
      have p122 := (RulesOk_fx O88 ((Fx.rf (wr := [2215]) (h := h87)).pI e89 hh90 rfl) e121 rfl (RulesOk_fx O59 ((Fx.rf (wr := [1806]) (h := h56)).pI t76 hh86 rfl) e120 rfl (RulesOk_fx O F60 t37 rfl p47)))
      exact g_iret C hr (nar_z2 (iw (il 1) (by decide) (by decide))).1 (iw (il 1) (by decide) (by decide)) ⟨O92, ((((Fx.rf (wr := wr_k_X11_withdraw)).call F60 rfl).pI t76 hh86 rfl).pI e89 hh90 rfl), (iw (il 1) (by decide) (by decide)), (by unfold XInv; rw [e93, e94, e95, e96, e97, e98, (pI_e hh90), e99, e100, e101, e102, e103, e104, e107, e108]; exact ⟨p110, p113, p116, (fun z => absurd z (by decide)), rfl, rfl, (by omega), (by omega), p119, p122⟩)⟩ (by decide) (by decide) dX11_withdraw_42
    · have f123 : (0 : Int) ≤ v77 ∧ v77 ≤ (9999 : Int) := r_nl f79 q81
      refine g_iconst C dX11_withdraw_21 ?_
      have p124 := (XInv_fx O F60 ta0 rfl P_XInv)
      exact g_iret C hr (nar_z2 (iw (il 0) (by decide) (by decide))).1 (iw (il 0) (by decide) (by decide)) ⟨O59, ((Fx.rf (wr := wr_k_X11_withdraw)).call F60 rfl), (iw (il 0) (by decide) (by decide)), p124⟩ (by decide) (by decide) dX11_withdraw_22
def wr_k_X11_cost : List Nat := [401, 402, 403, 404, 405, 406, 1403, 1404, 1405, 1412, 1813, 1814, 1815, 1816, 1817, 1818, 2003, 2207, 2215, 2216, 200400, 200407, 200408, 2420000, 3020000, 5620000, 7420000, 8020000, 8220400, 8420400, 8620000, 8820000, 9020000, 9220400, 9420000, 9821400, 10020000]
set_option maxRecDepth 100000 in
set_option maxHeartbeats 4000000 in
theorem k_X11_cost (l : Launch) (D : va_G) (cy : Nat → ClassId) (w : Nat → Nat) (z0 : Nat) {h : Hp} {a0 : Nat} {a1 : Int}  (O : Okh h) (ta0 : Tg h a0 = 11) (fa1 : (-2147483648) ≤ a1 ∧ a1 ≤ 2147483647) (P_XInv : XInv h a0) : MI l D cy w z0 yX11_cost cX11_cost 3 (some .int) 10 279 48 3216 [.inr (.inr a0), .inl a1] h (fun v h1 => Okh h1 ∧ Fx wr_k_X11_cost h h1 ∧ ((-2147483648) ≤ v ∧ v ≤ 2147483647) ∧ (XInv h1 a0)) := by
  obtain ⟨v1, e2⟩ : ∃ z, Rv h a0 3 = z := ⟨_, rfl⟩
  have t3 := ok_R O ta0 rE_11_3 e2
  have l4 := ok_L O ta0 rE_11_3 e2
  obtain ⟨v5, e6⟩ : ∃ z, Iv h a0 4 = z := ⟨_, rfl⟩
  have f7 := ok_I O ta0 rI_11_4 e6
  obtain ⟨v8, e9⟩ : ∃ z, Rv h a0 8 = z := ⟨_, rfl⟩
  have t10 := ok_R O ta0 rE_11_8 e9
  have l11 := ok_L O ta0 rE_11_8 e9
  obtain ⟨v12, e13⟩ : ∃ z, Iv h a0 9 = z := ⟨_, rfl⟩
  have f14 := ok_I O ta0 rI_11_9 e13
  obtain ⟨v15, e16⟩ : ∃ z, Rv h a0 11 = z := ⟨_, rfl⟩
  have t17 := ok_R O ta0 rE_11_11 e16
  have l18 := ok_L O ta0 rE_11_11 e16
  obtain ⟨v19, e20⟩ : ∃ z, Iv h a0 12 = z := ⟨_, rfl⟩
  have f21 := ok_I O ta0 rI_11_12 e20
  obtain ⟨v22, e23⟩ : ∃ z, Iv h a0 15 = z := ⟨_, rfl⟩
  have f24 := ok_I O ta0 rI_11_15 e23
  obtain ⟨v25, e26⟩ : ∃ z, Rv h a0 14 = z := ⟨_, rfl⟩
  have t27 := ok_R O ta0 rE_11_14 e26
  have l28 := ok_L O ta0 rE_11_14 e26
  obtain ⟨v29, e30⟩ : ∃ z, Rv h a0 13 = z := ⟨_, rfl⟩
  have t31 := ok_R O ta0 rE_11_13 e30
  obtain ⟨v32, e33⟩ : ∃ z, Rv h a0 6 = z := ⟨_, rfl⟩
  have t34 := ok_R O ta0 rE_11_6 e33
  obtain ⟨v35, e36⟩ : ∃ z, Rv h a0 7 = z := ⟨_, rfl⟩
  have t37 := ok_R O ta0 rE_11_7 e36
  have p48 := P_XInv
  unfold XInv at p48
  rw [e2, e6, e9, e13, e16, e20, e23, e26, e30, e33, e36] at p48
  obtain ⟨p38, p39, p40, p41, p42, p43, p44, p45, p46, p47⟩ := p48
  obtain ⟨v49, e50⟩ : ∃ z, Iv h v29 3 = z := ⟨_, rfl⟩
  have f51 := ok_I O t31 rI_7_3 e50
  obtain ⟨v52, e53⟩ : ∃ z, Iv h v29 4 = z := ⟨_, rfl⟩
  have f54 := ok_I O t31 rI_7_4 e53
  rw [e50] at p44
  rw [e53] at p45
  refine hm_go (by decide +kernel) (Nat.le_of_ble_eq_true rfl) (fun p e s m below meth c C hr hn => ?_)
  refine g_aload_n C rfl 0 rfl dX11_cost_0 ?_
  refine g_iload_n C rfl 1 rfl dX11_cost_1 ?_
  refine g_callR (st := []) (gc_V C lk_LandSurvey_197 (k_X11_groundOf l D cy w z0 O ta0 fa1 P_XInv) ta0 rfl rfl rfl ⟨by decide, by decide⟩ (Nat.le_of_ble_eq_true rfl) dX11_cost_2 ⟨(by decide), (by decide)⟩) (fun r55 h56 K57 => ?_)
  obtain ⟨O59, F60, p61, p62⟩ := K57
  have e63 : Rv h56 a0 3 = v1 := ((fxR F60 ta0 rfl).trans e2)
  have e64 : Iv h56 a0 4 = v5 := ((fxI F60 ta0 rfl).trans e6)
  have e65 : Rv h56 a0 8 = v8 := ((fxR F60 ta0 rfl).trans e9)
  have e66 : Iv h56 a0 9 = v12 := ((fxI F60 ta0 rfl).trans e13)
  have e67 : Rv h56 a0 11 = v15 := ((fxR F60 ta0 rfl).trans e16)
  have e68 : Iv h56 a0 12 = v19 := ((fxI F60 ta0 rfl).trans e20)
  obtain ⟨v69, e70⟩ : ∃ z, Iv h56 a0 15 = z := ⟨_, rfl⟩
  have e71 : Tg h56 a0 = 11 := (fxT F60 ta0)
  have f72 := ok_I O59 e71 rI_11_15 e70
  have e73 : Rv h56 a0 14 = v25 := ((fxR F60 ta0 rfl).trans e26)
  have e74 : Rv h56 a0 13 = v29 := ((fxR F60 ta0 rfl).trans e30)
  have e75 : Rv h56 a0 6 = v32 := ((fxR F60 ta0 rfl).trans e33)
  obtain ⟨v76, e77⟩ : ∃ z, Rv h56 a0 7 = z := ⟨_, rfl⟩
  have t78 := ok_R O59 e71 rE_11_7 e77
  have p89 := p61
  unfold XInv at p89
  rw [e63, e64, e65, e66, e67, e68, e70, e73, e74, e75, e77] at p89
  obtain ⟨p79, p80, p81, p82, p83, p84, p85, p86, p87, p88⟩ := p89
  obtain ⟨v90, e91⟩ : ∃ z, Iv h56 v29 3 = z := ⟨_, rfl⟩
  have e92 : Tg h56 v29 = 7 := (fxT F60 t31)
  have f93 := ok_I O59 e92 rI_7_3 e91
  obtain ⟨v94, e95⟩ : ∃ z, Iv h56 v29 4 = z := ⟨_, rfl⟩
  have f96 := ok_I O59 e92 rI_7_4 e95
  rw [e91] at p85
  rw [e95] at p86
  refine g_astore_n C [(2, .inr (.inr r55)), (0, .inr (.inr a0)), (1, .inl a1)] rfl (by decide) rfl dX11_cost_5 ?_
  refine g_aload_n C rfl 0 rfl dX11_cost_6 ?_
  refine g_ifnonnull C 14 (by decide) dX11_cost_7 (fun q97 => ?_) (fun q98 => ?_)
  · have t99 := p62.resolve_left q97
    refine g_aload_n C rfl 0 rfl dX11_cost_14 ?_
    obtain ⟨v100, e101⟩ : ∃ z, Iv h56 r55 3 = z := ⟨_, rfl⟩
    have f102 := ok_I O59 t99 rI_2_3 e101
    refine gf_I C fk_LandSurvey_201 rfl t99 e101 dX11_cost_15 ?_
    exact g_iret C hr rfl f102 ⟨O59, ((Fx.rf (wr := wr_k_X11_cost)).call F60 rfl), f102, p61⟩ (by decide) (by decide) dX11_cost_18
  · refine g_iconst C dX11_cost_10 ?_
    refine g_goto C 18 (by decide) dX11_cost_11 ?_
    exact g_iret C hr rfl (iw (il (-1)) (by decide) (by decide)) ⟨O59, ((Fx.rf (wr := wr_k_X11_cost)).call F60 rfl), (iw (il (-1)) (by decide) (by decide)), p61⟩ (by decide) (by decide) dX11_cost_18
def wr_k_X11_doubted : List Nat := [401, 402, 403, 404, 405, 406, 1403, 1404, 1405, 1412, 1813, 1814, 1815, 1816, 1817, 1818, 2003, 2207, 2215, 2216, 200400, 200407, 200408, 2420000, 3020000, 5620000, 7420000, 8020000, 8220400, 8420400, 8620000, 8820000, 9020000, 9220400, 9420000, 9821400, 10020000]
set_option maxRecDepth 100000 in
set_option maxHeartbeats 4000000 in
theorem k_X11_doubted (l : Launch) (D : va_G) (cy : Nat → ClassId) (w : Nat → Nat) (z0 : Nat) {h : Hp} {a0 : Nat} {a1 : Int} {a2 : Int}  (O : Okh h) (ta0 : Tg h a0 = 11) (fa1 : (-2147483648) ≤ a1 ∧ a1 ≤ 2147483647) (fa2 : (-2147483648) ≤ a2 ∧ a2 ≤ 2147483647) (P_XInv : XInv h a0) : MI l D cy w z0 yX11_doubted cX11_doubted 6 (some .int) 10 279 48 3216 [.inr (.inr a0), .inl a1, .inl a2] h (fun v h1 => Okh h1 ∧ Fx wr_k_X11_doubted h h1 ∧ ((-2147483648) ≤ v ∧ v ≤ 2147483647) ∧ (XInv h1 a0)) := by
  obtain ⟨v1, e2⟩ : ∃ z, Rv h a0 3 = z := ⟨_, rfl⟩
  have t3 := ok_R O ta0 rE_11_3 e2
  have l4 := ok_L O ta0 rE_11_3 e2
  obtain ⟨v5, e6⟩ : ∃ z, Iv h a0 4 = z := ⟨_, rfl⟩
  have f7 := ok_I O ta0 rI_11_4 e6
  obtain ⟨v8, e9⟩ : ∃ z, Rv h a0 8 = z := ⟨_, rfl⟩
  have t10 := ok_R O ta0 rE_11_8 e9
  have l11 := ok_L O ta0 rE_11_8 e9
  obtain ⟨v12, e13⟩ : ∃ z, Iv h a0 9 = z := ⟨_, rfl⟩
  have f14 := ok_I O ta0 rI_11_9 e13
  obtain ⟨v15, e16⟩ : ∃ z, Rv h a0 11 = z := ⟨_, rfl⟩
  have t17 := ok_R O ta0 rE_11_11 e16
  have l18 := ok_L O ta0 rE_11_11 e16
  obtain ⟨v19, e20⟩ : ∃ z, Iv h a0 12 = z := ⟨_, rfl⟩
  have f21 := ok_I O ta0 rI_11_12 e20
  obtain ⟨v22, e23⟩ : ∃ z, Iv h a0 15 = z := ⟨_, rfl⟩
  have f24 := ok_I O ta0 rI_11_15 e23
  obtain ⟨v25, e26⟩ : ∃ z, Rv h a0 14 = z := ⟨_, rfl⟩
  have t27 := ok_R O ta0 rE_11_14 e26
  have l28 := ok_L O ta0 rE_11_14 e26
  obtain ⟨v29, e30⟩ : ∃ z, Rv h a0 13 = z := ⟨_, rfl⟩
  have t31 := ok_R O ta0 rE_11_13 e30
  obtain ⟨v32, e33⟩ : ∃ z, Rv h a0 6 = z := ⟨_, rfl⟩
  have t34 := ok_R O ta0 rE_11_6 e33
  obtain ⟨v35, e36⟩ : ∃ z, Rv h a0 7 = z := ⟨_, rfl⟩
  have t37 := ok_R O ta0 rE_11_7 e36
  have p48 := P_XInv
  unfold XInv at p48
  rw [e2, e6, e9, e13, e16, e20, e23, e26, e30, e33, e36] at p48
  obtain ⟨p38, p39, p40, p41, p42, p43, p44, p45, p46, p47⟩ := p48
  obtain ⟨v49, e50⟩ : ∃ z, Iv h v29 3 = z := ⟨_, rfl⟩
  have f51 := ok_I O t31 rI_7_3 e50
  obtain ⟨v52, e53⟩ : ∃ z, Iv h v29 4 = z := ⟨_, rfl⟩
  have f54 := ok_I O t31 rI_7_4 e53
  rw [e50] at p44
  rw [e53] at p45
  refine hm_go (by decide +kernel) (Nat.le_of_ble_eq_true rfl) (fun p e s m below meth c C hr hn => ?_)
  refine g_aload_n C rfl 0 rfl dX11_doubted_0 ?_
  refine g_iload_n C rfl 1 rfl dX11_doubted_1 ?_
  refine g_callR (st := []) (gc_V C lk_LandSurvey_197 (k_X11_groundOf l D cy w z0 O ta0 fa1 P_XInv) ta0 rfl rfl rfl ⟨by decide, by decide⟩ (Nat.le_of_ble_eq_true rfl) dX11_doubted_2 ⟨(by decide), (by decide)⟩) (fun r55 h56 K57 => ?_)
  obtain ⟨O59, F60, p61, p62⟩ := K57
  have e63 : Rv h56 a0 3 = v1 := ((fxR F60 ta0 rfl).trans e2)
  have e64 : Iv h56 a0 4 = v5 := ((fxI F60 ta0 rfl).trans e6)
  have e65 : Rv h56 a0 8 = v8 := ((fxR F60 ta0 rfl).trans e9)
  have e66 : Iv h56 a0 9 = v12 := ((fxI F60 ta0 rfl).trans e13)
  have e67 : Rv h56 a0 11 = v15 := ((fxR F60 ta0 rfl).trans e16)
  have e68 : Iv h56 a0 12 = v19 := ((fxI F60 ta0 rfl).trans e20)
  obtain ⟨v69, e70⟩ : ∃ z, Iv h56 a0 15 = z := ⟨_, rfl⟩
  have e71 : Tg h56 a0 = 11 := (fxT F60 ta0)
  have f72 := ok_I O59 e71 rI_11_15 e70
  have e73 : Rv h56 a0 14 = v25 := ((fxR F60 ta0 rfl).trans e26)
  have e74 : Rv h56 a0 13 = v29 := ((fxR F60 ta0 rfl).trans e30)
  have e75 : Rv h56 a0 6 = v32 := ((fxR F60 ta0 rfl).trans e33)
  obtain ⟨v76, e77⟩ : ∃ z, Rv h56 a0 7 = z := ⟨_, rfl⟩
  have t78 := ok_R O59 e71 rE_11_7 e77
  have p89 := p61
  unfold XInv at p89
  rw [e63, e64, e65, e66, e67, e68, e70, e73, e74, e75, e77] at p89
  obtain ⟨p79, p80, p81, p82, p83, p84, p85, p86, p87, p88⟩ := p89
  obtain ⟨v90, e91⟩ : ∃ z, Iv h56 v29 3 = z := ⟨_, rfl⟩
  have e92 : Tg h56 v29 = 7 := (fxT F60 t31)
  have f93 := ok_I O59 e92 rI_7_3 e91
  obtain ⟨v94, e95⟩ : ∃ z, Iv h56 v29 4 = z := ⟨_, rfl⟩
  have f96 := ok_I O59 e92 rI_7_4 e95
  rw [e91] at p85
  rw [e95] at p86
  refine g_astore_n C [(3, .inr (.inr r55)), (0, .inr (.inr a0)), (1, .inl a1), (2, .inl a2)] rfl (by decide) rfl dX11_doubted_5 ?_
  refine g_aload_n C rfl 0 rfl dX11_doubted_6 ?_
  refine g_ifnull C 14 (by decide) dX11_doubted_7 (fun q97 => ?_) (fun q98 => ?_)
  · refine g_iconst C dX11_doubted_14 ?_
    exact g_iret C hr rfl (iw (il (-1)) (by decide) (by decide)) ⟨O59, ((Fx.rf (wr := wr_k_X11_doubted)).call F60 rfl), (iw (il (-1)) (by decide) (by decide)), p61⟩ (by decide) (by decide) dX11_doubted_15
  · have t99 := p62.resolve_left q98
    refine g_iload_n C rfl 3 rfl dX11_doubted_10 ?_
    refine g_if_ge C fa2 16 (by decide) dX11_doubted_11 (fun q100 => ?_) (fun q101 => ?_)
    · have f102 : (0 : Int) ≤ a2 ∧ a2 ≤ (2147483647 : Int) := r_ge fa2 (il 0) q100 (by decide) (by decide)
      refine g_iload_n C rfl 3 rfl dX11_doubted_16 ?_
      refine g_istore C [(4, .inl a2), (3, .inr (.inr r55)), (0, .inr (.inr a0)), (1, .inl a1), (2, .inl a2)] (by decide) rfl dX11_doubted_17 ?_
      refine g_iconst C dX11_doubted_19 ?_
      refine g_istore C [(5, .inl 0), (4, .inl a2), (3, .inr (.inr r55)), (0, .inr (.inr a0)), (1, .inl a1), (2, .inl a2)] (by decide) rfl dX11_doubted_20 ?_
      refine GW.sub [3, 4, 5, 2, 1, 0] rfl ?_
      -- loop at 22
      have L106 : ∀ (μ : Nat) (x103 : Int) (x104 : Int) (h105 : Hp), (40 - x104).toNat = μ → Okh h105 → Fx [] h56 h105 → ((-2147483648 : Int) ≤ x103 ∧ x103 ≤ (2147483647 : Int)) → ((0 : Int) ≤ x104 ∧ x104 ≤ (40 : Int)) → GW p l e (rmm 10 279 48 3216) s m (List.map toV [.inr (.inr a0), .inl a1, .inl a2]).toArray below meth c D cy z0 6 (MQ below (QI D cy z0 (fun v h1 => Okh h1 ∧ Fx wr_k_X11_doubted h h1 ∧ ((-2147483648) ≤ v ∧ v ≤ 2147483647) ∧ (XInv h1 a0))) (List.map toV [.inr (.inr a0), .inl a1, .inl a2]).toArray s 48 3216 (Aof z0)) 22 [(0, .inr (.inr a0)), (1, .inl a1), (2, .inl a2), (3, .inr (.inr r55)), (4, .inl x103), (5, .inl x104)] [] h105 48 3216 := by
        intro μ
        induction μ using Nat.strongRecOn with
        | ind μ ih107 =>
          intro x103 x104 h105 hm108 O109 F110 f111 f112
          refine g_iload C 5 rfl dX11_doubted_22 ?_
          refine g_aload_n C rfl 0 rfl dX11_doubted_24 ?_
          have e113 : Tg h105 a0 = 11 := (fxT F110 e71)
          have e114 : Iv h105 a0 4 = v5 := ((fxI F110 e71 rfl).trans e64)
          refine gf_I C fk_LandSurvey_102 rfl e113 e114 dX11_doubted_25 ?_
          refine g_icmp_ge C (iw f112 (by decide) (by decide)) (iw f7 (by decide) (by decide)) 57 (by decide) dX11_doubted_28 (fun q115 => ?_) (fun q116 => ?_)
          · refine g_iconst C dX11_doubted_57 ?_
            have p117 := (XInv_fx O59 F110 e71 rfl p61)
            exact g_iret C hr rfl (iw (il (-1)) (by decide) (by decide)) ⟨O109, (((Fx.rf (wr := wr_k_X11_doubted)).call F60 rfl).call F110 rfl), (iw (il (-1)) (by decide) (by decide)), p117⟩ (by decide) (by decide) dX11_doubted_58
          · have f118 : (0 : Int) ≤ x104 ∧ x104 ≤ (39 : Int) := r_lt f112 f7 q116 (by decide) (by decide)
            have f119 : (1 : Int) ≤ v5 ∧ v5 ≤ (40 : Int) := r_gt f7 f112 q116 (by decide) (by decide)
            refine g_aload_n C rfl 3 rfl dX11_doubted_31 ?_
            refine g_iload C 5 rfl dX11_doubted_32 ?_
            have e120 : Tg h105 r55 = 2 := (fxT F110 t99)
            refine g_callI (st := []) (gc_V C lk_LandSurvey_204 (k_X1_doubts l D cy w z0 O109 e120 (iw f118 (by decide) (by decide))) e120 rfl rfl rfl ⟨by decide, by decide⟩ (Nat.le_of_ble_eq_true rfl) dX11_doubted_34 ⟨(by decide), (by decide)⟩) (fun r121 h122 f124 K123 => ?_)
            obtain ⟨O125, F126, f127⟩ := K123
            refine g_if_eq C (iw f127 (by decide) (by decide)) 51 (by decide) dX11_doubted_37 (fun q128 => ?_) (fun q129 => ?_)
            · have f130 : (0 : Int) ≤ r121 ∧ r121 ≤ (0 : Int) := ii f127 (r_eq (il 0) q128) (by decide) (by decide)
              have f131 : (1 : Int) ≤ (x104 + 1) ∧ (x104 + 1) ≤ (40 : Int) := ia_add f118 (il 1) (by decide) (by decide)
              refine g_iinc C [(5, .inl (x104 + 1)), (0, .inr (.inr a0)), (1, .inl a1), (2, .inl a2), (3, .inr (.inr r55)), (4, .inl x103)] 5 rfl (by decide) rfl dX11_doubted_51 ?_
              refine g_goto C 22 (by decide) dX11_doubted_54 ?_
              refine GW.sub [1, 2, 3, 4, 5, 0] rfl ?_
              exact ih107 _ (by omega) x103 (x104 + 1) h122 rfl O125 (F110.call F126 rfl) f111 (iw f131 (by decide) (by decide))
            · have f132 : (1 : Int) ≤ r121 ∧ r121 ≤ (1 : Int) := r_nl f127 q129
              refine g_iload C 4 rfl dX11_doubted_40 ?_
              refine g_if_ne C f111 48 (by decide) dX11_doubted_42 (fun q133 => ?_) (fun q134 => ?_)
              · have f135 : (-2147483648 : Int) ≤ (w32 (x103 + (-1))) ∧ (w32 (x103 + (-1))) ≤ (2147483647 : Int) := w32_inR _
                refine g_iincW C [(4, .inl (w32 (x103 + (-1)))), (0, .inr (.inr a0)), (1, .inl a1), (2, .inl a2), (3, .inr (.inr r55)), (5, .inl x104)] 4 rfl (by decide) rfl dX11_doubted_48 ?_
                have f136 : (1 : Int) ≤ (x104 + 1) ∧ (x104 + 1) ≤ (40 : Int) := ia_add f118 (il 1) (by decide) (by decide)
                refine g_iinc C [(5, .inl (x104 + 1)), (4, .inl (w32 (x103 + (-1)))), (0, .inr (.inr a0)), (1, .inl a1), (2, .inl a2), (3, .inr (.inr r55))] 5 rfl (by decide) rfl dX11_doubted_51 ?_
                refine g_goto C 22 (by decide) dX11_doubted_54 ?_
                refine GW.sub [2, 3, 4, 5, 1, 0] rfl ?_
                exact ih107 _ (by omega) (w32 (x103 + (-1))) (x104 + 1) h122 rfl O125 (F110.call F126 rfl) f135 (iw f136 (by decide) (by decide))
              · have f137 : (0 : Int) ≤ x103 ∧ x103 ≤ (0 : Int) := ii f111 (r_eq (il 0) q134) (by decide) (by decide)
                refine g_iload C 5 rfl dX11_doubted_45 ?_
                have p138 := (XInv_fx O109 F126 e113 rfl (XInv_fx O59 F110 e71 rfl p61))
                exact g_iret C hr rfl (iw f118 (by decide) (by decide)) ⟨O125, ((((Fx.rf (wr := wr_k_X11_doubted)).call F60 rfl).call F110 rfl).call F126 rfl), (iw f118 (by decide) (by decide)), p138⟩ (by decide) (by decide) dX11_doubted_47
      exact L106 _ a2 0 h56 rfl O59 Fx.rf (iw f102 (by decide) (by decide)) (iw (il 0) (by decide) (by decide))
    · have f139 : (-2147483648 : Int) ≤ a2 ∧ a2 ≤ (-1 : Int) := r_lt fa2 (il 0) q101 (by decide) (by decide)
      refine g_iconst C dX11_doubted_14 ?_
      exact g_iret C hr rfl (iw (il (-1)) (by decide) (by decide)) ⟨O59, ((Fx.rf (wr := wr_k_X11_doubted)).call F60 rfl), (iw (il (-1)) (by decide) (by decide)), p61⟩ (by decide) (by decide) dX11_doubted_15
def wr_k_X11_best : List Nat := [401, 402, 403, 404, 405, 406, 1403, 1404, 1405, 1412, 1813, 1814, 1815, 1816, 1817, 1818, 2003, 2207, 2215, 2216, 2217, 200400, 200407, 200408, 2420000, 3020000, 5620000, 7420000, 8020000, 8220400, 8420400, 8620000, 8820000, 9020000, 9220400, 9420000, 9821400, 10020000]
set_option maxRecDepth 100000 in
set_option maxHeartbeats 4000000 in
theorem k_X11_best (l : Launch) (D : va_G) (cy : Nat → ClassId) (w : Nat → Nat) (z0 : Nat) {h : Hp} {a0 : Nat} {a1 : Int}  (O : Okh h) (ta0 : Tg h a0 = 11) (fa1 : (-2147483648) ≤ a1 ∧ a1 ≤ 2147483647) (P_XInv : XInv h a0) : MI l D cy w z0 yX11_best cX11_best 2 (some .int) 10 279 48 3216 [.inr (.inr a0), .inl a1] h (fun v h1 => Okh h1 ∧ Fx wr_k_X11_best h h1 ∧ ((-2147483648) ≤ v ∧ v ≤ 2147483647) ∧ (XInv h1 a0)) := by
  obtain ⟨v1, e2⟩ : ∃ z, Rv h a0 3 = z := ⟨_, rfl⟩
  have t3 := ok_R O ta0 rE_11_3 e2
  have l4 := ok_L O ta0 rE_11_3 e2
  obtain ⟨v5, e6⟩ : ∃ z, Iv h a0 4 = z := ⟨_, rfl⟩
  have f7 := ok_I O ta0 rI_11_4 e6
  obtain ⟨v8, e9⟩ : ∃ z, Rv h a0 8 = z := ⟨_, rfl⟩
  have t10 := ok_R O ta0 rE_11_8 e9
  have l11 := ok_L O ta0 rE_11_8 e9
  obtain ⟨v12, e13⟩ : ∃ z, Iv h a0 9 = z := ⟨_, rfl⟩
  have f14 := ok_I O ta0 rI_11_9 e13
  obtain ⟨v15, e16⟩ : ∃ z, Rv h a0 11 = z := ⟨_, rfl⟩
  have t17 := ok_R O ta0 rE_11_11 e16
  have l18 := ok_L O ta0 rE_11_11 e16
  obtain ⟨v19, e20⟩ : ∃ z, Iv h a0 12 = z := ⟨_, rfl⟩
  have f21 := ok_I O ta0 rI_11_12 e20
  obtain ⟨v22, e23⟩ : ∃ z, Iv h a0 15 = z := ⟨_, rfl⟩
  have f24 := ok_I O ta0 rI_11_15 e23
  obtain ⟨v25, e26⟩ : ∃ z, Rv h a0 14 = z := ⟨_, rfl⟩
  have t27 := ok_R O ta0 rE_11_14 e26
  have l28 := ok_L O ta0 rE_11_14 e26
  obtain ⟨v29, e30⟩ : ∃ z, Rv h a0 13 = z := ⟨_, rfl⟩
  have t31 := ok_R O ta0 rE_11_13 e30
  obtain ⟨v32, e33⟩ : ∃ z, Rv h a0 6 = z := ⟨_, rfl⟩
  have t34 := ok_R O ta0 rE_11_6 e33
  obtain ⟨v35, e36⟩ : ∃ z, Rv h a0 7 = z := ⟨_, rfl⟩
  have t37 := ok_R O ta0 rE_11_7 e36
  have p48 := P_XInv
  unfold XInv at p48
  rw [e2, e6, e9, e13, e16, e20, e23, e26, e30, e33, e36] at p48
  obtain ⟨p38, p39, p40, p41, p42, p43, p44, p45, p46, p47⟩ := p48
  obtain ⟨v49, e50⟩ : ∃ z, Iv h v29 3 = z := ⟨_, rfl⟩
  have f51 := ok_I O t31 rI_7_3 e50
  obtain ⟨v52, e53⟩ : ∃ z, Iv h v29 4 = z := ⟨_, rfl⟩
  have f54 := ok_I O t31 rI_7_4 e53
  rw [e50] at p44
  rw [e53] at p45
  refine hm_go (by decide +kernel) (Nat.le_of_ble_eq_true rfl) (fun p e s m below meth c C hr hn => ?_)
  refine g_aload_n C rfl 0 rfl dX11_best_0 ?_
  refine g_callI (st := []) (gc_V C lk_LandSurvey_207 (k_X11_judge l D cy w z0 O ta0 P_XInv) ta0 rfl rfl rfl ⟨by decide, by decide⟩ (Nat.le_of_ble_eq_true rfl) dX11_best_1 ⟨(by decide), (by decide)⟩) (fun r55 h56 f58 K57 => ?_)
  obtain ⟨O59, F60, f61, p62, p63, p64⟩ := K57
  obtain ⟨v65, e66⟩ : ∃ z, Rv h56 a0 17 = z := ⟨_, rfl⟩
  have e67 : Tg h56 a0 = 11 := (fxT F60 ta0)
  rw [e66] at p64
  have e68 : Rv h56 a0 3 = v1 := ((fxR F60 ta0 rfl).trans e2)
  have e69 : Iv h56 a0 4 = v5 := ((fxI F60 ta0 rfl).trans e6)
  have e70 : Rv h56 a0 8 = v8 := ((fxR F60 ta0 rfl).trans e9)
  have e71 : Iv h56 a0 9 = v12 := ((fxI F60 ta0 rfl).trans e13)
  have e72 : Rv h56 a0 11 = v15 := ((fxR F60 ta0 rfl).trans e16)
  have e73 : Iv h56 a0 12 = v19 := ((fxI F60 ta0 rfl).trans e20)
  have e74 : Rv h56 a0 14 = v25 := ((fxR F60 ta0 rfl).trans e26)
  have e75 : Rv h56 a0 13 = v29 := ((fxR F60 ta0 rfl).trans e30)
  have e76 : Rv h56 a0 6 = v32 := ((fxR F60 ta0 rfl).trans e33)
  obtain ⟨v77, e78⟩ : ∃ z, Rv h56 a0 7 = z := ⟨_, rfl⟩
  have t79 := ok_R O59 e67 rE_11_7 e78
  have p90 := p62
  unfold XInv at p90
  rw [e68, e69, e70, e71, e72, e73, p63, e74, e75, e76, e78] at p90
  obtain ⟨p80, p81, p82, p83, p84, p85, p86, p87, p88, p89⟩ := p90
  obtain ⟨v91, e92⟩ : ∃ z, Iv h56 v29 3 = z := ⟨_, rfl⟩
  have e93 : Tg h56 v29 = 7 := (fxT F60 t31)
  have f94 := ok_I O59 e93 rI_7_3 e92
  obtain ⟨v95, e96⟩ : ∃ z, Iv h56 v29 4 = z := ⟨_, rfl⟩
  have f97 := ok_I O59 e93 rI_7_4 e96
  rw [e92] at p86
  rw [e96] at p87
  have p98 := p83 (by omega)
  refine g_pop C rfl dX11_best_4 ?_
  refine g_iload_n C rfl 1 rfl dX11_best_5 ?_
  refine g_iconst C dX11_best_6 ?_
  refine g_icmp_ne C fa1 (iw (il 3) (by decide) (by decide)) 15 (by decide) dX11_best_7 (fun q99 => ?_) (fun q100 => ?_)
  · refine g_aload_n C rfl 0 rfl dX11_best_15 ?_
    refine gf_R C fk_LandSurvey_214 rfl e67 e66 dX11_best_16 ?_
    refine g_ifnonnull C 24 (by decide) dX11_best_19 (fun q101 => ?_) (fun q102 => ?_)
    · have t103 := ok_N O59 e67 rE_11_17 e66 q101
      refine g_iload_n C rfl 1 rfl dX11_best_24 ?_
      rcases Classical.em (a1 = 0) with q104 | q105
      · refine g_tin (kv := 0) C q104 (by decide) 52 (by decide) (by decide) rfl (by decide) dX11_best_25 ?_
        have f106 : (0 : Int) ≤ a1 ∧ a1 ≤ (0 : Int) := ii fa1 (r_eq (il 0) q104) (by decide) (by decide)
        refine g_aload_n C rfl 0 rfl dX11_best_52 ?_
        refine gf_R C fk_LandSurvey_214 rfl e67 e66 dX11_best_53 ?_
        obtain ⟨v107, e108⟩ : ∃ z, Iv h56 v65 0 = z := ⟨_, rfl⟩
        have f109 := ok_I O59 t103 rI_2_0 e108
        refine gf_I C fk_LandSurvey_218 rfl t103 e108 dX11_best_56 ?_
        exact g_iret C hr rfl (iw f109 (by decide) (by decide)) ⟨O59, ((Fx.rf (wr := wr_k_X11_best)).call F60 rfl), (iw f109 (by decide) (by decide)), p62⟩ (by decide) (by decide) dX11_best_59
      · rcases Classical.em (a1 = 1) with q110 | q111
        · refine g_tin (kv := 1) C q110 (by decide) 60 (by decide) (by decide) rfl (by decide) dX11_best_25 ?_
          have f112 : (1 : Int) ≤ a1 ∧ a1 ≤ (1 : Int) := ii fa1 (r_eq (il 1) q110) (by decide) (by decide)
          refine g_aload_n C rfl 0 rfl dX11_best_60 ?_
          refine gf_R C fk_LandSurvey_214 rfl e67 e66 dX11_best_61 ?_
          obtain ⟨v113, e114⟩ : ∃ z, Iv h56 v65 3 = z := ⟨_, rfl⟩
          have f115 := ok_I O59 t103 rI_2_3 e114
          refine gf_I C fk_LandSurvey_201 rfl t103 e114 dX11_best_64 ?_
          exact g_iret C hr rfl f115 ⟨O59, ((Fx.rf (wr := wr_k_X11_best)).call F60 rfl), f115, p62⟩ (by decide) (by decide) dX11_best_67
        · rcases Classical.em (a1 = 2) with q116 | q117
          · refine g_tin (kv := 2) C q116 (by decide) 68 (by decide) (by decide) rfl (by decide) dX11_best_25 ?_
            have f118 : (2 : Int) ≤ a1 ∧ a1 ≤ (2 : Int) := ii fa1 (r_eq (il 2) q116) (by decide) (by decide)
            refine g_aload_n C rfl 0 rfl dX11_best_68 ?_
            refine gf_R C fk_LandSurvey_214 rfl e67 e66 dX11_best_69 ?_
            obtain ⟨v119, e120⟩ : ∃ z, Jv h56 v65 4 = z := ⟨_, rfl⟩
            have f121 := inL_J O59 e120
            refine gf_J C fk_LandSurvey_221 rfl t103 e120 dX11_best_72 ?_
            refine g_callI (st := []) (gc_S C lk_LandSurvey_225 (k_J13_bitCount_95d88 l D cy w z0 O59 f121) rfl ⟨by decide, by decide⟩ (Nat.le_of_ble_eq_true rfl) dX11_best_75 ⟨(by decide), (by decide)⟩) (fun r122 h123 f125 K124 => ?_)
            obtain ⟨O126, F127, f128⟩ := K124
            have p129 := (XInv_fx O59 F127 e67 rfl p62)
            exact g_iret C hr rfl (iw f128 (by decide) (by decide)) ⟨O126, (((Fx.rf (wr := wr_k_X11_best)).call F60 rfl).call F127 rfl), (iw f128 (by decide) (by decide)), p129⟩ (by decide) (by decide) dX11_best_78
          · refine g_tout C fa1 79 (by omega) (by decide) dX11_best_25 ?_
            refine g_iconst C dX11_best_79 ?_
            exact g_iret C hr rfl (iw (il (-1)) (by decide) (by decide)) ⟨O59, ((Fx.rf (wr := wr_k_X11_best)).call F60 rfl), (iw (il (-1)) (by decide) (by decide)), p62⟩ (by decide) (by decide) dX11_best_80
    · refine g_iconst C dX11_best_22 ?_
      exact g_iret C hr rfl (iw (il (-1)) (by decide) (by decide)) ⟨O59, ((Fx.rf (wr := wr_k_X11_best)).call F60 rfl), (iw (il (-1)) (by decide) (by decide)), p62⟩ (by decide) (by decide) dX11_best_23
  · have f130 : (3 : Int) ≤ a1 ∧ a1 ≤ (3 : Int) := ii fa1 (r_eq (il 3) q100) (by decide) (by decide)
    refine g_aload_n C rfl 0 rfl dX11_best_10 ?_
    refine g_callI (st := []) (gc_V C lk_LandSurvey_211 (k_X11_countKept l D cy w z0 O59 e67 p63 p62) e67 rfl rfl rfl ⟨by decide, by decide⟩ (Nat.le_of_ble_eq_true rfl) dX11_best_11 ⟨(by decide), (by decide)⟩) (fun r131 h132 f134 K133 => ?_)
    obtain ⟨O135, F136, f137⟩ := K133
    have p138 := (XInv_fx O59 F136 e67 rfl p62)
    exact g_iret C hr rfl f137 ⟨O135, (((Fx.rf (wr := wr_k_X11_best)).call F60 rfl).call F136 rfl), f137, p138⟩ (by decide) (by decide) dX11_best_14
def wr_k_X11_kept : List Nat := [401, 402, 403, 404, 405, 406, 1403, 1404, 1405, 1412, 1813, 1814, 1815, 1816, 1817, 1818, 2003, 2207, 2215, 2216, 2217, 200400, 200407, 200408, 2420000, 3020000, 5620000, 7420000, 8020000, 8220400, 8420400, 8620000, 8820000, 9020000, 9220400, 9420000, 9821400, 10020000]
set_option maxRecDepth 100000 in
set_option maxHeartbeats 4000000 in
theorem k_X11_kept (l : Launch) (D : va_G) (cy : Nat → ClassId) (w : Nat → Nat) (z0 : Nat) {h : Hp} {a0 : Nat} {a1 : Int}  (O : Okh h) (ta0 : Tg h a0 = 11) (fa1 : (-2147483648) ≤ a1 ∧ a1 ≤ 2147483647) (P_XInv : XInv h a0) : MI l D cy w z0 yX11_kept cX11_kept 2 (some .int) 10 279 48 3216 [.inr (.inr a0), .inl a1] h (fun v h1 => Okh h1 ∧ Fx wr_k_X11_kept h h1 ∧ ((-2147483648) ≤ v ∧ v ≤ 2147483647) ∧ (XInv h1 a0)) := by
  obtain ⟨v1, e2⟩ : ∃ z, Rv h a0 3 = z := ⟨_, rfl⟩
  have t3 := ok_R O ta0 rE_11_3 e2
  have l4 := ok_L O ta0 rE_11_3 e2
  obtain ⟨v5, e6⟩ : ∃ z, Iv h a0 4 = z := ⟨_, rfl⟩
  have f7 := ok_I O ta0 rI_11_4 e6
  obtain ⟨v8, e9⟩ : ∃ z, Rv h a0 8 = z := ⟨_, rfl⟩
  have t10 := ok_R O ta0 rE_11_8 e9
  have l11 := ok_L O ta0 rE_11_8 e9
  obtain ⟨v12, e13⟩ : ∃ z, Iv h a0 9 = z := ⟨_, rfl⟩
  have f14 := ok_I O ta0 rI_11_9 e13
  obtain ⟨v15, e16⟩ : ∃ z, Rv h a0 11 = z := ⟨_, rfl⟩
  have t17 := ok_R O ta0 rE_11_11 e16
  have l18 := ok_L O ta0 rE_11_11 e16
  obtain ⟨v19, e20⟩ : ∃ z, Iv h a0 12 = z := ⟨_, rfl⟩
  have f21 := ok_I O ta0 rI_11_12 e20
  obtain ⟨v22, e23⟩ : ∃ z, Iv h a0 15 = z := ⟨_, rfl⟩
  have f24 := ok_I O ta0 rI_11_15 e23
  obtain ⟨v25, e26⟩ : ∃ z, Rv h a0 14 = z := ⟨_, rfl⟩
  have t27 := ok_R O ta0 rE_11_14 e26
  have l28 := ok_L O ta0 rE_11_14 e26
  obtain ⟨v29, e30⟩ : ∃ z, Rv h a0 13 = z := ⟨_, rfl⟩
  have t31 := ok_R O ta0 rE_11_13 e30
  obtain ⟨v32, e33⟩ : ∃ z, Rv h a0 6 = z := ⟨_, rfl⟩
  have t34 := ok_R O ta0 rE_11_6 e33
  obtain ⟨v35, e36⟩ : ∃ z, Rv h a0 7 = z := ⟨_, rfl⟩
  have t37 := ok_R O ta0 rE_11_7 e36
  have p48 := P_XInv
  unfold XInv at p48
  rw [e2, e6, e9, e13, e16, e20, e23, e26, e30, e33, e36] at p48
  obtain ⟨p38, p39, p40, p41, p42, p43, p44, p45, p46, p47⟩ := p48
  obtain ⟨v49, e50⟩ : ∃ z, Iv h v29 3 = z := ⟨_, rfl⟩
  have f51 := ok_I O t31 rI_7_3 e50
  obtain ⟨v52, e53⟩ : ∃ z, Iv h v29 4 = z := ⟨_, rfl⟩
  have f54 := ok_I O t31 rI_7_4 e53
  rw [e50] at p44
  rw [e53] at p45
  refine hm_go (by decide +kernel) (Nat.le_of_ble_eq_true rfl) (fun p e s m below meth c C hr hn => ?_)
  refine g_aload_n C rfl 0 rfl dX11_kept_0 ?_
  refine g_iload_n C rfl 1 rfl dX11_kept_1 ?_
  refine g_callI (st := []) (gc_V C lk_LandSurvey_231 (k_X11_isSet l D cy w z0 O ta0 fa1) ta0 rfl rfl rfl ⟨by decide, by decide⟩ (Nat.le_of_ble_eq_true rfl) dX11_kept_2 ⟨(by decide), (by decide)⟩) (fun r55 h56 f58 K57 => ?_)
  obtain ⟨O59, F60, f61, p62⟩ := K57
  rw [e13] at p62
  have f63 : (1 : Int) ≤ (bShl 1 v12) ∧ (bShl 1 v12) ≤ (16 : Int) := bShl_4 f14
  refine g_if_ne C (iw f61 (by decide) (by decide)) 10 (by decide) dX11_kept_5 (fun q64 => ?_) (fun q65 => ?_)
  · have f66 : (1 : Int) ≤ r55 ∧ r55 ≤ (1 : Int) := r_nl f61 q64
    refine g_aload_n C rfl 0 rfl dX11_kept_10 ?_
    have e67 : Tg h56 a0 = 11 := (fxT F60 ta0)
    have p68 := (XInv_fx O F60 ta0 rfl P_XInv)
    refine g_callI (st := []) (gc_V C lk_LandSurvey_207 (k_X11_judge l D cy w z0 O59 e67 p68) e67 rfl rfl rfl ⟨by decide, by decide⟩ (Nat.le_of_ble_eq_true rfl) dX11_kept_11 ⟨(by decide), (by decide)⟩) (fun r69 h70 f72 K71 => ?_)
    obtain ⟨O73, F74, f75, p76, p77, p78⟩ := K71
    obtain ⟨v79, e80⟩ : ∃ z, Rv h70 a0 17 = z := ⟨_, rfl⟩
    have e81 : Tg h70 a0 = 11 := (fxT F74 e67)
    rw [e80] at p78
    have e82 : Rv h70 a0 3 = v1 := ((fxR F74 e67 rfl).trans ((fxR F60 ta0 rfl).trans e2))
    have e83 : Iv h70 a0 4 = v5 := ((fxI F74 e67 rfl).trans ((fxI F60 ta0 rfl).trans e6))
    have e84 : Rv h70 a0 8 = v8 := ((fxR F74 e67 rfl).trans ((fxR F60 ta0 rfl).trans e9))
    have e85 : Iv h70 a0 9 = v12 := ((fxI F74 e67 rfl).trans ((fxI F60 ta0 rfl).trans e13))
    have e86 : Rv h70 a0 11 = v15 := ((fxR F74 e67 rfl).trans ((fxR F60 ta0 rfl).trans e16))
    have e87 : Iv h70 a0 12 = v19 := ((fxI F74 e67 rfl).trans ((fxI F60 ta0 rfl).trans e20))
    have e88 : Rv h70 a0 14 = v25 := ((fxR F74 e67 rfl).trans ((fxR F60 ta0 rfl).trans e26))
    have e89 : Rv h70 a0 13 = v29 := ((fxR F74 e67 rfl).trans ((fxR F60 ta0 rfl).trans e30))
    have e90 : Rv h70 a0 6 = v32 := ((fxR F74 e67 rfl).trans ((fxR F60 ta0 rfl).trans e33))
    obtain ⟨v91, e92⟩ : ∃ z, Rv h70 a0 7 = z := ⟨_, rfl⟩
    have t93 := ok_R O73 e81 rE_11_7 e92
    have p104 := p76
    unfold XInv at p104
    rw [e82, e83, e84, e85, e86, e87, p77, e88, e89, e90, e92] at p104
    obtain ⟨p94, p95, p96, p97, p98, p99, p100, p101, p102, p103⟩ := p104
    have e105 : Tg h56 v29 = 7 := (fxT F60 t31)
    obtain ⟨v106, e107⟩ : ∃ z, Iv h70 v29 3 = z := ⟨_, rfl⟩
    have e108 : Tg h70 v29 = 7 := (fxT F74 e105)
    have f109 := ok_I O73 e108 rI_7_3 e107
    obtain ⟨v110, e111⟩ : ∃ z, Iv h70 v29 4 = z := ⟨_, rfl⟩
    have f112 := ok_I O73 e108 rI_7_4 e111
    rw [e107] at p100
    rw [e111] at p101
    have p113 := p97 (by omega)
    refine g_pop C rfl dX11_kept_14 ?_
    refine g_aload_n C rfl 0 rfl dX11_kept_15 ?_
    refine g_iload_n C rfl 1 rfl dX11_kept_16 ?_
    refine g_callI (st := []) (gc_V C lk_LandSurvey_234 (k_X11_isKept l D cy w z0 O73 e81 (by omega) p77 p76 (by rw [e85]; omega)) e81 rfl rfl rfl ⟨by decide, by decide⟩ (Nat.le_of_ble_eq_true rfl) dX11_kept_17 ⟨(by decide), (by decide)⟩) (fun r114 h115 f117 K116 => ?_)
    obtain ⟨O118, F119, f120⟩ := K116
    refine g_if_eq C (iw f120 (by decide) (by decide)) 27 (by decide) dX11_kept_20 (fun q121 => ?_) (fun q122 => ?_)
    · have f123 : (0 : Int) ≤ r114 ∧ r114 ≤ (0 : Int) := ii f120 (r_eq (il 0) q121) (by decide) (by decide)
      refine g_iconst C dX11_kept_27 ?_
      have p124 := (XInv_fx O73 F119 e81 rfl p76)
      exact g_iret C hr rfl (iw (il 0) (by decide) (by decide)) ⟨O118, ((((Fx.rf (wr := wr_k_X11_kept)).call F60 rfl).call F74 rfl).call F119 rfl), (iw (il 0) (by decide) (by decide)), p124⟩ (by decide) (by decide) dX11_kept_28
    · have f125 : (1 : Int) ≤ r114 ∧ r114 ≤ (1 : Int) := r_nl f120 q122
      refine g_iconst C dX11_kept_23 ?_
      refine g_goto C 28 (by decide) dX11_kept_24 ?_
      have p126 := (XInv_fx O73 F119 e81 rfl p76)
      exact g_iret C hr rfl (iw (il 1) (by decide) (by decide)) ⟨O118, ((((Fx.rf (wr := wr_k_X11_kept)).call F60 rfl).call F74 rfl).call F119 rfl), (iw (il 1) (by decide) (by decide)), p126⟩ (by decide) (by decide) dX11_kept_28
  · have f127 : (0 : Int) ≤ r55 ∧ r55 ≤ (0 : Int) := ii f61 (r_eq (il 0) q65) (by decide) (by decide)
    refine g_iconst C dX11_kept_8 ?_
    have p128 := (XInv_fx O F60 ta0 rfl P_XInv)
    exact g_iret C hr rfl (iw (il (-1)) (by decide) (by decide)) ⟨O59, ((Fx.rf (wr := wr_k_X11_kept)).call F60 rfl), (iw (il (-1)) (by decide) (by decide)), p128⟩ (by decide) (by decide) dX11_kept_9
def wr_k_X11_lies : List Nat := [401, 402, 403, 404, 405, 406, 1403, 1404, 1405, 1412, 1813, 1814, 1815, 1816, 1817, 1818, 2003, 2207, 2215, 2216, 2217, 200400, 200407, 200408, 2020000, 2220000, 2420000, 3020000, 5620000, 7420000, 8020000, 8220400, 8420400, 8620000, 8820000, 9020000, 9220400, 9420000, 9821400, 10020000]
set_option maxRecDepth 100000 in
set_option maxHeartbeats 4000000 in
theorem k_X11_lies (l : Launch) (D : va_G) (cy : Nat → ClassId) (w : Nat → Nat) (z0 : Nat) {h : Hp} {a0 : Nat} {a1 : Int} {a2 : Int} {a3 : Int}  (O : Okh h) (ta0 : Tg h a0 = 11) (fa1 : (-2147483648) ≤ a1 ∧ a1 ≤ 2147483647) (fa2 : (-2147483648) ≤ a2 ∧ a2 ≤ 2147483647) (fa3 : (-2147483648) ≤ a3 ∧ a3 ≤ 2147483647) (P_XInv : XInv h a0) : MI l D cy w z0 yX11_lies cX11_lies 5 (some .int) 11 300 48 3216 [.inr (.inr a0), .inl a1, .inl a2, .inl a3] h (fun v h1 => Okh h1 ∧ Fx wr_k_X11_lies h h1 ∧ ((-2147483648) ≤ v ∧ v ≤ 2147483647) ∧ (XInv h1 a0)) := by
  obtain ⟨v1, e2⟩ : ∃ z, Rv h a0 3 = z := ⟨_, rfl⟩
  have t3 := ok_R O ta0 rE_11_3 e2
  have l4 := ok_L O ta0 rE_11_3 e2
  obtain ⟨v5, e6⟩ : ∃ z, Iv h a0 4 = z := ⟨_, rfl⟩
  have f7 := ok_I O ta0 rI_11_4 e6
  obtain ⟨v8, e9⟩ : ∃ z, Rv h a0 8 = z := ⟨_, rfl⟩
  have t10 := ok_R O ta0 rE_11_8 e9
  have l11 := ok_L O ta0 rE_11_8 e9
  obtain ⟨v12, e13⟩ : ∃ z, Iv h a0 9 = z := ⟨_, rfl⟩
  have f14 := ok_I O ta0 rI_11_9 e13
  obtain ⟨v15, e16⟩ : ∃ z, Rv h a0 11 = z := ⟨_, rfl⟩
  have t17 := ok_R O ta0 rE_11_11 e16
  have l18 := ok_L O ta0 rE_11_11 e16
  obtain ⟨v19, e20⟩ : ∃ z, Iv h a0 12 = z := ⟨_, rfl⟩
  have f21 := ok_I O ta0 rI_11_12 e20
  obtain ⟨v22, e23⟩ : ∃ z, Iv h a0 15 = z := ⟨_, rfl⟩
  have f24 := ok_I O ta0 rI_11_15 e23
  obtain ⟨v25, e26⟩ : ∃ z, Rv h a0 14 = z := ⟨_, rfl⟩
  have t27 := ok_R O ta0 rE_11_14 e26
  have l28 := ok_L O ta0 rE_11_14 e26
  obtain ⟨v29, e30⟩ : ∃ z, Rv h a0 13 = z := ⟨_, rfl⟩
  have t31 := ok_R O ta0 rE_11_13 e30
  obtain ⟨v32, e33⟩ : ∃ z, Rv h a0 6 = z := ⟨_, rfl⟩
  have t34 := ok_R O ta0 rE_11_6 e33
  obtain ⟨v35, e36⟩ : ∃ z, Rv h a0 7 = z := ⟨_, rfl⟩
  have t37 := ok_R O ta0 rE_11_7 e36
  have p48 := P_XInv
  unfold XInv at p48
  rw [e2, e6, e9, e13, e16, e20, e23, e26, e30, e33, e36] at p48
  obtain ⟨p38, p39, p40, p41, p42, p43, p44, p45, p46, p47⟩ := p48
  obtain ⟨v49, e50⟩ : ∃ z, Iv h v29 3 = z := ⟨_, rfl⟩
  have f51 := ok_I O t31 rI_7_3 e50
  obtain ⟨v52, e53⟩ : ∃ z, Iv h v29 4 = z := ⟨_, rfl⟩
  have f54 := ok_I O t31 rI_7_4 e53
  rw [e50] at p44
  rw [e53] at p45
  refine hm_go (by decide +kernel) (Nat.le_of_ble_eq_true rfl) (fun p e s m below meth c C hr hn => ?_)
  refine g_iload_n C rfl 1 rfl dX11_lies_0 ?_
  refine g_iload_n C rfl 2 rfl dX11_lies_1 ?_
  refine g_callI (st := []) (gc_S C lk_LandSurvey_85 (k_X11_cellAt l D cy w z0 O fa1 fa2) rfl ⟨by decide, by decide⟩ (Nat.le_of_ble_eq_true rfl) dX11_lies_2 ⟨(by decide), (by decide)⟩) (fun r55 h56 f58 K57 => ?_)
  obtain ⟨O59, F60, f61, p62⟩ := K57
  refine g_istore C [(4, .inl r55), (0, .inr (.inr a0)), (1, .inl a1), (2, .inl a2), (3, .inl a3)] (by decide) rfl dX11_lies_5 ?_
  refine g_iload C 0 rfl dX11_lies_7 ?_
  refine g_iconst C dX11_lies_9 ?_
  refine g_icmp_eq C (iw f61 (by decide) (by decide)) (iw (il (-1)) (by decide) (by decide)) 31 (by decide) dX11_lies_10 (fun q63 => ?_) (fun q64 => ?_)
  · have f65 : (-1 : Int) ≤ r55 ∧ r55 ≤ (-1 : Int) := ii f61 (r_eq (il (-1)) q63) (by decide) (by decide)
    refine g_iconst C dX11_lies_31 ?_
    have p66 := (XInv_fx O F60 ta0 rfl P_XInv)
    exact g_iret C hr rfl (iw (il (-1)) (by decide) (by decide)) ⟨O59, ((Fx.rf (wr := wr_k_X11_lies)).call F60 rfl), (iw (il (-1)) (by decide) (by decide)), p66⟩ (by decide) (by decide) dX11_lies_32
  · have f67 : (0 : Int) ≤ r55 ∧ r55 ≤ (95 : Int) := r_nl f61 q64
    refine g_iload_n C rfl 4 rfl dX11_lies_13 ?_
    refine g_if_lt C fa3 31 (by decide) dX11_lies_14 (fun q68 => ?_) (fun q69 => ?_)
    · have f70 : (-2147483648 : Int) ≤ a3 ∧ a3 ≤ (-1 : Int) := r_lt fa3 (il 0) q68 (by decide) (by decide)
      refine g_iconst C dX11_lies_31 ?_
      have p71 := (XInv_fx O F60 ta0 rfl P_XInv)
      exact g_iret C hr rfl (iw (il (-1)) (by decide) (by decide)) ⟨O59, ((Fx.rf (wr := wr_k_X11_lies)).call F60 rfl), (iw (il (-1)) (by decide) (by decide)), p71⟩ (by decide) (by decide) dX11_lies_32
    · have f72 : (0 : Int) ≤ a3 ∧ a3 ≤ (2147483647 : Int) := r_ge fa3 (il 0) q69 (by decide) (by decide)
      refine g_iload_n C rfl 4 rfl dX11_lies_17 ?_
      refine g_sipush C (by decide) dX11_lies_18 ?_
      refine g_icmp_gt C (iw f72 (by decide) (by decide)) (iw (il 2000) (by decide) (by decide)) 31 (by decide) dX11_lies_21 (fun q73 => ?_) (fun q74 => ?_)
      · have f75 : (2001 : Int) ≤ a3 ∧ a3 ≤ (2147483647 : Int) := r_gt f72 (il 2000) q73 (by decide) (by decide)
        refine g_iconst C dX11_lies_31 ?_
        have p76 := (XInv_fx O F60 ta0 rfl P_XInv)
        exact g_iret C hr rfl (iw (il (-1)) (by decide) (by decide)) ⟨O59, ((Fx.rf (wr := wr_k_X11_lies)).call F60 rfl), (iw (il (-1)) (by decide) (by decide)), p76⟩ (by decide) (by decide) dX11_lies_32
      · have f77 : (0 : Int) ≤ a3 ∧ a3 ≤ (2000 : Int) := r_le f72 (il 2000) q74 (by decide) (by decide)
        refine g_aload_n C rfl 1 rfl dX11_lies_24 ?_
        have e78 : Tg h56 a0 = 11 := (fxT F60 ta0)
        have p79 := (XInv_fx O F60 ta0 rfl P_XInv)
        refine g_callI (st := []) (gc_V C lk_LandSurvey_253 (k_X11_prepare l D cy w z0 O59 e78 p79) e78 rfl rfl rfl ⟨by decide, by decide⟩ (Nat.le_of_ble_eq_true rfl) dX11_lies_25 ⟨(by decide), (by decide)⟩) (fun r80 h81 f83 K82 => ?_)
        obtain ⟨O84, F85, f86, p87, p88, p89⟩ := K82
        obtain ⟨v90, e91⟩ : ∃ z, Rv h81 a0 17 = z := ⟨_, rfl⟩
        have e92 : Tg h81 a0 = 11 := (fxT F85 e78)
        rw [e91] at p89
        have e93 : Rv h81 a0 3 = v1 := ((fxR F85 e78 rfl).trans ((fxR F60 ta0 rfl).trans e2))
        have e94 : Iv h81 a0 4 = v5 := ((fxI F85 e78 rfl).trans ((fxI F60 ta0 rfl).trans e6))
        have e95 : Rv h81 a0 8 = v8 := ((fxR F85 e78 rfl).trans ((fxR F60 ta0 rfl).trans e9))
        have e96 : Iv h81 a0 9 = v12 := ((fxI F85 e78 rfl).trans ((fxI F60 ta0 rfl).trans e13))
        have e97 : Rv h81 a0 11 = v15 := ((fxR F85 e78 rfl).trans ((fxR F60 ta0 rfl).trans e16))
        have e98 : Iv h81 a0 12 = v19 := ((fxI F85 e78 rfl).trans ((fxI F60 ta0 rfl).trans e20))
        have e99 : Rv h81 a0 14 = v25 := ((fxR F85 e78 rfl).trans ((fxR F60 ta0 rfl).trans e26))
        have e100 : Rv h81 a0 13 = v29 := ((fxR F85 e78 rfl).trans ((fxR F60 ta0 rfl).trans e30))
        have e101 : Rv h81 a0 6 = v32 := ((fxR F85 e78 rfl).trans ((fxR F60 ta0 rfl).trans e33))
        obtain ⟨v102, e103⟩ : ∃ z, Rv h81 a0 7 = z := ⟨_, rfl⟩
        have t104 := ok_R O84 e92 rE_11_7 e103
        have p115 := p87
        unfold XInv at p115
        rw [e93, e94, e95, e96, e97, e98, p88, e99, e100, e101, e103] at p115
        obtain ⟨p105, p106, p107, p108, p109, p110, p111, p112, p113, p114⟩ := p115
        have e116 : Tg h56 v29 = 7 := (fxT F60 t31)
        obtain ⟨v117, e118⟩ : ∃ z, Iv h81 v29 3 = z := ⟨_, rfl⟩
        have e119 : Tg h81 v29 = 7 := (fxT F85 e116)
        have f120 := ok_I O84 e119 rI_7_3 e118
        obtain ⟨v121, e122⟩ : ∃ z, Iv h81 v29 4 = z := ⟨_, rfl⟩
        have f123 := ok_I O84 e119 rI_7_4 e122
        rw [e118] at p111
        rw [e122] at p112
        have p124 := p108 (by omega)
        refine g_if_ne C (iw f86 (by decide) (by decide)) 33 (by decide) dX11_lies_28 (fun q125 => ?_) (fun q126 => ?_)
        · have f127 : (1 : Int) ≤ r80 ∧ r80 ≤ (1 : Int) := r_nl f86 q125
          refine g_aload_n C rfl 1 rfl dX11_lies_33 ?_
          refine g_iload C 0 rfl dX11_lies_34 ?_
          refine g_iload_n C rfl 4 rfl dX11_lies_36 ?_
          refine g_callI (st := []) (gc_V C lk_LandSurvey_256 (k_X11_mayLieByAll l D cy w z0 O84 e92 f67 (iw f77 (by decide) (by decide)) p88 p87) e92 rfl rfl rfl ⟨by decide, by decide⟩ (Nat.le_of_ble_eq_true rfl) dX11_lies_37 ⟨(by decide), (by decide)⟩) (fun r128 h129 f131 K130 => ?_)
          obtain ⟨O132, F133, f134⟩ := K130
          have p135 := (XInv_fx O84 F133 e92 rfl p87)
          exact g_iret C hr rfl f134 ⟨O132, ((((Fx.rf (wr := wr_k_X11_lies)).call F60 rfl).call F85 rfl).call F133 rfl), f134, p135⟩ (by decide) (by decide) dX11_lies_40
        · have f136 : (0 : Int) ≤ r80 ∧ r80 ≤ (0 : Int) := ii f86 (r_eq (il 0) q126) (by decide) (by decide)
          refine g_iconst C dX11_lies_31 ?_
          exact g_iret C hr rfl (iw (il (-1)) (by decide) (by decide)) ⟨O84, (((Fx.rf (wr := wr_k_X11_lies)).call F60 rfl).call F85 rfl), (iw (il (-1)) (by decide) (by decide)), p87⟩ (by decide) (by decide) dX11_lies_32
def wr_k_X11_line : List Nat := [401, 402, 403, 404, 405, 406, 1403, 1404, 1405, 1412, 1813, 1814, 1815, 1816, 1817, 1818, 2003, 2207, 2215, 2216, 2217, 200400, 200407, 200408, 2020000, 2220000, 2420000, 3020000, 5620000, 7420000, 8020000, 8220400, 8420400, 8620000, 8820000, 9020000, 9220400, 9420000, 9821400, 10020000]
set_option maxRecDepth 100000 in
set_option maxHeartbeats 4000000 in
theorem k_X11_line (l : Launch) (D : va_G) (cy : Nat → ClassId) (w : Nat → Nat) (z0 : Nat) {h : Hp} {a0 : Nat} {a1 : Int} {a2 : Int} {a3 : Int}  (O : Okh h) (ta0 : Tg h a0 = 11) (fa1 : (-2147483648) ≤ a1 ∧ a1 ≤ 2147483647) (fa2 : (-2147483648) ≤ a2 ∧ a2 ≤ 2147483647) (fa3 : (-2147483648) ≤ a3 ∧ a3 ≤ 2147483647) (P_XInv : XInv h a0) : MI l D cy w z0 yX11_line cX11_line 7 (some .int) 11 300 48 3216 [.inr (.inr a0), .inl a1, .inl a2, .inl a3] h (fun v h1 => Okh h1 ∧ Fx wr_k_X11_line h h1 ∧ ((-2147483648) ≤ v ∧ v ≤ 2147483647) ∧ (XInv h1 a0)) := by
  obtain ⟨v1, e2⟩ : ∃ z, Rv h a0 3 = z := ⟨_, rfl⟩
  have t3 := ok_R O ta0 rE_11_3 e2
  have l4 := ok_L O ta0 rE_11_3 e2
  obtain ⟨v5, e6⟩ : ∃ z, Iv h a0 4 = z := ⟨_, rfl⟩
  have f7 := ok_I O ta0 rI_11_4 e6
  obtain ⟨v8, e9⟩ : ∃ z, Rv h a0 8 = z := ⟨_, rfl⟩
  have t10 := ok_R O ta0 rE_11_8 e9
  have l11 := ok_L O ta0 rE_11_8 e9
  obtain ⟨v12, e13⟩ : ∃ z, Iv h a0 9 = z := ⟨_, rfl⟩
  have f14 := ok_I O ta0 rI_11_9 e13
  obtain ⟨v15, e16⟩ : ∃ z, Rv h a0 11 = z := ⟨_, rfl⟩
  have t17 := ok_R O ta0 rE_11_11 e16
  have l18 := ok_L O ta0 rE_11_11 e16
  obtain ⟨v19, e20⟩ : ∃ z, Iv h a0 12 = z := ⟨_, rfl⟩
  have f21 := ok_I O ta0 rI_11_12 e20
  obtain ⟨v22, e23⟩ : ∃ z, Iv h a0 15 = z := ⟨_, rfl⟩
  have f24 := ok_I O ta0 rI_11_15 e23
  obtain ⟨v25, e26⟩ : ∃ z, Rv h a0 14 = z := ⟨_, rfl⟩
  have t27 := ok_R O ta0 rE_11_14 e26
  have l28 := ok_L O ta0 rE_11_14 e26
  obtain ⟨v29, e30⟩ : ∃ z, Rv h a0 13 = z := ⟨_, rfl⟩
  have t31 := ok_R O ta0 rE_11_13 e30
  obtain ⟨v32, e33⟩ : ∃ z, Rv h a0 6 = z := ⟨_, rfl⟩
  have t34 := ok_R O ta0 rE_11_6 e33
  obtain ⟨v35, e36⟩ : ∃ z, Rv h a0 7 = z := ⟨_, rfl⟩
  have t37 := ok_R O ta0 rE_11_7 e36
  have p48 := P_XInv
  unfold XInv at p48
  rw [e2, e6, e9, e13, e16, e20, e23, e26, e30, e33, e36] at p48
  obtain ⟨p38, p39, p40, p41, p42, p43, p44, p45, p46, p47⟩ := p48
  obtain ⟨v49, e50⟩ : ∃ z, Iv h v29 3 = z := ⟨_, rfl⟩
  have f51 := ok_I O t31 rI_7_3 e50
  obtain ⟨v52, e53⟩ : ∃ z, Iv h v29 4 = z := ⟨_, rfl⟩
  have f54 := ok_I O t31 rI_7_4 e53
  rw [e50] at p44
  rw [e53] at p45
  refine hm_go (by decide +kernel) (Nat.le_of_ble_eq_true rfl) (fun p e s m below meth c C hr hn => ?_)
  refine g_iload_n C rfl 1 rfl dX11_line_0 ?_
  refine g_iload_n C rfl 2 rfl dX11_line_1 ?_
  refine g_callI (st := []) (gc_S C lk_LandSurvey_85 (k_X11_cellAt l D cy w z0 O fa1 fa2) rfl ⟨by decide, by decide⟩ (Nat.le_of_ble_eq_true rfl) dX11_line_2 ⟨(by decide), (by decide)⟩) (fun r55 h56 f58 K57 => ?_)
  obtain ⟨O59, F60, f61, p62⟩ := K57
  refine g_istore C [(4, .inl r55), (0, .inr (.inr a0)), (1, .inl a1), (2, .inl a2), (3, .inl a3)] (by decide) rfl dX11_line_5 ?_
  refine g_iload C 0 rfl dX11_line_7 ?_
  refine g_iconst C dX11_line_9 ?_
  refine g_icmp_eq C (iw f61 (by decide) (by decide)) (iw (il (-1)) (by decide) (by decide)) 22 (by decide) dX11_line_10 (fun q63 => ?_) (fun q64 => ?_)
  · have f65 : (-1 : Int) ≤ r55 ∧ r55 ≤ (-1 : Int) := ii f61 (r_eq (il (-1)) q63) (by decide) (by decide)
    refine g_iconst C dX11_line_22 ?_
    have p66 := (XInv_fx O F60 ta0 rfl P_XInv)
    exact g_iret C hr rfl (iw (il (-1)) (by decide) (by decide)) ⟨O59, ((Fx.rf (wr := wr_k_X11_line)).call F60 rfl), (iw (il (-1)) (by decide) (by decide)), p66⟩ (by decide) (by decide) dX11_line_23
  · have f67 : (0 : Int) ≤ r55 ∧ r55 ≤ (95 : Int) := r_nl f61 q64
    refine g_iload_n C rfl 4 rfl dX11_line_13 ?_
    refine g_if_lt C fa3 22 (by decide) dX11_line_14 (fun q68 => ?_) (fun q69 => ?_)
    · have f70 : (-2147483648 : Int) ≤ a3 ∧ a3 ≤ (-1 : Int) := r_lt fa3 (il 0) q68 (by decide) (by decide)
      refine g_iconst C dX11_line_22 ?_
      have p71 := (XInv_fx O F60 ta0 rfl P_XInv)
      exact g_iret C hr rfl (iw (il (-1)) (by decide) (by decide)) ⟨O59, ((Fx.rf (wr := wr_k_X11_line)).call F60 rfl), (iw (il (-1)) (by decide) (by decide)), p71⟩ (by decide) (by decide) dX11_line_23
    · have f72 : (0 : Int) ≤ a3 ∧ a3 ≤ (2147483647 : Int) := r_ge fa3 (il 0) q69 (by decide) (by decide)
      refine g_iload_n C rfl 4 rfl dX11_line_17 ?_
      refine g_iconst C dX11_line_18 ?_
      refine g_icmp_lt C (iw f72 (by decide) (by decide)) (iw (il 4) (by decide) (by decide)) 24 (by decide) dX11_line_19 (fun q73 => ?_) (fun q74 => ?_)
      · have f75 : (0 : Int) ≤ a3 ∧ a3 ≤ (3 : Int) := r_lt f72 (il 4) q73 (by decide) (by decide)
        refine g_iload C 0 rfl dX11_line_24 ?_
        refine g_iload_n C rfl 4 rfl dX11_line_26 ?_
        refine g_callI (st := []) (gc_S C lk_LandSurvey_118 (k_X11_neighbour l D cy w z0 O59 f67 (iw f75 (by decide) (by decide))) rfl ⟨by decide, by decide⟩ (Nat.le_of_ble_eq_true rfl) dX11_line_27 ⟨(by decide), (by decide)⟩) (fun r76 h77 f79 K78 => ?_)
        obtain ⟨O80, F81, f82⟩ := K78
        refine g_istore C [(5, .inl r76), (4, .inl r55), (0, .inr (.inr a0)), (1, .inl a1), (2, .inl a2), (3, .inl a3)] (by decide) rfl dX11_line_30 ?_
        refine g_iload C 0 rfl dX11_line_32 ?_
        refine g_iconst C dX11_line_34 ?_
        refine g_icmp_eq C (iw f82 (by decide) (by decide)) (iw (il (-1)) (by decide) (by decide)) 45 (by decide) dX11_line_35 (fun q83 => ?_) (fun q84 => ?_)
        · have f85 : (-1 : Int) ≤ r76 ∧ r76 ≤ (-1 : Int) := ii f82 (r_eq (il (-1)) q83) (by decide) (by decide)
          refine g_iconst C dX11_line_45 ?_
          have e86 : Tg h56 a0 = 11 := (fxT F60 ta0)
          have p87 := (XInv_fx O59 F81 e86 rfl (XInv_fx O F60 ta0 rfl P_XInv))
          exact g_iret C hr rfl (iw (il (-1)) (by decide) (by decide)) ⟨O80, (((Fx.rf (wr := wr_k_X11_line)).call F60 rfl).call F81 rfl), (iw (il (-1)) (by decide) (by decide)), p87⟩ (by decide) (by decide) dX11_line_46
        · have f88 : (0 : Int) ≤ r76 ∧ r76 ≤ (95 : Int) := r_nl f82 q84
          refine g_aload_n C rfl 2 rfl dX11_line_38 ?_
          have e89 : Tg h77 a0 = 11 := (fxT F81 (fxT F60 ta0))
          have e90 : Tg h56 a0 = 11 := (fxT F60 ta0)
          have p91 := (XInv_fx O59 F81 e90 rfl (XInv_fx O F60 ta0 rfl P_XInv))
          refine g_callI (st := []) (gc_V C lk_LandSurvey_253 (k_X11_prepare l D cy w z0 O80 e89 p91) e89 rfl rfl rfl ⟨by decide, by decide⟩ (Nat.le_of_ble_eq_true rfl) dX11_line_39 ⟨(by decide), (by decide)⟩) (fun r92 h93 f95 K94 => ?_)
          obtain ⟨O96, F97, f98, p99, p100, p101⟩ := K94
          obtain ⟨v102, e103⟩ : ∃ z, Rv h93 a0 17 = z := ⟨_, rfl⟩
          have e104 : Tg h93 a0 = 11 := (fxT F97 e89)
          rw [e103] at p101
          have e105 : Rv h93 a0 3 = v1 := ((fxR F97 e89 rfl).trans ((fxR F81 e90 rfl).trans ((fxR F60 ta0 rfl).trans e2)))
          have e106 : Iv h93 a0 4 = v5 := ((fxI F97 e89 rfl).trans ((fxI F81 e90 rfl).trans ((fxI F60 ta0 rfl).trans e6)))
          have e107 : Rv h93 a0 8 = v8 := ((fxR F97 e89 rfl).trans ((fxR F81 e90 rfl).trans ((fxR F60 ta0 rfl).trans e9)))
          have e108 : Iv h93 a0 9 = v12 := ((fxI F97 e89 rfl).trans ((fxI F81 e90 rfl).trans ((fxI F60 ta0 rfl).trans e13)))
          have e109 : Rv h93 a0 11 = v15 := ((fxR F97 e89 rfl).trans ((fxR F81 e90 rfl).trans ((fxR F60 ta0 rfl).trans e16)))
          have e110 : Iv h93 a0 12 = v19 := ((fxI F97 e89 rfl).trans ((fxI F81 e90 rfl).trans ((fxI F60 ta0 rfl).trans e20)))
          have e111 : Rv h93 a0 14 = v25 := ((fxR F97 e89 rfl).trans ((fxR F81 e90 rfl).trans ((fxR F60 ta0 rfl).trans e26)))
          have e112 : Rv h93 a0 13 = v29 := ((fxR F97 e89 rfl).trans ((fxR F81 e90 rfl).trans ((fxR F60 ta0 rfl).trans e30)))
          have e113 : Rv h93 a0 6 = v32 := ((fxR F97 e89 rfl).trans ((fxR F81 e90 rfl).trans ((fxR F60 ta0 rfl).trans e33)))
          obtain ⟨v114, e115⟩ : ∃ z, Rv h93 a0 7 = z := ⟨_, rfl⟩
          have t116 := ok_R O96 e104 rE_11_7 e115
          have p127 := p99
          unfold XInv at p127
          rw [e105, e106, e107, e108, e109, e110, p100, e111, e112, e113, e115] at p127
          obtain ⟨p117, p118, p119, p120, p121, p122, p123, p124, p125, p126⟩ := p127
          have e128 : Tg h56 v29 = 7 := (fxT F60 t31)
          have e129 : Tg h77 v29 = 7 := (fxT F81 e128)
          obtain ⟨v130, e131⟩ : ∃ z, Iv h93 v29 3 = z := ⟨_, rfl⟩
          have e132 : Tg h93 v29 = 7 := (fxT F97 e129)
          have f133 := ok_I O96 e132 rI_7_3 e131
          obtain ⟨v134, e135⟩ : ∃ z, Iv h93 v29 4 = z := ⟨_, rfl⟩
          have f136 := ok_I O96 e132 rI_7_4 e135
          rw [e131] at p123
          rw [e135] at p124
          have p137 := p120 (by omega)
          refine g_if_ne C (iw f98 (by decide) (by decide)) 47 (by decide) dX11_line_42 (fun q138 => ?_) (fun q139 => ?_)
          · have f140 : (1 : Int) ≤ r92 ∧ r92 ≤ (1 : Int) := r_nl f98 q138
            refine g_aload_n C rfl 2 rfl dX11_line_47 ?_
            refine g_iload C 1 rfl dX11_line_48 ?_
            refine g_iload C 0 rfl dX11_line_50 ?_
            refine g_callV (st := []) (gc_V C lk_LandSurvey_259 (k_X11_gatherLineFacts l D cy w z0 O96 e104 f67 f88 p100 p99) e104 rfl rfl rfl ⟨by decide, by decide⟩ (Nat.le_of_ble_eq_true rfl) dX11_line_52 ⟨(by decide), (by decide)⟩) (fun h142 K143 => ?_)
            obtain ⟨O145, F146⟩ := K143
            refine g_aload_n C rfl 2 rfl dX11_line_55 ?_
            have e147 : Tg h142 a0 = 11 := (fxT F146 e104)
            have e148 : Rv h142 a0 7 = v114 := ((fxR F146 e104 rfl).trans e115)
            refine gf_R C fk_LandSurvey_44 rfl e147 e148 dX11_line_56 ?_
            refine g_iconst C dX11_line_59 ?_
            refine g_aload_n C rfl 2 rfl dX11_line_60 ?_
            obtain ⟨v149, e150⟩ : ∃ z, Rv h142 a0 18 = z := ⟨_, rfl⟩
            have t151 := ok_R O145 e147 rE_11_18 e150
            have l152 := ok_L O145 e147 rE_11_18 e150
            refine gf_R C fk_LandSurvey_74 rfl e147 e150 dX11_line_61 ?_
            have e153 : Tg h142 v114 = 6 := (fxT F146 t116)
            have p154 := (RulesOk_fx O96 F146 t116 rfl p126)
            refine g_callI (st := []) (gc_V C lk_LandSurvey_263 (k_X5_firstThatTells l D cy w z0 O145 e153 (iw (il 2) (by decide) (by decide)) t151 l152 p154) e153 rfl rfl rfl ⟨by decide, by decide⟩ (Nat.le_of_ble_eq_true rfl) dX11_line_64 ⟨(by decide), (by decide)⟩) (fun r155 h156 f158 K157 => ?_)
            obtain ⟨O159, F160, f161, p162⟩ := K157
            refine g_istore C [(6, .inl r155), (5, .inl r76), (4, .inl r55), (0, .inr (.inr a0)), (1, .inl a1), (2, .inl a2), (3, .inl a3)] (by decide) rfl dX11_line_67 ?_
            refine g_iload C 0 rfl dX11_line_69 ?_
            refine g_iconst C dX11_line_71 ?_
            refine g_icmp_eq C (iw f161 (by decide) (by decide)) (iw (il (-1)) (by decide) (by decide)) 86 (by decide) dX11_line_72 (fun q163 => ?_) (fun q164 => ?_)
            · have f165 : (-1 : Int) ≤ r155 ∧ r155 ≤ (-1 : Int) := ii f161 (r_eq (il (-1)) q163) (by decide) (by decide)
              refine g_aload_n C rfl 3 rfl dX11_line_86 ?_
              have e166 : Tg h156 a0 = 11 := (fxT F160 e147)
              have e167 : Rv h156 a0 18 = v149 := ((fxR F160 e147 rfl).trans e150)
              refine gf_R C fk_LandSurvey_74 rfl e166 e167 dX11_line_87 ?_
              refine g_bipush C (by decide) dX11_line_90 ?_
              have e168 : Tg h156 v149 = 50100 := (fxT F160 t151)
              have e169 : Ln h156 v149 = 12 := ((fxL F160 t151).trans l152)
              obtain ⟨v170, e171⟩ : ∃ z, Iv h156 v149 ((8 : Int).toNat) = z := ⟨_, rfl⟩
              have f172 := ok_Ia O159 e168 ar_50100 rI_50100_0 e171
              refine g_iald C e168 rfl e169 (ix (il 8) (by decide) (by decide)) e171 dX11_line_92 ?_
              refine g_sipush C (by decide) dX11_line_93 ?_
              refine g_icmp_ne C f172 (iw (il 1000) (by decide) (by decide)) 101 (by decide) dX11_line_96 (fun q173 => ?_) (fun q174 => ?_)
              · refine g_aload_n C rfl 3 rfl dX11_line_101 ?_
                refine gf_R C fk_LandSurvey_74 rfl e166 e167 dX11_line_102 ?_
                refine g_bipush C (by decide) dX11_line_105 ?_
                obtain ⟨v175, e176⟩ : ∃ z, Iv h156 v149 ((9 : Int).toNat) = z := ⟨_, rfl⟩
                have f177 := ok_Ia O159 e168 ar_50100 rI_50100_0 e176
                refine g_iald C e168 rfl e169 (ix (il 9) (by decide) (by decide)) e176 dX11_line_107 ?_
                refine g_sipush C (by decide) dX11_line_108 ?_
                refine g_icmp_ne C f177 (iw (il 1000) (by decide) (by decide)) 116 (by decide) dX11_line_111 (fun q178 => ?_) (fun q179 => ?_)
                · refine g_aload_n C rfl 3 rfl dX11_line_116 ?_
                  refine gf_R C fk_LandSurvey_74 rfl e166 e167 dX11_line_117 ?_
                  refine g_bipush C (by decide) dX11_line_120 ?_
                  obtain ⟨v180, e181⟩ : ∃ z, Iv h156 v149 ((10 : Int).toNat) = z := ⟨_, rfl⟩
                  have f182 := ok_Ia O159 e168 ar_50100 rI_50100_0 e181
                  refine g_iald C e168 rfl e169 (ix (il 10) (by decide) (by decide)) e181 dX11_line_122 ?_
                  refine g_sipush C (by decide) dX11_line_123 ?_
                  refine g_icmp_ne C f182 (iw (il 1000) (by decide) (by decide)) 133 (by decide) dX11_line_126 (fun q183 => ?_) (fun q184 => ?_)
                  · refine g_iconst C dX11_line_133 ?_
                    have p185 := (XInv_fx O145 F160 e147 rfl (XInv_fx O96 F146 e104 rfl p99))
                    exact g_iret C hr rfl (iw (il 1) (by decide) (by decide)) ⟨O159, ((((((Fx.rf (wr := wr_k_X11_line)).call F60 rfl).call F81 rfl).call F97 rfl).call F146 rfl).call F160 rfl), (iw (il 1) (by decide) (by decide)), p185⟩ (by decide) (by decide) dX11_line_134
                  · have f186 : (1000 : Int) ≤ v180 ∧ v180 ≤ (1000 : Int) := ii f182 (r_eq (il 1000) q184) (by decide) (by decide)
                    refine g_iconst C dX11_line_129 ?_
                    refine g_goto C 134 (by decide) dX11_line_130 ?_
                    have p187 := (XInv_fx O145 F160 e147 rfl (XInv_fx O96 F146 e104 rfl p99))
                    exact g_iret C hr rfl (iw (il 0) (by decide) (by decide)) ⟨O159, ((((((Fx.rf (wr := wr_k_X11_line)).call F60 rfl).call F81 rfl).call F97 rfl).call F146 rfl).call F160 rfl), (iw (il 0) (by decide) (by decide)), p187⟩ (by decide) (by decide) dX11_line_134
                · have f188 : (1000 : Int) ≤ v175 ∧ v175 ≤ (1000 : Int) := ii f177 (r_eq (il 1000) q179) (by decide) (by decide)
                  refine g_iconst C dX11_line_114 ?_
                  have p189 := (XInv_fx O145 F160 e147 rfl (XInv_fx O96 F146 e104 rfl p99))
                  exact g_iret C hr rfl (iw (il 2) (by decide) (by decide)) ⟨O159, ((((((Fx.rf (wr := wr_k_X11_line)).call F60 rfl).call F81 rfl).call F97 rfl).call F146 rfl).call F160 rfl), (iw (il 2) (by decide) (by decide)), p189⟩ (by decide) (by decide) dX11_line_115
              · have f190 : (1000 : Int) ≤ v170 ∧ v170 ≤ (1000 : Int) := ii f172 (r_eq (il 1000) q174) (by decide) (by decide)
                refine g_iconst C dX11_line_99 ?_
                have p191 := (XInv_fx O145 F160 e147 rfl (XInv_fx O96 F146 e104 rfl p99))
                exact g_iret C hr rfl (iw (il 3) (by decide) (by decide)) ⟨O159, ((((((Fx.rf (wr := wr_k_X11_line)).call F60 rfl).call F81 rfl).call F97 rfl).call F146 rfl).call F160 rfl), (iw (il 3) (by decide) (by decide)), p191⟩ (by decide) (by decide) dX11_line_100
            · have f192 : (0 : Int) ≤ r155 ∧ r155 ≤ (23 : Int) := r_nl f161 q164
              refine g_aload_n C rfl 3 rfl dX11_line_75 ?_
              have e193 : Tg h156 a0 = 11 := (fxT F160 e147)
              have e194 : Rv h156 a0 7 = v114 := ((fxR F160 e147 rfl).trans e148)
              refine gf_R C fk_LandSurvey_44 rfl e193 e194 dX11_line_76 ?_
              have e195 : Tg h156 v114 = 6 := (fxT F160 e153)
              obtain ⟨v196, e197⟩ : ∃ z, Rv h156 v114 15 = z := ⟨_, rfl⟩
              have t198 := ok_R O159 e195 rE_6_15 e197
              have l199 := ok_L O159 e195 rE_6_15 e197
              refine gf_R C fk_LandSurvey_269 rfl e195 e197 dX11_line_79 ?_
              refine g_iload C 0 rfl dX11_line_82 ?_
              obtain ⟨v200, e201⟩ : ∃ z, Iv h156 v196 r155.toNat = z := ⟨_, rfl⟩
              have f202 := ok_Ia O159 t198 ar_32100 rI_32100_0 e201
              refine g_iald C t198 rfl l199 (ix f192 (by decide) (by decide)) e201 dX11_line_84 ?_
              have p203 := (XInv_fx O145 F160 e147 rfl (XInv_fx O96 F146 e104 rfl p99))
              exact g_iret C hr rfl (iw f202 (by decide) (by decide)) ⟨O159, ((((((Fx.rf (wr := wr_k_X11_line)).call F60 rfl).call F81 rfl).call F97 rfl).call F146 rfl).call F160 rfl), (iw f202 (by decide) (by decide)), p203⟩ (by decide) (by decide) dX11_line_85
          · have f204 : (0 : Int) ≤ r92 ∧ r92 ≤ (0 : Int) := ii f98 (r_eq (il 0) q139) (by decide) (by decide)
            refine g_iconst C dX11_line_45 ?_
            exact g_iret C hr rfl (iw (il (-1)) (by decide) (by decide)) ⟨O96, ((((Fx.rf (wr := wr_k_X11_line)).call F60 rfl).call F81 rfl).call F97 rfl), (iw (il (-1)) (by decide) (by decide)), p99⟩ (by decide) (by decide) dX11_line_46
      · have f205 : (4 : Int) ≤ a3 ∧ a3 ≤ (2147483647 : Int) := r_ge f72 (il 4) q74 (by decide) (by decide)
        refine g_iconst C dX11_line_22 ?_
        have p206 := (XInv_fx O F60 ta0 rfl P_XInv)
        exact g_iret C hr rfl (iw (il (-1)) (by decide) (by decide)) ⟨O59, ((Fx.rf (wr := wr_k_X11_line)).call F60 rfl), (iw (il (-1)) (by decide) (by decide)), p206⟩ (by decide) (by decide) dX11_line_23
def wr_k_X11_water : List Nat := [401, 402, 403, 404, 405, 406, 1403, 1404, 1405, 1412, 1813, 1814, 1815, 1816, 1817, 1818, 2003, 2207, 2215, 2216, 2217, 200400, 200407, 200408, 2020000, 2220000, 2420000, 3020000, 5620000, 7420000, 8020000, 8220400, 8420400, 8620000, 8820000, 9020000, 9220400, 9420000, 9821400, 10020000]
set_option maxRecDepth 100000 in
set_option maxHeartbeats 4000000 in
theorem k_X11_water (l : Launch) (D : va_G) (cy : Nat → ClassId) (w : Nat → Nat) (z0 : Nat) {h : Hp} {a0 : Nat} {a1 : Int} {a2 : Int} {a3 : Int}  (O : Okh h) (ta0 : Tg h a0 = 11) (fa1 : (-2147483648) ≤ a1 ∧ a1 ≤ 2147483647) (fa2 : (-2147483648) ≤ a2 ∧ a2 ≤ 2147483647) (fa3 : (-2147483648) ≤ a3 ∧ a3 ≤ 2147483647) (P_XInv : XInv h a0) : MI l D cy w z0 yX11_water cX11_water 8 (some .int) 11 300 48 3216 [.inr (.inr a0), .inl a1, .inl a2, .inl a3] h (fun v h1 => Okh h1 ∧ Fx wr_k_X11_water h h1 ∧ ((-2147483648) ≤ v ∧ v ≤ 2147483647) ∧ (XInv h1 a0)) := by
  obtain ⟨v1, e2⟩ : ∃ z, Rv h a0 3 = z := ⟨_, rfl⟩
  have t3 := ok_R O ta0 rE_11_3 e2
  have l4 := ok_L O ta0 rE_11_3 e2
  obtain ⟨v5, e6⟩ : ∃ z, Iv h a0 4 = z := ⟨_, rfl⟩
  have f7 := ok_I O ta0 rI_11_4 e6
  obtain ⟨v8, e9⟩ : ∃ z, Rv h a0 8 = z := ⟨_, rfl⟩
  have t10 := ok_R O ta0 rE_11_8 e9
  have l11 := ok_L O ta0 rE_11_8 e9
  obtain ⟨v12, e13⟩ : ∃ z, Iv h a0 9 = z := ⟨_, rfl⟩
  have f14 := ok_I O ta0 rI_11_9 e13
  obtain ⟨v15, e16⟩ : ∃ z, Rv h a0 11 = z := ⟨_, rfl⟩
  have t17 := ok_R O ta0 rE_11_11 e16
  have l18 := ok_L O ta0 rE_11_11 e16
  obtain ⟨v19, e20⟩ : ∃ z, Iv h a0 12 = z := ⟨_, rfl⟩
  have f21 := ok_I O ta0 rI_11_12 e20
  obtain ⟨v22, e23⟩ : ∃ z, Iv h a0 15 = z := ⟨_, rfl⟩
  have f24 := ok_I O ta0 rI_11_15 e23
  obtain ⟨v25, e26⟩ : ∃ z, Rv h a0 14 = z := ⟨_, rfl⟩
  have t27 := ok_R O ta0 rE_11_14 e26
  have l28 := ok_L O ta0 rE_11_14 e26
  obtain ⟨v29, e30⟩ : ∃ z, Rv h a0 13 = z := ⟨_, rfl⟩
  have t31 := ok_R O ta0 rE_11_13 e30
  obtain ⟨v32, e33⟩ : ∃ z, Rv h a0 6 = z := ⟨_, rfl⟩
  have t34 := ok_R O ta0 rE_11_6 e33
  obtain ⟨v35, e36⟩ : ∃ z, Rv h a0 7 = z := ⟨_, rfl⟩
  have t37 := ok_R O ta0 rE_11_7 e36
  have p48 := P_XInv
  unfold XInv at p48
  rw [e2, e6, e9, e13, e16, e20, e23, e26, e30, e33, e36] at p48
  obtain ⟨p38, p39, p40, p41, p42, p43, p44, p45, p46, p47⟩ := p48
  obtain ⟨v49, e50⟩ : ∃ z, Iv h v29 3 = z := ⟨_, rfl⟩
  have f51 := ok_I O t31 rI_7_3 e50
  obtain ⟨v52, e53⟩ : ∃ z, Iv h v29 4 = z := ⟨_, rfl⟩
  have f54 := ok_I O t31 rI_7_4 e53
  rw [e50] at p44
  rw [e53] at p45
  refine hm_go (by decide +kernel) (Nat.le_of_ble_eq_true rfl) (fun p e s m below meth c C hr hn => ?_)
  refine g_iload_n C rfl 1 rfl dX11_water_0 ?_
  refine g_iload_n C rfl 2 rfl dX11_water_1 ?_
  refine g_callI (st := []) (gc_S C lk_LandSurvey_85 (k_X11_cellAt l D cy w z0 O fa1 fa2) rfl ⟨by decide, by decide⟩ (Nat.le_of_ble_eq_true rfl) dX11_water_2 ⟨(by decide), (by decide)⟩) (fun r55 h56 f58 K57 => ?_)
  obtain ⟨O59, F60, f61, p62⟩ := K57
  refine g_istore C [(4, .inl r55), (0, .inr (.inr a0)), (1, .inl a1), (2, .inl a2), (3, .inl a3)] (by decide) rfl dX11_water_5 ?_
  refine g_iload C 0 rfl dX11_water_7 ?_
  refine g_iconst C dX11_water_9 ?_
  refine g_icmp_eq C (iw f61 (by decide) (by decide)) (iw (il (-1)) (by decide) (by decide)) 36 (by decide) dX11_water_10 (fun q63 => ?_) (fun q64 => ?_)
  · have f65 : (-1 : Int) ≤ r55 ∧ r55 ≤ (-1 : Int) := ii f61 (r_eq (il (-1)) q63) (by decide) (by decide)
    refine g_iconst C dX11_water_36 ?_
    have p66 := (XInv_fx O F60 ta0 rfl P_XInv)
    exact g_iret C hr rfl (iw (il (-1)) (by decide) (by decide)) ⟨O59, ((Fx.rf (wr := wr_k_X11_water)).call F60 rfl), (iw (il (-1)) (by decide) (by decide)), p66⟩ (by decide) (by decide) dX11_water_37
  · have f67 : (0 : Int) ≤ r55 ∧ r55 ≤ (95 : Int) := r_nl f61 q64
    refine g_iload_n C rfl 4 rfl dX11_water_13 ?_
    refine g_if_lt C fa3 36 (by decide) dX11_water_14 (fun q68 => ?_) (fun q69 => ?_)
    · have f70 : (-2147483648 : Int) ≤ a3 ∧ a3 ≤ (-1 : Int) := r_lt fa3 (il 0) q68 (by decide) (by decide)
      refine g_iconst C dX11_water_36 ?_
      have p71 := (XInv_fx O F60 ta0 rfl P_XInv)
      exact g_iret C hr rfl (iw (il (-1)) (by decide) (by decide)) ⟨O59, ((Fx.rf (wr := wr_k_X11_water)).call F60 rfl), (iw (il (-1)) (by decide) (by decide)), p71⟩ (by decide) (by decide) dX11_water_37
    · have f72 : (0 : Int) ≤ a3 ∧ a3 ≤ (2147483647 : Int) := r_ge fa3 (il 0) q69 (by decide) (by decide)
      refine g_iload_n C rfl 4 rfl dX11_water_17 ?_
      refine g_iconst C dX11_water_18 ?_
      refine g_icmp_gt C (iw f72 (by decide) (by decide)) (iw (il 1) (by decide) (by decide)) 36 (by decide) dX11_water_19 (fun q73 => ?_) (fun q74 => ?_)
      · have f75 : (2 : Int) ≤ a3 ∧ a3 ≤ (2147483647 : Int) := r_gt f72 (il 1) q73 (by decide) (by decide)
        refine g_iconst C dX11_water_36 ?_
        have p76 := (XInv_fx O F60 ta0 rfl P_XInv)
        exact g_iret C hr rfl (iw (il (-1)) (by decide) (by decide)) ⟨O59, ((Fx.rf (wr := wr_k_X11_water)).call F60 rfl), (iw (il (-1)) (by decide) (by decide)), p76⟩ (by decide) (by decide) dX11_water_37
      · have f77 : (0 : Int) ≤ a3 ∧ a3 ≤ (1 : Int) := r_le f72 (il 1) q74 (by decide) (by decide)
        refine g_aload_n C rfl 1 rfl dX11_water_22 ?_
        have e78 : Tg h56 a0 = 11 := (fxT F60 ta0)
        have p79 := (XInv_fx O F60 ta0 rfl P_XInv)
        refine g_callI (st := []) (gc_V C lk_LandSurvey_253 (k_X11_prepare l D cy w z0 O59 e78 p79) e78 rfl rfl rfl ⟨by decide, by decide⟩ (Nat.le_of_ble_eq_true rfl) dX11_water_23 ⟨(by decide), (by decide)⟩) (fun r80 h81 f83 K82 => ?_)
        obtain ⟨O84, F85, f86, p87, p88, p89⟩ := K82
        obtain ⟨v90, e91⟩ : ∃ z, Rv h81 a0 17 = z := ⟨_, rfl⟩
        have e92 : Tg h81 a0 = 11 := (fxT F85 e78)
        rw [e91] at p89
        have e93 : Rv h81 a0 3 = v1 := ((fxR F85 e78 rfl).trans ((fxR F60 ta0 rfl).trans e2))
        have e94 : Iv h81 a0 4 = v5 := ((fxI F85 e78 rfl).trans ((fxI F60 ta0 rfl).trans e6))
        have e95 : Rv h81 a0 8 = v8 := ((fxR F85 e78 rfl).trans ((fxR F60 ta0 rfl).trans e9))
        have e96 : Iv h81 a0 9 = v12 := ((fxI F85 e78 rfl).trans ((fxI F60 ta0 rfl).trans e13))
        have e97 : Rv h81 a0 11 = v15 := ((fxR F85 e78 rfl).trans ((fxR F60 ta0 rfl).trans e16))
        have e98 : Iv h81 a0 12 = v19 := ((fxI F85 e78 rfl).trans ((fxI F60 ta0 rfl).trans e20))
        have e99 : Rv h81 a0 14 = v25 := ((fxR F85 e78 rfl).trans ((fxR F60 ta0 rfl).trans e26))
        have e100 : Rv h81 a0 13 = v29 := ((fxR F85 e78 rfl).trans ((fxR F60 ta0 rfl).trans e30))
        have e101 : Rv h81 a0 6 = v32 := ((fxR F85 e78 rfl).trans ((fxR F60 ta0 rfl).trans e33))
        obtain ⟨v102, e103⟩ : ∃ z, Rv h81 a0 7 = z := ⟨_, rfl⟩
        have t104 := ok_R O84 e92 rE_11_7 e103
        have p115 := p87
        unfold XInv at p115
        rw [e93, e94, e95, e96, e97, e98, p88, e99, e100, e101, e103] at p115
        obtain ⟨p105, p106, p107, p108, p109, p110, p111, p112, p113, p114⟩ := p115
        have e116 : Tg h56 v29 = 7 := (fxT F60 t31)
        obtain ⟨v117, e118⟩ : ∃ z, Iv h81 v29 3 = z := ⟨_, rfl⟩
        have e119 : Tg h81 v29 = 7 := (fxT F85 e116)
        have f120 := ok_I O84 e119 rI_7_3 e118
        obtain ⟨v121, e122⟩ : ∃ z, Iv h81 v29 4 = z := ⟨_, rfl⟩
        have f123 := ok_I O84 e119 rI_7_4 e122
        rw [e118] at p111
        rw [e122] at p112
        have p124 := p108 (by omega)
        refine g_if_eq C (iw f86 (by decide) (by decide)) 36 (by decide) dX11_water_26 (fun q125 => ?_) (fun q126 => ?_)
        · have f127 : (0 : Int) ≤ r80 ∧ r80 ≤ (0 : Int) := ii f86 (r_eq (il 0) q125) (by decide) (by decide)
          refine g_iconst C dX11_water_36 ?_
          exact g_iret C hr rfl (iw (il (-1)) (by decide) (by decide)) ⟨O84, (((Fx.rf (wr := wr_k_X11_water)).call F60 rfl).call F85 rfl), (iw (il (-1)) (by decide) (by decide)), p87⟩ (by decide) (by decide) dX11_water_37
        · have f128 : (1 : Int) ≤ r80 ∧ r80 ≤ (1 : Int) := r_nl f86 q126
          refine g_aload_n C rfl 1 rfl dX11_water_29 ?_
          refine g_callI (st := []) (gc_V C lk_LandSurvey_275 (k_X11_allKeptKnown l D cy w z0 O84 e92 p88 p87) e92 rfl rfl rfl ⟨by decide, by decide⟩ (Nat.le_of_ble_eq_true rfl) dX11_water_30 ⟨(by decide), (by decide)⟩) (fun r129 h130 f132 K131 => ?_)
          obtain ⟨O133, F134, f135⟩ := K131
          refine g_if_ne C (iw f135 (by decide) (by decide)) 38 (by decide) dX11_water_33 (fun q136 => ?_) (fun q137 => ?_)
          · have f138 : (1 : Int) ≤ r129 ∧ r129 ≤ (1 : Int) := r_nl f135 q136
            refine g_aload_n C rfl 1 rfl dX11_water_38 ?_
            have e139 : Tg h130 a0 = 11 := (fxT F134 e92)
            obtain ⟨v140, e141⟩ : ∃ z, Rv h130 a0 2 = z := ⟨_, rfl⟩
            have t142 := ok_R O133 e139 rE_11_2 e141
            refine gf_R C fk_LandSurvey_16 rfl e139 e141 dX11_water_39 ?_
            obtain ⟨v143, e144⟩ : ∃ z, Rv h130 v140 2 = z := ⟨_, rfl⟩
            have t145 := ok_R O133 t142 rE_3_2 e144
            have l146 := ok_L O133 t142 rE_3_2 e144
            refine gf_R C fk_LandSurvey_96 rfl t142 e144 dX11_water_42 ?_
            refine g_iload C 0 rfl dX11_water_45 ?_
            obtain ⟨v147, e148⟩ : ∃ z, Iv h130 v143 r55.toNat = z := ⟨_, rfl⟩
            have f149 := ok_Ia O133 t145 ar_14101 rI_14101_0 e148
            refine g_zald C t145 rfl l146 (ix f67 (by decide) (by decide)) e148 dX11_water_47 ?_
            refine g_if_eq C (iw f149 (by decide) (by decide)) 55 (by decide) dX11_water_48 (fun q150 => ?_) (fun q151 => ?_)
            · have f152 : (0 : Int) ≤ v147 ∧ v147 ≤ (0 : Int) := ii f149 (r_eq (il 0) q150) (by decide) (by decide)
              refine g_iconst C dX11_water_55 ?_
              refine g_istore C [(5, .inl 1), (4, .inl r55), (0, .inr (.inr a0)), (1, .inl a1), (2, .inl a2), (3, .inl a3)] (by decide) rfl dX11_water_56 ?_
              refine g_aload_n C rfl 2 rfl dX11_water_58 ?_
              refine gf_R C fk_LandSurvey_16 rfl e139 e141 dX11_water_59 ?_
              refine gf_R C fk_LandSurvey_96 rfl t142 e144 dX11_water_62 ?_
              refine g_iload C 1 rfl dX11_water_65 ?_
              refine g_zald C t145 rfl l146 (ix f67 (by decide) (by decide)) e148 dX11_water_67 ?_
              refine g_if_eq C (iw f152 (by decide) (by decide)) 83 (by decide) dX11_water_68 (fun q153 => ?_) (fun q154 => ?_)
              · refine g_iconst C dX11_water_83 ?_
                refine g_istore C [(6, .inl 0), (5, .inl 1), (4, .inl r55), (0, .inr (.inr a0)), (1, .inl a1), (2, .inl a2), (3, .inl a3)] (by decide) rfl dX11_water_84 ?_
                refine g_iconst C dX11_water_86 ?_
                refine g_istore C [(7, .inl 1), (6, .inl 0), (5, .inl 1), (4, .inl r55), (0, .inr (.inr a0)), (1, .inl a1), (2, .inl a2), (3, .inl a3)] (by decide) rfl dX11_water_87 ?_
                refine GW.sub [4, 5, 6, 7, 3, 2, 1, 0] rfl ?_
                have e158 : Rv h130 a0 7 = v102 := ((fxR F134 e92 rfl).trans e103)
                obtain ⟨v159, e160⟩ : ∃ z, Iv h130 v102 0 = z := ⟨_, rfl⟩
                have e161 : Tg h130 v102 = 6 := (fxT F134 t104)
                have f162 := ok_I O133 e161 rI_6_0 e160
                -- loop at 89
                have L163 : ∀ (μ : Nat) (x155 : Int) (x156 : Int) (h157 : Hp), (10 - x156).toNat = μ → Okh h157 → Fx [] h130 h157 → ((-1 : Int) ≤ x155 ∧ x155 ≤ (9 : Int)) → ((1 : Int) ≤ x156 ∧ x156 ≤ (10 : Int)) → (((1 : Int) = 1 ∧ x155 = x156 - 1) ∨ ((1 : Int) = -1 ∧ x155 = v159 - x156)) → GW p l e (rmm 11 300 48 3216) s m (List.map toV [.inr (.inr a0), .inl a1, .inl a2, .inl a3]).toArray below meth c D cy z0 8 (MQ below (QI D cy z0 (fun v h1 => Okh h1 ∧ Fx wr_k_X11_water h h1 ∧ ((-2147483648) ≤ v ∧ v ≤ 2147483647) ∧ (XInv h1 a0))) (List.map toV [.inr (.inr a0), .inl a1, .inl a2, .inl a3]).toArray s 48 3216 (Aof z0)) 89 [(0, .inr (.inr a0)), (1, .inl a1), (2, .inl a2), (3, .inl a3), (4, .inl r55), (5, .inl 1), (6, .inl x155), (7, .inl x156)] [] h157 48 3216 := by
                  intro μ
                  induction μ using Nat.strongRecOn with
                  | ind μ ih164 =>
                    intro x155 x156 h157 hm165 O166 F167 f168 f169 p170
                    refine g_iload C 7 rfl dX11_water_89 ?_
                    refine g_aload_n C rfl 0 rfl dX11_water_91 ?_
                    have e171 : Tg h157 a0 = 11 := (fxT F167 e139)
                    have e172 : Rv h157 a0 7 = v102 := ((fxR F167 e139 rfl).trans e158)
                    refine gf_R C fk_LandSurvey_44 rfl e171 e172 dX11_water_92 ?_
                    have e173 : Tg h157 v102 = 6 := (fxT F167 e161)
                    have e174 : Iv h157 v102 0 = v159 := ((fxI F167 e161 rfl).trans e160)
                    refine gf_I C fk_LandSurvey_284 rfl e173 e174 dX11_water_95 ?_
                    refine g_icmp_ge C (iw f169 (by decide) (by decide)) (iw f162 (by decide) (by decide)) 176 (by decide) dX11_water_98 (fun q175 => ?_) (fun q176 => ?_)
                    · refine g_iconst C dX11_water_176 ?_
                      have p177 := (XInv_fx O133 F167 e139 rfl (XInv_fx O84 F134 e92 rfl p87))
                      exact g_iret C hr rfl (iw (il (-1)) (by decide) (by decide)) ⟨O166, (((((Fx.rf (wr := wr_k_X11_water)).call F60 rfl).call F85 rfl).call F134 rfl).call F167 rfl), (iw (il (-1)) (by decide) (by decide)), p177⟩ (by decide) (by decide) dX11_water_177
                    · have f178 : (1 : Int) ≤ x156 ∧ x156 ≤ (9 : Int) := r_lt f169 f162 q176 (by decide) (by decide)
                      have f179 : (2 : Int) ≤ v159 ∧ v159 ≤ (10 : Int) := r_gt f162 f169 q176 (by decide) (by decide)
                      refine g_aload_n C rfl 0 rfl dX11_water_101 ?_
                      refine gf_R C fk_LandSurvey_44 rfl e171 e172 dX11_water_102 ?_
                      refine g_iload C 6 rfl dX11_water_105 ?_
                      refine g_callI (st := []) (gc_V C lk_LandSurvey_287 (k_X5_holdsWater l D cy w z0 O166 e173 (iw f168 (by decide) (by decide))) e173 rfl rfl rfl ⟨by decide, by decide⟩ (Nat.le_of_ble_eq_true rfl) dX11_water_107 ⟨(by decide), (by decide)⟩) (fun r180 h181 f183 K182 => ?_)
                      obtain ⟨O184, F185, f186⟩ := K182
                      refine g_if_eq C (iw f186 (by decide) (by decide)) 163 (by decide) dX11_water_110 (fun q187 => ?_) (fun q188 => ?_)
                      · have f189 : (0 : Int) ≤ r180 ∧ r180 ≤ (0 : Int) := ii f186 (r_eq (il 0) q187) (by decide) (by decide)
                        refine g_iload C 6 rfl dX11_water_163 ?_
                        refine g_iload C 5 rfl dX11_water_165 ?_
                        have f190 : (0 : Int) ≤ (x155 + 1) ∧ (x155 + 1) ≤ (10 : Int) := ia_add f168 (il 1) (by decide) (by decide)
                        refine g_iadd C dX11_water_167 ?_
                        refine g_istore C [(6, .inl (x155 + 1)), (0, .inr (.inr a0)), (1, .inl a1), (2, .inl a2), (3, .inl a3), (4, .inl r55), (5, .inl 1), (7, .inl x156)] (by decide) rfl dX11_water_168 ?_
                        have f191 : (2 : Int) ≤ (x156 + 1) ∧ (x156 + 1) ≤ (10 : Int) := ia_add f178 (il 1) (by decide) (by decide)
                        refine g_iinc C [(7, .inl (x156 + 1)), (6, .inl (x155 + 1)), (0, .inr (.inr a0)), (1, .inl a1), (2, .inl a2), (3, .inl a3), (4, .inl r55), (5, .inl 1)] 7 rfl (by decide) rfl dX11_water_170 ?_
                        refine g_goto C 89 (by decide) dX11_water_173 ?_
                        refine GW.sub [2, 3, 4, 5, 6, 7, 1, 0] rfl ?_
                        exact ih164 _ (by omega) (x155 + 1) (x156 + 1) h181 rfl O184 (F167.call F185 rfl) (by omega) (iw f191 (by decide) (by decide)) (by omega)
                      · have f192 : (1 : Int) ≤ r180 ∧ r180 ≤ (1 : Int) := r_nl f186 q188
                        refine g_aload_n C rfl 0 rfl dX11_water_113 ?_
                        have e193 : Tg h181 a0 = 11 := (fxT F185 e171)
                        have e194 : Rv h181 a0 7 = v102 := ((fxR F185 e171 rfl).trans e172)
                        refine gf_R C fk_LandSurvey_44 rfl e193 e194 dX11_water_114 ?_
                        refine g_iload C 6 rfl dX11_water_117 ?_
                        refine g_iload C 5 rfl dX11_water_119 ?_
                        have f195 : (0 : Int) ≤ (x155 + 1) ∧ (x155 + 1) ≤ (10 : Int) := ia_add f168 (il 1) (by decide) (by decide)
                        refine g_iadd C dX11_water_121 ?_
                        have e196 : Tg h181 v102 = 6 := (fxT F185 e173)
                        refine g_callI (st := []) (gc_V C lk_LandSurvey_290 (k_X5_isTight l D cy w z0 O184 e196 (iw f195 (by decide) (by decide))) e196 rfl rfl rfl ⟨by decide, by decide⟩ (Nat.le_of_ble_eq_true rfl) dX11_water_122 ⟨(by decide), (by decide)⟩) (fun r197 h198 f200 K199 => ?_)
                        obtain ⟨O201, F202, f203⟩ := K199
                        refine g_if_eq C (iw f203 (by decide) (by decide)) 163 (by decide) dX11_water_125 (fun q204 => ?_) (fun q205 => ?_)
                        · have f206 : (0 : Int) ≤ r197 ∧ r197 ≤ (0 : Int) := ii f203 (r_eq (il 0) q204) (by decide) (by decide)
                          refine g_iload C 6 rfl dX11_water_163 ?_
                          refine g_iload C 5 rfl dX11_water_165 ?_
                          refine g_iadd C dX11_water_167 ?_
                          refine g_istore C [(6, .inl (x155 + 1)), (0, .inr (.inr a0)), (1, .inl a1), (2, .inl a2), (3, .inl a3), (4, .inl r55), (5, .inl 1), (7, .inl x156)] (by decide) rfl dX11_water_168 ?_
                          have f207 : (2 : Int) ≤ (x156 + 1) ∧ (x156 + 1) ≤ (10 : Int) := ia_add f178 (il 1) (by decide) (by decide)
                          refine g_iinc C [(7, .inl (x156 + 1)), (6, .inl (x155 + 1)), (0, .inr (.inr a0)), (1, .inl a1), (2, .inl a2), (3, .inl a3), (4, .inl r55), (5, .inl 1)] 7 rfl (by decide) rfl dX11_water_170 ?_
                          refine g_goto C 89 (by decide) dX11_water_173 ?_
                          refine GW.sub [2, 3, 4, 5, 6, 7, 1, 0] rfl ?_
                          exact ih164 _ (by omega) (x155 + 1) (x156 + 1) h198 rfl O201 ((F167.call F185 rfl).call F202 rfl) (by omega) (iw f207 (by decide) (by decide)) (by omega)
                        · have f208 : (1 : Int) ≤ r197 ∧ r197 ≤ (1 : Int) := r_nl f203 q205
                          refine g_aload_n C rfl 0 rfl dX11_water_128 ?_
                          refine g_iload C 4 rfl dX11_water_129 ?_
                          refine g_iload C 6 rfl dX11_water_131 ?_
                          have e209 : Tg h198 a0 = 11 := (fxT F202 e193)
                          have e210 : Iv h198 a0 15 = 1 := ((fxI F202 e193 rfl).trans ((fxI F185 e171 rfl).trans ((fxI F167 e139 rfl).trans ((fxI F134 e92 rfl).trans p88))))
                          have p211 := (XInv_fx O184 F202 e193 rfl (XInv_fx O166 F185 e171 rfl (XInv_fx O133 F167 e139 rfl (XInv_fx O84 F134 e92 rfl p87))))
                          refine g_callI (st := []) (gc_V C lk_LandSurvey_293 (k_X11_leastFoot l D cy w z0 O201 e209 f67 (by omega) e210 p211) e209 rfl rfl rfl ⟨by decide, by decide⟩ (Nat.le_of_ble_eq_true rfl) dX11_water_133 ⟨(by decide), (by decide)⟩) (fun r212 h213 f215 K214 => ?_)
                          obtain ⟨O216, F217, f218⟩ := K214
                          refine g_if_lt C f218 163 (by decide) dX11_water_136 (fun q219 => ?_) (fun q220 => ?_)
                          · have f221 : (-2147483648 : Int) ≤ r212 ∧ r212 ≤ (-1 : Int) := r_lt f218 (il 0) q219 (by decide) (by decide)
                            refine g_iload C 6 rfl dX11_water_163 ?_
                            refine g_iload C 5 rfl dX11_water_165 ?_
                            refine g_iadd C dX11_water_167 ?_
                            refine g_istore C [(6, .inl (x155 + 1)), (0, .inr (.inr a0)), (1, .inl a1), (2, .inl a2), (3, .inl a3), (4, .inl r55), (5, .inl 1), (7, .inl x156)] (by decide) rfl dX11_water_168 ?_
                            have f222 : (2 : Int) ≤ (x156 + 1) ∧ (x156 + 1) ≤ (10 : Int) := ia_add f178 (il 1) (by decide) (by decide)
                            refine g_iinc C [(7, .inl (x156 + 1)), (6, .inl (x155 + 1)), (0, .inr (.inr a0)), (1, .inl a1), (2, .inl a2), (3, .inl a3), (4, .inl r55), (5, .inl 1)] 7 rfl (by decide) rfl dX11_water_170 ?_
                            refine g_goto C 89 (by decide) dX11_water_173 ?_
                            refine GW.sub [2, 3, 4, 5, 6, 7, 1, 0] rfl ?_
                            exact ih164 _ (by omega) (x155 + 1) (x156 + 1) h213 rfl O216 (((F167.call F185 rfl).call F202 rfl).call F217 rfl) (by omega) (iw f222 (by decide) (by decide)) (by omega)
                          · have f223 : (0 : Int) ≤ r212 ∧ r212 ≤ (2147483647 : Int) := r_ge f218 (il 0) q220 (by decide) (by decide)
                            refine g_iload_n C rfl 3 rfl dX11_water_139 ?_
                            refine g_if_ne C (iw f77 (by decide) (by decide)) 154 (by decide) dX11_water_140 (fun q224 => ?_) (fun q225 => ?_)
                            · have f226 : (1 : Int) ≤ a3 ∧ a3 ≤ (1 : Int) := r_nl f77 q224
                              refine g_aload_n C rfl 0 rfl dX11_water_154 ?_
                              refine g_iload C 4 rfl dX11_water_155 ?_
                              refine g_iload C 6 rfl dX11_water_157 ?_
                              have e227 : Tg h213 a0 = 11 := (fxT F217 e209)
                              have e228 : Iv h213 a0 15 = 1 := ((fxI F217 e209 rfl).trans e210)
                              have p229 := (XInv_fx O201 F217 e209 rfl p211)
                              refine g_callI (st := []) (gc_V C lk_LandSurvey_296 (k_X11_greatestFoot l D cy w z0 O216 e227 f67 (by omega) e228 p229) e227 rfl rfl rfl ⟨by decide, by decide⟩ (Nat.le_of_ble_eq_true rfl) dX11_water_159 ⟨(by decide), (by decide)⟩) (fun r230 h231 f233 K232 => ?_)
                              obtain ⟨O234, F235, f236⟩ := K232
                              have p237 := (XInv_fx O216 F235 e227 rfl p229)
                              exact g_iret C hr rfl f236 ⟨O234, (((((((((Fx.rf (wr := wr_k_X11_water)).call F60 rfl).call F85 rfl).call F134 rfl).call F167 rfl).call F185 rfl).call F202 rfl).call F217 rfl).call F235 rfl), f236, p237⟩ (by decide) (by decide) dX11_water_162
                            · have f238 : (0 : Int) ≤ a3 ∧ a3 ≤ (0 : Int) := ii f77 (r_eq (il 0) q225) (by decide) (by decide)
                              refine g_aload_n C rfl 0 rfl dX11_water_143 ?_
                              refine g_iload C 4 rfl dX11_water_144 ?_
                              refine g_iload C 6 rfl dX11_water_146 ?_
                              have e239 : Tg h213 a0 = 11 := (fxT F217 e209)
                              have e240 : Iv h213 a0 15 = 1 := ((fxI F217 e209 rfl).trans e210)
                              have p241 := (XInv_fx O201 F217 e209 rfl p211)
                              refine g_callI (st := []) (gc_V C lk_LandSurvey_293 (k_X11_leastFoot l D cy w z0 O216 e239 f67 (by omega) e240 p241) e239 rfl rfl rfl ⟨by decide, by decide⟩ (Nat.le_of_ble_eq_true rfl) dX11_water_148 ⟨(by decide), (by decide)⟩) (fun r242 h243 f245 K244 => ?_)
                              obtain ⟨O246, F247, f248⟩ := K244
                              refine g_goto C 162 (by decide) dX11_water_151 ?_
                              have p249 := (XInv_fx O216 F247 e239 rfl p241)
                              exact g_iret C hr rfl f248 ⟨O246, (((((((((Fx.rf (wr := wr_k_X11_water)).call F60 rfl).call F85 rfl).call F134 rfl).call F167 rfl).call F185 rfl).call F202 rfl).call F217 rfl).call F247 rfl), f248, p249⟩ (by decide) (by decide) dX11_water_162
                exact L163 _ 0 1 h130 rfl O133 Fx.rf (iw (il 0) (by decide) (by decide)) (iw (il 1) (by decide) (by decide)) (by omega)
              · exact (no_ne f152 (il 0) q154 (by decide)).elim
            · have f250 : (1 : Int) ≤ v147 ∧ v147 ≤ (1 : Int) := r_nl f149 q151
              refine g_iconst C dX11_water_51 ?_
              refine g_goto C 56 (by decide) dX11_water_52 ?_
              refine g_istore C [(5, .inl (-1)), (4, .inl r55), (0, .inr (.inr a0)), (1, .inl a1), (2, .inl a2), (3, .inl a3)] (by decide) rfl dX11_water_56 ?_
              refine g_aload_n C rfl 2 rfl dX11_water_58 ?_
              refine gf_R C fk_LandSurvey_16 rfl e139 e141 dX11_water_59 ?_
              refine gf_R C fk_LandSurvey_96 rfl t142 e144 dX11_water_62 ?_
              refine g_iload C 1 rfl dX11_water_65 ?_
              refine g_zald C t145 rfl l146 (ix f67 (by decide) (by decide)) e148 dX11_water_67 ?_
              refine g_if_eq C (iw f250 (by decide) (by decide)) 83 (by decide) dX11_water_68 (fun q251 => ?_) (fun q252 => ?_)
              · exact (no_eq f250 (il 0) q251 (by decide)).elim
              · refine g_aload_n C rfl 2 rfl dX11_water_71 ?_
                have e253 : Rv h130 a0 7 = v102 := ((fxR F134 e92 rfl).trans e103)
                refine gf_R C fk_LandSurvey_44 rfl e139 e253 dX11_water_72 ?_
                have e254 : Tg h130 v102 = 6 := (fxT F134 t104)
                obtain ⟨v255, e256⟩ : ∃ z, Iv h130 v102 0 = z := ⟨_, rfl⟩
                have f257 := ok_I O133 e254 rI_6_0 e256
                refine gf_I C fk_LandSurvey_284 rfl e254 e256 dX11_water_75 ?_
                refine g_iconst C dX11_water_78 ?_
                have f258 : (-1 : Int) ≤ (v255 - 1) ∧ (v255 - 1) ≤ (9 : Int) := ia_sub f257 (il 1) (by decide) (by decide)
                refine g_isub C dX11_water_79 ?_
                refine g_goto C 84 (by decide) dX11_water_80 ?_
                refine g_istore C [(6, .inl (v255 - 1)), (5, .inl (-1)), (4, .inl r55), (0, .inr (.inr a0)), (1, .inl a1), (2, .inl a2), (3, .inl a3)] (by decide) rfl dX11_water_84 ?_
                refine g_iconst C dX11_water_86 ?_
                refine g_istore C [(7, .inl 1), (6, .inl (v255 - 1)), (5, .inl (-1)), (4, .inl r55), (0, .inr (.inr a0)), (1, .inl a1), (2, .inl a2), (3, .inl a3)] (by decide) rfl dX11_water_87 ?_
                refine GW.sub [4, 5, 6, 7, 3, 2, 1, 0] rfl ?_
                -- loop at 89
                have L262 : ∀ (μ : Nat) (x259 : Int) (x260 : Int) (h261 : Hp), (10 - x260).toNat = μ → Okh h261 → Fx [] h130 h261 → ((-1 : Int) ≤ x259 ∧ x259 ≤ (9 : Int)) → ((1 : Int) ≤ x260 ∧ x260 ≤ (10 : Int)) → ((((-1) : Int) = 1 ∧ x259 = x260 - 1) ∨ (((-1) : Int) = -1 ∧ x259 = v255 - x260)) → GW p l e (rmm 11 300 48 3216) s m (List.map toV [.inr (.inr a0), .inl a1, .inl a2, .inl a3]).toArray below meth c D cy z0 8 (MQ below (QI D cy z0 (fun v h1 => Okh h1 ∧ Fx wr_k_X11_water h h1 ∧ ((-2147483648) ≤ v ∧ v ≤ 2147483647) ∧ (XInv h1 a0))) (List.map toV [.inr (.inr a0), .inl a1, .inl a2, .inl a3]).toArray s 48 3216 (Aof z0)) 89 [(0, .inr (.inr a0)), (1, .inl a1), (2, .inl a2), (3, .inl a3), (4, .inl r55), (5, .inl (-1)), (6, .inl x259), (7, .inl x260)] [] h261 48 3216 := by
                  intro μ
                  induction μ using Nat.strongRecOn with
                  | ind μ ih263 =>
                    intro x259 x260 h261 hm264 O265 F266 f267 f268 p269
                    refine g_iload C 7 rfl dX11_water_89 ?_
                    refine g_aload_n C rfl 0 rfl dX11_water_91 ?_
                    have e270 : Tg h261 a0 = 11 := (fxT F266 e139)
                    have e271 : Rv h261 a0 7 = v102 := ((fxR F266 e139 rfl).trans e253)
                    refine gf_R C fk_LandSurvey_44 rfl e270 e271 dX11_water_92 ?_
                    have e272 : Tg h261 v102 = 6 := (fxT F266 e254)
                    have e273 : Iv h261 v102 0 = v255 := ((fxI F266 e254 rfl).trans e256)
                    refine gf_I C fk_LandSurvey_284 rfl e272 e273 dX11_water_95 ?_
                    refine g_icmp_ge C (iw f268 (by decide) (by decide)) (iw f257 (by decide) (by decide)) 176 (by decide) dX11_water_98 (fun q274 => ?_) (fun q275 => ?_)
                    · refine g_iconst C dX11_water_176 ?_
                      have p276 := (XInv_fx O133 F266 e139 rfl (XInv_fx O84 F134 e92 rfl p87))
                      exact g_iret C hr rfl (iw (il (-1)) (by decide) (by decide)) ⟨O265, (((((Fx.rf (wr := wr_k_X11_water)).call F60 rfl).call F85 rfl).call F134 rfl).call F266 rfl), (iw (il (-1)) (by decide) (by decide)), p276⟩ (by decide) (by decide) dX11_water_177
                    · have f277 : (1 : Int) ≤ x260 ∧ x260 ≤ (9 : Int) := r_lt f268 f257 q275 (by decide) (by decide)
                      have f278 : (2 : Int) ≤ v255 ∧ v255 ≤ (10 : Int) := r_gt f257 f268 q275 (by decide) (by decide)
                      refine g_aload_n C rfl 0 rfl dX11_water_101 ?_
                      refine gf_R C fk_LandSurvey_44 rfl e270 e271 dX11_water_102 ?_
                      refine g_iload C 6 rfl dX11_water_105 ?_
                      refine g_callI (st := []) (gc_V C lk_LandSurvey_287 (k_X5_holdsWater l D cy w z0 O265 e272 (iw f267 (by decide) (by decide))) e272 rfl rfl rfl ⟨by decide, by decide⟩ (Nat.le_of_ble_eq_true rfl) dX11_water_107 ⟨(by decide), (by decide)⟩) (fun r279 h280 f282 K281 => ?_)
                      obtain ⟨O283, F284, f285⟩ := K281
                      refine g_if_eq C (iw f285 (by decide) (by decide)) 163 (by decide) dX11_water_110 (fun q286 => ?_) (fun q287 => ?_)
                      · have f288 : (0 : Int) ≤ r279 ∧ r279 ≤ (0 : Int) := ii f285 (r_eq (il 0) q286) (by decide) (by decide)
                        refine g_iload C 6 rfl dX11_water_163 ?_
                        refine g_iload C 5 rfl dX11_water_165 ?_
                        have f289 : (-2 : Int) ≤ (x259 + (-1)) ∧ (x259 + (-1)) ≤ (8 : Int) := ia_add f267 (il (-1)) (by decide) (by decide)
                        refine g_iadd C dX11_water_167 ?_
                        refine g_istore C [(6, .inl (x259 + (-1))), (0, .inr (.inr a0)), (1, .inl a1), (2, .inl a2), (3, .inl a3), (4, .inl r55), (5, .inl (-1)), (7, .inl x260)] (by decide) rfl dX11_water_168 ?_
                        have f290 : (2 : Int) ≤ (x260 + 1) ∧ (x260 + 1) ≤ (10 : Int) := ia_add f277 (il 1) (by decide) (by decide)
                        refine g_iinc C [(7, .inl (x260 + 1)), (6, .inl (x259 + (-1))), (0, .inr (.inr a0)), (1, .inl a1), (2, .inl a2), (3, .inl a3), (4, .inl r55), (5, .inl (-1))] 7 rfl (by decide) rfl dX11_water_170 ?_
                        refine g_goto C 89 (by decide) dX11_water_173 ?_
                        refine GW.sub [2, 3, 4, 5, 6, 7, 1, 0] rfl ?_
                        exact ih263 _ (by omega) (x259 + (-1)) (x260 + 1) h280 rfl O283 (F266.call F284 rfl) (by omega) (iw f290 (by decide) (by decide)) (by omega)
                      · have f291 : (1 : Int) ≤ r279 ∧ r279 ≤ (1 : Int) := r_nl f285 q287
                        refine g_aload_n C rfl 0 rfl dX11_water_113 ?_
                        have e292 : Tg h280 a0 = 11 := (fxT F284 e270)
                        have e293 : Rv h280 a0 7 = v102 := ((fxR F284 e270 rfl).trans e271)
                        refine gf_R C fk_LandSurvey_44 rfl e292 e293 dX11_water_114 ?_
                        refine g_iload C 6 rfl dX11_water_117 ?_
                        refine g_iload C 5 rfl dX11_water_119 ?_
                        have f294 : (-2 : Int) ≤ (x259 + (-1)) ∧ (x259 + (-1)) ≤ (8 : Int) := ia_add f267 (il (-1)) (by decide) (by decide)
                        refine g_iadd C dX11_water_121 ?_
                        have e295 : Tg h280 v102 = 6 := (fxT F284 e272)
                        refine g_callI (st := []) (gc_V C lk_LandSurvey_290 (k_X5_isTight l D cy w z0 O283 e295 (iw f294 (by decide) (by decide))) e295 rfl rfl rfl ⟨by decide, by decide⟩ (Nat.le_of_ble_eq_true rfl) dX11_water_122 ⟨(by decide), (by decide)⟩) (fun r296 h297 f299 K298 => ?_)
                        obtain ⟨O300, F301, f302⟩ := K298
                        refine g_if_eq C (iw f302 (by decide) (by decide)) 163 (by decide) dX11_water_125 (fun q303 => ?_) (fun q304 => ?_)
                        · have f305 : (0 : Int) ≤ r296 ∧ r296 ≤ (0 : Int) := ii f302 (r_eq (il 0) q303) (by decide) (by decide)
                          refine g_iload C 6 rfl dX11_water_163 ?_
                          refine g_iload C 5 rfl dX11_water_165 ?_
                          refine g_iadd C dX11_water_167 ?_
                          refine g_istore C [(6, .inl (x259 + (-1))), (0, .inr (.inr a0)), (1, .inl a1), (2, .inl a2), (3, .inl a3), (4, .inl r55), (5, .inl (-1)), (7, .inl x260)] (by decide) rfl dX11_water_168 ?_
                          have f306 : (2 : Int) ≤ (x260 + 1) ∧ (x260 + 1) ≤ (10 : Int) := ia_add f277 (il 1) (by decide) (by decide)
                          refine g_iinc C [(7, .inl (x260 + 1)), (6, .inl (x259 + (-1))), (0, .inr (.inr a0)), (1, .inl a1), (2, .inl a2), (3, .inl a3), (4, .inl r55), (5, .inl (-1))] 7 rfl (by decide) rfl dX11_water_170 ?_
                          refine g_goto C 89 (by decide) dX11_water_173 ?_
                          refine GW.sub [2, 3, 4, 5, 6, 7, 1, 0] rfl ?_
                          exact ih263 _ (by omega) (x259 + (-1)) (x260 + 1) h297 rfl O300 ((F266.call F284 rfl).call F301 rfl) (by omega) (iw f306 (by decide) (by decide)) (by omega)
                        · have f307 : (1 : Int) ≤ r296 ∧ r296 ≤ (1 : Int) := r_nl f302 q304
                          refine g_aload_n C rfl 0 rfl dX11_water_128 ?_
                          refine g_iload C 4 rfl dX11_water_129 ?_
                          refine g_iload C 6 rfl dX11_water_131 ?_
                          have e308 : Tg h297 a0 = 11 := (fxT F301 e292)
                          have e309 : Iv h297 a0 15 = 1 := ((fxI F301 e292 rfl).trans ((fxI F284 e270 rfl).trans ((fxI F266 e139 rfl).trans ((fxI F134 e92 rfl).trans p88))))
                          have p310 := (XInv_fx O283 F301 e292 rfl (XInv_fx O265 F284 e270 rfl (XInv_fx O133 F266 e139 rfl (XInv_fx O84 F134 e92 rfl p87))))
                          refine g_callI (st := []) (gc_V C lk_LandSurvey_293 (k_X11_leastFoot l D cy w z0 O300 e308 f67 (by omega) e309 p310) e308 rfl rfl rfl ⟨by decide, by decide⟩ (Nat.le_of_ble_eq_true rfl) dX11_water_133 ⟨(by decide), (by decide)⟩) (fun r311 h312 f314 K313 => ?_)
                          obtain ⟨O315, F316, f317⟩ := K313
                          refine g_if_lt C f317 163 (by decide) dX11_water_136 (fun q318 => ?_) (fun q319 => ?_)
                          · have f320 : (-2147483648 : Int) ≤ r311 ∧ r311 ≤ (-1 : Int) := r_lt f317 (il 0) q318 (by decide) (by decide)
                            refine g_iload C 6 rfl dX11_water_163 ?_
                            refine g_iload C 5 rfl dX11_water_165 ?_
                            refine g_iadd C dX11_water_167 ?_
                            refine g_istore C [(6, .inl (x259 + (-1))), (0, .inr (.inr a0)), (1, .inl a1), (2, .inl a2), (3, .inl a3), (4, .inl r55), (5, .inl (-1)), (7, .inl x260)] (by decide) rfl dX11_water_168 ?_
                            have f321 : (2 : Int) ≤ (x260 + 1) ∧ (x260 + 1) ≤ (10 : Int) := ia_add f277 (il 1) (by decide) (by decide)
                            refine g_iinc C [(7, .inl (x260 + 1)), (6, .inl (x259 + (-1))), (0, .inr (.inr a0)), (1, .inl a1), (2, .inl a2), (3, .inl a3), (4, .inl r55), (5, .inl (-1))] 7 rfl (by decide) rfl dX11_water_170 ?_
                            refine g_goto C 89 (by decide) dX11_water_173 ?_
                            refine GW.sub [2, 3, 4, 5, 6, 7, 1, 0] rfl ?_
                            exact ih263 _ (by omega) (x259 + (-1)) (x260 + 1) h312 rfl O315 (((F266.call F284 rfl).call F301 rfl).call F316 rfl) (by omega) (iw f321 (by decide) (by decide)) (by omega)
                          · have f322 : (0 : Int) ≤ r311 ∧ r311 ≤ (2147483647 : Int) := r_ge f317 (il 0) q319 (by decide) (by decide)
                            refine g_iload_n C rfl 3 rfl dX11_water_139 ?_
                            refine g_if_ne C (iw f77 (by decide) (by decide)) 154 (by decide) dX11_water_140 (fun q323 => ?_) (fun q324 => ?_)
                            · have f325 : (1 : Int) ≤ a3 ∧ a3 ≤ (1 : Int) := r_nl f77 q323
                              refine g_aload_n C rfl 0 rfl dX11_water_154 ?_
                              refine g_iload C 4 rfl dX11_water_155 ?_
                              refine g_iload C 6 rfl dX11_water_157 ?_
                              have e326 : Tg h312 a0 = 11 := (fxT F316 e308)
                              have e327 : Iv h312 a0 15 = 1 := ((fxI F316 e308 rfl).trans e309)
                              have p328 := (XInv_fx O300 F316 e308 rfl p310)
                              refine g_callI (st := []) (gc_V C lk_LandSurvey_296 (k_X11_greatestFoot l D cy w z0 O315 e326 f67 (by omega) e327 p328) e326 rfl rfl rfl ⟨by decide, by decide⟩ (Nat.le_of_ble_eq_true rfl) dX11_water_159 ⟨(by decide), (by decide)⟩) (fun r329 h330 f332 K331 => ?_)
                              obtain ⟨O333, F334, f335⟩ := K331
                              have p336 := (XInv_fx O315 F334 e326 rfl p328)
                              exact g_iret C hr rfl f335 ⟨O333, (((((((((Fx.rf (wr := wr_k_X11_water)).call F60 rfl).call F85 rfl).call F134 rfl).call F266 rfl).call F284 rfl).call F301 rfl).call F316 rfl).call F334 rfl), f335, p336⟩ (by decide) (by decide) dX11_water_162
                            · have f337 : (0 : Int) ≤ a3 ∧ a3 ≤ (0 : Int) := ii f77 (r_eq (il 0) q324) (by decide) (by decide)
                              refine g_aload_n C rfl 0 rfl dX11_water_143 ?_
                              refine g_iload C 4 rfl dX11_water_144 ?_
                              refine g_iload C 6 rfl dX11_water_146 ?_
                              have e338 : Tg h312 a0 = 11 := (fxT F316 e308)
                              have e339 : Iv h312 a0 15 = 1 := ((fxI F316 e308 rfl).trans e309)
                              have p340 := (XInv_fx O300 F316 e308 rfl p310)
                              refine g_callI (st := []) (gc_V C lk_LandSurvey_293 (k_X11_leastFoot l D cy w z0 O315 e338 f67 (by omega) e339 p340) e338 rfl rfl rfl ⟨by decide, by decide⟩ (Nat.le_of_ble_eq_true rfl) dX11_water_148 ⟨(by decide), (by decide)⟩) (fun r341 h342 f344 K343 => ?_)
                              obtain ⟨O345, F346, f347⟩ := K343
                              refine g_goto C 162 (by decide) dX11_water_151 ?_
                              have p348 := (XInv_fx O315 F346 e338 rfl p340)
                              exact g_iret C hr rfl f347 ⟨O345, (((((((((Fx.rf (wr := wr_k_X11_water)).call F60 rfl).call F85 rfl).call F134 rfl).call F266 rfl).call F284 rfl).call F301 rfl).call F316 rfl).call F346 rfl), f347, p348⟩ (by decide) (by decide) dX11_water_162
                exact L262 _ (v255 - 1) 1 h130 rfl O133 Fx.rf f258 (iw (il 1) (by decide) (by decide)) (by omega)
          · have f349 : (0 : Int) ≤ r129 ∧ r129 ≤ (0 : Int) := ii f135 (r_eq (il 0) q137) (by decide) (by decide)
            refine g_iconst C dX11_water_36 ?_
            have p350 := (XInv_fx O84 F134 e92 rfl p87)
            exact g_iret C hr rfl (iw (il (-1)) (by decide) (by decide)) ⟨O133, ((((Fx.rf (wr := wr_k_X11_water)).call F60 rfl).call F85 rfl).call F134 rfl), (iw (il (-1)) (by decide) (by decide)), p350⟩ (by decide) (by decide) dX11_water_37
def wr_k_X11_seam : List Nat := [401, 402, 403, 404, 405, 406, 1403, 1404, 1405, 1412, 1813, 1814, 1815, 1816, 1817, 1818, 2003, 2207, 2215, 2216, 2217, 200400, 200407, 200408, 2020000, 2220000, 2420000, 3020000, 5620000, 7420000, 8020000, 8220400, 8420400, 8620000, 8820000, 9020000, 9220400, 9420000, 9821400, 10020000]
set_option maxRecDepth 100000 in
set_option maxHeartbeats 4000000 in
theorem k_X11_seam (l : Launch) (D : va_G) (cy : Nat → ClassId) (w : Nat → Nat) (z0 : Nat) {h : Hp} {a0 : Nat} {a1 : Int} {a2 : Int} {a3 : Int}  (O : Okh h) (ta0 : Tg h a0 = 11) (fa1 : (-2147483648) ≤ a1 ∧ a1 ≤ 2147483647) (fa2 : (-2147483648) ≤ a2 ∧ a2 ≤ 2147483647) (fa3 : (-2147483648) ≤ a3 ∧ a3 ≤ 2147483647) (P_XInv : XInv h a0) : MI l D cy w z0 yX11_seam cX11_seam 6 (some .int) 11 300 48 3216 [.inr (.inr a0), .inl a1, .inl a2, .inl a3] h (fun v h1 => Okh h1 ∧ Fx wr_k_X11_seam h h1 ∧ ((-2147483648) ≤ v ∧ v ≤ 2147483647) ∧ (XInv h1 a0)) := by
  obtain ⟨v1, e2⟩ : ∃ z, Rv h a0 3 = z := ⟨_, rfl⟩
  have t3 := ok_R O ta0 rE_11_3 e2
  have l4 := ok_L O ta0 rE_11_3 e2
  obtain ⟨v5, e6⟩ : ∃ z, Iv h a0 4 = z := ⟨_, rfl⟩
  have f7 := ok_I O ta0 rI_11_4 e6
  obtain ⟨v8, e9⟩ : ∃ z, Rv h a0 8 = z := ⟨_, rfl⟩
  have t10 := ok_R O ta0 rE_11_8 e9
  have l11 := ok_L O ta0 rE_11_8 e9
  obtain ⟨v12, e13⟩ : ∃ z, Iv h a0 9 = z := ⟨_, rfl⟩
  have f14 := ok_I O ta0 rI_11_9 e13
  obtain ⟨v15, e16⟩ : ∃ z, Rv h a0 11 = z := ⟨_, rfl⟩
  have t17 := ok_R O ta0 rE_11_11 e16
  have l18 := ok_L O ta0 rE_11_11 e16
  obtain ⟨v19, e20⟩ : ∃ z, Iv h a0 12 = z := ⟨_, rfl⟩
  have f21 := ok_I O ta0 rI_11_12 e20
  obtain ⟨v22, e23⟩ : ∃ z, Iv h a0 15 = z := ⟨_, rfl⟩
  have f24 := ok_I O ta0 rI_11_15 e23
  obtain ⟨v25, e26⟩ : ∃ z, Rv h a0 14 = z := ⟨_, rfl⟩
  have t27 := ok_R O ta0 rE_11_14 e26
  have l28 := ok_L O ta0 rE_11_14 e26
  obtain ⟨v29, e30⟩ : ∃ z, Rv h a0 13 = z := ⟨_, rfl⟩
  have t31 := ok_R O ta0 rE_11_13 e30
  obtain ⟨v32, e33⟩ : ∃ z, Rv h a0 6 = z := ⟨_, rfl⟩
  have t34 := ok_R O ta0 rE_11_6 e33
  obtain ⟨v35, e36⟩ : ∃ z, Rv h a0 7 = z := ⟨_, rfl⟩
  have t37 := ok_R O ta0 rE_11_7 e36
  have p48 := P_XInv
  unfold XInv at p48
  rw [e2, e6, e9, e13, e16, e20, e23, e26, e30, e33, e36] at p48
  obtain ⟨p38, p39, p40, p41, p42, p43, p44, p45, p46, p47⟩ := p48
  obtain ⟨v49, e50⟩ : ∃ z, Iv h v29 3 = z := ⟨_, rfl⟩
  have f51 := ok_I O t31 rI_7_3 e50
  obtain ⟨v52, e53⟩ : ∃ z, Iv h v29 4 = z := ⟨_, rfl⟩
  have f54 := ok_I O t31 rI_7_4 e53
  rw [e50] at p44
  rw [e53] at p45
  refine hm_go (by decide +kernel) (Nat.le_of_ble_eq_true rfl) (fun p e s m below meth c C hr hn => ?_)
  refine g_iload_n C rfl 2 rfl dX11_seam_0 ?_
  refine g_if_lt C fa2 18 (by decide) dX11_seam_1 (fun q55 => ?_) (fun q56 => ?_)
  · have f57 : (-2147483648 : Int) ≤ a2 ∧ a2 ≤ (-1 : Int) := r_lt fa2 (il 0) q55 (by decide) (by decide)
    refine g_iconst C dX11_seam_18 ?_
    exact g_iret C hr rfl (iw (il (-1)) (by decide) (by decide)) ⟨O, Fx.rf, (iw (il (-1)) (by decide) (by decide)), P_XInv⟩ (by decide) (by decide) dX11_seam_19
  · have f58 : (0 : Int) ≤ a2 ∧ a2 ≤ (2147483647 : Int) := r_ge fa2 (il 0) q56 (by decide) (by decide)
    refine g_iload_n C rfl 2 rfl dX11_seam_4 ?_
    refine g_iconst C dX11_seam_5 ?_
    refine g_icmp_ge C (iw f58 (by decide) (by decide)) (iw (il 4) (by decide) (by decide)) 18 (by decide) dX11_seam_6 (fun q59 => ?_) (fun q60 => ?_)
    · have f61 : (4 : Int) ≤ a2 ∧ a2 ≤ (2147483647 : Int) := r_ge f58 (il 4) q59 (by decide) (by decide)
      refine g_iconst C dX11_seam_18 ?_
      exact g_iret C hr rfl (iw (il (-1)) (by decide) (by decide)) ⟨O, Fx.rf, (iw (il (-1)) (by decide) (by decide)), P_XInv⟩ (by decide) (by decide) dX11_seam_19
    · have f62 : (0 : Int) ≤ a2 ∧ a2 ≤ (3 : Int) := r_lt f58 (il 4) q60 (by decide) (by decide)
      refine g_iload_n C rfl 3 rfl dX11_seam_9 ?_
      refine g_if_lt C fa3 18 (by decide) dX11_seam_10 (fun q63 => ?_) (fun q64 => ?_)
      · have f65 : (-2147483648 : Int) ≤ a3 ∧ a3 ≤ (-1 : Int) := r_lt fa3 (il 0) q63 (by decide) (by decide)
        refine g_iconst C dX11_seam_18 ?_
        exact g_iret C hr rfl (iw (il (-1)) (by decide) (by decide)) ⟨O, Fx.rf, (iw (il (-1)) (by decide) (by decide)), P_XInv⟩ (by decide) (by decide) dX11_seam_19
      · have f66 : (0 : Int) ≤ a3 ∧ a3 ≤ (2147483647 : Int) := r_ge fa3 (il 0) q64 (by decide) (by decide)
        refine g_iload_n C rfl 3 rfl dX11_seam_13 ?_
        refine g_iconst C dX11_seam_14 ?_
        refine g_icmp_le C (iw f66 (by decide) (by decide)) (iw (il 1) (by decide) (by decide)) 20 (by decide) dX11_seam_15 (fun q67 => ?_) (fun q68 => ?_)
        · have f69 : (0 : Int) ≤ a3 ∧ a3 ≤ (1 : Int) := r_le f66 (il 1) q67 (by decide) (by decide)
          refine g_aload_n C rfl 0 rfl dX11_seam_20 ?_
          refine g_callI (st := []) (gc_V C lk_LandSurvey_253 (k_X11_prepare l D cy w z0 O ta0 P_XInv) ta0 rfl rfl rfl ⟨by decide, by decide⟩ (Nat.le_of_ble_eq_true rfl) dX11_seam_21 ⟨(by decide), (by decide)⟩) (fun r70 h71 f73 K72 => ?_)
          obtain ⟨O74, F75, f76, p77, p78, p79⟩ := K72
          obtain ⟨v80, e81⟩ : ∃ z, Rv h71 a0 17 = z := ⟨_, rfl⟩
          have e82 : Tg h71 a0 = 11 := (fxT F75 ta0)
          rw [e81] at p79
          have e83 : Rv h71 a0 3 = v1 := ((fxR F75 ta0 rfl).trans e2)
          have e84 : Iv h71 a0 4 = v5 := ((fxI F75 ta0 rfl).trans e6)
          have e85 : Rv h71 a0 8 = v8 := ((fxR F75 ta0 rfl).trans e9)
          have e86 : Iv h71 a0 9 = v12 := ((fxI F75 ta0 rfl).trans e13)
          have e87 : Rv h71 a0 11 = v15 := ((fxR F75 ta0 rfl).trans e16)
          have e88 : Iv h71 a0 12 = v19 := ((fxI F75 ta0 rfl).trans e20)
          have e89 : Rv h71 a0 14 = v25 := ((fxR F75 ta0 rfl).trans e26)
          have e90 : Rv h71 a0 13 = v29 := ((fxR F75 ta0 rfl).trans e30)
          have e91 : Rv h71 a0 6 = v32 := ((fxR F75 ta0 rfl).trans e33)
          obtain ⟨v92, e93⟩ : ∃ z, Rv h71 a0 7 = z := ⟨_, rfl⟩
          have t94 := ok_R O74 e82 rE_11_7 e93
          have p105 := p77
          unfold XInv at p105
          rw [e83, e84, e85, e86, e87, e88, p78, e89, e90, e91, e93] at p105
          obtain ⟨p95, p96, p97, p98, p99, p100, p101, p102, p103, p104⟩ := p105
          obtain ⟨v106, e107⟩ : ∃ z, Iv h71 v29 3 = z := ⟨_, rfl⟩
          have e108 : Tg h71 v29 = 7 := (fxT F75 t31)
          have f109 := ok_I O74 e108 rI_7_3 e107
          obtain ⟨v110, e111⟩ : ∃ z, Iv h71 v29 4 = z := ⟨_, rfl⟩
          have f112 := ok_I O74 e108 rI_7_4 e111
          rw [e107] at p101
          rw [e111] at p102
          have p113 := p98 (by omega)
          refine g_if_eq C (iw f76 (by decide) (by decide)) 42 (by decide) dX11_seam_24 (fun q114 => ?_) (fun q115 => ?_)
          · have f116 : (0 : Int) ≤ r70 ∧ r70 ≤ (0 : Int) := ii f76 (r_eq (il 0) q114) (by decide) (by decide)
            refine g_iconst C dX11_seam_42 ?_
            exact g_iret C hr rfl (iw (il (-1)) (by decide) (by decide)) ⟨O74, ((Fx.rf (wr := wr_k_X11_seam)).call F75 rfl), (iw (il (-1)) (by decide) (by decide)), p77⟩ (by decide) (by decide) dX11_seam_43
          · have f117 : (1 : Int) ≤ r70 ∧ r70 ≤ (1 : Int) := r_nl f76 q115
            refine g_aload_n C rfl 0 rfl dX11_seam_27 ?_
            refine g_iload_n C rfl 1 rfl dX11_seam_28 ?_
            refine g_callI (st := []) (gc_V C lk_LandSurvey_272 (k_X11_isRock l D cy w z0 O74 e82 fa1) e82 rfl rfl rfl ⟨by decide, by decide⟩ (Nat.le_of_ble_eq_true rfl) dX11_seam_29 ⟨(by decide), (by decide)⟩) (fun r118 h119 f121 K120 => ?_)
            obtain ⟨O122, F123, f124, p125⟩ := K120
            refine g_if_eq C (iw f124 (by decide) (by decide)) 42 (by decide) dX11_seam_32 (fun q126 => ?_) (fun q127 => ?_)
            · have f128 : (0 : Int) ≤ r118 ∧ r118 ≤ (0 : Int) := ii f124 (r_eq (il 0) q126) (by decide) (by decide)
              refine g_iconst C dX11_seam_42 ?_
              have p129 := (XInv_fx O74 F123 e82 rfl p77)
              exact g_iret C hr rfl (iw (il (-1)) (by decide) (by decide)) ⟨O122, (((Fx.rf (wr := wr_k_X11_seam)).call F75 rfl).call F123 rfl), (iw (il (-1)) (by decide) (by decide)), p129⟩ (by decide) (by decide) dX11_seam_43
            · have f130 : (1 : Int) ≤ r118 ∧ r118 ≤ (1 : Int) := r_nl f124 q127
              refine g_aload_n C rfl 0 rfl dX11_seam_35 ?_
              have e131 : Tg h119 a0 = 11 := (fxT F123 e82)
              have e132 : Iv h119 a0 15 = 1 := ((fxI F123 e82 rfl).trans p78)
              have p133 := (XInv_fx O74 F123 e82 rfl p77)
              refine g_callI (st := []) (gc_V C lk_LandSurvey_275 (k_X11_allKeptKnown l D cy w z0 O122 e131 e132 p133) e131 rfl rfl rfl ⟨by decide, by decide⟩ (Nat.le_of_ble_eq_true rfl) dX11_seam_36 ⟨(by decide), (by decide)⟩) (fun r134 h135 f137 K136 => ?_)
              obtain ⟨O138, F139, f140⟩ := K136
              refine g_if_ne C (iw f140 (by decide) (by decide)) 44 (by decide) dX11_seam_39 (fun q141 => ?_) (fun q142 => ?_)
              · have f143 : (1 : Int) ≤ r134 ∧ r134 ≤ (1 : Int) := r_nl f140 q141
                refine g_iconst C dX11_seam_44 ?_
                refine g_istore C [(4, .inl 0), (0, .inr (.inr a0)), (1, .inl a1), (2, .inl a2), (3, .inl a3)] (by decide) rfl dX11_seam_45 ?_
                refine g_iconst C dX11_seam_47 ?_
                refine g_istore C [(5, .inl 0), (4, .inl 0), (0, .inr (.inr a0)), (1, .inl a1), (2, .inl a2), (3, .inl a3)] (by decide) rfl dX11_seam_48 ?_
                refine GW.sub [2, 3, 4, 5, 1, 0] rfl ?_
                -- loop at 50
                have L147 : ∀ (μ : Nat) (x144 : Int) (x145 : Int) (h146 : Hp), (96 - x145).toNat = μ → Okh h146 → Fx [] h135 h146 → ((-2147483648 : Int) ≤ x144 ∧ x144 ≤ (2147483647 : Int)) → ((0 : Int) ≤ x145 ∧ x145 ≤ (96 : Int)) → GW p l e (rmm 11 300 48 3216) s m (List.map toV [.inr (.inr a0), .inl a1, .inl a2, .inl a3]).toArray below meth c D cy z0 6 (MQ below (QI D cy z0 (fun v h1 => Okh h1 ∧ Fx wr_k_X11_seam h h1 ∧ ((-2147483648) ≤ v ∧ v ≤ 2147483647) ∧ (XInv h1 a0))) (List.map toV [.inr (.inr a0), .inl a1, .inl a2, .inl a3]).toArray s 48 3216 (Aof z0)) 50 [(0, .inr (.inr a0)), (1, .inl a1), (2, .inl a2), (3, .inl a3), (4, .inl x144), (5, .inl x145)] [] h146 48 3216 := by
                  intro μ
                  induction μ using Nat.strongRecOn with
                  | ind μ ih148 =>
                    intro x144 x145 h146 hm149 O150 F151 f152 f153
                    refine g_iload C 5 rfl dX11_seam_50 ?_
                    refine g_bipush C (by decide) dX11_seam_52 ?_
                    refine g_icmp_ge C (iw f153 (by decide) (by decide)) (iw (il 96) (by decide) (by decide)) 103 (by decide) dX11_seam_54 (fun q154 => ?_) (fun q155 => ?_)
                    · have f156 : (96 : Int) ≤ x145 ∧ x145 ≤ (96 : Int) := r_ge f153 (il 96) q154 (by decide) (by decide)
                      refine g_iload C 4 rfl dX11_seam_103 ?_
                      have e157 : Tg h135 a0 = 11 := (fxT F139 e131)
                      have p158 := (XInv_fx O138 F151 e157 rfl (XInv_fx O122 F139 e131 rfl p133))
                      exact g_iret C hr rfl f152 ⟨O150, (((((Fx.rf (wr := wr_k_X11_seam)).call F75 rfl).call F123 rfl).call F139 rfl).call F151 rfl), f152, p158⟩ (by decide) (by decide) dX11_seam_105
                    · have f159 : (0 : Int) ≤ x145 ∧ x145 ≤ (95 : Int) := r_lt f153 (il 96) q155 (by decide) (by decide)
                      refine g_aload_n C rfl 0 rfl dX11_seam_57 ?_
                      have e160 : Tg h146 a0 = 11 := (fxT F151 (fxT F139 e131))
                      obtain ⟨v161, e162⟩ : ∃ z, Rv h146 a0 2 = z := ⟨_, rfl⟩
                      have t163 := ok_R O150 e160 rE_11_2 e162
                      refine gf_R C fk_LandSurvey_16 rfl e160 e162 dX11_seam_58 ?_
                      obtain ⟨v164, e165⟩ : ∃ z, Rv h146 v161 3 = z := ⟨_, rfl⟩
                      have t166 := ok_R O150 t163 rE_3_3 e165
                      have l167 := ok_L O150 t163 rE_3_3 e165
                      refine gf_R C fk_LandSurvey_99 rfl t163 e165 dX11_seam_61 ?_
                      refine g_iload C 5 rfl dX11_seam_64 ?_
                      obtain ⟨v168, e169⟩ : ∃ z, Iv h146 v164 x145.toNat = z := ⟨_, rfl⟩
                      have f170 := ok_Ia O150 t166 ar_15100 rI_15100_0 e169
                      refine g_iald C t166 rfl l167 (ix f159 (by decide) (by decide)) e169 dX11_seam_66 ?_
                      refine g_iload_n C rfl 2 rfl dX11_seam_67 ?_
                      refine g_icmp_ne C (iw f170 (by decide) (by decide)) (iw f62 (by decide) (by decide)) 97 (by decide) dX11_seam_68 (fun q171 => ?_) (fun q172 => ?_)
                      · have f173 : (1 : Int) ≤ (x145 + 1) ∧ (x145 + 1) ≤ (96 : Int) := ia_add f159 (il 1) (by decide) (by decide)
                        refine g_iinc C [(5, .inl (x145 + 1)), (0, .inr (.inr a0)), (1, .inl a1), (2, .inl a2), (3, .inl a3), (4, .inl x144)] 5 rfl (by decide) rfl dX11_seam_97 ?_
                        refine g_goto C 50 (by decide) dX11_seam_100 ?_
                        refine GW.sub [1, 2, 3, 4, 5, 0] rfl ?_
                        exact ih148 _ (by omega) x144 (x145 + 1) h146 rfl O150 F151 f152 (iw f173 (by decide) (by decide))
                      · have f174 : (0 : Int) ≤ v168 ∧ v168 ≤ (3 : Int) := ii f170 (r_eq f62 q172) (by decide) (by decide)
                        refine g_iload C 4 rfl dX11_seam_71 ?_
                        refine g_iload_n C rfl 3 rfl dX11_seam_73 ?_
                        refine g_if_ne C (iw f69 (by decide) (by decide)) 87 (by decide) dX11_seam_74 (fun q175 => ?_) (fun q176 => ?_)
                        · have f177 : (1 : Int) ≤ a3 ∧ a3 ≤ (1 : Int) := r_nl f69 q175
                          refine g_aload_n C rfl 0 rfl dX11_seam_87 ?_
                          refine g_iload C 5 rfl dX11_seam_88 ?_
                          refine g_iload_n C rfl 1 rfl dX11_seam_90 ?_
                          have e178 : Tg h135 a0 = 11 := (fxT F139 e131)
                          have e179 : Iv h146 a0 15 = 1 := ((fxI F151 e178 rfl).trans ((fxI F139 e131 rfl).trans e132))
                          have p180 := (XInv_fx O138 F151 e178 rfl (XInv_fx O122 F139 e131 rfl p133))
                          refine g_callI (st := [.inl x144]) (gc_V C lk_LandSurvey_302 (k_X11_perhapsThick l D cy w z0 O150 e160 f159 (by omega) e179 p180) e160 rfl rfl rfl ⟨by decide, by decide⟩ (Nat.le_of_ble_eq_true rfl) dX11_seam_91 ⟨(by decide), (by decide)⟩) (fun r181 h182 f184 K183 => ?_)
                          obtain ⟨O185, F186, f187⟩ := K183
                          have f188 : (-2147483648 : Int) ≤ (w32 (x144 + r181)) ∧ (w32 (x144 + r181)) ≤ (2147483647 : Int) := w32_inR _
                          refine g_iaddW C dX11_seam_94 ?_
                          refine g_istore C [(4, .inl (w32 (x144 + r181))), (0, .inr (.inr a0)), (1, .inl a1), (2, .inl a2), (3, .inl a3), (5, .inl x145)] (by decide) rfl dX11_seam_95 ?_
                          have f189 : (1 : Int) ≤ (x145 + 1) ∧ (x145 + 1) ≤ (96 : Int) := ia_add f159 (il 1) (by decide) (by decide)
                          refine g_iinc C [(5, .inl (x145 + 1)), (4, .inl (w32 (x144 + r181))), (0, .inr (.inr a0)), (1, .inl a1), (2, .inl a2), (3, .inl a3)] 5 rfl (by decide) rfl dX11_seam_97 ?_
                          refine g_goto C 50 (by decide) dX11_seam_100 ?_
                          refine GW.sub [2, 3, 4, 5, 1, 0] rfl ?_
                          exact ih148 _ (by omega) (w32 (x144 + r181)) (x145 + 1) h182 rfl O185 (F151.call F186 rfl) f188 (iw f189 (by decide) (by decide))
                        · have f190 : (0 : Int) ≤ a3 ∧ a3 ≤ (0 : Int) := ii f69 (r_eq (il 0) q176) (by decide) (by decide)
                          refine g_aload_n C rfl 0 rfl dX11_seam_77 ?_
                          refine g_iload C 5 rfl dX11_seam_78 ?_
                          refine g_iload_n C rfl 1 rfl dX11_seam_80 ?_
                          have e191 : Tg h135 a0 = 11 := (fxT F139 e131)
                          have e192 : Iv h146 a0 15 = 1 := ((fxI F151 e191 rfl).trans ((fxI F139 e131 rfl).trans e132))
                          have p193 := (XInv_fx O138 F151 e191 rfl (XInv_fx O122 F139 e131 rfl p133))
                          refine g_callI (st := [.inl x144]) (gc_V C lk_LandSurvey_299 (k_X11_surelyThick l D cy w z0 O150 e160 f159 (by omega) e192 p193) e160 rfl rfl rfl ⟨by decide, by decide⟩ (Nat.le_of_ble_eq_true rfl) dX11_seam_81 ⟨(by decide), (by decide)⟩) (fun r194 h195 f197 K196 => ?_)
                          obtain ⟨O198, F199, f200⟩ := K196
                          refine g_goto C 94 (by decide) dX11_seam_84 ?_
                          have f201 : (-2147483648 : Int) ≤ (w32 (x144 + r194)) ∧ (w32 (x144 + r194)) ≤ (2147483647 : Int) := w32_inR _
                          refine g_iaddW C dX11_seam_94 ?_
                          refine g_istore C [(4, .inl (w32 (x144 + r194))), (0, .inr (.inr a0)), (1, .inl a1), (2, .inl a2), (3, .inl a3), (5, .inl x145)] (by decide) rfl dX11_seam_95 ?_
                          have f202 : (1 : Int) ≤ (x145 + 1) ∧ (x145 + 1) ≤ (96 : Int) := ia_add f159 (il 1) (by decide) (by decide)
                          refine g_iinc C [(5, .inl (x145 + 1)), (4, .inl (w32 (x144 + r194))), (0, .inr (.inr a0)), (1, .inl a1), (2, .inl a2), (3, .inl a3)] 5 rfl (by decide) rfl dX11_seam_97 ?_
                          refine g_goto C 50 (by decide) dX11_seam_100 ?_
                          refine GW.sub [2, 3, 4, 5, 1, 0] rfl ?_
                          exact ih148 _ (by omega) (w32 (x144 + r194)) (x145 + 1) h195 rfl O198 (F151.call F199 rfl) f201 (iw f202 (by decide) (by decide))
                exact L147 _ 0 0 h135 rfl O138 Fx.rf (iw (il 0) (by decide) (by decide)) (iw (il 0) (by decide) (by decide))
              · have f203 : (0 : Int) ≤ r134 ∧ r134 ≤ (0 : Int) := ii f140 (r_eq (il 0) q142) (by decide) (by decide)
                refine g_iconst C dX11_seam_42 ?_
                have p204 := (XInv_fx O122 F139 e131 rfl p133)
                exact g_iret C hr rfl (iw (il (-1)) (by decide) (by decide)) ⟨O138, ((((Fx.rf (wr := wr_k_X11_seam)).call F75 rfl).call F123 rfl).call F139 rfl), (iw (il (-1)) (by decide) (by decide)), p204⟩ (by decide) (by decide) dX11_seam_43
        · have f205 : (2 : Int) ≤ a3 ∧ a3 ≤ (2147483647 : Int) := r_gt f66 (il 1) q68 (by decide) (by decide)
          refine g_iconst C dX11_seam_18 ?_
          exact g_iret C hr rfl (iw (il (-1)) (by decide) (by decide)) ⟨O, Fx.rf, (iw (il (-1)) (by decide) (by decide)), P_XInv⟩ (by decide) (by decide) dX11_seam_19
def wr_k_X11_drawn : List Nat := []
set_option maxRecDepth 100000 in
set_option maxHeartbeats 4000000 in
theorem k_X11_drawn (l : Launch) (D : va_G) (cy : Nat → ClassId) (w : Nat → Nat) (z0 : Nat) {h : Hp} {a0 : Nat} {a1 : Int} {a2 : Int} {a3 : Int}  (O : Okh h) (ta0 : Tg h a0 = 11) (fa1 : (-2147483648) ≤ a1 ∧ a1 ≤ 2147483647) (fa2 : (-2147483648) ≤ a2 ∧ a2 ≤ 2147483647) (fa3 : (-2147483648) ≤ a3 ∧ a3 ≤ 2147483647) (P_XInv : XInv h a0) : MI l D cy w z0 yX11_drawn cX11_drawn 5 (some .int) 1 21 0 0 [.inr (.inr a0), .inl a1, .inl a2, .inl a3] h (fun v h1 => Okh h1 ∧ Fx wr_k_X11_drawn h h1 ∧ ((-2147483648) ≤ v ∧ v ≤ 2147483647) ∧ (XInv h1 a0)) := by
  obtain ⟨v1, e2⟩ : ∃ z, Rv h a0 3 = z := ⟨_, rfl⟩
  have t3 := ok_R O ta0 rE_11_3 e2
  have l4 := ok_L O ta0 rE_11_3 e2
  obtain ⟨v5, e6⟩ : ∃ z, Iv h a0 4 = z := ⟨_, rfl⟩
  have f7 := ok_I O ta0 rI_11_4 e6
  obtain ⟨v8, e9⟩ : ∃ z, Rv h a0 8 = z := ⟨_, rfl⟩
  have t10 := ok_R O ta0 rE_11_8 e9
  have l11 := ok_L O ta0 rE_11_8 e9
  obtain ⟨v12, e13⟩ : ∃ z, Iv h a0 9 = z := ⟨_, rfl⟩
  have f14 := ok_I O ta0 rI_11_9 e13
  obtain ⟨v15, e16⟩ : ∃ z, Rv h a0 11 = z := ⟨_, rfl⟩
  have t17 := ok_R O ta0 rE_11_11 e16
  have l18 := ok_L O ta0 rE_11_11 e16
  obtain ⟨v19, e20⟩ : ∃ z, Iv h a0 12 = z := ⟨_, rfl⟩
  have f21 := ok_I O ta0 rI_11_12 e20
  obtain ⟨v22, e23⟩ : ∃ z, Iv h a0 15 = z := ⟨_, rfl⟩
  have f24 := ok_I O ta0 rI_11_15 e23
  obtain ⟨v25, e26⟩ : ∃ z, Rv h a0 14 = z := ⟨_, rfl⟩
  have t27 := ok_R O ta0 rE_11_14 e26
  have l28 := ok_L O ta0 rE_11_14 e26
  obtain ⟨v29, e30⟩ : ∃ z, Rv h a0 13 = z := ⟨_, rfl⟩
  have t31 := ok_R O ta0 rE_11_13 e30
  obtain ⟨v32, e33⟩ : ∃ z, Rv h a0 6 = z := ⟨_, rfl⟩
  have t34 := ok_R O ta0 rE_11_6 e33
  obtain ⟨v35, e36⟩ : ∃ z, Rv h a0 7 = z := ⟨_, rfl⟩
  have t37 := ok_R O ta0 rE_11_7 e36
  have p48 := P_XInv
  unfold XInv at p48
  rw [e2, e6, e9, e13, e16, e20, e23, e26, e30, e33, e36] at p48
  obtain ⟨p38, p39, p40, p41, p42, p43, p44, p45, p46, p47⟩ := p48
  obtain ⟨v49, e50⟩ : ∃ z, Iv h v29 3 = z := ⟨_, rfl⟩
  have f51 := ok_I O t31 rI_7_3 e50
  obtain ⟨v52, e53⟩ : ∃ z, Iv h v29 4 = z := ⟨_, rfl⟩
  have f54 := ok_I O t31 rI_7_4 e53
  rw [e50] at p44
  rw [e53] at p45
  refine hm_go (by decide +kernel) (Nat.le_of_ble_eq_true rfl) (fun p e s m below meth c C hr hn => ?_)
  refine g_iload_n C rfl 2 rfl dX11_drawn_0 ?_
  refine g_iload_n C rfl 3 rfl dX11_drawn_1 ?_
  refine g_callI (st := []) (gc_S C lk_LandSurvey_85 (k_X11_cellAt l D cy w z0 O fa2 fa3) rfl ⟨by decide, by decide⟩ (Nat.le_of_ble_eq_true rfl) dX11_drawn_2 ⟨(by decide), (by decide)⟩) (fun r55 h56 f58 K57 => ?_)
  obtain ⟨O59, F60, f61, p62⟩ := K57
  refine g_istore C [(4, .inl r55), (0, .inr (.inr a0)), (1, .inl a1), (2, .inl a2), (3, .inl a3)] (by decide) rfl dX11_drawn_5 ?_
  refine g_iload C 0 rfl dX11_drawn_7 ?_
  refine g_iconst C dX11_drawn_9 ?_
  refine g_icmp_eq C (iw f61 (by decide) (by decide)) (iw (il (-1)) (by decide) (by decide)) 21 (by decide) dX11_drawn_10 (fun q63 => ?_) (fun q64 => ?_)
  · have f65 : (-1 : Int) ≤ r55 ∧ r55 ≤ (-1 : Int) := ii f61 (r_eq (il (-1)) q63) (by decide) (by decide)
    refine g_iconst C dX11_drawn_21 ?_
    refine g_goto C 37 (by decide) dX11_drawn_22 ?_
    have p66 := (XInv_fx O F60 ta0 rfl P_XInv)
    exact g_iret C hr rfl (iw (il (-1)) (by decide) (by decide)) ⟨O59, ((Fx.rf (wr := wr_k_X11_drawn)).call F60 rfl), (iw (il (-1)) (by decide) (by decide)), p66⟩ (by decide) (by decide) dX11_drawn_37
  · have f67 : (0 : Int) ≤ r55 ∧ r55 ≤ (95 : Int) := r_nl f61 q64
    refine g_aload_n C rfl 1 rfl dX11_drawn_13 ?_
    refine g_iload_n C rfl 2 rfl dX11_drawn_14 ?_
    have e68 : Tg h56 a0 = 11 := (fxT F60 ta0)
    refine g_callI (st := []) (gc_V C lk_LandSurvey_312 (k_X11_isSheet l D cy w z0 O59 e68 fa1) e68 rfl rfl rfl ⟨by decide, by decide⟩ (Nat.le_of_ble_eq_true rfl) dX11_drawn_15 ⟨(by decide), (by decide)⟩) (fun r69 h70 f72 K71 => ?_)
    obtain ⟨O73, F74, f75, p76⟩ := K71
    have e77 : Iv h56 a0 12 = v19 := ((fxI F60 ta0 rfl).trans e20)
    refine g_if_ne C (iw f75 (by decide) (by decide)) 25 (by decide) dX11_drawn_18 (fun q78 => ?_) (fun q79 => ?_)
    · have f80 : (1 : Int) ≤ r69 ∧ r69 ≤ (1 : Int) := r_nl f75 q78
      refine g_aload_n C rfl 1 rfl dX11_drawn_25 ?_
      have e81 : Tg h70 a0 = 11 := (fxT F74 e68)
      have e82 : Rv h70 a0 11 = v15 := ((fxR F74 e68 rfl).trans ((fxR F60 ta0 rfl).trans e16))
      refine gf_R C fk_LandSurvey_55 rfl e81 e82 dX11_drawn_26 ?_
      refine g_iload_n C rfl 2 rfl dX11_drawn_29 ?_
      have e83 : Tg h70 v15 = 48106 := (fxT F74 (fxT F60 t17))
      have e84 : Tg h56 v15 = 48106 := (fxT F60 t17)
      have e85 : Ln h70 v15 = 10 := ((fxL F74 e84).trans ((fxL F60 t17).trans l18))
      obtain ⟨v86, e87⟩ : ∃ z, Rv h70 v15 a1.toNat = z := ⟨_, rfl⟩
      refine g_aald (t := 6) C e83 rfl (by decide) rfl e85 (by omega) e87 dX11_drawn_30 ?_
      have p88 := (NN_fx F74 e84 ar_48106 rfl (NN_fx F60 t17 ar_48106 rfl p40))
      have q89 := nn_get p88 (by omega) e87
      have t90 := ok_Na O73 e83 ar_48106 rE_48106_0 e87 q89
      obtain ⟨v91, e92⟩ : ∃ z, Rv h70 v86 0 = z := ⟨_, rfl⟩
      have t93 := ok_R O73 t90 rE_8_0 e92
      have l94 := ok_L O73 t90 rE_8_0 e92
      refine gf_R C fk_LandSurvey_309 rfl t90 e92 dX11_drawn_31 ?_
      refine g_iload C 0 rfl dX11_drawn_34 ?_
      obtain ⟨v95, e96⟩ : ∃ z, Iv h70 v91 r55.toNat = z := ⟨_, rfl⟩
      have f97 := ok_Ia O73 t93 ar_44100 rI_44100_0 e96
      refine g_iald C t93 rfl l94 (ix f67 (by decide) (by decide)) e96 dX11_drawn_36 ?_
      have p98 := (XInv_fx O59 F74 e68 rfl (XInv_fx O F60 ta0 rfl P_XInv))
      exact g_iret C hr rfl f97 ⟨O73, (((Fx.rf (wr := wr_k_X11_drawn)).call F60 rfl).call F74 rfl), f97, p98⟩ (by decide) (by decide) dX11_drawn_37
    · have f99 : (0 : Int) ≤ r69 ∧ r69 ≤ (0 : Int) := ii f75 (r_eq (il 0) q79) (by decide) (by decide)
      refine g_iconst C dX11_drawn_21 ?_
      refine g_goto C 37 (by decide) dX11_drawn_22 ?_
      have p100 := (XInv_fx O59 F74 e68 rfl (XInv_fx O F60 ta0 rfl P_XInv))
      exact g_iret C hr rfl (iw (il (-1)) (by decide) (by decide)) ⟨O73, (((Fx.rf (wr := wr_k_X11_drawn)).call F60 rfl).call F74 rfl), (iw (il (-1)) (by decide) (by decide)), p100⟩ (by decide) (by decide) dX11_drawn_37
def wr_k_X11_quarrel : List Nat := []
set_option maxRecDepth 100000 in
set_option maxHeartbeats 4000000 in
theorem k_X11_quarrel (l : Launch) (D : va_G) (cy : Nat → ClassId) (w : Nat → Nat) (z0 : Nat) {h : Hp} {a0 : Nat} {a1 : Int} {a2 : Int}  (O : Okh h) (ta0 : Tg h a0 = 11) (fa1 : (-2147483648) ≤ a1 ∧ a1 ≤ 2147483647) (fa2 : (-2147483648) ≤ a2 ∧ a2 ≤ 2147483647) (P_XInv : XInv h a0) : MI l D cy w z0 yX11_quarrel cX11_quarrel 7 (some .int) 1 21 0 0 [.inr (.inr a0), .inl a1, .inl a2] h (fun v h1 => Okh h1 ∧ Fx wr_k_X11_quarrel h h1 ∧ ((-2147483648) ≤ v ∧ v ≤ 2147483647) ∧ (XInv h1 a0)) := by
  obtain ⟨v1, e2⟩ : ∃ z, Rv h a0 3 = z := ⟨_, rfl⟩
  have t3 := ok_R O ta0 rE_11_3 e2
  have l4 := ok_L O ta0 rE_11_3 e2
  obtain ⟨v5, e6⟩ : ∃ z, Iv h a0 4 = z := ⟨_, rfl⟩
  have f7 := ok_I O ta0 rI_11_4 e6
  obtain ⟨v8, e9⟩ : ∃ z, Rv h a0 8 = z := ⟨_, rfl⟩
  have t10 := ok_R O ta0 rE_11_8 e9
  have l11 := ok_L O ta0 rE_11_8 e9
  obtain ⟨v12, e13⟩ : ∃ z, Iv h a0 9 = z := ⟨_, rfl⟩
  have f14 := ok_I O ta0 rI_11_9 e13
  obtain ⟨v15, e16⟩ : ∃ z, Rv h a0 11 = z := ⟨_, rfl⟩
  have t17 := ok_R O ta0 rE_11_11 e16
  have l18 := ok_L O ta0 rE_11_11 e16
  obtain ⟨v19, e20⟩ : ∃ z, Iv h a0 12 = z := ⟨_, rfl⟩
  have f21 := ok_I O ta0 rI_11_12 e20
  obtain ⟨v22, e23⟩ : ∃ z, Iv h a0 15 = z := ⟨_, rfl⟩
  have f24 := ok_I O ta0 rI_11_15 e23
  obtain ⟨v25, e26⟩ : ∃ z, Rv h a0 14 = z := ⟨_, rfl⟩
  have t27 := ok_R O ta0 rE_11_14 e26
  have l28 := ok_L O ta0 rE_11_14 e26
  obtain ⟨v29, e30⟩ : ∃ z, Rv h a0 13 = z := ⟨_, rfl⟩
  have t31 := ok_R O ta0 rE_11_13 e30
  obtain ⟨v32, e33⟩ : ∃ z, Rv h a0 6 = z := ⟨_, rfl⟩
  have t34 := ok_R O ta0 rE_11_6 e33
  obtain ⟨v35, e36⟩ : ∃ z, Rv h a0 7 = z := ⟨_, rfl⟩
  have t37 := ok_R O ta0 rE_11_7 e36
  have p48 := P_XInv
  unfold XInv at p48
  rw [e2, e6, e9, e13, e16, e20, e23, e26, e30, e33, e36] at p48
  obtain ⟨p38, p39, p40, p41, p42, p43, p44, p45, p46, p47⟩ := p48
  obtain ⟨v49, e50⟩ : ∃ z, Iv h v29 3 = z := ⟨_, rfl⟩
  have f51 := ok_I O t31 rI_7_3 e50
  obtain ⟨v52, e53⟩ : ∃ z, Iv h v29 4 = z := ⟨_, rfl⟩
  have f54 := ok_I O t31 rI_7_4 e53
  rw [e50] at p44
  rw [e53] at p45
  refine hm_go (by decide +kernel) (Nat.le_of_ble_eq_true rfl) (fun p e s m below meth c C hr hn => ?_)
  refine g_aload_n C rfl 0 rfl dX11_quarrel_0 ?_
  refine g_iload_n C rfl 1 rfl dX11_quarrel_1 ?_
  refine g_callI (st := []) (gc_V C lk_LandSurvey_312 (k_X11_isSheet l D cy w z0 O ta0 fa1) ta0 rfl rfl rfl ⟨by decide, by decide⟩ (Nat.le_of_ble_eq_true rfl) dX11_quarrel_2 ⟨(by decide), (by decide)⟩) (fun r55 h56 f58 K57 => ?_)
  obtain ⟨O59, F60, f61, p62⟩ := K57
  refine g_if_eq C (iw f61 (by decide) (by decide)) 16 (by decide) dX11_quarrel_5 (fun q63 => ?_) (fun q64 => ?_)
  · have f65 : (0 : Int) ≤ r55 ∧ r55 ≤ (0 : Int) := ii f61 (r_eq (il 0) q63) (by decide) (by decide)
    refine g_iconst C dX11_quarrel_16 ?_
    have p66 := (XInv_fx O F60 ta0 rfl P_XInv)
    exact g_iret C hr rfl (iw (il (-1)) (by decide) (by decide)) ⟨O59, ((Fx.rf (wr := wr_k_X11_quarrel)).call F60 rfl), (iw (il (-1)) (by decide) (by decide)), p66⟩ (by decide) (by decide) dX11_quarrel_17
  · have f67 : (1 : Int) ≤ r55 ∧ r55 ≤ (1 : Int) := r_nl f61 q64
    refine g_aload_n C rfl 0 rfl dX11_quarrel_8 ?_
    refine g_iload_n C rfl 2 rfl dX11_quarrel_9 ?_
    have e68 : Tg h56 a0 = 11 := (fxT F60 ta0)
    refine g_callI (st := []) (gc_V C lk_LandSurvey_312 (k_X11_isSheet l D cy w z0 O59 e68 fa2) e68 rfl rfl rfl ⟨by decide, by decide⟩ (Nat.le_of_ble_eq_true rfl) dX11_quarrel_10 ⟨(by decide), (by decide)⟩) (fun r69 h70 f72 K71 => ?_)
    obtain ⟨O73, F74, f75, p76⟩ := K71
    have e77 : Iv h56 a0 12 = v19 := ((fxI F60 ta0 rfl).trans e20)
    refine g_if_ne C (iw f75 (by decide) (by decide)) 18 (by decide) dX11_quarrel_13 (fun q78 => ?_) (fun q79 => ?_)
    · have f80 : (1 : Int) ≤ r69 ∧ r69 ≤ (1 : Int) := r_nl f75 q78
      refine g_iconst C dX11_quarrel_18 ?_
      refine g_istore_n C [(3, .inl 0), (0, .inr (.inr a0)), (1, .inl a1), (2, .inl a2)] rfl (by decide) rfl dX11_quarrel_19 ?_
      refine g_iconst C dX11_quarrel_20 ?_
      refine g_istore C [(4, .inl 0), (3, .inl 0), (0, .inr (.inr a0)), (1, .inl a1), (2, .inl a2)] (by decide) rfl dX11_quarrel_21 ?_
      refine GW.sub [2, 3, 4, 1, 0] rfl ?_
      -- loop at 23
      have L83 : ∀ (μ : Nat) (x81 : Int) (x82 : Int), (96 - x82).toNat = μ → ((-2147483648 : Int) ≤ x81 ∧ x81 ≤ (2147483647 : Int)) → ((0 : Int) ≤ x82 ∧ x82 ≤ (96 : Int)) → GW p l e (rmm 1 21 0 0) s m (List.map toV [.inr (.inr a0), .inl a1, .inl a2]).toArray below meth c D cy z0 7 (MQ below (QI D cy z0 (fun v h1 => Okh h1 ∧ Fx wr_k_X11_quarrel h h1 ∧ ((-2147483648) ≤ v ∧ v ≤ 2147483647) ∧ (XInv h1 a0))) (List.map toV [.inr (.inr a0), .inl a1, .inl a2]).toArray s 0 0 (Aof z0)) 23 [(0, .inr (.inr a0)), (1, .inl a1), (2, .inl a2), (3, .inl x81), (4, .inl x82)] [] h70 0 0 := by
        intro μ
        induction μ using Nat.strongRecOn with
        | ind μ ih84 =>
          intro x81 x82 hm85 f86 f87
          refine g_iload C 4 rfl dX11_quarrel_23 ?_
          refine g_bipush C (by decide) dX11_quarrel_25 ?_
          refine g_icmp_ge C (iw f87 (by decide) (by decide)) (iw (il 96) (by decide) (by decide)) 87 (by decide) dX11_quarrel_27 (fun q88 => ?_) (fun q89 => ?_)
          · have f90 : (96 : Int) ≤ x82 ∧ x82 ≤ (96 : Int) := r_ge f87 (il 96) q88 (by decide) (by decide)
            refine g_iload_n C rfl 3 rfl dX11_quarrel_87 ?_
            have p91 := (XInv_fx O59 F74 e68 rfl (XInv_fx O F60 ta0 rfl P_XInv))
            exact g_iret C hr rfl f86 ⟨O73, (((Fx.rf (wr := wr_k_X11_quarrel)).call F60 rfl).call F74 rfl), f86, p91⟩ (by decide) (by decide) dX11_quarrel_88
          · have f92 : (0 : Int) ≤ x82 ∧ x82 ≤ (95 : Int) := r_lt f87 (il 96) q89 (by decide) (by decide)
            refine g_aload_n C rfl 0 rfl dX11_quarrel_30 ?_
            have e93 : Tg h70 a0 = 11 := (fxT F74 e68)
            have e94 : Rv h70 a0 11 = v15 := ((fxR F74 e68 rfl).trans ((fxR F60 ta0 rfl).trans e16))
            refine gf_R C fk_LandSurvey_55 rfl e93 e94 dX11_quarrel_31 ?_
            refine g_iload_n C rfl 1 rfl dX11_quarrel_34 ?_
            have e95 : Tg h70 v15 = 48106 := (fxT F74 (fxT F60 t17))
            have e96 : Tg h56 v15 = 48106 := (fxT F60 t17)
            have e97 : Ln h70 v15 = 10 := ((fxL F74 e96).trans ((fxL F60 t17).trans l18))
            obtain ⟨v98, e99⟩ : ∃ z, Rv h70 v15 a1.toNat = z := ⟨_, rfl⟩
            refine g_aald (t := 6) C e95 rfl (by decide) rfl e97 (by omega) e99 dX11_quarrel_35 ?_
            have p100 := (NN_fx F74 e96 ar_48106 rfl (NN_fx F60 t17 ar_48106 rfl p40))
            have q101 := nn_get p100 (by omega) e99
            have t102 := ok_Na O73 e95 ar_48106 rE_48106_0 e99 q101
            obtain ⟨v103, e104⟩ : ∃ z, Rv h70 v98 0 = z := ⟨_, rfl⟩
            have t105 := ok_R O73 t102 rE_8_0 e104
            have l106 := ok_L O73 t102 rE_8_0 e104
            refine gf_R C fk_LandSurvey_309 rfl t102 e104 dX11_quarrel_36 ?_
            refine g_iload C 4 rfl dX11_quarrel_39 ?_
            obtain ⟨v107, e108⟩ : ∃ z, Iv h70 v103 x82.toNat = z := ⟨_, rfl⟩
            have f109 := ok_Ia O73 t105 ar_44100 rI_44100_0 e108
            refine g_iald C t105 rfl l106 (ix f92 (by decide) (by decide)) e108 dX11_quarrel_41 ?_
            refine g_istore C [(5, .inl v107), (0, .inr (.inr a0)), (1, .inl a1), (2, .inl a2), (3, .inl x81), (4, .inl x82)] (by decide) rfl dX11_quarrel_42 ?_
            refine g_aload_n C rfl 1 rfl dX11_quarrel_44 ?_
            refine gf_R C fk_LandSurvey_55 rfl e93 e94 dX11_quarrel_45 ?_
            refine g_iload_n C rfl 3 rfl dX11_quarrel_48 ?_
            obtain ⟨v110, e111⟩ : ∃ z, Rv h70 v15 a2.toNat = z := ⟨_, rfl⟩
            refine g_aald (t := 6) C e95 rfl (by decide) rfl e97 (by omega) e111 dX11_quarrel_49 ?_
            have q112 := nn_get p100 (by omega) e111
            have t113 := ok_Na O73 e95 ar_48106 rE_48106_0 e111 q112
            obtain ⟨v114, e115⟩ : ∃ z, Rv h70 v110 0 = z := ⟨_, rfl⟩
            have t116 := ok_R O73 t113 rE_8_0 e115
            have l117 := ok_L O73 t113 rE_8_0 e115
            refine gf_R C fk_LandSurvey_309 rfl t113 e115 dX11_quarrel_50 ?_
            refine g_iload C 5 rfl dX11_quarrel_53 ?_
            obtain ⟨v118, e119⟩ : ∃ z, Iv h70 v114 x82.toNat = z := ⟨_, rfl⟩
            have f120 := ok_Ia O73 t116 ar_44100 rI_44100_0 e119
            refine g_iald C t116 rfl l117 (ix f92 (by decide) (by decide)) e119 dX11_quarrel_55 ?_
            refine g_istore C [(6, .inl v118), (5, .inl v107), (0, .inr (.inr a0)), (1, .inl a1), (2, .inl a2), (3, .inl x81), (4, .inl x82)] (by decide) rfl dX11_quarrel_56 ?_
            refine g_iload C 1 rfl dX11_quarrel_58 ?_
            refine g_iconst C dX11_quarrel_60 ?_
            refine g_icmp_eq C f109 (iw (il (-1)) (by decide) (by decide)) 81 (by decide) dX11_quarrel_61 (fun q121 => ?_) (fun q122 => ?_)
            · have f123 : (-1 : Int) ≤ v107 ∧ v107 ≤ (-1 : Int) := ii f109 (r_eq (il (-1)) q121) (by decide) (by decide)
              have f124 : (1 : Int) ≤ (x82 + 1) ∧ (x82 + 1) ≤ (96 : Int) := ia_add f92 (il 1) (by decide) (by decide)
              refine g_iinc C [(4, .inl (x82 + 1)), (6, .inl v118), (5, .inl v107), (0, .inr (.inr a0)), (1, .inl a1), (2, .inl a2), (3, .inl x81)] 6 rfl (by decide) rfl dX11_quarrel_81 ?_
              refine g_goto C 23 (by decide) dX11_quarrel_84 ?_
              refine GW.sub [3, 4, 5, 6, 0] rfl ?_
              exact ih84 _ (by omega) x81 (x82 + 1) rfl f86 (iw f124 (by decide) (by decide))
            · refine g_iload C 0 rfl dX11_quarrel_64 ?_
              refine g_iconst C dX11_quarrel_66 ?_
              refine g_icmp_eq C f120 (iw (il (-1)) (by decide) (by decide)) 81 (by decide) dX11_quarrel_67 (fun q125 => ?_) (fun q126 => ?_)
              · have f127 : (-1 : Int) ≤ v118 ∧ v118 ≤ (-1 : Int) := ii f120 (r_eq (il (-1)) q125) (by decide) (by decide)
                have f128 : (1 : Int) ≤ (x82 + 1) ∧ (x82 + 1) ≤ (96 : Int) := ia_add f92 (il 1) (by decide) (by decide)
                refine g_iinc C [(4, .inl (x82 + 1)), (6, .inl v118), (5, .inl v107), (0, .inr (.inr a0)), (1, .inl a1), (2, .inl a2), (3, .inl x81)] 6 rfl (by decide) rfl dX11_quarrel_81 ?_
                refine g_goto C 23 (by decide) dX11_quarrel_84 ?_
                refine GW.sub [3, 4, 5, 6, 0] rfl ?_
                exact ih84 _ (by omega) x81 (x82 + 1) rfl f86 (iw f128 (by decide) (by decide))
              · refine g_iload C 1 rfl dX11_quarrel_70 ?_
                refine g_iload C 0 rfl dX11_quarrel_72 ?_
                refine g_iand C dX11_quarrel_74 ?_
                have f129 : (-2147483648 : Int) ≤ (bAnd v107 v118) ∧ (bAnd v107 v118) ≤ (2147483647 : Int) := inR_of _
                refine g_if_ne C f129 81 (by decide) dX11_quarrel_75 (fun q130 => ?_) (fun q131 => ?_)
                · have f132 : (1 : Int) ≤ (x82 + 1) ∧ (x82 + 1) ≤ (96 : Int) := ia_add f92 (il 1) (by decide) (by decide)
                  refine g_iinc C [(4, .inl (x82 + 1)), (6, .inl v118), (5, .inl v107), (0, .inr (.inr a0)), (1, .inl a1), (2, .inl a2), (3, .inl x81)] 6 rfl (by decide) rfl dX11_quarrel_81 ?_
                  refine g_goto C 23 (by decide) dX11_quarrel_84 ?_
                  refine GW.sub [3, 4, 5, 6, 0] rfl ?_
                  exact ih84 _ (by omega) x81 (x82 + 1) rfl f86 (iw f132 (by decide) (by decide))
                · have f133 : (0 : Int) ≤ (bAnd v107 v118) ∧ (bAnd v107 v118) ≤ (0 : Int) := ii f129 (r_eq (il 0) q131) (by decide) (by decide)
                  have f134 : (-2147483648 : Int) ≤ (w32 (x81 + 1)) ∧ (w32 (x81 + 1)) ≤ (2147483647 : Int) := w32_inR _
                  refine g_iincW C [(3, .inl (w32 (x81 + 1))), (6, .inl v118), (5, .inl v107), (0, .inr (.inr a0)), (1, .inl a1), (2, .inl a2), (4, .inl x82)] 5 rfl (by decide) rfl dX11_quarrel_78 ?_
                  have f135 : (1 : Int) ≤ (x82 + 1) ∧ (x82 + 1) ≤ (96 : Int) := ia_add f92 (il 1) (by decide) (by decide)
                  refine g_iinc C [(4, .inl (x82 + 1)), (3, .inl (w32 (x81 + 1))), (6, .inl v118), (5, .inl v107), (0, .inr (.inr a0)), (1, .inl a1), (2, .inl a2)] 6 rfl (by decide) rfl dX11_quarrel_81 ?_
                  refine g_goto C 23 (by decide) dX11_quarrel_84 ?_
                  refine GW.sub [4, 5, 6, 1, 0] rfl ?_
                  exact ih84 _ (by omega) (w32 (x81 + 1)) (x82 + 1) rfl f134 (iw f135 (by decide) (by decide))
      exact L83 _ 0 0 rfl (iw (il 0) (by decide) (by decide)) (iw (il 0) (by decide) (by decide))
    · have f136 : (0 : Int) ≤ r69 ∧ r69 ≤ (0 : Int) := ii f75 (r_eq (il 0) q79) (by decide) (by decide)
      refine g_iconst C dX11_quarrel_16 ?_
      have p137 := (XInv_fx O59 F74 e68 rfl (XInv_fx O F60 ta0 rfl P_XInv))
      exact g_iret C hr rfl (iw (il (-1)) (by decide) (by decide)) ⟨O73, (((Fx.rf (wr := wr_k_X11_quarrel)).call F60 rfl).call F74 rfl), (iw (il (-1)) (by decide) (by decide)), p137⟩ (by decide) (by decide) dX11_quarrel_17
def wr_k_X11_stale : List Nat := [401, 402, 403, 404, 405, 406, 1403, 1404, 1405, 1412, 1813, 1814, 1815, 1816, 1817, 1818, 2003, 2207, 2215, 2216, 2217, 200400, 200407, 200408, 2020000, 2220000, 2420000, 3020000, 5620000, 7420000, 8020000, 8220400, 8420400, 8620000, 8820000, 9020000, 9220400, 9420000, 9821400, 10020000]
set_option maxRecDepth 100000 in
set_option maxHeartbeats 4000000 in
theorem k_X11_stale (l : Launch) (D : va_G) (cy : Nat → ClassId) (w : Nat → Nat) (z0 : Nat) {h : Hp} {a0 : Nat} {a1 : Int}  (O : Okh h) (ta0 : Tg h a0 = 11) (fa1 : (-2147483648) ≤ a1 ∧ a1 ≤ 2147483647) (P_XInv : XInv h a0) : MI l D cy w z0 yX11_stale cX11_stale 5 (some .int) 11 300 48 3216 [.inr (.inr a0), .inl a1] h (fun v h1 => Okh h1 ∧ Fx wr_k_X11_stale h h1 ∧ ((-2147483648) ≤ v ∧ v ≤ 2147483647) ∧ (XInv h1 a0)) := by
  obtain ⟨v1, e2⟩ : ∃ z, Rv h a0 3 = z := ⟨_, rfl⟩
  have t3 := ok_R O ta0 rE_11_3 e2
  have l4 := ok_L O ta0 rE_11_3 e2
  obtain ⟨v5, e6⟩ : ∃ z, Iv h a0 4 = z := ⟨_, rfl⟩
  have f7 := ok_I O ta0 rI_11_4 e6
  obtain ⟨v8, e9⟩ : ∃ z, Rv h a0 8 = z := ⟨_, rfl⟩
  have t10 := ok_R O ta0 rE_11_8 e9
  have l11 := ok_L O ta0 rE_11_8 e9
  obtain ⟨v12, e13⟩ : ∃ z, Iv h a0 9 = z := ⟨_, rfl⟩
  have f14 := ok_I O ta0 rI_11_9 e13
  obtain ⟨v15, e16⟩ : ∃ z, Rv h a0 11 = z := ⟨_, rfl⟩
  have t17 := ok_R O ta0 rE_11_11 e16
  have l18 := ok_L O ta0 rE_11_11 e16
  obtain ⟨v19, e20⟩ : ∃ z, Iv h a0 12 = z := ⟨_, rfl⟩
  have f21 := ok_I O ta0 rI_11_12 e20
  obtain ⟨v22, e23⟩ : ∃ z, Iv h a0 15 = z := ⟨_, rfl⟩
  have f24 := ok_I O ta0 rI_11_15 e23
  obtain ⟨v25, e26⟩ : ∃ z, Rv h a0 14 = z := ⟨_, rfl⟩
  have t27 := ok_R O ta0 rE_11_14 e26
  have l28 := ok_L O ta0 rE_11_14 e26
  obtain ⟨v29, e30⟩ : ∃ z, Rv h a0 13 = z := ⟨_, rfl⟩
  have t31 := ok_R O ta0 rE_11_13 e30
  obtain ⟨v32, e33⟩ : ∃ z, Rv h a0 6 = z := ⟨_, rfl⟩
  have t34 := ok_R O ta0 rE_11_6 e33
  obtain ⟨v35, e36⟩ : ∃ z, Rv h a0 7 = z := ⟨_, rfl⟩
  have t37 := ok_R O ta0 rE_11_7 e36
  have p48 := P_XInv
  unfold XInv at p48
  rw [e2, e6, e9, e13, e16, e20, e23, e26, e30, e33, e36] at p48
  obtain ⟨p38, p39, p40, p41, p42, p43, p44, p45, p46, p47⟩ := p48
  obtain ⟨v49, e50⟩ : ∃ z, Iv h v29 3 = z := ⟨_, rfl⟩
  have f51 := ok_I O t31 rI_7_3 e50
  obtain ⟨v52, e53⟩ : ∃ z, Iv h v29 4 = z := ⟨_, rfl⟩
  have f54 := ok_I O t31 rI_7_4 e53
  rw [e50] at p44
  rw [e53] at p45
  refine hm_go (by decide +kernel) (Nat.le_of_ble_eq_true rfl) (fun p e s m below meth c C hr hn => ?_)
  refine g_aload_n C rfl 0 rfl dX11_stale_0 ?_
  refine g_iload_n C rfl 1 rfl dX11_stale_1 ?_
  refine g_callI (st := []) (gc_V C lk_LandSurvey_312 (k_X11_isSheet l D cy w z0 O ta0 fa1) ta0 rfl rfl rfl ⟨by decide, by decide⟩ (Nat.le_of_ble_eq_true rfl) dX11_stale_2 ⟨(by decide), (by decide)⟩) (fun r55 h56 f58 K57 => ?_)
  obtain ⟨O59, F60, f61, p62⟩ := K57
  refine g_if_eq C (iw f61 (by decide) (by decide)) 15 (by decide) dX11_stale_5 (fun q63 => ?_) (fun q64 => ?_)
  · have f65 : (0 : Int) ≤ r55 ∧ r55 ≤ (0 : Int) := ii f61 (r_eq (il 0) q63) (by decide) (by decide)
    refine g_iconst C dX11_stale_15 ?_
    have p66 := (XInv_fx O F60 ta0 rfl P_XInv)
    exact g_iret C hr rfl (iw (il (-1)) (by decide) (by decide)) ⟨O59, ((Fx.rf (wr := wr_k_X11_stale)).call F60 rfl), (iw (il (-1)) (by decide) (by decide)), p66⟩ (by decide) (by decide) dX11_stale_16
  · have f67 : (1 : Int) ≤ r55 ∧ r55 ≤ (1 : Int) := r_nl f61 q64
    refine g_aload_n C rfl 0 rfl dX11_stale_8 ?_
    have e68 : Tg h56 a0 = 11 := (fxT F60 ta0)
    have p69 := (XInv_fx O F60 ta0 rfl P_XInv)
    refine g_callI (st := []) (gc_V C lk_LandSurvey_253 (k_X11_prepare l D cy w z0 O59 e68 p69) e68 rfl rfl rfl ⟨by decide, by decide⟩ (Nat.le_of_ble_eq_true rfl) dX11_stale_9 ⟨(by decide), (by decide)⟩) (fun r70 h71 f73 K72 => ?_)
    obtain ⟨O74, F75, f76, p77, p78, p79⟩ := K72
    obtain ⟨v80, e81⟩ : ∃ z, Rv h71 a0 17 = z := ⟨_, rfl⟩
    have e82 : Tg h71 a0 = 11 := (fxT F75 e68)
    rw [e81] at p79
    have e83 : Rv h71 a0 3 = v1 := ((fxR F75 e68 rfl).trans ((fxR F60 ta0 rfl).trans e2))
    have e84 : Iv h71 a0 4 = v5 := ((fxI F75 e68 rfl).trans ((fxI F60 ta0 rfl).trans e6))
    have e85 : Rv h71 a0 8 = v8 := ((fxR F75 e68 rfl).trans ((fxR F60 ta0 rfl).trans e9))
    have e86 : Iv h71 a0 9 = v12 := ((fxI F75 e68 rfl).trans ((fxI F60 ta0 rfl).trans e13))
    have e87 : Rv h71 a0 11 = v15 := ((fxR F75 e68 rfl).trans ((fxR F60 ta0 rfl).trans e16))
    have e88 : Iv h71 a0 12 = v19 := ((fxI F75 e68 rfl).trans ((fxI F60 ta0 rfl).trans e20))
    have e89 : Rv h71 a0 14 = v25 := ((fxR F75 e68 rfl).trans ((fxR F60 ta0 rfl).trans e26))
    have e90 : Rv h71 a0 13 = v29 := ((fxR F75 e68 rfl).trans ((fxR F60 ta0 rfl).trans e30))
    have e91 : Rv h71 a0 6 = v32 := ((fxR F75 e68 rfl).trans ((fxR F60 ta0 rfl).trans e33))
    obtain ⟨v92, e93⟩ : ∃ z, Rv h71 a0 7 = z := ⟨_, rfl⟩
    have t94 := ok_R O74 e82 rE_11_7 e93
    have p105 := p77
    unfold XInv at p105
    rw [e83, e84, e85, e86, e87, e88, p78, e89, e90, e91, e93] at p105
    obtain ⟨p95, p96, p97, p98, p99, p100, p101, p102, p103, p104⟩ := p105
    have e106 : Tg h56 v29 = 7 := (fxT F60 t31)
    obtain ⟨v107, e108⟩ : ∃ z, Iv h71 v29 3 = z := ⟨_, rfl⟩
    have e109 : Tg h71 v29 = 7 := (fxT F75 e106)
    have f110 := ok_I O74 e109 rI_7_3 e108
    obtain ⟨v111, e112⟩ : ∃ z, Iv h71 v29 4 = z := ⟨_, rfl⟩
    have f113 := ok_I O74 e109 rI_7_4 e112
    rw [e108] at p101
    rw [e112] at p102
    have p114 := p98 (by omega)
    refine g_if_ne C (iw f76 (by decide) (by decide)) 17 (by decide) dX11_stale_12 (fun q115 => ?_) (fun q116 => ?_)
    · have f117 : (1 : Int) ≤ r70 ∧ r70 ≤ (1 : Int) := r_nl f76 q115
      refine g_iconst C dX11_stale_17 ?_
      refine g_istore_n C [(2, .inl 0), (0, .inr (.inr a0)), (1, .inl a1)] rfl (by decide) rfl dX11_stale_18 ?_
      refine g_iconst C dX11_stale_19 ?_
      refine g_istore_n C [(3, .inl 0), (2, .inl 0), (0, .inr (.inr a0)), (1, .inl a1)] rfl (by decide) rfl dX11_stale_20 ?_
      refine GW.sub [2, 3, 1, 0] rfl ?_
      -- loop at 21
      have L121 : ∀ (μ : Nat) (x118 : Int) (x119 : Int) (h120 : Hp), (96 - x119).toNat = μ → Okh h120 → Fx [] h71 h120 → ((-2147483648 : Int) ≤ x118 ∧ x118 ≤ (2147483647 : Int)) → ((0 : Int) ≤ x119 ∧ x119 ≤ (96 : Int)) → GW p l e (rmm 11 300 48 3216) s m (List.map toV [.inr (.inr a0), .inl a1]).toArray below meth c D cy z0 5 (MQ below (QI D cy z0 (fun v h1 => Okh h1 ∧ Fx wr_k_X11_stale h h1 ∧ ((-2147483648) ≤ v ∧ v ≤ 2147483647) ∧ (XInv h1 a0))) (List.map toV [.inr (.inr a0), .inl a1]).toArray s 48 3216 (Aof z0)) 21 [(0, .inr (.inr a0)), (1, .inl a1), (2, .inl x118), (3, .inl x119)] [] h120 48 3216 := by
        intro μ
        induction μ using Nat.strongRecOn with
        | ind μ ih122 =>
          intro x118 x119 h120 hm123 O124 F125 f126 f127
          refine g_iload_n C rfl 3 rfl dX11_stale_21 ?_
          refine g_bipush C (by decide) dX11_stale_22 ?_
          refine g_icmp_ge C (iw f127 (by decide) (by decide)) (iw (il 96) (by decide) (by decide)) 66 (by decide) dX11_stale_24 (fun q128 => ?_) (fun q129 => ?_)
          · have f130 : (96 : Int) ≤ x119 ∧ x119 ≤ (96 : Int) := r_ge f127 (il 96) q128 (by decide) (by decide)
            refine g_iload_n C rfl 2 rfl dX11_stale_66 ?_
            have p131 := (XInv_fx O74 F125 e82 rfl p77)
            exact g_iret C hr rfl f126 ⟨O124, ((((Fx.rf (wr := wr_k_X11_stale)).call F60 rfl).call F75 rfl).call F125 rfl), f126, p131⟩ (by decide) (by decide) dX11_stale_67
          · have f132 : (0 : Int) ≤ x119 ∧ x119 ≤ (95 : Int) := r_lt f127 (il 96) q129 (by decide) (by decide)
            refine g_aload_n C rfl 0 rfl dX11_stale_27 ?_
            have e133 : Tg h120 a0 = 11 := (fxT F125 e82)
            have e134 : Rv h120 a0 11 = v15 := ((fxR F125 e82 rfl).trans e87)
            refine gf_R C fk_LandSurvey_55 rfl e133 e134 dX11_stale_28 ?_
            refine g_iload_n C rfl 1 rfl dX11_stale_31 ?_
            have e135 : Tg h120 v15 = 48106 := (fxT F125 (fxT F75 (fxT F60 t17)))
            have e136 : Tg h56 v15 = 48106 := (fxT F60 t17)
            have e137 : Tg h71 v15 = 48106 := (fxT F75 e136)
            have e138 : Ln h120 v15 = 10 := ((fxL F125 e137).trans ((fxL F75 e136).trans ((fxL F60 t17).trans l18)))
            obtain ⟨v139, e140⟩ : ∃ z, Rv h120 v15 a1.toNat = z := ⟨_, rfl⟩
            refine g_aald (t := 6) C e135 rfl (by decide) rfl e138 (by omega) e140 dX11_stale_32 ?_
            have p141 := (NN_fx F125 e137 ar_48106 rfl p97)
            have q142 := nn_get p141 (by omega) e140
            have t143 := ok_Na O124 e135 ar_48106 rE_48106_0 e140 q142
            obtain ⟨v144, e145⟩ : ∃ z, Rv h120 v139 0 = z := ⟨_, rfl⟩
            have t146 := ok_R O124 t143 rE_8_0 e145
            have l147 := ok_L O124 t143 rE_8_0 e145
            refine gf_R C fk_LandSurvey_309 rfl t143 e145 dX11_stale_33 ?_
            refine g_iload_n C rfl 3 rfl dX11_stale_36 ?_
            obtain ⟨v148, e149⟩ : ∃ z, Iv h120 v144 x119.toNat = z := ⟨_, rfl⟩
            have f150 := ok_Ia O124 t146 ar_44100 rI_44100_0 e149
            refine g_iald C t146 rfl l147 (ix f132 (by decide) (by decide)) e149 dX11_stale_37 ?_
            refine g_istore C [(4, .inl v148), (0, .inr (.inr a0)), (1, .inl a1), (2, .inl x118), (3, .inl x119)] (by decide) rfl dX11_stale_38 ?_
            refine g_iload C 0 rfl dX11_stale_40 ?_
            refine g_iconst C dX11_stale_42 ?_
            refine g_icmp_eq C f150 (iw (il (-1)) (by decide) (by decide)) 60 (by decide) dX11_stale_43 (fun q151 => ?_) (fun q152 => ?_)
            · have f153 : (-1 : Int) ≤ v148 ∧ v148 ≤ (-1 : Int) := ii f150 (r_eq (il (-1)) q151) (by decide) (by decide)
              have f154 : (1 : Int) ≤ (x119 + 1) ∧ (x119 + 1) ≤ (96 : Int) := ia_add f132 (il 1) (by decide) (by decide)
              refine g_iinc C [(3, .inl (x119 + 1)), (4, .inl v148), (0, .inr (.inr a0)), (1, .inl a1), (2, .inl x118)] 4 rfl (by decide) rfl dX11_stale_60 ?_
              refine g_goto C 21 (by decide) dX11_stale_63 ?_
              refine GW.sub [2, 3, 4, 0] rfl ?_
              exact ih122 _ (by omega) x118 (x119 + 1) h120 rfl O124 F125 f126 (iw f154 (by decide) (by decide))
            · refine g_iload C 0 rfl dX11_stale_46 ?_
              refine g_aload_n C rfl 1 rfl dX11_stale_48 ?_
              refine g_iload_n C rfl 4 rfl dX11_stale_49 ?_
              refine g_iconst C dX11_stale_50 ?_
              have e155 : Iv h120 a0 15 = 1 := ((fxI F125 e82 rfl).trans p78)
              have p156 := (XInv_fx O74 F125 e82 rfl p77)
              refine g_callI (st := [.inl v148]) (gc_V C lk_LandSurvey_256 (k_X11_mayLieByAll l D cy w z0 O124 e133 f132 (iw (il 0) (by decide) (by decide)) e155 p156) e133 rfl rfl rfl ⟨by decide, by decide⟩ (Nat.le_of_ble_eq_true rfl) dX11_stale_51 ⟨(by decide), (by decide)⟩) (fun r157 h158 f160 K159 => ?_)
              obtain ⟨O161, F162, f163⟩ := K159
              refine g_icmp_eq C f150 f163 60 (by decide) dX11_stale_54 (fun q164 => ?_) (fun q165 => ?_)
              · have f166 : (1 : Int) ≤ (x119 + 1) ∧ (x119 + 1) ≤ (96 : Int) := ia_add f132 (il 1) (by decide) (by decide)
                refine g_iinc C [(3, .inl (x119 + 1)), (4, .inl v148), (0, .inr (.inr a0)), (1, .inl a1), (2, .inl x118)] 4 rfl (by decide) rfl dX11_stale_60 ?_
                refine g_goto C 21 (by decide) dX11_stale_63 ?_
                refine GW.sub [2, 3, 4, 0] rfl ?_
                exact ih122 _ (by omega) x118 (x119 + 1) h158 rfl O161 (F125.call F162 rfl) f126 (iw f166 (by decide) (by decide))
              · have f167 : (-2147483648 : Int) ≤ (w32 (x118 + 1)) ∧ (w32 (x118 + 1)) ≤ (2147483647 : Int) := w32_inR _
                refine g_iincW C [(2, .inl (w32 (x118 + 1))), (4, .inl v148), (0, .inr (.inr a0)), (1, .inl a1), (3, .inl x119)] 3 rfl (by decide) rfl dX11_stale_57 ?_
                have f168 : (1 : Int) ≤ (x119 + 1) ∧ (x119 + 1) ≤ (96 : Int) := ia_add f132 (il 1) (by decide) (by decide)
                refine g_iinc C [(3, .inl (x119 + 1)), (2, .inl (w32 (x118 + 1))), (4, .inl v148), (0, .inr (.inr a0)), (1, .inl a1)] 4 rfl (by decide) rfl dX11_stale_60 ?_
                refine g_goto C 21 (by decide) dX11_stale_63 ?_
                refine GW.sub [3, 4, 1, 0] rfl ?_
                exact ih122 _ (by omega) (w32 (x118 + 1)) (x119 + 1) h158 rfl O161 (F125.call F162 rfl) f167 (iw f168 (by decide) (by decide))
      exact L121 _ 0 0 h71 rfl O74 Fx.rf (iw (il 0) (by decide) (by decide)) (iw (il 0) (by decide) (by decide))
    · have f169 : (0 : Int) ≤ r70 ∧ r70 ≤ (0 : Int) := ii f76 (r_eq (il 0) q116) (by decide) (by decide)
      refine g_iconst C dX11_stale_15 ?_
      exact g_iret C hr rfl (iw (il (-1)) (by decide) (by decide)) ⟨O74, (((Fx.rf (wr := wr_k_X11_stale)).call F60 rfl).call F75 rfl), (iw (il (-1)) (by decide) (by decide)), p77⟩ (by decide) (by decide) dX11_stale_16
def wr_k_X11_doubles : List Nat := [401, 1403, 1404, 1405, 1813, 1814, 1815, 1816, 1817, 1818, 2207, 2215, 2216, 200400, 200407, 200408, 2420000, 3020000, 5620000, 7420000, 8020000, 8620000, 8820000, 9020000, 9420000, 9821400, 10020000]
set_option maxRecDepth 100000 in
set_option maxHeartbeats 4000000 in
theorem k_X11_doubles (l : Launch) (D : va_G) (cy : Nat → ClassId) (w : Nat → Nat) (z0 : Nat) {h : Hp} {a0 : Nat} {a1 : Int} {a2 : Int} {a3 : Int}  (O : Okh h) (ta0 : Tg h a0 = 11) (fa1 : (-2147483648) ≤ a1 ∧ a1 ≤ 2147483647) (fa2 : (-2147483648) ≤ a2 ∧ a2 ≤ 2147483647) (fa3 : (-2147483648) ≤ a3 ∧ a3 ≤ 2147483647) (P_XInv : XInv h a0) : MI l D cy w z0 yX11_doubles cX11_doubles 7 (some .int) 5 116 48 3216 [.inr (.inr a0), .inl a1, .inl a2, .inl a3] h (fun v h1 => Okh h1 ∧ Fx wr_k_X11_doubles h h1 ∧ ((-2147483648) ≤ v ∧ v ≤ 2147483647) ∧ (XInv h1 a0)) := by
  obtain ⟨v1, e2⟩ : ∃ z, Rv h a0 3 = z := ⟨_, rfl⟩
  have t3 := ok_R O ta0 rE_11_3 e2
  have l4 := ok_L O ta0 rE_11_3 e2
  obtain ⟨v5, e6⟩ : ∃ z, Iv h a0 4 = z := ⟨_, rfl⟩
  have f7 := ok_I O ta0 rI_11_4 e6
  obtain ⟨v8, e9⟩ : ∃ z, Rv h a0 8 = z := ⟨_, rfl⟩
  have t10 := ok_R O ta0 rE_11_8 e9
  have l11 := ok_L O ta0 rE_11_8 e9
  obtain ⟨v12, e13⟩ : ∃ z, Iv h a0 9 = z := ⟨_, rfl⟩
  have f14 := ok_I O ta0 rI_11_9 e13
  obtain ⟨v15, e16⟩ : ∃ z, Rv h a0 11 = z := ⟨_, rfl⟩
  have t17 := ok_R O ta0 rE_11_11 e16
  have l18 := ok_L O ta0 rE_11_11 e16
  obtain ⟨v19, e20⟩ : ∃ z, Iv h a0 12 = z := ⟨_, rfl⟩
  have f21 := ok_I O ta0 rI_11_12 e20
  obtain ⟨v22, e23⟩ : ∃ z, Iv h a0 15 = z := ⟨_, rfl⟩
  have f24 := ok_I O ta0 rI_11_15 e23
  obtain ⟨v25, e26⟩ : ∃ z, Rv h a0 14 = z := ⟨_, rfl⟩
  have t27 := ok_R O ta0 rE_11_14 e26
  have l28 := ok_L O ta0 rE_11_14 e26
  obtain ⟨v29, e30⟩ : ∃ z, Rv h a0 13 = z := ⟨_, rfl⟩
  have t31 := ok_R O ta0 rE_11_13 e30
  obtain ⟨v32, e33⟩ : ∃ z, Rv h a0 6 = z := ⟨_, rfl⟩
  have t34 := ok_R O ta0 rE_11_6 e33
  obtain ⟨v35, e36⟩ : ∃ z, Rv h a0 7 = z := ⟨_, rfl⟩
  have t37 := ok_R O ta0 rE_11_7 e36
  have p48 := P_XInv
  unfold XInv at p48
  rw [e2, e6, e9, e13, e16, e20, e23, e26, e30, e33, e36] at p48
  obtain ⟨p38, p39, p40, p41, p42, p43, p44, p45, p46, p47⟩ := p48
  obtain ⟨v49, e50⟩ : ∃ z, Iv h v29 3 = z := ⟨_, rfl⟩
  have f51 := ok_I O t31 rI_7_3 e50
  obtain ⟨v52, e53⟩ : ∃ z, Iv h v29 4 = z := ⟨_, rfl⟩
  have f54 := ok_I O t31 rI_7_4 e53
  rw [e50] at p44
  rw [e53] at p45
  refine hm_go (by decide +kernel) (Nat.le_of_ble_eq_true rfl) (fun p e s m below meth c C hr hn => ?_)
  refine g_iload_n C rfl 1 rfl dX11_doubles_0 ?_
  refine g_callI (st := []) (gc_S C lk_LandSurvey_315 (k_X11_isHand l D cy w z0 O fa1) rfl ⟨by decide, by decide⟩ (Nat.le_of_ble_eq_true rfl) dX11_doubles_1 ⟨(by decide), (by decide)⟩) (fun r55 h56 f58 K57 => ?_)
  obtain ⟨O59, F60, f61⟩ := K57
  refine g_if_eq C (iw f61 (by decide) (by decide)) 28 (by decide) dX11_doubles_4 (fun q62 => ?_) (fun q63 => ?_)
  · have f64 : (0 : Int) ≤ r55 ∧ r55 ≤ (0 : Int) := ii f61 (r_eq (il 0) q62) (by decide) (by decide)
    refine g_iconst C dX11_doubles_28 ?_
    have p65 := (XInv_fx O F60 ta0 rfl P_XInv)
    exact g_iret C hr rfl (iw (il (-1)) (by decide) (by decide)) ⟨O59, ((Fx.rf (wr := wr_k_X11_doubles)).call F60 rfl), (iw (il (-1)) (by decide) (by decide)), p65⟩ (by decide) (by decide) dX11_doubles_29
  · have f66 : (1 : Int) ≤ r55 ∧ r55 ≤ (1 : Int) := r_nl f61 q63
    refine g_iload_n C rfl 2 rfl dX11_doubles_7 ?_
    refine g_callI (st := []) (gc_S C lk_LandSurvey_315 (k_X11_isHand l D cy w z0 O59 fa2) rfl ⟨by decide, by decide⟩ (Nat.le_of_ble_eq_true rfl) dX11_doubles_8 ⟨(by decide), (by decide)⟩) (fun r67 h68 f70 K69 => ?_)
    obtain ⟨O71, F72, f73⟩ := K69
    refine g_if_eq C (iw f73 (by decide) (by decide)) 28 (by decide) dX11_doubles_11 (fun q74 => ?_) (fun q75 => ?_)
    · have f76 : (0 : Int) ≤ r67 ∧ r67 ≤ (0 : Int) := ii f73 (r_eq (il 0) q74) (by decide) (by decide)
      refine g_iconst C dX11_doubles_28 ?_
      have e77 : Tg h56 a0 = 11 := (fxT F60 ta0)
      have p78 := (XInv_fx O59 F72 e77 rfl (XInv_fx O F60 ta0 rfl P_XInv))
      exact g_iret C hr rfl (iw (il (-1)) (by decide) (by decide)) ⟨O71, (((Fx.rf (wr := wr_k_X11_doubles)).call F60 rfl).call F72 rfl), (iw (il (-1)) (by decide) (by decide)), p78⟩ (by decide) (by decide) dX11_doubles_29
    · have f79 : (1 : Int) ≤ r67 ∧ r67 ≤ (1 : Int) := r_nl f73 q75
      refine g_iload_n C rfl 1 rfl dX11_doubles_14 ?_
      refine g_iload_n C rfl 2 rfl dX11_doubles_15 ?_
      refine g_icmp_eq C fa1 fa2 28 (by decide) dX11_doubles_16 (fun q80 => ?_) (fun q81 => ?_)
      · refine g_iconst C dX11_doubles_28 ?_
        have e82 : Tg h56 a0 = 11 := (fxT F60 ta0)
        have p83 := (XInv_fx O59 F72 e82 rfl (XInv_fx O F60 ta0 rfl P_XInv))
        exact g_iret C hr rfl (iw (il (-1)) (by decide) (by decide)) ⟨O71, (((Fx.rf (wr := wr_k_X11_doubles)).call F60 rfl).call F72 rfl), (iw (il (-1)) (by decide) (by decide)), p83⟩ (by decide) (by decide) dX11_doubles_29
      · refine g_iload_n C rfl 3 rfl dX11_doubles_19 ?_
        refine g_if_lt C fa3 28 (by decide) dX11_doubles_20 (fun q84 => ?_) (fun q85 => ?_)
        · have f86 : (-2147483648 : Int) ≤ a3 ∧ a3 ≤ (-1 : Int) := r_lt fa3 (il 0) q84 (by decide) (by decide)
          refine g_iconst C dX11_doubles_28 ?_
          have e87 : Tg h56 a0 = 11 := (fxT F60 ta0)
          have p88 := (XInv_fx O59 F72 e87 rfl (XInv_fx O F60 ta0 rfl P_XInv))
          exact g_iret C hr rfl (iw (il (-1)) (by decide) (by decide)) ⟨O71, (((Fx.rf (wr := wr_k_X11_doubles)).call F60 rfl).call F72 rfl), (iw (il (-1)) (by decide) (by decide)), p88⟩ (by decide) (by decide) dX11_doubles_29
        · have f89 : (0 : Int) ≤ a3 ∧ a3 ≤ (2147483647 : Int) := r_ge fa3 (il 0) q85 (by decide) (by decide)
          refine g_iload_n C rfl 3 rfl dX11_doubles_23 ?_
          refine g_iconst C dX11_doubles_24 ?_
          refine g_icmp_le C (iw f89 (by decide) (by decide)) (iw (il 1) (by decide) (by decide)) 30 (by decide) dX11_doubles_25 (fun q90 => ?_) (fun q91 => ?_)
          · have f92 : (0 : Int) ≤ a3 ∧ a3 ≤ (1 : Int) := r_le f89 (il 1) q90 (by decide) (by decide)
            refine g_aload_n C rfl 0 rfl dX11_doubles_30 ?_
            have e93 : Tg h68 a0 = 11 := (fxT F72 (fxT F60 ta0))
            have e94 : Tg h56 a0 = 11 := (fxT F60 ta0)
            have p95 := (XInv_fx O59 F72 e94 rfl (XInv_fx O F60 ta0 rfl P_XInv))
            refine g_callV (st := []) (gc_V C lk_LandSurvey_169 (k_X11_settle l D cy w z0 O71 e93 p95) e93 rfl rfl rfl ⟨by decide, by decide⟩ (Nat.le_of_ble_eq_true rfl) dX11_doubles_31 ⟨(by decide), (by decide)⟩) (fun h97 K98 => ?_)
            obtain ⟨O100, F101, p102, p103⟩ := K98
            have e104 : Rv h97 a0 3 = v1 := ((fxR F101 e93 rfl).trans ((fxR F72 e94 rfl).trans ((fxR F60 ta0 rfl).trans e2)))
            have e105 : Iv h97 a0 4 = v5 := ((fxI F101 e93 rfl).trans ((fxI F72 e94 rfl).trans ((fxI F60 ta0 rfl).trans e6)))
            have e106 : Rv h97 a0 8 = v8 := ((fxR F101 e93 rfl).trans ((fxR F72 e94 rfl).trans ((fxR F60 ta0 rfl).trans e9)))
            have e107 : Iv h97 a0 9 = v12 := ((fxI F101 e93 rfl).trans ((fxI F72 e94 rfl).trans ((fxI F60 ta0 rfl).trans e13)))
            have e108 : Rv h97 a0 11 = v15 := ((fxR F101 e93 rfl).trans ((fxR F72 e94 rfl).trans ((fxR F60 ta0 rfl).trans e16)))
            have e109 : Iv h97 a0 12 = v19 := ((fxI F101 e93 rfl).trans ((fxI F72 e94 rfl).trans ((fxI F60 ta0 rfl).trans e20)))
            have e110 : Rv h97 a0 14 = v25 := ((fxR F101 e93 rfl).trans ((fxR F72 e94 rfl).trans ((fxR F60 ta0 rfl).trans e26)))
            have e111 : Rv h97 a0 13 = v29 := ((fxR F101 e93 rfl).trans ((fxR F72 e94 rfl).trans ((fxR F60 ta0 rfl).trans e30)))
            have e112 : Rv h97 a0 6 = v32 := ((fxR F101 e93 rfl).trans ((fxR F72 e94 rfl).trans ((fxR F60 ta0 rfl).trans e33)))
            obtain ⟨v113, e114⟩ : ∃ z, Rv h97 a0 7 = z := ⟨_, rfl⟩
            have e115 : Tg h97 a0 = 11 := (fxT F101 e93)
            have t116 := ok_R O100 e115 rE_11_7 e114
            have p127 := p102
            unfold XInv at p127
            rw [e104, e105, e106, e107, e108, e109, p103, e110, e111, e112, e114] at p127
            obtain ⟨p117, p118, p119, p120, p121, p122, p123, p124, p125, p126⟩ := p127
            have e128 : Tg h56 v29 = 7 := (fxT F60 t31)
            have e129 : Tg h68 v29 = 7 := (fxT F72 e128)
            obtain ⟨v130, e131⟩ : ∃ z, Iv h97 v29 3 = z := ⟨_, rfl⟩
            have e132 : Tg h97 v29 = 7 := (fxT F101 e129)
            have f133 := ok_I O100 e132 rI_7_3 e131
            obtain ⟨v134, e135⟩ : ∃ z, Iv h97 v29 4 = z := ⟨_, rfl⟩
            have f136 := ok_I O100 e132 rI_7_4 e135
            rw [e131] at p123
            rw [e135] at p124
            have p137 := p120 (by omega)
            refine g_iconst C dX11_doubles_34 ?_
            refine g_istore C [(4, .inl 0), (0, .inr (.inr a0)), (1, .inl a1), (2, .inl a2), (3, .inl a3)] (by decide) rfl dX11_doubles_35 ?_
            refine g_iconst C dX11_doubles_37 ?_
            refine g_istore C [(5, .inl 0), (4, .inl 0), (0, .inr (.inr a0)), (1, .inl a1), (2, .inl a2), (3, .inl a3)] (by decide) rfl dX11_doubles_38 ?_
            refine GW.sub [2, 3, 4, 5, 1, 0] rfl ?_
            -- loop at 40
            have L141 : ∀ (μ : Nat) (x138 : Int) (x139 : Int) (h140 : Hp), (40 - x139).toNat = μ → Okh h140 → Fx [] h97 h140 → ((-2147483648 : Int) ≤ x138 ∧ x138 ≤ (2147483647 : Int)) → ((0 : Int) ≤ x139 ∧ x139 ≤ (40 : Int)) → GW p l e (rmm 5 116 48 3216) s m (List.map toV [.inr (.inr a0), .inl a1, .inl a2, .inl a3]).toArray below meth c D cy z0 7 (MQ below (QI D cy z0 (fun v h1 => Okh h1 ∧ Fx wr_k_X11_doubles h h1 ∧ ((-2147483648) ≤ v ∧ v ≤ 2147483647) ∧ (XInv h1 a0))) (List.map toV [.inr (.inr a0), .inl a1, .inl a2, .inl a3]).toArray s 48 3216 (Aof z0)) 40 [(0, .inr (.inr a0)), (1, .inl a1), (2, .inl a2), (3, .inl a3), (4, .inl x138), (5, .inl x139)] [] h140 48 3216 := by
              intro μ
              induction μ using Nat.strongRecOn with
              | ind μ ih142 =>
                intro x138 x139 h140 hm143 O144 F145 f146 f147
                refine g_iload C 5 rfl dX11_doubles_40 ?_
                refine g_aload_n C rfl 0 rfl dX11_doubles_42 ?_
                have e148 : Tg h140 a0 = 11 := (fxT F145 e115)
                have e149 : Iv h140 a0 4 = v5 := ((fxI F145 e115 rfl).trans e105)
                refine gf_I C fk_LandSurvey_102 rfl e148 e149 dX11_doubles_43 ?_
                refine g_icmp_ge C (iw f147 (by decide) (by decide)) (iw f7 (by decide) (by decide)) 158 (by decide) dX11_doubles_46 (fun q150 => ?_) (fun q151 => ?_)
                · refine g_iload C 4 rfl dX11_doubles_158 ?_
                  have p152 := (XInv_fx O100 F145 e115 rfl p102)
                  exact g_iret C hr rfl f146 ⟨O144, (((((Fx.rf (wr := wr_k_X11_doubles)).call F60 rfl).call F72 rfl).call F101 rfl).call F145 rfl), f146, p152⟩ (by decide) (by decide) dX11_doubles_160
                · have f153 : (0 : Int) ≤ x139 ∧ x139 ≤ (39 : Int) := r_lt f147 f7 q151 (by decide) (by decide)
                  have f154 : (1 : Int) ≤ v5 ∧ v5 ≤ (40 : Int) := r_gt f7 f147 q151 (by decide) (by decide)
                  refine g_iconst C dX11_doubles_49 ?_
                  refine g_istore C [(6, .inl 0), (0, .inr (.inr a0)), (1, .inl a1), (2, .inl a2), (3, .inl a3), (4, .inl x138), (5, .inl x139)] (by decide) rfl dX11_doubles_50 ?_
                  refine GW.sub [1, 2, 3, 4, 5, 6, 0] rfl ?_
                  -- loop at 52
                  have L158 : ∀ (μ : Nat) (x155 : Int) (x156 : Int) (h157 : Hp), (40 - x156).toNat = μ → Okh h157 → Fx [] h140 h157 → ((-2147483648 : Int) ≤ x155 ∧ x155 ≤ (2147483647 : Int)) → ((0 : Int) ≤ x156 ∧ x156 ≤ (40 : Int)) → GW p l e (rmm 5 116 48 3216) s m (List.map toV [.inr (.inr a0), .inl a1, .inl a2, .inl a3]).toArray below meth c D cy z0 7 (MQ below (QI D cy z0 (fun v h1 => Okh h1 ∧ Fx wr_k_X11_doubles h h1 ∧ ((-2147483648) ≤ v ∧ v ≤ 2147483647) ∧ (XInv h1 a0))) (List.map toV [.inr (.inr a0), .inl a1, .inl a2, .inl a3]).toArray s 48 3216 (Aof z0)) 52 [(0, .inr (.inr a0)), (1, .inl a1), (2, .inl a2), (3, .inl a3), (4, .inl x155), (5, .inl x139), (6, .inl x156)] [] h157 48 3216 := by
                    intro μ
                    induction μ using Nat.strongRecOn with
                    | ind μ ih159 =>
                      intro x155 x156 h157 hm160 O161 F162 f163 f164
                      refine g_iload C 6 rfl dX11_doubles_52 ?_
                      refine g_aload_n C rfl 0 rfl dX11_doubles_54 ?_
                      have e165 : Tg h157 a0 = 11 := (fxT F162 e148)
                      have e166 : Iv h157 a0 4 = v5 := ((fxI F162 e148 rfl).trans e149)
                      refine gf_I C fk_LandSurvey_102 rfl e165 e166 dX11_doubles_55 ?_
                      refine g_icmp_ge C (iw f164 (by decide) (by decide)) (iw f154 (by decide) (by decide)) 152 (by decide) dX11_doubles_58 (fun q167 => ?_) (fun q168 => ?_)
                      · have f169 : (1 : Int) ≤ x156 ∧ x156 ≤ (40 : Int) := r_ge f164 f154 q167 (by decide) (by decide)
                        have f170 : (1 : Int) ≤ (x139 + 1) ∧ (x139 + 1) ≤ (40 : Int) := ia_add f153 (il 1) (by decide) (by decide)
                        refine g_iinc C [(5, .inl (x139 + 1)), (0, .inr (.inr a0)), (1, .inl a1), (2, .inl a2), (3, .inl a3), (4, .inl x155), (6, .inl x156)] 5 rfl (by decide) rfl dX11_doubles_152 ?_
                        refine g_goto C 40 (by decide) dX11_doubles_155 ?_
                        refine GW.sub [1, 2, 3, 4, 5, 0] rfl ?_
                        exact ih142 _ (by omega) x155 (x139 + 1) h157 rfl O161 (F145.call F162 rfl) f163 (iw f170 (by decide) (by decide))
                      · have f171 : (0 : Int) ≤ x156 ∧ x156 ≤ (39 : Int) := r_lt f164 f154 q168 (by decide) (by decide)
                        refine g_aload_n C rfl 0 rfl dX11_doubles_61 ?_
                        have e172 : Rv h157 a0 3 = v1 := ((fxR F162 e148 rfl).trans ((fxR F145 e115 rfl).trans e104))
                        refine gf_R C fk_LandSurvey_22 rfl e165 e172 dX11_doubles_62 ?_
                        refine g_iload C 5 rfl dX11_doubles_65 ?_
                        have e173 : Tg h157 v1 = 38104 := (fxT F162 (fxT F145 (fxT F101 (fxT F72 (fxT F60 t3)))))
                        have e174 : Tg h56 v1 = 38104 := (fxT F60 t3)
                        have e175 : Tg h68 v1 = 38104 := (fxT F72 e174)
                        have e176 : Tg h97 v1 = 38104 := (fxT F101 e175)
                        have e177 : Tg h140 v1 = 38104 := (fxT F145 e176)
                        have e178 : Ln h157 v1 = 40 := ((fxL F162 e177).trans ((fxL F145 e176).trans ((fxL F101 e175).trans ((fxL F72 e174).trans ((fxL F60 t3).trans l4)))))
                        obtain ⟨v179, e180⟩ : ∃ z, Rv h157 v1 x139.toNat = z := ⟨_, rfl⟩
                        refine g_aald (t := 4) C e173 rfl (by decide) rfl e178 (ix f153 (by decide) (by decide)) e180 dX11_doubles_67 ?_
                        have p181 := (SOK_fx O144 F162 e177 rfl rfl rfl (SOK_fx O100 F145 e176 rfl rfl rfl p117))
                        have q182 := nn_get p181.nn (by omega) e180
                        have t183 := ok_Na O161 e173 ar_38104 rE_38104_0 e180 q182
                        obtain ⟨v184, e185⟩ : ∃ z, Iv h157 v179 3 = z := ⟨_, rfl⟩
                        have f186 := ok_I O161 t183 rI_9_3 e185
                        refine gf_I C fk_LandSurvey_318 rfl t183 e185 dX11_doubles_68 ?_
                        refine g_iload_n C rfl 1 rfl dX11_doubles_71 ?_
                        refine g_icmp_ne C (iw f186 (by decide) (by decide)) fa1 146 (by decide) dX11_doubles_72 (fun q187 => ?_) (fun q188 => ?_)
                        · have f189 : (1 : Int) ≤ (x156 + 1) ∧ (x156 + 1) ≤ (40 : Int) := ia_add f171 (il 1) (by decide) (by decide)
                          refine g_iinc C [(6, .inl (x156 + 1)), (0, .inr (.inr a0)), (1, .inl a1), (2, .inl a2), (3, .inl a3), (4, .inl x155), (5, .inl x139)] 6 rfl (by decide) rfl dX11_doubles_146 ?_
                          refine g_goto C 52 (by decide) dX11_doubles_149 ?_
                          refine GW.sub [1, 2, 3, 4, 5, 6, 0] rfl ?_
                          exact ih159 _ (by omega) x155 (x156 + 1) h157 rfl O161 F162 f163 (iw f189 (by decide) (by decide))
                        · have f190 : (0 : Int) ≤ a1 ∧ a1 ≤ (5 : Int) := ii fa1 (r_eq2 f186 q188) (by decide) (by decide)
                          refine g_aload_n C rfl 0 rfl dX11_doubles_75 ?_
                          refine gf_R C fk_LandSurvey_22 rfl e165 e172 dX11_doubles_76 ?_
                          refine g_iload C 6 rfl dX11_doubles_79 ?_
                          obtain ⟨v191, e192⟩ : ∃ z, Rv h157 v1 x156.toNat = z := ⟨_, rfl⟩
                          refine g_aald (t := 4) C e173 rfl (by decide) rfl e178 (ix f171 (by decide) (by decide)) e192 dX11_doubles_81 ?_
                          have q193 := nn_get p181.nn (by omega) e192
                          have t194 := ok_Na O161 e173 ar_38104 rE_38104_0 e192 q193
                          obtain ⟨v195, e196⟩ : ∃ z, Iv h157 v191 3 = z := ⟨_, rfl⟩
                          have f197 := ok_I O161 t194 rI_9_3 e196
                          refine gf_I C fk_LandSurvey_318 rfl t194 e196 dX11_doubles_82 ?_
                          refine g_iload_n C rfl 2 rfl dX11_doubles_85 ?_
                          refine g_icmp_ne C (iw f197 (by decide) (by decide)) fa2 146 (by decide) dX11_doubles_86 (fun q198 => ?_) (fun q199 => ?_)
                          · have f200 : (1 : Int) ≤ (x156 + 1) ∧ (x156 + 1) ≤ (40 : Int) := ia_add f171 (il 1) (by decide) (by decide)
                            refine g_iinc C [(6, .inl (x156 + 1)), (0, .inr (.inr a0)), (1, .inl a1), (2, .inl a2), (3, .inl a3), (4, .inl x155), (5, .inl x139)] 6 rfl (by decide) rfl dX11_doubles_146 ?_
                            refine g_goto C 52 (by decide) dX11_doubles_149 ?_
                            refine GW.sub [1, 2, 3, 4, 5, 6, 0] rfl ?_
                            exact ih159 _ (by omega) x155 (x156 + 1) h157 rfl O161 F162 f163 (iw f200 (by decide) (by decide))
                          · have f201 : (0 : Int) ≤ a2 ∧ a2 ≤ (5 : Int) := ii fa2 (r_eq2 f197 q199) (by decide) (by decide)
                            refine g_aload_n C rfl 0 rfl dX11_doubles_89 ?_
                            refine gf_R C fk_LandSurvey_22 rfl e165 e172 dX11_doubles_90 ?_
                            refine g_iload C 5 rfl dX11_doubles_93 ?_
                            refine g_aald (t := 4) C e173 rfl (by decide) rfl e178 (ix f153 (by decide) (by decide)) e180 dX11_doubles_95 ?_
                            refine g_aload_n C rfl 0 rfl dX11_doubles_96 ?_
                            refine gf_R C fk_LandSurvey_22 rfl e165 e172 dX11_doubles_97 ?_
                            refine g_iload C 6 rfl dX11_doubles_100 ?_
                            refine g_aald (t := 4) C e173 rfl (by decide) rfl e178 (ix f171 (by decide) (by decide)) e192 dX11_doubles_102 ?_
                            refine g_callI (st := []) (gc_S C lk_LandSurvey_321 (k_X11_areDoubles l D cy w z0 O161 t183 t194) rfl ⟨by decide, by decide⟩ (Nat.le_of_ble_eq_true rfl) dX11_doubles_103 ⟨(by decide), (by decide)⟩) (fun r202 h203 f205 K204 => ?_)
                            obtain ⟨O206, F207, f208⟩ := K204
                            refine g_if_eq C (iw f208 (by decide) (by decide)) 146 (by decide) dX11_doubles_106 (fun q209 => ?_) (fun q210 => ?_)
                            · have f211 : (0 : Int) ≤ r202 ∧ r202 ≤ (0 : Int) := ii f208 (r_eq (il 0) q209) (by decide) (by decide)
                              have f212 : (1 : Int) ≤ (x156 + 1) ∧ (x156 + 1) ≤ (40 : Int) := ia_add f171 (il 1) (by decide) (by decide)
                              refine g_iinc C [(6, .inl (x156 + 1)), (0, .inr (.inr a0)), (1, .inl a1), (2, .inl a2), (3, .inl a3), (4, .inl x155), (5, .inl x139)] 6 rfl (by decide) rfl dX11_doubles_146 ?_
                              refine g_goto C 52 (by decide) dX11_doubles_149 ?_
                              refine GW.sub [1, 2, 3, 4, 5, 6, 0] rfl ?_
                              exact ih159 _ (by omega) x155 (x156 + 1) h203 rfl O206 (F162.call F207 rfl) f163 (iw f212 (by decide) (by decide))
                            · have f213 : (1 : Int) ≤ r202 ∧ r202 ≤ (1 : Int) := r_nl f208 q210
                              refine g_iload C 4 rfl dX11_doubles_109 ?_
                              refine g_iload_n C rfl 3 rfl dX11_doubles_111 ?_
                              refine g_if_eq C (iw f92 (by decide) (by decide)) 138 (by decide) dX11_doubles_112 (fun q214 => ?_) (fun q215 => ?_)
                              · have f216 : (0 : Int) ≤ a3 ∧ a3 ≤ (0 : Int) := ii f92 (r_eq (il 0) q214) (by decide) (by decide)
                                refine g_iconst C dX11_doubles_138 ?_
                                refine g_goto C 143 (by decide) dX11_doubles_139 ?_
                                have f217 : (-2147483648 : Int) ≤ (w32 (x155 + 1)) ∧ (w32 (x155 + 1)) ≤ (2147483647 : Int) := w32_inR _
                                refine g_iaddW C dX11_doubles_143 ?_
                                refine g_istore C [(4, .inl (w32 (x155 + 1))), (0, .inr (.inr a0)), (1, .inl a1), (2, .inl a2), (3, .inl a3), (5, .inl x139), (6, .inl x156)] (by decide) rfl dX11_doubles_144 ?_
                                have f218 : (1 : Int) ≤ (x156 + 1) ∧ (x156 + 1) ≤ (40 : Int) := ia_add f171 (il 1) (by decide) (by decide)
                                refine g_iinc C [(6, .inl (x156 + 1)), (4, .inl (w32 (x155 + 1))), (0, .inr (.inr a0)), (1, .inl a1), (2, .inl a2), (3, .inl a3), (5, .inl x139)] 6 rfl (by decide) rfl dX11_doubles_146 ?_
                                refine g_goto C 52 (by decide) dX11_doubles_149 ?_
                                refine GW.sub [2, 3, 4, 5, 1, 6, 0] rfl ?_
                                exact ih159 _ (by omega) (w32 (x155 + 1)) (x156 + 1) h203 rfl O206 (F162.call F207 rfl) f217 (iw f218 (by decide) (by decide))
                              · have f219 : (1 : Int) ≤ a3 ∧ a3 ≤ (1 : Int) := r_nl f92 q215
                                refine g_aload_n C rfl 0 rfl dX11_doubles_115 ?_
                                have e220 : Tg h203 a0 = 11 := (fxT F207 e165)
                                have e221 : Rv h203 a0 3 = v1 := ((fxR F207 e165 rfl).trans e172)
                                refine gf_R C fk_LandSurvey_22 rfl e220 e221 dX11_doubles_116 ?_
                                refine g_iload C 5 rfl dX11_doubles_119 ?_
                                have e222 : Tg h203 v1 = 38104 := (fxT F207 e173)
                                have e223 : Ln h203 v1 = 40 := ((fxL F207 e173).trans e178)
                                have e224 : Rv h203 v1 x139.toNat = v179 := ((fxRa F207 e173 ar_38104 rfl).trans e180)
                                refine g_aald (t := 4) C e222 rfl (by decide) rfl e223 (ix f153 (by decide) (by decide)) e224 dX11_doubles_121 ?_
                                have e225 : Tg h203 v179 = 9 := (fxT F207 t183)
                                obtain ⟨v226, e227⟩ : ∃ z, Iv h203 v179 14 = z := ⟨_, rfl⟩
                                have f228 := ok_I O206 e225 rI_9_14 e227
                                refine gf_I C fk_LandSurvey_175 rfl e225 e227 dX11_doubles_122 ?_
                                refine g_aload_n C rfl 0 rfl dX11_doubles_125 ?_
                                refine gf_R C fk_LandSurvey_22 rfl e220 e221 dX11_doubles_126 ?_
                                refine g_iload C 6 rfl dX11_doubles_129 ?_
                                have e229 : Rv h203 v1 x156.toNat = v191 := ((fxRa F207 e173 ar_38104 rfl).trans e192)
                                refine g_aald (t := 4) C e222 rfl (by decide) rfl e223 (ix f171 (by decide) (by decide)) e229 dX11_doubles_131 ?_
                                have e230 : Tg h203 v191 = 9 := (fxT F207 t194)
                                obtain ⟨v231, e232⟩ : ∃ z, Iv h203 v191 14 = z := ⟨_, rfl⟩
                                have f233 := ok_I O206 e230 rI_9_14 e232
                                refine gf_I C fk_LandSurvey_175 rfl e230 e232 dX11_doubles_132 ?_
                                refine g_icmp_ne C (iw f228 (by decide) (by decide)) (iw f233 (by decide) (by decide)) 142 (by decide) dX11_doubles_135 (fun q234 => ?_) (fun q235 => ?_)
                                · refine g_iconst C dX11_doubles_142 ?_
                                  have f236 : (-2147483648 : Int) ≤ (x155 + 0) ∧ (x155 + 0) ≤ (2147483647 : Int) := ia_add f163 (il 0) (by decide) (by decide)
                                  refine g_iadd C dX11_doubles_143 ?_
                                  refine g_istore C [(4, .inl (x155 + 0)), (0, .inr (.inr a0)), (1, .inl a1), (2, .inl a2), (3, .inl a3), (5, .inl x139), (6, .inl x156)] (by decide) rfl dX11_doubles_144 ?_
                                  have f237 : (1 : Int) ≤ (x156 + 1) ∧ (x156 + 1) ≤ (40 : Int) := ia_add f171 (il 1) (by decide) (by decide)
                                  refine g_iinc C [(6, .inl (x156 + 1)), (4, .inl (x155 + 0)), (0, .inr (.inr a0)), (1, .inl a1), (2, .inl a2), (3, .inl a3), (5, .inl x139)] 6 rfl (by decide) rfl dX11_doubles_146 ?_
                                  refine g_goto C 52 (by decide) dX11_doubles_149 ?_
                                  refine GW.sub [2, 3, 4, 5, 1, 6, 0] rfl ?_
                                  exact ih159 _ (by omega) (x155 + 0) (x156 + 1) h203 rfl O206 (F162.call F207 rfl) f236 (iw f237 (by decide) (by decide))
                                · refine g_iconst C dX11_doubles_138 ?_
                                  refine g_goto C 143 (by decide) dX11_doubles_139 ?_
                                  have f238 : (-2147483648 : Int) ≤ (w32 (x155 + 1)) ∧ (w32 (x155 + 1)) ≤ (2147483647 : Int) := w32_inR _
                                  refine g_iaddW C dX11_doubles_143 ?_
                                  refine g_istore C [(4, .inl (w32 (x155 + 1))), (0, .inr (.inr a0)), (1, .inl a1), (2, .inl a2), (3, .inl a3), (5, .inl x139), (6, .inl x156)] (by decide) rfl dX11_doubles_144 ?_
                                  have f239 : (1 : Int) ≤ (x156 + 1) ∧ (x156 + 1) ≤ (40 : Int) := ia_add f171 (il 1) (by decide) (by decide)
                                  refine g_iinc C [(6, .inl (x156 + 1)), (4, .inl (w32 (x155 + 1))), (0, .inr (.inr a0)), (1, .inl a1), (2, .inl a2), (3, .inl a3), (5, .inl x139)] 6 rfl (by decide) rfl dX11_doubles_146 ?_
                                  refine g_goto C 52 (by decide) dX11_doubles_149 ?_
                                  refine GW.sub [2, 3, 4, 5, 1, 6, 0] rfl ?_
                                  exact ih159 _ (by omega) (w32 (x155 + 1)) (x156 + 1) h203 rfl O206 (F162.call F207 rfl) f238 (iw f239 (by decide) (by decide))
                  exact L158 _ x138 0 h140 rfl O144 Fx.rf f146 (iw (il 0) (by decide) (by decide))
            exact L141 _ 0 0 h97 rfl O100 Fx.rf (iw (il 0) (by decide) (by decide)) (iw (il 0) (by decide) (by decide))
          · have f240 : (2 : Int) ≤ a3 ∧ a3 ≤ (2147483647 : Int) := r_gt f89 (il 1) q91 (by decide) (by decide)
            refine g_iconst C dX11_doubles_28 ?_
            have e241 : Tg h56 a0 = 11 := (fxT F60 ta0)
            have p242 := (XInv_fx O59 F72 e241 rfl (XInv_fx O F60 ta0 rfl P_XInv))
            exact g_iret C hr rfl (iw (il (-1)) (by decide) (by decide)) ⟨O71, (((Fx.rf (wr := wr_k_X11_doubles)).call F60 rfl).call F72 rfl), (iw (il (-1)) (by decide) (by decide)), p242⟩ (by decide) (by decide) dX11_doubles_29
def wr_k_X11_question : List Nat := [605, 3220200]
set_option maxRecDepth 100000 in
set_option maxHeartbeats 4000000 in
theorem k_X11_question (l : Launch) (D : va_G) (cy : Nat → ClassId) (w : Nat → Nat) (z0 : Nat) {h : Hp} {a0 : Nat} {a1 : Int} {a2 : Int} {a3 : Int}  (O : Okh h) (ta0 : Tg h a0 = 11) (fa1 : (-2147483648) ≤ a1 ∧ a1 ≤ 2147483647) (fa2 : (-2147483648) ≤ a2 ∧ a2 ≤ 2147483647) (fa3 : 0 ≤ a3 ∧ a3 ≤ 1) (P_XInv : XInv h a0) : MI l D cy w z0 yX11_question cX11_question 5 (some .boolean) 1 21 0 0 [.inr (.inr a0), .inl a1, .inl a2, .inl a3] h (fun v h1 => Okh h1 ∧ Fx wr_k_X11_question h h1 ∧ (0 ≤ v ∧ v ≤ 1) ∧ (XInv h1 a0)) := by
  obtain ⟨v1, e2⟩ : ∃ z, Rv h a0 3 = z := ⟨_, rfl⟩
  have t3 := ok_R O ta0 rE_11_3 e2
  have l4 := ok_L O ta0 rE_11_3 e2
  obtain ⟨v5, e6⟩ : ∃ z, Iv h a0 4 = z := ⟨_, rfl⟩
  have f7 := ok_I O ta0 rI_11_4 e6
  obtain ⟨v8, e9⟩ : ∃ z, Rv h a0 8 = z := ⟨_, rfl⟩
  have t10 := ok_R O ta0 rE_11_8 e9
  have l11 := ok_L O ta0 rE_11_8 e9
  obtain ⟨v12, e13⟩ : ∃ z, Iv h a0 9 = z := ⟨_, rfl⟩
  have f14 := ok_I O ta0 rI_11_9 e13
  obtain ⟨v15, e16⟩ : ∃ z, Rv h a0 11 = z := ⟨_, rfl⟩
  have t17 := ok_R O ta0 rE_11_11 e16
  have l18 := ok_L O ta0 rE_11_11 e16
  obtain ⟨v19, e20⟩ : ∃ z, Iv h a0 12 = z := ⟨_, rfl⟩
  have f21 := ok_I O ta0 rI_11_12 e20
  obtain ⟨v22, e23⟩ : ∃ z, Iv h a0 15 = z := ⟨_, rfl⟩
  have f24 := ok_I O ta0 rI_11_15 e23
  obtain ⟨v25, e26⟩ : ∃ z, Rv h a0 14 = z := ⟨_, rfl⟩
  have t27 := ok_R O ta0 rE_11_14 e26
  have l28 := ok_L O ta0 rE_11_14 e26
  obtain ⟨v29, e30⟩ : ∃ z, Rv h a0 13 = z := ⟨_, rfl⟩
  have t31 := ok_R O ta0 rE_11_13 e30
  obtain ⟨v32, e33⟩ : ∃ z, Rv h a0 6 = z := ⟨_, rfl⟩
  have t34 := ok_R O ta0 rE_11_6 e33
  obtain ⟨v35, e36⟩ : ∃ z, Rv h a0 7 = z := ⟨_, rfl⟩
  have t37 := ok_R O ta0 rE_11_7 e36
  have p48 := P_XInv
  unfold XInv at p48
  rw [e2, e6, e9, e13, e16, e20, e23, e26, e30, e33, e36] at p48
  obtain ⟨p38, p39, p40, p41, p42, p43, p44, p45, p46, p47⟩ := p48
  obtain ⟨v49, e50⟩ : ∃ z, Iv h v29 3 = z := ⟨_, rfl⟩
  have f51 := ok_I O t31 rI_7_3 e50
  obtain ⟨v52, e53⟩ : ∃ z, Iv h v29 4 = z := ⟨_, rfl⟩
  have f54 := ok_I O t31 rI_7_4 e53
  rw [e50] at p44
  rw [e53] at p45
  refine hm_go (by decide +kernel) (Nat.le_of_ble_eq_true rfl) (fun p e s m below meth c C hr hn => ?_)
  refine g_iload_n C rfl 1 rfl dX11_question_0 ?_
  refine g_iload_n C rfl 2 rfl dX11_question_1 ?_
  refine g_callI (st := []) (gc_S C lk_LandSurvey_85 (k_X11_cellAt l D cy w z0 O fa1 fa2) rfl ⟨by decide, by decide⟩ (Nat.le_of_ble_eq_true rfl) dX11_question_2 ⟨(by decide), (by decide)⟩) (fun r55 h56 f58 K57 => ?_)
  obtain ⟨O59, F60, f61, p62⟩ := K57
  refine g_istore C [(4, .inl r55), (0, .inr (.inr a0)), (1, .inl a1), (2, .inl a2), (3, .inl a3)] (by decide) rfl dX11_question_5 ?_
  refine g_iload C 0 rfl dX11_question_7 ?_
  refine g_iconst C dX11_question_9 ?_
  refine g_icmp_ne C (iw f61 (by decide) (by decide)) (iw (il (-1)) (by decide) (by decide)) 15 (by decide) dX11_question_10 (fun q63 => ?_) (fun q64 => ?_)
  · have f65 : (0 : Int) ≤ r55 ∧ r55 ≤ (95 : Int) := r_nl f61 q63
    refine g_aload_n C rfl 1 rfl dX11_question_15 ?_
    have e66 : Tg h56 a0 = 11 := (fxT F60 ta0)
    obtain ⟨v67, e68⟩ : ∃ z, Rv h56 a0 2 = z := ⟨_, rfl⟩
    have t69 := ok_R O59 e66 rE_11_2 e68
    refine gf_R C fk_LandSurvey_16 rfl e66 e68 dX11_question_16 ?_
    obtain ⟨v70, e71⟩ : ∃ z, Rv h56 v67 4 = z := ⟨_, rfl⟩
    have t72 := ok_R O59 t69 rE_3_4 e71
    have l73 := ok_L O59 t69 rE_3_4 e71
    refine gf_R C fk_LandSurvey_331 rfl t69 e71 dX11_question_19 ?_
    refine g_iload C 0 rfl dX11_question_22 ?_
    obtain ⟨v74, e75⟩ : ∃ z, Iv h56 v70 r55.toNat = z := ⟨_, rfl⟩
    have f76 := ok_Ia O59 t72 ar_16101 rI_16101_0 e75
    refine g_zald C t72 rfl l73 (ix f65 (by decide) (by decide)) e75 dX11_question_24 ?_
    refine g_iload_n C rfl 4 rfl dX11_question_25 ?_
    refine g_icmp_ne C (iw f76 (by decide) (by decide)) (iw fa3 (by decide) (by decide)) 31 (by decide) dX11_question_26 (fun q77 => ?_) (fun q78 => ?_)
    · refine g_iload_n C rfl 4 rfl dX11_question_31 ?_
      refine g_if_eq C (iw fa3 (by decide) (by decide)) 49 (by decide) dX11_question_32 (fun q79 => ?_) (fun q80 => ?_)
      · have f81 : (0 : Int) ≤ a3 ∧ a3 ≤ (0 : Int) := ii fa3 (r_eq (il 0) q79) (by decide) (by decide)
        refine g_aload_n C rfl 1 rfl dX11_question_49 ?_
        refine gf_R C fk_LandSurvey_16 rfl e66 e68 dX11_question_50 ?_
        refine gf_R C fk_LandSurvey_331 rfl t69 e71 dX11_question_53 ?_
        refine g_iload C 0 rfl dX11_question_56 ?_
        refine g_iload_n C rfl 4 rfl dX11_question_58 ?_
        refine g_zast C t72 rfl l73 (ix f65 (by decide) (by decide)) (iw f81 (by decide) (by decide)) dX11_question_59 (fun h83 hh82 => ?_)
        have O84 := O59.pIa t72 ar_16101 hh82 rI_16101_0 (iw f81 (by decide) (by decide)) nofun
        refine g_aload_n C rfl 1 rfl dX11_question_60 ?_
        have e85 : Tg h83 a0 = 11 := ((pIT hh82).trans e66)
        have e86 : Rv h83 a0 2 = v67 := ((pIR hh82).trans e68)
        refine gf_R C fk_LandSurvey_16 rfl e85 e86 dX11_question_61 ?_
        refine g_dup C rfl dX11_question_64 ?_
        have e87 : Tg h83 v67 = 3 := ((pIT hh82).trans t69)
        obtain ⟨v88, e89⟩ : ∃ z, Iv h83 v67 5 = z := ⟨_, rfl⟩
        have f90 := ok_I O84 e87 rI_3_5 e89
        refine gf_I C fk_LandSurvey_334 rfl e87 e89 dX11_question_65 ?_
        refine g_iload_n C rfl 4 rfl dX11_question_68 ?_
        refine g_if_eq C (iw f81 (by decide) (by decide)) 76 (by decide) dX11_question_69 (fun q91 => ?_) (fun q92 => ?_)
        · refine g_iconst C dX11_question_76 ?_
          have f93 : (-2147483648 : Int) ≤ (w32 (v88 + (-1))) ∧ (w32 (v88 + (-1))) ≤ (2147483647 : Int) := w32_inR _
          refine g_iaddW C dX11_question_77 ?_
          refine gp_I C fk_LandSurvey_334 pk_LandSurvey_Land_5 rfl e87 f93 (nf_i _) dX11_question_78 (fun h95 hh94 => ?_)
          have O96 := O84.pI e87 hh94 rI_3_5 f93 nofun
          refine g_iconst C dX11_question_81 ?_
          have p97 := (XInv_fx O84 ((Fx.rf (wr := [605]) (h := h83)).pI e87 hh94 rfl) e85 rfl (XInv_fx O59 ((Fx.rf (wr := [3220200]) (h := h56)).pIa t72 ar_16101 hh82 rfl) e66 rfl (XInv_fx O F60 ta0 rfl P_XInv)))
          exact g_iret C hr (nar_z2 (iw (il 1) (by decide) (by decide))).1 (iw (il 1) (by decide) (by decide)) ⟨O96, ((((Fx.rf (wr := wr_k_X11_question)).call F60 rfl).pIa t72 ar_16101 hh82 rfl).pI e87 hh94 rfl), (iw (il 1) (by decide) (by decide)), p97⟩ (by decide) (by decide) dX11_question_82
        · exact (no_ne f81 (il 0) q92 (by decide)).elim
      · have f98 : (1 : Int) ≤ a3 ∧ a3 ≤ (1 : Int) := r_nl fa3 q80
        refine g_aload_n C rfl 1 rfl dX11_question_35 ?_
        refine gf_R C fk_LandSurvey_16 rfl e66 e68 dX11_question_36 ?_
        obtain ⟨v99, e100⟩ : ∃ z, Iv h56 v67 5 = z := ⟨_, rfl⟩
        have f101 := ok_I O59 t69 rI_3_5 e100
        refine gf_I C fk_LandSurvey_334 rfl t69 e100 dX11_question_39 ?_
        refine g_bipush C (by decide) dX11_question_42 ?_
        refine g_icmp_lt C f101 (iw (il 8) (by decide) (by decide)) 49 (by decide) dX11_question_44 (fun q102 => ?_) (fun q103 => ?_)
        · have f104 : (-2147483648 : Int) ≤ v99 ∧ v99 ≤ (7 : Int) := r_lt f101 (il 8) q102 (by decide) (by decide)
          refine g_aload_n C rfl 1 rfl dX11_question_49 ?_
          refine gf_R C fk_LandSurvey_16 rfl e66 e68 dX11_question_50 ?_
          refine gf_R C fk_LandSurvey_331 rfl t69 e71 dX11_question_53 ?_
          refine g_iload C 0 rfl dX11_question_56 ?_
          refine g_iload_n C rfl 4 rfl dX11_question_58 ?_
          refine g_zast C t72 rfl l73 (ix f65 (by decide) (by decide)) (iw f98 (by decide) (by decide)) dX11_question_59 (fun h106 hh105 => ?_)
          have O107 := O59.pIa t72 ar_16101 hh105 rI_16101_0 (iw f98 (by decide) (by decide)) nofun
          refine g_aload_n C rfl 1 rfl dX11_question_60 ?_
          have e108 : Tg h106 a0 = 11 := ((pIT hh105).trans e66)
          have e109 : Rv h106 a0 2 = v67 := ((pIR hh105).trans e68)
          refine gf_R C fk_LandSurvey_16 rfl e108 e109 dX11_question_61 ?_
          refine g_dup C rfl dX11_question_64 ?_
          have e110 : Tg h106 v67 = 3 := ((pIT hh105).trans t69)
          have e111 : Iv h106 v67 5 = v99 := ((pI_n hh105 (ne_tag t69 t72 (by decide))).trans e100)
          refine gf_I C fk_LandSurvey_334 rfl e110 e111 dX11_question_65 ?_
          refine g_iload_n C rfl 4 rfl dX11_question_68 ?_
          refine g_if_eq C (iw f98 (by decide) (by decide)) 76 (by decide) dX11_question_69 (fun q112 => ?_) (fun q113 => ?_)
          · exact (no_eq f98 (il 0) q112 (by decide)).elim
          · refine g_iconst C dX11_question_72 ?_
            refine g_goto C 77 (by decide) dX11_question_73 ?_
            have f114 : (-2147483647 : Int) ≤ (v99 + 1) ∧ (v99 + 1) ≤ (8 : Int) := ia_add f104 (il 1) (by decide) (by decide)
            refine g_iadd C dX11_question_77 ?_
            refine gp_I C fk_LandSurvey_334 pk_LandSurvey_Land_5 rfl e110 (iw f114 (by decide) (by decide)) (nf_i _) dX11_question_78 (fun h116 hh115 => ?_)
            have O117 := O107.pI e110 hh115 rI_3_5 (iw f114 (by decide) (by decide)) nofun
            refine g_iconst C dX11_question_81 ?_
            have p118 := (XInv_fx O107 ((Fx.rf (wr := [605]) (h := h106)).pI e110 hh115 rfl) e108 rfl (XInv_fx O59 ((Fx.rf (wr := [3220200]) (h := h56)).pIa t72 ar_16101 hh105 rfl) e66 rfl (XInv_fx O F60 ta0 rfl P_XInv)))
            exact g_iret C hr (nar_z2 (iw (il 1) (by decide) (by decide))).1 (iw (il 1) (by decide) (by decide)) ⟨O117, ((((Fx.rf (wr := wr_k_X11_question)).call F60 rfl).pIa t72 ar_16101 hh105 rfl).pI e110 hh115 rfl), (iw (il 1) (by decide) (by decide)), p118⟩ (by decide) (by decide) dX11_question_82
        · have f119 : (8 : Int) ≤ v99 ∧ v99 ≤ (2147483647 : Int) := r_ge f101 (il 8) q103 (by decide) (by decide)
          refine g_iconst C dX11_question_47 ?_
          have p120 := (XInv_fx O F60 ta0 rfl P_XInv)
          exact g_iret C hr (nar_z2 (iw (il 0) (by decide) (by decide))).1 (iw (il 0) (by decide) (by decide)) ⟨O59, ((Fx.rf (wr := wr_k_X11_question)).call F60 rfl), (iw (il 0) (by decide) (by decide)), p120⟩ (by decide) (by decide) dX11_question_48
    · refine g_iconst C dX11_question_29 ?_
      have p121 := (XInv_fx O F60 ta0 rfl P_XInv)
      exact g_iret C hr (nar_z2 (iw (il 1) (by decide) (by decide))).1 (iw (il 1) (by decide) (by decide)) ⟨O59, ((Fx.rf (wr := wr_k_X11_question)).call F60 rfl), (iw (il 1) (by decide) (by decide)), p121⟩ (by decide) (by decide) dX11_question_30
  · have f122 : (-1 : Int) ≤ r55 ∧ r55 ≤ (-1 : Int) := ii f61 (r_eq (il (-1)) q64) (by decide) (by decide)
    refine g_iconst C dX11_question_13 ?_
    have p123 := (XInv_fx O F60 ta0 rfl P_XInv)
    exact g_iret C hr (nar_z2 (iw (il 0) (by decide) (by decide))).1 (iw (il 0) (by decide) (by decide)) ⟨O59, ((Fx.rf (wr := wr_k_X11_question)).call F60 rfl), (iw (il 0) (by decide) (by decide)), p123⟩ (by decide) (by decide) dX11_question_14
def wr_k_X11_place : List Nat := [608, 3420000, 3620000]
set_option maxRecDepth 100000 in
set_option maxHeartbeats 4000000 in
theorem k_X11_place (l : Launch) (D : va_G) (cy : Nat → ClassId) (w : Nat → Nat) (z0 : Nat) {h : Hp} {a0 : Nat} {a1 : Int} {a2 : Int} {a3 : Int}  (O : Okh h) (ta0 : Tg h a0 = 11) (fa1 : (-2147483648) ≤ a1 ∧ a1 ≤ 2147483647) (fa2 : (-2147483648) ≤ a2 ∧ a2 ≤ 2147483647) (fa3 : (-2147483648) ≤ a3 ∧ a3 ≤ 2147483647) (P_XInv : XInv h a0) : MI l D cy w z0 yX11_place cX11_place 5 (some .int) 1 21 0 0 [.inr (.inr a0), .inl a1, .inl a2, .inl a3] h (fun v h1 => Okh h1 ∧ Fx wr_k_X11_place h h1 ∧ ((-2147483648) ≤ v ∧ v ≤ 2147483647) ∧ (XInv h1 a0)) := by
  obtain ⟨v1, e2⟩ : ∃ z, Rv h a0 3 = z := ⟨_, rfl⟩
  have t3 := ok_R O ta0 rE_11_3 e2
  have l4 := ok_L O ta0 rE_11_3 e2
  obtain ⟨v5, e6⟩ : ∃ z, Iv h a0 4 = z := ⟨_, rfl⟩
  have f7 := ok_I O ta0 rI_11_4 e6
  obtain ⟨v8, e9⟩ : ∃ z, Rv h a0 8 = z := ⟨_, rfl⟩
  have t10 := ok_R O ta0 rE_11_8 e9
  have l11 := ok_L O ta0 rE_11_8 e9
  obtain ⟨v12, e13⟩ : ∃ z, Iv h a0 9 = z := ⟨_, rfl⟩
  have f14 := ok_I O ta0 rI_11_9 e13
  obtain ⟨v15, e16⟩ : ∃ z, Rv h a0 11 = z := ⟨_, rfl⟩
  have t17 := ok_R O ta0 rE_11_11 e16
  have l18 := ok_L O ta0 rE_11_11 e16
  obtain ⟨v19, e20⟩ : ∃ z, Iv h a0 12 = z := ⟨_, rfl⟩
  have f21 := ok_I O ta0 rI_11_12 e20
  obtain ⟨v22, e23⟩ : ∃ z, Iv h a0 15 = z := ⟨_, rfl⟩
  have f24 := ok_I O ta0 rI_11_15 e23
  obtain ⟨v25, e26⟩ : ∃ z, Rv h a0 14 = z := ⟨_, rfl⟩
  have t27 := ok_R O ta0 rE_11_14 e26
  have l28 := ok_L O ta0 rE_11_14 e26
  obtain ⟨v29, e30⟩ : ∃ z, Rv h a0 13 = z := ⟨_, rfl⟩
  have t31 := ok_R O ta0 rE_11_13 e30
  obtain ⟨v32, e33⟩ : ∃ z, Rv h a0 6 = z := ⟨_, rfl⟩
  have t34 := ok_R O ta0 rE_11_6 e33
  obtain ⟨v35, e36⟩ : ∃ z, Rv h a0 7 = z := ⟨_, rfl⟩
  have t37 := ok_R O ta0 rE_11_7 e36
  have p48 := P_XInv
  unfold XInv at p48
  rw [e2, e6, e9, e13, e16, e20, e23, e26, e30, e33, e36] at p48
  obtain ⟨p38, p39, p40, p41, p42, p43, p44, p45, p46, p47⟩ := p48
  obtain ⟨v49, e50⟩ : ∃ z, Iv h v29 3 = z := ⟨_, rfl⟩
  have f51 := ok_I O t31 rI_7_3 e50
  obtain ⟨v52, e53⟩ : ∃ z, Iv h v29 4 = z := ⟨_, rfl⟩
  have f54 := ok_I O t31 rI_7_4 e53
  rw [e50] at p44
  rw [e53] at p45
  refine hm_go (by decide +kernel) (Nat.le_of_ble_eq_true rfl) (fun p e s m below meth c C hr hn => ?_)
  refine g_iload_n C rfl 1 rfl dX11_place_0 ?_
  refine g_iload_n C rfl 2 rfl dX11_place_1 ?_
  refine g_callI (st := []) (gc_S C lk_LandSurvey_85 (k_X11_cellAt l D cy w z0 O fa1 fa2) rfl ⟨by decide, by decide⟩ (Nat.le_of_ble_eq_true rfl) dX11_place_2 ⟨(by decide), (by decide)⟩) (fun r55 h56 f58 K57 => ?_)
  obtain ⟨O59, F60, f61, p62⟩ := K57
  refine g_istore C [(4, .inl r55), (0, .inr (.inr a0)), (1, .inl a1), (2, .inl a2), (3, .inl a3)] (by decide) rfl dX11_place_5 ?_
  refine g_iload C 0 rfl dX11_place_7 ?_
  refine g_iconst C dX11_place_9 ?_
  refine g_icmp_eq C (iw f61 (by decide) (by decide)) (iw (il (-1)) (by decide) (by decide)) 36 (by decide) dX11_place_10 (fun q63 => ?_) (fun q64 => ?_)
  · have f65 : (-1 : Int) ≤ r55 ∧ r55 ≤ (-1 : Int) := ii f61 (r_eq (il (-1)) q63) (by decide) (by decide)
    refine g_iconst C dX11_place_36 ?_
    have p66 := (XInv_fx O F60 ta0 rfl P_XInv)
    exact g_iret C hr rfl (iw (il (-1)) (by decide) (by decide)) ⟨O59, ((Fx.rf (wr := wr_k_X11_place)).call F60 rfl), (iw (il (-1)) (by decide) (by decide)), p66⟩ (by decide) (by decide) dX11_place_37
  · have f67 : (0 : Int) ≤ r55 ∧ r55 ≤ (95 : Int) := r_nl f61 q64
    refine g_iload_n C rfl 4 rfl dX11_place_13 ?_
    refine g_iconst C dX11_place_14 ?_
    refine g_icmp_lt C fa3 (iw (il 1) (by decide) (by decide)) 36 (by decide) dX11_place_15 (fun q68 => ?_) (fun q69 => ?_)
    · have f70 : (-2147483648 : Int) ≤ a3 ∧ a3 ≤ (0 : Int) := r_lt fa3 (il 1) q68 (by decide) (by decide)
      refine g_iconst C dX11_place_36 ?_
      have p71 := (XInv_fx O F60 ta0 rfl P_XInv)
      exact g_iret C hr rfl (iw (il (-1)) (by decide) (by decide)) ⟨O59, ((Fx.rf (wr := wr_k_X11_place)).call F60 rfl), (iw (il (-1)) (by decide) (by decide)), p71⟩ (by decide) (by decide) dX11_place_37
    · have f72 : (1 : Int) ≤ a3 ∧ a3 ≤ (2147483647 : Int) := r_ge fa3 (il 1) q69 (by decide) (by decide)
      refine g_iload_n C rfl 4 rfl dX11_place_18 ?_
      refine g_bipush C (by decide) dX11_place_19 ?_
      refine g_icmp_gt C (iw f72 (by decide) (by decide)) (iw (il 99) (by decide) (by decide)) 36 (by decide) dX11_place_21 (fun q73 => ?_) (fun q74 => ?_)
      · have f75 : (100 : Int) ≤ a3 ∧ a3 ≤ (2147483647 : Int) := r_gt f72 (il 99) q73 (by decide) (by decide)
        refine g_iconst C dX11_place_36 ?_
        have p76 := (XInv_fx O F60 ta0 rfl P_XInv)
        exact g_iret C hr rfl (iw (il (-1)) (by decide) (by decide)) ⟨O59, ((Fx.rf (wr := wr_k_X11_place)).call F60 rfl), (iw (il (-1)) (by decide) (by decide)), p76⟩ (by decide) (by decide) dX11_place_37
      · have f77 : (1 : Int) ≤ a3 ∧ a3 ≤ (99 : Int) := r_le f72 (il 99) q74 (by decide) (by decide)
        refine g_aload_n C rfl 1 rfl dX11_place_24 ?_
        have e78 : Tg h56 a0 = 11 := (fxT F60 ta0)
        obtain ⟨v79, e80⟩ : ∃ z, Rv h56 a0 2 = z := ⟨_, rfl⟩
        have t81 := ok_R O59 e78 rE_11_2 e80
        refine gf_R C fk_LandSurvey_16 rfl e78 e80 dX11_place_25 ?_
        obtain ⟨v82, e83⟩ : ∃ z, Iv h56 v79 8 = z := ⟨_, rfl⟩
        have f84 := ok_I O59 t81 rI_3_8 e83
        refine gf_I C fk_LandSurvey_337 rfl t81 e83 dX11_place_28 ?_
        refine g_bipush C (by decide) dX11_place_31 ?_
        refine g_icmp_lt C (iw f84 (by decide) (by decide)) (iw (il 8) (by decide) (by decide)) 38 (by decide) dX11_place_33 (fun q85 => ?_) (fun q86 => ?_)
        · have f87 : (0 : Int) ≤ v82 ∧ v82 ≤ (7 : Int) := r_lt f84 (il 8) q85 (by decide) (by decide)
          refine g_aload_n C rfl 1 rfl dX11_place_38 ?_
          refine gf_R C fk_LandSurvey_16 rfl e78 e80 dX11_place_39 ?_
          obtain ⟨v88, e89⟩ : ∃ z, Rv h56 v79 6 = z := ⟨_, rfl⟩
          have t90 := ok_R O59 t81 rE_3_6 e89
          have l91 := ok_L O59 t81 rE_3_6 e89
          refine gf_R C fk_LandSurvey_340 rfl t81 e89 dX11_place_42 ?_
          refine g_aload_n C rfl 1 rfl dX11_place_45 ?_
          refine gf_R C fk_LandSurvey_16 rfl e78 e80 dX11_place_46 ?_
          refine gf_I C fk_LandSurvey_337 rfl t81 e83 dX11_place_49 ?_
          refine g_iload C 0 rfl dX11_place_52 ?_
          refine g_iast C t90 rfl l91 (ix f87 (by decide) (by decide)) (iw f67 (by decide) (by decide)) dX11_place_54 (fun h93 hh92 => ?_)
          have O94 := O59.pIa t90 ar_17100 hh92 rI_17100_0 f67 nofun
          refine g_aload_n C rfl 1 rfl dX11_place_55 ?_
          have e95 : Tg h93 a0 = 11 := ((pIT hh92).trans e78)
          have e96 : Rv h93 a0 2 = v79 := ((pIR hh92).trans e80)
          refine gf_R C fk_LandSurvey_16 rfl e95 e96 dX11_place_56 ?_
          have e97 : Tg h93 v79 = 3 := ((pIT hh92).trans t81)
          obtain ⟨v98, e99⟩ : ∃ z, Rv h93 v79 7 = z := ⟨_, rfl⟩
          have t100 := ok_R O94 e97 rE_3_7 e99
          have l101 := ok_L O94 e97 rE_3_7 e99
          refine gf_R C fk_LandSurvey_343 rfl e97 e99 dX11_place_59 ?_
          refine g_aload_n C rfl 1 rfl dX11_place_62 ?_
          refine gf_R C fk_LandSurvey_16 rfl e95 e96 dX11_place_63 ?_
          have e102 : Iv h93 v79 8 = v82 := ((pI_n hh92 (ne_tag t81 t90 (by decide))).trans e83)
          refine gf_I C fk_LandSurvey_337 rfl e97 e102 dX11_place_66 ?_
          refine g_iload_n C rfl 4 rfl dX11_place_69 ?_
          refine g_iast C t100 rfl l101 (ix f87 (by decide) (by decide)) (iw f77 (by decide) (by decide)) dX11_place_70 (fun h104 hh103 => ?_)
          have O105 := O94.pIa t100 ar_18100 hh103 rI_18100_0 (iw f77 (by decide) (by decide)) nofun
          refine g_aload_n C rfl 1 rfl dX11_place_71 ?_
          have e106 : Tg h104 a0 = 11 := ((pIT hh103).trans e95)
          have e107 : Rv h104 a0 2 = v79 := ((pIR hh103).trans e96)
          refine gf_R C fk_LandSurvey_16 rfl e106 e107 dX11_place_72 ?_
          refine g_dup C rfl dX11_place_75 ?_
          have e108 : Tg h104 v79 = 3 := ((pIT hh103).trans e97)
          have e109 : Iv h104 v79 8 = v82 := ((pI_n hh103 (ne_tag e97 t100 (by decide))).trans e102)
          refine gf_I C fk_LandSurvey_337 rfl e108 e109 dX11_place_76 ?_
          refine g_dup_x1 C rfl rfl dX11_place_79 ?_
          refine g_iconst C dX11_place_80 ?_
          have f110 : (1 : Int) ≤ (v82 + 1) ∧ (v82 + 1) ≤ (8 : Int) := ia_add f87 (il 1) (by decide) (by decide)
          refine g_iadd C dX11_place_81 ?_
          refine gp_I C fk_LandSurvey_337 pk_LandSurvey_Land_8 rfl e108 (iw f110 (by decide) (by decide)) (nf_i _) dX11_place_82 (fun h112 hh111 => ?_)
          have O113 := O105.pI e108 hh111 rI_3_8 (iw f110 (by decide) (by decide)) nofun
          have p114 := (XInv_fx O105 ((Fx.rf (wr := [608]) (h := h104)).pI e108 hh111 rfl) e106 rfl (XInv_fx O94 ((Fx.rf (wr := [3620000]) (h := h93)).pIa t100 ar_18100 hh103 rfl) e95 rfl (XInv_fx O59 ((Fx.rf (wr := [3420000]) (h := h56)).pIa t90 ar_17100 hh92 rfl) e78 rfl (XInv_fx O F60 ta0 rfl P_XInv))))
          exact g_iret C hr rfl (iw f87 (by decide) (by decide)) ⟨O113, (((((Fx.rf (wr := wr_k_X11_place)).call F60 rfl).pIa t90 ar_17100 hh92 rfl).pIa t100 ar_18100 hh103 rfl).pI e108 hh111 rfl), (iw f87 (by decide) (by decide)), p114⟩ (by decide) (by decide) dX11_place_85
        · have f115 : (8 : Int) ≤ v82 ∧ v82 ≤ (8 : Int) := r_ge f84 (il 8) q86 (by decide) (by decide)
          refine g_iconst C dX11_place_36 ?_
          have p116 := (XInv_fx O F60 ta0 rfl P_XInv)
          exact g_iret C hr rfl (iw (il (-1)) (by decide) (by decide)) ⟨O59, ((Fx.rf (wr := wr_k_X11_place)).call F60 rfl), (iw (il (-1)) (by decide) (by decide)), p116⟩ (by decide) (by decide) dX11_place_37
def wr_k_X11_doubt : List Nat := [401, 402, 403, 404, 405, 406, 1403, 1404, 1405, 1412, 1813, 1814, 1815, 1816, 1817, 1818, 2003, 2207, 2215, 2216, 2217, 200400, 200407, 200408, 2020000, 2220000, 2420000, 3020000, 5620000, 7420000, 8020000, 8220400, 8420400, 8620000, 8820000, 9020000, 9220400, 9420000, 9821400, 10020000]
set_option maxRecDepth 100000 in
set_option maxHeartbeats 4000000 in
theorem k_X11_doubt (l : Launch) (D : va_G) (cy : Nat → ClassId) (w : Nat → Nat) (z0 : Nat) {h : Hp} {a0 : Nat}  (O : Okh h) (ta0 : Tg h a0 = 11) (P_XInv : XInv h a0) : MI l D cy w z0 yX11_doubt cX11_doubt 2 (some .int) 11 299 48 3216 [.inr (.inr a0)] h (fun v h1 => Okh h1 ∧ Fx wr_k_X11_doubt h h1 ∧ ((-2147483648) ≤ v ∧ v ≤ 2147483647) ∧ (XInv h1 a0)) := by
  obtain ⟨v1, e2⟩ : ∃ z, Rv h a0 3 = z := ⟨_, rfl⟩
  have t3 := ok_R O ta0 rE_11_3 e2
  have l4 := ok_L O ta0 rE_11_3 e2
  obtain ⟨v5, e6⟩ : ∃ z, Iv h a0 4 = z := ⟨_, rfl⟩
  have f7 := ok_I O ta0 rI_11_4 e6
  obtain ⟨v8, e9⟩ : ∃ z, Rv h a0 8 = z := ⟨_, rfl⟩
  have t10 := ok_R O ta0 rE_11_8 e9
  have l11 := ok_L O ta0 rE_11_8 e9
  obtain ⟨v12, e13⟩ : ∃ z, Iv h a0 9 = z := ⟨_, rfl⟩
  have f14 := ok_I O ta0 rI_11_9 e13
  obtain ⟨v15, e16⟩ : ∃ z, Rv h a0 11 = z := ⟨_, rfl⟩
  have t17 := ok_R O ta0 rE_11_11 e16
  have l18 := ok_L O ta0 rE_11_11 e16
  obtain ⟨v19, e20⟩ : ∃ z, Iv h a0 12 = z := ⟨_, rfl⟩
  have f21 := ok_I O ta0 rI_11_12 e20
  obtain ⟨v22, e23⟩ : ∃ z, Iv h a0 15 = z := ⟨_, rfl⟩
  have f24 := ok_I O ta0 rI_11_15 e23
  obtain ⟨v25, e26⟩ : ∃ z, Rv h a0 14 = z := ⟨_, rfl⟩
  have t27 := ok_R O ta0 rE_11_14 e26
  have l28 := ok_L O ta0 rE_11_14 e26
  obtain ⟨v29, e30⟩ : ∃ z, Rv h a0 13 = z := ⟨_, rfl⟩
  have t31 := ok_R O ta0 rE_11_13 e30
  obtain ⟨v32, e33⟩ : ∃ z, Rv h a0 6 = z := ⟨_, rfl⟩
  have t34 := ok_R O ta0 rE_11_6 e33
  obtain ⟨v35, e36⟩ : ∃ z, Rv h a0 7 = z := ⟨_, rfl⟩
  have t37 := ok_R O ta0 rE_11_7 e36
  have p48 := P_XInv
  unfold XInv at p48
  rw [e2, e6, e9, e13, e16, e20, e23, e26, e30, e33, e36] at p48
  obtain ⟨p38, p39, p40, p41, p42, p43, p44, p45, p46, p47⟩ := p48
  obtain ⟨v49, e50⟩ : ∃ z, Iv h v29 3 = z := ⟨_, rfl⟩
  have f51 := ok_I O t31 rI_7_3 e50
  obtain ⟨v52, e53⟩ : ∃ z, Iv h v29 4 = z := ⟨_, rfl⟩
  have f54 := ok_I O t31 rI_7_4 e53
  rw [e50] at p44
  rw [e53] at p45
  refine hm_go (by decide +kernel) (Nat.le_of_ble_eq_true rfl) (fun p e s m below meth c C hr hn => ?_)
  refine g_aload_n C rfl 0 rfl dX11_doubt_0 ?_
  refine g_callR (st := []) (gc_V C lk_LandSurvey_346 (k_X11_knownBest l D cy w z0 O ta0 P_XInv) ta0 rfl rfl rfl ⟨by decide, by decide⟩ (Nat.le_of_ble_eq_true rfl) dX11_doubt_1 ⟨(by decide), (by decide)⟩) (fun r55 h56 K57 => ?_)
  obtain ⟨O59, F60, p61, p62⟩ := K57
  have e63 : Rv h56 a0 3 = v1 := ((fxR F60 ta0 rfl).trans e2)
  have e64 : Iv h56 a0 4 = v5 := ((fxI F60 ta0 rfl).trans e6)
  have e65 : Rv h56 a0 8 = v8 := ((fxR F60 ta0 rfl).trans e9)
  have e66 : Iv h56 a0 9 = v12 := ((fxI F60 ta0 rfl).trans e13)
  have e67 : Rv h56 a0 11 = v15 := ((fxR F60 ta0 rfl).trans e16)
  have e68 : Iv h56 a0 12 = v19 := ((fxI F60 ta0 rfl).trans e20)
  obtain ⟨v69, e70⟩ : ∃ z, Iv h56 a0 15 = z := ⟨_, rfl⟩
  have e71 : Tg h56 a0 = 11 := (fxT F60 ta0)
  have f72 := ok_I O59 e71 rI_11_15 e70
  have e73 : Rv h56 a0 14 = v25 := ((fxR F60 ta0 rfl).trans e26)
  have e74 : Rv h56 a0 13 = v29 := ((fxR F60 ta0 rfl).trans e30)
  have e75 : Rv h56 a0 6 = v32 := ((fxR F60 ta0 rfl).trans e33)
  obtain ⟨v76, e77⟩ : ∃ z, Rv h56 a0 7 = z := ⟨_, rfl⟩
  have t78 := ok_R O59 e71 rE_11_7 e77
  have p89 := p61
  unfold XInv at p89
  rw [e63, e64, e65, e66, e67, e68, e70, e73, e74, e75, e77] at p89
  obtain ⟨p79, p80, p81, p82, p83, p84, p85, p86, p87, p88⟩ := p89
  obtain ⟨v90, e91⟩ : ∃ z, Iv h56 v29 3 = z := ⟨_, rfl⟩
  have e92 : Tg h56 v29 = 7 := (fxT F60 t31)
  have f93 := ok_I O59 e92 rI_7_3 e91
  obtain ⟨v94, e95⟩ : ∃ z, Iv h56 v29 4 = z := ⟨_, rfl⟩
  have f96 := ok_I O59 e92 rI_7_4 e95
  rw [e91] at p85
  rw [e95] at p86
  refine g_astore_n C [(1, .inr (.inr r55)), (0, .inr (.inr a0))] rfl (by decide) rfl dX11_doubt_4 ?_
  refine g_aload_n C rfl 0 rfl dX11_doubt_5 ?_
  refine g_ifnonnull C 13 (by decide) dX11_doubt_6 (fun q97 => ?_) (fun q98 => ?_)
  · have t99 := p62.resolve_left q97
    refine g_aload_n C rfl 1 rfl dX11_doubt_13 ?_
    refine g_aload_n C rfl 0 rfl dX11_doubt_14 ?_
    refine g_callI (st := []) (gc_V C lk_LandSurvey_350 (k_X11_doubtIn l D cy w z0 O59 e71 t99) e71 rfl rfl rfl ⟨by decide, by decide⟩ (Nat.le_of_ble_eq_true rfl) dX11_doubt_15 ⟨(by decide), (by decide)⟩) (fun r100 h101 f103 K102 => ?_)
    obtain ⟨O104, F105, f106⟩ := K102
    have p107 := (XInv_fx O59 F105 e71 rfl p61)
    exact g_iret C hr rfl f106 ⟨O104, (((Fx.rf (wr := wr_k_X11_doubt)).call F60 rfl).call F105 rfl), f106, p107⟩ (by decide) (by decide) dX11_doubt_18
  · refine g_iconst C dX11_doubt_9 ?_
    refine g_goto C 18 (by decide) dX11_doubt_10 ?_
    exact g_iret C hr rfl (iw (il (-1)) (by decide) (by decide)) ⟨O59, ((Fx.rf (wr := wr_k_X11_doubt)).call F60 rfl), (iw (il (-1)) (by decide) (by decide)), p61⟩ (by decide) (by decide) dX11_doubt_18
def wr_k_X11_count : List Nat := [401, 402, 403, 404, 405, 406, 1403, 1404, 1405, 1412, 1813, 1814, 1815, 1816, 1817, 1818, 2003, 2207, 2215, 2216, 2217, 200400, 200407, 200408, 2020000, 2220000, 2420000, 3020000, 5620000, 7420000, 8020000, 8220400, 8420400, 8620000, 8820000, 9020000, 9220400, 9420000, 9821400, 10020000]
set_option maxRecDepth 100000 in
set_option maxHeartbeats 4000000 in
theorem k_X11_count (l : Launch) (D : va_G) (cy : Nat → ClassId) (w : Nat → Nat) (z0 : Nat) {h : Hp} {a0 : Nat} {a1 : Int}  (O : Okh h) (ta0 : Tg h a0 = 11) (fa1 : (-2147483648) ≤ a1 ∧ a1 ≤ 2147483647) (P_XInv : XInv h a0) : MI l D cy w z0 yX11_count cX11_count 2 (some .int) 11 300 96 6432 [.inr (.inr a0), .inl a1] h (fun v h1 => Okh h1 ∧ Fx wr_k_X11_count h h1 ∧ ((-2147483648) ≤ v ∧ v ≤ 2147483647) ∧ (XInv h1 a0)) := by
  obtain ⟨v1, e2⟩ : ∃ z, Rv h a0 3 = z := ⟨_, rfl⟩
  have t3 := ok_R O ta0 rE_11_3 e2
  have l4 := ok_L O ta0 rE_11_3 e2
  obtain ⟨v5, e6⟩ : ∃ z, Iv h a0 4 = z := ⟨_, rfl⟩
  have f7 := ok_I O ta0 rI_11_4 e6
  obtain ⟨v8, e9⟩ : ∃ z, Rv h a0 8 = z := ⟨_, rfl⟩
  have t10 := ok_R O ta0 rE_11_8 e9
  have l11 := ok_L O ta0 rE_11_8 e9
  obtain ⟨v12, e13⟩ : ∃ z, Iv h a0 9 = z := ⟨_, rfl⟩
  have f14 := ok_I O ta0 rI_11_9 e13
  obtain ⟨v15, e16⟩ : ∃ z, Rv h a0 11 = z := ⟨_, rfl⟩
  have t17 := ok_R O ta0 rE_11_11 e16
  have l18 := ok_L O ta0 rE_11_11 e16
  obtain ⟨v19, e20⟩ : ∃ z, Iv h a0 12 = z := ⟨_, rfl⟩
  have f21 := ok_I O ta0 rI_11_12 e20
  obtain ⟨v22, e23⟩ : ∃ z, Iv h a0 15 = z := ⟨_, rfl⟩
  have f24 := ok_I O ta0 rI_11_15 e23
  obtain ⟨v25, e26⟩ : ∃ z, Rv h a0 14 = z := ⟨_, rfl⟩
  have t27 := ok_R O ta0 rE_11_14 e26
  have l28 := ok_L O ta0 rE_11_14 e26
  obtain ⟨v29, e30⟩ : ∃ z, Rv h a0 13 = z := ⟨_, rfl⟩
  have t31 := ok_R O ta0 rE_11_13 e30
  obtain ⟨v32, e33⟩ : ∃ z, Rv h a0 6 = z := ⟨_, rfl⟩
  have t34 := ok_R O ta0 rE_11_6 e33
  obtain ⟨v35, e36⟩ : ∃ z, Rv h a0 7 = z := ⟨_, rfl⟩
  have t37 := ok_R O ta0 rE_11_7 e36
  have p48 := P_XInv
  unfold XInv at p48
  rw [e2, e6, e9, e13, e16, e20, e23, e26, e30, e33, e36] at p48
  obtain ⟨p38, p39, p40, p41, p42, p43, p44, p45, p46, p47⟩ := p48
  obtain ⟨v49, e50⟩ : ∃ z, Iv h v29 3 = z := ⟨_, rfl⟩
  have f51 := ok_I O t31 rI_7_3 e50
  obtain ⟨v52, e53⟩ : ∃ z, Iv h v29 4 = z := ⟨_, rfl⟩
  have f54 := ok_I O t31 rI_7_4 e53
  rw [e50] at p44
  rw [e53] at p45
  refine hm_go (by decide +kernel) (Nat.le_of_ble_eq_true rfl) (fun p e s m below meth c C hr hn => ?_)
  refine g_aload_n C rfl 0 rfl dX11_count_0 ?_
  refine g_callV (st := []) (gc_V C lk_LandSurvey_169 (k_X11_settle l D cy w z0 O ta0 P_XInv) ta0 rfl rfl rfl ⟨by decide, by decide⟩ (Nat.le_of_ble_eq_true rfl) dX11_count_1 ⟨(by decide), (by decide)⟩) (fun h56 K57 => ?_)
  obtain ⟨O59, F60, p61, p62⟩ := K57
  have e63 : Rv h56 a0 3 = v1 := ((fxR F60 ta0 rfl).trans e2)
  have e64 : Iv h56 a0 4 = v5 := ((fxI F60 ta0 rfl).trans e6)
  have e65 : Rv h56 a0 8 = v8 := ((fxR F60 ta0 rfl).trans e9)
  have e66 : Iv h56 a0 9 = v12 := ((fxI F60 ta0 rfl).trans e13)
  have e67 : Rv h56 a0 11 = v15 := ((fxR F60 ta0 rfl).trans e16)
  have e68 : Iv h56 a0 12 = v19 := ((fxI F60 ta0 rfl).trans e20)
  have e69 : Rv h56 a0 14 = v25 := ((fxR F60 ta0 rfl).trans e26)
  have e70 : Rv h56 a0 13 = v29 := ((fxR F60 ta0 rfl).trans e30)
  have e71 : Rv h56 a0 6 = v32 := ((fxR F60 ta0 rfl).trans e33)
  obtain ⟨v72, e73⟩ : ∃ z, Rv h56 a0 7 = z := ⟨_, rfl⟩
  have e74 : Tg h56 a0 = 11 := (fxT F60 ta0)
  have t75 := ok_R O59 e74 rE_11_7 e73
  have p86 := p61
  unfold XInv at p86
  rw [e63, e64, e65, e66, e67, e68, p62, e69, e70, e71, e73] at p86
  obtain ⟨p76, p77, p78, p79, p80, p81, p82, p83, p84, p85⟩ := p86
  obtain ⟨v87, e88⟩ : ∃ z, Iv h56 v29 3 = z := ⟨_, rfl⟩
  have e89 : Tg h56 v29 = 7 := (fxT F60 t31)
  have f90 := ok_I O59 e89 rI_7_3 e88
  obtain ⟨v91, e92⟩ : ∃ z, Iv h56 v29 4 = z := ⟨_, rfl⟩
  have f93 := ok_I O59 e89 rI_7_4 e92
  rw [e88] at p82
  rw [e92] at p83
  have p94 := p79 (by omega)
  refine g_iload_n C rfl 1 rfl dX11_count_4 ?_
  rcases Classical.em (a1 = 0) with q95 | q96
  · refine g_tin (kv := 0) C q95 (by decide) 72 (by decide) (by decide) rfl (by decide) dX11_count_5 ?_
    have f97 : (0 : Int) ≤ a1 ∧ a1 ≤ (0 : Int) := ii fa1 (r_eq (il 0) q95) (by decide) (by decide)
    refine g_aload_n C rfl 0 rfl dX11_count_72 ?_
    obtain ⟨v98, e99⟩ : ∃ z, Iv h56 a0 0 = z := ⟨_, rfl⟩
    have f100 := ok_I O59 e74 rI_11_0 e99
    refine gf_I C fk_LandSurvey_78 rfl e74 e99 dX11_count_73 ?_
    exact g_iret C hr rfl (iw f100 (by decide) (by decide)) ⟨O59, ((Fx.rf (wr := wr_k_X11_count)).call F60 rfl), (iw f100 (by decide) (by decide)), p61⟩ (by decide) (by decide) dX11_count_76
  · rcases Classical.em (a1 = 1) with q101 | q102
    · refine g_tin (kv := 1) C q101 (by decide) 77 (by decide) (by decide) rfl (by decide) dX11_count_5 ?_
      have f103 : (1 : Int) ≤ a1 ∧ a1 ≤ (1 : Int) := ii fa1 (r_eq (il 1) q101) (by decide) (by decide)
      refine g_aload_n C rfl 0 rfl dX11_count_77 ?_
      refine g_callI (st := []) (gc_V C lk_LandSurvey_362 (k_X11_dayShown l D cy w z0 O59 e74) e74 rfl rfl rfl ⟨by decide, by decide⟩ (Nat.le_of_ble_eq_true rfl) dX11_count_78 ⟨(by decide), (by decide)⟩) (fun r104 h105 f107 K106 => ?_)
      obtain ⟨O108, F109, f110⟩ := K106
      have p111 := (XInv_fx O59 F109 e74 rfl p61)
      exact g_iret C hr rfl (iw f110 (by decide) (by decide)) ⟨O108, (((Fx.rf (wr := wr_k_X11_count)).call F60 rfl).call F109 rfl), (iw f110 (by decide) (by decide)), p111⟩ (by decide) (by decide) dX11_count_81
    · rcases Classical.em (a1 = 2) with q112 | q113
      · refine g_tin (kv := 2) C q112 (by decide) 82 (by decide) (by decide) rfl (by decide) dX11_count_5 ?_
        have f114 : (2 : Int) ≤ a1 ∧ a1 ≤ (2 : Int) := ii fa1 (r_eq (il 2) q112) (by decide) (by decide)
        refine g_aload_n C rfl 0 rfl dX11_count_82 ?_
        refine gf_I C fk_LandSurvey_102 rfl e74 e64 dX11_count_83 ?_
        exact g_iret C hr rfl (iw f7 (by decide) (by decide)) ⟨O59, ((Fx.rf (wr := wr_k_X11_count)).call F60 rfl), (iw f7 (by decide) (by decide)), p61⟩ (by decide) (by decide) dX11_count_86
      · rcases Classical.em (a1 = 3) with q115 | q116
        · refine g_tin (kv := 3) C q115 (by decide) 87 (by decide) (by decide) rfl (by decide) dX11_count_5 ?_
          have f117 : (3 : Int) ≤ a1 ∧ a1 ≤ (3 : Int) := ii fa1 (r_eq (il 3) q115) (by decide) (by decide)
          refine g_aload_n C rfl 0 rfl dX11_count_87 ?_
          refine g_iconst C dX11_count_88 ?_
          refine g_callI (st := []) (gc_V C lk_LandSurvey_365 (k_X11_countSaying l D cy w z0 O59 e74 (iw (il 0) (by decide) (by decide)) p61) e74 rfl rfl rfl ⟨by decide, by decide⟩ (Nat.le_of_ble_eq_true rfl) dX11_count_89 ⟨(by decide), (by decide)⟩) (fun r118 h119 f121 K120 => ?_)
          obtain ⟨O122, F123, f124⟩ := K120
          have p125 := (XInv_fx O59 F123 e74 rfl p61)
          exact g_iret C hr rfl f124 ⟨O122, (((Fx.rf (wr := wr_k_X11_count)).call F60 rfl).call F123 rfl), f124, p125⟩ (by decide) (by decide) dX11_count_92
        · rcases Classical.em (a1 = 4) with q126 | q127
          · refine g_tin (kv := 4) C q126 (by decide) 93 (by decide) (by decide) rfl (by decide) dX11_count_5 ?_
            have f128 : (4 : Int) ≤ a1 ∧ a1 ≤ (4 : Int) := ii fa1 (r_eq (il 4) q126) (by decide) (by decide)
            refine g_aload_n C rfl 0 rfl dX11_count_93 ?_
            refine gf_R C fk_LandSurvey_44 rfl e74 e73 dX11_count_94 ?_
            obtain ⟨v129, e130⟩ : ∃ z, Iv h56 v72 0 = z := ⟨_, rfl⟩
            have f131 := ok_I O59 t75 rI_6_0 e130
            refine gf_I C fk_LandSurvey_284 rfl t75 e130 dX11_count_97 ?_
            exact g_iret C hr rfl (iw f131 (by decide) (by decide)) ⟨O59, ((Fx.rf (wr := wr_k_X11_count)).call F60 rfl), (iw f131 (by decide) (by decide)), p61⟩ (by decide) (by decide) dX11_count_100
          · rcases Classical.em (a1 = 5) with q132 | q133
            · refine g_tin (kv := 5) C q132 (by decide) 101 (by decide) (by decide) rfl (by decide) dX11_count_5 ?_
              have f134 : (5 : Int) ≤ a1 ∧ a1 ≤ (5 : Int) := ii fa1 (r_eq (il 5) q132) (by decide) (by decide)
              refine g_aload_n C rfl 0 rfl dX11_count_101 ?_
              refine gf_I C fk_LandSurvey_157 rfl e74 e66 dX11_count_102 ?_
              exact g_iret C hr rfl (iw f14 (by decide) (by decide)) ⟨O59, ((Fx.rf (wr := wr_k_X11_count)).call F60 rfl), (iw f14 (by decide) (by decide)), p61⟩ (by decide) (by decide) dX11_count_105
            · rcases Classical.em (a1 = 6) with q135 | q136
              · refine g_tin (kv := 6) C q135 (by decide) 106 (by decide) (by decide) rfl (by decide) dX11_count_5 ?_
                have f137 : (6 : Int) ≤ a1 ∧ a1 ≤ (6 : Int) := ii fa1 (r_eq (il 6) q135) (by decide) (by decide)
                refine g_aload_n C rfl 0 rfl dX11_count_106 ?_
                refine gf_I C fk_LandSurvey_305 rfl e74 e68 dX11_count_107 ?_
                exact g_iret C hr rfl (iw f21 (by decide) (by decide)) ⟨O59, ((Fx.rf (wr := wr_k_X11_count)).call F60 rfl), (iw f21 (by decide) (by decide)), p61⟩ (by decide) (by decide) dX11_count_110
              · rcases Classical.em (a1 = 7) with q138 | q139
                · refine g_tin (kv := 7) C q138 (by decide) 111 (by decide) (by decide) rfl (by decide) dX11_count_5 ?_
                  have f140 : (7 : Int) ≤ a1 ∧ a1 ≤ (7 : Int) := ii fa1 (r_eq (il 7) q138) (by decide) (by decide)
                  refine g_aload_n C rfl 0 rfl dX11_count_111 ?_
                  refine g_iconst C dX11_count_112 ?_
                  refine g_callI (st := []) (gc_V C lk_LandSurvey_365 (k_X11_countSaying l D cy w z0 O59 e74 (iw (il 1) (by decide) (by decide)) p61) e74 rfl rfl rfl ⟨by decide, by decide⟩ (Nat.le_of_ble_eq_true rfl) dX11_count_113 ⟨(by decide), (by decide)⟩) (fun r141 h142 f144 K143 => ?_)
                  obtain ⟨O145, F146, f147⟩ := K143
                  have p148 := (XInv_fx O59 F146 e74 rfl p61)
                  exact g_iret C hr rfl f147 ⟨O145, (((Fx.rf (wr := wr_k_X11_count)).call F60 rfl).call F146 rfl), f147, p148⟩ (by decide) (by decide) dX11_count_116
                · rcases Classical.em (a1 = 8) with q149 | q150
                  · refine g_tin (kv := 8) C q149 (by decide) 117 (by decide) (by decide) rfl (by decide) dX11_count_5 ?_
                    have f151 : (8 : Int) ≤ a1 ∧ a1 ≤ (8 : Int) := ii fa1 (r_eq (il 8) q149) (by decide) (by decide)
                    refine g_aload_n C rfl 0 rfl dX11_count_117 ?_
                    refine gf_R C fk_LandSurvey_36 rfl e74 e71 dX11_count_118 ?_
                    have e152 : Tg h56 v32 = 5 := (fxT F60 t34)
                    obtain ⟨v153, e154⟩ : ∃ z, Iv h56 v32 2 = z := ⟨_, rfl⟩
                    have f155 := ok_I O59 e152 rI_5_2 e154
                    refine gf_I C fk_LandSurvey_369 rfl e152 e154 dX11_count_121 ?_
                    exact g_iret C hr rfl (iw f155 (by decide) (by decide)) ⟨O59, ((Fx.rf (wr := wr_k_X11_count)).call F60 rfl), (iw f155 (by decide) (by decide)), p61⟩ (by decide) (by decide) dX11_count_124
                  · rcases Classical.em (a1 = 9) with q156 | q157
                    · refine g_tin (kv := 9) C q156 (by decide) 125 (by decide) (by decide) rfl (by decide) dX11_count_5 ?_
                      have f158 : (9 : Int) ≤ a1 ∧ a1 ≤ (9 : Int) := ii fa1 (r_eq (il 9) q156) (by decide) (by decide)
                      refine g_aload_n C rfl 0 rfl dX11_count_125 ?_
                      obtain ⟨v159, e160⟩ : ∃ z, Rv h56 a0 5 = z := ⟨_, rfl⟩
                      have t161 := ok_R O59 e74 rE_11_5 e160
                      refine gf_R C fk_LandSurvey_29 rfl e74 e160 dX11_count_126 ?_
                      obtain ⟨v162, e163⟩ : ∃ z, Iv h56 v159 1 = z := ⟨_, rfl⟩
                      have f164 := ok_I O59 t161 rI_4_1 e163
                      refine gf_I C fk_LandSurvey_143 rfl t161 e163 dX11_count_129 ?_
                      exact g_iret C hr rfl (iw f164 (by decide) (by decide)) ⟨O59, ((Fx.rf (wr := wr_k_X11_count)).call F60 rfl), (iw f164 (by decide) (by decide)), p61⟩ (by decide) (by decide) dX11_count_132
                    · rcases Classical.em (a1 = 10) with q165 | q166
                      · refine g_tin (kv := 10) C q165 (by decide) 133 (by decide) (by decide) rfl (by decide) dX11_count_5 ?_
                        have f167 : (10 : Int) ≤ a1 ∧ a1 ≤ (10 : Int) := ii fa1 (r_eq (il 10) q165) (by decide) (by decide)
                        refine g_aload_n C rfl 0 rfl dX11_count_133 ?_
                        refine g_callI (st := []) (gc_V C lk_LandSurvey_253 (k_X11_prepare l D cy w z0 O59 e74 p61) e74 rfl rfl rfl ⟨by decide, by decide⟩ (Nat.le_of_ble_eq_true rfl) dX11_count_134 ⟨(by decide), (by decide)⟩) (fun r168 h169 f171 K170 => ?_)
                        obtain ⟨O172, F173, f174, p175, p176, p177⟩ := K170
                        obtain ⟨v178, e179⟩ : ∃ z, Rv h169 a0 17 = z := ⟨_, rfl⟩
                        have e180 : Tg h169 a0 = 11 := (fxT F173 e74)
                        rw [e179] at p177
                        have e181 : Rv h169 a0 3 = v1 := ((fxR F173 e74 rfl).trans e63)
                        have e182 : Iv h169 a0 4 = v5 := ((fxI F173 e74 rfl).trans e64)
                        have e183 : Rv h169 a0 8 = v8 := ((fxR F173 e74 rfl).trans e65)
                        have e184 : Iv h169 a0 9 = v12 := ((fxI F173 e74 rfl).trans e66)
                        have e185 : Rv h169 a0 11 = v15 := ((fxR F173 e74 rfl).trans e67)
                        have e186 : Iv h169 a0 12 = v19 := ((fxI F173 e74 rfl).trans e68)
                        have e187 : Rv h169 a0 14 = v25 := ((fxR F173 e74 rfl).trans e69)
                        have e188 : Rv h169 a0 13 = v29 := ((fxR F173 e74 rfl).trans e70)
                        have e189 : Rv h169 a0 6 = v32 := ((fxR F173 e74 rfl).trans e71)
                        obtain ⟨v190, e191⟩ : ∃ z, Rv h169 a0 7 = z := ⟨_, rfl⟩
                        have t192 := ok_R O172 e180 rE_11_7 e191
                        have p203 := p175
                        unfold XInv at p203
                        rw [e181, e182, e183, e184, e185, e186, p176, e187, e188, e189, e191] at p203
                        obtain ⟨p193, p194, p195, p196, p197, p198, p199, p200, p201, p202⟩ := p203
                        obtain ⟨v204, e205⟩ : ∃ z, Iv h169 v29 3 = z := ⟨_, rfl⟩
                        have e206 : Tg h169 v29 = 7 := (fxT F173 e89)
                        have f207 := ok_I O172 e206 rI_7_3 e205
                        obtain ⟨v208, e209⟩ : ∃ z, Iv h169 v29 4 = z := ⟨_, rfl⟩
                        have f210 := ok_I O172 e206 rI_7_4 e209
                        rw [e205] at p199
                        rw [e209] at p200
                        have p211 := p196 (by omega)
                        refine g_if_eq C (iw f174 (by decide) (by decide)) 147 (by decide) dX11_count_137 (fun q212 => ?_) (fun q213 => ?_)
                        · have f214 : (0 : Int) ≤ r168 ∧ r168 ≤ (0 : Int) := ii f174 (r_eq (il 0) q212) (by decide) (by decide)
                          refine g_iconst C dX11_count_147 ?_
                          exact g_iret C hr rfl (iw (il 0) (by decide) (by decide)) ⟨O172, (((Fx.rf (wr := wr_k_X11_count)).call F60 rfl).call F173 rfl), (iw (il 0) (by decide) (by decide)), p175⟩ (by decide) (by decide) dX11_count_148
                        · have f215 : (1 : Int) ≤ r168 ∧ r168 ≤ (1 : Int) := r_nl f174 q213
                          refine g_aload_n C rfl 0 rfl dX11_count_140 ?_
                          refine g_callI (st := []) (gc_V C lk_LandSurvey_372 (k_X11_countCertain l D cy w z0 O172 e180 p176 p175) e180 rfl rfl rfl ⟨by decide, by decide⟩ (Nat.le_of_ble_eq_true rfl) dX11_count_141 ⟨(by decide), (by decide)⟩) (fun r216 h217 f219 K218 => ?_)
                          obtain ⟨O220, F221, f222⟩ := K218
                          refine g_goto C 148 (by decide) dX11_count_144 ?_
                          have p223 := (XInv_fx O172 F221 e180 rfl p175)
                          exact g_iret C hr rfl f222 ⟨O220, ((((Fx.rf (wr := wr_k_X11_count)).call F60 rfl).call F173 rfl).call F221 rfl), f222, p223⟩ (by decide) (by decide) dX11_count_148
                      · rcases Classical.em (a1 = 11) with q224 | q225
                        · refine g_tin (kv := 11) C q224 (by decide) 149 (by decide) (by decide) rfl (by decide) dX11_count_5 ?_
                          have f226 : (11 : Int) ≤ a1 ∧ a1 ≤ (11 : Int) := ii fa1 (r_eq (il 11) q224) (by decide) (by decide)
                          refine g_aload_n C rfl 0 rfl dX11_count_149 ?_
                          obtain ⟨v227, e228⟩ : ∃ z, Rv h56 a0 2 = z := ⟨_, rfl⟩
                          have t229 := ok_R O59 e74 rE_11_2 e228
                          refine gf_R C fk_LandSurvey_16 rfl e74 e228 dX11_count_150 ?_
                          obtain ⟨v230, e231⟩ : ∃ z, Iv h56 v227 5 = z := ⟨_, rfl⟩
                          have f232 := ok_I O59 t229 rI_3_5 e231
                          refine gf_I C fk_LandSurvey_334 rfl t229 e231 dX11_count_153 ?_
                          exact g_iret C hr rfl f232 ⟨O59, ((Fx.rf (wr := wr_k_X11_count)).call F60 rfl), f232, p61⟩ (by decide) (by decide) dX11_count_156
                        · rcases Classical.em (a1 = 12) with q233 | q234
                          · refine g_tin (kv := 12) C q233 (by decide) 157 (by decide) (by decide) rfl (by decide) dX11_count_5 ?_
                            have f235 : (12 : Int) ≤ a1 ∧ a1 ≤ (12 : Int) := ii fa1 (r_eq (il 12) q233) (by decide) (by decide)
                            refine g_aload_n C rfl 0 rfl dX11_count_157 ?_
                            obtain ⟨v236, e237⟩ : ∃ z, Rv h56 a0 2 = z := ⟨_, rfl⟩
                            have t238 := ok_R O59 e74 rE_11_2 e237
                            refine gf_R C fk_LandSurvey_16 rfl e74 e237 dX11_count_158 ?_
                            obtain ⟨v239, e240⟩ : ∃ z, Iv h56 v236 8 = z := ⟨_, rfl⟩
                            have f241 := ok_I O59 t238 rI_3_8 e240
                            refine gf_I C fk_LandSurvey_337 rfl t238 e240 dX11_count_161 ?_
                            exact g_iret C hr rfl (iw f241 (by decide) (by decide)) ⟨O59, ((Fx.rf (wr := wr_k_X11_count)).call F60 rfl), (iw f241 (by decide) (by decide)), p61⟩ (by decide) (by decide) dX11_count_164
                          · refine g_tout C fa1 165 (by omega) (by decide) dX11_count_5 ?_
                            refine g_iconst C dX11_count_165 ?_
                            exact g_iret C hr rfl (iw (il (-1)) (by decide) (by decide)) ⟨O59, ((Fx.rf (wr := wr_k_X11_count)).call F60 rfl), (iw (il (-1)) (by decide) (by decide)), p61⟩ (by decide) (by decide) dX11_count_166
