abbrev cX11_remain : ByteArray := prog_1_method_9_code
def yX11_remain : MethodName := ⟨RX11, "remain", "(IIZ)Z"⟩
theorem okX11_remain : yok yX11_remain 3 := by decide +kernel
theorem dX11_remain_0 : decode cX11_remain 0 = .ok (.aload_n 0, 1) := by decide +kernel
theorem dX11_remain_1 : decode cX11_remain 1 = .ok (.iload_n 1, 1) := by decide +kernel
theorem dX11_remain_2 : decode cX11_remain 2 = .ok (.invokevirtual 108, 3) := by decide +kernel
theorem kw_643 : Cond.code yX11_isSight prog_1_method_40_code 2 (some .boolean) ∈ uu := uu_in (i := 643) (by decide +kernel) (by decide +kernel)
theorem kw_640 : Cond.methodLink "LandSurvey" 108 yX11_isSight ∈ uu := uu_in (i := 640) (by decide +kernel) (by decide +kernel)
theorem kw_642 : Cond.instanceMethod yX11_isSight ∈ uu := uu_in (i := 642) (by decide +kernel) (by decide +kernel)
theorem kw_0 : Cond.selects "LandSurvey" yX11_isSight yX11_isSight ∈ uu := uu_in (i := 0) (by decide +kernel) (by decide +kernel)
theorem lk_LandSurvey_108 : lkV "LandSurvey" 108 yX11_isSight cX11_isSight 2 (some .boolean) 1 := ⟨kw_640, kw_642, kw_0, kw_144, kw_643, okX11_isSight⟩
theorem dX11_remain_5 : decode cX11_remain 5 = .ok (.ifCond .eq 26, 3) := by decide +kernel
theorem dX11_remain_31 : decode cX11_remain 31 = .ok (.iconst 0, 1) := by decide +kernel
theorem dX11_remain_32 : decode cX11_remain 32 = .ok (.ireturn, 1) := by decide +kernel
theorem dX11_remain_8 : decode cX11_remain 8 = .ok (.aload_n 0, 1) := by decide +kernel
theorem dX11_remain_9 : decode cX11_remain 9 = .ok (.getfield 22, 3) := by decide +kernel
theorem dX11_remain_12 : decode cX11_remain 12 = .ok (.iload_n 1, 1) := by decide +kernel
theorem dX11_remain_13 : decode cX11_remain 13 = .ok (.aaload, 1) := by decide +kernel
theorem dX11_remain_14 : decode cX11_remain 14 = .ok (.getfield 130, 3) := by decide +kernel
theorem dX11_remain_17 : decode cX11_remain 17 = .ok (.iconst (-1), 1) := by decide +kernel
theorem dX11_remain_18 : decode cX11_remain 18 = .ok (.if_icmp .ne 13, 3) := by decide +kernel
theorem dX11_remain_21 : decode cX11_remain 21 = .ok (.iload_n 2, 1) := by decide +kernel
theorem dX11_remain_22 : decode cX11_remain 22 = .ok (.ifCond .lt 9, 3) := by decide +kernel
theorem dX11_remain_25 : decode cX11_remain 25 = .ok (.iload_n 2, 1) := by decide +kernel
theorem dX11_remain_26 : decode cX11_remain 26 = .ok (.bipush 10, 2) := by decide +kernel
theorem dX11_remain_28 : decode cX11_remain 28 = .ok (.if_icmp .lt 5, 3) := by decide +kernel
theorem dX11_remain_33 : decode cX11_remain 33 = .ok (.aload_n 0, 1) := by decide +kernel
theorem dX11_remain_34 : decode cX11_remain 34 = .ok (.getfield 22, 3) := by decide +kernel
theorem dX11_remain_37 : decode cX11_remain 37 = .ok (.iload_n 1, 1) := by decide +kernel
theorem dX11_remain_38 : decode cX11_remain 38 = .ok (.aaload, 1) := by decide +kernel
theorem dX11_remain_39 : decode cX11_remain 39 = .ok (.iload_n 2, 1) := by decide +kernel
theorem dX11_remain_40 : decode cX11_remain 40 = .ok (.putfield 130, 3) := by decide +kernel
theorem pk_LandSurvey_Sight_11 : pk RX8 TX8 19 11 tyX8 false := ⟨tyX8_ok, nmX8, rfl⟩
theorem dX11_remain_43 : decode cX11_remain 43 = .ok (.aload_n 0, 1) := by decide +kernel
theorem dX11_remain_44 : decode cX11_remain 44 = .ok (.getfield 22, 3) := by decide +kernel
theorem dX11_remain_47 : decode cX11_remain 47 = .ok (.iload_n 1, 1) := by decide +kernel
theorem dX11_remain_48 : decode cX11_remain 48 = .ok (.aaload, 1) := by decide +kernel
theorem dX11_remain_49 : decode cX11_remain 49 = .ok (.iload_n 3, 1) := by decide +kernel
theorem dX11_remain_50 : decode cX11_remain 50 = .ok (.putfield 133, 3) := by decide +kernel
theorem pk_LandSurvey_Sight_12 : pk RX8 TX8 19 12 tyX8 false := ⟨tyX8_ok, nmX8, rfl⟩
theorem dX11_remain_53 : decode cX11_remain 53 = .ok (.iconst 1, 1) := by decide +kernel
theorem dX11_remain_54 : decode cX11_remain 54 = .ok (.ireturn, 1) := by decide +kernel
abbrev cX11_withdraw : ByteArray := prog_1_method_10_code
def yX11_withdraw : MethodName := ⟨RX11, "withdraw", "(I)Z"⟩
theorem okX11_withdraw : yok yX11_withdraw 1 := by decide +kernel
theorem kw_571 : Cond.fieldLink "LandSurvey" 136 "LandSurvey$Sight" "withdrawn" "I" ∈ uu := uu_in (i := 571) (by decide +kernel) (by decide +kernel)
theorem fk_LandSurvey_136 : fkI "LandSurvey" 136 8 6 RX8 TX8 19 := ⟨rfl, rfl, inX8, by decide, kw_571, by decide⟩
theorem dX11_withdraw_0 : decode cX11_withdraw 0 = .ok (.aload_n 0, 1) := by decide +kernel
theorem dX11_withdraw_1 : decode cX11_withdraw 1 = .ok (.iload_n 1, 1) := by decide +kernel
theorem dX11_withdraw_2 : decode cX11_withdraw 2 = .ok (.invokevirtual 108, 3) := by decide +kernel
theorem dX11_withdraw_5 : decode cX11_withdraw 5 = .ok (.ifCond .eq 16, 3) := by decide +kernel
theorem dX11_withdraw_21 : decode cX11_withdraw 21 = .ok (.iconst 0, 1) := by decide +kernel
theorem dX11_withdraw_22 : decode cX11_withdraw 22 = .ok (.ireturn, 1) := by decide +kernel
theorem dX11_withdraw_8 : decode cX11_withdraw 8 = .ok (.aload_n 0, 1) := by decide +kernel
theorem dX11_withdraw_9 : decode cX11_withdraw 9 = .ok (.getfield 22, 3) := by decide +kernel
theorem dX11_withdraw_12 : decode cX11_withdraw 12 = .ok (.iload_n 1, 1) := by decide +kernel
theorem dX11_withdraw_13 : decode cX11_withdraw 13 = .ok (.aaload, 1) := by decide +kernel
theorem dX11_withdraw_14 : decode cX11_withdraw 14 = .ok (.getfield 136, 3) := by decide +kernel
theorem dX11_withdraw_17 : decode cX11_withdraw 17 = .ok (.iconst (-1), 1) := by decide +kernel
theorem dX11_withdraw_18 : decode cX11_withdraw 18 = .ok (.if_icmp .eq 5, 3) := by decide +kernel
theorem dX11_withdraw_23 : decode cX11_withdraw 23 = .ok (.aload_n 0, 1) := by decide +kernel
theorem dX11_withdraw_24 : decode cX11_withdraw 24 = .ok (.getfield 22, 3) := by decide +kernel
theorem dX11_withdraw_27 : decode cX11_withdraw 27 = .ok (.iload_n 1, 1) := by decide +kernel
theorem dX11_withdraw_28 : decode cX11_withdraw 28 = .ok (.aaload, 1) := by decide +kernel
theorem dX11_withdraw_29 : decode cX11_withdraw 29 = .ok (.aload_n 0, 1) := by decide +kernel
theorem dX11_withdraw_30 : decode cX11_withdraw 30 = .ok (.getfield 78, 3) := by decide +kernel
theorem dX11_withdraw_33 : decode cX11_withdraw 33 = .ok (.putfield 136, 3) := by decide +kernel
theorem pk_LandSurvey_Sight_6 : pk RX8 TX8 19 6 tyX8 false := ⟨tyX8_ok, nmX8, rfl⟩
theorem dX11_withdraw_36 : decode cX11_withdraw 36 = .ok (.aload_n 0, 1) := by decide +kernel
theorem dX11_withdraw_37 : decode cX11_withdraw 37 = .ok (.iconst 0, 1) := by decide +kernel
theorem dX11_withdraw_38 : decode cX11_withdraw 38 = .ok (.putfield 81, 3) := by decide +kernel
theorem dX11_withdraw_41 : decode cX11_withdraw 41 = .ok (.iconst 1, 1) := by decide +kernel
theorem dX11_withdraw_42 : decode cX11_withdraw 42 = .ok (.ireturn, 1) := by decide +kernel
abbrev cX11_cost : ByteArray := prog_1_method_16_code
def yX11_cost : MethodName := ⟨RX11, "cost", "(I)I"⟩
theorem okX11_cost : yok yX11_cost 1 := by decide +kernel
theorem dX11_cost_0 : decode cX11_cost 0 = .ok (.aload_n 0, 1) := by decide +kernel
theorem dX11_cost_1 : decode cX11_cost 1 = .ok (.iload_n 1, 1) := by decide +kernel
theorem dX11_cost_2 : decode cX11_cost 2 = .ok (.invokevirtual 197, 3) := by decide +kernel
theorem kw_955 : Cond.code yX11_groundOf prog_1_method_52_code 3 (some (.object "LandSurvey$Ground")) ∈ uu := uu_in (i := 955) (by decide +kernel) (by decide +kernel)
theorem kw_952 : Cond.methodLink "LandSurvey" 197 yX11_groundOf ∈ uu := uu_in (i := 952) (by decide +kernel) (by decide +kernel)
theorem kw_954 : Cond.instanceMethod yX11_groundOf ∈ uu := uu_in (i := 954) (by decide +kernel) (by decide +kernel)
theorem kw_21 : Cond.selects "LandSurvey" yX11_groundOf yX11_groundOf ∈ uu := uu_in (i := 21) (by decide +kernel) (by decide +kernel)
theorem lk_LandSurvey_197 : lkV "LandSurvey" 197 yX11_groundOf cX11_groundOf 3 (some (.object "LandSurvey$Ground")) 1 := ⟨kw_952, kw_954, kw_21, kw_144, kw_955, okX11_groundOf⟩
theorem dX11_cost_5 : decode cX11_cost 5 = .ok (.astore_n 2, 1) := by decide +kernel
theorem dX11_cost_6 : decode cX11_cost 6 = .ok (.aload_n 2, 1) := by decide +kernel
theorem dX11_cost_7 : decode cX11_cost 7 = .ok (.ifnonnull 7, 3) := by decide +kernel
theorem dX11_cost_14 : decode cX11_cost 14 = .ok (.aload_n 2, 1) := by decide +kernel
theorem dX11_cost_15 : decode cX11_cost 15 = .ok (.getfield 201, 3) := by decide +kernel
theorem dX11_cost_18 : decode cX11_cost 18 = .ok (.ireturn, 1) := by decide +kernel
theorem dX11_cost_10 : decode cX11_cost 10 = .ok (.iconst (-1), 1) := by decide +kernel
theorem dX11_cost_11 : decode cX11_cost 11 = .ok (.goto 7, 3) := by decide +kernel
abbrev cX11_doubted : ByteArray := prog_1_method_17_code
def yX11_doubted : MethodName := ⟨RX11, "doubted", "(II)I"⟩
theorem okX11_doubted : yok yX11_doubted 2 := by decide +kernel
theorem dX11_doubted_0 : decode cX11_doubted 0 = .ok (.aload_n 0, 1) := by decide +kernel
theorem dX11_doubted_1 : decode cX11_doubted 1 = .ok (.iload_n 1, 1) := by decide +kernel
theorem dX11_doubted_2 : decode cX11_doubted 2 = .ok (.invokevirtual 197, 3) := by decide +kernel
theorem dX11_doubted_5 : decode cX11_doubted 5 = .ok (.astore_n 3, 1) := by decide +kernel
theorem dX11_doubted_6 : decode cX11_doubted 6 = .ok (.aload_n 3, 1) := by decide +kernel
theorem dX11_doubted_7 : decode cX11_doubted 7 = .ok (.ifnull 7, 3) := by decide +kernel
theorem dX11_doubted_14 : decode cX11_doubted 14 = .ok (.iconst (-1), 1) := by decide +kernel
theorem dX11_doubted_15 : decode cX11_doubted 15 = .ok (.ireturn, 1) := by decide +kernel
theorem dX11_doubted_10 : decode cX11_doubted 10 = .ok (.iload_n 2, 1) := by decide +kernel
theorem dX11_doubted_11 : decode cX11_doubted 11 = .ok (.ifCond .ge 5, 3) := by decide +kernel
theorem dX11_doubted_16 : decode cX11_doubted 16 = .ok (.iload_n 2, 1) := by decide +kernel
theorem dX11_doubted_17 : decode cX11_doubted 17 = .ok (.istore 4, 2) := by decide +kernel
theorem dX11_doubted_19 : decode cX11_doubted 19 = .ok (.iconst 0, 1) := by decide +kernel
theorem dX11_doubted_20 : decode cX11_doubted 20 = .ok (.istore 5, 2) := by decide +kernel
theorem dX11_doubted_22 : decode cX11_doubted 22 = .ok (.iload 5, 2) := by decide +kernel
theorem dX11_doubted_24 : decode cX11_doubted 24 = .ok (.aload_n 0, 1) := by decide +kernel
theorem dX11_doubted_25 : decode cX11_doubted 25 = .ok (.getfield 102, 3) := by decide +kernel
theorem dX11_doubted_28 : decode cX11_doubted 28 = .ok (.if_icmp .ge 29, 3) := by decide +kernel
theorem dX11_doubted_57 : decode cX11_doubted 57 = .ok (.iconst (-1), 1) := by decide +kernel
theorem dX11_doubted_58 : decode cX11_doubted 58 = .ok (.ireturn, 1) := by decide +kernel
theorem dX11_doubted_31 : decode cX11_doubted 31 = .ok (.aload_n 3, 1) := by decide +kernel
theorem dX11_doubted_32 : decode cX11_doubted 32 = .ok (.iload 5, 2) := by decide +kernel
theorem dX11_doubted_34 : decode cX11_doubted 34 = .ok (.invokevirtual 204, 3) := by decide +kernel
theorem dX11_doubted_37 : decode cX11_doubted 37 = .ok (.ifCond .eq 14, 3) := by decide +kernel
theorem dX11_doubted_51 : decode cX11_doubted 51 = .ok (.iinc 5 1, 3) := by decide +kernel
theorem dX11_doubted_54 : decode cX11_doubted 54 = .ok (.goto (-32), 3) := by decide +kernel
theorem dX11_doubted_40 : decode cX11_doubted 40 = .ok (.iload 4, 2) := by decide +kernel
theorem dX11_doubted_42 : decode cX11_doubted 42 = .ok (.ifCond .ne 6, 3) := by decide +kernel
theorem dX11_doubted_48 : decode cX11_doubted 48 = .ok (.iinc 4 (-1), 3) := by decide +kernel
theorem dX11_doubted_45 : decode cX11_doubted 45 = .ok (.iload 5, 2) := by decide +kernel
theorem dX11_doubted_47 : decode cX11_doubted 47 = .ok (.ireturn, 1) := by decide +kernel
abbrev cX11_best : ByteArray := prog_1_method_18_code
def yX11_best : MethodName := ⟨RX11, "best", "(I)I"⟩
theorem okX11_best : yok yX11_best 1 := by decide +kernel
theorem dX11_best_0 : decode cX11_best 0 = .ok (.aload_n 0, 1) := by decide +kernel
theorem dX11_best_1 : decode cX11_best 1 = .ok (.invokevirtual 207, 3) := by decide +kernel
theorem dX11_best_4 : decode cX11_best 4 = .ok (.pop, 1) := by decide +kernel
theorem dX11_best_5 : decode cX11_best 5 = .ok (.iload_n 1, 1) := by decide +kernel
theorem dX11_best_6 : decode cX11_best 6 = .ok (.iconst 3, 1) := by decide +kernel
theorem dX11_best_7 : decode cX11_best 7 = .ok (.if_icmp .ne 8, 3) := by decide +kernel
theorem dX11_best_15 : decode cX11_best 15 = .ok (.aload_n 0, 1) := by decide +kernel
theorem dX11_best_16 : decode cX11_best 16 = .ok (.getfield 214, 3) := by decide +kernel
theorem dX11_best_19 : decode cX11_best 19 = .ok (.ifnonnull 5, 3) := by decide +kernel
theorem dX11_best_24 : decode cX11_best 24 = .ok (.iload_n 1, 1) := by decide +kernel
theorem dX11_best_25 : decode cX11_best 25 = .ok (.tableswitch 54 0 2 #[27, 35, 43], 27) := by decide +kernel
theorem dX11_best_52 : decode cX11_best 52 = .ok (.aload_n 0, 1) := by decide +kernel
theorem dX11_best_53 : decode cX11_best 53 = .ok (.getfield 214, 3) := by decide +kernel
theorem dX11_best_56 : decode cX11_best 56 = .ok (.getfield 218, 3) := by decide +kernel
theorem kw_1015 : Cond.fieldLink "LandSurvey" 218 "LandSurvey$Ground" "set" "I" ∈ uu := uu_in (i := 1015) (by decide +kernel) (by decide +kernel)
theorem fk_LandSurvey_218 : fkI "LandSurvey" 218 1 0 RX1 TX1 9 := ⟨rfl, rfl, inX1, by decide, kw_1015, by decide⟩
theorem dX11_best_59 : decode cX11_best 59 = .ok (.ireturn, 1) := by decide +kernel
theorem dX11_best_60 : decode cX11_best 60 = .ok (.aload_n 0, 1) := by decide +kernel
theorem dX11_best_61 : decode cX11_best 61 = .ok (.getfield 214, 3) := by decide +kernel
theorem dX11_best_64 : decode cX11_best 64 = .ok (.getfield 201, 3) := by decide +kernel
theorem dX11_best_67 : decode cX11_best 67 = .ok (.ireturn, 1) := by decide +kernel
theorem dX11_best_68 : decode cX11_best 68 = .ok (.aload_n 0, 1) := by decide +kernel
theorem dX11_best_69 : decode cX11_best 69 = .ok (.getfield 214, 3) := by decide +kernel
theorem dX11_best_72 : decode cX11_best 72 = .ok (.getfield 221, 3) := by decide +kernel
theorem kw_1024 : Cond.fieldLink "LandSurvey" 221 "LandSurvey$Ground" "doubted" "J" ∈ uu := uu_in (i := 1024) (by decide +kernel) (by decide +kernel)
theorem fk_LandSurvey_221 : fkJ "LandSurvey" 221 1 4 RX1 TX1 9 := ⟨rfl, rfl, inX1, by decide, kw_1024, by decide⟩
theorem dX11_best_75 : decode cX11_best 75 = .ok (.invokestatic 225, 3) := by decide +kernel
theorem kw_1155 : Cond.code yJ13_bitCount_95d88 prog_20_method_50_code 2 (some .int) ∈ uu := uu_in (i := 1155) (by decide +kernel) (by decide +kernel)
theorem kw_169 : Cond.initialized "java/lang/Long" ∈ uu := uu_in (i := 169) (by decide +kernel) (by decide +kernel)
theorem kw_1153 : Cond.methodLink "LandSurvey" 225 yJ13_bitCount_95d88 ∈ uu := uu_in (i := 1153) (by decide +kernel) (by decide +kernel)
theorem kw_1154 : Cond.static yJ13_bitCount_95d88 ∈ uu := uu_in (i := 1154) (by decide +kernel) (by decide +kernel)
theorem lk_LandSurvey_225 : lkS "LandSurvey" 225 yJ13_bitCount_95d88 cJ13_bitCount_95d88 2 (some .int) 1 := ⟨kw_1153, kw_1154, kw_169, kw_1155, okJ13_bitCount_95d88⟩
theorem dX11_best_78 : decode cX11_best 78 = .ok (.ireturn, 1) := by decide +kernel
theorem dX11_best_79 : decode cX11_best 79 = .ok (.iconst (-1), 1) := by decide +kernel
theorem dX11_best_80 : decode cX11_best 80 = .ok (.ireturn, 1) := by decide +kernel
theorem dX11_best_22 : decode cX11_best 22 = .ok (.iconst (-1), 1) := by decide +kernel
theorem dX11_best_23 : decode cX11_best 23 = .ok (.ireturn, 1) := by decide +kernel
theorem dX11_best_10 : decode cX11_best 10 = .ok (.aload_n 0, 1) := by decide +kernel
theorem dX11_best_11 : decode cX11_best 11 = .ok (.invokevirtual 211, 3) := by decide +kernel
theorem kw_1148 : Cond.code yX11_countKept prog_1_method_55_code 3 (some .int) ∈ uu := uu_in (i := 1148) (by decide +kernel) (by decide +kernel)
theorem kw_1145 : Cond.methodLink "LandSurvey" 211 yX11_countKept ∈ uu := uu_in (i := 1145) (by decide +kernel) (by decide +kernel)
theorem kw_1147 : Cond.instanceMethod yX11_countKept ∈ uu := uu_in (i := 1147) (by decide +kernel) (by decide +kernel)
theorem kw_37 : Cond.selects "LandSurvey" yX11_countKept yX11_countKept ∈ uu := uu_in (i := 37) (by decide +kernel) (by decide +kernel)
theorem lk_LandSurvey_211 : lkV "LandSurvey" 211 yX11_countKept cX11_countKept 3 (some .int) 0 := ⟨kw_1145, kw_1147, kw_37, kw_144, kw_1148, okX11_countKept⟩
theorem dX11_best_14 : decode cX11_best 14 = .ok (.ireturn, 1) := by decide +kernel
abbrev cX11_kept : ByteArray := prog_1_method_19_code
def yX11_kept : MethodName := ⟨RX11, "kept", "(I)I"⟩
theorem okX11_kept : yok yX11_kept 1 := by decide +kernel
theorem dX11_kept_0 : decode cX11_kept 0 = .ok (.aload_n 0, 1) := by decide +kernel
theorem dX11_kept_1 : decode cX11_kept 1 = .ok (.iload_n 1, 1) := by decide +kernel
theorem dX11_kept_2 : decode cX11_kept 2 = .ok (.invokevirtual 231, 3) := by decide +kernel
theorem dX11_kept_5 : decode cX11_kept 5 = .ok (.ifCond .ne 5, 3) := by decide +kernel
theorem dX11_kept_10 : decode cX11_kept 10 = .ok (.aload_n 0, 1) := by decide +kernel
theorem dX11_kept_11 : decode cX11_kept 11 = .ok (.invokevirtual 207, 3) := by decide +kernel
theorem dX11_kept_14 : decode cX11_kept 14 = .ok (.pop, 1) := by decide +kernel
theorem dX11_kept_15 : decode cX11_kept 15 = .ok (.aload_n 0, 1) := by decide +kernel
theorem dX11_kept_16 : decode cX11_kept 16 = .ok (.iload_n 1, 1) := by decide +kernel
theorem dX11_kept_17 : decode cX11_kept 17 = .ok (.invokevirtual 234, 3) := by decide +kernel
theorem dX11_kept_20 : decode cX11_kept 20 = .ok (.ifCond .eq 7, 3) := by decide +kernel
theorem dX11_kept_27 : decode cX11_kept 27 = .ok (.iconst 0, 1) := by decide +kernel
theorem dX11_kept_28 : decode cX11_kept 28 = .ok (.ireturn, 1) := by decide +kernel
theorem dX11_kept_23 : decode cX11_kept 23 = .ok (.iconst 1, 1) := by decide +kernel
theorem dX11_kept_24 : decode cX11_kept 24 = .ok (.goto 4, 3) := by decide +kernel
theorem dX11_kept_8 : decode cX11_kept 8 = .ok (.iconst (-1), 1) := by decide +kernel
theorem dX11_kept_9 : decode cX11_kept 9 = .ok (.ireturn, 1) := by decide +kernel
abbrev cX11_lies : ByteArray := prog_1_method_21_code
def yX11_lies : MethodName := ⟨RX11, "lies", "(III)I"⟩
theorem okX11_lies : yok yX11_lies 3 := by decide +kernel
theorem dX11_lies_0 : decode cX11_lies 0 = .ok (.iload_n 1, 1) := by decide +kernel
theorem dX11_lies_1 : decode cX11_lies 1 = .ok (.iload_n 2, 1) := by decide +kernel
theorem dX11_lies_2 : decode cX11_lies 2 = .ok (.invokestatic 85, 3) := by decide +kernel
theorem dX11_lies_5 : decode cX11_lies 5 = .ok (.istore 4, 2) := by decide +kernel
theorem dX11_lies_7 : decode cX11_lies 7 = .ok (.iload 4, 2) := by decide +kernel
theorem dX11_lies_9 : decode cX11_lies 9 = .ok (.iconst (-1), 1) := by decide +kernel
theorem dX11_lies_10 : decode cX11_lies 10 = .ok (.if_icmp .eq 21, 3) := by decide +kernel
theorem dX11_lies_31 : decode cX11_lies 31 = .ok (.iconst (-1), 1) := by decide +kernel
theorem dX11_lies_32 : decode cX11_lies 32 = .ok (.ireturn, 1) := by decide +kernel
theorem dX11_lies_13 : decode cX11_lies 13 = .ok (.iload_n 3, 1) := by decide +kernel
theorem dX11_lies_14 : decode cX11_lies 14 = .ok (.ifCond .lt 17, 3) := by decide +kernel
theorem dX11_lies_17 : decode cX11_lies 17 = .ok (.iload_n 3, 1) := by decide +kernel
theorem dX11_lies_18 : decode cX11_lies 18 = .ok (.sipush 2000, 3) := by decide +kernel
theorem dX11_lies_21 : decode cX11_lies 21 = .ok (.if_icmp .gt 10, 3) := by decide +kernel
theorem dX11_lies_24 : decode cX11_lies 24 = .ok (.aload_n 0, 1) := by decide +kernel
theorem dX11_lies_25 : decode cX11_lies 25 = .ok (.invokevirtual 253, 3) := by decide +kernel
theorem kw_1170 : Cond.code yX11_prepare prog_1_method_56_code 2 (some .boolean) ∈ uu := uu_in (i := 1170) (by decide +kernel) (by decide +kernel)
theorem kw_1167 : Cond.methodLink "LandSurvey" 253 yX11_prepare ∈ uu := uu_in (i := 1167) (by decide +kernel) (by decide +kernel)
theorem kw_1169 : Cond.instanceMethod yX11_prepare ∈ uu := uu_in (i := 1169) (by decide +kernel) (by decide +kernel)
theorem kw_39 : Cond.selects "LandSurvey" yX11_prepare yX11_prepare ∈ uu := uu_in (i := 39) (by decide +kernel) (by decide +kernel)
theorem lk_LandSurvey_253 : lkV "LandSurvey" 253 yX11_prepare cX11_prepare 2 (some .boolean) 0 := ⟨kw_1167, kw_1169, kw_39, kw_144, kw_1170, okX11_prepare⟩
theorem dX11_lies_28 : decode cX11_lies 28 = .ok (.ifCond .ne 5, 3) := by decide +kernel
theorem dX11_lies_33 : decode cX11_lies 33 = .ok (.aload_n 0, 1) := by decide +kernel
theorem dX11_lies_34 : decode cX11_lies 34 = .ok (.iload 4, 2) := by decide +kernel
theorem dX11_lies_36 : decode cX11_lies 36 = .ok (.iload_n 3, 1) := by decide +kernel
theorem dX11_lies_37 : decode cX11_lies 37 = .ok (.invokevirtual 256, 3) := by decide +kernel
theorem dX11_lies_40 : decode cX11_lies 40 = .ok (.ireturn, 1) := by decide +kernel
abbrev cX11_line : ByteArray := prog_1_method_22_code
def yX11_line : MethodName := ⟨RX11, "line", "(III)I"⟩
theorem okX11_line : yok yX11_line 3 := by decide +kernel
theorem dX11_line_0 : decode cX11_line 0 = .ok (.iload_n 1, 1) := by decide +kernel
theorem dX11_line_1 : decode cX11_line 1 = .ok (.iload_n 2, 1) := by decide +kernel
theorem dX11_line_2 : decode cX11_line 2 = .ok (.invokestatic 85, 3) := by decide +kernel
theorem dX11_line_5 : decode cX11_line 5 = .ok (.istore 4, 2) := by decide +kernel
theorem dX11_line_7 : decode cX11_line 7 = .ok (.iload 4, 2) := by decide +kernel
theorem dX11_line_9 : decode cX11_line 9 = .ok (.iconst (-1), 1) := by decide +kernel
theorem dX11_line_10 : decode cX11_line 10 = .ok (.if_icmp .eq 12, 3) := by decide +kernel
theorem dX11_line_22 : decode cX11_line 22 = .ok (.iconst (-1), 1) := by decide +kernel
theorem dX11_line_23 : decode cX11_line 23 = .ok (.ireturn, 1) := by decide +kernel
theorem dX11_line_13 : decode cX11_line 13 = .ok (.iload_n 3, 1) := by decide +kernel
theorem dX11_line_14 : decode cX11_line 14 = .ok (.ifCond .lt 8, 3) := by decide +kernel
theorem dX11_line_17 : decode cX11_line 17 = .ok (.iload_n 3, 1) := by decide +kernel
theorem dX11_line_18 : decode cX11_line 18 = .ok (.iconst 4, 1) := by decide +kernel
theorem dX11_line_19 : decode cX11_line 19 = .ok (.if_icmp .lt 5, 3) := by decide +kernel
theorem dX11_line_24 : decode cX11_line 24 = .ok (.iload 4, 2) := by decide +kernel
theorem dX11_line_26 : decode cX11_line 26 = .ok (.iload_n 3, 1) := by decide +kernel
theorem dX11_line_27 : decode cX11_line 27 = .ok (.invokestatic 118, 3) := by decide +kernel
theorem kw_646 : Cond.code yX11_neighbour prog_1_method_39_code 2 (some .int) ∈ uu := uu_in (i := 646) (by decide +kernel) (by decide +kernel)
theorem kw_644 : Cond.methodLink "LandSurvey" 118 yX11_neighbour ∈ uu := uu_in (i := 644) (by decide +kernel) (by decide +kernel)
theorem kw_645 : Cond.static yX11_neighbour ∈ uu := uu_in (i := 645) (by decide +kernel) (by decide +kernel)
theorem lk_LandSurvey_118 : lkS "LandSurvey" 118 yX11_neighbour cX11_neighbour 2 (some .int) 2 := ⟨kw_644, kw_645, kw_144, kw_646, okX11_neighbour⟩
theorem dX11_line_30 : decode cX11_line 30 = .ok (.istore 5, 2) := by decide +kernel
theorem dX11_line_32 : decode cX11_line 32 = .ok (.iload 5, 2) := by decide +kernel
theorem dX11_line_34 : decode cX11_line 34 = .ok (.iconst (-1), 1) := by decide +kernel
theorem dX11_line_35 : decode cX11_line 35 = .ok (.if_icmp .eq 10, 3) := by decide +kernel
theorem dX11_line_45 : decode cX11_line 45 = .ok (.iconst (-1), 1) := by decide +kernel
theorem dX11_line_46 : decode cX11_line 46 = .ok (.ireturn, 1) := by decide +kernel
theorem dX11_line_38 : decode cX11_line 38 = .ok (.aload_n 0, 1) := by decide +kernel
theorem dX11_line_39 : decode cX11_line 39 = .ok (.invokevirtual 253, 3) := by decide +kernel
theorem dX11_line_42 : decode cX11_line 42 = .ok (.ifCond .ne 5, 3) := by decide +kernel
theorem dX11_line_47 : decode cX11_line 47 = .ok (.aload_n 0, 1) := by decide +kernel
theorem dX11_line_48 : decode cX11_line 48 = .ok (.iload 4, 2) := by decide +kernel
theorem dX11_line_50 : decode cX11_line 50 = .ok (.iload 5, 2) := by decide +kernel
theorem dX11_line_52 : decode cX11_line 52 = .ok (.invokevirtual 259, 3) := by decide +kernel
theorem kw_1195 : Cond.code yX11_gatherLineFacts prog_1_method_62_code 11 none ∈ uu := uu_in (i := 1195) (by decide +kernel) (by decide +kernel)
theorem kw_1192 : Cond.methodLink "LandSurvey" 259 yX11_gatherLineFacts ∈ uu := uu_in (i := 1192) (by decide +kernel) (by decide +kernel)
theorem kw_1194 : Cond.instanceMethod yX11_gatherLineFacts ∈ uu := uu_in (i := 1194) (by decide +kernel) (by decide +kernel)
theorem kw_42 : Cond.selects "LandSurvey" yX11_gatherLineFacts yX11_gatherLineFacts ∈ uu := uu_in (i := 42) (by decide +kernel) (by decide +kernel)
theorem lk_LandSurvey_259 : lkV "LandSurvey" 259 yX11_gatherLineFacts cX11_gatherLineFacts 11 none 2 := ⟨kw_1192, kw_1194, kw_42, kw_144, kw_1195, okX11_gatherLineFacts⟩
theorem dX11_line_55 : decode cX11_line 55 = .ok (.aload_n 0, 1) := by decide +kernel
theorem dX11_line_56 : decode cX11_line 56 = .ok (.getfield 44, 3) := by decide +kernel
theorem dX11_line_59 : decode cX11_line 59 = .ok (.iconst 2, 1) := by decide +kernel
theorem dX11_line_60 : decode cX11_line 60 = .ok (.aload_n 0, 1) := by decide +kernel
theorem dX11_line_61 : decode cX11_line 61 = .ok (.getfield 74, 3) := by decide +kernel
theorem dX11_line_64 : decode cX11_line 64 = .ok (.invokevirtual 263, 3) := by decide +kernel
theorem dX11_line_67 : decode cX11_line 67 = .ok (.istore 6, 2) := by decide +kernel
theorem dX11_line_69 : decode cX11_line 69 = .ok (.iload 6, 2) := by decide +kernel
theorem dX11_line_71 : decode cX11_line 71 = .ok (.iconst (-1), 1) := by decide +kernel
theorem dX11_line_72 : decode cX11_line 72 = .ok (.if_icmp .eq 14, 3) := by decide +kernel
theorem dX11_line_86 : decode cX11_line 86 = .ok (.aload_n 0, 1) := by decide +kernel
theorem dX11_line_87 : decode cX11_line 87 = .ok (.getfield 74, 3) := by decide +kernel
theorem dX11_line_90 : decode cX11_line 90 = .ok (.bipush 8, 2) := by decide +kernel
theorem dX11_line_92 : decode cX11_line 92 = .ok (.iaload, 1) := by decide +kernel
theorem dX11_line_93 : decode cX11_line 93 = .ok (.sipush 1000, 3) := by decide +kernel
theorem dX11_line_96 : decode cX11_line 96 = .ok (.if_icmp .ne 5, 3) := by decide +kernel
theorem dX11_line_101 : decode cX11_line 101 = .ok (.aload_n 0, 1) := by decide +kernel
theorem dX11_line_102 : decode cX11_line 102 = .ok (.getfield 74, 3) := by decide +kernel
theorem dX11_line_105 : decode cX11_line 105 = .ok (.bipush 9, 2) := by decide +kernel
theorem dX11_line_107 : decode cX11_line 107 = .ok (.iaload, 1) := by decide +kernel
theorem dX11_line_108 : decode cX11_line 108 = .ok (.sipush 1000, 3) := by decide +kernel
theorem dX11_line_111 : decode cX11_line 111 = .ok (.if_icmp .ne 5, 3) := by decide +kernel
theorem dX11_line_116 : decode cX11_line 116 = .ok (.aload_n 0, 1) := by decide +kernel
theorem dX11_line_117 : decode cX11_line 117 = .ok (.getfield 74, 3) := by decide +kernel
theorem dX11_line_120 : decode cX11_line 120 = .ok (.bipush 10, 2) := by decide +kernel
theorem dX11_line_122 : decode cX11_line 122 = .ok (.iaload, 1) := by decide +kernel
theorem dX11_line_123 : decode cX11_line 123 = .ok (.sipush 1000, 3) := by decide +kernel
theorem dX11_line_126 : decode cX11_line 126 = .ok (.if_icmp .ne 7, 3) := by decide +kernel
theorem dX11_line_133 : decode cX11_line 133 = .ok (.iconst 1, 1) := by decide +kernel
theorem dX11_line_134 : decode cX11_line 134 = .ok (.ireturn, 1) := by decide +kernel
theorem dX11_line_129 : decode cX11_line 129 = .ok (.iconst 0, 1) := by decide +kernel
theorem dX11_line_130 : decode cX11_line 130 = .ok (.goto 4, 3) := by decide +kernel
theorem dX11_line_114 : decode cX11_line 114 = .ok (.iconst 2, 1) := by decide +kernel
theorem dX11_line_115 : decode cX11_line 115 = .ok (.ireturn, 1) := by decide +kernel
theorem dX11_line_99 : decode cX11_line 99 = .ok (.iconst 3, 1) := by decide +kernel
theorem dX11_line_100 : decode cX11_line 100 = .ok (.ireturn, 1) := by decide +kernel
theorem dX11_line_75 : decode cX11_line 75 = .ok (.aload_n 0, 1) := by decide +kernel
theorem dX11_line_76 : decode cX11_line 76 = .ok (.getfield 44, 3) := by decide +kernel
theorem dX11_line_79 : decode cX11_line 79 = .ok (.getfield 269, 3) := by decide +kernel
theorem dX11_line_82 : decode cX11_line 82 = .ok (.iload 6, 2) := by decide +kernel
theorem dX11_line_84 : decode cX11_line 84 = .ok (.iaload, 1) := by decide +kernel
theorem dX11_line_85 : decode cX11_line 85 = .ok (.ireturn, 1) := by decide +kernel
abbrev cX11_water : ByteArray := prog_1_method_24_code
def yX11_water : MethodName := ⟨RX11, "water", "(III)I"⟩
theorem okX11_water : yok yX11_water 3 := by decide +kernel
theorem dX11_water_0 : decode cX11_water 0 = .ok (.iload_n 1, 1) := by decide +kernel
theorem dX11_water_1 : decode cX11_water 1 = .ok (.iload_n 2, 1) := by decide +kernel
theorem dX11_water_2 : decode cX11_water 2 = .ok (.invokestatic 85, 3) := by decide +kernel
theorem dX11_water_5 : decode cX11_water 5 = .ok (.istore 4, 2) := by decide +kernel
theorem dX11_water_7 : decode cX11_water 7 = .ok (.iload 4, 2) := by decide +kernel
theorem dX11_water_9 : decode cX11_water 9 = .ok (.iconst (-1), 1) := by decide +kernel
theorem dX11_water_10 : decode cX11_water 10 = .ok (.if_icmp .eq 26, 3) := by decide +kernel
theorem dX11_water_36 : decode cX11_water 36 = .ok (.iconst (-1), 1) := by decide +kernel
theorem dX11_water_37 : decode cX11_water 37 = .ok (.ireturn, 1) := by decide +kernel
theorem dX11_water_13 : decode cX11_water 13 = .ok (.iload_n 3, 1) := by decide +kernel
theorem dX11_water_14 : decode cX11_water 14 = .ok (.ifCond .lt 22, 3) := by decide +kernel
theorem dX11_water_17 : decode cX11_water 17 = .ok (.iload_n 3, 1) := by decide +kernel
theorem dX11_water_18 : decode cX11_water 18 = .ok (.iconst 1, 1) := by decide +kernel
theorem dX11_water_19 : decode cX11_water 19 = .ok (.if_icmp .gt 17, 3) := by decide +kernel
theorem dX11_water_22 : decode cX11_water 22 = .ok (.aload_n 0, 1) := by decide +kernel
theorem dX11_water_23 : decode cX11_water 23 = .ok (.invokevirtual 253, 3) := by decide +kernel
theorem dX11_water_26 : decode cX11_water 26 = .ok (.ifCond .eq 10, 3) := by decide +kernel
theorem dX11_water_29 : decode cX11_water 29 = .ok (.aload_n 0, 1) := by decide +kernel
theorem dX11_water_30 : decode cX11_water 30 = .ok (.invokevirtual 275, 3) := by decide +kernel
theorem kw_1209 : Cond.code yX11_allKeptKnown prog_1_method_57_code 2 (some .boolean) ∈ uu := uu_in (i := 1209) (by decide +kernel) (by decide +kernel)
theorem kw_1206 : Cond.methodLink "LandSurvey" 275 yX11_allKeptKnown ∈ uu := uu_in (i := 1206) (by decide +kernel) (by decide +kernel)
theorem kw_1208 : Cond.instanceMethod yX11_allKeptKnown ∈ uu := uu_in (i := 1208) (by decide +kernel) (by decide +kernel)
theorem kw_43 : Cond.selects "LandSurvey" yX11_allKeptKnown yX11_allKeptKnown ∈ uu := uu_in (i := 43) (by decide +kernel) (by decide +kernel)
theorem lk_LandSurvey_275 : lkV "LandSurvey" 275 yX11_allKeptKnown cX11_allKeptKnown 2 (some .boolean) 0 := ⟨kw_1206, kw_1208, kw_43, kw_144, kw_1209, okX11_allKeptKnown⟩
theorem dX11_water_33 : decode cX11_water 33 = .ok (.ifCond .ne 5, 3) := by decide +kernel
theorem dX11_water_38 : decode cX11_water 38 = .ok (.aload_n 0, 1) := by decide +kernel
theorem dX11_water_39 : decode cX11_water 39 = .ok (.getfield 16, 3) := by decide +kernel
theorem dX11_water_42 : decode cX11_water 42 = .ok (.getfield 96, 3) := by decide +kernel
theorem dX11_water_45 : decode cX11_water 45 = .ok (.iload 4, 2) := by decide +kernel
theorem dX11_water_47 : decode cX11_water 47 = .ok (.baload, 1) := by decide +kernel
theorem dX11_water_48 : decode cX11_water 48 = .ok (.ifCond .eq 7, 3) := by decide +kernel
theorem dX11_water_55 : decode cX11_water 55 = .ok (.iconst 1, 1) := by decide +kernel
theorem dX11_water_56 : decode cX11_water 56 = .ok (.istore 5, 2) := by decide +kernel
theorem dX11_water_58 : decode cX11_water 58 = .ok (.aload_n 0, 1) := by decide +kernel
theorem dX11_water_59 : decode cX11_water 59 = .ok (.getfield 16, 3) := by decide +kernel
theorem dX11_water_62 : decode cX11_water 62 = .ok (.getfield 96, 3) := by decide +kernel
theorem dX11_water_65 : decode cX11_water 65 = .ok (.iload 4, 2) := by decide +kernel
theorem dX11_water_67 : decode cX11_water 67 = .ok (.baload, 1) := by decide +kernel
theorem dX11_water_68 : decode cX11_water 68 = .ok (.ifCond .eq 15, 3) := by decide +kernel
theorem dX11_water_83 : decode cX11_water 83 = .ok (.iconst 0, 1) := by decide +kernel
theorem dX11_water_84 : decode cX11_water 84 = .ok (.istore 6, 2) := by decide +kernel
theorem dX11_water_86 : decode cX11_water 86 = .ok (.iconst 1, 1) := by decide +kernel
theorem dX11_water_87 : decode cX11_water 87 = .ok (.istore 7, 2) := by decide +kernel
theorem dX11_water_89 : decode cX11_water 89 = .ok (.iload 7, 2) := by decide +kernel
theorem dX11_water_91 : decode cX11_water 91 = .ok (.aload_n 0, 1) := by decide +kernel
theorem dX11_water_92 : decode cX11_water 92 = .ok (.getfield 44, 3) := by decide +kernel
theorem dX11_water_95 : decode cX11_water 95 = .ok (.getfield 284, 3) := by decide +kernel
theorem dX11_water_98 : decode cX11_water 98 = .ok (.if_icmp .ge 78, 3) := by decide +kernel
theorem dX11_water_176 : decode cX11_water 176 = .ok (.iconst (-1), 1) := by decide +kernel
theorem dX11_water_177 : decode cX11_water 177 = .ok (.ireturn, 1) := by decide +kernel
theorem dX11_water_101 : decode cX11_water 101 = .ok (.aload_n 0, 1) := by decide +kernel
theorem dX11_water_102 : decode cX11_water 102 = .ok (.getfield 44, 3) := by decide +kernel
theorem dX11_water_105 : decode cX11_water 105 = .ok (.iload 6, 2) := by decide +kernel
theorem dX11_water_107 : decode cX11_water 107 = .ok (.invokevirtual 287, 3) := by decide +kernel
theorem kw_1213 : Cond.code yX5_holdsWater prog_7_method_3_code 2 (some .boolean) ∈ uu := uu_in (i := 1213) (by decide +kernel) (by decide +kernel)
theorem kw_1210 : Cond.methodLink "LandSurvey" 287 yX5_holdsWater ∈ uu := uu_in (i := 1210) (by decide +kernel) (by decide +kernel)
theorem kw_1211 : Cond.instanceMethod yX5_holdsWater ∈ uu := uu_in (i := 1211) (by decide +kernel) (by decide +kernel)
theorem kw_1212 : Cond.selects "LandSurvey$Rules" yX5_holdsWater yX5_holdsWater ∈ uu := uu_in (i := 1212) (by decide +kernel) (by decide +kernel)
theorem lk_LandSurvey_287 : lkV "LandSurvey" 287 yX5_holdsWater cX5_holdsWater 2 (some .boolean) 1 := ⟨kw_1210, kw_1211, kw_1212, kw_149, kw_1213, okX5_holdsWater⟩
theorem dX11_water_110 : decode cX11_water 110 = .ok (.ifCond .eq 53, 3) := by decide +kernel
theorem dX11_water_163 : decode cX11_water 163 = .ok (.iload 6, 2) := by decide +kernel
theorem dX11_water_165 : decode cX11_water 165 = .ok (.iload 5, 2) := by decide +kernel
theorem dX11_water_167 : decode cX11_water 167 = .ok (.iadd, 1) := by decide +kernel
theorem dX11_water_168 : decode cX11_water 168 = .ok (.istore 6, 2) := by decide +kernel
theorem dX11_water_170 : decode cX11_water 170 = .ok (.iinc 7 1, 3) := by decide +kernel
theorem dX11_water_173 : decode cX11_water 173 = .ok (.goto (-84), 3) := by decide +kernel
theorem dX11_water_113 : decode cX11_water 113 = .ok (.aload_n 0, 1) := by decide +kernel
theorem dX11_water_114 : decode cX11_water 114 = .ok (.getfield 44, 3) := by decide +kernel
theorem dX11_water_117 : decode cX11_water 117 = .ok (.iload 6, 2) := by decide +kernel
theorem dX11_water_119 : decode cX11_water 119 = .ok (.iload 5, 2) := by decide +kernel
theorem dX11_water_121 : decode cX11_water 121 = .ok (.iadd, 1) := by decide +kernel
theorem dX11_water_122 : decode cX11_water 122 = .ok (.invokevirtual 290, 3) := by decide +kernel
theorem kw_1217 : Cond.code yX5_isTight prog_7_method_4_code 2 (some .boolean) ∈ uu := uu_in (i := 1217) (by decide +kernel) (by decide +kernel)
theorem kw_1214 : Cond.methodLink "LandSurvey" 290 yX5_isTight ∈ uu := uu_in (i := 1214) (by decide +kernel) (by decide +kernel)
theorem kw_1215 : Cond.instanceMethod yX5_isTight ∈ uu := uu_in (i := 1215) (by decide +kernel) (by decide +kernel)
theorem kw_1216 : Cond.selects "LandSurvey$Rules" yX5_isTight yX5_isTight ∈ uu := uu_in (i := 1216) (by decide +kernel) (by decide +kernel)
theorem lk_LandSurvey_290 : lkV "LandSurvey" 290 yX5_isTight cX5_isTight 2 (some .boolean) 1 := ⟨kw_1214, kw_1215, kw_1216, kw_149, kw_1217, okX5_isTight⟩
theorem dX11_water_125 : decode cX11_water 125 = .ok (.ifCond .eq 38, 3) := by decide +kernel
theorem dX11_water_128 : decode cX11_water 128 = .ok (.aload_n 0, 1) := by decide +kernel
theorem dX11_water_129 : decode cX11_water 129 = .ok (.iload 4, 2) := by decide +kernel
theorem dX11_water_131 : decode cX11_water 131 = .ok (.iload 6, 2) := by decide +kernel
theorem dX11_water_133 : decode cX11_water 133 = .ok (.invokevirtual 293, 3) := by decide +kernel
theorem dX11_water_136 : decode cX11_water 136 = .ok (.ifCond .lt 27, 3) := by decide +kernel
theorem dX11_water_139 : decode cX11_water 139 = .ok (.iload_n 3, 1) := by decide +kernel
theorem dX11_water_140 : decode cX11_water 140 = .ok (.ifCond .ne 14, 3) := by decide +kernel
theorem dX11_water_154 : decode cX11_water 154 = .ok (.aload_n 0, 1) := by decide +kernel
theorem dX11_water_155 : decode cX11_water 155 = .ok (.iload 4, 2) := by decide +kernel
theorem dX11_water_157 : decode cX11_water 157 = .ok (.iload 6, 2) := by decide +kernel
theorem dX11_water_159 : decode cX11_water 159 = .ok (.invokevirtual 296, 3) := by decide +kernel
theorem dX11_water_162 : decode cX11_water 162 = .ok (.ireturn, 1) := by decide +kernel
theorem dX11_water_143 : decode cX11_water 143 = .ok (.aload_n 0, 1) := by decide +kernel
theorem dX11_water_144 : decode cX11_water 144 = .ok (.iload 4, 2) := by decide +kernel
theorem dX11_water_146 : decode cX11_water 146 = .ok (.iload 6, 2) := by decide +kernel
theorem dX11_water_148 : decode cX11_water 148 = .ok (.invokevirtual 293, 3) := by decide +kernel
theorem dX11_water_151 : decode cX11_water 151 = .ok (.goto 11, 3) := by decide +kernel
theorem dX11_water_51 : decode cX11_water 51 = .ok (.iconst (-1), 1) := by decide +kernel
theorem dX11_water_52 : decode cX11_water 52 = .ok (.goto 4, 3) := by decide +kernel
theorem dX11_water_71 : decode cX11_water 71 = .ok (.aload_n 0, 1) := by decide +kernel
theorem dX11_water_72 : decode cX11_water 72 = .ok (.getfield 44, 3) := by decide +kernel
theorem dX11_water_75 : decode cX11_water 75 = .ok (.getfield 284, 3) := by decide +kernel
theorem dX11_water_78 : decode cX11_water 78 = .ok (.iconst 1, 1) := by decide +kernel
theorem dX11_water_79 : decode cX11_water 79 = .ok (.isub, 1) := by decide +kernel
theorem dX11_water_80 : decode cX11_water 80 = .ok (.goto 4, 3) := by decide +kernel
abbrev cX11_seam : ByteArray := prog_1_method_25_code
def yX11_seam : MethodName := ⟨RX11, "seam", "(III)I"⟩
theorem okX11_seam : yok yX11_seam 3 := by decide +kernel
theorem dX11_seam_0 : decode cX11_seam 0 = .ok (.iload_n 2, 1) := by decide +kernel
theorem dX11_seam_1 : decode cX11_seam 1 = .ok (.ifCond .lt 17, 3) := by decide +kernel
theorem dX11_seam_18 : decode cX11_seam 18 = .ok (.iconst (-1), 1) := by decide +kernel
theorem dX11_seam_19 : decode cX11_seam 19 = .ok (.ireturn, 1) := by decide +kernel
theorem dX11_seam_4 : decode cX11_seam 4 = .ok (.iload_n 2, 1) := by decide +kernel
theorem dX11_seam_5 : decode cX11_seam 5 = .ok (.iconst 4, 1) := by decide +kernel
theorem dX11_seam_6 : decode cX11_seam 6 = .ok (.if_icmp .ge 12, 3) := by decide +kernel
theorem dX11_seam_9 : decode cX11_seam 9 = .ok (.iload_n 3, 1) := by decide +kernel
theorem dX11_seam_10 : decode cX11_seam 10 = .ok (.ifCond .lt 8, 3) := by decide +kernel
theorem dX11_seam_13 : decode cX11_seam 13 = .ok (.iload_n 3, 1) := by decide +kernel
theorem dX11_seam_14 : decode cX11_seam 14 = .ok (.iconst 1, 1) := by decide +kernel
theorem dX11_seam_15 : decode cX11_seam 15 = .ok (.if_icmp .le 5, 3) := by decide +kernel
theorem dX11_seam_20 : decode cX11_seam 20 = .ok (.aload_n 0, 1) := by decide +kernel
theorem dX11_seam_21 : decode cX11_seam 21 = .ok (.invokevirtual 253, 3) := by decide +kernel
theorem dX11_seam_24 : decode cX11_seam 24 = .ok (.ifCond .eq 18, 3) := by decide +kernel
theorem dX11_seam_42 : decode cX11_seam 42 = .ok (.iconst (-1), 1) := by decide +kernel
theorem dX11_seam_43 : decode cX11_seam 43 = .ok (.ireturn, 1) := by decide +kernel
theorem dX11_seam_27 : decode cX11_seam 27 = .ok (.aload_n 0, 1) := by decide +kernel
theorem dX11_seam_28 : decode cX11_seam 28 = .ok (.iload_n 1, 1) := by decide +kernel
theorem dX11_seam_29 : decode cX11_seam 29 = .ok (.invokevirtual 272, 3) := by decide +kernel
theorem kw_1247 : Cond.code yX11_isRock prog_1_method_42_code 2 (some .boolean) ∈ uu := uu_in (i := 1247) (by decide +kernel) (by decide +kernel)
theorem kw_1244 : Cond.methodLink "LandSurvey" 272 yX11_isRock ∈ uu := uu_in (i := 1244) (by decide +kernel) (by decide +kernel)
theorem kw_1246 : Cond.instanceMethod yX11_isRock ∈ uu := uu_in (i := 1246) (by decide +kernel) (by decide +kernel)
theorem kw_48 : Cond.selects "LandSurvey" yX11_isRock yX11_isRock ∈ uu := uu_in (i := 48) (by decide +kernel) (by decide +kernel)
theorem lk_LandSurvey_272 : lkV "LandSurvey" 272 yX11_isRock cX11_isRock 2 (some .boolean) 1 := ⟨kw_1244, kw_1246, kw_48, kw_144, kw_1247, okX11_isRock⟩
theorem dX11_seam_32 : decode cX11_seam 32 = .ok (.ifCond .eq 10, 3) := by decide +kernel
theorem dX11_seam_35 : decode cX11_seam 35 = .ok (.aload_n 0, 1) := by decide +kernel
theorem dX11_seam_36 : decode cX11_seam 36 = .ok (.invokevirtual 275, 3) := by decide +kernel
theorem dX11_seam_39 : decode cX11_seam 39 = .ok (.ifCond .ne 5, 3) := by decide +kernel
theorem dX11_seam_44 : decode cX11_seam 44 = .ok (.iconst 0, 1) := by decide +kernel
theorem dX11_seam_45 : decode cX11_seam 45 = .ok (.istore 4, 2) := by decide +kernel
theorem dX11_seam_47 : decode cX11_seam 47 = .ok (.iconst 0, 1) := by decide +kernel
theorem dX11_seam_48 : decode cX11_seam 48 = .ok (.istore 5, 2) := by decide +kernel
theorem dX11_seam_50 : decode cX11_seam 50 = .ok (.iload 5, 2) := by decide +kernel
theorem dX11_seam_52 : decode cX11_seam 52 = .ok (.bipush 96, 2) := by decide +kernel
theorem dX11_seam_54 : decode cX11_seam 54 = .ok (.if_icmp .ge 49, 3) := by decide +kernel
theorem dX11_seam_103 : decode cX11_seam 103 = .ok (.iload 4, 2) := by decide +kernel
theorem dX11_seam_105 : decode cX11_seam 105 = .ok (.ireturn, 1) := by decide +kernel
theorem dX11_seam_57 : decode cX11_seam 57 = .ok (.aload_n 0, 1) := by decide +kernel
theorem dX11_seam_58 : decode cX11_seam 58 = .ok (.getfield 16, 3) := by decide +kernel
theorem dX11_seam_61 : decode cX11_seam 61 = .ok (.getfield 99, 3) := by decide +kernel
theorem dX11_seam_64 : decode cX11_seam 64 = .ok (.iload 5, 2) := by decide +kernel
theorem dX11_seam_66 : decode cX11_seam 66 = .ok (.iaload, 1) := by decide +kernel
theorem dX11_seam_67 : decode cX11_seam 67 = .ok (.iload_n 2, 1) := by decide +kernel
theorem dX11_seam_68 : decode cX11_seam 68 = .ok (.if_icmp .ne 29, 3) := by decide +kernel
theorem dX11_seam_97 : decode cX11_seam 97 = .ok (.iinc 5 1, 3) := by decide +kernel
theorem dX11_seam_100 : decode cX11_seam 100 = .ok (.goto (-50), 3) := by decide +kernel
theorem dX11_seam_71 : decode cX11_seam 71 = .ok (.iload 4, 2) := by decide +kernel
theorem dX11_seam_73 : decode cX11_seam 73 = .ok (.iload_n 3, 1) := by decide +kernel
theorem dX11_seam_74 : decode cX11_seam 74 = .ok (.ifCond .ne 13, 3) := by decide +kernel
theorem dX11_seam_87 : decode cX11_seam 87 = .ok (.aload_n 0, 1) := by decide +kernel
theorem dX11_seam_88 : decode cX11_seam 88 = .ok (.iload 5, 2) := by decide +kernel
theorem dX11_seam_90 : decode cX11_seam 90 = .ok (.iload_n 1, 1) := by decide +kernel
theorem dX11_seam_91 : decode cX11_seam 91 = .ok (.invokevirtual 302, 3) := by decide +kernel
theorem kw_1259 : Cond.code yX11_perhapsThick prog_1_method_70_code 3 (some .int) ∈ uu := uu_in (i := 1259) (by decide +kernel) (by decide +kernel)
theorem kw_1256 : Cond.methodLink "LandSurvey" 302 yX11_perhapsThick ∈ uu := uu_in (i := 1256) (by decide +kernel) (by decide +kernel)
theorem kw_1258 : Cond.instanceMethod yX11_perhapsThick ∈ uu := uu_in (i := 1258) (by decide +kernel) (by decide +kernel)
theorem kw_51 : Cond.selects "LandSurvey" yX11_perhapsThick yX11_perhapsThick ∈ uu := uu_in (i := 51) (by decide +kernel) (by decide +kernel)
theorem lk_LandSurvey_302 : lkV "LandSurvey" 302 yX11_perhapsThick cX11_perhapsThick 3 (some .int) 2 := ⟨kw_1256, kw_1258, kw_51, kw_144, kw_1259, okX11_perhapsThick⟩
theorem dX11_seam_94 : decode cX11_seam 94 = .ok (.iadd, 1) := by decide +kernel
theorem dX11_seam_95 : decode cX11_seam 95 = .ok (.istore 4, 2) := by decide +kernel
theorem dX11_seam_77 : decode cX11_seam 77 = .ok (.aload_n 0, 1) := by decide +kernel
theorem dX11_seam_78 : decode cX11_seam 78 = .ok (.iload 5, 2) := by decide +kernel
theorem dX11_seam_80 : decode cX11_seam 80 = .ok (.iload_n 1, 1) := by decide +kernel
theorem dX11_seam_81 : decode cX11_seam 81 = .ok (.invokevirtual 299, 3) := by decide +kernel
theorem kw_1251 : Cond.code yX11_surelyThick prog_1_method_69_code 3 (some .int) ∈ uu := uu_in (i := 1251) (by decide +kernel) (by decide +kernel)
theorem kw_1248 : Cond.methodLink "LandSurvey" 299 yX11_surelyThick ∈ uu := uu_in (i := 1248) (by decide +kernel) (by decide +kernel)
theorem kw_1250 : Cond.instanceMethod yX11_surelyThick ∈ uu := uu_in (i := 1250) (by decide +kernel) (by decide +kernel)
theorem kw_49 : Cond.selects "LandSurvey" yX11_surelyThick yX11_surelyThick ∈ uu := uu_in (i := 49) (by decide +kernel) (by decide +kernel)
theorem lk_LandSurvey_299 : lkV "LandSurvey" 299 yX11_surelyThick cX11_surelyThick 3 (some .int) 2 := ⟨kw_1248, kw_1250, kw_49, kw_144, kw_1251, okX11_surelyThick⟩
theorem dX11_seam_84 : decode cX11_seam 84 = .ok (.goto 10, 3) := by decide +kernel
abbrev cX11_drawn : ByteArray := prog_1_method_27_code
def yX11_drawn : MethodName := ⟨RX11, "drawn", "(III)I"⟩
theorem okX11_drawn : yok yX11_drawn 3 := by decide +kernel
theorem dX11_drawn_0 : decode cX11_drawn 0 = .ok (.iload_n 2, 1) := by decide +kernel
theorem dX11_drawn_1 : decode cX11_drawn 1 = .ok (.iload_n 3, 1) := by decide +kernel
theorem dX11_drawn_2 : decode cX11_drawn 2 = .ok (.invokestatic 85, 3) := by decide +kernel
theorem dX11_drawn_5 : decode cX11_drawn 5 = .ok (.istore 4, 2) := by decide +kernel
theorem dX11_drawn_7 : decode cX11_drawn 7 = .ok (.iload 4, 2) := by decide +kernel
theorem dX11_drawn_9 : decode cX11_drawn 9 = .ok (.iconst (-1), 1) := by decide +kernel
theorem dX11_drawn_10 : decode cX11_drawn 10 = .ok (.if_icmp .eq 11, 3) := by decide +kernel
theorem dX11_drawn_21 : decode cX11_drawn 21 = .ok (.iconst (-1), 1) := by decide +kernel
theorem dX11_drawn_22 : decode cX11_drawn 22 = .ok (.goto 15, 3) := by decide +kernel
theorem dX11_drawn_37 : decode cX11_drawn 37 = .ok (.ireturn, 1) := by decide +kernel
theorem dX11_drawn_13 : decode cX11_drawn 13 = .ok (.aload_n 0, 1) := by decide +kernel
theorem dX11_drawn_14 : decode cX11_drawn 14 = .ok (.iload_n 1, 1) := by decide +kernel
theorem dX11_drawn_15 : decode cX11_drawn 15 = .ok (.invokevirtual 312, 3) := by decide +kernel
theorem kw_1282 : Cond.code yX11_isSheet prog_1_method_41_code 2 (some .boolean) ∈ uu := uu_in (i := 1282) (by decide +kernel) (by decide +kernel)
theorem kw_1279 : Cond.methodLink "LandSurvey" 312 yX11_isSheet ∈ uu := uu_in (i := 1279) (by decide +kernel) (by decide +kernel)
theorem kw_1281 : Cond.instanceMethod yX11_isSheet ∈ uu := uu_in (i := 1281) (by decide +kernel) (by decide +kernel)
theorem kw_52 : Cond.selects "LandSurvey" yX11_isSheet yX11_isSheet ∈ uu := uu_in (i := 52) (by decide +kernel) (by decide +kernel)
theorem lk_LandSurvey_312 : lkV "LandSurvey" 312 yX11_isSheet cX11_isSheet 2 (some .boolean) 1 := ⟨kw_1279, kw_1281, kw_52, kw_144, kw_1282, okX11_isSheet⟩
theorem dX11_drawn_18 : decode cX11_drawn 18 = .ok (.ifCond .ne 7, 3) := by decide +kernel
theorem dX11_drawn_25 : decode cX11_drawn 25 = .ok (.aload_n 0, 1) := by decide +kernel
theorem dX11_drawn_26 : decode cX11_drawn 26 = .ok (.getfield 55, 3) := by decide +kernel
theorem kw_479 : Cond.fieldLink "LandSurvey" 55 "LandSurvey" "sheets" "[LLandSurvey$Sheet;" ∈ uu := uu_in (i := 479) (by decide +kernel) (by decide +kernel)
theorem fk_LandSurvey_55 : fkR "LandSurvey" 55 10 11 RX11 TX11 19 := ⟨rfl, rfl, inX11, by decide, kw_479, by decide⟩
theorem dX11_drawn_29 : decode cX11_drawn 29 = .ok (.iload_n 1, 1) := by decide +kernel
theorem dX11_drawn_30 : decode cX11_drawn 30 = .ok (.aaload, 1) := by decide +kernel
theorem dX11_drawn_31 : decode cX11_drawn 31 = .ok (.getfield 309, 3) := by decide +kernel
theorem kw_1271 : Cond.fieldLink "LandSurvey" 309 "LandSurvey$Sheet" "bits" "[I" ∈ uu := uu_in (i := 1271) (by decide +kernel) (by decide +kernel)
theorem fk_LandSurvey_309 : fkR "LandSurvey" 309 7 0 RX7 TX7 1 := ⟨rfl, rfl, inX7, by decide, kw_1271, by decide⟩
theorem dX11_drawn_34 : decode cX11_drawn 34 = .ok (.iload 4, 2) := by decide +kernel
theorem dX11_drawn_36 : decode cX11_drawn 36 = .ok (.iaload, 1) := by decide +kernel
abbrev cX11_quarrel : ByteArray := prog_1_method_28_code
def yX11_quarrel : MethodName := ⟨RX11, "quarrel", "(II)I"⟩
theorem okX11_quarrel : yok yX11_quarrel 2 := by decide +kernel
theorem dX11_quarrel_0 : decode cX11_quarrel 0 = .ok (.aload_n 0, 1) := by decide +kernel
theorem dX11_quarrel_1 : decode cX11_quarrel 1 = .ok (.iload_n 1, 1) := by decide +kernel
theorem dX11_quarrel_2 : decode cX11_quarrel 2 = .ok (.invokevirtual 312, 3) := by decide +kernel
theorem dX11_quarrel_5 : decode cX11_quarrel 5 = .ok (.ifCond .eq 11, 3) := by decide +kernel
theorem dX11_quarrel_16 : decode cX11_quarrel 16 = .ok (.iconst (-1), 1) := by decide +kernel
theorem dX11_quarrel_17 : decode cX11_quarrel 17 = .ok (.ireturn, 1) := by decide +kernel
theorem dX11_quarrel_8 : decode cX11_quarrel 8 = .ok (.aload_n 0, 1) := by decide +kernel
theorem dX11_quarrel_9 : decode cX11_quarrel 9 = .ok (.iload_n 2, 1) := by decide +kernel
theorem dX11_quarrel_10 : decode cX11_quarrel 10 = .ok (.invokevirtual 312, 3) := by decide +kernel
theorem dX11_quarrel_13 : decode cX11_quarrel 13 = .ok (.ifCond .ne 5, 3) := by decide +kernel
theorem dX11_quarrel_18 : decode cX11_quarrel 18 = .ok (.iconst 0, 1) := by decide +kernel
theorem dX11_quarrel_19 : decode cX11_quarrel 19 = .ok (.istore_n 3, 1) := by decide +kernel
theorem dX11_quarrel_20 : decode cX11_quarrel 20 = .ok (.iconst 0, 1) := by decide +kernel
theorem dX11_quarrel_21 : decode cX11_quarrel 21 = .ok (.istore 4, 2) := by decide +kernel
theorem dX11_quarrel_23 : decode cX11_quarrel 23 = .ok (.iload 4, 2) := by decide +kernel
theorem dX11_quarrel_25 : decode cX11_quarrel 25 = .ok (.bipush 96, 2) := by decide +kernel
theorem dX11_quarrel_27 : decode cX11_quarrel 27 = .ok (.if_icmp .ge 60, 3) := by decide +kernel
theorem dX11_quarrel_87 : decode cX11_quarrel 87 = .ok (.iload_n 3, 1) := by decide +kernel
theorem dX11_quarrel_88 : decode cX11_quarrel 88 = .ok (.ireturn, 1) := by decide +kernel
theorem dX11_quarrel_30 : decode cX11_quarrel 30 = .ok (.aload_n 0, 1) := by decide +kernel
theorem dX11_quarrel_31 : decode cX11_quarrel 31 = .ok (.getfield 55, 3) := by decide +kernel
theorem dX11_quarrel_34 : decode cX11_quarrel 34 = .ok (.iload_n 1, 1) := by decide +kernel
theorem dX11_quarrel_35 : decode cX11_quarrel 35 = .ok (.aaload, 1) := by decide +kernel
theorem dX11_quarrel_36 : decode cX11_quarrel 36 = .ok (.getfield 309, 3) := by decide +kernel
theorem dX11_quarrel_39 : decode cX11_quarrel 39 = .ok (.iload 4, 2) := by decide +kernel
theorem dX11_quarrel_41 : decode cX11_quarrel 41 = .ok (.iaload, 1) := by decide +kernel
theorem dX11_quarrel_42 : decode cX11_quarrel 42 = .ok (.istore 5, 2) := by decide +kernel
theorem dX11_quarrel_44 : decode cX11_quarrel 44 = .ok (.aload_n 0, 1) := by decide +kernel
theorem dX11_quarrel_45 : decode cX11_quarrel 45 = .ok (.getfield 55, 3) := by decide +kernel
theorem dX11_quarrel_48 : decode cX11_quarrel 48 = .ok (.iload_n 2, 1) := by decide +kernel
theorem dX11_quarrel_49 : decode cX11_quarrel 49 = .ok (.aaload, 1) := by decide +kernel
theorem dX11_quarrel_50 : decode cX11_quarrel 50 = .ok (.getfield 309, 3) := by decide +kernel
theorem dX11_quarrel_53 : decode cX11_quarrel 53 = .ok (.iload 4, 2) := by decide +kernel
theorem dX11_quarrel_55 : decode cX11_quarrel 55 = .ok (.iaload, 1) := by decide +kernel
theorem dX11_quarrel_56 : decode cX11_quarrel 56 = .ok (.istore 6, 2) := by decide +kernel
theorem dX11_quarrel_58 : decode cX11_quarrel 58 = .ok (.iload 5, 2) := by decide +kernel
theorem dX11_quarrel_60 : decode cX11_quarrel 60 = .ok (.iconst (-1), 1) := by decide +kernel
theorem dX11_quarrel_61 : decode cX11_quarrel 61 = .ok (.if_icmp .eq 20, 3) := by decide +kernel
theorem dX11_quarrel_81 : decode cX11_quarrel 81 = .ok (.iinc 4 1, 3) := by decide +kernel
theorem dX11_quarrel_84 : decode cX11_quarrel 84 = .ok (.goto (-61), 3) := by decide +kernel
theorem dX11_quarrel_64 : decode cX11_quarrel 64 = .ok (.iload 6, 2) := by decide +kernel
theorem dX11_quarrel_66 : decode cX11_quarrel 66 = .ok (.iconst (-1), 1) := by decide +kernel
theorem dX11_quarrel_67 : decode cX11_quarrel 67 = .ok (.if_icmp .eq 14, 3) := by decide +kernel
theorem dX11_quarrel_70 : decode cX11_quarrel 70 = .ok (.iload 5, 2) := by decide +kernel
theorem dX11_quarrel_72 : decode cX11_quarrel 72 = .ok (.iload 6, 2) := by decide +kernel
theorem dX11_quarrel_74 : decode cX11_quarrel 74 = .ok (.iand, 1) := by decide +kernel
theorem dX11_quarrel_75 : decode cX11_quarrel 75 = .ok (.ifCond .ne 6, 3) := by decide +kernel
theorem dX11_quarrel_78 : decode cX11_quarrel 78 = .ok (.iinc 3 1, 3) := by decide +kernel
abbrev cX11_stale : ByteArray := prog_1_method_29_code
def yX11_stale : MethodName := ⟨RX11, "stale", "(I)I"⟩
theorem okX11_stale : yok yX11_stale 1 := by decide +kernel
theorem dX11_stale_0 : decode cX11_stale 0 = .ok (.aload_n 0, 1) := by decide +kernel
theorem dX11_stale_1 : decode cX11_stale 1 = .ok (.iload_n 1, 1) := by decide +kernel
theorem dX11_stale_2 : decode cX11_stale 2 = .ok (.invokevirtual 312, 3) := by decide +kernel
theorem dX11_stale_5 : decode cX11_stale 5 = .ok (.ifCond .eq 10, 3) := by decide +kernel
theorem dX11_stale_15 : decode cX11_stale 15 = .ok (.iconst (-1), 1) := by decide +kernel
theorem dX11_stale_16 : decode cX11_stale 16 = .ok (.ireturn, 1) := by decide +kernel
theorem dX11_stale_8 : decode cX11_stale 8 = .ok (.aload_n 0, 1) := by decide +kernel
theorem dX11_stale_9 : decode cX11_stale 9 = .ok (.invokevirtual 253, 3) := by decide +kernel
theorem dX11_stale_12 : decode cX11_stale 12 = .ok (.ifCond .ne 5, 3) := by decide +kernel
theorem dX11_stale_17 : decode cX11_stale 17 = .ok (.iconst 0, 1) := by decide +kernel
theorem dX11_stale_18 : decode cX11_stale 18 = .ok (.istore_n 2, 1) := by decide +kernel
theorem dX11_stale_19 : decode cX11_stale 19 = .ok (.iconst 0, 1) := by decide +kernel
theorem dX11_stale_20 : decode cX11_stale 20 = .ok (.istore_n 3, 1) := by decide +kernel
theorem dX11_stale_21 : decode cX11_stale 21 = .ok (.iload_n 3, 1) := by decide +kernel
theorem dX11_stale_22 : decode cX11_stale 22 = .ok (.bipush 96, 2) := by decide +kernel
theorem dX11_stale_24 : decode cX11_stale 24 = .ok (.if_icmp .ge 42, 3) := by decide +kernel
theorem dX11_stale_66 : decode cX11_stale 66 = .ok (.iload_n 2, 1) := by decide +kernel
theorem dX11_stale_67 : decode cX11_stale 67 = .ok (.ireturn, 1) := by decide +kernel
theorem dX11_stale_27 : decode cX11_stale 27 = .ok (.aload_n 0, 1) := by decide +kernel
theorem dX11_stale_28 : decode cX11_stale 28 = .ok (.getfield 55, 3) := by decide +kernel
theorem dX11_stale_31 : decode cX11_stale 31 = .ok (.iload_n 1, 1) := by decide +kernel
theorem dX11_stale_32 : decode cX11_stale 32 = .ok (.aaload, 1) := by decide +kernel
theorem dX11_stale_33 : decode cX11_stale 33 = .ok (.getfield 309, 3) := by decide +kernel
theorem dX11_stale_36 : decode cX11_stale 36 = .ok (.iload_n 3, 1) := by decide +kernel
theorem dX11_stale_37 : decode cX11_stale 37 = .ok (.iaload, 1) := by decide +kernel
theorem dX11_stale_38 : decode cX11_stale 38 = .ok (.istore 4, 2) := by decide +kernel
theorem dX11_stale_40 : decode cX11_stale 40 = .ok (.iload 4, 2) := by decide +kernel
theorem dX11_stale_42 : decode cX11_stale 42 = .ok (.iconst (-1), 1) := by decide +kernel
theorem dX11_stale_43 : decode cX11_stale 43 = .ok (.if_icmp .eq 17, 3) := by decide +kernel
theorem dX11_stale_60 : decode cX11_stale 60 = .ok (.iinc 3 1, 3) := by decide +kernel
theorem dX11_stale_63 : decode cX11_stale 63 = .ok (.goto (-42), 3) := by decide +kernel
theorem dX11_stale_46 : decode cX11_stale 46 = .ok (.iload 4, 2) := by decide +kernel
theorem dX11_stale_48 : decode cX11_stale 48 = .ok (.aload_n 0, 1) := by decide +kernel
theorem dX11_stale_49 : decode cX11_stale 49 = .ok (.iload_n 3, 1) := by decide +kernel
theorem dX11_stale_50 : decode cX11_stale 50 = .ok (.iconst 0, 1) := by decide +kernel
theorem dX11_stale_51 : decode cX11_stale 51 = .ok (.invokevirtual 256, 3) := by decide +kernel
theorem dX11_stale_54 : decode cX11_stale 54 = .ok (.if_icmp .eq 6, 3) := by decide +kernel
theorem dX11_stale_57 : decode cX11_stale 57 = .ok (.iinc 2 1, 3) := by decide +kernel
abbrev cX11_doubles : ByteArray := prog_1_method_30_code
def yX11_doubles : MethodName := ⟨RX11, "doubles", "(III)I"⟩
theorem okX11_doubles : yok yX11_doubles 3 := by decide +kernel
theorem dX11_doubles_0 : decode cX11_doubles 0 = .ok (.iload_n 1, 1) := by decide +kernel
theorem dX11_doubles_1 : decode cX11_doubles 1 = .ok (.invokestatic 315, 3) := by decide +kernel
theorem kw_1297 : Cond.code yX11_isHand prog_1_method_44_code 1 (some .boolean) ∈ uu := uu_in (i := 1297) (by decide +kernel) (by decide +kernel)
theorem kw_1295 : Cond.methodLink "LandSurvey" 315 yX11_isHand ∈ uu := uu_in (i := 1295) (by decide +kernel) (by decide +kernel)
theorem kw_1296 : Cond.static yX11_isHand ∈ uu := uu_in (i := 1296) (by decide +kernel) (by decide +kernel)
theorem lk_LandSurvey_315 : lkS "LandSurvey" 315 yX11_isHand cX11_isHand 1 (some .boolean) 1 := ⟨kw_1295, kw_1296, kw_144, kw_1297, okX11_isHand⟩
theorem dX11_doubles_4 : decode cX11_doubles 4 = .ok (.ifCond .eq 24, 3) := by decide +kernel
theorem dX11_doubles_28 : decode cX11_doubles 28 = .ok (.iconst (-1), 1) := by decide +kernel
theorem dX11_doubles_29 : decode cX11_doubles 29 = .ok (.ireturn, 1) := by decide +kernel
theorem dX11_doubles_7 : decode cX11_doubles 7 = .ok (.iload_n 2, 1) := by decide +kernel
theorem dX11_doubles_8 : decode cX11_doubles 8 = .ok (.invokestatic 315, 3) := by decide +kernel
theorem dX11_doubles_11 : decode cX11_doubles 11 = .ok (.ifCond .eq 17, 3) := by decide +kernel
theorem dX11_doubles_14 : decode cX11_doubles 14 = .ok (.iload_n 1, 1) := by decide +kernel
theorem dX11_doubles_15 : decode cX11_doubles 15 = .ok (.iload_n 2, 1) := by decide +kernel
theorem dX11_doubles_16 : decode cX11_doubles 16 = .ok (.if_icmp .eq 12, 3) := by decide +kernel
theorem dX11_doubles_19 : decode cX11_doubles 19 = .ok (.iload_n 3, 1) := by decide +kernel
theorem dX11_doubles_20 : decode cX11_doubles 20 = .ok (.ifCond .lt 8, 3) := by decide +kernel
theorem dX11_doubles_23 : decode cX11_doubles 23 = .ok (.iload_n 3, 1) := by decide +kernel
theorem dX11_doubles_24 : decode cX11_doubles 24 = .ok (.iconst 1, 1) := by decide +kernel
theorem dX11_doubles_25 : decode cX11_doubles 25 = .ok (.if_icmp .le 5, 3) := by decide +kernel
theorem dX11_doubles_30 : decode cX11_doubles 30 = .ok (.aload_n 0, 1) := by decide +kernel
theorem dX11_doubles_31 : decode cX11_doubles 31 = .ok (.invokevirtual 169, 3) := by decide +kernel
theorem dX11_doubles_34 : decode cX11_doubles 34 = .ok (.iconst 0, 1) := by decide +kernel
theorem dX11_doubles_35 : decode cX11_doubles 35 = .ok (.istore 4, 2) := by decide +kernel
theorem dX11_doubles_37 : decode cX11_doubles 37 = .ok (.iconst 0, 1) := by decide +kernel
theorem dX11_doubles_38 : decode cX11_doubles 38 = .ok (.istore 5, 2) := by decide +kernel
theorem dX11_doubles_40 : decode cX11_doubles 40 = .ok (.iload 5, 2) := by decide +kernel
theorem dX11_doubles_42 : decode cX11_doubles 42 = .ok (.aload_n 0, 1) := by decide +kernel
theorem dX11_doubles_43 : decode cX11_doubles 43 = .ok (.getfield 102, 3) := by decide +kernel
theorem dX11_doubles_46 : decode cX11_doubles 46 = .ok (.if_icmp .ge 112, 3) := by decide +kernel
theorem dX11_doubles_158 : decode cX11_doubles 158 = .ok (.iload 4, 2) := by decide +kernel
theorem dX11_doubles_160 : decode cX11_doubles 160 = .ok (.ireturn, 1) := by decide +kernel
theorem dX11_doubles_49 : decode cX11_doubles 49 = .ok (.iconst 0, 1) := by decide +kernel
theorem dX11_doubles_50 : decode cX11_doubles 50 = .ok (.istore 6, 2) := by decide +kernel
theorem dX11_doubles_52 : decode cX11_doubles 52 = .ok (.iload 6, 2) := by decide +kernel
theorem dX11_doubles_54 : decode cX11_doubles 54 = .ok (.aload_n 0, 1) := by decide +kernel
theorem dX11_doubles_55 : decode cX11_doubles 55 = .ok (.getfield 102, 3) := by decide +kernel
theorem dX11_doubles_58 : decode cX11_doubles 58 = .ok (.if_icmp .ge 94, 3) := by decide +kernel
theorem dX11_doubles_152 : decode cX11_doubles 152 = .ok (.iinc 5 1, 3) := by decide +kernel
theorem dX11_doubles_155 : decode cX11_doubles 155 = .ok (.goto (-115), 3) := by decide +kernel
theorem dX11_doubles_61 : decode cX11_doubles 61 = .ok (.aload_n 0, 1) := by decide +kernel
theorem dX11_doubles_62 : decode cX11_doubles 62 = .ok (.getfield 22, 3) := by decide +kernel
theorem dX11_doubles_65 : decode cX11_doubles 65 = .ok (.iload 5, 2) := by decide +kernel
theorem dX11_doubles_67 : decode cX11_doubles 67 = .ok (.aaload, 1) := by decide +kernel
theorem dX11_doubles_68 : decode cX11_doubles 68 = .ok (.getfield 318, 3) := by decide +kernel
theorem dX11_doubles_71 : decode cX11_doubles 71 = .ok (.iload_n 1, 1) := by decide +kernel
theorem dX11_doubles_72 : decode cX11_doubles 72 = .ok (.if_icmp .ne 74, 3) := by decide +kernel
theorem dX11_doubles_146 : decode cX11_doubles 146 = .ok (.iinc 6 1, 3) := by decide +kernel
theorem dX11_doubles_149 : decode cX11_doubles 149 = .ok (.goto (-97), 3) := by decide +kernel
theorem dX11_doubles_75 : decode cX11_doubles 75 = .ok (.aload_n 0, 1) := by decide +kernel
theorem dX11_doubles_76 : decode cX11_doubles 76 = .ok (.getfield 22, 3) := by decide +kernel
theorem dX11_doubles_79 : decode cX11_doubles 79 = .ok (.iload 6, 2) := by decide +kernel
theorem dX11_doubles_81 : decode cX11_doubles 81 = .ok (.aaload, 1) := by decide +kernel
theorem dX11_doubles_82 : decode cX11_doubles 82 = .ok (.getfield 318, 3) := by decide +kernel
theorem dX11_doubles_85 : decode cX11_doubles 85 = .ok (.iload_n 2, 1) := by decide +kernel
theorem dX11_doubles_86 : decode cX11_doubles 86 = .ok (.if_icmp .ne 60, 3) := by decide +kernel
theorem dX11_doubles_89 : decode cX11_doubles 89 = .ok (.aload_n 0, 1) := by decide +kernel
theorem dX11_doubles_90 : decode cX11_doubles 90 = .ok (.getfield 22, 3) := by decide +kernel
theorem dX11_doubles_93 : decode cX11_doubles 93 = .ok (.iload 5, 2) := by decide +kernel
theorem dX11_doubles_95 : decode cX11_doubles 95 = .ok (.aaload, 1) := by decide +kernel
theorem dX11_doubles_96 : decode cX11_doubles 96 = .ok (.aload_n 0, 1) := by decide +kernel
theorem dX11_doubles_97 : decode cX11_doubles 97 = .ok (.getfield 22, 3) := by decide +kernel
theorem dX11_doubles_100 : decode cX11_doubles 100 = .ok (.iload 6, 2) := by decide +kernel
theorem dX11_doubles_102 : decode cX11_doubles 102 = .ok (.aaload, 1) := by decide +kernel
theorem dX11_doubles_103 : decode cX11_doubles 103 = .ok (.invokestatic 321, 3) := by decide +kernel
theorem kw_1300 : Cond.code yX11_areDoubles prog_1_method_51_code 2 (some .boolean) ∈ uu := uu_in (i := 1300) (by decide +kernel) (by decide +kernel)
theorem kw_1298 : Cond.methodLink "LandSurvey" 321 yX11_areDoubles ∈ uu := uu_in (i := 1298) (by decide +kernel) (by decide +kernel)
theorem kw_1299 : Cond.static yX11_areDoubles ∈ uu := uu_in (i := 1299) (by decide +kernel) (by decide +kernel)
theorem lk_LandSurvey_321 : lkS "LandSurvey" 321 yX11_areDoubles cX11_areDoubles 2 (some .boolean) 2 := ⟨kw_1298, kw_1299, kw_144, kw_1300, okX11_areDoubles⟩
theorem dX11_doubles_106 : decode cX11_doubles 106 = .ok (.ifCond .eq 40, 3) := by decide +kernel
theorem dX11_doubles_109 : decode cX11_doubles 109 = .ok (.iload 4, 2) := by decide +kernel
theorem dX11_doubles_111 : decode cX11_doubles 111 = .ok (.iload_n 3, 1) := by decide +kernel
theorem dX11_doubles_112 : decode cX11_doubles 112 = .ok (.ifCond .eq 26, 3) := by decide +kernel
theorem dX11_doubles_138 : decode cX11_doubles 138 = .ok (.iconst 1, 1) := by decide +kernel
theorem dX11_doubles_139 : decode cX11_doubles 139 = .ok (.goto 4, 3) := by decide +kernel
theorem dX11_doubles_143 : decode cX11_doubles 143 = .ok (.iadd, 1) := by decide +kernel
theorem dX11_doubles_144 : decode cX11_doubles 144 = .ok (.istore 4, 2) := by decide +kernel
theorem dX11_doubles_115 : decode cX11_doubles 115 = .ok (.aload_n 0, 1) := by decide +kernel
theorem dX11_doubles_116 : decode cX11_doubles 116 = .ok (.getfield 22, 3) := by decide +kernel
theorem dX11_doubles_119 : decode cX11_doubles 119 = .ok (.iload 5, 2) := by decide +kernel
theorem dX11_doubles_121 : decode cX11_doubles 121 = .ok (.aaload, 1) := by decide +kernel
theorem dX11_doubles_122 : decode cX11_doubles 122 = .ok (.getfield 175, 3) := by decide +kernel
theorem dX11_doubles_125 : decode cX11_doubles 125 = .ok (.aload_n 0, 1) := by decide +kernel
theorem dX11_doubles_126 : decode cX11_doubles 126 = .ok (.getfield 22, 3) := by decide +kernel
theorem dX11_doubles_129 : decode cX11_doubles 129 = .ok (.iload 6, 2) := by decide +kernel
theorem dX11_doubles_131 : decode cX11_doubles 131 = .ok (.aaload, 1) := by decide +kernel
theorem dX11_doubles_132 : decode cX11_doubles 132 = .ok (.getfield 175, 3) := by decide +kernel
theorem dX11_doubles_135 : decode cX11_doubles 135 = .ok (.if_icmp .ne 7, 3) := by decide +kernel
theorem dX11_doubles_142 : decode cX11_doubles 142 = .ok (.iconst 0, 1) := by decide +kernel
abbrev cX11_question : ByteArray := prog_1_method_32_code
def yX11_question : MethodName := ⟨RX11, "question", "(IIZ)Z"⟩
theorem okX11_question : yok yX11_question 3 := by decide +kernel
theorem kw_199 : Cond.fieldLink "LandSurvey" 334 "LandSurvey$Land" "askedCount" "I" ∈ uu := uu_in (i := 199) (by decide +kernel) (by decide +kernel)
theorem fk_LandSurvey_334 : fkI "LandSurvey" 334 2 5 RX2 TX2 9 := ⟨rfl, rfl, inX2, by decide, kw_199, by decide⟩
theorem dX11_question_0 : decode cX11_question 0 = .ok (.iload_n 1, 1) := by decide +kernel
theorem dX11_question_1 : decode cX11_question 1 = .ok (.iload_n 2, 1) := by decide +kernel
theorem dX11_question_2 : decode cX11_question 2 = .ok (.invokestatic 85, 3) := by decide +kernel
theorem dX11_question_5 : decode cX11_question 5 = .ok (.istore 4, 2) := by decide +kernel
theorem dX11_question_7 : decode cX11_question 7 = .ok (.iload 4, 2) := by decide +kernel
theorem dX11_question_9 : decode cX11_question 9 = .ok (.iconst (-1), 1) := by decide +kernel
theorem dX11_question_10 : decode cX11_question 10 = .ok (.if_icmp .ne 5, 3) := by decide +kernel
theorem dX11_question_15 : decode cX11_question 15 = .ok (.aload_n 0, 1) := by decide +kernel
theorem dX11_question_16 : decode cX11_question 16 = .ok (.getfield 16, 3) := by decide +kernel
theorem dX11_question_19 : decode cX11_question 19 = .ok (.getfield 331, 3) := by decide +kernel
theorem dX11_question_22 : decode cX11_question 22 = .ok (.iload 4, 2) := by decide +kernel
theorem dX11_question_24 : decode cX11_question 24 = .ok (.baload, 1) := by decide +kernel
theorem dX11_question_25 : decode cX11_question 25 = .ok (.iload_n 3, 1) := by decide +kernel
theorem dX11_question_26 : decode cX11_question 26 = .ok (.if_icmp .ne 5, 3) := by decide +kernel
theorem dX11_question_31 : decode cX11_question 31 = .ok (.iload_n 3, 1) := by decide +kernel
theorem dX11_question_32 : decode cX11_question 32 = .ok (.ifCond .eq 17, 3) := by decide +kernel
theorem dX11_question_49 : decode cX11_question 49 = .ok (.aload_n 0, 1) := by decide +kernel
theorem dX11_question_50 : decode cX11_question 50 = .ok (.getfield 16, 3) := by decide +kernel
theorem dX11_question_53 : decode cX11_question 53 = .ok (.getfield 331, 3) := by decide +kernel
theorem dX11_question_56 : decode cX11_question 56 = .ok (.iload 4, 2) := by decide +kernel
theorem dX11_question_58 : decode cX11_question 58 = .ok (.iload_n 3, 1) := by decide +kernel
theorem dX11_question_59 : decode cX11_question 59 = .ok (.bastore, 1) := by decide +kernel
theorem dX11_question_60 : decode cX11_question 60 = .ok (.aload_n 0, 1) := by decide +kernel
theorem dX11_question_61 : decode cX11_question 61 = .ok (.getfield 16, 3) := by decide +kernel
theorem dX11_question_64 : decode cX11_question 64 = .ok (.dup, 1) := by decide +kernel
theorem dX11_question_65 : decode cX11_question 65 = .ok (.getfield 334, 3) := by decide +kernel
theorem dX11_question_68 : decode cX11_question 68 = .ok (.iload_n 3, 1) := by decide +kernel
theorem dX11_question_69 : decode cX11_question 69 = .ok (.ifCond .eq 7, 3) := by decide +kernel
theorem dX11_question_76 : decode cX11_question 76 = .ok (.iconst (-1), 1) := by decide +kernel
theorem dX11_question_77 : decode cX11_question 77 = .ok (.iadd, 1) := by decide +kernel
theorem dX11_question_78 : decode cX11_question 78 = .ok (.putfield 334, 3) := by decide +kernel
theorem pk_LandSurvey_Land_5 : pk RX2 TX2 9 5 tyX2 false := ⟨tyX2_ok, nmX2, rfl⟩
theorem dX11_question_81 : decode cX11_question 81 = .ok (.iconst 1, 1) := by decide +kernel
theorem dX11_question_82 : decode cX11_question 82 = .ok (.ireturn, 1) := by decide +kernel
theorem dX11_question_35 : decode cX11_question 35 = .ok (.aload_n 0, 1) := by decide +kernel
theorem dX11_question_36 : decode cX11_question 36 = .ok (.getfield 16, 3) := by decide +kernel
theorem dX11_question_39 : decode cX11_question 39 = .ok (.getfield 334, 3) := by decide +kernel
theorem dX11_question_42 : decode cX11_question 42 = .ok (.bipush 8, 2) := by decide +kernel
theorem dX11_question_44 : decode cX11_question 44 = .ok (.if_icmp .lt 5, 3) := by decide +kernel
theorem dX11_question_72 : decode cX11_question 72 = .ok (.iconst 1, 1) := by decide +kernel
theorem dX11_question_73 : decode cX11_question 73 = .ok (.goto 4, 3) := by decide +kernel
theorem dX11_question_47 : decode cX11_question 47 = .ok (.iconst 0, 1) := by decide +kernel
theorem dX11_question_48 : decode cX11_question 48 = .ok (.ireturn, 1) := by decide +kernel
theorem dX11_question_29 : decode cX11_question 29 = .ok (.iconst 1, 1) := by decide +kernel
theorem dX11_question_30 : decode cX11_question 30 = .ok (.ireturn, 1) := by decide +kernel
theorem dX11_question_13 : decode cX11_question 13 = .ok (.iconst 0, 1) := by decide +kernel
theorem dX11_question_14 : decode cX11_question 14 = .ok (.ireturn, 1) := by decide +kernel
abbrev cX11_place : ByteArray := prog_1_method_33_code
def yX11_place : MethodName := ⟨RX11, "place", "(III)I"⟩
theorem okX11_place : yok yX11_place 3 := by decide +kernel
theorem kw_204 : Cond.fieldLink "LandSurvey" 337 "LandSurvey$Land" "placeCount" "I" ∈ uu := uu_in (i := 204) (by decide +kernel) (by decide +kernel)
theorem fk_LandSurvey_337 : fkI "LandSurvey" 337 2 8 RX2 TX2 9 := ⟨rfl, rfl, inX2, by decide, kw_204, by decide⟩
theorem dX11_place_0 : decode cX11_place 0 = .ok (.iload_n 1, 1) := by decide +kernel
theorem dX11_place_1 : decode cX11_place 1 = .ok (.iload_n 2, 1) := by decide +kernel
theorem dX11_place_2 : decode cX11_place 2 = .ok (.invokestatic 85, 3) := by decide +kernel
theorem dX11_place_5 : decode cX11_place 5 = .ok (.istore 4, 2) := by decide +kernel
theorem dX11_place_7 : decode cX11_place 7 = .ok (.iload 4, 2) := by decide +kernel
theorem dX11_place_9 : decode cX11_place 9 = .ok (.iconst (-1), 1) := by decide +kernel
theorem dX11_place_10 : decode cX11_place 10 = .ok (.if_icmp .eq 26, 3) := by decide +kernel
theorem dX11_place_36 : decode cX11_place 36 = .ok (.iconst (-1), 1) := by decide +kernel
theorem dX11_place_37 : decode cX11_place 37 = .ok (.ireturn, 1) := by decide +kernel
theorem dX11_place_13 : decode cX11_place 13 = .ok (.iload_n 3, 1) := by decide +kernel
theorem dX11_place_14 : decode cX11_place 14 = .ok (.iconst 1, 1) := by decide +kernel
theorem dX11_place_15 : decode cX11_place 15 = .ok (.if_icmp .lt 21, 3) := by decide +kernel
theorem dX11_place_18 : decode cX11_place 18 = .ok (.iload_n 3, 1) := by decide +kernel
theorem dX11_place_19 : decode cX11_place 19 = .ok (.bipush 99, 2) := by decide +kernel
theorem dX11_place_21 : decode cX11_place 21 = .ok (.if_icmp .gt 15, 3) := by decide +kernel
theorem dX11_place_24 : decode cX11_place 24 = .ok (.aload_n 0, 1) := by decide +kernel
theorem dX11_place_25 : decode cX11_place 25 = .ok (.getfield 16, 3) := by decide +kernel
theorem dX11_place_28 : decode cX11_place 28 = .ok (.getfield 337, 3) := by decide +kernel
theorem dX11_place_31 : decode cX11_place 31 = .ok (.bipush 8, 2) := by decide +kernel
theorem dX11_place_33 : decode cX11_place 33 = .ok (.if_icmp .lt 5, 3) := by decide +kernel
theorem dX11_place_38 : decode cX11_place 38 = .ok (.aload_n 0, 1) := by decide +kernel
theorem dX11_place_39 : decode cX11_place 39 = .ok (.getfield 16, 3) := by decide +kernel
theorem dX11_place_42 : decode cX11_place 42 = .ok (.getfield 340, 3) := by decide +kernel
theorem kw_201 : Cond.fieldLink "LandSurvey" 340 "LandSurvey$Land" "placeCell" "[I" ∈ uu := uu_in (i := 201) (by decide +kernel) (by decide +kernel)
theorem fk_LandSurvey_340 : fkR "LandSurvey" 340 2 6 RX2 TX2 9 := ⟨rfl, rfl, inX2, by decide, kw_201, by decide⟩
theorem dX11_place_45 : decode cX11_place 45 = .ok (.aload_n 0, 1) := by decide +kernel
theorem dX11_place_46 : decode cX11_place 46 = .ok (.getfield 16, 3) := by decide +kernel
theorem dX11_place_49 : decode cX11_place 49 = .ok (.getfield 337, 3) := by decide +kernel
theorem dX11_place_52 : decode cX11_place 52 = .ok (.iload 4, 2) := by decide +kernel
theorem dX11_place_54 : decode cX11_place 54 = .ok (.iastore, 1) := by decide +kernel
theorem dX11_place_55 : decode cX11_place 55 = .ok (.aload_n 0, 1) := by decide +kernel
theorem dX11_place_56 : decode cX11_place 56 = .ok (.getfield 16, 3) := by decide +kernel
theorem dX11_place_59 : decode cX11_place 59 = .ok (.getfield 343, 3) := by decide +kernel
theorem kw_203 : Cond.fieldLink "LandSurvey" 343 "LandSurvey$Land" "placeCost" "[I" ∈ uu := uu_in (i := 203) (by decide +kernel) (by decide +kernel)
theorem fk_LandSurvey_343 : fkR "LandSurvey" 343 2 7 RX2 TX2 9 := ⟨rfl, rfl, inX2, by decide, kw_203, by decide⟩
theorem dX11_place_62 : decode cX11_place 62 = .ok (.aload_n 0, 1) := by decide +kernel
theorem dX11_place_63 : decode cX11_place 63 = .ok (.getfield 16, 3) := by decide +kernel
theorem dX11_place_66 : decode cX11_place 66 = .ok (.getfield 337, 3) := by decide +kernel
theorem dX11_place_69 : decode cX11_place 69 = .ok (.iload_n 3, 1) := by decide +kernel
theorem dX11_place_70 : decode cX11_place 70 = .ok (.iastore, 1) := by decide +kernel
theorem dX11_place_71 : decode cX11_place 71 = .ok (.aload_n 0, 1) := by decide +kernel
theorem dX11_place_72 : decode cX11_place 72 = .ok (.getfield 16, 3) := by decide +kernel
theorem dX11_place_75 : decode cX11_place 75 = .ok (.dup, 1) := by decide +kernel
theorem dX11_place_76 : decode cX11_place 76 = .ok (.getfield 337, 3) := by decide +kernel
theorem dX11_place_79 : decode cX11_place 79 = .ok (.dup_x1, 1) := by decide +kernel
theorem dX11_place_80 : decode cX11_place 80 = .ok (.iconst 1, 1) := by decide +kernel
theorem dX11_place_81 : decode cX11_place 81 = .ok (.iadd, 1) := by decide +kernel
theorem dX11_place_82 : decode cX11_place 82 = .ok (.putfield 337, 3) := by decide +kernel
theorem pk_LandSurvey_Land_8 : pk RX2 TX2 9 8 tyX2 false := ⟨tyX2_ok, nmX2, rfl⟩
theorem dX11_place_85 : decode cX11_place 85 = .ok (.ireturn, 1) := by decide +kernel
abbrev cX11_doubt : ByteArray := prog_1_method_34_code
def yX11_doubt : MethodName := ⟨RX11, "doubt", "()I"⟩
theorem okX11_doubt : yok yX11_doubt 0 := by decide +kernel
theorem dX11_doubt_0 : decode cX11_doubt 0 = .ok (.aload_n 0, 1) := by decide +kernel
theorem dX11_doubt_1 : decode cX11_doubt 1 = .ok (.invokevirtual 346, 3) := by decide +kernel
theorem kw_1316 : Cond.code yX11_knownBest prog_1_method_58_code 1 (some (.object "LandSurvey$Ground")) ∈ uu := uu_in (i := 1316) (by decide +kernel) (by decide +kernel)
theorem kw_1313 : Cond.methodLink "LandSurvey" 346 yX11_knownBest ∈ uu := uu_in (i := 1313) (by decide +kernel) (by decide +kernel)
theorem kw_1315 : Cond.instanceMethod yX11_knownBest ∈ uu := uu_in (i := 1315) (by decide +kernel) (by decide +kernel)
theorem kw_53 : Cond.selects "LandSurvey" yX11_knownBest yX11_knownBest ∈ uu := uu_in (i := 53) (by decide +kernel) (by decide +kernel)
theorem lk_LandSurvey_346 : lkV "LandSurvey" 346 yX11_knownBest cX11_knownBest 1 (some (.object "LandSurvey$Ground")) 0 := ⟨kw_1313, kw_1315, kw_53, kw_144, kw_1316, okX11_knownBest⟩
theorem dX11_doubt_4 : decode cX11_doubt 4 = .ok (.astore_n 1, 1) := by decide +kernel
theorem dX11_doubt_5 : decode cX11_doubt 5 = .ok (.aload_n 1, 1) := by decide +kernel
theorem dX11_doubt_6 : decode cX11_doubt 6 = .ok (.ifnonnull 7, 3) := by decide +kernel
theorem dX11_doubt_13 : decode cX11_doubt 13 = .ok (.aload_n 0, 1) := by decide +kernel
theorem dX11_doubt_14 : decode cX11_doubt 14 = .ok (.aload_n 1, 1) := by decide +kernel
theorem dX11_doubt_15 : decode cX11_doubt 15 = .ok (.invokevirtual 350, 3) := by decide +kernel
theorem kw_1320 : Cond.code yX11_doubtIn prog_1_method_71_code 4 (some .int) ∈ uu := uu_in (i := 1320) (by decide +kernel) (by decide +kernel)
theorem kw_1317 : Cond.methodLink "LandSurvey" 350 yX11_doubtIn ∈ uu := uu_in (i := 1317) (by decide +kernel) (by decide +kernel)
theorem kw_1319 : Cond.instanceMethod yX11_doubtIn ∈ uu := uu_in (i := 1319) (by decide +kernel) (by decide +kernel)
theorem kw_54 : Cond.selects "LandSurvey" yX11_doubtIn yX11_doubtIn ∈ uu := uu_in (i := 54) (by decide +kernel) (by decide +kernel)
theorem lk_LandSurvey_350 : lkV "LandSurvey" 350 yX11_doubtIn cX11_doubtIn 4 (some .int) 1 := ⟨kw_1317, kw_1319, kw_54, kw_144, kw_1320, okX11_doubtIn⟩
theorem dX11_doubt_18 : decode cX11_doubt 18 = .ok (.ireturn, 1) := by decide +kernel
theorem dX11_doubt_9 : decode cX11_doubt 9 = .ok (.iconst (-1), 1) := by decide +kernel
theorem dX11_doubt_10 : decode cX11_doubt 10 = .ok (.goto 8, 3) := by decide +kernel
abbrev cX11_count : ByteArray := prog_1_method_37_code
def yX11_count : MethodName := ⟨RX11, "count", "(I)I"⟩
theorem okX11_count : yok yX11_count 1 := by decide +kernel
theorem dX11_count_0 : decode cX11_count 0 = .ok (.aload_n 0, 1) := by decide +kernel
theorem dX11_count_1 : decode cX11_count 1 = .ok (.invokevirtual 169, 3) := by decide +kernel
theorem dX11_count_4 : decode cX11_count 4 = .ok (.iload_n 1, 1) := by decide +kernel
theorem dX11_count_5 : decode cX11_count 5 = .ok (.tableswitch 160 0 12 #[67, 72, 77, 82, 88, 96, 101, 106, 112, 120, 128, 144, 152], 67) := by decide +kernel
theorem dX11_count_72 : decode cX11_count 72 = .ok (.aload_n 0, 1) := by decide +kernel
theorem dX11_count_73 : decode cX11_count 73 = .ok (.getfield 78, 3) := by decide +kernel
theorem dX11_count_76 : decode cX11_count 76 = .ok (.ireturn, 1) := by decide +kernel
theorem dX11_count_77 : decode cX11_count 77 = .ok (.aload_n 0, 1) := by decide +kernel
theorem dX11_count_78 : decode cX11_count 78 = .ok (.invokevirtual 362, 3) := by decide +kernel
theorem dX11_count_81 : decode cX11_count 81 = .ok (.ireturn, 1) := by decide +kernel
theorem dX11_count_82 : decode cX11_count 82 = .ok (.aload_n 0, 1) := by decide +kernel
theorem dX11_count_83 : decode cX11_count 83 = .ok (.getfield 102, 3) := by decide +kernel
theorem dX11_count_86 : decode cX11_count 86 = .ok (.ireturn, 1) := by decide +kernel
theorem dX11_count_87 : decode cX11_count 87 = .ok (.aload_n 0, 1) := by decide +kernel
theorem dX11_count_88 : decode cX11_count 88 = .ok (.iconst 0, 1) := by decide +kernel
theorem dX11_count_89 : decode cX11_count 89 = .ok (.invokevirtual 365, 3) := by decide +kernel
theorem kw_1352 : Cond.code yX11_countSaying prog_1_method_50_code 4 (some .int) ∈ uu := uu_in (i := 1352) (by decide +kernel) (by decide +kernel)
theorem kw_1349 : Cond.methodLink "LandSurvey" 365 yX11_countSaying ∈ uu := uu_in (i := 1349) (by decide +kernel) (by decide +kernel)
theorem kw_1351 : Cond.instanceMethod yX11_countSaying ∈ uu := uu_in (i := 1351) (by decide +kernel) (by decide +kernel)
theorem kw_57 : Cond.selects "LandSurvey" yX11_countSaying yX11_countSaying ∈ uu := uu_in (i := 57) (by decide +kernel) (by decide +kernel)
theorem lk_LandSurvey_365 : lkV "LandSurvey" 365 yX11_countSaying cX11_countSaying 4 (some .int) 1 := ⟨kw_1349, kw_1351, kw_57, kw_144, kw_1352, okX11_countSaying⟩
theorem dX11_count_92 : decode cX11_count 92 = .ok (.ireturn, 1) := by decide +kernel
theorem dX11_count_93 : decode cX11_count 93 = .ok (.aload_n 0, 1) := by decide +kernel
theorem dX11_count_94 : decode cX11_count 94 = .ok (.getfield 44, 3) := by decide +kernel
theorem dX11_count_97 : decode cX11_count 97 = .ok (.getfield 284, 3) := by decide +kernel
theorem dX11_count_100 : decode cX11_count 100 = .ok (.ireturn, 1) := by decide +kernel
theorem dX11_count_101 : decode cX11_count 101 = .ok (.aload_n 0, 1) := by decide +kernel
theorem dX11_count_102 : decode cX11_count 102 = .ok (.getfield 157, 3) := by decide +kernel
theorem dX11_count_105 : decode cX11_count 105 = .ok (.ireturn, 1) := by decide +kernel
theorem dX11_count_106 : decode cX11_count 106 = .ok (.aload_n 0, 1) := by decide +kernel
theorem dX11_count_107 : decode cX11_count 107 = .ok (.getfield 305, 3) := by decide +kernel
theorem dX11_count_110 : decode cX11_count 110 = .ok (.ireturn, 1) := by decide +kernel
theorem dX11_count_111 : decode cX11_count 111 = .ok (.aload_n 0, 1) := by decide +kernel
theorem dX11_count_112 : decode cX11_count 112 = .ok (.iconst 1, 1) := by decide +kernel
theorem dX11_count_113 : decode cX11_count 113 = .ok (.invokevirtual 365, 3) := by decide +kernel
theorem dX11_count_116 : decode cX11_count 116 = .ok (.ireturn, 1) := by decide +kernel
theorem dX11_count_117 : decode cX11_count 117 = .ok (.aload_n 0, 1) := by decide +kernel
theorem dX11_count_118 : decode cX11_count 118 = .ok (.getfield 36, 3) := by decide +kernel
theorem dX11_count_121 : decode cX11_count 121 = .ok (.getfield 369, 3) := by decide +kernel
theorem kw_380 : Cond.fieldLink "LandSurvey" 369 "LandSurvey$RuleBook" "size" "I" ∈ uu := uu_in (i := 380) (by decide +kernel) (by decide +kernel)
theorem fk_LandSurvey_369 : fkI "LandSurvey" 369 4 2 RX4 TX4 4 := ⟨rfl, rfl, inX4, by decide, kw_380, by decide⟩
theorem dX11_count_124 : decode cX11_count 124 = .ok (.ireturn, 1) := by decide +kernel
theorem dX11_count_125 : decode cX11_count 125 = .ok (.aload_n 0, 1) := by decide +kernel
theorem dX11_count_126 : decode cX11_count 126 = .ok (.getfield 29, 3) := by decide +kernel
theorem kw_473 : Cond.fieldLink "LandSurvey" 29 "LandSurvey" "reader" "LLandSurvey$Reader;" ∈ uu := uu_in (i := 473) (by decide +kernel) (by decide +kernel)
theorem fk_LandSurvey_29 : fkR "LandSurvey" 29 10 5 RX11 TX11 19 := ⟨rfl, rfl, inX11, by decide, kw_473, by decide⟩
theorem dX11_count_129 : decode cX11_count 129 = .ok (.getfield 143, 3) := by decide +kernel
theorem kw_236 : Cond.fieldLink "LandSurvey" 143 "LandSurvey$Reader" "length" "I" ∈ uu := uu_in (i := 236) (by decide +kernel) (by decide +kernel)
theorem fk_LandSurvey_143 : fkI "LandSurvey" 143 3 1 RX3 TX3 14 := ⟨rfl, rfl, inX3, by decide, kw_236, by decide⟩
theorem dX11_count_132 : decode cX11_count 132 = .ok (.ireturn, 1) := by decide +kernel
theorem dX11_count_133 : decode cX11_count 133 = .ok (.aload_n 0, 1) := by decide +kernel
theorem dX11_count_134 : decode cX11_count 134 = .ok (.invokevirtual 253, 3) := by decide +kernel
theorem dX11_count_137 : decode cX11_count 137 = .ok (.ifCond .eq 10, 3) := by decide +kernel
theorem dX11_count_147 : decode cX11_count 147 = .ok (.iconst 0, 1) := by decide +kernel
theorem dX11_count_148 : decode cX11_count 148 = .ok (.ireturn, 1) := by decide +kernel
theorem dX11_count_140 : decode cX11_count 140 = .ok (.aload_n 0, 1) := by decide +kernel
theorem dX11_count_141 : decode cX11_count 141 = .ok (.invokevirtual 372, 3) := by decide +kernel
theorem kw_1360 : Cond.code yX11_countCertain prog_1_method_61_code 3 (some .int) ∈ uu := uu_in (i := 1360) (by decide +kernel) (by decide +kernel)
theorem kw_1357 : Cond.methodLink "LandSurvey" 372 yX11_countCertain ∈ uu := uu_in (i := 1357) (by decide +kernel) (by decide +kernel)
theorem kw_1359 : Cond.instanceMethod yX11_countCertain ∈ uu := uu_in (i := 1359) (by decide +kernel) (by decide +kernel)
theorem kw_59 : Cond.selects "LandSurvey" yX11_countCertain yX11_countCertain ∈ uu := uu_in (i := 59) (by decide +kernel) (by decide +kernel)
theorem lk_LandSurvey_372 : lkV "LandSurvey" 372 yX11_countCertain cX11_countCertain 3 (some .int) 0 := ⟨kw_1357, kw_1359, kw_59, kw_144, kw_1360, okX11_countCertain⟩
theorem dX11_count_144 : decode cX11_count 144 = .ok (.goto 4, 3) := by decide +kernel
theorem dX11_count_149 : decode cX11_count 149 = .ok (.aload_n 0, 1) := by decide +kernel
theorem dX11_count_150 : decode cX11_count 150 = .ok (.getfield 16, 3) := by decide +kernel
theorem dX11_count_153 : decode cX11_count 153 = .ok (.getfield 334, 3) := by decide +kernel
theorem dX11_count_156 : decode cX11_count 156 = .ok (.ireturn, 1) := by decide +kernel
theorem dX11_count_157 : decode cX11_count 157 = .ok (.aload_n 0, 1) := by decide +kernel
theorem dX11_count_158 : decode cX11_count 158 = .ok (.getfield 16, 3) := by decide +kernel
theorem dX11_count_161 : decode cX11_count 161 = .ok (.getfield 337, 3) := by decide +kernel
theorem dX11_count_164 : decode cX11_count 164 = .ok (.ireturn, 1) := by decide +kernel
theorem dX11_count_165 : decode cX11_count 165 = .ok (.iconst (-1), 1) := by decide +kernel
theorem dX11_count_166 : decode cX11_count 166 = .ok (.ireturn, 1) := by decide +kernel
def wr_kx_X11_view : List Nat := [2201, 2215]
set_option maxRecDepth 100000 in
set_option maxHeartbeats 4000000 in
theorem kx_X11_view (l : Launch) (D : va_G) (cy : Nat → ClassId) (w : Nat → Nat) (z0 : Nat)  {h : Hp} {a0 : Nat} {a1 : Int}  (O : Okh h) (ta0 : Tg h a0 = 11) (fa1 : (-2147483648) ≤ a1 ∧ a1 ≤ 2147483647) (P_XInv : XInv h a0) : MI l D cy w z0 yX11_view cX11_view 2 (some .boolean) 0 0 0 0 [.inr (.inr a0), .inl a1] h (fun v h1 => Okh h1 ∧ Fx wr_kx_X11_view h h1 ∧ (0 ≤ v ∧ v ≤ 1) ∧ (XInv h1 a0)) := by
  obtain ⟨v1, e2⟩ : ∃ z, Rv h a0 3 = z := ⟨_, rfl⟩
  have t3 := ok_R O ta0 rE_11_3 e2
  have l4 := ok_L O ta0 rE_11_3 e2
  obtain ⟨v5, e6⟩ : ∃ z, Iv h a0 4 = z := ⟨_, rfl⟩
  have f7 := ok_I O ta0 rI_11_4 e6
  obtain ⟨v8, e9⟩ : ∃ z, Rv h a0 8 = z := ⟨_, rfl⟩
  have t10 := ok_R O ta0 rE_11_8 e9
  have l11 := ok_L O ta0 rE_11_8 e9
  obtain ⟨v12, e13⟩ : ∃ z, Iv h a0 9 = z := ⟨_, rfl⟩
  have f14 := ok_I O ta0 rI_11_9 e13
  obtain ⟨v15, e16⟩ : ∃ z, Rv h a0 11 = z := ⟨_, rfl⟩
  have t17 := ok_R O ta0 rE_11_11 e16
  have l18 := ok_L O ta0 rE_11_11 e16
  obtain ⟨v19, e20⟩ : ∃ z, Iv h a0 12 = z := ⟨_, rfl⟩
  have f21 := ok_I O ta0 rI_11_12 e20
  obtain ⟨v22, e23⟩ : ∃ z, Iv h a0 15 = z := ⟨_, rfl⟩
  have f24 := ok_I O ta0 rI_11_15 e23
  obtain ⟨v25, e26⟩ : ∃ z, Rv h a0 14 = z := ⟨_, rfl⟩
  have t27 := ok_R O ta0 rE_11_14 e26
  have l28 := ok_L O ta0 rE_11_14 e26
  obtain ⟨v29, e30⟩ : ∃ z, Rv h a0 13 = z := ⟨_, rfl⟩
  have t31 := ok_R O ta0 rE_11_13 e30
  obtain ⟨v32, e33⟩ : ∃ z, Rv h a0 6 = z := ⟨_, rfl⟩
  have t34 := ok_R O ta0 rE_11_6 e33
  obtain ⟨v35, e36⟩ : ∃ z, Rv h a0 7 = z := ⟨_, rfl⟩
  have t37 := ok_R O ta0 rE_11_7 e36
  have p49 := P_XInv
  unfold XInv at p49
  rw [e2, e6, e9, e13, e16, e20, e23, e26, e30, e33, e36] at p49
  obtain ⟨p38, p39, p40, p41, p42, p43, p44, p45, p46, p47, p48⟩ := p49
  obtain ⟨v50, e51⟩ : ∃ z, Iv h v29 3 = z := ⟨_, rfl⟩
  have f52 := ok_I O t31 rI_7_3 e51
  obtain ⟨v53, e54⟩ : ∃ z, Iv h v29 4 = z := ⟨_, rfl⟩
  have f55 := ok_I O t31 rI_7_4 e54
  rw [e51] at p44
  rw [e54] at p45
  refine hm_go (by decide +kernel) (Nat.le_of_ble_eq_true rfl) (fun p e s m below meth c C hr hn => ?_)
  refine g_iload_n C rfl 1 rfl dX11_view_0 ?_
  refine g_if_lt C fa1 12 (by decide) dX11_view_1 (fun q56 => ?_) (fun q57 => ?_)
  · have f58 : (-2147483648 : Int) ≤ a1 ∧ a1 ≤ (-1 : Int) := r_lt fa1 (il 0) q56 (by decide) (by decide)
    refine g_iconst C dX11_view_12 ?_
    exact g_iret C hr (nar_z2 (iw (il 0) (by decide) (by decide))).1 (iw (il 0) (by decide) (by decide)) ⟨O, Fx.rf, (iw (il 0) (by decide) (by decide)), P_XInv⟩ (by decide) (by decide) dX11_view_13
  · have f59 : (0 : Int) ≤ a1 ∧ a1 ≤ (2147483647 : Int) := r_ge fa1 (il 0) q57 (by decide) (by decide)
    refine g_iload_n C rfl 1 rfl dX11_view_4 ?_
    refine g_aload_n C rfl 0 rfl dX11_view_5 ?_
    obtain ⟨v60, e61⟩ : ∃ z, Iv h a0 0 = z := ⟨_, rfl⟩
    have f62 := ok_I O ta0 rI_11_0 e61
    refine gf_I C fk_LandSurvey_78 rfl ta0 e61 dX11_view_6 ?_
    refine g_icmp_le C (iw f59 (by decide) (by decide)) (iw f62 (by decide) (by decide)) 14 (by decide) dX11_view_9 (fun q63 => ?_) (fun q64 => ?_)
    · have f65 : (0 : Int) ≤ a1 ∧ a1 ≤ (9999 : Int) := r_le f59 f62 q63 (by decide) (by decide)
      refine g_aload_n C rfl 0 rfl dX11_view_14 ?_
      refine g_iload_n C rfl 1 rfl dX11_view_15 ?_
      refine g_aload_n C rfl 0 rfl dX11_view_16 ?_
      refine gf_I C fk_LandSurvey_78 rfl ta0 e61 dX11_view_17 ?_
      refine g_icmp_ne C (iw f65 (by decide) (by decide)) (iw f62 (by decide) (by decide)) 27 (by decide) dX11_view_20 (fun q66 => ?_) (fun q67 => ?_)
      · refine g_iload_n C rfl 1 rfl dX11_view_27 ?_
        refine gp_I C fk_LandSurvey_9 pk_LandSurvey_1 rfl ta0 (iw f65 (by decide) (by decide)) (nf_i _) dX11_view_28 (fun h69 hh68 => ?_)
        have O70 := O.pI ta0 hh68 rI_11_1 (iw f65 (by decide) (by decide)) nofun
        refine g_aload_n C rfl 0 rfl dX11_view_31 ?_
        refine g_iconst C dX11_view_32 ?_
        have e71 : Tg h69 a0 = 11 := ((pIT hh68).trans ta0)
        refine gp_I C fk_LandSurvey_81 pk_LandSurvey_15 rfl e71 (iw (il 0) (by decide) (by decide)) (nar_z2 (iw (il 0) (by decide) (by decide))) dX11_view_33 (fun h73 hh72 => ?_)
        have O74 := O70.pI e71 hh72 rI_11_15 (iw (il 0) (by decide) (by decide)) nofun
        refine g_iconst C dX11_view_36 ?_
        have e75 : Rv h73 a0 3 = v1 := ((pIR hh72).trans ((pIR hh68).trans e2))
        have e76 : Iv h73 a0 4 = v5 := ((pI_j hh72 (by decide)).trans ((pI_j hh68 (by decide)).trans e6))
        have e77 : Rv h73 a0 8 = v8 := ((pIR hh72).trans ((pIR hh68).trans e9))
        have e78 : Iv h73 a0 9 = v12 := ((pI_j hh72 (by decide)).trans ((pI_j hh68 (by decide)).trans e13))
        have e79 : Rv h73 a0 11 = v15 := ((pIR hh72).trans ((pIR hh68).trans e16))
        have e80 : Iv h73 a0 12 = v19 := ((pI_j hh72 (by decide)).trans ((pI_j hh68 (by decide)).trans e20))
        have e81 : Rv h73 a0 14 = v25 := ((pIR hh72).trans ((pIR hh68).trans e26))
        have e82 : Rv h73 a0 13 = v29 := ((pIR hh72).trans ((pIR hh68).trans e30))
        have e83 : Rv h73 a0 6 = v32 := ((pIR hh72).trans ((pIR hh68).trans e33))
        have e84 : Rv h73 a0 7 = v35 := ((pIR hh72).trans ((pIR hh68).trans e36))
        have e85 : Rv h73 v29 1 = v1 := ((pIR hh72).trans ((pIR hh68).trans p42))
        have e86 : Rv h73 v29 2 = v8 := ((pIR hh72).trans ((pIR hh68).trans p43))
        have e87 : Tg h69 v29 = 7 := ((pIT hh68).trans t31)
        have e88 : Iv h73 v29 3 = v50 := ((pI_n hh72 (ne_tag e87 e71 (by decide))).trans ((pI_n hh68 (ne_tag t31 ta0 (by decide))).trans e51))
        have e89 : Iv h73 v29 4 = v53 := ((pI_n hh72 (ne_tag e87 e71 (by decide))).trans ((pI_n hh68 (ne_tag t31 ta0 (by decide))).trans e54))
        have e90 : Tg h69 v1 = 38104 := ((pIT hh68).trans t3)
        have p91 := (SOK_fx O70 ((Fx.rf (wr := [2215]) (h := h69)).pI e71 hh72 rfl) e90 rfl rfl rfl (SOK_fx O ((Fx.rf (wr := [2201]) (h := h)).pI ta0 hh68 rfl) t3 rfl rfl rfl p38))
        have e92 : Tg h69 v8 = 39105 := ((pIT hh68).trans t10)
        have p93 := (BOK_fx O70 ((Fx.rf (wr := [2215]) (h := h69)).pI e71 hh72 rfl) e92 rfl rfl rfl rfl (BOK_fx O ((Fx.rf (wr := [2201]) (h := h)).pI ta0 hh68 rfl) t10 rfl rfl rfl rfl p39))
        have e94 : Tg h69 v15 = 48106 := ((pIT hh68).trans t17)
        have p95 := (NN_fx ((Fx.rf (wr := [2215]) (h := h69)).pI e71 hh72 rfl) e94 ar_48106 rfl (NN_fx ((Fx.rf (wr := [2201]) (h := h)).pI ta0 hh68 rfl) t17 ar_48106 rfl p40))
        have e96 : Tg h69 v32 = 5 := ((pIT hh68).trans t34)
        have p97 := (BkOk_fx O70 ((Fx.rf (wr := [2215]) (h := h69)).pI e71 hh72 rfl) e96 rfl rfl (BkOk_fx O ((Fx.rf (wr := [2201]) (h := h)).pI ta0 hh68 rfl) t34 rfl rfl p46))
        have e98 : Tg h69 v35 = 6 := ((pIT hh68).trans t37)
        have p99 := (RulesOk_fx O70 ((Fx.rf (wr := [2215]) (h := h69)).pI e71 hh72 rfl) e98 rfl (RulesOk_fx O ((Fx.rf (wr := [2201]) (h := h)).pI ta0 hh68 rfl) t37 rfl p47))
        have p100 := (ND_fx ((Fx.rf (wr := [2215]) (h := h69)).pI e71 hh72 rfl) rfl rfl (ND_fx ((Fx.rf (wr := [2201]) (h := h)).pI ta0 hh68 rfl) rfl rfl p48))
        exact g_iret C hr (nar_z2 (iw (il 1) (by decide) (by decide))).1 (iw (il 1) (by decide) (by decide)) ⟨O74, (((Fx.rf (wr := wr_kx_X11_view)).pI ta0 hh68 rfl).pI e71 hh72 rfl), (iw (il 1) (by decide) (by decide)), (by unfold XInv; rw [e75, e76, e77, e78, e79, e80, (pI_e hh72), e81, e82, e83, e84, e85, e86, e88, e89]; exact ⟨p91, p93, p95, (fun z => absurd z (by decide)), rfl, rfl, (by omega), (by omega), p97, p99, p100⟩)⟩ (by decide) (by decide) dX11_view_37
      · refine g_iconst C dX11_view_23 ?_
        refine g_goto C 28 (by decide) dX11_view_24 ?_
        refine gp_I C fk_LandSurvey_9 pk_LandSurvey_1 rfl ta0 (iw (il (-1)) (by decide) (by decide)) (nf_i _) dX11_view_28 (fun h102 hh101 => ?_)
        have O103 := O.pI ta0 hh101 rI_11_1 (iw (il (-1)) (by decide) (by decide)) nofun
        refine g_aload_n C rfl 0 rfl dX11_view_31 ?_
        refine g_iconst C dX11_view_32 ?_
        have e104 : Tg h102 a0 = 11 := ((pIT hh101).trans ta0)
        refine gp_I C fk_LandSurvey_81 pk_LandSurvey_15 rfl e104 (iw (il 0) (by decide) (by decide)) (nar_z2 (iw (il 0) (by decide) (by decide))) dX11_view_33 (fun h106 hh105 => ?_)
        have O107 := O103.pI e104 hh105 rI_11_15 (iw (il 0) (by decide) (by decide)) nofun
        refine g_iconst C dX11_view_36 ?_
        have e108 : Rv h106 a0 3 = v1 := ((pIR hh105).trans ((pIR hh101).trans e2))
        have e109 : Iv h106 a0 4 = v5 := ((pI_j hh105 (by decide)).trans ((pI_j hh101 (by decide)).trans e6))
        have e110 : Rv h106 a0 8 = v8 := ((pIR hh105).trans ((pIR hh101).trans e9))
        have e111 : Iv h106 a0 9 = v12 := ((pI_j hh105 (by decide)).trans ((pI_j hh101 (by decide)).trans e13))
        have e112 : Rv h106 a0 11 = v15 := ((pIR hh105).trans ((pIR hh101).trans e16))
        have e113 : Iv h106 a0 12 = v19 := ((pI_j hh105 (by decide)).trans ((pI_j hh101 (by decide)).trans e20))
        have e114 : Rv h106 a0 14 = v25 := ((pIR hh105).trans ((pIR hh101).trans e26))
        have e115 : Rv h106 a0 13 = v29 := ((pIR hh105).trans ((pIR hh101).trans e30))
        have e116 : Rv h106 a0 6 = v32 := ((pIR hh105).trans ((pIR hh101).trans e33))
        have e117 : Rv h106 a0 7 = v35 := ((pIR hh105).trans ((pIR hh101).trans e36))
        have e118 : Rv h106 v29 1 = v1 := ((pIR hh105).trans ((pIR hh101).trans p42))
        have e119 : Rv h106 v29 2 = v8 := ((pIR hh105).trans ((pIR hh101).trans p43))
        have e120 : Tg h102 v29 = 7 := ((pIT hh101).trans t31)
        have e121 : Iv h106 v29 3 = v50 := ((pI_n hh105 (ne_tag e120 e104 (by decide))).trans ((pI_n hh101 (ne_tag t31 ta0 (by decide))).trans e51))
        have e122 : Iv h106 v29 4 = v53 := ((pI_n hh105 (ne_tag e120 e104 (by decide))).trans ((pI_n hh101 (ne_tag t31 ta0 (by decide))).trans e54))
        have e123 : Tg h102 v1 = 38104 := ((pIT hh101).trans t3)
        have p124 := (SOK_fx O103 ((Fx.rf (wr := [2215]) (h := h102)).pI e104 hh105 rfl) e123 rfl rfl rfl (SOK_fx O ((Fx.rf (wr := [2201]) (h := h)).pI ta0 hh101 rfl) t3 rfl rfl rfl p38))
        have e125 : Tg h102 v8 = 39105 := ((pIT hh101).trans t10)
        have p126 := (BOK_fx O103 ((Fx.rf (wr := [2215]) (h := h102)).pI e104 hh105 rfl) e125 rfl rfl rfl rfl (BOK_fx O ((Fx.rf (wr := [2201]) (h := h)).pI ta0 hh101 rfl) t10 rfl rfl rfl rfl p39))
        have e127 : Tg h102 v15 = 48106 := ((pIT hh101).trans t17)
        have p128 := (NN_fx ((Fx.rf (wr := [2215]) (h := h102)).pI e104 hh105 rfl) e127 ar_48106 rfl (NN_fx ((Fx.rf (wr := [2201]) (h := h)).pI ta0 hh101 rfl) t17 ar_48106 rfl p40))
        have e129 : Tg h102 v32 = 5 := ((pIT hh101).trans t34)
        have p130 := (BkOk_fx O103 ((Fx.rf (wr := [2215]) (h := h102)).pI e104 hh105 rfl) e129 rfl rfl (BkOk_fx O ((Fx.rf (wr := [2201]) (h := h)).pI ta0 hh101 rfl) t34 rfl rfl p46))
        have e131 : Tg h102 v35 = 6 := ((pIT hh101).trans t37)
        have p132 := (RulesOk_fx O103 ((Fx.rf (wr := [2215]) (h := h102)).pI e104 hh105 rfl) e131 rfl (RulesOk_fx O ((Fx.rf (wr := [2201]) (h := h)).pI ta0 hh101 rfl) t37 rfl p47))
        have p133 := (ND_fx ((Fx.rf (wr := [2215]) (h := h102)).pI e104 hh105 rfl) rfl rfl (ND_fx ((Fx.rf (wr := [2201]) (h := h)).pI ta0 hh101 rfl) rfl rfl p48))
        exact g_iret C hr (nar_z2 (iw (il 1) (by decide) (by decide))).1 (iw (il 1) (by decide) (by decide)) ⟨O107, (((Fx.rf (wr := wr_kx_X11_view)).pI ta0 hh101 rfl).pI e104 hh105 rfl), (iw (il 1) (by decide) (by decide)), (by unfold XInv; rw [e108, e109, e110, e111, e112, e113, (pI_e hh105), e114, e115, e116, e117, e118, e119, e121, e122]; exact ⟨p124, p126, p128, (fun z => absurd z (by decide)), rfl, rfl, (by omega), (by omega), p130, p132, p133⟩)⟩ (by decide) (by decide) dX11_view_37
    · have f134 : (1 : Int) ≤ a1 ∧ a1 ≤ (2147483647 : Int) := r_gt f59 f62 q64 (by decide) (by decide)
      refine g_iconst C dX11_view_12 ?_
      exact g_iret C hr (nar_z2 (iw (il 0) (by decide) (by decide))).1 (iw (il 0) (by decide) (by decide)) ⟨O, Fx.rf, (iw (il 0) (by decide) (by decide)), P_XInv⟩ (by decide) (by decide) dX11_view_13
def wr_kx_X11_cell : List Nat := [2215, 2420000, 2620200]
set_option maxRecDepth 100000 in
set_option maxHeartbeats 4000000 in
theorem kx_X11_cell (l : Launch) (D : va_G) (cy : Nat → ClassId) (w : Nat → Nat) (z0 : Nat)  {h : Hp} {a0 : Nat} {a1 : Int} {a2 : Int} {a3 : Int} {a4 : Int}  (O : Okh h) (ta0 : Tg h a0 = 11) (fa1 : (-2147483648) ≤ a1 ∧ a1 ≤ 2147483647) (fa2 : (-2147483648) ≤ a2 ∧ a2 ≤ 2147483647) (fa3 : (-2147483648) ≤ a3 ∧ a3 ≤ 2147483647) (fa4 : 0 ≤ a4 ∧ a4 ≤ 1) (P_XInv : XInv h a0) : MI l D cy w z0 yX11_cell cX11_cell 6 (some .boolean) 1 21 0 0 [.inr (.inr a0), .inl a1, .inl a2, .inl a3, .inl a4] h (fun v h1 => Okh h1 ∧ Fx wr_kx_X11_cell h h1 ∧ (0 ≤ v ∧ v ≤ 1) ∧ (XInv h1 a0)) := by
  obtain ⟨v1, e2⟩ : ∃ z, Rv h a0 3 = z := ⟨_, rfl⟩
  have t3 := ok_R O ta0 rE_11_3 e2
  have l4 := ok_L O ta0 rE_11_3 e2
  obtain ⟨v5, e6⟩ : ∃ z, Iv h a0 4 = z := ⟨_, rfl⟩
  have f7 := ok_I O ta0 rI_11_4 e6
  obtain ⟨v8, e9⟩ : ∃ z, Rv h a0 8 = z := ⟨_, rfl⟩
  have t10 := ok_R O ta0 rE_11_8 e9
  have l11 := ok_L O ta0 rE_11_8 e9
  obtain ⟨v12, e13⟩ : ∃ z, Iv h a0 9 = z := ⟨_, rfl⟩
  have f14 := ok_I O ta0 rI_11_9 e13
  obtain ⟨v15, e16⟩ : ∃ z, Rv h a0 11 = z := ⟨_, rfl⟩
  have t17 := ok_R O ta0 rE_11_11 e16
  have l18 := ok_L O ta0 rE_11_11 e16
  obtain ⟨v19, e20⟩ : ∃ z, Iv h a0 12 = z := ⟨_, rfl⟩
  have f21 := ok_I O ta0 rI_11_12 e20
  obtain ⟨v22, e23⟩ : ∃ z, Iv h a0 15 = z := ⟨_, rfl⟩
  have f24 := ok_I O ta0 rI_11_15 e23
  obtain ⟨v25, e26⟩ : ∃ z, Rv h a0 14 = z := ⟨_, rfl⟩
  have t27 := ok_R O ta0 rE_11_14 e26
  have l28 := ok_L O ta0 rE_11_14 e26
  obtain ⟨v29, e30⟩ : ∃ z, Rv h a0 13 = z := ⟨_, rfl⟩
  have t31 := ok_R O ta0 rE_11_13 e30
  obtain ⟨v32, e33⟩ : ∃ z, Rv h a0 6 = z := ⟨_, rfl⟩
  have t34 := ok_R O ta0 rE_11_6 e33
  obtain ⟨v35, e36⟩ : ∃ z, Rv h a0 7 = z := ⟨_, rfl⟩
  have t37 := ok_R O ta0 rE_11_7 e36
  have p49 := P_XInv
  unfold XInv at p49
  rw [e2, e6, e9, e13, e16, e20, e23, e26, e30, e33, e36] at p49
  obtain ⟨p38, p39, p40, p41, p42, p43, p44, p45, p46, p47, p48⟩ := p49
  obtain ⟨v50, e51⟩ : ∃ z, Iv h v29 3 = z := ⟨_, rfl⟩
  have f52 := ok_I O t31 rI_7_3 e51
  obtain ⟨v53, e54⟩ : ∃ z, Iv h v29 4 = z := ⟨_, rfl⟩
  have f55 := ok_I O t31 rI_7_4 e54
  rw [e51] at p44
  rw [e54] at p45
  refine hm_go (by decide +kernel) (Nat.le_of_ble_eq_true rfl) (fun p e s m below meth c C hr hn => ?_)
  refine g_iload_n C rfl 1 rfl dX11_cell_0 ?_
  refine g_iload_n C rfl 2 rfl dX11_cell_1 ?_
  refine g_callI (st := []) (gc_S C lk_LandSurvey_85 (k_X11_cellAt l D cy w z0 O fa1 fa2) rfl ⟨by decide, by decide⟩ (Nat.le_of_ble_eq_true rfl) dX11_cell_2 ⟨(by decide), (by decide)⟩) (fun r56 h57 f59 K58 => ?_)
  obtain ⟨O60, F61, f62, p63⟩ := K58
  refine g_istore C [(5, .inl r56), (0, .inr (.inr a0)), (1, .inl a1), (2, .inl a2), (3, .inl a3), (4, .inl a4)] (by decide) rfl dX11_cell_5 ?_
  refine g_iload C 0 rfl dX11_cell_7 ?_
  refine g_iconst C dX11_cell_9 ?_
  refine g_icmp_eq C (iw f62 (by decide) (by decide)) (iw (il (-1)) (by decide) (by decide)) 24 (by decide) dX11_cell_10 (fun q64 => ?_) (fun q65 => ?_)
  · have f66 : (-1 : Int) ≤ r56 ∧ r56 ≤ (-1 : Int) := ii f62 (r_eq (il (-1)) q64) (by decide) (by decide)
    refine g_iconst C dX11_cell_24 ?_
    have p67 := (XInv_fx O F61 ta0 rfl P_XInv)
    exact g_iret C hr (nar_z2 (iw (il 0) (by decide) (by decide))).1 (iw (il 0) (by decide) (by decide)) ⟨O60, ((Fx.rf (wr := wr_kx_X11_cell)).call F61 rfl), (iw (il 0) (by decide) (by decide)), p67⟩ (by decide) (by decide) dX11_cell_25
  · have f68 : (0 : Int) ≤ r56 ∧ r56 ≤ (95 : Int) := r_nl f62 q65
    refine g_iload_n C rfl 4 rfl dX11_cell_13 ?_
    refine g_if_lt C fa3 24 (by decide) dX11_cell_14 (fun q69 => ?_) (fun q70 => ?_)
    · have f71 : (-2147483648 : Int) ≤ a3 ∧ a3 ≤ (-1 : Int) := r_lt fa3 (il 0) q69 (by decide) (by decide)
      refine g_iconst C dX11_cell_24 ?_
      have p72 := (XInv_fx O F61 ta0 rfl P_XInv)
      exact g_iret C hr (nar_z2 (iw (il 0) (by decide) (by decide))).1 (iw (il 0) (by decide) (by decide)) ⟨O60, ((Fx.rf (wr := wr_kx_X11_cell)).call F61 rfl), (iw (il 0) (by decide) (by decide)), p72⟩ (by decide) (by decide) dX11_cell_25
    · have f73 : (0 : Int) ≤ a3 ∧ a3 ≤ (2147483647 : Int) := r_ge fa3 (il 0) q70 (by decide) (by decide)
      refine g_iload_n C rfl 4 rfl dX11_cell_17 ?_
      refine g_sipush C (by decide) dX11_cell_18 ?_
      refine g_icmp_le C (iw f73 (by decide) (by decide)) (iw (il 999) (by decide) (by decide)) 26 (by decide) dX11_cell_21 (fun q74 => ?_) (fun q75 => ?_)
      · have f76 : (0 : Int) ≤ a3 ∧ a3 ≤ (999 : Int) := r_le f73 (il 999) q74 (by decide) (by decide)
        refine g_aload_n C rfl 1 rfl dX11_cell_26 ?_
        have e77 : Tg h57 a0 = 11 := (fxT F61 ta0)
        obtain ⟨v78, e79⟩ : ∃ z, Rv h57 a0 2 = z := ⟨_, rfl⟩
        have t80 := ok_R O60 e77 rE_11_2 e79
        refine gf_R C fk_LandSurvey_16 rfl e77 e79 dX11_cell_27 ?_
        obtain ⟨v81, e82⟩ : ∃ z, Rv h57 v78 0 = z := ⟨_, rfl⟩
        have t83 := ok_R O60 t80 rE_3_0 e82
        have l84 := ok_L O60 t80 rE_3_0 e82
        refine gf_R C fk_LandSurvey_89 rfl t80 e82 dX11_cell_30 ?_
        refine g_iload C 0 rfl dX11_cell_33 ?_
        refine g_iload_n C rfl 4 rfl dX11_cell_35 ?_
        refine g_iast C t83 rfl l84 (ix f68 (by decide) (by decide)) (iw f76 (by decide) (by decide)) dX11_cell_36 (fun h86 hh85 => ?_)
        have O87 := O60.pIa t83 ar_12100 hh85 rI_12100_0 f76 nofun
        refine g_aload_n C rfl 1 rfl dX11_cell_37 ?_
        have e88 : Tg h86 a0 = 11 := ((pIT hh85).trans e77)
        have e89 : Rv h86 a0 2 = v78 := ((pIR hh85).trans e79)
        refine gf_R C fk_LandSurvey_16 rfl e88 e89 dX11_cell_38 ?_
        have e90 : Tg h86 v78 = 3 := ((pIT hh85).trans t80)
        obtain ⟨v91, e92⟩ : ∃ z, Rv h86 v78 1 = z := ⟨_, rfl⟩
        have t93 := ok_R O87 e90 rE_3_1 e92
        have l94 := ok_L O87 e90 rE_3_1 e92
        refine gf_R C fk_LandSurvey_92 rfl e90 e92 dX11_cell_41 ?_
        refine g_iload C 0 rfl dX11_cell_44 ?_
        refine g_iload C 5 rfl dX11_cell_46 ?_
        refine g_if_ne C (iw fa4 (by decide) (by decide)) 55 (by decide) dX11_cell_48 (fun q95 => ?_) (fun q96 => ?_)
        · have f97 : (1 : Int) ≤ a4 ∧ a4 ≤ (1 : Int) := r_nl fa4 q95
          refine g_iconst C dX11_cell_55 ?_
          refine g_zast C t93 rfl l94 (ix f68 (by decide) (by decide)) (iw (il 0) (by decide) (by decide)) dX11_cell_56 (fun h99 hh98 => ?_)
          have O100 := O87.pIa t93 ar_13101 hh98 rI_13101_0 (iw (il 0) (by decide) (by decide)) nofun
          refine g_aload_n C rfl 1 rfl dX11_cell_57 ?_
          refine g_iconst C dX11_cell_58 ?_
          have e101 : Tg h99 a0 = 11 := ((pIT hh98).trans e88)
          refine gp_I C fk_LandSurvey_81 pk_LandSurvey_15 rfl e101 (iw (il 0) (by decide) (by decide)) (nar_z2 (iw (il 0) (by decide) (by decide))) dX11_cell_59 (fun h103 hh102 => ?_)
          have O104 := O100.pI e101 hh102 rI_11_15 (iw (il 0) (by decide) (by decide)) nofun
          refine g_iconst C dX11_cell_62 ?_
          have e105 : Rv h103 a0 3 = v1 := ((pIR hh102).trans ((pIR hh98).trans ((pIR hh85).trans ((fxR F61 ta0 rfl).trans e2))))
          have e106 : Iv h103 a0 4 = v5 := ((pI_j hh102 (by decide)).trans ((pI_n hh98 (ne_tag e88 t93 (by decide))).trans ((pI_n hh85 (ne_tag e77 t83 (by decide))).trans ((fxI F61 ta0 rfl).trans e6))))
          have e107 : Rv h103 a0 8 = v8 := ((pIR hh102).trans ((pIR hh98).trans ((pIR hh85).trans ((fxR F61 ta0 rfl).trans e9))))
          have e108 : Iv h103 a0 9 = v12 := ((pI_j hh102 (by decide)).trans ((pI_n hh98 (ne_tag e88 t93 (by decide))).trans ((pI_n hh85 (ne_tag e77 t83 (by decide))).trans ((fxI F61 ta0 rfl).trans e13))))
          have e109 : Rv h103 a0 11 = v15 := ((pIR hh102).trans ((pIR hh98).trans ((pIR hh85).trans ((fxR F61 ta0 rfl).trans e16))))
          have e110 : Iv h103 a0 12 = v19 := ((pI_j hh102 (by decide)).trans ((pI_n hh98 (ne_tag e88 t93 (by decide))).trans ((pI_n hh85 (ne_tag e77 t83 (by decide))).trans ((fxI F61 ta0 rfl).trans e20))))
          have e111 : Rv h103 a0 14 = v25 := ((pIR hh102).trans ((pIR hh98).trans ((pIR hh85).trans ((fxR F61 ta0 rfl).trans e26))))
          have e112 : Rv h103 a0 13 = v29 := ((pIR hh102).trans ((pIR hh98).trans ((pIR hh85).trans ((fxR F61 ta0 rfl).trans e30))))
          have e113 : Rv h103 a0 6 = v32 := ((pIR hh102).trans ((pIR hh98).trans ((pIR hh85).trans ((fxR F61 ta0 rfl).trans e33))))
          have e114 : Rv h103 a0 7 = v35 := ((pIR hh102).trans ((pIR hh98).trans ((pIR hh85).trans ((fxR F61 ta0 rfl).trans e36))))
          have e115 : Rv h103 v29 1 = v1 := ((pIR hh102).trans ((pIR hh98).trans ((pIR hh85).trans ((fxR F61 t31 rfl).trans p42))))
          have e116 : Rv h103 v29 2 = v8 := ((pIR hh102).trans ((pIR hh98).trans ((pIR hh85).trans ((fxR F61 t31 rfl).trans p43))))
          have e117 : Tg h57 v29 = 7 := (fxT F61 t31)
          have e118 : Tg h86 v29 = 7 := ((pIT hh85).trans e117)
          have e119 : Tg h99 v29 = 7 := ((pIT hh98).trans e118)
          have e120 : Iv h103 v29 3 = v50 := ((pI_n hh102 (ne_tag e119 e101 (by decide))).trans ((pI_n hh98 (ne_tag e118 t93 (by decide))).trans ((pI_n hh85 (ne_tag e117 t83 (by decide))).trans ((fxI F61 t31 rfl).trans e51))))
          have e121 : Iv h103 v29 4 = v53 := ((pI_n hh102 (ne_tag e119 e101 (by decide))).trans ((pI_n hh98 (ne_tag e118 t93 (by decide))).trans ((pI_n hh85 (ne_tag e117 t83 (by decide))).trans ((fxI F61 t31 rfl).trans e54))))
          have e122 : Tg h57 v1 = 38104 := (fxT F61 t3)
          have e123 : Tg h86 v1 = 38104 := ((pIT hh85).trans e122)
          have e124 : Tg h99 v1 = 38104 := ((pIT hh98).trans e123)
          have p125 := (SOK_fx O100 ((Fx.rf (wr := [2215]) (h := h99)).pI e101 hh102 rfl) e124 rfl rfl rfl (SOK_fx O87 ((Fx.rf (wr := [2620200]) (h := h86)).pIa t93 ar_13101 hh98 rfl) e123 rfl rfl rfl (SOK_fx O60 ((Fx.rf (wr := [2420000]) (h := h57)).pIa t83 ar_12100 hh85 rfl) e122 rfl rfl rfl (SOK_fx O F61 t3 rfl rfl rfl p38))))
          have e126 : Tg h57 v8 = 39105 := (fxT F61 t10)
          have e127 : Tg h86 v8 = 39105 := ((pIT hh85).trans e126)
          have e128 : Tg h99 v8 = 39105 := ((pIT hh98).trans e127)
          have p129 := (BOK_fx O100 ((Fx.rf (wr := [2215]) (h := h99)).pI e101 hh102 rfl) e128 rfl rfl rfl rfl (BOK_fx O87 ((Fx.rf (wr := [2620200]) (h := h86)).pIa t93 ar_13101 hh98 rfl) e127 rfl rfl rfl rfl (BOK_fx O60 ((Fx.rf (wr := [2420000]) (h := h57)).pIa t83 ar_12100 hh85 rfl) e126 rfl rfl rfl rfl (BOK_fx O F61 t10 rfl rfl rfl rfl p39))))
          have e130 : Tg h57 v15 = 48106 := (fxT F61 t17)
          have e131 : Tg h86 v15 = 48106 := ((pIT hh85).trans e130)
          have e132 : Tg h99 v15 = 48106 := ((pIT hh98).trans e131)
          have p133 := (NN_fx ((Fx.rf (wr := [2215]) (h := h99)).pI e101 hh102 rfl) e132 ar_48106 rfl (NN_fx ((Fx.rf (wr := [2620200]) (h := h86)).pIa t93 ar_13101 hh98 rfl) e131 ar_48106 rfl (NN_fx ((Fx.rf (wr := [2420000]) (h := h57)).pIa t83 ar_12100 hh85 rfl) e130 ar_48106 rfl (NN_fx F61 t17 ar_48106 rfl p40))))
          have e134 : Tg h57 v32 = 5 := (fxT F61 t34)
          have e135 : Tg h86 v32 = 5 := ((pIT hh85).trans e134)
          have e136 : Tg h99 v32 = 5 := ((pIT hh98).trans e135)
          have p137 := (BkOk_fx O100 ((Fx.rf (wr := [2215]) (h := h99)).pI e101 hh102 rfl) e136 rfl rfl (BkOk_fx O87 ((Fx.rf (wr := [2620200]) (h := h86)).pIa t93 ar_13101 hh98 rfl) e135 rfl rfl (BkOk_fx O60 ((Fx.rf (wr := [2420000]) (h := h57)).pIa t83 ar_12100 hh85 rfl) e134 rfl rfl (BkOk_fx O F61 t34 rfl rfl p46))))
          have e138 : Tg h57 v35 = 6 := (fxT F61 t37)
          have e139 : Tg h86 v35 = 6 := ((pIT hh85).trans e138)
          have e140 : Tg h99 v35 = 6 := ((pIT hh98).trans e139)
          have p141 := (RulesOk_fx O100 ((Fx.rf (wr := [2215]) (h := h99)).pI e101 hh102 rfl) e140 rfl (RulesOk_fx O87 ((Fx.rf (wr := [2620200]) (h := h86)).pIa t93 ar_13101 hh98 rfl) e139 rfl (RulesOk_fx O60 ((Fx.rf (wr := [2420000]) (h := h57)).pIa t83 ar_12100 hh85 rfl) e138 rfl (RulesOk_fx O F61 t37 rfl p47))))
          have p142 := (ND_fx ((Fx.rf (wr := [2215]) (h := h99)).pI e101 hh102 rfl) rfl rfl (ND_fx ((Fx.rf (wr := [2620200]) (h := h86)).pIa t93 ar_13101 hh98 rfl) rfl rfl (ND_fx ((Fx.rf (wr := [2420000]) (h := h57)).pIa t83 ar_12100 hh85 rfl) rfl rfl (ND_fx F61 rfl rfl p48))))
          exact g_iret C hr (nar_z2 (iw (il 1) (by decide) (by decide))).1 (iw (il 1) (by decide) (by decide)) ⟨O104, (((((Fx.rf (wr := wr_kx_X11_cell)).call F61 rfl).pIa t83 ar_12100 hh85 rfl).pIa t93 ar_13101 hh98 rfl).pI e101 hh102 rfl), (iw (il 1) (by decide) (by decide)), (by unfold XInv; rw [e105, e106, e107, e108, e109, e110, (pI_e hh102), e111, e112, e113, e114, e115, e116, e120, e121]; exact ⟨p125, p129, p133, (fun z => absurd z (by decide)), rfl, rfl, (by omega), (by omega), p137, p141, p142⟩)⟩ (by decide) (by decide) dX11_cell_63
        · have f143 : (0 : Int) ≤ a4 ∧ a4 ≤ (0 : Int) := ii fa4 (r_eq (il 0) q96) (by decide) (by decide)
          refine g_iconst C dX11_cell_51 ?_
          refine g_goto C 56 (by decide) dX11_cell_52 ?_
          refine g_zast C t93 rfl l94 (ix f68 (by decide) (by decide)) (iw (il 1) (by decide) (by decide)) dX11_cell_56 (fun h145 hh144 => ?_)
          have O146 := O87.pIa t93 ar_13101 hh144 rI_13101_0 (iw (il 1) (by decide) (by decide)) nofun
          refine g_aload_n C rfl 1 rfl dX11_cell_57 ?_
          refine g_iconst C dX11_cell_58 ?_
          have e147 : Tg h145 a0 = 11 := ((pIT hh144).trans e88)
          refine gp_I C fk_LandSurvey_81 pk_LandSurvey_15 rfl e147 (iw (il 0) (by decide) (by decide)) (nar_z2 (iw (il 0) (by decide) (by decide))) dX11_cell_59 (fun h149 hh148 => ?_)
          have O150 := O146.pI e147 hh148 rI_11_15 (iw (il 0) (by decide) (by decide)) nofun
          refine g_iconst C dX11_cell_62 ?_
          have e151 : Rv h149 a0 3 = v1 := ((pIR hh148).trans ((pIR hh144).trans ((pIR hh85).trans ((fxR F61 ta0 rfl).trans e2))))
          have e152 : Iv h149 a0 4 = v5 := ((pI_j hh148 (by decide)).trans ((pI_n hh144 (ne_tag e88 t93 (by decide))).trans ((pI_n hh85 (ne_tag e77 t83 (by decide))).trans ((fxI F61 ta0 rfl).trans e6))))
          have e153 : Rv h149 a0 8 = v8 := ((pIR hh148).trans ((pIR hh144).trans ((pIR hh85).trans ((fxR F61 ta0 rfl).trans e9))))
          have e154 : Iv h149 a0 9 = v12 := ((pI_j hh148 (by decide)).trans ((pI_n hh144 (ne_tag e88 t93 (by decide))).trans ((pI_n hh85 (ne_tag e77 t83 (by decide))).trans ((fxI F61 ta0 rfl).trans e13))))
          have e155 : Rv h149 a0 11 = v15 := ((pIR hh148).trans ((pIR hh144).trans ((pIR hh85).trans ((fxR F61 ta0 rfl).trans e16))))
          have e156 : Iv h149 a0 12 = v19 := ((pI_j hh148 (by decide)).trans ((pI_n hh144 (ne_tag e88 t93 (by decide))).trans ((pI_n hh85 (ne_tag e77 t83 (by decide))).trans ((fxI F61 ta0 rfl).trans e20))))
          have e157 : Rv h149 a0 14 = v25 := ((pIR hh148).trans ((pIR hh144).trans ((pIR hh85).trans ((fxR F61 ta0 rfl).trans e26))))
          have e158 : Rv h149 a0 13 = v29 := ((pIR hh148).trans ((pIR hh144).trans ((pIR hh85).trans ((fxR F61 ta0 rfl).trans e30))))
          have e159 : Rv h149 a0 6 = v32 := ((pIR hh148).trans ((pIR hh144).trans ((pIR hh85).trans ((fxR F61 ta0 rfl).trans e33))))
          have e160 : Rv h149 a0 7 = v35 := ((pIR hh148).trans ((pIR hh144).trans ((pIR hh85).trans ((fxR F61 ta0 rfl).trans e36))))
          have e161 : Rv h149 v29 1 = v1 := ((pIR hh148).trans ((pIR hh144).trans ((pIR hh85).trans ((fxR F61 t31 rfl).trans p42))))
          have e162 : Rv h149 v29 2 = v8 := ((pIR hh148).trans ((pIR hh144).trans ((pIR hh85).trans ((fxR F61 t31 rfl).trans p43))))
          have e163 : Tg h57 v29 = 7 := (fxT F61 t31)
          have e164 : Tg h86 v29 = 7 := ((pIT hh85).trans e163)
          have e165 : Tg h145 v29 = 7 := ((pIT hh144).trans e164)
          have e166 : Iv h149 v29 3 = v50 := ((pI_n hh148 (ne_tag e165 e147 (by decide))).trans ((pI_n hh144 (ne_tag e164 t93 (by decide))).trans ((pI_n hh85 (ne_tag e163 t83 (by decide))).trans ((fxI F61 t31 rfl).trans e51))))
          have e167 : Iv h149 v29 4 = v53 := ((pI_n hh148 (ne_tag e165 e147 (by decide))).trans ((pI_n hh144 (ne_tag e164 t93 (by decide))).trans ((pI_n hh85 (ne_tag e163 t83 (by decide))).trans ((fxI F61 t31 rfl).trans e54))))
          have e168 : Tg h57 v1 = 38104 := (fxT F61 t3)
          have e169 : Tg h86 v1 = 38104 := ((pIT hh85).trans e168)
          have e170 : Tg h145 v1 = 38104 := ((pIT hh144).trans e169)
          have p171 := (SOK_fx O146 ((Fx.rf (wr := [2215]) (h := h145)).pI e147 hh148 rfl) e170 rfl rfl rfl (SOK_fx O87 ((Fx.rf (wr := [2620200]) (h := h86)).pIa t93 ar_13101 hh144 rfl) e169 rfl rfl rfl (SOK_fx O60 ((Fx.rf (wr := [2420000]) (h := h57)).pIa t83 ar_12100 hh85 rfl) e168 rfl rfl rfl (SOK_fx O F61 t3 rfl rfl rfl p38))))
          have e172 : Tg h57 v8 = 39105 := (fxT F61 t10)
          have e173 : Tg h86 v8 = 39105 := ((pIT hh85).trans e172)
          have e174 : Tg h145 v8 = 39105 := ((pIT hh144).trans e173)
          have p175 := (BOK_fx O146 ((Fx.rf (wr := [2215]) (h := h145)).pI e147 hh148 rfl) e174 rfl rfl rfl rfl (BOK_fx O87 ((Fx.rf (wr := [2620200]) (h := h86)).pIa t93 ar_13101 hh144 rfl) e173 rfl rfl rfl rfl (BOK_fx O60 ((Fx.rf (wr := [2420000]) (h := h57)).pIa t83 ar_12100 hh85 rfl) e172 rfl rfl rfl rfl (BOK_fx O F61 t10 rfl rfl rfl rfl p39))))
          have e176 : Tg h57 v15 = 48106 := (fxT F61 t17)
          have e177 : Tg h86 v15 = 48106 := ((pIT hh85).trans e176)
          have e178 : Tg h145 v15 = 48106 := ((pIT hh144).trans e177)
          have p179 := (NN_fx ((Fx.rf (wr := [2215]) (h := h145)).pI e147 hh148 rfl) e178 ar_48106 rfl (NN_fx ((Fx.rf (wr := [2620200]) (h := h86)).pIa t93 ar_13101 hh144 rfl) e177 ar_48106 rfl (NN_fx ((Fx.rf (wr := [2420000]) (h := h57)).pIa t83 ar_12100 hh85 rfl) e176 ar_48106 rfl (NN_fx F61 t17 ar_48106 rfl p40))))
          have e180 : Tg h57 v32 = 5 := (fxT F61 t34)
          have e181 : Tg h86 v32 = 5 := ((pIT hh85).trans e180)
          have e182 : Tg h145 v32 = 5 := ((pIT hh144).trans e181)
          have p183 := (BkOk_fx O146 ((Fx.rf (wr := [2215]) (h := h145)).pI e147 hh148 rfl) e182 rfl rfl (BkOk_fx O87 ((Fx.rf (wr := [2620200]) (h := h86)).pIa t93 ar_13101 hh144 rfl) e181 rfl rfl (BkOk_fx O60 ((Fx.rf (wr := [2420000]) (h := h57)).pIa t83 ar_12100 hh85 rfl) e180 rfl rfl (BkOk_fx O F61 t34 rfl rfl p46))))
          have e184 : Tg h57 v35 = 6 := (fxT F61 t37)
          have e185 : Tg h86 v35 = 6 := ((pIT hh85).trans e184)
          have e186 : Tg h145 v35 = 6 := ((pIT hh144).trans e185)
          have p187 := (RulesOk_fx O146 ((Fx.rf (wr := [2215]) (h := h145)).pI e147 hh148 rfl) e186 rfl (RulesOk_fx O87 ((Fx.rf (wr := [2620200]) (h := h86)).pIa t93 ar_13101 hh144 rfl) e185 rfl (RulesOk_fx O60 ((Fx.rf (wr := [2420000]) (h := h57)).pIa t83 ar_12100 hh85 rfl) e184 rfl (RulesOk_fx O F61 t37 rfl p47))))
          have p188 := (ND_fx ((Fx.rf (wr := [2215]) (h := h145)).pI e147 hh148 rfl) rfl rfl (ND_fx ((Fx.rf (wr := [2620200]) (h := h86)).pIa t93 ar_13101 hh144 rfl) rfl rfl (ND_fx ((Fx.rf (wr := [2420000]) (h := h57)).pIa t83 ar_12100 hh85 rfl) rfl rfl (ND_fx F61 rfl rfl p48))))
          exact g_iret C hr (nar_z2 (iw (il 1) (by decide) (by decide))).1 (iw (il 1) (by decide) (by decide)) ⟨O150, (((((Fx.rf (wr := wr_kx_X11_cell)).call F61 rfl).pIa t83 ar_12100 hh85 rfl).pIa t93 ar_13101 hh144 rfl).pI e147 hh148 rfl), (iw (il 1) (by decide) (by decide)), (by unfold XInv; rw [e151, e152, e153, e154, e155, e156, (pI_e hh148), e157, e158, e159, e160, e161, e162, e166, e167]; exact ⟨p171, p175, p179, (fun z => absurd z (by decide)), rfl, rfl, (by omega), (by omega), p183, p187, p188⟩)⟩ (by decide) (by decide) dX11_cell_63
      · have f189 : (1000 : Int) ≤ a3 ∧ a3 ≤ (2147483647 : Int) := r_gt f73 (il 999) q75 (by decide) (by decide)
        refine g_iconst C dX11_cell_24 ?_
        have p190 := (XInv_fx O F61 ta0 rfl P_XInv)
        exact g_iret C hr (nar_z2 (iw (il 0) (by decide) (by decide))).1 (iw (il 0) (by decide) (by decide)) ⟨O60, ((Fx.rf (wr := wr_kx_X11_cell)).call F61 rfl), (iw (il 0) (by decide) (by decide)), p190⟩ (by decide) (by decide) dX11_cell_25
def wr_kx_X11_fold : List Nat := [2215, 2820200]
set_option maxRecDepth 100000 in
set_option maxHeartbeats 4000000 in
theorem kx_X11_fold (l : Launch) (D : va_G) (cy : Nat → ClassId) (w : Nat → Nat) (z0 : Nat)  {h : Hp} {a0 : Nat} {a1 : Int} {a2 : Int} {a3 : Int}  (O : Okh h) (ta0 : Tg h a0 = 11) (fa1 : (-2147483648) ≤ a1 ∧ a1 ≤ 2147483647) (fa2 : (-2147483648) ≤ a2 ∧ a2 ≤ 2147483647) (fa3 : 0 ≤ a3 ∧ a3 ≤ 1) (P_XInv : XInv h a0) : MI l D cy w z0 yX11_fold cX11_fold 5 (some .boolean) 1 21 0 0 [.inr (.inr a0), .inl a1, .inl a2, .inl a3] h (fun v h1 => Okh h1 ∧ Fx wr_kx_X11_fold h h1 ∧ (0 ≤ v ∧ v ≤ 1) ∧ (XInv h1 a0)) := by
  obtain ⟨v1, e2⟩ : ∃ z, Rv h a0 3 = z := ⟨_, rfl⟩
  have t3 := ok_R O ta0 rE_11_3 e2
  have l4 := ok_L O ta0 rE_11_3 e2
  obtain ⟨v5, e6⟩ : ∃ z, Iv h a0 4 = z := ⟨_, rfl⟩
  have f7 := ok_I O ta0 rI_11_4 e6
  obtain ⟨v8, e9⟩ : ∃ z, Rv h a0 8 = z := ⟨_, rfl⟩
  have t10 := ok_R O ta0 rE_11_8 e9
  have l11 := ok_L O ta0 rE_11_8 e9
  obtain ⟨v12, e13⟩ : ∃ z, Iv h a0 9 = z := ⟨_, rfl⟩
  have f14 := ok_I O ta0 rI_11_9 e13
  obtain ⟨v15, e16⟩ : ∃ z, Rv h a0 11 = z := ⟨_, rfl⟩
  have t17 := ok_R O ta0 rE_11_11 e16
  have l18 := ok_L O ta0 rE_11_11 e16
  obtain ⟨v19, e20⟩ : ∃ z, Iv h a0 12 = z := ⟨_, rfl⟩
  have f21 := ok_I O ta0 rI_11_12 e20
  obtain ⟨v22, e23⟩ : ∃ z, Iv h a0 15 = z := ⟨_, rfl⟩
  have f24 := ok_I O ta0 rI_11_15 e23
  obtain ⟨v25, e26⟩ : ∃ z, Rv h a0 14 = z := ⟨_, rfl⟩
  have t27 := ok_R O ta0 rE_11_14 e26
  have l28 := ok_L O ta0 rE_11_14 e26
  obtain ⟨v29, e30⟩ : ∃ z, Rv h a0 13 = z := ⟨_, rfl⟩
  have t31 := ok_R O ta0 rE_11_13 e30
  obtain ⟨v32, e33⟩ : ∃ z, Rv h a0 6 = z := ⟨_, rfl⟩
  have t34 := ok_R O ta0 rE_11_6 e33
  obtain ⟨v35, e36⟩ : ∃ z, Rv h a0 7 = z := ⟨_, rfl⟩
  have t37 := ok_R O ta0 rE_11_7 e36
  have p49 := P_XInv
  unfold XInv at p49
  rw [e2, e6, e9, e13, e16, e20, e23, e26, e30, e33, e36] at p49
  obtain ⟨p38, p39, p40, p41, p42, p43, p44, p45, p46, p47, p48⟩ := p49
  obtain ⟨v50, e51⟩ : ∃ z, Iv h v29 3 = z := ⟨_, rfl⟩
  have f52 := ok_I O t31 rI_7_3 e51
  obtain ⟨v53, e54⟩ : ∃ z, Iv h v29 4 = z := ⟨_, rfl⟩
  have f55 := ok_I O t31 rI_7_4 e54
  rw [e51] at p44
  rw [e54] at p45
  refine hm_go (by decide +kernel) (Nat.le_of_ble_eq_true rfl) (fun p e s m below meth c C hr hn => ?_)
  refine g_iload_n C rfl 1 rfl dX11_fold_0 ?_
  refine g_iload_n C rfl 2 rfl dX11_fold_1 ?_
  refine g_callI (st := []) (gc_S C lk_LandSurvey_85 (k_X11_cellAt l D cy w z0 O fa1 fa2) rfl ⟨by decide, by decide⟩ (Nat.le_of_ble_eq_true rfl) dX11_fold_2 ⟨(by decide), (by decide)⟩) (fun r56 h57 f59 K58 => ?_)
  obtain ⟨O60, F61, f62, p63⟩ := K58
  refine g_istore C [(4, .inl r56), (0, .inr (.inr a0)), (1, .inl a1), (2, .inl a2), (3, .inl a3)] (by decide) rfl dX11_fold_5 ?_
  refine g_iload C 0 rfl dX11_fold_7 ?_
  refine g_iconst C dX11_fold_9 ?_
  refine g_icmp_ne C (iw f62 (by decide) (by decide)) (iw (il (-1)) (by decide) (by decide)) 15 (by decide) dX11_fold_10 (fun q64 => ?_) (fun q65 => ?_)
  · have f66 : (0 : Int) ≤ r56 ∧ r56 ≤ (95 : Int) := r_nl f62 q64
    refine g_aload_n C rfl 1 rfl dX11_fold_15 ?_
    have e67 : Tg h57 a0 = 11 := (fxT F61 ta0)
    obtain ⟨v68, e69⟩ : ∃ z, Rv h57 a0 2 = z := ⟨_, rfl⟩
    have t70 := ok_R O60 e67 rE_11_2 e69
    refine gf_R C fk_LandSurvey_16 rfl e67 e69 dX11_fold_16 ?_
    obtain ⟨v71, e72⟩ : ∃ z, Rv h57 v68 2 = z := ⟨_, rfl⟩
    have t73 := ok_R O60 t70 rE_3_2 e72
    have l74 := ok_L O60 t70 rE_3_2 e72
    refine gf_R C fk_LandSurvey_96 rfl t70 e72 dX11_fold_19 ?_
    refine g_iload C 0 rfl dX11_fold_22 ?_
    refine g_iload_n C rfl 4 rfl dX11_fold_24 ?_
    refine g_zast C t73 rfl l74 (ix f66 (by decide) (by decide)) fa3 dX11_fold_25 (fun h76 hh75 => ?_)
    have O77 := O60.pIa t73 ar_14101 hh75 rI_14101_0 fa3 nofun
    refine g_aload_n C rfl 1 rfl dX11_fold_26 ?_
    refine g_iconst C dX11_fold_27 ?_
    have e78 : Tg h76 a0 = 11 := ((pIT hh75).trans e67)
    refine gp_I C fk_LandSurvey_81 pk_LandSurvey_15 rfl e78 (iw (il 0) (by decide) (by decide)) (nar_z2 (iw (il 0) (by decide) (by decide))) dX11_fold_28 (fun h80 hh79 => ?_)
    have O81 := O77.pI e78 hh79 rI_11_15 (iw (il 0) (by decide) (by decide)) nofun
    refine g_iconst C dX11_fold_31 ?_
    have e82 : Rv h80 a0 3 = v1 := ((pIR hh79).trans ((pIR hh75).trans ((fxR F61 ta0 rfl).trans e2)))
    have e83 : Iv h80 a0 4 = v5 := ((pI_j hh79 (by decide)).trans ((pI_n hh75 (ne_tag e67 t73 (by decide))).trans ((fxI F61 ta0 rfl).trans e6)))
    have e84 : Rv h80 a0 8 = v8 := ((pIR hh79).trans ((pIR hh75).trans ((fxR F61 ta0 rfl).trans e9)))
    have e85 : Iv h80 a0 9 = v12 := ((pI_j hh79 (by decide)).trans ((pI_n hh75 (ne_tag e67 t73 (by decide))).trans ((fxI F61 ta0 rfl).trans e13)))
    have e86 : Rv h80 a0 11 = v15 := ((pIR hh79).trans ((pIR hh75).trans ((fxR F61 ta0 rfl).trans e16)))
    have e87 : Iv h80 a0 12 = v19 := ((pI_j hh79 (by decide)).trans ((pI_n hh75 (ne_tag e67 t73 (by decide))).trans ((fxI F61 ta0 rfl).trans e20)))
    have e88 : Rv h80 a0 14 = v25 := ((pIR hh79).trans ((pIR hh75).trans ((fxR F61 ta0 rfl).trans e26)))
    have e89 : Rv h80 a0 13 = v29 := ((pIR hh79).trans ((pIR hh75).trans ((fxR F61 ta0 rfl).trans e30)))
    have e90 : Rv h80 a0 6 = v32 := ((pIR hh79).trans ((pIR hh75).trans ((fxR F61 ta0 rfl).trans e33)))
    have e91 : Rv h80 a0 7 = v35 := ((pIR hh79).trans ((pIR hh75).trans ((fxR F61 ta0 rfl).trans e36)))
    have e92 : Rv h80 v29 1 = v1 := ((pIR hh79).trans ((pIR hh75).trans ((fxR F61 t31 rfl).trans p42)))
    have e93 : Rv h80 v29 2 = v8 := ((pIR hh79).trans ((pIR hh75).trans ((fxR F61 t31 rfl).trans p43)))
    have e94 : Tg h57 v29 = 7 := (fxT F61 t31)
    have e95 : Tg h76 v29 = 7 := ((pIT hh75).trans e94)
    have e96 : Iv h80 v29 3 = v50 := ((pI_n hh79 (ne_tag e95 e78 (by decide))).trans ((pI_n hh75 (ne_tag e94 t73 (by decide))).trans ((fxI F61 t31 rfl).trans e51)))
    have e97 : Iv h80 v29 4 = v53 := ((pI_n hh79 (ne_tag e95 e78 (by decide))).trans ((pI_n hh75 (ne_tag e94 t73 (by decide))).trans ((fxI F61 t31 rfl).trans e54)))
    have e98 : Tg h57 v1 = 38104 := (fxT F61 t3)
    have e99 : Tg h76 v1 = 38104 := ((pIT hh75).trans e98)
    have p100 := (SOK_fx O77 ((Fx.rf (wr := [2215]) (h := h76)).pI e78 hh79 rfl) e99 rfl rfl rfl (SOK_fx O60 ((Fx.rf (wr := [2820200]) (h := h57)).pIa t73 ar_14101 hh75 rfl) e98 rfl rfl rfl (SOK_fx O F61 t3 rfl rfl rfl p38)))
    have e101 : Tg h57 v8 = 39105 := (fxT F61 t10)
    have e102 : Tg h76 v8 = 39105 := ((pIT hh75).trans e101)
    have p103 := (BOK_fx O77 ((Fx.rf (wr := [2215]) (h := h76)).pI e78 hh79 rfl) e102 rfl rfl rfl rfl (BOK_fx O60 ((Fx.rf (wr := [2820200]) (h := h57)).pIa t73 ar_14101 hh75 rfl) e101 rfl rfl rfl rfl (BOK_fx O F61 t10 rfl rfl rfl rfl p39)))
    have e104 : Tg h57 v15 = 48106 := (fxT F61 t17)
    have e105 : Tg h76 v15 = 48106 := ((pIT hh75).trans e104)
    have p106 := (NN_fx ((Fx.rf (wr := [2215]) (h := h76)).pI e78 hh79 rfl) e105 ar_48106 rfl (NN_fx ((Fx.rf (wr := [2820200]) (h := h57)).pIa t73 ar_14101 hh75 rfl) e104 ar_48106 rfl (NN_fx F61 t17 ar_48106 rfl p40)))
    have e107 : Tg h57 v32 = 5 := (fxT F61 t34)
    have e108 : Tg h76 v32 = 5 := ((pIT hh75).trans e107)
    have p109 := (BkOk_fx O77 ((Fx.rf (wr := [2215]) (h := h76)).pI e78 hh79 rfl) e108 rfl rfl (BkOk_fx O60 ((Fx.rf (wr := [2820200]) (h := h57)).pIa t73 ar_14101 hh75 rfl) e107 rfl rfl (BkOk_fx O F61 t34 rfl rfl p46)))
    have e110 : Tg h57 v35 = 6 := (fxT F61 t37)
    have e111 : Tg h76 v35 = 6 := ((pIT hh75).trans e110)
    have p112 := (RulesOk_fx O77 ((Fx.rf (wr := [2215]) (h := h76)).pI e78 hh79 rfl) e111 rfl (RulesOk_fx O60 ((Fx.rf (wr := [2820200]) (h := h57)).pIa t73 ar_14101 hh75 rfl) e110 rfl (RulesOk_fx O F61 t37 rfl p47)))
    have p113 := (ND_fx ((Fx.rf (wr := [2215]) (h := h76)).pI e78 hh79 rfl) rfl rfl (ND_fx ((Fx.rf (wr := [2820200]) (h := h57)).pIa t73 ar_14101 hh75 rfl) rfl rfl (ND_fx F61 rfl rfl p48)))
    exact g_iret C hr (nar_z2 (iw (il 1) (by decide) (by decide))).1 (iw (il 1) (by decide) (by decide)) ⟨O81, ((((Fx.rf (wr := wr_kx_X11_fold)).call F61 rfl).pIa t73 ar_14101 hh75 rfl).pI e78 hh79 rfl), (iw (il 1) (by decide) (by decide)), (by unfold XInv; rw [e82, e83, e84, e85, e86, e87, (pI_e hh79), e88, e89, e90, e91, e92, e93, e96, e97]; exact ⟨p100, p103, p106, (fun z => absurd z (by decide)), rfl, rfl, (by omega), (by omega), p109, p112, p113⟩)⟩ (by decide) (by decide) dX11_fold_32
  · have f114 : (-1 : Int) ≤ r56 ∧ r56 ≤ (-1 : Int) := ii f62 (r_eq (il (-1)) q65) (by decide) (by decide)
    refine g_iconst C dX11_fold_13 ?_
    have p115 := (XInv_fx O F61 ta0 rfl P_XInv)
    exact g_iret C hr (nar_z2 (iw (il 0) (by decide) (by decide))).1 (iw (il 0) (by decide) (by decide)) ⟨O60, ((Fx.rf (wr := wr_kx_X11_fold)).call F61 rfl), (iw (il 0) (by decide) (by decide)), p115⟩ (by decide) (by decide) dX11_fold_14
def wr_k_X11_remain : List Nat := [1811, 1812]
set_option maxRecDepth 100000 in
set_option maxHeartbeats 4000000 in
theorem k_X11_remain (l : Launch) (D : va_G) (cy : Nat → ClassId) (w : Nat → Nat) (z0 : Nat)  {h : Hp} {a0 : Nat} {a1 : Int} {a2 : Int} {a3 : Int}  (O : Okh h) (ta0 : Tg h a0 = 11) (fa1 : (-2147483648) ≤ a1 ∧ a1 ≤ 2147483647) (fa2 : (-2147483648) ≤ a2 ∧ a2 ≤ 2147483647) (fa3 : 0 ≤ a3 ∧ a3 ≤ 1) (P_XInv : XInv h a0) : MI l D cy w z0 yX11_remain cX11_remain 4 (some .boolean) 1 21 0 0 [.inr (.inr a0), .inl a1, .inl a2, .inl a3] h (fun v h1 => Okh h1 ∧ Fx wr_k_X11_remain h h1 ∧ (0 ≤ v ∧ v ≤ 1) ∧ (XInv h1 a0)) := by
  obtain ⟨v1, e2⟩ : ∃ z, Rv h a0 3 = z := ⟨_, rfl⟩
  have t3 := ok_R O ta0 rE_11_3 e2
  have l4 := ok_L O ta0 rE_11_3 e2
  obtain ⟨v5, e6⟩ : ∃ z, Iv h a0 4 = z := ⟨_, rfl⟩
  have f7 := ok_I O ta0 rI_11_4 e6
  obtain ⟨v8, e9⟩ : ∃ z, Rv h a0 8 = z := ⟨_, rfl⟩
  have t10 := ok_R O ta0 rE_11_8 e9
  have l11 := ok_L O ta0 rE_11_8 e9
  obtain ⟨v12, e13⟩ : ∃ z, Iv h a0 9 = z := ⟨_, rfl⟩
  have f14 := ok_I O ta0 rI_11_9 e13
  obtain ⟨v15, e16⟩ : ∃ z, Rv h a0 11 = z := ⟨_, rfl⟩
  have t17 := ok_R O ta0 rE_11_11 e16
  have l18 := ok_L O ta0 rE_11_11 e16
  obtain ⟨v19, e20⟩ : ∃ z, Iv h a0 12 = z := ⟨_, rfl⟩
  have f21 := ok_I O ta0 rI_11_12 e20
  obtain ⟨v22, e23⟩ : ∃ z, Iv h a0 15 = z := ⟨_, rfl⟩
  have f24 := ok_I O ta0 rI_11_15 e23
  obtain ⟨v25, e26⟩ : ∃ z, Rv h a0 14 = z := ⟨_, rfl⟩
  have t27 := ok_R O ta0 rE_11_14 e26
  have l28 := ok_L O ta0 rE_11_14 e26
  obtain ⟨v29, e30⟩ : ∃ z, Rv h a0 13 = z := ⟨_, rfl⟩
  have t31 := ok_R O ta0 rE_11_13 e30
  obtain ⟨v32, e33⟩ : ∃ z, Rv h a0 6 = z := ⟨_, rfl⟩
  have t34 := ok_R O ta0 rE_11_6 e33
  obtain ⟨v35, e36⟩ : ∃ z, Rv h a0 7 = z := ⟨_, rfl⟩
  have t37 := ok_R O ta0 rE_11_7 e36
  have p49 := P_XInv
  unfold XInv at p49
  rw [e2, e6, e9, e13, e16, e20, e23, e26, e30, e33, e36] at p49
  obtain ⟨p38, p39, p40, p41, p42, p43, p44, p45, p46, p47, p48⟩ := p49
  obtain ⟨v50, e51⟩ : ∃ z, Iv h v29 3 = z := ⟨_, rfl⟩
  have f52 := ok_I O t31 rI_7_3 e51
  obtain ⟨v53, e54⟩ : ∃ z, Iv h v29 4 = z := ⟨_, rfl⟩
  have f55 := ok_I O t31 rI_7_4 e54
  rw [e51] at p44
  rw [e54] at p45
  refine hm_go (by decide +kernel) (Nat.le_of_ble_eq_true rfl) (fun p e s m below meth c C hr hn => ?_)
  refine g_aload_n C rfl 0 rfl dX11_remain_0 ?_
  refine g_iload_n C rfl 1 rfl dX11_remain_1 ?_
  refine g_callI (st := []) (gc_V C lk_LandSurvey_108 (k_X11_isSight l D cy w z0 O ta0 fa1) ta0 rfl rfl rfl ⟨by decide, by decide⟩ (Nat.le_of_ble_eq_true rfl) dX11_remain_2 ⟨(by decide), (by decide)⟩) (fun r56 h57 f59 K58 => ?_)
  obtain ⟨O60, F61, f62, p63⟩ := K58
  refine g_if_eq C (iw f62 (by decide) (by decide)) 31 (by decide) dX11_remain_5 (fun q64 => ?_) (fun q65 => ?_)
  · have f66 : (0 : Int) ≤ r56 ∧ r56 ≤ (0 : Int) := ii f62 (r_eq (il 0) q64) (by decide) (by decide)
    refine g_iconst C dX11_remain_31 ?_
    have p67 := (XInv_fx O F61 ta0 rfl P_XInv)
    exact g_iret C hr (nar_z2 (iw (il 0) (by decide) (by decide))).1 (iw (il 0) (by decide) (by decide)) ⟨O60, ((Fx.rf (wr := wr_k_X11_remain)).call F61 rfl), (iw (il 0) (by decide) (by decide)), p67⟩ (by decide) (by decide) dX11_remain_32
  · have f68 : (1 : Int) ≤ r56 ∧ r56 ≤ (1 : Int) := r_nl f62 q65
    refine g_aload_n C rfl 0 rfl dX11_remain_8 ?_
    have e69 : Tg h57 a0 = 11 := (fxT F61 ta0)
    have e70 : Rv h57 a0 3 = v1 := ((fxR F61 ta0 rfl).trans e2)
    refine gf_R C fk_LandSurvey_22 rfl e69 e70 dX11_remain_9 ?_
    refine g_iload_n C rfl 1 rfl dX11_remain_12 ?_
    have e71 : Tg h57 v1 = 38104 := (fxT F61 t3)
    have e72 : Ln h57 v1 = 40 := ((fxL F61 t3).trans l4)
    obtain ⟨v73, e74⟩ : ∃ z, Rv h57 v1 a1.toNat = z := ⟨_, rfl⟩
    refine g_aald (t := 4) C e71 rfl (by decide) rfl e72 (by omega) e74 dX11_remain_13 ?_
    have p75 := (SOK_fx O F61 t3 rfl rfl rfl p38)
    have q76 := nn_get p75.nn (by omega) e74
    have t77 := ok_Na O60 e71 ar_38104 rE_38104_0 e74 q76
    obtain ⟨v78, e79⟩ : ∃ z, Iv h57 v73 11 = z := ⟨_, rfl⟩
    have f80 := ok_I O60 t77 rI_9_11 e79
    refine gf_I C fk_LandSurvey_130 rfl t77 e79 dX11_remain_14 ?_
    refine g_iconst C dX11_remain_17 ?_
    refine g_icmp_ne C (iw f80 (by decide) (by decide)) (iw (il (-1)) (by decide) (by decide)) 31 (by decide) dX11_remain_18 (fun q81 => ?_) (fun q82 => ?_)
    · have f83 : (0 : Int) ≤ v78 ∧ v78 ≤ (9 : Int) := r_nl f80 q81
      refine g_iconst C dX11_remain_31 ?_
      have p84 := (XInv_fx O F61 ta0 rfl P_XInv)
      exact g_iret C hr (nar_z2 (iw (il 0) (by decide) (by decide))).1 (iw (il 0) (by decide) (by decide)) ⟨O60, ((Fx.rf (wr := wr_k_X11_remain)).call F61 rfl), (iw (il 0) (by decide) (by decide)), p84⟩ (by decide) (by decide) dX11_remain_32
    · have f85 : (-1 : Int) ≤ v78 ∧ v78 ≤ (-1 : Int) := ii f80 (r_eq (il (-1)) q82) (by decide) (by decide)
      refine g_iload_n C rfl 2 rfl dX11_remain_21 ?_
      refine g_if_lt C fa2 31 (by decide) dX11_remain_22 (fun q86 => ?_) (fun q87 => ?_)
      · have f88 : (-2147483648 : Int) ≤ a2 ∧ a2 ≤ (-1 : Int) := r_lt fa2 (il 0) q86 (by decide) (by decide)
        refine g_iconst C dX11_remain_31 ?_
        have p89 := (XInv_fx O F61 ta0 rfl P_XInv)
        exact g_iret C hr (nar_z2 (iw (il 0) (by decide) (by decide))).1 (iw (il 0) (by decide) (by decide)) ⟨O60, ((Fx.rf (wr := wr_k_X11_remain)).call F61 rfl), (iw (il 0) (by decide) (by decide)), p89⟩ (by decide) (by decide) dX11_remain_32
      · have f90 : (0 : Int) ≤ a2 ∧ a2 ≤ (2147483647 : Int) := r_ge fa2 (il 0) q87 (by decide) (by decide)
        refine g_iload_n C rfl 2 rfl dX11_remain_25 ?_
        refine g_bipush C (by decide) dX11_remain_26 ?_
        refine g_icmp_lt C (iw f90 (by decide) (by decide)) (iw (il 10) (by decide) (by decide)) 33 (by decide) dX11_remain_28 (fun q91 => ?_) (fun q92 => ?_)
        · have f93 : (0 : Int) ≤ a2 ∧ a2 ≤ (9 : Int) := r_lt f90 (il 10) q91 (by decide) (by decide)
          refine g_aload_n C rfl 0 rfl dX11_remain_33 ?_
          refine gf_R C fk_LandSurvey_22 rfl e69 e70 dX11_remain_34 ?_
          refine g_iload_n C rfl 1 rfl dX11_remain_37 ?_
          refine g_aald (t := 4) C e71 rfl (by decide) rfl e72 (by omega) e74 dX11_remain_38 ?_
          refine g_iload_n C rfl 2 rfl dX11_remain_39 ?_
          refine gp_I C fk_LandSurvey_130 pk_LandSurvey_Sight_11 rfl t77 (iw f93 (by decide) (by decide)) (nf_i _) dX11_remain_40 (fun h95 hh94 => ?_)
          have O96 := O60.pI t77 hh94 rI_9_11 (iw f93 (by decide) (by decide)) nofun
          refine g_aload_n C rfl 0 rfl dX11_remain_43 ?_
          have e97 : Tg h95 a0 = 11 := ((pIT hh94).trans e69)
          have e98 : Rv h95 a0 3 = v1 := ((pIR hh94).trans e70)
          refine gf_R C fk_LandSurvey_22 rfl e97 e98 dX11_remain_44 ?_
          refine g_iload_n C rfl 1 rfl dX11_remain_47 ?_
          have e99 : Tg h95 v1 = 38104 := ((pIT hh94).trans e71)
          have e100 : Ln h95 v1 = 40 := ((pIL hh94).trans e72)
          have e101 : Rv h95 v1 a1.toNat = v73 := ((pIR hh94).trans e74)
          refine g_aald (t := 4) C e99 rfl (by decide) rfl e100 (by omega) e101 dX11_remain_48 ?_
          have e102 : Tg h95 v73 = 9 := ((pIT hh94).trans t77)
          refine g_iload_n C rfl 3 rfl dX11_remain_49 ?_
          refine gp_I C fk_LandSurvey_133 pk_LandSurvey_Sight_12 rfl e102 (iw fa3 (by decide) (by decide)) (nar_z2 fa3) dX11_remain_50 (fun h104 hh103 => ?_)
          have O105 := O96.pI e102 hh103 rI_9_12 fa3 nofun
          refine g_iconst C dX11_remain_53 ?_
          have p106 := (XInv_fx O96 ((Fx.rf (wr := [1812]) (h := h95)).pI e102 hh103 rfl) e97 rfl (XInv_fx O60 ((Fx.rf (wr := [1811]) (h := h57)).pI t77 hh94 rfl) e69 rfl (XInv_fx O F61 ta0 rfl P_XInv)))
          exact g_iret C hr (nar_z2 (iw (il 1) (by decide) (by decide))).1 (iw (il 1) (by decide) (by decide)) ⟨O105, ((((Fx.rf (wr := wr_k_X11_remain)).call F61 rfl).pI t77 hh94 rfl).pI e102 hh103 rfl), (iw (il 1) (by decide) (by decide)), p106⟩ (by decide) (by decide) dX11_remain_54
        · have f107 : (10 : Int) ≤ a2 ∧ a2 ≤ (2147483647 : Int) := r_ge f90 (il 10) q92 (by decide) (by decide)
          refine g_iconst C dX11_remain_31 ?_
          have p108 := (XInv_fx O F61 ta0 rfl P_XInv)
          exact g_iret C hr (nar_z2 (iw (il 0) (by decide) (by decide))).1 (iw (il 0) (by decide) (by decide)) ⟨O60, ((Fx.rf (wr := wr_k_X11_remain)).call F61 rfl), (iw (il 0) (by decide) (by decide)), p108⟩ (by decide) (by decide) dX11_remain_32
def wr_k_X11_withdraw : List Nat := [1806, 2215]
set_option maxRecDepth 100000 in
set_option maxHeartbeats 4000000 in
theorem k_X11_withdraw (l : Launch) (D : va_G) (cy : Nat → ClassId) (w : Nat → Nat) (z0 : Nat)  {h : Hp} {a0 : Nat} {a1 : Int}  (O : Okh h) (ta0 : Tg h a0 = 11) (fa1 : (-2147483648) ≤ a1 ∧ a1 ≤ 2147483647) (P_XInv : XInv h a0) : MI l D cy w z0 yX11_withdraw cX11_withdraw 2 (some .boolean) 1 21 0 0 [.inr (.inr a0), .inl a1] h (fun v h1 => Okh h1 ∧ Fx wr_k_X11_withdraw h h1 ∧ (0 ≤ v ∧ v ≤ 1) ∧ (XInv h1 a0)) := by
  obtain ⟨v1, e2⟩ : ∃ z, Rv h a0 3 = z := ⟨_, rfl⟩
  have t3 := ok_R O ta0 rE_11_3 e2
  have l4 := ok_L O ta0 rE_11_3 e2
  obtain ⟨v5, e6⟩ : ∃ z, Iv h a0 4 = z := ⟨_, rfl⟩
  have f7 := ok_I O ta0 rI_11_4 e6
  obtain ⟨v8, e9⟩ : ∃ z, Rv h a0 8 = z := ⟨_, rfl⟩
  have t10 := ok_R O ta0 rE_11_8 e9
  have l11 := ok_L O ta0 rE_11_8 e9
  obtain ⟨v12, e13⟩ : ∃ z, Iv h a0 9 = z := ⟨_, rfl⟩
  have f14 := ok_I O ta0 rI_11_9 e13
  obtain ⟨v15, e16⟩ : ∃ z, Rv h a0 11 = z := ⟨_, rfl⟩
  have t17 := ok_R O ta0 rE_11_11 e16
  have l18 := ok_L O ta0 rE_11_11 e16
  obtain ⟨v19, e20⟩ : ∃ z, Iv h a0 12 = z := ⟨_, rfl⟩
  have f21 := ok_I O ta0 rI_11_12 e20
  obtain ⟨v22, e23⟩ : ∃ z, Iv h a0 15 = z := ⟨_, rfl⟩
  have f24 := ok_I O ta0 rI_11_15 e23
  obtain ⟨v25, e26⟩ : ∃ z, Rv h a0 14 = z := ⟨_, rfl⟩
  have t27 := ok_R O ta0 rE_11_14 e26
  have l28 := ok_L O ta0 rE_11_14 e26
  obtain ⟨v29, e30⟩ : ∃ z, Rv h a0 13 = z := ⟨_, rfl⟩
  have t31 := ok_R O ta0 rE_11_13 e30
  obtain ⟨v32, e33⟩ : ∃ z, Rv h a0 6 = z := ⟨_, rfl⟩
  have t34 := ok_R O ta0 rE_11_6 e33
  obtain ⟨v35, e36⟩ : ∃ z, Rv h a0 7 = z := ⟨_, rfl⟩
  have t37 := ok_R O ta0 rE_11_7 e36
  have p49 := P_XInv
  unfold XInv at p49
  rw [e2, e6, e9, e13, e16, e20, e23, e26, e30, e33, e36] at p49
  obtain ⟨p38, p39, p40, p41, p42, p43, p44, p45, p46, p47, p48⟩ := p49
  obtain ⟨v50, e51⟩ : ∃ z, Iv h v29 3 = z := ⟨_, rfl⟩
  have f52 := ok_I O t31 rI_7_3 e51
  obtain ⟨v53, e54⟩ : ∃ z, Iv h v29 4 = z := ⟨_, rfl⟩
  have f55 := ok_I O t31 rI_7_4 e54
  rw [e51] at p44
  rw [e54] at p45
  refine hm_go (by decide +kernel) (Nat.le_of_ble_eq_true rfl) (fun p e s m below meth c C hr hn => ?_)
  refine g_aload_n C rfl 0 rfl dX11_withdraw_0 ?_
  refine g_iload_n C rfl 1 rfl dX11_withdraw_1 ?_
  refine g_callI (st := []) (gc_V C lk_LandSurvey_108 (k_X11_isSight l D cy w z0 O ta0 fa1) ta0 rfl rfl rfl ⟨by decide, by decide⟩ (Nat.le_of_ble_eq_true rfl) dX11_withdraw_2 ⟨(by decide), (by decide)⟩) (fun r56 h57 f59 K58 => ?_)
  obtain ⟨O60, F61, f62, p63⟩ := K58
  refine g_if_eq C (iw f62 (by decide) (by decide)) 21 (by decide) dX11_withdraw_5 (fun q64 => ?_) (fun q65 => ?_)
  · have f66 : (0 : Int) ≤ r56 ∧ r56 ≤ (0 : Int) := ii f62 (r_eq (il 0) q64) (by decide) (by decide)
    refine g_iconst C dX11_withdraw_21 ?_
    have p67 := (XInv_fx O F61 ta0 rfl P_XInv)
    exact g_iret C hr (nar_z2 (iw (il 0) (by decide) (by decide))).1 (iw (il 0) (by decide) (by decide)) ⟨O60, ((Fx.rf (wr := wr_k_X11_withdraw)).call F61 rfl), (iw (il 0) (by decide) (by decide)), p67⟩ (by decide) (by decide) dX11_withdraw_22
  · have f68 : (1 : Int) ≤ r56 ∧ r56 ≤ (1 : Int) := r_nl f62 q65
    refine g_aload_n C rfl 0 rfl dX11_withdraw_8 ?_
    have e69 : Tg h57 a0 = 11 := (fxT F61 ta0)
    have e70 : Rv h57 a0 3 = v1 := ((fxR F61 ta0 rfl).trans e2)
    refine gf_R C fk_LandSurvey_22 rfl e69 e70 dX11_withdraw_9 ?_
    refine g_iload_n C rfl 1 rfl dX11_withdraw_12 ?_
    have e71 : Tg h57 v1 = 38104 := (fxT F61 t3)
    have e72 : Ln h57 v1 = 40 := ((fxL F61 t3).trans l4)
    obtain ⟨v73, e74⟩ : ∃ z, Rv h57 v1 a1.toNat = z := ⟨_, rfl⟩
    refine g_aald (t := 4) C e71 rfl (by decide) rfl e72 (by omega) e74 dX11_withdraw_13 ?_
    have p75 := (SOK_fx O F61 t3 rfl rfl rfl p38)
    have q76 := nn_get p75.nn (by omega) e74
    have t77 := ok_Na O60 e71 ar_38104 rE_38104_0 e74 q76
    obtain ⟨v78, e79⟩ : ∃ z, Iv h57 v73 6 = z := ⟨_, rfl⟩
    have f80 := ok_I O60 t77 rI_9_6 e79
    refine gf_I C fk_LandSurvey_136 rfl t77 e79 dX11_withdraw_14 ?_
    refine g_iconst C dX11_withdraw_17 ?_
    refine g_icmp_eq C (iw f80 (by decide) (by decide)) (iw (il (-1)) (by decide) (by decide)) 23 (by decide) dX11_withdraw_18 (fun q81 => ?_) (fun q82 => ?_)
    · have f83 : (-1 : Int) ≤ v78 ∧ v78 ≤ (-1 : Int) := ii f80 (r_eq (il (-1)) q81) (by decide) (by decide)
      refine g_aload_n C rfl 0 rfl dX11_withdraw_23 ?_
      refine gf_R C fk_LandSurvey_22 rfl e69 e70 dX11_withdraw_24 ?_
      refine g_iload_n C rfl 1 rfl dX11_withdraw_27 ?_
      refine g_aald (t := 4) C e71 rfl (by decide) rfl e72 (by omega) e74 dX11_withdraw_28 ?_
      refine g_aload_n C rfl 0 rfl dX11_withdraw_29 ?_
      obtain ⟨v84, e85⟩ : ∃ z, Iv h57 a0 0 = z := ⟨_, rfl⟩
      have f86 := ok_I O60 e69 rI_11_0 e85
      refine gf_I C fk_LandSurvey_78 rfl e69 e85 dX11_withdraw_30 ?_
      refine gp_I C fk_LandSurvey_136 pk_LandSurvey_Sight_6 rfl t77 (iw f86 (by decide) (by decide)) (nf_i _) dX11_withdraw_33 (fun h88 hh87 => ?_)
      have O89 := O60.pI t77 hh87 rI_9_6 (iw f86 (by decide) (by decide)) nofun
      refine g_aload_n C rfl 0 rfl dX11_withdraw_36 ?_
      refine g_iconst C dX11_withdraw_37 ?_
      have e90 : Tg h88 a0 = 11 := ((pIT hh87).trans e69)
      refine gp_I C fk_LandSurvey_81 pk_LandSurvey_15 rfl e90 (iw (il 0) (by decide) (by decide)) (nar_z2 (iw (il 0) (by decide) (by decide))) dX11_withdraw_38 (fun h92 hh91 => ?_)
      have O93 := O89.pI e90 hh91 rI_11_15 (iw (il 0) (by decide) (by decide)) nofun
      refine g_iconst C dX11_withdraw_41 ?_
      have e94 : Rv h92 a0 3 = v1 := ((pIR hh91).trans ((pIR hh87).trans e70))
      have e95 : Iv h92 a0 4 = v5 := ((pI_j hh91 (by decide)).trans ((pI_n hh87 (ne_tag e69 t77 (by decide))).trans ((fxI F61 ta0 rfl).trans e6)))
      have e96 : Rv h92 a0 8 = v8 := ((pIR hh91).trans ((pIR hh87).trans ((fxR F61 ta0 rfl).trans e9)))
      have e97 : Iv h92 a0 9 = v12 := ((pI_j hh91 (by decide)).trans ((pI_n hh87 (ne_tag e69 t77 (by decide))).trans ((fxI F61 ta0 rfl).trans e13)))
      have e98 : Rv h92 a0 11 = v15 := ((pIR hh91).trans ((pIR hh87).trans ((fxR F61 ta0 rfl).trans e16)))
      have e99 : Iv h92 a0 12 = v19 := ((pI_j hh91 (by decide)).trans ((pI_n hh87 (ne_tag e69 t77 (by decide))).trans ((fxI F61 ta0 rfl).trans e20)))
      have e100 : Rv h92 a0 14 = v25 := ((pIR hh91).trans ((pIR hh87).trans ((fxR F61 ta0 rfl).trans e26)))
      have e101 : Rv h92 a0 13 = v29 := ((pIR hh91).trans ((pIR hh87).trans ((fxR F61 ta0 rfl).trans e30)))
      have e102 : Rv h92 a0 6 = v32 := ((pIR hh91).trans ((pIR hh87).trans ((fxR F61 ta0 rfl).trans e33)))
      have e103 : Rv h92 a0 7 = v35 := ((pIR hh91).trans ((pIR hh87).trans ((fxR F61 ta0 rfl).trans e36)))
      have e104 : Rv h92 v29 1 = v1 := ((pIR hh91).trans ((pIR hh87).trans ((fxR F61 t31 rfl).trans p42)))
      have e105 : Rv h92 v29 2 = v8 := ((pIR hh91).trans ((pIR hh87).trans ((fxR F61 t31 rfl).trans p43)))
      have e106 : Tg h57 v29 = 7 := (fxT F61 t31)
      have e107 : Tg h88 v29 = 7 := ((pIT hh87).trans e106)
      have e108 : Iv h92 v29 3 = v50 := ((pI_n hh91 (ne_tag e107 e90 (by decide))).trans ((pI_n hh87 (ne_tag e106 t77 (by decide))).trans ((fxI F61 t31 rfl).trans e51)))
      have e109 : Iv h92 v29 4 = v53 := ((pI_n hh91 (ne_tag e107 e90 (by decide))).trans ((pI_n hh87 (ne_tag e106 t77 (by decide))).trans ((fxI F61 t31 rfl).trans e54)))
      have e110 : Tg h88 v1 = 38104 := ((pIT hh87).trans e71)
      have p111 := (SOK_fx O89 ((Fx.rf (wr := [2215]) (h := h88)).pI e90 hh91 rfl) e110 rfl rfl rfl (SOK_fx O60 ((Fx.rf (wr := [1806]) (h := h57)).pI t77 hh87 rfl) e71 rfl rfl rfl p75))
      have e112 : Tg h57 v8 = 39105 := (fxT F61 t10)
      have e113 : Tg h88 v8 = 39105 := ((pIT hh87).trans e112)
      have p114 := (BOK_fx O89 ((Fx.rf (wr := [2215]) (h := h88)).pI e90 hh91 rfl) e113 rfl rfl rfl rfl (BOK_fx O60 ((Fx.rf (wr := [1806]) (h := h57)).pI t77 hh87 rfl) e112 rfl rfl rfl rfl (BOK_fx O F61 t10 rfl rfl rfl rfl p39)))
      have e115 : Tg h57 v15 = 48106 := (fxT F61 t17)
      have e116 : Tg h88 v15 = 48106 := ((pIT hh87).trans e115)
      have p117 := (NN_fx ((Fx.rf (wr := [2215]) (h := h88)).pI e90 hh91 rfl) e116 ar_48106 rfl (NN_fx ((Fx.rf (wr := [1806]) (h := h57)).pI t77 hh87 rfl) e115 ar_48106 rfl (NN_fx F61 t17 ar_48106 rfl p40)))
      have e118 : Tg h57 v32 = 5 := (fxT F61 t34)
      have e119 : Tg h88 v32 = 5 := ((pIT hh87).trans e118)
      have p120 := (BkOk_fx O89 ((Fx.rf (wr := [2215]) (h := h88)).pI e90 hh91 rfl) e119 rfl rfl (BkOk_fx O60 ((Fx.rf (wr := [1806]) (h := h57)).pI t77 hh87 rfl) e118 rfl rfl (BkOk_fx O F61 t34 rfl rfl p46)))
      have e121 : Tg h57 v35 = 6 := (fxT F61 t37)
      have e122 : Tg h88 v35 = 6 := ((pIT hh87).trans e121)
      have p123 := (RulesOk_fx O89 ((Fx.rf (wr := [2215]) (h := h88)).pI e90 hh91 rfl) e122 rfl (RulesOk_fx O60 ((Fx.rf (wr := [1806]) (h := h57)).pI t77 hh87 rfl) e121 rfl (RulesOk_fx O F61 t37 rfl p47)))
      have p124 := (ND_fx ((Fx.rf (wr := [2215]) (h := h88)).pI e90 hh91 rfl) rfl rfl (ND_fx ((Fx.rf (wr := [1806]) (h := h57)).pI t77 hh87 rfl) rfl rfl (ND_fx F61 rfl rfl p48)))
      exact g_iret C hr (nar_z2 (iw (il 1) (by decide) (by decide))).1 (iw (il 1) (by decide) (by decide)) ⟨O93, ((((Fx.rf (wr := wr_k_X11_withdraw)).call F61 rfl).pI t77 hh87 rfl).pI e90 hh91 rfl), (iw (il 1) (by decide) (by decide)), (by unfold XInv; rw [e94, e95, e96, e97, e98, e99, (pI_e hh91), e100, e101, e102, e103, e104, e105, e108, e109]; exact ⟨p111, p114, p117, (fun z => absurd z (by decide)), rfl, rfl, (by omega), (by omega), p120, p123, p124⟩)⟩ (by decide) (by decide) dX11_withdraw_42
    · have f125 : (0 : Int) ≤ v78 ∧ v78 ≤ (9999 : Int) := r_nl f80 q82
      refine g_iconst C dX11_withdraw_21 ?_
      have p126 := (XInv_fx O F61 ta0 rfl P_XInv)
      exact g_iret C hr (nar_z2 (iw (il 0) (by decide) (by decide))).1 (iw (il 0) (by decide) (by decide)) ⟨O60, ((Fx.rf (wr := wr_k_X11_withdraw)).call F61 rfl), (iw (il 0) (by decide) (by decide)), p126⟩ (by decide) (by decide) dX11_withdraw_22
def wr_k_X11_cost : List Nat := [401, 402, 403, 404, 405, 406, 1403, 1404, 1405, 1412, 1813, 1814, 1815, 1816, 1817, 1818, 2003, 2207, 2215, 2216, 200400, 200407, 200408, 7420000, 8020000, 8220400, 8420400, 8620000, 9020000, 9220400, 9420000, 9821400, 10020000, 1000000002, 1000001002, 1000010100, 1000011100]
set_option maxRecDepth 100000 in
set_option maxHeartbeats 4000000 in
theorem k_X11_cost (l : Launch) (D : va_G) (cy : Nat → ClassId) (w : Nat → Nat) (z0 : Nat)  {h : Hp} {a0 : Nat} {a1 : Int}  (O : Okh h) (ta0 : Tg h a0 = 11) (fa1 : (-2147483648) ≤ a1 ∧ a1 ≤ 2147483647) (P_XInv : XInv h a0) : MI l D cy w z0 yX11_cost cX11_cost 3 (some .int) 10 279 48 3216 [.inr (.inr a0), .inl a1] h (fun v h1 => Okh h1 ∧ Fx wr_k_X11_cost h h1 ∧ ((-2147483648) ≤ v ∧ v ≤ 2147483647) ∧ (XInv h1 a0)) := by
  obtain ⟨v1, e2⟩ : ∃ z, Rv h a0 3 = z := ⟨_, rfl⟩
  have t3 := ok_R O ta0 rE_11_3 e2
  have l4 := ok_L O ta0 rE_11_3 e2
  obtain ⟨v5, e6⟩ : ∃ z, Iv h a0 4 = z := ⟨_, rfl⟩
  have f7 := ok_I O ta0 rI_11_4 e6
  obtain ⟨v8, e9⟩ : ∃ z, Rv h a0 8 = z := ⟨_, rfl⟩
  have t10 := ok_R O ta0 rE_11_8 e9
  have l11 := ok_L O ta0 rE_11_8 e9
  obtain ⟨v12, e13⟩ : ∃ z, Iv h a0 9 = z := ⟨_, rfl⟩
  have f14 := ok_I O ta0 rI_11_9 e13
  obtain ⟨v15, e16⟩ : ∃ z, Rv h a0 11 = z := ⟨_, rfl⟩
  have t17 := ok_R O ta0 rE_11_11 e16
  have l18 := ok_L O ta0 rE_11_11 e16
  obtain ⟨v19, e20⟩ : ∃ z, Iv h a0 12 = z := ⟨_, rfl⟩
  have f21 := ok_I O ta0 rI_11_12 e20
  obtain ⟨v22, e23⟩ : ∃ z, Iv h a0 15 = z := ⟨_, rfl⟩
  have f24 := ok_I O ta0 rI_11_15 e23
  obtain ⟨v25, e26⟩ : ∃ z, Rv h a0 14 = z := ⟨_, rfl⟩
  have t27 := ok_R O ta0 rE_11_14 e26
  have l28 := ok_L O ta0 rE_11_14 e26
  obtain ⟨v29, e30⟩ : ∃ z, Rv h a0 13 = z := ⟨_, rfl⟩
  have t31 := ok_R O ta0 rE_11_13 e30
  obtain ⟨v32, e33⟩ : ∃ z, Rv h a0 6 = z := ⟨_, rfl⟩
  have t34 := ok_R O ta0 rE_11_6 e33
  obtain ⟨v35, e36⟩ : ∃ z, Rv h a0 7 = z := ⟨_, rfl⟩
  have t37 := ok_R O ta0 rE_11_7 e36
  have p49 := P_XInv
  unfold XInv at p49
  rw [e2, e6, e9, e13, e16, e20, e23, e26, e30, e33, e36] at p49
  obtain ⟨p38, p39, p40, p41, p42, p43, p44, p45, p46, p47, p48⟩ := p49
  obtain ⟨v50, e51⟩ : ∃ z, Iv h v29 3 = z := ⟨_, rfl⟩
  have f52 := ok_I O t31 rI_7_3 e51
  obtain ⟨v53, e54⟩ : ∃ z, Iv h v29 4 = z := ⟨_, rfl⟩
  have f55 := ok_I O t31 rI_7_4 e54
  rw [e51] at p44
  rw [e54] at p45
  refine hm_go (by decide +kernel) (Nat.le_of_ble_eq_true rfl) (fun p e s m below meth c C hr hn => ?_)
  refine g_aload_n C rfl 0 rfl dX11_cost_0 ?_
  refine g_iload_n C rfl 1 rfl dX11_cost_1 ?_
  refine g_callR (st := []) (gc_V C lk_LandSurvey_197 (k_X11_groundOf l D cy w z0 O ta0 fa1 P_XInv) ta0 rfl rfl rfl ⟨by decide, by decide⟩ (Nat.le_of_ble_eq_true rfl) dX11_cost_2 ⟨(by decide), (by decide)⟩) (fun r56 h57 K58 => ?_)
  obtain ⟨O60, F61, p62, p63⟩ := K58
  have e64 : Rv h57 a0 3 = v1 := ((fxR F61 ta0 rfl).trans e2)
  have e65 : Iv h57 a0 4 = v5 := ((fxI F61 ta0 rfl).trans e6)
  have e66 : Rv h57 a0 8 = v8 := ((fxR F61 ta0 rfl).trans e9)
  have e67 : Iv h57 a0 9 = v12 := ((fxI F61 ta0 rfl).trans e13)
  have e68 : Rv h57 a0 11 = v15 := ((fxR F61 ta0 rfl).trans e16)
  have e69 : Iv h57 a0 12 = v19 := ((fxI F61 ta0 rfl).trans e20)
  obtain ⟨v70, e71⟩ : ∃ z, Iv h57 a0 15 = z := ⟨_, rfl⟩
  have e72 : Tg h57 a0 = 11 := (fxT F61 ta0)
  have f73 := ok_I O60 e72 rI_11_15 e71
  have e74 : Rv h57 a0 14 = v25 := ((fxR F61 ta0 rfl).trans e26)
  have e75 : Rv h57 a0 13 = v29 := ((fxR F61 ta0 rfl).trans e30)
  have e76 : Rv h57 a0 6 = v32 := ((fxR F61 ta0 rfl).trans e33)
  obtain ⟨v77, e78⟩ : ∃ z, Rv h57 a0 7 = z := ⟨_, rfl⟩
  have t79 := ok_R O60 e72 rE_11_7 e78
  have p91 := p62
  unfold XInv at p91
  rw [e64, e65, e66, e67, e68, e69, e71, e74, e75, e76, e78] at p91
  obtain ⟨p80, p81, p82, p83, p84, p85, p86, p87, p88, p89, p90⟩ := p91
  obtain ⟨v92, e93⟩ : ∃ z, Iv h57 v29 3 = z := ⟨_, rfl⟩
  have e94 : Tg h57 v29 = 7 := (fxT F61 t31)
  have f95 := ok_I O60 e94 rI_7_3 e93
  obtain ⟨v96, e97⟩ : ∃ z, Iv h57 v29 4 = z := ⟨_, rfl⟩
  have f98 := ok_I O60 e94 rI_7_4 e97
  rw [e93] at p86
  rw [e97] at p87
  refine g_astore_n C [(2, .inr (.inr r56)), (0, .inr (.inr a0)), (1, .inl a1)] rfl (by decide) rfl dX11_cost_5 ?_
  refine g_aload_n C rfl 0 rfl dX11_cost_6 ?_
  refine g_ifnonnull C 14 (by decide) dX11_cost_7 (fun q99 => ?_) (fun q100 => ?_)
  · have t101 := p63.resolve_left q99
    refine g_aload_n C rfl 0 rfl dX11_cost_14 ?_
    obtain ⟨v102, e103⟩ : ∃ z, Iv h57 r56 3 = z := ⟨_, rfl⟩
    have f104 := ok_I O60 t101 rI_2_3 e103
    refine gf_I C fk_LandSurvey_201 rfl t101 e103 dX11_cost_15 ?_
    exact g_iret C hr rfl f104 ⟨O60, ((Fx.rf (wr := wr_k_X11_cost)).call F61 rfl), f104, p62⟩ (by decide) (by decide) dX11_cost_18
  · refine g_iconst C dX11_cost_10 ?_
    refine g_goto C 18 (by decide) dX11_cost_11 ?_
    exact g_iret C hr rfl (iw (il (-1)) (by decide) (by decide)) ⟨O60, ((Fx.rf (wr := wr_k_X11_cost)).call F61 rfl), (iw (il (-1)) (by decide) (by decide)), p62⟩ (by decide) (by decide) dX11_cost_18
def wr_k_X11_doubted : List Nat := [401, 402, 403, 404, 405, 406, 1403, 1404, 1405, 1412, 1813, 1814, 1815, 1816, 1817, 1818, 2003, 2207, 2215, 2216, 200400, 200407, 200408, 7420000, 8020000, 8220400, 8420400, 8620000, 9020000, 9220400, 9420000, 9821400, 10020000, 1000000002, 1000001002, 1000010100, 1000011100]
set_option maxRecDepth 100000 in
set_option maxHeartbeats 4000000 in
theorem k_X11_doubted (l : Launch) (D : va_G) (cy : Nat → ClassId) (w : Nat → Nat) (z0 : Nat)  {h : Hp} {a0 : Nat} {a1 : Int} {a2 : Int}  (O : Okh h) (ta0 : Tg h a0 = 11) (fa1 : (-2147483648) ≤ a1 ∧ a1 ≤ 2147483647) (fa2 : (-2147483648) ≤ a2 ∧ a2 ≤ 2147483647) (P_XInv : XInv h a0) : MI l D cy w z0 yX11_doubted cX11_doubted 6 (some .int) 10 279 48 3216 [.inr (.inr a0), .inl a1, .inl a2] h (fun v h1 => Okh h1 ∧ Fx wr_k_X11_doubted h h1 ∧ ((-2147483648) ≤ v ∧ v ≤ 2147483647) ∧ (XInv h1 a0)) := by
  obtain ⟨v1, e2⟩ : ∃ z, Rv h a0 3 = z := ⟨_, rfl⟩
  have t3 := ok_R O ta0 rE_11_3 e2
  have l4 := ok_L O ta0 rE_11_3 e2
  obtain ⟨v5, e6⟩ : ∃ z, Iv h a0 4 = z := ⟨_, rfl⟩
  have f7 := ok_I O ta0 rI_11_4 e6
  obtain ⟨v8, e9⟩ : ∃ z, Rv h a0 8 = z := ⟨_, rfl⟩
  have t10 := ok_R O ta0 rE_11_8 e9
  have l11 := ok_L O ta0 rE_11_8 e9
  obtain ⟨v12, e13⟩ : ∃ z, Iv h a0 9 = z := ⟨_, rfl⟩
  have f14 := ok_I O ta0 rI_11_9 e13
  obtain ⟨v15, e16⟩ : ∃ z, Rv h a0 11 = z := ⟨_, rfl⟩
  have t17 := ok_R O ta0 rE_11_11 e16
  have l18 := ok_L O ta0 rE_11_11 e16
  obtain ⟨v19, e20⟩ : ∃ z, Iv h a0 12 = z := ⟨_, rfl⟩
  have f21 := ok_I O ta0 rI_11_12 e20
  obtain ⟨v22, e23⟩ : ∃ z, Iv h a0 15 = z := ⟨_, rfl⟩
  have f24 := ok_I O ta0 rI_11_15 e23
  obtain ⟨v25, e26⟩ : ∃ z, Rv h a0 14 = z := ⟨_, rfl⟩
  have t27 := ok_R O ta0 rE_11_14 e26
  have l28 := ok_L O ta0 rE_11_14 e26
  obtain ⟨v29, e30⟩ : ∃ z, Rv h a0 13 = z := ⟨_, rfl⟩
  have t31 := ok_R O ta0 rE_11_13 e30
  obtain ⟨v32, e33⟩ : ∃ z, Rv h a0 6 = z := ⟨_, rfl⟩
  have t34 := ok_R O ta0 rE_11_6 e33
  obtain ⟨v35, e36⟩ : ∃ z, Rv h a0 7 = z := ⟨_, rfl⟩
  have t37 := ok_R O ta0 rE_11_7 e36
  have p49 := P_XInv
  unfold XInv at p49
  rw [e2, e6, e9, e13, e16, e20, e23, e26, e30, e33, e36] at p49
  obtain ⟨p38, p39, p40, p41, p42, p43, p44, p45, p46, p47, p48⟩ := p49
  obtain ⟨v50, e51⟩ : ∃ z, Iv h v29 3 = z := ⟨_, rfl⟩
  have f52 := ok_I O t31 rI_7_3 e51
  obtain ⟨v53, e54⟩ : ∃ z, Iv h v29 4 = z := ⟨_, rfl⟩
  have f55 := ok_I O t31 rI_7_4 e54
  rw [e51] at p44
  rw [e54] at p45
  refine hm_go (by decide +kernel) (Nat.le_of_ble_eq_true rfl) (fun p e s m below meth c C hr hn => ?_)
  refine g_aload_n C rfl 0 rfl dX11_doubted_0 ?_
  refine g_iload_n C rfl 1 rfl dX11_doubted_1 ?_
  refine g_callR (st := []) (gc_V C lk_LandSurvey_197 (k_X11_groundOf l D cy w z0 O ta0 fa1 P_XInv) ta0 rfl rfl rfl ⟨by decide, by decide⟩ (Nat.le_of_ble_eq_true rfl) dX11_doubted_2 ⟨(by decide), (by decide)⟩) (fun r56 h57 K58 => ?_)
  obtain ⟨O60, F61, p62, p63⟩ := K58
  have e64 : Rv h57 a0 3 = v1 := ((fxR F61 ta0 rfl).trans e2)
  have e65 : Iv h57 a0 4 = v5 := ((fxI F61 ta0 rfl).trans e6)
  have e66 : Rv h57 a0 8 = v8 := ((fxR F61 ta0 rfl).trans e9)
  have e67 : Iv h57 a0 9 = v12 := ((fxI F61 ta0 rfl).trans e13)
  have e68 : Rv h57 a0 11 = v15 := ((fxR F61 ta0 rfl).trans e16)
  have e69 : Iv h57 a0 12 = v19 := ((fxI F61 ta0 rfl).trans e20)
  obtain ⟨v70, e71⟩ : ∃ z, Iv h57 a0 15 = z := ⟨_, rfl⟩
  have e72 : Tg h57 a0 = 11 := (fxT F61 ta0)
  have f73 := ok_I O60 e72 rI_11_15 e71
  have e74 : Rv h57 a0 14 = v25 := ((fxR F61 ta0 rfl).trans e26)
  have e75 : Rv h57 a0 13 = v29 := ((fxR F61 ta0 rfl).trans e30)
  have e76 : Rv h57 a0 6 = v32 := ((fxR F61 ta0 rfl).trans e33)
  obtain ⟨v77, e78⟩ : ∃ z, Rv h57 a0 7 = z := ⟨_, rfl⟩
  have t79 := ok_R O60 e72 rE_11_7 e78
  have p91 := p62
  unfold XInv at p91
  rw [e64, e65, e66, e67, e68, e69, e71, e74, e75, e76, e78] at p91
  obtain ⟨p80, p81, p82, p83, p84, p85, p86, p87, p88, p89, p90⟩ := p91
  obtain ⟨v92, e93⟩ : ∃ z, Iv h57 v29 3 = z := ⟨_, rfl⟩
  have e94 : Tg h57 v29 = 7 := (fxT F61 t31)
  have f95 := ok_I O60 e94 rI_7_3 e93
  obtain ⟨v96, e97⟩ : ∃ z, Iv h57 v29 4 = z := ⟨_, rfl⟩
  have f98 := ok_I O60 e94 rI_7_4 e97
  rw [e93] at p86
  rw [e97] at p87
  refine g_astore_n C [(3, .inr (.inr r56)), (0, .inr (.inr a0)), (1, .inl a1), (2, .inl a2)] rfl (by decide) rfl dX11_doubted_5 ?_
  refine g_aload_n C rfl 0 rfl dX11_doubted_6 ?_
  refine g_ifnull C 14 (by decide) dX11_doubted_7 (fun q99 => ?_) (fun q100 => ?_)
  · refine g_iconst C dX11_doubted_14 ?_
    exact g_iret C hr rfl (iw (il (-1)) (by decide) (by decide)) ⟨O60, ((Fx.rf (wr := wr_k_X11_doubted)).call F61 rfl), (iw (il (-1)) (by decide) (by decide)), p62⟩ (by decide) (by decide) dX11_doubted_15
  · have t101 := p63.resolve_left q100
    refine g_iload_n C rfl 3 rfl dX11_doubted_10 ?_
    refine g_if_ge C fa2 16 (by decide) dX11_doubted_11 (fun q102 => ?_) (fun q103 => ?_)
    · have f104 : (0 : Int) ≤ a2 ∧ a2 ≤ (2147483647 : Int) := r_ge fa2 (il 0) q102 (by decide) (by decide)
      refine g_iload_n C rfl 3 rfl dX11_doubted_16 ?_
      refine g_istore C [(4, .inl a2), (3, .inr (.inr r56)), (0, .inr (.inr a0)), (1, .inl a1), (2, .inl a2)] (by decide) rfl dX11_doubted_17 ?_
      refine g_iconst C dX11_doubted_19 ?_
      refine g_istore C [(5, .inl 0), (4, .inl a2), (3, .inr (.inr r56)), (0, .inr (.inr a0)), (1, .inl a1), (2, .inl a2)] (by decide) rfl dX11_doubted_20 ?_
      refine GW.sub [3, 4, 5, 2, 1, 0] rfl ?_
      -- loop at 22
      have L108 : ∀ (μ : Nat) (x105 : Int) (x106 : Int) (h107 : Hp), (40 - x106).toNat = μ → Okh h107 → Fx [] h57 h107 → ((-2147483648 : Int) ≤ x105 ∧ x105 ≤ (2147483647 : Int)) → ((0 : Int) ≤ x106 ∧ x106 ≤ (40 : Int)) → GW p l e (rmm 10 279 48 3216) s m (List.map toV [.inr (.inr a0), .inl a1, .inl a2]).toArray below meth c D cy z0 6 (MQ below (QI D cy z0 (fun v h1 => Okh h1 ∧ Fx wr_k_X11_doubted h h1 ∧ ((-2147483648) ≤ v ∧ v ≤ 2147483647) ∧ (XInv h1 a0))) (List.map toV [.inr (.inr a0), .inl a1, .inl a2]).toArray s 48 3216 (Aof z0)) 22 [(0, .inr (.inr a0)), (1, .inl a1), (2, .inl a2), (3, .inr (.inr r56)), (4, .inl x105), (5, .inl x106)] [] h107 48 3216 := by
        intro μ
        induction μ using Nat.strongRecOn with
        | ind μ ih109 =>
          intro x105 x106 h107 hm110 O111 F112 f113 f114
          refine g_iload C 5 rfl dX11_doubted_22 ?_
          refine g_aload_n C rfl 0 rfl dX11_doubted_24 ?_
          have e115 : Tg h107 a0 = 11 := (fxT F112 e72)
          have e116 : Iv h107 a0 4 = v5 := ((fxI F112 e72 rfl).trans e65)
          refine gf_I C fk_LandSurvey_102 rfl e115 e116 dX11_doubted_25 ?_
          refine g_icmp_ge C (iw f114 (by decide) (by decide)) (iw f7 (by decide) (by decide)) 57 (by decide) dX11_doubted_28 (fun q117 => ?_) (fun q118 => ?_)
          · refine g_iconst C dX11_doubted_57 ?_
            have p119 := (XInv_fx O60 F112 e72 rfl p62)
            exact g_iret C hr rfl (iw (il (-1)) (by decide) (by decide)) ⟨O111, (((Fx.rf (wr := wr_k_X11_doubted)).call F61 rfl).call F112 rfl), (iw (il (-1)) (by decide) (by decide)), p119⟩ (by decide) (by decide) dX11_doubted_58
          · have f120 : (0 : Int) ≤ x106 ∧ x106 ≤ (39 : Int) := r_lt f114 f7 q118 (by decide) (by decide)
            have f121 : (1 : Int) ≤ v5 ∧ v5 ≤ (40 : Int) := r_gt f7 f114 q118 (by decide) (by decide)
            refine g_aload_n C rfl 3 rfl dX11_doubted_31 ?_
            refine g_iload C 5 rfl dX11_doubted_32 ?_
            have e122 : Tg h107 r56 = 2 := (fxT F112 t101)
            refine g_callI (st := []) (gc_V C lk_LandSurvey_204 (k_X1_doubts l D cy w z0 O111 e122 (iw f120 (by decide) (by decide))) e122 rfl rfl rfl ⟨by decide, by decide⟩ (Nat.le_of_ble_eq_true rfl) dX11_doubted_34 ⟨(by decide), (by decide)⟩) (fun r123 h124 f126 K125 => ?_)
            obtain ⟨O127, F128, f129⟩ := K125
            refine g_if_eq C (iw f129 (by decide) (by decide)) 51 (by decide) dX11_doubted_37 (fun q130 => ?_) (fun q131 => ?_)
            · have f132 : (0 : Int) ≤ r123 ∧ r123 ≤ (0 : Int) := ii f129 (r_eq (il 0) q130) (by decide) (by decide)
              have f133 : (1 : Int) ≤ (x106 + 1) ∧ (x106 + 1) ≤ (40 : Int) := ia_add f120 (il 1) (by decide) (by decide)
              refine g_iinc C [(5, .inl (x106 + 1)), (0, .inr (.inr a0)), (1, .inl a1), (2, .inl a2), (3, .inr (.inr r56)), (4, .inl x105)] 5 rfl (by decide) rfl dX11_doubted_51 ?_
              refine g_goto C 22 (by decide) dX11_doubted_54 ?_
              refine GW.sub [1, 2, 3, 4, 5, 0] rfl ?_
              exact ih109 _ (by omega) x105 (x106 + 1) h124 rfl O127 (F112.call F128 rfl) f113 (iw f133 (by decide) (by decide))
            · have f134 : (1 : Int) ≤ r123 ∧ r123 ≤ (1 : Int) := r_nl f129 q131
              refine g_iload C 4 rfl dX11_doubted_40 ?_
              refine g_if_ne C f113 48 (by decide) dX11_doubted_42 (fun q135 => ?_) (fun q136 => ?_)
              · have f137 : (-2147483648 : Int) ≤ (w32 (x105 + (-1))) ∧ (w32 (x105 + (-1))) ≤ (2147483647 : Int) := w32_inR _
                refine g_iincW C [(4, .inl (w32 (x105 + (-1)))), (0, .inr (.inr a0)), (1, .inl a1), (2, .inl a2), (3, .inr (.inr r56)), (5, .inl x106)] 4 rfl (by decide) rfl dX11_doubted_48 ?_
                have f138 : (1 : Int) ≤ (x106 + 1) ∧ (x106 + 1) ≤ (40 : Int) := ia_add f120 (il 1) (by decide) (by decide)
                refine g_iinc C [(5, .inl (x106 + 1)), (4, .inl (w32 (x105 + (-1)))), (0, .inr (.inr a0)), (1, .inl a1), (2, .inl a2), (3, .inr (.inr r56))] 5 rfl (by decide) rfl dX11_doubted_51 ?_
                refine g_goto C 22 (by decide) dX11_doubted_54 ?_
                refine GW.sub [2, 3, 4, 5, 1, 0] rfl ?_
                exact ih109 _ (by omega) (w32 (x105 + (-1))) (x106 + 1) h124 rfl O127 (F112.call F128 rfl) f137 (iw f138 (by decide) (by decide))
              · have f139 : (0 : Int) ≤ x105 ∧ x105 ≤ (0 : Int) := ii f113 (r_eq (il 0) q136) (by decide) (by decide)
                refine g_iload C 5 rfl dX11_doubted_45 ?_
                have p140 := (XInv_fx O111 F128 e115 rfl (XInv_fx O60 F112 e72 rfl p62))
                exact g_iret C hr rfl (iw f120 (by decide) (by decide)) ⟨O127, ((((Fx.rf (wr := wr_k_X11_doubted)).call F61 rfl).call F112 rfl).call F128 rfl), (iw f120 (by decide) (by decide)), p140⟩ (by decide) (by decide) dX11_doubted_47
      exact L108 _ a2 0 h57 rfl O60 Fx.rf (iw f104 (by decide) (by decide)) (iw (il 0) (by decide) (by decide))
    · have f141 : (-2147483648 : Int) ≤ a2 ∧ a2 ≤ (-1 : Int) := r_lt fa2 (il 0) q103 (by decide) (by decide)
      refine g_iconst C dX11_doubted_14 ?_
      exact g_iret C hr rfl (iw (il (-1)) (by decide) (by decide)) ⟨O60, ((Fx.rf (wr := wr_k_X11_doubted)).call F61 rfl), (iw (il (-1)) (by decide) (by decide)), p62⟩ (by decide) (by decide) dX11_doubted_15
def wr_k_X11_best : List Nat := [401, 402, 403, 404, 405, 406, 1403, 1404, 1405, 1412, 1813, 1814, 1815, 1816, 1817, 1818, 2003, 2207, 2215, 2216, 2217, 200400, 200407, 200408, 7420000, 8020000, 8220400, 8420400, 8620000, 9020000, 9220400, 9420000, 9821400, 10020000, 1000000002, 1000001002, 1000010100, 1000011100]
set_option maxRecDepth 100000 in
set_option maxHeartbeats 4000000 in
theorem k_X11_best (l : Launch) (D : va_G) (cy : Nat → ClassId) (w : Nat → Nat) (z0 : Nat)  {h : Hp} {a0 : Nat} {a1 : Int}  (O : Okh h) (ta0 : Tg h a0 = 11) (fa1 : (-2147483648) ≤ a1 ∧ a1 ≤ 2147483647) (P_XInv : XInv h a0) : MI l D cy w z0 yX11_best cX11_best 2 (some .int) 10 279 48 3216 [.inr (.inr a0), .inl a1] h (fun v h1 => Okh h1 ∧ Fx wr_k_X11_best h h1 ∧ ((-2147483648) ≤ v ∧ v ≤ 2147483647) ∧ (XInv h1 a0)) := by
  obtain ⟨v1, e2⟩ : ∃ z, Rv h a0 3 = z := ⟨_, rfl⟩
  have t3 := ok_R O ta0 rE_11_3 e2
  have l4 := ok_L O ta0 rE_11_3 e2
  obtain ⟨v5, e6⟩ : ∃ z, Iv h a0 4 = z := ⟨_, rfl⟩
  have f7 := ok_I O ta0 rI_11_4 e6
  obtain ⟨v8, e9⟩ : ∃ z, Rv h a0 8 = z := ⟨_, rfl⟩
  have t10 := ok_R O ta0 rE_11_8 e9
  have l11 := ok_L O ta0 rE_11_8 e9
  obtain ⟨v12, e13⟩ : ∃ z, Iv h a0 9 = z := ⟨_, rfl⟩
  have f14 := ok_I O ta0 rI_11_9 e13
  obtain ⟨v15, e16⟩ : ∃ z, Rv h a0 11 = z := ⟨_, rfl⟩
  have t17 := ok_R O ta0 rE_11_11 e16
  have l18 := ok_L O ta0 rE_11_11 e16
  obtain ⟨v19, e20⟩ : ∃ z, Iv h a0 12 = z := ⟨_, rfl⟩
  have f21 := ok_I O ta0 rI_11_12 e20
  obtain ⟨v22, e23⟩ : ∃ z, Iv h a0 15 = z := ⟨_, rfl⟩
  have f24 := ok_I O ta0 rI_11_15 e23
  obtain ⟨v25, e26⟩ : ∃ z, Rv h a0 14 = z := ⟨_, rfl⟩
  have t27 := ok_R O ta0 rE_11_14 e26
  have l28 := ok_L O ta0 rE_11_14 e26
  obtain ⟨v29, e30⟩ : ∃ z, Rv h a0 13 = z := ⟨_, rfl⟩
  have t31 := ok_R O ta0 rE_11_13 e30
  obtain ⟨v32, e33⟩ : ∃ z, Rv h a0 6 = z := ⟨_, rfl⟩
  have t34 := ok_R O ta0 rE_11_6 e33
  obtain ⟨v35, e36⟩ : ∃ z, Rv h a0 7 = z := ⟨_, rfl⟩
  have t37 := ok_R O ta0 rE_11_7 e36
  have p49 := P_XInv
  unfold XInv at p49
  rw [e2, e6, e9, e13, e16, e20, e23, e26, e30, e33, e36] at p49
  obtain ⟨p38, p39, p40, p41, p42, p43, p44, p45, p46, p47, p48⟩ := p49
  obtain ⟨v50, e51⟩ : ∃ z, Iv h v29 3 = z := ⟨_, rfl⟩
  have f52 := ok_I O t31 rI_7_3 e51
  obtain ⟨v53, e54⟩ : ∃ z, Iv h v29 4 = z := ⟨_, rfl⟩
  have f55 := ok_I O t31 rI_7_4 e54
  rw [e51] at p44
  rw [e54] at p45
  refine hm_go (by decide +kernel) (Nat.le_of_ble_eq_true rfl) (fun p e s m below meth c C hr hn => ?_)
  refine g_aload_n C rfl 0 rfl dX11_best_0 ?_
  refine g_callI (st := []) (gc_V C lk_LandSurvey_207 (k_X11_judge l D cy w z0 O ta0 P_XInv) ta0 rfl rfl rfl ⟨by decide, by decide⟩ (Nat.le_of_ble_eq_true rfl) dX11_best_1 ⟨(by decide), (by decide)⟩) (fun r56 h57 f59 K58 => ?_)
  obtain ⟨O60, F61, f62, p63, p64, p65⟩ := K58
  obtain ⟨v66, e67⟩ : ∃ z, Rv h57 a0 17 = z := ⟨_, rfl⟩
  have e68 : Tg h57 a0 = 11 := (fxT F61 ta0)
  rw [e67] at p65
  have e69 : Rv h57 a0 3 = v1 := ((fxR F61 ta0 rfl).trans e2)
  have e70 : Iv h57 a0 4 = v5 := ((fxI F61 ta0 rfl).trans e6)
  have e71 : Rv h57 a0 8 = v8 := ((fxR F61 ta0 rfl).trans e9)
  have e72 : Iv h57 a0 9 = v12 := ((fxI F61 ta0 rfl).trans e13)
  have e73 : Rv h57 a0 11 = v15 := ((fxR F61 ta0 rfl).trans e16)
  have e74 : Iv h57 a0 12 = v19 := ((fxI F61 ta0 rfl).trans e20)
  have e75 : Rv h57 a0 14 = v25 := ((fxR F61 ta0 rfl).trans e26)
  have e76 : Rv h57 a0 13 = v29 := ((fxR F61 ta0 rfl).trans e30)
  have e77 : Rv h57 a0 6 = v32 := ((fxR F61 ta0 rfl).trans e33)
  obtain ⟨v78, e79⟩ : ∃ z, Rv h57 a0 7 = z := ⟨_, rfl⟩
  have t80 := ok_R O60 e68 rE_11_7 e79
  have p92 := p63
  unfold XInv at p92
  rw [e69, e70, e71, e72, e73, e74, p64, e75, e76, e77, e79] at p92
  obtain ⟨p81, p82, p83, p84, p85, p86, p87, p88, p89, p90, p91⟩ := p92
  obtain ⟨v93, e94⟩ : ∃ z, Iv h57 v29 3 = z := ⟨_, rfl⟩
  have e95 : Tg h57 v29 = 7 := (fxT F61 t31)
  have f96 := ok_I O60 e95 rI_7_3 e94
  obtain ⟨v97, e98⟩ : ∃ z, Iv h57 v29 4 = z := ⟨_, rfl⟩
  have f99 := ok_I O60 e95 rI_7_4 e98
  rw [e94] at p87
  rw [e98] at p88
  have p100 := p84 (by omega)
  refine g_pop C rfl dX11_best_4 ?_
  refine g_iload_n C rfl 1 rfl dX11_best_5 ?_
  refine g_iconst C dX11_best_6 ?_
  refine g_icmp_ne C fa1 (iw (il 3) (by decide) (by decide)) 15 (by decide) dX11_best_7 (fun q101 => ?_) (fun q102 => ?_)
  · refine g_aload_n C rfl 0 rfl dX11_best_15 ?_
    refine gf_R C fk_LandSurvey_214 rfl e68 e67 dX11_best_16 ?_
    refine g_ifnonnull C 24 (by decide) dX11_best_19 (fun q103 => ?_) (fun q104 => ?_)
    · have t105 := ok_N O60 e68 rE_11_17 e67 q103
      refine g_iload_n C rfl 1 rfl dX11_best_24 ?_
      rcases Classical.em (a1 = 0) with q106 | q107
      · refine g_tin (kv := 0) C q106 (by decide) 52 (by decide) (by decide) rfl (by decide) dX11_best_25 ?_
        have f108 : (0 : Int) ≤ a1 ∧ a1 ≤ (0 : Int) := ii fa1 (r_eq (il 0) q106) (by decide) (by decide)
        refine g_aload_n C rfl 0 rfl dX11_best_52 ?_
        refine gf_R C fk_LandSurvey_214 rfl e68 e67 dX11_best_53 ?_
        obtain ⟨v109, e110⟩ : ∃ z, Iv h57 v66 0 = z := ⟨_, rfl⟩
        have f111 := ok_I O60 t105 rI_2_0 e110
        refine gf_I C fk_LandSurvey_218 rfl t105 e110 dX11_best_56 ?_
        exact g_iret C hr rfl (iw f111 (by decide) (by decide)) ⟨O60, ((Fx.rf (wr := wr_k_X11_best)).call F61 rfl), (iw f111 (by decide) (by decide)), p63⟩ (by decide) (by decide) dX11_best_59
      · rcases Classical.em (a1 = 1) with q112 | q113
        · refine g_tin (kv := 1) C q112 (by decide) 60 (by decide) (by decide) rfl (by decide) dX11_best_25 ?_
          have f114 : (1 : Int) ≤ a1 ∧ a1 ≤ (1 : Int) := ii fa1 (r_eq (il 1) q112) (by decide) (by decide)
          refine g_aload_n C rfl 0 rfl dX11_best_60 ?_
          refine gf_R C fk_LandSurvey_214 rfl e68 e67 dX11_best_61 ?_
          obtain ⟨v115, e116⟩ : ∃ z, Iv h57 v66 3 = z := ⟨_, rfl⟩
          have f117 := ok_I O60 t105 rI_2_3 e116
          refine gf_I C fk_LandSurvey_201 rfl t105 e116 dX11_best_64 ?_
          exact g_iret C hr rfl f117 ⟨O60, ((Fx.rf (wr := wr_k_X11_best)).call F61 rfl), f117, p63⟩ (by decide) (by decide) dX11_best_67
        · rcases Classical.em (a1 = 2) with q118 | q119
          · refine g_tin (kv := 2) C q118 (by decide) 68 (by decide) (by decide) rfl (by decide) dX11_best_25 ?_
            have f120 : (2 : Int) ≤ a1 ∧ a1 ≤ (2 : Int) := ii fa1 (r_eq (il 2) q118) (by decide) (by decide)
            refine g_aload_n C rfl 0 rfl dX11_best_68 ?_
            refine gf_R C fk_LandSurvey_214 rfl e68 e67 dX11_best_69 ?_
            obtain ⟨v121, e122⟩ : ∃ z, Jv h57 v66 4 = z := ⟨_, rfl⟩
            have f123 := inL_J O60 e122
            refine gf_J C fk_LandSurvey_221 rfl t105 e122 dX11_best_72 ?_
            refine g_callI (st := []) (gc_S C lk_LandSurvey_225 (k_J13_bitCount_95d88 l D cy w z0 O60 f123) rfl ⟨by decide, by decide⟩ (Nat.le_of_ble_eq_true rfl) dX11_best_75 ⟨(by decide), (by decide)⟩) (fun r124 h125 f127 K126 => ?_)
            obtain ⟨O128, F129, f130⟩ := K126
            have p131 := (XInv_fx O60 F129 e68 rfl p63)
            exact g_iret C hr rfl (iw f130 (by decide) (by decide)) ⟨O128, (((Fx.rf (wr := wr_k_X11_best)).call F61 rfl).call F129 rfl), (iw f130 (by decide) (by decide)), p131⟩ (by decide) (by decide) dX11_best_78
          · refine g_tout C fa1 79 (by omega) (by decide) dX11_best_25 ?_
            refine g_iconst C dX11_best_79 ?_
            exact g_iret C hr rfl (iw (il (-1)) (by decide) (by decide)) ⟨O60, ((Fx.rf (wr := wr_k_X11_best)).call F61 rfl), (iw (il (-1)) (by decide) (by decide)), p63⟩ (by decide) (by decide) dX11_best_80
    · refine g_iconst C dX11_best_22 ?_
      exact g_iret C hr rfl (iw (il (-1)) (by decide) (by decide)) ⟨O60, ((Fx.rf (wr := wr_k_X11_best)).call F61 rfl), (iw (il (-1)) (by decide) (by decide)), p63⟩ (by decide) (by decide) dX11_best_23
  · have f132 : (3 : Int) ≤ a1 ∧ a1 ≤ (3 : Int) := ii fa1 (r_eq (il 3) q102) (by decide) (by decide)
    refine g_aload_n C rfl 0 rfl dX11_best_10 ?_
    refine g_callI (st := []) (gc_V C lk_LandSurvey_211 (k_X11_countKept l D cy w z0 O60 e68 p64 p63) e68 rfl rfl rfl ⟨by decide, by decide⟩ (Nat.le_of_ble_eq_true rfl) dX11_best_11 ⟨(by decide), (by decide)⟩) (fun r133 h134 f136 K135 => ?_)
    obtain ⟨O137, F138, f139⟩ := K135
    have p140 := (XInv_fx O60 F138 e68 rfl p63)
    exact g_iret C hr rfl f139 ⟨O137, (((Fx.rf (wr := wr_k_X11_best)).call F61 rfl).call F138 rfl), f139, p140⟩ (by decide) (by decide) dX11_best_14
def wr_k_X11_kept : List Nat := [401, 402, 403, 404, 405, 406, 1403, 1404, 1405, 1412, 1813, 1814, 1815, 1816, 1817, 1818, 2003, 2207, 2215, 2216, 2217, 200400, 200407, 200408, 7420000, 8020000, 8220400, 8420400, 8620000, 9020000, 9220400, 9420000, 9821400, 10020000, 1000000002, 1000001002, 1000010100, 1000011100]
set_option maxRecDepth 100000 in
set_option maxHeartbeats 4000000 in
theorem k_X11_kept (l : Launch) (D : va_G) (cy : Nat → ClassId) (w : Nat → Nat) (z0 : Nat)  {h : Hp} {a0 : Nat} {a1 : Int}  (O : Okh h) (ta0 : Tg h a0 = 11) (fa1 : (-2147483648) ≤ a1 ∧ a1 ≤ 2147483647) (P_XInv : XInv h a0) : MI l D cy w z0 yX11_kept cX11_kept 2 (some .int) 10 279 48 3216 [.inr (.inr a0), .inl a1] h (fun v h1 => Okh h1 ∧ Fx wr_k_X11_kept h h1 ∧ ((-2147483648) ≤ v ∧ v ≤ 2147483647) ∧ (XInv h1 a0)) := by
  obtain ⟨v1, e2⟩ : ∃ z, Rv h a0 3 = z := ⟨_, rfl⟩
  have t3 := ok_R O ta0 rE_11_3 e2
  have l4 := ok_L O ta0 rE_11_3 e2
  obtain ⟨v5, e6⟩ : ∃ z, Iv h a0 4 = z := ⟨_, rfl⟩
  have f7 := ok_I O ta0 rI_11_4 e6
  obtain ⟨v8, e9⟩ : ∃ z, Rv h a0 8 = z := ⟨_, rfl⟩
  have t10 := ok_R O ta0 rE_11_8 e9
  have l11 := ok_L O ta0 rE_11_8 e9
  obtain ⟨v12, e13⟩ : ∃ z, Iv h a0 9 = z := ⟨_, rfl⟩
  have f14 := ok_I O ta0 rI_11_9 e13
  obtain ⟨v15, e16⟩ : ∃ z, Rv h a0 11 = z := ⟨_, rfl⟩
  have t17 := ok_R O ta0 rE_11_11 e16
  have l18 := ok_L O ta0 rE_11_11 e16
  obtain ⟨v19, e20⟩ : ∃ z, Iv h a0 12 = z := ⟨_, rfl⟩
  have f21 := ok_I O ta0 rI_11_12 e20
  obtain ⟨v22, e23⟩ : ∃ z, Iv h a0 15 = z := ⟨_, rfl⟩
  have f24 := ok_I O ta0 rI_11_15 e23
  obtain ⟨v25, e26⟩ : ∃ z, Rv h a0 14 = z := ⟨_, rfl⟩
  have t27 := ok_R O ta0 rE_11_14 e26
  have l28 := ok_L O ta0 rE_11_14 e26
  obtain ⟨v29, e30⟩ : ∃ z, Rv h a0 13 = z := ⟨_, rfl⟩
  have t31 := ok_R O ta0 rE_11_13 e30
  obtain ⟨v32, e33⟩ : ∃ z, Rv h a0 6 = z := ⟨_, rfl⟩
  have t34 := ok_R O ta0 rE_11_6 e33
  obtain ⟨v35, e36⟩ : ∃ z, Rv h a0 7 = z := ⟨_, rfl⟩
  have t37 := ok_R O ta0 rE_11_7 e36
  have p49 := P_XInv
  unfold XInv at p49
  rw [e2, e6, e9, e13, e16, e20, e23, e26, e30, e33, e36] at p49
  obtain ⟨p38, p39, p40, p41, p42, p43, p44, p45, p46, p47, p48⟩ := p49
  obtain ⟨v50, e51⟩ : ∃ z, Iv h v29 3 = z := ⟨_, rfl⟩
  have f52 := ok_I O t31 rI_7_3 e51
  obtain ⟨v53, e54⟩ : ∃ z, Iv h v29 4 = z := ⟨_, rfl⟩
  have f55 := ok_I O t31 rI_7_4 e54
  rw [e51] at p44
  rw [e54] at p45
  refine hm_go (by decide +kernel) (Nat.le_of_ble_eq_true rfl) (fun p e s m below meth c C hr hn => ?_)
  refine g_aload_n C rfl 0 rfl dX11_kept_0 ?_
  refine g_iload_n C rfl 1 rfl dX11_kept_1 ?_
  refine g_callI (st := []) (gc_V C lk_LandSurvey_231 (k_X11_isSet l D cy w z0 O ta0 fa1) ta0 rfl rfl rfl ⟨by decide, by decide⟩ (Nat.le_of_ble_eq_true rfl) dX11_kept_2 ⟨(by decide), (by decide)⟩) (fun r56 h57 f59 K58 => ?_)
  obtain ⟨O60, F61, f62, p63⟩ := K58
  rw [e13] at p63
  have f64 : (1 : Int) ≤ (bShl 1 v12) ∧ (bShl 1 v12) ≤ (16 : Int) := bShl_4 f14
  refine g_if_ne C (iw f62 (by decide) (by decide)) 10 (by decide) dX11_kept_5 (fun q65 => ?_) (fun q66 => ?_)
  · have f67 : (1 : Int) ≤ r56 ∧ r56 ≤ (1 : Int) := r_nl f62 q65
    refine g_aload_n C rfl 0 rfl dX11_kept_10 ?_
    have e68 : Tg h57 a0 = 11 := (fxT F61 ta0)
    have p69 := (XInv_fx O F61 ta0 rfl P_XInv)
    refine g_callI (st := []) (gc_V C lk_LandSurvey_207 (k_X11_judge l D cy w z0 O60 e68 p69) e68 rfl rfl rfl ⟨by decide, by decide⟩ (Nat.le_of_ble_eq_true rfl) dX11_kept_11 ⟨(by decide), (by decide)⟩) (fun r70 h71 f73 K72 => ?_)
    obtain ⟨O74, F75, f76, p77, p78, p79⟩ := K72
    obtain ⟨v80, e81⟩ : ∃ z, Rv h71 a0 17 = z := ⟨_, rfl⟩
    have e82 : Tg h71 a0 = 11 := (fxT F75 e68)
    rw [e81] at p79
    have e83 : Rv h71 a0 3 = v1 := ((fxR F75 e68 rfl).trans ((fxR F61 ta0 rfl).trans e2))
    have e84 : Iv h71 a0 4 = v5 := ((fxI F75 e68 rfl).trans ((fxI F61 ta0 rfl).trans e6))
    have e85 : Rv h71 a0 8 = v8 := ((fxR F75 e68 rfl).trans ((fxR F61 ta0 rfl).trans e9))
    have e86 : Iv h71 a0 9 = v12 := ((fxI F75 e68 rfl).trans ((fxI F61 ta0 rfl).trans e13))
    have e87 : Rv h71 a0 11 = v15 := ((fxR F75 e68 rfl).trans ((fxR F61 ta0 rfl).trans e16))
    have e88 : Iv h71 a0 12 = v19 := ((fxI F75 e68 rfl).trans ((fxI F61 ta0 rfl).trans e20))
    have e89 : Rv h71 a0 14 = v25 := ((fxR F75 e68 rfl).trans ((fxR F61 ta0 rfl).trans e26))
    have e90 : Rv h71 a0 13 = v29 := ((fxR F75 e68 rfl).trans ((fxR F61 ta0 rfl).trans e30))
    have e91 : Rv h71 a0 6 = v32 := ((fxR F75 e68 rfl).trans ((fxR F61 ta0 rfl).trans e33))
    obtain ⟨v92, e93⟩ : ∃ z, Rv h71 a0 7 = z := ⟨_, rfl⟩
    have t94 := ok_R O74 e82 rE_11_7 e93
    have p106 := p77
    unfold XInv at p106
    rw [e83, e84, e85, e86, e87, e88, p78, e89, e90, e91, e93] at p106
    obtain ⟨p95, p96, p97, p98, p99, p100, p101, p102, p103, p104, p105⟩ := p106
    have e107 : Tg h57 v29 = 7 := (fxT F61 t31)
    obtain ⟨v108, e109⟩ : ∃ z, Iv h71 v29 3 = z := ⟨_, rfl⟩
    have e110 : Tg h71 v29 = 7 := (fxT F75 e107)
    have f111 := ok_I O74 e110 rI_7_3 e109
    obtain ⟨v112, e113⟩ : ∃ z, Iv h71 v29 4 = z := ⟨_, rfl⟩
    have f114 := ok_I O74 e110 rI_7_4 e113
    rw [e109] at p101
    rw [e113] at p102
    have p115 := p98 (by omega)
    refine g_pop C rfl dX11_kept_14 ?_
    refine g_aload_n C rfl 0 rfl dX11_kept_15 ?_
    refine g_iload_n C rfl 1 rfl dX11_kept_16 ?_
    refine g_callI (st := []) (gc_V C lk_LandSurvey_234 (k_X11_isKept l D cy w z0 O74 e82 (by omega) p78 p77 (by rw [e86]; omega)) e82 rfl rfl rfl ⟨by decide, by decide⟩ (Nat.le_of_ble_eq_true rfl) dX11_kept_17 ⟨(by decide), (by decide)⟩) (fun r116 h117 f119 K118 => ?_)
    obtain ⟨O120, F121, f122⟩ := K118
    refine g_if_eq C (iw f122 (by decide) (by decide)) 27 (by decide) dX11_kept_20 (fun q123 => ?_) (fun q124 => ?_)
    · have f125 : (0 : Int) ≤ r116 ∧ r116 ≤ (0 : Int) := ii f122 (r_eq (il 0) q123) (by decide) (by decide)
      refine g_iconst C dX11_kept_27 ?_
      have p126 := (XInv_fx O74 F121 e82 rfl p77)
      exact g_iret C hr rfl (iw (il 0) (by decide) (by decide)) ⟨O120, ((((Fx.rf (wr := wr_k_X11_kept)).call F61 rfl).call F75 rfl).call F121 rfl), (iw (il 0) (by decide) (by decide)), p126⟩ (by decide) (by decide) dX11_kept_28
    · have f127 : (1 : Int) ≤ r116 ∧ r116 ≤ (1 : Int) := r_nl f122 q124
      refine g_iconst C dX11_kept_23 ?_
      refine g_goto C 28 (by decide) dX11_kept_24 ?_
      have p128 := (XInv_fx O74 F121 e82 rfl p77)
      exact g_iret C hr rfl (iw (il 1) (by decide) (by decide)) ⟨O120, ((((Fx.rf (wr := wr_k_X11_kept)).call F61 rfl).call F75 rfl).call F121 rfl), (iw (il 1) (by decide) (by decide)), p128⟩ (by decide) (by decide) dX11_kept_28
  · have f129 : (0 : Int) ≤ r56 ∧ r56 ≤ (0 : Int) := ii f62 (r_eq (il 0) q66) (by decide) (by decide)
    refine g_iconst C dX11_kept_8 ?_
    have p130 := (XInv_fx O F61 ta0 rfl P_XInv)
    exact g_iret C hr rfl (iw (il (-1)) (by decide) (by decide)) ⟨O60, ((Fx.rf (wr := wr_k_X11_kept)).call F61 rfl), (iw (il (-1)) (by decide) (by decide)), p130⟩ (by decide) (by decide) dX11_kept_9
def wr_k_X11_lies : List Nat := [401, 402, 403, 404, 405, 406, 1403, 1404, 1405, 1412, 1813, 1814, 1815, 1816, 1817, 1818, 2003, 2207, 2215, 2216, 2217, 200400, 200407, 200408, 2020000, 2220000, 7420000, 8020000, 8220400, 8420400, 8620000, 9020000, 9220400, 9420000, 9821400, 10020000, 1000000002, 1000001002, 1000010100, 1000011100]
set_option maxRecDepth 100000 in
set_option maxHeartbeats 4000000 in
theorem k_X11_lies (l : Launch) (D : va_G) (cy : Nat → ClassId) (w : Nat → Nat) (z0 : Nat)  {h : Hp} {a0 : Nat} {a1 : Int} {a2 : Int} {a3 : Int}  (O : Okh h) (ta0 : Tg h a0 = 11) (fa1 : (-2147483648) ≤ a1 ∧ a1 ≤ 2147483647) (fa2 : (-2147483648) ≤ a2 ∧ a2 ≤ 2147483647) (fa3 : (-2147483648) ≤ a3 ∧ a3 ≤ 2147483647) (P_XInv : XInv h a0) : MI l D cy w z0 yX11_lies cX11_lies 5 (some .int) 11 300 48 3216 [.inr (.inr a0), .inl a1, .inl a2, .inl a3] h (fun v h1 => Okh h1 ∧ Fx wr_k_X11_lies h h1 ∧ ((-2147483648) ≤ v ∧ v ≤ 2147483647) ∧ (XInv h1 a0)) := by
  obtain ⟨v1, e2⟩ : ∃ z, Rv h a0 3 = z := ⟨_, rfl⟩
  have t3 := ok_R O ta0 rE_11_3 e2
  have l4 := ok_L O ta0 rE_11_3 e2
  obtain ⟨v5, e6⟩ : ∃ z, Iv h a0 4 = z := ⟨_, rfl⟩
  have f7 := ok_I O ta0 rI_11_4 e6
  obtain ⟨v8, e9⟩ : ∃ z, Rv h a0 8 = z := ⟨_, rfl⟩
  have t10 := ok_R O ta0 rE_11_8 e9
  have l11 := ok_L O ta0 rE_11_8 e9
  obtain ⟨v12, e13⟩ : ∃ z, Iv h a0 9 = z := ⟨_, rfl⟩
  have f14 := ok_I O ta0 rI_11_9 e13
  obtain ⟨v15, e16⟩ : ∃ z, Rv h a0 11 = z := ⟨_, rfl⟩
  have t17 := ok_R O ta0 rE_11_11 e16
  have l18 := ok_L O ta0 rE_11_11 e16
  obtain ⟨v19, e20⟩ : ∃ z, Iv h a0 12 = z := ⟨_, rfl⟩
  have f21 := ok_I O ta0 rI_11_12 e20
  obtain ⟨v22, e23⟩ : ∃ z, Iv h a0 15 = z := ⟨_, rfl⟩
  have f24 := ok_I O ta0 rI_11_15 e23
  obtain ⟨v25, e26⟩ : ∃ z, Rv h a0 14 = z := ⟨_, rfl⟩
  have t27 := ok_R O ta0 rE_11_14 e26
  have l28 := ok_L O ta0 rE_11_14 e26
  obtain ⟨v29, e30⟩ : ∃ z, Rv h a0 13 = z := ⟨_, rfl⟩
  have t31 := ok_R O ta0 rE_11_13 e30
  obtain ⟨v32, e33⟩ : ∃ z, Rv h a0 6 = z := ⟨_, rfl⟩
  have t34 := ok_R O ta0 rE_11_6 e33
  obtain ⟨v35, e36⟩ : ∃ z, Rv h a0 7 = z := ⟨_, rfl⟩
  have t37 := ok_R O ta0 rE_11_7 e36
  have p49 := P_XInv
  unfold XInv at p49
  rw [e2, e6, e9, e13, e16, e20, e23, e26, e30, e33, e36] at p49
  obtain ⟨p38, p39, p40, p41, p42, p43, p44, p45, p46, p47, p48⟩ := p49
  obtain ⟨v50, e51⟩ : ∃ z, Iv h v29 3 = z := ⟨_, rfl⟩
  have f52 := ok_I O t31 rI_7_3 e51
  obtain ⟨v53, e54⟩ : ∃ z, Iv h v29 4 = z := ⟨_, rfl⟩
  have f55 := ok_I O t31 rI_7_4 e54
  rw [e51] at p44
  rw [e54] at p45
  refine hm_go (by decide +kernel) (Nat.le_of_ble_eq_true rfl) (fun p e s m below meth c C hr hn => ?_)
  refine g_iload_n C rfl 1 rfl dX11_lies_0 ?_
  refine g_iload_n C rfl 2 rfl dX11_lies_1 ?_
  refine g_callI (st := []) (gc_S C lk_LandSurvey_85 (k_X11_cellAt l D cy w z0 O fa1 fa2) rfl ⟨by decide, by decide⟩ (Nat.le_of_ble_eq_true rfl) dX11_lies_2 ⟨(by decide), (by decide)⟩) (fun r56 h57 f59 K58 => ?_)
  obtain ⟨O60, F61, f62, p63⟩ := K58
  refine g_istore C [(4, .inl r56), (0, .inr (.inr a0)), (1, .inl a1), (2, .inl a2), (3, .inl a3)] (by decide) rfl dX11_lies_5 ?_
  refine g_iload C 0 rfl dX11_lies_7 ?_
  refine g_iconst C dX11_lies_9 ?_
  refine g_icmp_eq C (iw f62 (by decide) (by decide)) (iw (il (-1)) (by decide) (by decide)) 31 (by decide) dX11_lies_10 (fun q64 => ?_) (fun q65 => ?_)
  · have f66 : (-1 : Int) ≤ r56 ∧ r56 ≤ (-1 : Int) := ii f62 (r_eq (il (-1)) q64) (by decide) (by decide)
    refine g_iconst C dX11_lies_31 ?_
    have p67 := (XInv_fx O F61 ta0 rfl P_XInv)
    exact g_iret C hr rfl (iw (il (-1)) (by decide) (by decide)) ⟨O60, ((Fx.rf (wr := wr_k_X11_lies)).call F61 rfl), (iw (il (-1)) (by decide) (by decide)), p67⟩ (by decide) (by decide) dX11_lies_32
  · have f68 : (0 : Int) ≤ r56 ∧ r56 ≤ (95 : Int) := r_nl f62 q65
    refine g_iload_n C rfl 4 rfl dX11_lies_13 ?_
    refine g_if_lt C fa3 31 (by decide) dX11_lies_14 (fun q69 => ?_) (fun q70 => ?_)
    · have f71 : (-2147483648 : Int) ≤ a3 ∧ a3 ≤ (-1 : Int) := r_lt fa3 (il 0) q69 (by decide) (by decide)
      refine g_iconst C dX11_lies_31 ?_
      have p72 := (XInv_fx O F61 ta0 rfl P_XInv)
      exact g_iret C hr rfl (iw (il (-1)) (by decide) (by decide)) ⟨O60, ((Fx.rf (wr := wr_k_X11_lies)).call F61 rfl), (iw (il (-1)) (by decide) (by decide)), p72⟩ (by decide) (by decide) dX11_lies_32
    · have f73 : (0 : Int) ≤ a3 ∧ a3 ≤ (2147483647 : Int) := r_ge fa3 (il 0) q70 (by decide) (by decide)
      refine g_iload_n C rfl 4 rfl dX11_lies_17 ?_
      refine g_sipush C (by decide) dX11_lies_18 ?_
      refine g_icmp_gt C (iw f73 (by decide) (by decide)) (iw (il 2000) (by decide) (by decide)) 31 (by decide) dX11_lies_21 (fun q74 => ?_) (fun q75 => ?_)
      · have f76 : (2001 : Int) ≤ a3 ∧ a3 ≤ (2147483647 : Int) := r_gt f73 (il 2000) q74 (by decide) (by decide)
        refine g_iconst C dX11_lies_31 ?_
        have p77 := (XInv_fx O F61 ta0 rfl P_XInv)
        exact g_iret C hr rfl (iw (il (-1)) (by decide) (by decide)) ⟨O60, ((Fx.rf (wr := wr_k_X11_lies)).call F61 rfl), (iw (il (-1)) (by decide) (by decide)), p77⟩ (by decide) (by decide) dX11_lies_32
      · have f78 : (0 : Int) ≤ a3 ∧ a3 ≤ (2000 : Int) := r_le f73 (il 2000) q75 (by decide) (by decide)
        refine g_aload_n C rfl 1 rfl dX11_lies_24 ?_
        have e79 : Tg h57 a0 = 11 := (fxT F61 ta0)
        have p80 := (XInv_fx O F61 ta0 rfl P_XInv)
        refine g_callI (st := []) (gc_V C lk_LandSurvey_253 (k_X11_prepare l D cy w z0 O60 e79 p80) e79 rfl rfl rfl ⟨by decide, by decide⟩ (Nat.le_of_ble_eq_true rfl) dX11_lies_25 ⟨(by decide), (by decide)⟩) (fun r81 h82 f84 K83 => ?_)
        obtain ⟨O85, F86, f87, p88, p89, p90⟩ := K83
        obtain ⟨v91, e92⟩ : ∃ z, Rv h82 a0 17 = z := ⟨_, rfl⟩
        have e93 : Tg h82 a0 = 11 := (fxT F86 e79)
        rw [e92] at p90
        have e94 : Rv h82 a0 3 = v1 := ((fxR F86 e79 rfl).trans ((fxR F61 ta0 rfl).trans e2))
        have e95 : Iv h82 a0 4 = v5 := ((fxI F86 e79 rfl).trans ((fxI F61 ta0 rfl).trans e6))
        have e96 : Rv h82 a0 8 = v8 := ((fxR F86 e79 rfl).trans ((fxR F61 ta0 rfl).trans e9))
        have e97 : Iv h82 a0 9 = v12 := ((fxI F86 e79 rfl).trans ((fxI F61 ta0 rfl).trans e13))
        have e98 : Rv h82 a0 11 = v15 := ((fxR F86 e79 rfl).trans ((fxR F61 ta0 rfl).trans e16))
        have e99 : Iv h82 a0 12 = v19 := ((fxI F86 e79 rfl).trans ((fxI F61 ta0 rfl).trans e20))
        have e100 : Rv h82 a0 14 = v25 := ((fxR F86 e79 rfl).trans ((fxR F61 ta0 rfl).trans e26))
        have e101 : Rv h82 a0 13 = v29 := ((fxR F86 e79 rfl).trans ((fxR F61 ta0 rfl).trans e30))
        have e102 : Rv h82 a0 6 = v32 := ((fxR F86 e79 rfl).trans ((fxR F61 ta0 rfl).trans e33))
        obtain ⟨v103, e104⟩ : ∃ z, Rv h82 a0 7 = z := ⟨_, rfl⟩
        have t105 := ok_R O85 e93 rE_11_7 e104
        have p117 := p88
        unfold XInv at p117
        rw [e94, e95, e96, e97, e98, e99, p89, e100, e101, e102, e104] at p117
        obtain ⟨p106, p107, p108, p109, p110, p111, p112, p113, p114, p115, p116⟩ := p117
        have e118 : Tg h57 v29 = 7 := (fxT F61 t31)
        obtain ⟨v119, e120⟩ : ∃ z, Iv h82 v29 3 = z := ⟨_, rfl⟩
        have e121 : Tg h82 v29 = 7 := (fxT F86 e118)
        have f122 := ok_I O85 e121 rI_7_3 e120
        obtain ⟨v123, e124⟩ : ∃ z, Iv h82 v29 4 = z := ⟨_, rfl⟩
        have f125 := ok_I O85 e121 rI_7_4 e124
        rw [e120] at p112
        rw [e124] at p113
        have p126 := p109 (by omega)
        refine g_if_ne C (iw f87 (by decide) (by decide)) 33 (by decide) dX11_lies_28 (fun q127 => ?_) (fun q128 => ?_)
        · have f129 : (1 : Int) ≤ r81 ∧ r81 ≤ (1 : Int) := r_nl f87 q127
          refine g_aload_n C rfl 1 rfl dX11_lies_33 ?_
          refine g_iload C 0 rfl dX11_lies_34 ?_
          refine g_iload_n C rfl 4 rfl dX11_lies_36 ?_
          refine g_callI (st := []) (gc_V C lk_LandSurvey_256 (k_X11_mayLieByAll l D cy w z0 O85 e93 f68 (iw f78 (by decide) (by decide)) p89 p88) e93 rfl rfl rfl ⟨by decide, by decide⟩ (Nat.le_of_ble_eq_true rfl) dX11_lies_37 ⟨(by decide), (by decide)⟩) (fun r130 h131 f133 K132 => ?_)
          obtain ⟨O134, F135, f136⟩ := K132
          have p137 := (XInv_fx O85 F135 e93 rfl p88)
          exact g_iret C hr rfl f136 ⟨O134, ((((Fx.rf (wr := wr_k_X11_lies)).call F61 rfl).call F86 rfl).call F135 rfl), f136, p137⟩ (by decide) (by decide) dX11_lies_40
        · have f138 : (0 : Int) ≤ r81 ∧ r81 ≤ (0 : Int) := ii f87 (r_eq (il 0) q128) (by decide) (by decide)
          refine g_iconst C dX11_lies_31 ?_
          exact g_iret C hr rfl (iw (il (-1)) (by decide) (by decide)) ⟨O85, (((Fx.rf (wr := wr_k_X11_lies)).call F61 rfl).call F86 rfl), (iw (il (-1)) (by decide) (by decide)), p88⟩ (by decide) (by decide) dX11_lies_32
def wr_k_X11_line : List Nat := [401, 402, 403, 404, 405, 406, 1403, 1404, 1405, 1412, 1813, 1814, 1815, 1816, 1817, 1818, 2003, 2207, 2215, 2216, 2217, 200400, 200407, 200408, 2020000, 2220000, 7420000, 8020000, 8220400, 8420400, 8620000, 9020000, 9220400, 9420000, 9821400, 10020000, 1000000002, 1000001002, 1000010100, 1000011100]
set_option maxRecDepth 100000 in
set_option maxHeartbeats 4000000 in
theorem k_X11_line (l : Launch) (D : va_G) (cy : Nat → ClassId) (w : Nat → Nat) (z0 : Nat)  {h : Hp} {a0 : Nat} {a1 : Int} {a2 : Int} {a3 : Int}  (O : Okh h) (ta0 : Tg h a0 = 11) (fa1 : (-2147483648) ≤ a1 ∧ a1 ≤ 2147483647) (fa2 : (-2147483648) ≤ a2 ∧ a2 ≤ 2147483647) (fa3 : (-2147483648) ≤ a3 ∧ a3 ≤ 2147483647) (P_XInv : XInv h a0) : MI l D cy w z0 yX11_line cX11_line 7 (some .int) 11 300 48 3216 [.inr (.inr a0), .inl a1, .inl a2, .inl a3] h (fun v h1 => Okh h1 ∧ Fx wr_k_X11_line h h1 ∧ ((-2147483648) ≤ v ∧ v ≤ 2147483647) ∧ (XInv h1 a0)) := by
  obtain ⟨v1, e2⟩ : ∃ z, Rv h a0 3 = z := ⟨_, rfl⟩
  have t3 := ok_R O ta0 rE_11_3 e2
  have l4 := ok_L O ta0 rE_11_3 e2
  obtain ⟨v5, e6⟩ : ∃ z, Iv h a0 4 = z := ⟨_, rfl⟩
  have f7 := ok_I O ta0 rI_11_4 e6
  obtain ⟨v8, e9⟩ : ∃ z, Rv h a0 8 = z := ⟨_, rfl⟩
  have t10 := ok_R O ta0 rE_11_8 e9
  have l11 := ok_L O ta0 rE_11_8 e9
  obtain ⟨v12, e13⟩ : ∃ z, Iv h a0 9 = z := ⟨_, rfl⟩
  have f14 := ok_I O ta0 rI_11_9 e13
  obtain ⟨v15, e16⟩ : ∃ z, Rv h a0 11 = z := ⟨_, rfl⟩
  have t17 := ok_R O ta0 rE_11_11 e16
  have l18 := ok_L O ta0 rE_11_11 e16
  obtain ⟨v19, e20⟩ : ∃ z, Iv h a0 12 = z := ⟨_, rfl⟩
  have f21 := ok_I O ta0 rI_11_12 e20
  obtain ⟨v22, e23⟩ : ∃ z, Iv h a0 15 = z := ⟨_, rfl⟩
  have f24 := ok_I O ta0 rI_11_15 e23
  obtain ⟨v25, e26⟩ : ∃ z, Rv h a0 14 = z := ⟨_, rfl⟩
  have t27 := ok_R O ta0 rE_11_14 e26
  have l28 := ok_L O ta0 rE_11_14 e26
  obtain ⟨v29, e30⟩ : ∃ z, Rv h a0 13 = z := ⟨_, rfl⟩
  have t31 := ok_R O ta0 rE_11_13 e30
  obtain ⟨v32, e33⟩ : ∃ z, Rv h a0 6 = z := ⟨_, rfl⟩
  have t34 := ok_R O ta0 rE_11_6 e33
  obtain ⟨v35, e36⟩ : ∃ z, Rv h a0 7 = z := ⟨_, rfl⟩
  have t37 := ok_R O ta0 rE_11_7 e36
  have p49 := P_XInv
  unfold XInv at p49
  rw [e2, e6, e9, e13, e16, e20, e23, e26, e30, e33, e36] at p49
  obtain ⟨p38, p39, p40, p41, p42, p43, p44, p45, p46, p47, p48⟩ := p49
  obtain ⟨v50, e51⟩ : ∃ z, Iv h v29 3 = z := ⟨_, rfl⟩
  have f52 := ok_I O t31 rI_7_3 e51
  obtain ⟨v53, e54⟩ : ∃ z, Iv h v29 4 = z := ⟨_, rfl⟩
  have f55 := ok_I O t31 rI_7_4 e54
  rw [e51] at p44
  rw [e54] at p45
  refine hm_go (by decide +kernel) (Nat.le_of_ble_eq_true rfl) (fun p e s m below meth c C hr hn => ?_)
  refine g_iload_n C rfl 1 rfl dX11_line_0 ?_
  refine g_iload_n C rfl 2 rfl dX11_line_1 ?_
  refine g_callI (st := []) (gc_S C lk_LandSurvey_85 (k_X11_cellAt l D cy w z0 O fa1 fa2) rfl ⟨by decide, by decide⟩ (Nat.le_of_ble_eq_true rfl) dX11_line_2 ⟨(by decide), (by decide)⟩) (fun r56 h57 f59 K58 => ?_)
  obtain ⟨O60, F61, f62, p63⟩ := K58
  refine g_istore C [(4, .inl r56), (0, .inr (.inr a0)), (1, .inl a1), (2, .inl a2), (3, .inl a3)] (by decide) rfl dX11_line_5 ?_
  refine g_iload C 0 rfl dX11_line_7 ?_
  refine g_iconst C dX11_line_9 ?_
  refine g_icmp_eq C (iw f62 (by decide) (by decide)) (iw (il (-1)) (by decide) (by decide)) 22 (by decide) dX11_line_10 (fun q64 => ?_) (fun q65 => ?_)
  · have f66 : (-1 : Int) ≤ r56 ∧ r56 ≤ (-1 : Int) := ii f62 (r_eq (il (-1)) q64) (by decide) (by decide)
    refine g_iconst C dX11_line_22 ?_
    have p67 := (XInv_fx O F61 ta0 rfl P_XInv)
    exact g_iret C hr rfl (iw (il (-1)) (by decide) (by decide)) ⟨O60, ((Fx.rf (wr := wr_k_X11_line)).call F61 rfl), (iw (il (-1)) (by decide) (by decide)), p67⟩ (by decide) (by decide) dX11_line_23
  · have f68 : (0 : Int) ≤ r56 ∧ r56 ≤ (95 : Int) := r_nl f62 q65
    refine g_iload_n C rfl 4 rfl dX11_line_13 ?_
    refine g_if_lt C fa3 22 (by decide) dX11_line_14 (fun q69 => ?_) (fun q70 => ?_)
    · have f71 : (-2147483648 : Int) ≤ a3 ∧ a3 ≤ (-1 : Int) := r_lt fa3 (il 0) q69 (by decide) (by decide)
      refine g_iconst C dX11_line_22 ?_
      have p72 := (XInv_fx O F61 ta0 rfl P_XInv)
      exact g_iret C hr rfl (iw (il (-1)) (by decide) (by decide)) ⟨O60, ((Fx.rf (wr := wr_k_X11_line)).call F61 rfl), (iw (il (-1)) (by decide) (by decide)), p72⟩ (by decide) (by decide) dX11_line_23
    · have f73 : (0 : Int) ≤ a3 ∧ a3 ≤ (2147483647 : Int) := r_ge fa3 (il 0) q70 (by decide) (by decide)
      refine g_iload_n C rfl 4 rfl dX11_line_17 ?_
      refine g_iconst C dX11_line_18 ?_
      refine g_icmp_lt C (iw f73 (by decide) (by decide)) (iw (il 4) (by decide) (by decide)) 24 (by decide) dX11_line_19 (fun q74 => ?_) (fun q75 => ?_)
      · have f76 : (0 : Int) ≤ a3 ∧ a3 ≤ (3 : Int) := r_lt f73 (il 4) q74 (by decide) (by decide)
        refine g_iload C 0 rfl dX11_line_24 ?_
        refine g_iload_n C rfl 4 rfl dX11_line_26 ?_
        refine g_callI (st := []) (gc_S C lk_LandSurvey_118 (k_X11_neighbour l D cy w z0 O60 f68 (iw f76 (by decide) (by decide))) rfl ⟨by decide, by decide⟩ (Nat.le_of_ble_eq_true rfl) dX11_line_27 ⟨(by decide), (by decide)⟩) (fun r77 h78 f80 K79 => ?_)
        obtain ⟨O81, F82, f83⟩ := K79
        refine g_istore C [(5, .inl r77), (4, .inl r56), (0, .inr (.inr a0)), (1, .inl a1), (2, .inl a2), (3, .inl a3)] (by decide) rfl dX11_line_30 ?_
        refine g_iload C 0 rfl dX11_line_32 ?_
        refine g_iconst C dX11_line_34 ?_
        refine g_icmp_eq C (iw f83 (by decide) (by decide)) (iw (il (-1)) (by decide) (by decide)) 45 (by decide) dX11_line_35 (fun q84 => ?_) (fun q85 => ?_)
        · have f86 : (-1 : Int) ≤ r77 ∧ r77 ≤ (-1 : Int) := ii f83 (r_eq (il (-1)) q84) (by decide) (by decide)
          refine g_iconst C dX11_line_45 ?_
          have e87 : Tg h57 a0 = 11 := (fxT F61 ta0)
          have p88 := (XInv_fx O60 F82 e87 rfl (XInv_fx O F61 ta0 rfl P_XInv))
          exact g_iret C hr rfl (iw (il (-1)) (by decide) (by decide)) ⟨O81, (((Fx.rf (wr := wr_k_X11_line)).call F61 rfl).call F82 rfl), (iw (il (-1)) (by decide) (by decide)), p88⟩ (by decide) (by decide) dX11_line_46
        · have f89 : (0 : Int) ≤ r77 ∧ r77 ≤ (95 : Int) := r_nl f83 q85
          refine g_aload_n C rfl 2 rfl dX11_line_38 ?_
          have e90 : Tg h78 a0 = 11 := (fxT F82 (fxT F61 ta0))
          have e91 : Tg h57 a0 = 11 := (fxT F61 ta0)
          have p92 := (XInv_fx O60 F82 e91 rfl (XInv_fx O F61 ta0 rfl P_XInv))
          refine g_callI (st := []) (gc_V C lk_LandSurvey_253 (k_X11_prepare l D cy w z0 O81 e90 p92) e90 rfl rfl rfl ⟨by decide, by decide⟩ (Nat.le_of_ble_eq_true rfl) dX11_line_39 ⟨(by decide), (by decide)⟩) (fun r93 h94 f96 K95 => ?_)
          obtain ⟨O97, F98, f99, p100, p101, p102⟩ := K95
          obtain ⟨v103, e104⟩ : ∃ z, Rv h94 a0 17 = z := ⟨_, rfl⟩
          have e105 : Tg h94 a0 = 11 := (fxT F98 e90)
          rw [e104] at p102
          have e106 : Rv h94 a0 3 = v1 := ((fxR F98 e90 rfl).trans ((fxR F82 e91 rfl).trans ((fxR F61 ta0 rfl).trans e2)))
          have e107 : Iv h94 a0 4 = v5 := ((fxI F98 e90 rfl).trans ((fxI F82 e91 rfl).trans ((fxI F61 ta0 rfl).trans e6)))
          have e108 : Rv h94 a0 8 = v8 := ((fxR F98 e90 rfl).trans ((fxR F82 e91 rfl).trans ((fxR F61 ta0 rfl).trans e9)))
          have e109 : Iv h94 a0 9 = v12 := ((fxI F98 e90 rfl).trans ((fxI F82 e91 rfl).trans ((fxI F61 ta0 rfl).trans e13)))
          have e110 : Rv h94 a0 11 = v15 := ((fxR F98 e90 rfl).trans ((fxR F82 e91 rfl).trans ((fxR F61 ta0 rfl).trans e16)))
          have e111 : Iv h94 a0 12 = v19 := ((fxI F98 e90 rfl).trans ((fxI F82 e91 rfl).trans ((fxI F61 ta0 rfl).trans e20)))
          have e112 : Rv h94 a0 14 = v25 := ((fxR F98 e90 rfl).trans ((fxR F82 e91 rfl).trans ((fxR F61 ta0 rfl).trans e26)))
          have e113 : Rv h94 a0 13 = v29 := ((fxR F98 e90 rfl).trans ((fxR F82 e91 rfl).trans ((fxR F61 ta0 rfl).trans e30)))
          have e114 : Rv h94 a0 6 = v32 := ((fxR F98 e90 rfl).trans ((fxR F82 e91 rfl).trans ((fxR F61 ta0 rfl).trans e33)))
          obtain ⟨v115, e116⟩ : ∃ z, Rv h94 a0 7 = z := ⟨_, rfl⟩
          have t117 := ok_R O97 e105 rE_11_7 e116
          have p129 := p100
          unfold XInv at p129
          rw [e106, e107, e108, e109, e110, e111, p101, e112, e113, e114, e116] at p129
          obtain ⟨p118, p119, p120, p121, p122, p123, p124, p125, p126, p127, p128⟩ := p129
          have e130 : Tg h57 v29 = 7 := (fxT F61 t31)
          have e131 : Tg h78 v29 = 7 := (fxT F82 e130)
          obtain ⟨v132, e133⟩ : ∃ z, Iv h94 v29 3 = z := ⟨_, rfl⟩
          have e134 : Tg h94 v29 = 7 := (fxT F98 e131)
          have f135 := ok_I O97 e134 rI_7_3 e133
          obtain ⟨v136, e137⟩ : ∃ z, Iv h94 v29 4 = z := ⟨_, rfl⟩
          have f138 := ok_I O97 e134 rI_7_4 e137
          rw [e133] at p124
          rw [e137] at p125
          have p139 := p121 (by omega)
          refine g_if_ne C (iw f99 (by decide) (by decide)) 47 (by decide) dX11_line_42 (fun q140 => ?_) (fun q141 => ?_)
          · have f142 : (1 : Int) ≤ r93 ∧ r93 ≤ (1 : Int) := r_nl f99 q140
            refine g_aload_n C rfl 2 rfl dX11_line_47 ?_
            refine g_iload C 1 rfl dX11_line_48 ?_
            refine g_iload C 0 rfl dX11_line_50 ?_
            refine g_callV (st := []) (gc_V C lk_LandSurvey_259 (k_X11_gatherLineFacts l D cy w z0 O97 e105 f68 f89 p101 p100) e105 rfl rfl rfl ⟨by decide, by decide⟩ (Nat.le_of_ble_eq_true rfl) dX11_line_52 ⟨(by decide), (by decide)⟩) (fun h144 K145 => ?_)
            obtain ⟨O147, F148⟩ := K145
            refine g_aload_n C rfl 2 rfl dX11_line_55 ?_
            have e149 : Tg h144 a0 = 11 := (fxT F148 e105)
            have e150 : Rv h144 a0 7 = v115 := ((fxR F148 e105 rfl).trans e116)
            refine gf_R C fk_LandSurvey_44 rfl e149 e150 dX11_line_56 ?_
            refine g_iconst C dX11_line_59 ?_
            refine g_aload_n C rfl 2 rfl dX11_line_60 ?_
            obtain ⟨v151, e152⟩ : ∃ z, Rv h144 a0 18 = z := ⟨_, rfl⟩
            have t153 := ok_R O147 e149 rE_11_18 e152
            have l154 := ok_L O147 e149 rE_11_18 e152
            refine gf_R C fk_LandSurvey_74 rfl e149 e152 dX11_line_61 ?_
            have e155 : Tg h144 v115 = 6 := (fxT F148 t117)
            have p156 := (RulesOk_fx O97 F148 t117 rfl p127)
            refine g_callI (st := []) (gc_V C lk_LandSurvey_263 (k_X5_firstThatTells l D cy w z0 O147 e155 (iw (il 2) (by decide) (by decide)) t153 l154 p156) e155 rfl rfl rfl ⟨by decide, by decide⟩ (Nat.le_of_ble_eq_true rfl) dX11_line_64 ⟨(by decide), (by decide)⟩) (fun r157 h158 f160 K159 => ?_)
            obtain ⟨O161, F162, f163, p164⟩ := K159
            refine g_istore C [(6, .inl r157), (5, .inl r77), (4, .inl r56), (0, .inr (.inr a0)), (1, .inl a1), (2, .inl a2), (3, .inl a3)] (by decide) rfl dX11_line_67 ?_
            refine g_iload C 0 rfl dX11_line_69 ?_
            refine g_iconst C dX11_line_71 ?_
            refine g_icmp_eq C (iw f163 (by decide) (by decide)) (iw (il (-1)) (by decide) (by decide)) 86 (by decide) dX11_line_72 (fun q165 => ?_) (fun q166 => ?_)
            · have f167 : (-1 : Int) ≤ r157 ∧ r157 ≤ (-1 : Int) := ii f163 (r_eq (il (-1)) q165) (by decide) (by decide)
              refine g_aload_n C rfl 3 rfl dX11_line_86 ?_
              have e168 : Tg h158 a0 = 11 := (fxT F162 e149)
              have e169 : Rv h158 a0 18 = v151 := ((fxR F162 e149 rfl).trans e152)
              refine gf_R C fk_LandSurvey_74 rfl e168 e169 dX11_line_87 ?_
              refine g_bipush C (by decide) dX11_line_90 ?_
              have e170 : Tg h158 v151 = 50100 := (fxT F162 t153)
              have e171 : Ln h158 v151 = 12 := ((fxL F162 t153).trans l154)
              obtain ⟨v172, e173⟩ : ∃ z, Iv h158 v151 ((8 : Int).toNat) = z := ⟨_, rfl⟩
              have f174 := ok_Ia O161 e170 ar_50100 rI_50100_0 e173
              refine g_iald C e170 rfl e171 (ix (il 8) (by decide) (by decide)) e173 dX11_line_92 ?_
              refine g_sipush C (by decide) dX11_line_93 ?_
              refine g_icmp_ne C f174 (iw (il 1000) (by decide) (by decide)) 101 (by decide) dX11_line_96 (fun q175 => ?_) (fun q176 => ?_)
              · refine g_aload_n C rfl 3 rfl dX11_line_101 ?_
                refine gf_R C fk_LandSurvey_74 rfl e168 e169 dX11_line_102 ?_
                refine g_bipush C (by decide) dX11_line_105 ?_
                obtain ⟨v177, e178⟩ : ∃ z, Iv h158 v151 ((9 : Int).toNat) = z := ⟨_, rfl⟩
                have f179 := ok_Ia O161 e170 ar_50100 rI_50100_0 e178
                refine g_iald C e170 rfl e171 (ix (il 9) (by decide) (by decide)) e178 dX11_line_107 ?_
                refine g_sipush C (by decide) dX11_line_108 ?_
                refine g_icmp_ne C f179 (iw (il 1000) (by decide) (by decide)) 116 (by decide) dX11_line_111 (fun q180 => ?_) (fun q181 => ?_)
                · refine g_aload_n C rfl 3 rfl dX11_line_116 ?_
                  refine gf_R C fk_LandSurvey_74 rfl e168 e169 dX11_line_117 ?_
                  refine g_bipush C (by decide) dX11_line_120 ?_
                  obtain ⟨v182, e183⟩ : ∃ z, Iv h158 v151 ((10 : Int).toNat) = z := ⟨_, rfl⟩
                  have f184 := ok_Ia O161 e170 ar_50100 rI_50100_0 e183
                  refine g_iald C e170 rfl e171 (ix (il 10) (by decide) (by decide)) e183 dX11_line_122 ?_
                  refine g_sipush C (by decide) dX11_line_123 ?_
                  refine g_icmp_ne C f184 (iw (il 1000) (by decide) (by decide)) 133 (by decide) dX11_line_126 (fun q185 => ?_) (fun q186 => ?_)
                  · refine g_iconst C dX11_line_133 ?_
                    have p187 := (XInv_fx O147 F162 e149 rfl (XInv_fx O97 F148 e105 rfl p100))
                    exact g_iret C hr rfl (iw (il 1) (by decide) (by decide)) ⟨O161, ((((((Fx.rf (wr := wr_k_X11_line)).call F61 rfl).call F82 rfl).call F98 rfl).call F148 rfl).call F162 rfl), (iw (il 1) (by decide) (by decide)), p187⟩ (by decide) (by decide) dX11_line_134
                  · have f188 : (1000 : Int) ≤ v182 ∧ v182 ≤ (1000 : Int) := ii f184 (r_eq (il 1000) q186) (by decide) (by decide)
                    refine g_iconst C dX11_line_129 ?_
                    refine g_goto C 134 (by decide) dX11_line_130 ?_
                    have p189 := (XInv_fx O147 F162 e149 rfl (XInv_fx O97 F148 e105 rfl p100))
                    exact g_iret C hr rfl (iw (il 0) (by decide) (by decide)) ⟨O161, ((((((Fx.rf (wr := wr_k_X11_line)).call F61 rfl).call F82 rfl).call F98 rfl).call F148 rfl).call F162 rfl), (iw (il 0) (by decide) (by decide)), p189⟩ (by decide) (by decide) dX11_line_134
                · have f190 : (1000 : Int) ≤ v177 ∧ v177 ≤ (1000 : Int) := ii f179 (r_eq (il 1000) q181) (by decide) (by decide)
                  refine g_iconst C dX11_line_114 ?_
                  have p191 := (XInv_fx O147 F162 e149 rfl (XInv_fx O97 F148 e105 rfl p100))
                  exact g_iret C hr rfl (iw (il 2) (by decide) (by decide)) ⟨O161, ((((((Fx.rf (wr := wr_k_X11_line)).call F61 rfl).call F82 rfl).call F98 rfl).call F148 rfl).call F162 rfl), (iw (il 2) (by decide) (by decide)), p191⟩ (by decide) (by decide) dX11_line_115
              · have f192 : (1000 : Int) ≤ v172 ∧ v172 ≤ (1000 : Int) := ii f174 (r_eq (il 1000) q176) (by decide) (by decide)
                refine g_iconst C dX11_line_99 ?_
                have p193 := (XInv_fx O147 F162 e149 rfl (XInv_fx O97 F148 e105 rfl p100))
                exact g_iret C hr rfl (iw (il 3) (by decide) (by decide)) ⟨O161, ((((((Fx.rf (wr := wr_k_X11_line)).call F61 rfl).call F82 rfl).call F98 rfl).call F148 rfl).call F162 rfl), (iw (il 3) (by decide) (by decide)), p193⟩ (by decide) (by decide) dX11_line_100
            · have f194 : (0 : Int) ≤ r157 ∧ r157 ≤ (23 : Int) := r_nl f163 q166
              refine g_aload_n C rfl 3 rfl dX11_line_75 ?_
              have e195 : Tg h158 a0 = 11 := (fxT F162 e149)
              have e196 : Rv h158 a0 7 = v115 := ((fxR F162 e149 rfl).trans e150)
              refine gf_R C fk_LandSurvey_44 rfl e195 e196 dX11_line_76 ?_
              have e197 : Tg h158 v115 = 6 := (fxT F162 e155)
              obtain ⟨v198, e199⟩ : ∃ z, Rv h158 v115 15 = z := ⟨_, rfl⟩
              have t200 := ok_R O161 e197 rE_6_15 e199
              have l201 := ok_L O161 e197 rE_6_15 e199
              refine gf_R C fk_LandSurvey_269 rfl e197 e199 dX11_line_79 ?_
              refine g_iload C 0 rfl dX11_line_82 ?_
              obtain ⟨v202, e203⟩ : ∃ z, Iv h158 v198 r157.toNat = z := ⟨_, rfl⟩
              have f204 := ok_Ia O161 t200 ar_32100 rI_32100_0 e203
              refine g_iald C t200 rfl l201 (ix f194 (by decide) (by decide)) e203 dX11_line_84 ?_
              have p205 := (XInv_fx O147 F162 e149 rfl (XInv_fx O97 F148 e105 rfl p100))
              exact g_iret C hr rfl (iw f204 (by decide) (by decide)) ⟨O161, ((((((Fx.rf (wr := wr_k_X11_line)).call F61 rfl).call F82 rfl).call F98 rfl).call F148 rfl).call F162 rfl), (iw f204 (by decide) (by decide)), p205⟩ (by decide) (by decide) dX11_line_85
          · have f206 : (0 : Int) ≤ r93 ∧ r93 ≤ (0 : Int) := ii f99 (r_eq (il 0) q141) (by decide) (by decide)
            refine g_iconst C dX11_line_45 ?_
            exact g_iret C hr rfl (iw (il (-1)) (by decide) (by decide)) ⟨O97, ((((Fx.rf (wr := wr_k_X11_line)).call F61 rfl).call F82 rfl).call F98 rfl), (iw (il (-1)) (by decide) (by decide)), p100⟩ (by decide) (by decide) dX11_line_46
      · have f207 : (4 : Int) ≤ a3 ∧ a3 ≤ (2147483647 : Int) := r_ge f73 (il 4) q75 (by decide) (by decide)
        refine g_iconst C dX11_line_22 ?_
        have p208 := (XInv_fx O F61 ta0 rfl P_XInv)
        exact g_iret C hr rfl (iw (il (-1)) (by decide) (by decide)) ⟨O60, ((Fx.rf (wr := wr_k_X11_line)).call F61 rfl), (iw (il (-1)) (by decide) (by decide)), p208⟩ (by decide) (by decide) dX11_line_23
def wr_k_X11_water : List Nat := [401, 402, 403, 404, 405, 406, 1403, 1404, 1405, 1412, 1813, 1814, 1815, 1816, 1817, 1818, 2003, 2207, 2215, 2216, 2217, 200400, 200407, 200408, 2020000, 2220000, 7420000, 8020000, 8220400, 8420400, 8620000, 9020000, 9220400, 9420000, 9821400, 10020000, 1000000002, 1000001002, 1000010100, 1000011100]
set_option maxRecDepth 100000 in
set_option maxHeartbeats 4000000 in
theorem k_X11_water (l : Launch) (D : va_G) (cy : Nat → ClassId) (w : Nat → Nat) (z0 : Nat)  {h : Hp} {a0 : Nat} {a1 : Int} {a2 : Int} {a3 : Int}  (O : Okh h) (ta0 : Tg h a0 = 11) (fa1 : (-2147483648) ≤ a1 ∧ a1 ≤ 2147483647) (fa2 : (-2147483648) ≤ a2 ∧ a2 ≤ 2147483647) (fa3 : (-2147483648) ≤ a3 ∧ a3 ≤ 2147483647) (P_XInv : XInv h a0) : MI l D cy w z0 yX11_water cX11_water 8 (some .int) 11 300 48 3216 [.inr (.inr a0), .inl a1, .inl a2, .inl a3] h (fun v h1 => Okh h1 ∧ Fx wr_k_X11_water h h1 ∧ ((-2147483648) ≤ v ∧ v ≤ 2147483647) ∧ (XInv h1 a0)) := by
  obtain ⟨v1, e2⟩ : ∃ z, Rv h a0 3 = z := ⟨_, rfl⟩
  have t3 := ok_R O ta0 rE_11_3 e2
  have l4 := ok_L O ta0 rE_11_3 e2
  obtain ⟨v5, e6⟩ : ∃ z, Iv h a0 4 = z := ⟨_, rfl⟩
  have f7 := ok_I O ta0 rI_11_4 e6
  obtain ⟨v8, e9⟩ : ∃ z, Rv h a0 8 = z := ⟨_, rfl⟩
  have t10 := ok_R O ta0 rE_11_8 e9
  have l11 := ok_L O ta0 rE_11_8 e9
  obtain ⟨v12, e13⟩ : ∃ z, Iv h a0 9 = z := ⟨_, rfl⟩
  have f14 := ok_I O ta0 rI_11_9 e13
  obtain ⟨v15, e16⟩ : ∃ z, Rv h a0 11 = z := ⟨_, rfl⟩
  have t17 := ok_R O ta0 rE_11_11 e16
  have l18 := ok_L O ta0 rE_11_11 e16
  obtain ⟨v19, e20⟩ : ∃ z, Iv h a0 12 = z := ⟨_, rfl⟩
  have f21 := ok_I O ta0 rI_11_12 e20
  obtain ⟨v22, e23⟩ : ∃ z, Iv h a0 15 = z := ⟨_, rfl⟩
  have f24 := ok_I O ta0 rI_11_15 e23
  obtain ⟨v25, e26⟩ : ∃ z, Rv h a0 14 = z := ⟨_, rfl⟩
  have t27 := ok_R O ta0 rE_11_14 e26
  have l28 := ok_L O ta0 rE_11_14 e26
  obtain ⟨v29, e30⟩ : ∃ z, Rv h a0 13 = z := ⟨_, rfl⟩
  have t31 := ok_R O ta0 rE_11_13 e30
  obtain ⟨v32, e33⟩ : ∃ z, Rv h a0 6 = z := ⟨_, rfl⟩
  have t34 := ok_R O ta0 rE_11_6 e33
  obtain ⟨v35, e36⟩ : ∃ z, Rv h a0 7 = z := ⟨_, rfl⟩
  have t37 := ok_R O ta0 rE_11_7 e36
  have p49 := P_XInv
  unfold XInv at p49
  rw [e2, e6, e9, e13, e16, e20, e23, e26, e30, e33, e36] at p49
  obtain ⟨p38, p39, p40, p41, p42, p43, p44, p45, p46, p47, p48⟩ := p49
  obtain ⟨v50, e51⟩ : ∃ z, Iv h v29 3 = z := ⟨_, rfl⟩
  have f52 := ok_I O t31 rI_7_3 e51
  obtain ⟨v53, e54⟩ : ∃ z, Iv h v29 4 = z := ⟨_, rfl⟩
  have f55 := ok_I O t31 rI_7_4 e54
  rw [e51] at p44
  rw [e54] at p45
  refine hm_go (by decide +kernel) (Nat.le_of_ble_eq_true rfl) (fun p e s m below meth c C hr hn => ?_)
  refine g_iload_n C rfl 1 rfl dX11_water_0 ?_
  refine g_iload_n C rfl 2 rfl dX11_water_1 ?_
  refine g_callI (st := []) (gc_S C lk_LandSurvey_85 (k_X11_cellAt l D cy w z0 O fa1 fa2) rfl ⟨by decide, by decide⟩ (Nat.le_of_ble_eq_true rfl) dX11_water_2 ⟨(by decide), (by decide)⟩) (fun r56 h57 f59 K58 => ?_)
  obtain ⟨O60, F61, f62, p63⟩ := K58
  refine g_istore C [(4, .inl r56), (0, .inr (.inr a0)), (1, .inl a1), (2, .inl a2), (3, .inl a3)] (by decide) rfl dX11_water_5 ?_
  refine g_iload C 0 rfl dX11_water_7 ?_
  refine g_iconst C dX11_water_9 ?_
  refine g_icmp_eq C (iw f62 (by decide) (by decide)) (iw (il (-1)) (by decide) (by decide)) 36 (by decide) dX11_water_10 (fun q64 => ?_) (fun q65 => ?_)
  · have f66 : (-1 : Int) ≤ r56 ∧ r56 ≤ (-1 : Int) := ii f62 (r_eq (il (-1)) q64) (by decide) (by decide)
    refine g_iconst C dX11_water_36 ?_
    have p67 := (XInv_fx O F61 ta0 rfl P_XInv)
    exact g_iret C hr rfl (iw (il (-1)) (by decide) (by decide)) ⟨O60, ((Fx.rf (wr := wr_k_X11_water)).call F61 rfl), (iw (il (-1)) (by decide) (by decide)), p67⟩ (by decide) (by decide) dX11_water_37
  · have f68 : (0 : Int) ≤ r56 ∧ r56 ≤ (95 : Int) := r_nl f62 q65
    refine g_iload_n C rfl 4 rfl dX11_water_13 ?_
    refine g_if_lt C fa3 36 (by decide) dX11_water_14 (fun q69 => ?_) (fun q70 => ?_)
    · have f71 : (-2147483648 : Int) ≤ a3 ∧ a3 ≤ (-1 : Int) := r_lt fa3 (il 0) q69 (by decide) (by decide)
      refine g_iconst C dX11_water_36 ?_
      have p72 := (XInv_fx O F61 ta0 rfl P_XInv)
      exact g_iret C hr rfl (iw (il (-1)) (by decide) (by decide)) ⟨O60, ((Fx.rf (wr := wr_k_X11_water)).call F61 rfl), (iw (il (-1)) (by decide) (by decide)), p72⟩ (by decide) (by decide) dX11_water_37
    · have f73 : (0 : Int) ≤ a3 ∧ a3 ≤ (2147483647 : Int) := r_ge fa3 (il 0) q70 (by decide) (by decide)
      refine g_iload_n C rfl 4 rfl dX11_water_17 ?_
      refine g_iconst C dX11_water_18 ?_
      refine g_icmp_gt C (iw f73 (by decide) (by decide)) (iw (il 1) (by decide) (by decide)) 36 (by decide) dX11_water_19 (fun q74 => ?_) (fun q75 => ?_)
      · have f76 : (2 : Int) ≤ a3 ∧ a3 ≤ (2147483647 : Int) := r_gt f73 (il 1) q74 (by decide) (by decide)
        refine g_iconst C dX11_water_36 ?_
        have p77 := (XInv_fx O F61 ta0 rfl P_XInv)
        exact g_iret C hr rfl (iw (il (-1)) (by decide) (by decide)) ⟨O60, ((Fx.rf (wr := wr_k_X11_water)).call F61 rfl), (iw (il (-1)) (by decide) (by decide)), p77⟩ (by decide) (by decide) dX11_water_37
      · have f78 : (0 : Int) ≤ a3 ∧ a3 ≤ (1 : Int) := r_le f73 (il 1) q75 (by decide) (by decide)
        refine g_aload_n C rfl 1 rfl dX11_water_22 ?_
        have e79 : Tg h57 a0 = 11 := (fxT F61 ta0)
        have p80 := (XInv_fx O F61 ta0 rfl P_XInv)
        refine g_callI (st := []) (gc_V C lk_LandSurvey_253 (k_X11_prepare l D cy w z0 O60 e79 p80) e79 rfl rfl rfl ⟨by decide, by decide⟩ (Nat.le_of_ble_eq_true rfl) dX11_water_23 ⟨(by decide), (by decide)⟩) (fun r81 h82 f84 K83 => ?_)
        obtain ⟨O85, F86, f87, p88, p89, p90⟩ := K83
        obtain ⟨v91, e92⟩ : ∃ z, Rv h82 a0 17 = z := ⟨_, rfl⟩
        have e93 : Tg h82 a0 = 11 := (fxT F86 e79)
        rw [e92] at p90
        have e94 : Rv h82 a0 3 = v1 := ((fxR F86 e79 rfl).trans ((fxR F61 ta0 rfl).trans e2))
        have e95 : Iv h82 a0 4 = v5 := ((fxI F86 e79 rfl).trans ((fxI F61 ta0 rfl).trans e6))
        have e96 : Rv h82 a0 8 = v8 := ((fxR F86 e79 rfl).trans ((fxR F61 ta0 rfl).trans e9))
        have e97 : Iv h82 a0 9 = v12 := ((fxI F86 e79 rfl).trans ((fxI F61 ta0 rfl).trans e13))
        have e98 : Rv h82 a0 11 = v15 := ((fxR F86 e79 rfl).trans ((fxR F61 ta0 rfl).trans e16))
        have e99 : Iv h82 a0 12 = v19 := ((fxI F86 e79 rfl).trans ((fxI F61 ta0 rfl).trans e20))
        have e100 : Rv h82 a0 14 = v25 := ((fxR F86 e79 rfl).trans ((fxR F61 ta0 rfl).trans e26))
        have e101 : Rv h82 a0 13 = v29 := ((fxR F86 e79 rfl).trans ((fxR F61 ta0 rfl).trans e30))
        have e102 : Rv h82 a0 6 = v32 := ((fxR F86 e79 rfl).trans ((fxR F61 ta0 rfl).trans e33))
        obtain ⟨v103, e104⟩ : ∃ z, Rv h82 a0 7 = z := ⟨_, rfl⟩
        have t105 := ok_R O85 e93 rE_11_7 e104
        have p117 := p88
        unfold XInv at p117
        rw [e94, e95, e96, e97, e98, e99, p89, e100, e101, e102, e104] at p117
        obtain ⟨p106, p107, p108, p109, p110, p111, p112, p113, p114, p115, p116⟩ := p117
        have e118 : Tg h57 v29 = 7 := (fxT F61 t31)
        obtain ⟨v119, e120⟩ : ∃ z, Iv h82 v29 3 = z := ⟨_, rfl⟩
        have e121 : Tg h82 v29 = 7 := (fxT F86 e118)
        have f122 := ok_I O85 e121 rI_7_3 e120
        obtain ⟨v123, e124⟩ : ∃ z, Iv h82 v29 4 = z := ⟨_, rfl⟩
        have f125 := ok_I O85 e121 rI_7_4 e124
        rw [e120] at p112
        rw [e124] at p113
        have p126 := p109 (by omega)
        refine g_if_eq C (iw f87 (by decide) (by decide)) 36 (by decide) dX11_water_26 (fun q127 => ?_) (fun q128 => ?_)
        · have f129 : (0 : Int) ≤ r81 ∧ r81 ≤ (0 : Int) := ii f87 (r_eq (il 0) q127) (by decide) (by decide)
          refine g_iconst C dX11_water_36 ?_
          exact g_iret C hr rfl (iw (il (-1)) (by decide) (by decide)) ⟨O85, (((Fx.rf (wr := wr_k_X11_water)).call F61 rfl).call F86 rfl), (iw (il (-1)) (by decide) (by decide)), p88⟩ (by decide) (by decide) dX11_water_37
        · have f130 : (1 : Int) ≤ r81 ∧ r81 ≤ (1 : Int) := r_nl f87 q128
          refine g_aload_n C rfl 1 rfl dX11_water_29 ?_
          refine g_callI (st := []) (gc_V C lk_LandSurvey_275 (k_X11_allKeptKnown l D cy w z0 O85 e93 p89 p88) e93 rfl rfl rfl ⟨by decide, by decide⟩ (Nat.le_of_ble_eq_true rfl) dX11_water_30 ⟨(by decide), (by decide)⟩) (fun r131 h132 f134 K133 => ?_)
          obtain ⟨O135, F136, f137⟩ := K133
          refine g_if_ne C (iw f137 (by decide) (by decide)) 38 (by decide) dX11_water_33 (fun q138 => ?_) (fun q139 => ?_)
          · have f140 : (1 : Int) ≤ r131 ∧ r131 ≤ (1 : Int) := r_nl f137 q138
            refine g_aload_n C rfl 1 rfl dX11_water_38 ?_
            have e141 : Tg h132 a0 = 11 := (fxT F136 e93)
            obtain ⟨v142, e143⟩ : ∃ z, Rv h132 a0 2 = z := ⟨_, rfl⟩
            have t144 := ok_R O135 e141 rE_11_2 e143
            refine gf_R C fk_LandSurvey_16 rfl e141 e143 dX11_water_39 ?_
            obtain ⟨v145, e146⟩ : ∃ z, Rv h132 v142 2 = z := ⟨_, rfl⟩
            have t147 := ok_R O135 t144 rE_3_2 e146
            have l148 := ok_L O135 t144 rE_3_2 e146
            refine gf_R C fk_LandSurvey_96 rfl t144 e146 dX11_water_42 ?_
            refine g_iload C 0 rfl dX11_water_45 ?_
            obtain ⟨v149, e150⟩ : ∃ z, Iv h132 v145 r56.toNat = z := ⟨_, rfl⟩
            have f151 := ok_Ia O135 t147 ar_14101 rI_14101_0 e150
            refine g_zald C t147 rfl l148 (ix f68 (by decide) (by decide)) e150 dX11_water_47 ?_
            refine g_if_eq C (iw f151 (by decide) (by decide)) 55 (by decide) dX11_water_48 (fun q152 => ?_) (fun q153 => ?_)
            · have f154 : (0 : Int) ≤ v149 ∧ v149 ≤ (0 : Int) := ii f151 (r_eq (il 0) q152) (by decide) (by decide)
              refine g_iconst C dX11_water_55 ?_
              refine g_istore C [(5, .inl 1), (4, .inl r56), (0, .inr (.inr a0)), (1, .inl a1), (2, .inl a2), (3, .inl a3)] (by decide) rfl dX11_water_56 ?_
              refine g_aload_n C rfl 2 rfl dX11_water_58 ?_
              refine gf_R C fk_LandSurvey_16 rfl e141 e143 dX11_water_59 ?_
              refine gf_R C fk_LandSurvey_96 rfl t144 e146 dX11_water_62 ?_
              refine g_iload C 1 rfl dX11_water_65 ?_
              refine g_zald C t147 rfl l148 (ix f68 (by decide) (by decide)) e150 dX11_water_67 ?_
              refine g_if_eq C (iw f154 (by decide) (by decide)) 83 (by decide) dX11_water_68 (fun q155 => ?_) (fun q156 => ?_)
              · refine g_iconst C dX11_water_83 ?_
                refine g_istore C [(6, .inl 0), (5, .inl 1), (4, .inl r56), (0, .inr (.inr a0)), (1, .inl a1), (2, .inl a2), (3, .inl a3)] (by decide) rfl dX11_water_84 ?_
                refine g_iconst C dX11_water_86 ?_
                refine g_istore C [(7, .inl 1), (6, .inl 0), (5, .inl 1), (4, .inl r56), (0, .inr (.inr a0)), (1, .inl a1), (2, .inl a2), (3, .inl a3)] (by decide) rfl dX11_water_87 ?_
                refine GW.sub [4, 5, 6, 7, 3, 2, 1, 0] rfl ?_
                have e160 : Rv h132 a0 7 = v103 := ((fxR F136 e93 rfl).trans e104)
                obtain ⟨v161, e162⟩ : ∃ z, Iv h132 v103 0 = z := ⟨_, rfl⟩
                have e163 : Tg h132 v103 = 6 := (fxT F136 t105)
                have f164 := ok_I O135 e163 rI_6_0 e162
                -- loop at 89
                have L165 : ∀ (μ : Nat) (x157 : Int) (x158 : Int) (h159 : Hp), (10 - x158).toNat = μ → Okh h159 → Fx [] h132 h159 → ((-1 : Int) ≤ x157 ∧ x157 ≤ (9 : Int)) → ((1 : Int) ≤ x158 ∧ x158 ≤ (10 : Int)) → (((1 : Int) = 1 ∧ x157 = x158 - 1) ∨ ((1 : Int) = -1 ∧ x157 = v161 - x158)) → GW p l e (rmm 11 300 48 3216) s m (List.map toV [.inr (.inr a0), .inl a1, .inl a2, .inl a3]).toArray below meth c D cy z0 8 (MQ below (QI D cy z0 (fun v h1 => Okh h1 ∧ Fx wr_k_X11_water h h1 ∧ ((-2147483648) ≤ v ∧ v ≤ 2147483647) ∧ (XInv h1 a0))) (List.map toV [.inr (.inr a0), .inl a1, .inl a2, .inl a3]).toArray s 48 3216 (Aof z0)) 89 [(0, .inr (.inr a0)), (1, .inl a1), (2, .inl a2), (3, .inl a3), (4, .inl r56), (5, .inl 1), (6, .inl x157), (7, .inl x158)] [] h159 48 3216 := by
                  intro μ
                  induction μ using Nat.strongRecOn with
                  | ind μ ih166 =>
                    intro x157 x158 h159 hm167 O168 F169 f170 f171 p172
                    refine g_iload C 7 rfl dX11_water_89 ?_
                    refine g_aload_n C rfl 0 rfl dX11_water_91 ?_
                    have e173 : Tg h159 a0 = 11 := (fxT F169 e141)
                    have e174 : Rv h159 a0 7 = v103 := ((fxR F169 e141 rfl).trans e160)
                    refine gf_R C fk_LandSurvey_44 rfl e173 e174 dX11_water_92 ?_
                    have e175 : Tg h159 v103 = 6 := (fxT F169 e163)
                    have e176 : Iv h159 v103 0 = v161 := ((fxI F169 e163 rfl).trans e162)
                    refine gf_I C fk_LandSurvey_284 rfl e175 e176 dX11_water_95 ?_
                    refine g_icmp_ge C (iw f171 (by decide) (by decide)) (iw f164 (by decide) (by decide)) 176 (by decide) dX11_water_98 (fun q177 => ?_) (fun q178 => ?_)
                    · refine g_iconst C dX11_water_176 ?_
                      have p179 := (XInv_fx O135 F169 e141 rfl (XInv_fx O85 F136 e93 rfl p88))
                      exact g_iret C hr rfl (iw (il (-1)) (by decide) (by decide)) ⟨O168, (((((Fx.rf (wr := wr_k_X11_water)).call F61 rfl).call F86 rfl).call F136 rfl).call F169 rfl), (iw (il (-1)) (by decide) (by decide)), p179⟩ (by decide) (by decide) dX11_water_177
                    · have f180 : (1 : Int) ≤ x158 ∧ x158 ≤ (9 : Int) := r_lt f171 f164 q178 (by decide) (by decide)
                      have f181 : (2 : Int) ≤ v161 ∧ v161 ≤ (10 : Int) := r_gt f164 f171 q178 (by decide) (by decide)
                      refine g_aload_n C rfl 0 rfl dX11_water_101 ?_
                      refine gf_R C fk_LandSurvey_44 rfl e173 e174 dX11_water_102 ?_
                      refine g_iload C 6 rfl dX11_water_105 ?_
                      refine g_callI (st := []) (gc_V C lk_LandSurvey_287 (k_X5_holdsWater l D cy w z0 O168 e175 (iw f170 (by decide) (by decide))) e175 rfl rfl rfl ⟨by decide, by decide⟩ (Nat.le_of_ble_eq_true rfl) dX11_water_107 ⟨(by decide), (by decide)⟩) (fun r182 h183 f185 K184 => ?_)
                      obtain ⟨O186, F187, f188⟩ := K184
                      refine g_if_eq C (iw f188 (by decide) (by decide)) 163 (by decide) dX11_water_110 (fun q189 => ?_) (fun q190 => ?_)
                      · have f191 : (0 : Int) ≤ r182 ∧ r182 ≤ (0 : Int) := ii f188 (r_eq (il 0) q189) (by decide) (by decide)
                        refine g_iload C 6 rfl dX11_water_163 ?_
                        refine g_iload C 5 rfl dX11_water_165 ?_
                        have f192 : (0 : Int) ≤ (x157 + 1) ∧ (x157 + 1) ≤ (10 : Int) := ia_add f170 (il 1) (by decide) (by decide)
                        refine g_iadd C dX11_water_167 ?_
                        refine g_istore C [(6, .inl (x157 + 1)), (0, .inr (.inr a0)), (1, .inl a1), (2, .inl a2), (3, .inl a3), (4, .inl r56), (5, .inl 1), (7, .inl x158)] (by decide) rfl dX11_water_168 ?_
                        have f193 : (2 : Int) ≤ (x158 + 1) ∧ (x158 + 1) ≤ (10 : Int) := ia_add f180 (il 1) (by decide) (by decide)
                        refine g_iinc C [(7, .inl (x158 + 1)), (6, .inl (x157 + 1)), (0, .inr (.inr a0)), (1, .inl a1), (2, .inl a2), (3, .inl a3), (4, .inl r56), (5, .inl 1)] 7 rfl (by decide) rfl dX11_water_170 ?_
                        refine g_goto C 89 (by decide) dX11_water_173 ?_
                        refine GW.sub [2, 3, 4, 5, 6, 7, 1, 0] rfl ?_
                        exact ih166 _ (by omega) (x157 + 1) (x158 + 1) h183 rfl O186 (F169.call F187 rfl) (by omega) (iw f193 (by decide) (by decide)) (by omega)
                      · have f194 : (1 : Int) ≤ r182 ∧ r182 ≤ (1 : Int) := r_nl f188 q190
                        refine g_aload_n C rfl 0 rfl dX11_water_113 ?_
                        have e195 : Tg h183 a0 = 11 := (fxT F187 e173)
                        have e196 : Rv h183 a0 7 = v103 := ((fxR F187 e173 rfl).trans e174)
                        refine gf_R C fk_LandSurvey_44 rfl e195 e196 dX11_water_114 ?_
                        refine g_iload C 6 rfl dX11_water_117 ?_
                        refine g_iload C 5 rfl dX11_water_119 ?_
                        have f197 : (0 : Int) ≤ (x157 + 1) ∧ (x157 + 1) ≤ (10 : Int) := ia_add f170 (il 1) (by decide) (by decide)
                        refine g_iadd C dX11_water_121 ?_
                        have e198 : Tg h183 v103 = 6 := (fxT F187 e175)
                        refine g_callI (st := []) (gc_V C lk_LandSurvey_290 (k_X5_isTight l D cy w z0 O186 e198 (iw f197 (by decide) (by decide))) e198 rfl rfl rfl ⟨by decide, by decide⟩ (Nat.le_of_ble_eq_true rfl) dX11_water_122 ⟨(by decide), (by decide)⟩) (fun r199 h200 f202 K201 => ?_)
                        obtain ⟨O203, F204, f205⟩ := K201
                        refine g_if_eq C (iw f205 (by decide) (by decide)) 163 (by decide) dX11_water_125 (fun q206 => ?_) (fun q207 => ?_)
                        · have f208 : (0 : Int) ≤ r199 ∧ r199 ≤ (0 : Int) := ii f205 (r_eq (il 0) q206) (by decide) (by decide)
                          refine g_iload C 6 rfl dX11_water_163 ?_
                          refine g_iload C 5 rfl dX11_water_165 ?_
                          refine g_iadd C dX11_water_167 ?_
                          refine g_istore C [(6, .inl (x157 + 1)), (0, .inr (.inr a0)), (1, .inl a1), (2, .inl a2), (3, .inl a3), (4, .inl r56), (5, .inl 1), (7, .inl x158)] (by decide) rfl dX11_water_168 ?_
                          have f209 : (2 : Int) ≤ (x158 + 1) ∧ (x158 + 1) ≤ (10 : Int) := ia_add f180 (il 1) (by decide) (by decide)
                          refine g_iinc C [(7, .inl (x158 + 1)), (6, .inl (x157 + 1)), (0, .inr (.inr a0)), (1, .inl a1), (2, .inl a2), (3, .inl a3), (4, .inl r56), (5, .inl 1)] 7 rfl (by decide) rfl dX11_water_170 ?_
                          refine g_goto C 89 (by decide) dX11_water_173 ?_
                          refine GW.sub [2, 3, 4, 5, 6, 7, 1, 0] rfl ?_
                          exact ih166 _ (by omega) (x157 + 1) (x158 + 1) h200 rfl O203 ((F169.call F187 rfl).call F204 rfl) (by omega) (iw f209 (by decide) (by decide)) (by omega)
                        · have f210 : (1 : Int) ≤ r199 ∧ r199 ≤ (1 : Int) := r_nl f205 q207
                          refine g_aload_n C rfl 0 rfl dX11_water_128 ?_
                          refine g_iload C 4 rfl dX11_water_129 ?_
                          refine g_iload C 6 rfl dX11_water_131 ?_
                          have e211 : Tg h200 a0 = 11 := (fxT F204 e195)
                          have e212 : Iv h200 a0 15 = 1 := ((fxI F204 e195 rfl).trans ((fxI F187 e173 rfl).trans ((fxI F169 e141 rfl).trans ((fxI F136 e93 rfl).trans p89))))
                          have p213 := (XInv_fx O186 F204 e195 rfl (XInv_fx O168 F187 e173 rfl (XInv_fx O135 F169 e141 rfl (XInv_fx O85 F136 e93 rfl p88))))
                          refine g_callI (st := []) (gc_V C lk_LandSurvey_293 (k_X11_leastFoot l D cy w z0 O203 e211 f68 (by omega) e212 p213) e211 rfl rfl rfl ⟨by decide, by decide⟩ (Nat.le_of_ble_eq_true rfl) dX11_water_133 ⟨(by decide), (by decide)⟩) (fun r214 h215 f217 K216 => ?_)
                          obtain ⟨O218, F219, f220⟩ := K216
                          refine g_if_lt C f220 163 (by decide) dX11_water_136 (fun q221 => ?_) (fun q222 => ?_)
                          · have f223 : (-2147483648 : Int) ≤ r214 ∧ r214 ≤ (-1 : Int) := r_lt f220 (il 0) q221 (by decide) (by decide)
                            refine g_iload C 6 rfl dX11_water_163 ?_
                            refine g_iload C 5 rfl dX11_water_165 ?_
                            refine g_iadd C dX11_water_167 ?_
                            refine g_istore C [(6, .inl (x157 + 1)), (0, .inr (.inr a0)), (1, .inl a1), (2, .inl a2), (3, .inl a3), (4, .inl r56), (5, .inl 1), (7, .inl x158)] (by decide) rfl dX11_water_168 ?_
                            have f224 : (2 : Int) ≤ (x158 + 1) ∧ (x158 + 1) ≤ (10 : Int) := ia_add f180 (il 1) (by decide) (by decide)
                            refine g_iinc C [(7, .inl (x158 + 1)), (6, .inl (x157 + 1)), (0, .inr (.inr a0)), (1, .inl a1), (2, .inl a2), (3, .inl a3), (4, .inl r56), (5, .inl 1)] 7 rfl (by decide) rfl dX11_water_170 ?_
                            refine g_goto C 89 (by decide) dX11_water_173 ?_
                            refine GW.sub [2, 3, 4, 5, 6, 7, 1, 0] rfl ?_
                            exact ih166 _ (by omega) (x157 + 1) (x158 + 1) h215 rfl O218 (((F169.call F187 rfl).call F204 rfl).call F219 rfl) (by omega) (iw f224 (by decide) (by decide)) (by omega)
                          · have f225 : (0 : Int) ≤ r214 ∧ r214 ≤ (2147483647 : Int) := r_ge f220 (il 0) q222 (by decide) (by decide)
                            refine g_iload_n C rfl 3 rfl dX11_water_139 ?_
                            refine g_if_ne C (iw f78 (by decide) (by decide)) 154 (by decide) dX11_water_140 (fun q226 => ?_) (fun q227 => ?_)
                            · have f228 : (1 : Int) ≤ a3 ∧ a3 ≤ (1 : Int) := r_nl f78 q226
                              refine g_aload_n C rfl 0 rfl dX11_water_154 ?_
                              refine g_iload C 4 rfl dX11_water_155 ?_
                              refine g_iload C 6 rfl dX11_water_157 ?_
                              have e229 : Tg h215 a0 = 11 := (fxT F219 e211)
                              have e230 : Iv h215 a0 15 = 1 := ((fxI F219 e211 rfl).trans e212)
                              have p231 := (XInv_fx O203 F219 e211 rfl p213)
                              refine g_callI (st := []) (gc_V C lk_LandSurvey_296 (k_X11_greatestFoot l D cy w z0 O218 e229 f68 (by omega) e230 p231) e229 rfl rfl rfl ⟨by decide, by decide⟩ (Nat.le_of_ble_eq_true rfl) dX11_water_159 ⟨(by decide), (by decide)⟩) (fun r232 h233 f235 K234 => ?_)
                              obtain ⟨O236, F237, f238⟩ := K234
                              have p239 := (XInv_fx O218 F237 e229 rfl p231)
                              exact g_iret C hr rfl f238 ⟨O236, (((((((((Fx.rf (wr := wr_k_X11_water)).call F61 rfl).call F86 rfl).call F136 rfl).call F169 rfl).call F187 rfl).call F204 rfl).call F219 rfl).call F237 rfl), f238, p239⟩ (by decide) (by decide) dX11_water_162
                            · have f240 : (0 : Int) ≤ a3 ∧ a3 ≤ (0 : Int) := ii f78 (r_eq (il 0) q227) (by decide) (by decide)
                              refine g_aload_n C rfl 0 rfl dX11_water_143 ?_
                              refine g_iload C 4 rfl dX11_water_144 ?_
                              refine g_iload C 6 rfl dX11_water_146 ?_
                              have e241 : Tg h215 a0 = 11 := (fxT F219 e211)
                              have e242 : Iv h215 a0 15 = 1 := ((fxI F219 e211 rfl).trans e212)
                              have p243 := (XInv_fx O203 F219 e211 rfl p213)
                              refine g_callI (st := []) (gc_V C lk_LandSurvey_293 (k_X11_leastFoot l D cy w z0 O218 e241 f68 (by omega) e242 p243) e241 rfl rfl rfl ⟨by decide, by decide⟩ (Nat.le_of_ble_eq_true rfl) dX11_water_148 ⟨(by decide), (by decide)⟩) (fun r244 h245 f247 K246 => ?_)
                              obtain ⟨O248, F249, f250⟩ := K246
                              refine g_goto C 162 (by decide) dX11_water_151 ?_
                              have p251 := (XInv_fx O218 F249 e241 rfl p243)
                              exact g_iret C hr rfl f250 ⟨O248, (((((((((Fx.rf (wr := wr_k_X11_water)).call F61 rfl).call F86 rfl).call F136 rfl).call F169 rfl).call F187 rfl).call F204 rfl).call F219 rfl).call F249 rfl), f250, p251⟩ (by decide) (by decide) dX11_water_162
                exact L165 _ 0 1 h132 rfl O135 Fx.rf (iw (il 0) (by decide) (by decide)) (iw (il 1) (by decide) (by decide)) (by omega)
              · exact (no_ne f154 (il 0) q156 (by decide)).elim
            · have f252 : (1 : Int) ≤ v149 ∧ v149 ≤ (1 : Int) := r_nl f151 q153
              refine g_iconst C dX11_water_51 ?_
              refine g_goto C 56 (by decide) dX11_water_52 ?_
              refine g_istore C [(5, .inl (-1)), (4, .inl r56), (0, .inr (.inr a0)), (1, .inl a1), (2, .inl a2), (3, .inl a3)] (by decide) rfl dX11_water_56 ?_
              refine g_aload_n C rfl 2 rfl dX11_water_58 ?_
              refine gf_R C fk_LandSurvey_16 rfl e141 e143 dX11_water_59 ?_
              refine gf_R C fk_LandSurvey_96 rfl t144 e146 dX11_water_62 ?_
              refine g_iload C 1 rfl dX11_water_65 ?_
              refine g_zald C t147 rfl l148 (ix f68 (by decide) (by decide)) e150 dX11_water_67 ?_
              refine g_if_eq C (iw f252 (by decide) (by decide)) 83 (by decide) dX11_water_68 (fun q253 => ?_) (fun q254 => ?_)
              · exact (no_eq f252 (il 0) q253 (by decide)).elim
              · refine g_aload_n C rfl 2 rfl dX11_water_71 ?_
                have e255 : Rv h132 a0 7 = v103 := ((fxR F136 e93 rfl).trans e104)
                refine gf_R C fk_LandSurvey_44 rfl e141 e255 dX11_water_72 ?_
                have e256 : Tg h132 v103 = 6 := (fxT F136 t105)
                obtain ⟨v257, e258⟩ : ∃ z, Iv h132 v103 0 = z := ⟨_, rfl⟩
                have f259 := ok_I O135 e256 rI_6_0 e258
                refine gf_I C fk_LandSurvey_284 rfl e256 e258 dX11_water_75 ?_
                refine g_iconst C dX11_water_78 ?_
                have f260 : (-1 : Int) ≤ (v257 - 1) ∧ (v257 - 1) ≤ (9 : Int) := ia_sub f259 (il 1) (by decide) (by decide)
                refine g_isub C dX11_water_79 ?_
                refine g_goto C 84 (by decide) dX11_water_80 ?_
                refine g_istore C [(6, .inl (v257 - 1)), (5, .inl (-1)), (4, .inl r56), (0, .inr (.inr a0)), (1, .inl a1), (2, .inl a2), (3, .inl a3)] (by decide) rfl dX11_water_84 ?_
                refine g_iconst C dX11_water_86 ?_
                refine g_istore C [(7, .inl 1), (6, .inl (v257 - 1)), (5, .inl (-1)), (4, .inl r56), (0, .inr (.inr a0)), (1, .inl a1), (2, .inl a2), (3, .inl a3)] (by decide) rfl dX11_water_87 ?_
                refine GW.sub [4, 5, 6, 7, 3, 2, 1, 0] rfl ?_
                -- loop at 89
                have L264 : ∀ (μ : Nat) (x261 : Int) (x262 : Int) (h263 : Hp), (10 - x262).toNat = μ → Okh h263 → Fx [] h132 h263 → ((-1 : Int) ≤ x261 ∧ x261 ≤ (9 : Int)) → ((1 : Int) ≤ x262 ∧ x262 ≤ (10 : Int)) → ((((-1) : Int) = 1 ∧ x261 = x262 - 1) ∨ (((-1) : Int) = -1 ∧ x261 = v257 - x262)) → GW p l e (rmm 11 300 48 3216) s m (List.map toV [.inr (.inr a0), .inl a1, .inl a2, .inl a3]).toArray below meth c D cy z0 8 (MQ below (QI D cy z0 (fun v h1 => Okh h1 ∧ Fx wr_k_X11_water h h1 ∧ ((-2147483648) ≤ v ∧ v ≤ 2147483647) ∧ (XInv h1 a0))) (List.map toV [.inr (.inr a0), .inl a1, .inl a2, .inl a3]).toArray s 48 3216 (Aof z0)) 89 [(0, .inr (.inr a0)), (1, .inl a1), (2, .inl a2), (3, .inl a3), (4, .inl r56), (5, .inl (-1)), (6, .inl x261), (7, .inl x262)] [] h263 48 3216 := by
                  intro μ
                  induction μ using Nat.strongRecOn with
                  | ind μ ih265 =>
                    intro x261 x262 h263 hm266 O267 F268 f269 f270 p271
                    refine g_iload C 7 rfl dX11_water_89 ?_
                    refine g_aload_n C rfl 0 rfl dX11_water_91 ?_
                    have e272 : Tg h263 a0 = 11 := (fxT F268 e141)
                    have e273 : Rv h263 a0 7 = v103 := ((fxR F268 e141 rfl).trans e255)
                    refine gf_R C fk_LandSurvey_44 rfl e272 e273 dX11_water_92 ?_
                    have e274 : Tg h263 v103 = 6 := (fxT F268 e256)
                    have e275 : Iv h263 v103 0 = v257 := ((fxI F268 e256 rfl).trans e258)
                    refine gf_I C fk_LandSurvey_284 rfl e274 e275 dX11_water_95 ?_
                    refine g_icmp_ge C (iw f270 (by decide) (by decide)) (iw f259 (by decide) (by decide)) 176 (by decide) dX11_water_98 (fun q276 => ?_) (fun q277 => ?_)
                    · refine g_iconst C dX11_water_176 ?_
                      have p278 := (XInv_fx O135 F268 e141 rfl (XInv_fx O85 F136 e93 rfl p88))
                      exact g_iret C hr rfl (iw (il (-1)) (by decide) (by decide)) ⟨O267, (((((Fx.rf (wr := wr_k_X11_water)).call F61 rfl).call F86 rfl).call F136 rfl).call F268 rfl), (iw (il (-1)) (by decide) (by decide)), p278⟩ (by decide) (by decide) dX11_water_177
                    · have f279 : (1 : Int) ≤ x262 ∧ x262 ≤ (9 : Int) := r_lt f270 f259 q277 (by decide) (by decide)
                      have f280 : (2 : Int) ≤ v257 ∧ v257 ≤ (10 : Int) := r_gt f259 f270 q277 (by decide) (by decide)
                      refine g_aload_n C rfl 0 rfl dX11_water_101 ?_
                      refine gf_R C fk_LandSurvey_44 rfl e272 e273 dX11_water_102 ?_
                      refine g_iload C 6 rfl dX11_water_105 ?_
                      refine g_callI (st := []) (gc_V C lk_LandSurvey_287 (k_X5_holdsWater l D cy w z0 O267 e274 (iw f269 (by decide) (by decide))) e274 rfl rfl rfl ⟨by decide, by decide⟩ (Nat.le_of_ble_eq_true rfl) dX11_water_107 ⟨(by decide), (by decide)⟩) (fun r281 h282 f284 K283 => ?_)
                      obtain ⟨O285, F286, f287⟩ := K283
                      refine g_if_eq C (iw f287 (by decide) (by decide)) 163 (by decide) dX11_water_110 (fun q288 => ?_) (fun q289 => ?_)
                      · have f290 : (0 : Int) ≤ r281 ∧ r281 ≤ (0 : Int) := ii f287 (r_eq (il 0) q288) (by decide) (by decide)
                        refine g_iload C 6 rfl dX11_water_163 ?_
                        refine g_iload C 5 rfl dX11_water_165 ?_
                        have f291 : (-2 : Int) ≤ (x261 + (-1)) ∧ (x261 + (-1)) ≤ (8 : Int) := ia_add f269 (il (-1)) (by decide) (by decide)
                        refine g_iadd C dX11_water_167 ?_
                        refine g_istore C [(6, .inl (x261 + (-1))), (0, .inr (.inr a0)), (1, .inl a1), (2, .inl a2), (3, .inl a3), (4, .inl r56), (5, .inl (-1)), (7, .inl x262)] (by decide) rfl dX11_water_168 ?_
                        have f292 : (2 : Int) ≤ (x262 + 1) ∧ (x262 + 1) ≤ (10 : Int) := ia_add f279 (il 1) (by decide) (by decide)
                        refine g_iinc C [(7, .inl (x262 + 1)), (6, .inl (x261 + (-1))), (0, .inr (.inr a0)), (1, .inl a1), (2, .inl a2), (3, .inl a3), (4, .inl r56), (5, .inl (-1))] 7 rfl (by decide) rfl dX11_water_170 ?_
                        refine g_goto C 89 (by decide) dX11_water_173 ?_
                        refine GW.sub [2, 3, 4, 5, 6, 7, 1, 0] rfl ?_
                        exact ih265 _ (by omega) (x261 + (-1)) (x262 + 1) h282 rfl O285 (F268.call F286 rfl) (by omega) (iw f292 (by decide) (by decide)) (by omega)
                      · have f293 : (1 : Int) ≤ r281 ∧ r281 ≤ (1 : Int) := r_nl f287 q289
                        refine g_aload_n C rfl 0 rfl dX11_water_113 ?_
                        have e294 : Tg h282 a0 = 11 := (fxT F286 e272)
                        have e295 : Rv h282 a0 7 = v103 := ((fxR F286 e272 rfl).trans e273)
                        refine gf_R C fk_LandSurvey_44 rfl e294 e295 dX11_water_114 ?_
                        refine g_iload C 6 rfl dX11_water_117 ?_
                        refine g_iload C 5 rfl dX11_water_119 ?_
                        have f296 : (-2 : Int) ≤ (x261 + (-1)) ∧ (x261 + (-1)) ≤ (8 : Int) := ia_add f269 (il (-1)) (by decide) (by decide)
                        refine g_iadd C dX11_water_121 ?_
                        have e297 : Tg h282 v103 = 6 := (fxT F286 e274)
                        refine g_callI (st := []) (gc_V C lk_LandSurvey_290 (k_X5_isTight l D cy w z0 O285 e297 (iw f296 (by decide) (by decide))) e297 rfl rfl rfl ⟨by decide, by decide⟩ (Nat.le_of_ble_eq_true rfl) dX11_water_122 ⟨(by decide), (by decide)⟩) (fun r298 h299 f301 K300 => ?_)
                        obtain ⟨O302, F303, f304⟩ := K300
                        refine g_if_eq C (iw f304 (by decide) (by decide)) 163 (by decide) dX11_water_125 (fun q305 => ?_) (fun q306 => ?_)
                        · have f307 : (0 : Int) ≤ r298 ∧ r298 ≤ (0 : Int) := ii f304 (r_eq (il 0) q305) (by decide) (by decide)
                          refine g_iload C 6 rfl dX11_water_163 ?_
                          refine g_iload C 5 rfl dX11_water_165 ?_
                          refine g_iadd C dX11_water_167 ?_
                          refine g_istore C [(6, .inl (x261 + (-1))), (0, .inr (.inr a0)), (1, .inl a1), (2, .inl a2), (3, .inl a3), (4, .inl r56), (5, .inl (-1)), (7, .inl x262)] (by decide) rfl dX11_water_168 ?_
                          have f308 : (2 : Int) ≤ (x262 + 1) ∧ (x262 + 1) ≤ (10 : Int) := ia_add f279 (il 1) (by decide) (by decide)
                          refine g_iinc C [(7, .inl (x262 + 1)), (6, .inl (x261 + (-1))), (0, .inr (.inr a0)), (1, .inl a1), (2, .inl a2), (3, .inl a3), (4, .inl r56), (5, .inl (-1))] 7 rfl (by decide) rfl dX11_water_170 ?_
                          refine g_goto C 89 (by decide) dX11_water_173 ?_
                          refine GW.sub [2, 3, 4, 5, 6, 7, 1, 0] rfl ?_
                          exact ih265 _ (by omega) (x261 + (-1)) (x262 + 1) h299 rfl O302 ((F268.call F286 rfl).call F303 rfl) (by omega) (iw f308 (by decide) (by decide)) (by omega)
                        · have f309 : (1 : Int) ≤ r298 ∧ r298 ≤ (1 : Int) := r_nl f304 q306
                          refine g_aload_n C rfl 0 rfl dX11_water_128 ?_
                          refine g_iload C 4 rfl dX11_water_129 ?_
                          refine g_iload C 6 rfl dX11_water_131 ?_
                          have e310 : Tg h299 a0 = 11 := (fxT F303 e294)
                          have e311 : Iv h299 a0 15 = 1 := ((fxI F303 e294 rfl).trans ((fxI F286 e272 rfl).trans ((fxI F268 e141 rfl).trans ((fxI F136 e93 rfl).trans p89))))
                          have p312 := (XInv_fx O285 F303 e294 rfl (XInv_fx O267 F286 e272 rfl (XInv_fx O135 F268 e141 rfl (XInv_fx O85 F136 e93 rfl p88))))
                          refine g_callI (st := []) (gc_V C lk_LandSurvey_293 (k_X11_leastFoot l D cy w z0 O302 e310 f68 (by omega) e311 p312) e310 rfl rfl rfl ⟨by decide, by decide⟩ (Nat.le_of_ble_eq_true rfl) dX11_water_133 ⟨(by decide), (by decide)⟩) (fun r313 h314 f316 K315 => ?_)
                          obtain ⟨O317, F318, f319⟩ := K315
                          refine g_if_lt C f319 163 (by decide) dX11_water_136 (fun q320 => ?_) (fun q321 => ?_)
                          · have f322 : (-2147483648 : Int) ≤ r313 ∧ r313 ≤ (-1 : Int) := r_lt f319 (il 0) q320 (by decide) (by decide)
                            refine g_iload C 6 rfl dX11_water_163 ?_
                            refine g_iload C 5 rfl dX11_water_165 ?_
                            refine g_iadd C dX11_water_167 ?_
                            refine g_istore C [(6, .inl (x261 + (-1))), (0, .inr (.inr a0)), (1, .inl a1), (2, .inl a2), (3, .inl a3), (4, .inl r56), (5, .inl (-1)), (7, .inl x262)] (by decide) rfl dX11_water_168 ?_
                            have f323 : (2 : Int) ≤ (x262 + 1) ∧ (x262 + 1) ≤ (10 : Int) := ia_add f279 (il 1) (by decide) (by decide)
                            refine g_iinc C [(7, .inl (x262 + 1)), (6, .inl (x261 + (-1))), (0, .inr (.inr a0)), (1, .inl a1), (2, .inl a2), (3, .inl a3), (4, .inl r56), (5, .inl (-1))] 7 rfl (by decide) rfl dX11_water_170 ?_
                            refine g_goto C 89 (by decide) dX11_water_173 ?_
                            refine GW.sub [2, 3, 4, 5, 6, 7, 1, 0] rfl ?_
                            exact ih265 _ (by omega) (x261 + (-1)) (x262 + 1) h314 rfl O317 (((F268.call F286 rfl).call F303 rfl).call F318 rfl) (by omega) (iw f323 (by decide) (by decide)) (by omega)
                          · have f324 : (0 : Int) ≤ r313 ∧ r313 ≤ (2147483647 : Int) := r_ge f319 (il 0) q321 (by decide) (by decide)
                            refine g_iload_n C rfl 3 rfl dX11_water_139 ?_
                            refine g_if_ne C (iw f78 (by decide) (by decide)) 154 (by decide) dX11_water_140 (fun q325 => ?_) (fun q326 => ?_)
                            · have f327 : (1 : Int) ≤ a3 ∧ a3 ≤ (1 : Int) := r_nl f78 q325
                              refine g_aload_n C rfl 0 rfl dX11_water_154 ?_
                              refine g_iload C 4 rfl dX11_water_155 ?_
                              refine g_iload C 6 rfl dX11_water_157 ?_
                              have e328 : Tg h314 a0 = 11 := (fxT F318 e310)
                              have e329 : Iv h314 a0 15 = 1 := ((fxI F318 e310 rfl).trans e311)
                              have p330 := (XInv_fx O302 F318 e310 rfl p312)
                              refine g_callI (st := []) (gc_V C lk_LandSurvey_296 (k_X11_greatestFoot l D cy w z0 O317 e328 f68 (by omega) e329 p330) e328 rfl rfl rfl ⟨by decide, by decide⟩ (Nat.le_of_ble_eq_true rfl) dX11_water_159 ⟨(by decide), (by decide)⟩) (fun r331 h332 f334 K333 => ?_)
                              obtain ⟨O335, F336, f337⟩ := K333
                              have p338 := (XInv_fx O317 F336 e328 rfl p330)
                              exact g_iret C hr rfl f337 ⟨O335, (((((((((Fx.rf (wr := wr_k_X11_water)).call F61 rfl).call F86 rfl).call F136 rfl).call F268 rfl).call F286 rfl).call F303 rfl).call F318 rfl).call F336 rfl), f337, p338⟩ (by decide) (by decide) dX11_water_162
                            · have f339 : (0 : Int) ≤ a3 ∧ a3 ≤ (0 : Int) := ii f78 (r_eq (il 0) q326) (by decide) (by decide)
                              refine g_aload_n C rfl 0 rfl dX11_water_143 ?_
                              refine g_iload C 4 rfl dX11_water_144 ?_
                              refine g_iload C 6 rfl dX11_water_146 ?_
                              have e340 : Tg h314 a0 = 11 := (fxT F318 e310)
                              have e341 : Iv h314 a0 15 = 1 := ((fxI F318 e310 rfl).trans e311)
                              have p342 := (XInv_fx O302 F318 e310 rfl p312)
                              refine g_callI (st := []) (gc_V C lk_LandSurvey_293 (k_X11_leastFoot l D cy w z0 O317 e340 f68 (by omega) e341 p342) e340 rfl rfl rfl ⟨by decide, by decide⟩ (Nat.le_of_ble_eq_true rfl) dX11_water_148 ⟨(by decide), (by decide)⟩) (fun r343 h344 f346 K345 => ?_)
                              obtain ⟨O347, F348, f349⟩ := K345
                              refine g_goto C 162 (by decide) dX11_water_151 ?_
                              have p350 := (XInv_fx O317 F348 e340 rfl p342)
                              exact g_iret C hr rfl f349 ⟨O347, (((((((((Fx.rf (wr := wr_k_X11_water)).call F61 rfl).call F86 rfl).call F136 rfl).call F268 rfl).call F286 rfl).call F303 rfl).call F318 rfl).call F348 rfl), f349, p350⟩ (by decide) (by decide) dX11_water_162
                exact L264 _ (v257 - 1) 1 h132 rfl O135 Fx.rf f260 (iw (il 1) (by decide) (by decide)) (by omega)
          · have f351 : (0 : Int) ≤ r131 ∧ r131 ≤ (0 : Int) := ii f137 (r_eq (il 0) q139) (by decide) (by decide)
            refine g_iconst C dX11_water_36 ?_
            have p352 := (XInv_fx O85 F136 e93 rfl p88)
            exact g_iret C hr rfl (iw (il (-1)) (by decide) (by decide)) ⟨O135, ((((Fx.rf (wr := wr_k_X11_water)).call F61 rfl).call F86 rfl).call F136 rfl), (iw (il (-1)) (by decide) (by decide)), p352⟩ (by decide) (by decide) dX11_water_37
def wr_k_X11_seam : List Nat := [401, 402, 403, 404, 405, 406, 1403, 1404, 1405, 1412, 1813, 1814, 1815, 1816, 1817, 1818, 2003, 2207, 2215, 2216, 2217, 200400, 200407, 200408, 2020000, 2220000, 7420000, 8020000, 8220400, 8420400, 8620000, 9020000, 9220400, 9420000, 9821400, 10020000, 1000000002, 1000001002, 1000010100, 1000011100]
set_option maxRecDepth 100000 in
set_option maxHeartbeats 4000000 in
theorem k_X11_seam (l : Launch) (D : va_G) (cy : Nat → ClassId) (w : Nat → Nat) (z0 : Nat)  {h : Hp} {a0 : Nat} {a1 : Int} {a2 : Int} {a3 : Int}  (O : Okh h) (ta0 : Tg h a0 = 11) (fa1 : (-2147483648) ≤ a1 ∧ a1 ≤ 2147483647) (fa2 : (-2147483648) ≤ a2 ∧ a2 ≤ 2147483647) (fa3 : (-2147483648) ≤ a3 ∧ a3 ≤ 2147483647) (P_XInv : XInv h a0) : MI l D cy w z0 yX11_seam cX11_seam 6 (some .int) 11 300 48 3216 [.inr (.inr a0), .inl a1, .inl a2, .inl a3] h (fun v h1 => Okh h1 ∧ Fx wr_k_X11_seam h h1 ∧ ((-2147483648) ≤ v ∧ v ≤ 2147483647) ∧ (XInv h1 a0)) := by
  obtain ⟨v1, e2⟩ : ∃ z, Rv h a0 3 = z := ⟨_, rfl⟩
  have t3 := ok_R O ta0 rE_11_3 e2
  have l4 := ok_L O ta0 rE_11_3 e2
  obtain ⟨v5, e6⟩ : ∃ z, Iv h a0 4 = z := ⟨_, rfl⟩
  have f7 := ok_I O ta0 rI_11_4 e6
  obtain ⟨v8, e9⟩ : ∃ z, Rv h a0 8 = z := ⟨_, rfl⟩
  have t10 := ok_R O ta0 rE_11_8 e9
  have l11 := ok_L O ta0 rE_11_8 e9
  obtain ⟨v12, e13⟩ : ∃ z, Iv h a0 9 = z := ⟨_, rfl⟩
  have f14 := ok_I O ta0 rI_11_9 e13
  obtain ⟨v15, e16⟩ : ∃ z, Rv h a0 11 = z := ⟨_, rfl⟩
  have t17 := ok_R O ta0 rE_11_11 e16
  have l18 := ok_L O ta0 rE_11_11 e16
  obtain ⟨v19, e20⟩ : ∃ z, Iv h a0 12 = z := ⟨_, rfl⟩
  have f21 := ok_I O ta0 rI_11_12 e20
  obtain ⟨v22, e23⟩ : ∃ z, Iv h a0 15 = z := ⟨_, rfl⟩
  have f24 := ok_I O ta0 rI_11_15 e23
  obtain ⟨v25, e26⟩ : ∃ z, Rv h a0 14 = z := ⟨_, rfl⟩
  have t27 := ok_R O ta0 rE_11_14 e26
  have l28 := ok_L O ta0 rE_11_14 e26
  obtain ⟨v29, e30⟩ : ∃ z, Rv h a0 13 = z := ⟨_, rfl⟩
  have t31 := ok_R O ta0 rE_11_13 e30
  obtain ⟨v32, e33⟩ : ∃ z, Rv h a0 6 = z := ⟨_, rfl⟩
  have t34 := ok_R O ta0 rE_11_6 e33
  obtain ⟨v35, e36⟩ : ∃ z, Rv h a0 7 = z := ⟨_, rfl⟩
  have t37 := ok_R O ta0 rE_11_7 e36
  have p49 := P_XInv
  unfold XInv at p49
  rw [e2, e6, e9, e13, e16, e20, e23, e26, e30, e33, e36] at p49
  obtain ⟨p38, p39, p40, p41, p42, p43, p44, p45, p46, p47, p48⟩ := p49
  obtain ⟨v50, e51⟩ : ∃ z, Iv h v29 3 = z := ⟨_, rfl⟩
  have f52 := ok_I O t31 rI_7_3 e51
  obtain ⟨v53, e54⟩ : ∃ z, Iv h v29 4 = z := ⟨_, rfl⟩
  have f55 := ok_I O t31 rI_7_4 e54
  rw [e51] at p44
  rw [e54] at p45
  refine hm_go (by decide +kernel) (Nat.le_of_ble_eq_true rfl) (fun p e s m below meth c C hr hn => ?_)
  refine g_iload_n C rfl 2 rfl dX11_seam_0 ?_
  refine g_if_lt C fa2 18 (by decide) dX11_seam_1 (fun q56 => ?_) (fun q57 => ?_)
  · have f58 : (-2147483648 : Int) ≤ a2 ∧ a2 ≤ (-1 : Int) := r_lt fa2 (il 0) q56 (by decide) (by decide)
    refine g_iconst C dX11_seam_18 ?_
    exact g_iret C hr rfl (iw (il (-1)) (by decide) (by decide)) ⟨O, Fx.rf, (iw (il (-1)) (by decide) (by decide)), P_XInv⟩ (by decide) (by decide) dX11_seam_19
  · have f59 : (0 : Int) ≤ a2 ∧ a2 ≤ (2147483647 : Int) := r_ge fa2 (il 0) q57 (by decide) (by decide)
    refine g_iload_n C rfl 2 rfl dX11_seam_4 ?_
    refine g_iconst C dX11_seam_5 ?_
    refine g_icmp_ge C (iw f59 (by decide) (by decide)) (iw (il 4) (by decide) (by decide)) 18 (by decide) dX11_seam_6 (fun q60 => ?_) (fun q61 => ?_)
    · have f62 : (4 : Int) ≤ a2 ∧ a2 ≤ (2147483647 : Int) := r_ge f59 (il 4) q60 (by decide) (by decide)
      refine g_iconst C dX11_seam_18 ?_
      exact g_iret C hr rfl (iw (il (-1)) (by decide) (by decide)) ⟨O, Fx.rf, (iw (il (-1)) (by decide) (by decide)), P_XInv⟩ (by decide) (by decide) dX11_seam_19
    · have f63 : (0 : Int) ≤ a2 ∧ a2 ≤ (3 : Int) := r_lt f59 (il 4) q61 (by decide) (by decide)
      refine g_iload_n C rfl 3 rfl dX11_seam_9 ?_
      refine g_if_lt C fa3 18 (by decide) dX11_seam_10 (fun q64 => ?_) (fun q65 => ?_)
      · have f66 : (-2147483648 : Int) ≤ a3 ∧ a3 ≤ (-1 : Int) := r_lt fa3 (il 0) q64 (by decide) (by decide)
        refine g_iconst C dX11_seam_18 ?_
        exact g_iret C hr rfl (iw (il (-1)) (by decide) (by decide)) ⟨O, Fx.rf, (iw (il (-1)) (by decide) (by decide)), P_XInv⟩ (by decide) (by decide) dX11_seam_19
      · have f67 : (0 : Int) ≤ a3 ∧ a3 ≤ (2147483647 : Int) := r_ge fa3 (il 0) q65 (by decide) (by decide)
        refine g_iload_n C rfl 3 rfl dX11_seam_13 ?_
        refine g_iconst C dX11_seam_14 ?_
        refine g_icmp_le C (iw f67 (by decide) (by decide)) (iw (il 1) (by decide) (by decide)) 20 (by decide) dX11_seam_15 (fun q68 => ?_) (fun q69 => ?_)
        · have f70 : (0 : Int) ≤ a3 ∧ a3 ≤ (1 : Int) := r_le f67 (il 1) q68 (by decide) (by decide)
          refine g_aload_n C rfl 0 rfl dX11_seam_20 ?_
          refine g_callI (st := []) (gc_V C lk_LandSurvey_253 (k_X11_prepare l D cy w z0 O ta0 P_XInv) ta0 rfl rfl rfl ⟨by decide, by decide⟩ (Nat.le_of_ble_eq_true rfl) dX11_seam_21 ⟨(by decide), (by decide)⟩) (fun r71 h72 f74 K73 => ?_)
          obtain ⟨O75, F76, f77, p78, p79, p80⟩ := K73
          obtain ⟨v81, e82⟩ : ∃ z, Rv h72 a0 17 = z := ⟨_, rfl⟩
          have e83 : Tg h72 a0 = 11 := (fxT F76 ta0)
          rw [e82] at p80
          have e84 : Rv h72 a0 3 = v1 := ((fxR F76 ta0 rfl).trans e2)
          have e85 : Iv h72 a0 4 = v5 := ((fxI F76 ta0 rfl).trans e6)
          have e86 : Rv h72 a0 8 = v8 := ((fxR F76 ta0 rfl).trans e9)
          have e87 : Iv h72 a0 9 = v12 := ((fxI F76 ta0 rfl).trans e13)
          have e88 : Rv h72 a0 11 = v15 := ((fxR F76 ta0 rfl).trans e16)
          have e89 : Iv h72 a0 12 = v19 := ((fxI F76 ta0 rfl).trans e20)
          have e90 : Rv h72 a0 14 = v25 := ((fxR F76 ta0 rfl).trans e26)
          have e91 : Rv h72 a0 13 = v29 := ((fxR F76 ta0 rfl).trans e30)
          have e92 : Rv h72 a0 6 = v32 := ((fxR F76 ta0 rfl).trans e33)
          obtain ⟨v93, e94⟩ : ∃ z, Rv h72 a0 7 = z := ⟨_, rfl⟩
          have t95 := ok_R O75 e83 rE_11_7 e94
          have p107 := p78
          unfold XInv at p107
          rw [e84, e85, e86, e87, e88, e89, p79, e90, e91, e92, e94] at p107
          obtain ⟨p96, p97, p98, p99, p100, p101, p102, p103, p104, p105, p106⟩ := p107
          obtain ⟨v108, e109⟩ : ∃ z, Iv h72 v29 3 = z := ⟨_, rfl⟩
          have e110 : Tg h72 v29 = 7 := (fxT F76 t31)
          have f111 := ok_I O75 e110 rI_7_3 e109
          obtain ⟨v112, e113⟩ : ∃ z, Iv h72 v29 4 = z := ⟨_, rfl⟩
          have f114 := ok_I O75 e110 rI_7_4 e113
          rw [e109] at p102
          rw [e113] at p103
          have p115 := p99 (by omega)
          refine g_if_eq C (iw f77 (by decide) (by decide)) 42 (by decide) dX11_seam_24 (fun q116 => ?_) (fun q117 => ?_)
          · have f118 : (0 : Int) ≤ r71 ∧ r71 ≤ (0 : Int) := ii f77 (r_eq (il 0) q116) (by decide) (by decide)
            refine g_iconst C dX11_seam_42 ?_
            exact g_iret C hr rfl (iw (il (-1)) (by decide) (by decide)) ⟨O75, ((Fx.rf (wr := wr_k_X11_seam)).call F76 rfl), (iw (il (-1)) (by decide) (by decide)), p78⟩ (by decide) (by decide) dX11_seam_43
          · have f119 : (1 : Int) ≤ r71 ∧ r71 ≤ (1 : Int) := r_nl f77 q117
            refine g_aload_n C rfl 0 rfl dX11_seam_27 ?_
            refine g_iload_n C rfl 1 rfl dX11_seam_28 ?_
            refine g_callI (st := []) (gc_V C lk_LandSurvey_272 (k_X11_isRock l D cy w z0 O75 e83 fa1) e83 rfl rfl rfl ⟨by decide, by decide⟩ (Nat.le_of_ble_eq_true rfl) dX11_seam_29 ⟨(by decide), (by decide)⟩) (fun r120 h121 f123 K122 => ?_)
            obtain ⟨O124, F125, f126, p127⟩ := K122
            refine g_if_eq C (iw f126 (by decide) (by decide)) 42 (by decide) dX11_seam_32 (fun q128 => ?_) (fun q129 => ?_)
            · have f130 : (0 : Int) ≤ r120 ∧ r120 ≤ (0 : Int) := ii f126 (r_eq (il 0) q128) (by decide) (by decide)
              refine g_iconst C dX11_seam_42 ?_
              have p131 := (XInv_fx O75 F125 e83 rfl p78)
              exact g_iret C hr rfl (iw (il (-1)) (by decide) (by decide)) ⟨O124, (((Fx.rf (wr := wr_k_X11_seam)).call F76 rfl).call F125 rfl), (iw (il (-1)) (by decide) (by decide)), p131⟩ (by decide) (by decide) dX11_seam_43
            · have f132 : (1 : Int) ≤ r120 ∧ r120 ≤ (1 : Int) := r_nl f126 q129
              refine g_aload_n C rfl 0 rfl dX11_seam_35 ?_
              have e133 : Tg h121 a0 = 11 := (fxT F125 e83)
              have e134 : Iv h121 a0 15 = 1 := ((fxI F125 e83 rfl).trans p79)
              have p135 := (XInv_fx O75 F125 e83 rfl p78)
              refine g_callI (st := []) (gc_V C lk_LandSurvey_275 (k_X11_allKeptKnown l D cy w z0 O124 e133 e134 p135) e133 rfl rfl rfl ⟨by decide, by decide⟩ (Nat.le_of_ble_eq_true rfl) dX11_seam_36 ⟨(by decide), (by decide)⟩) (fun r136 h137 f139 K138 => ?_)
              obtain ⟨O140, F141, f142⟩ := K138
              refine g_if_ne C (iw f142 (by decide) (by decide)) 44 (by decide) dX11_seam_39 (fun q143 => ?_) (fun q144 => ?_)
              · have f145 : (1 : Int) ≤ r136 ∧ r136 ≤ (1 : Int) := r_nl f142 q143
                refine g_iconst C dX11_seam_44 ?_
                refine g_istore C [(4, .inl 0), (0, .inr (.inr a0)), (1, .inl a1), (2, .inl a2), (3, .inl a3)] (by decide) rfl dX11_seam_45 ?_
                refine g_iconst C dX11_seam_47 ?_
                refine g_istore C [(5, .inl 0), (4, .inl 0), (0, .inr (.inr a0)), (1, .inl a1), (2, .inl a2), (3, .inl a3)] (by decide) rfl dX11_seam_48 ?_
                refine GW.sub [2, 3, 4, 5, 1, 0] rfl ?_
                -- loop at 50
                have L149 : ∀ (μ : Nat) (x146 : Int) (x147 : Int) (h148 : Hp), (96 - x147).toNat = μ → Okh h148 → Fx [] h137 h148 → ((-2147483648 : Int) ≤ x146 ∧ x146 ≤ (2147483647 : Int)) → ((0 : Int) ≤ x147 ∧ x147 ≤ (96 : Int)) → GW p l e (rmm 11 300 48 3216) s m (List.map toV [.inr (.inr a0), .inl a1, .inl a2, .inl a3]).toArray below meth c D cy z0 6 (MQ below (QI D cy z0 (fun v h1 => Okh h1 ∧ Fx wr_k_X11_seam h h1 ∧ ((-2147483648) ≤ v ∧ v ≤ 2147483647) ∧ (XInv h1 a0))) (List.map toV [.inr (.inr a0), .inl a1, .inl a2, .inl a3]).toArray s 48 3216 (Aof z0)) 50 [(0, .inr (.inr a0)), (1, .inl a1), (2, .inl a2), (3, .inl a3), (4, .inl x146), (5, .inl x147)] [] h148 48 3216 := by
                  intro μ
                  induction μ using Nat.strongRecOn with
                  | ind μ ih150 =>
                    intro x146 x147 h148 hm151 O152 F153 f154 f155
                    refine g_iload C 5 rfl dX11_seam_50 ?_
                    refine g_bipush C (by decide) dX11_seam_52 ?_
                    refine g_icmp_ge C (iw f155 (by decide) (by decide)) (iw (il 96) (by decide) (by decide)) 103 (by decide) dX11_seam_54 (fun q156 => ?_) (fun q157 => ?_)
                    · have f158 : (96 : Int) ≤ x147 ∧ x147 ≤ (96 : Int) := r_ge f155 (il 96) q156 (by decide) (by decide)
                      refine g_iload C 4 rfl dX11_seam_103 ?_
                      have e159 : Tg h137 a0 = 11 := (fxT F141 e133)
                      have p160 := (XInv_fx O140 F153 e159 rfl (XInv_fx O124 F141 e133 rfl p135))
                      exact g_iret C hr rfl f154 ⟨O152, (((((Fx.rf (wr := wr_k_X11_seam)).call F76 rfl).call F125 rfl).call F141 rfl).call F153 rfl), f154, p160⟩ (by decide) (by decide) dX11_seam_105
                    · have f161 : (0 : Int) ≤ x147 ∧ x147 ≤ (95 : Int) := r_lt f155 (il 96) q157 (by decide) (by decide)
                      refine g_aload_n C rfl 0 rfl dX11_seam_57 ?_
                      have e162 : Tg h148 a0 = 11 := (fxT F153 (fxT F141 e133))
                      obtain ⟨v163, e164⟩ : ∃ z, Rv h148 a0 2 = z := ⟨_, rfl⟩
                      have t165 := ok_R O152 e162 rE_11_2 e164
                      refine gf_R C fk_LandSurvey_16 rfl e162 e164 dX11_seam_58 ?_
                      obtain ⟨v166, e167⟩ : ∃ z, Rv h148 v163 3 = z := ⟨_, rfl⟩
                      have t168 := ok_R O152 t165 rE_3_3 e167
                      have l169 := ok_L O152 t165 rE_3_3 e167
                      refine gf_R C fk_LandSurvey_99 rfl t165 e167 dX11_seam_61 ?_
                      refine g_iload C 5 rfl dX11_seam_64 ?_
                      obtain ⟨v170, e171⟩ : ∃ z, Iv h148 v166 x147.toNat = z := ⟨_, rfl⟩
                      have f172 := ok_Ia O152 t168 ar_15100 rI_15100_0 e171
                      refine g_iald C t168 rfl l169 (ix f161 (by decide) (by decide)) e171 dX11_seam_66 ?_
                      refine g_iload_n C rfl 2 rfl dX11_seam_67 ?_
                      refine g_icmp_ne C (iw f172 (by decide) (by decide)) (iw f63 (by decide) (by decide)) 97 (by decide) dX11_seam_68 (fun q173 => ?_) (fun q174 => ?_)
                      · have f175 : (1 : Int) ≤ (x147 + 1) ∧ (x147 + 1) ≤ (96 : Int) := ia_add f161 (il 1) (by decide) (by decide)
                        refine g_iinc C [(5, .inl (x147 + 1)), (0, .inr (.inr a0)), (1, .inl a1), (2, .inl a2), (3, .inl a3), (4, .inl x146)] 5 rfl (by decide) rfl dX11_seam_97 ?_
                        refine g_goto C 50 (by decide) dX11_seam_100 ?_
                        refine GW.sub [1, 2, 3, 4, 5, 0] rfl ?_
                        exact ih150 _ (by omega) x146 (x147 + 1) h148 rfl O152 F153 f154 (iw f175 (by decide) (by decide))
                      · have f176 : (0 : Int) ≤ v170 ∧ v170 ≤ (3 : Int) := ii f172 (r_eq f63 q174) (by decide) (by decide)
                        refine g_iload C 4 rfl dX11_seam_71 ?_
                        refine g_iload_n C rfl 3 rfl dX11_seam_73 ?_
                        refine g_if_ne C (iw f70 (by decide) (by decide)) 87 (by decide) dX11_seam_74 (fun q177 => ?_) (fun q178 => ?_)
                        · have f179 : (1 : Int) ≤ a3 ∧ a3 ≤ (1 : Int) := r_nl f70 q177
                          refine g_aload_n C rfl 0 rfl dX11_seam_87 ?_
                          refine g_iload C 5 rfl dX11_seam_88 ?_
                          refine g_iload_n C rfl 1 rfl dX11_seam_90 ?_
                          have e180 : Tg h137 a0 = 11 := (fxT F141 e133)
                          have e181 : Iv h148 a0 15 = 1 := ((fxI F153 e180 rfl).trans ((fxI F141 e133 rfl).trans e134))
                          have p182 := (XInv_fx O140 F153 e180 rfl (XInv_fx O124 F141 e133 rfl p135))
                          refine g_callI (st := [.inl x146]) (gc_V C lk_LandSurvey_302 (k_X11_perhapsThick l D cy w z0 O152 e162 f161 (by omega) e181 p182) e162 rfl rfl rfl ⟨by decide, by decide⟩ (Nat.le_of_ble_eq_true rfl) dX11_seam_91 ⟨(by decide), (by decide)⟩) (fun r183 h184 f186 K185 => ?_)
                          obtain ⟨O187, F188, f189⟩ := K185
                          have f190 : (-2147483648 : Int) ≤ (w32 (x146 + r183)) ∧ (w32 (x146 + r183)) ≤ (2147483647 : Int) := w32_inR _
                          refine g_iaddW C dX11_seam_94 ?_
                          refine g_istore C [(4, .inl (w32 (x146 + r183))), (0, .inr (.inr a0)), (1, .inl a1), (2, .inl a2), (3, .inl a3), (5, .inl x147)] (by decide) rfl dX11_seam_95 ?_
                          have f191 : (1 : Int) ≤ (x147 + 1) ∧ (x147 + 1) ≤ (96 : Int) := ia_add f161 (il 1) (by decide) (by decide)
                          refine g_iinc C [(5, .inl (x147 + 1)), (4, .inl (w32 (x146 + r183))), (0, .inr (.inr a0)), (1, .inl a1), (2, .inl a2), (3, .inl a3)] 5 rfl (by decide) rfl dX11_seam_97 ?_
                          refine g_goto C 50 (by decide) dX11_seam_100 ?_
                          refine GW.sub [2, 3, 4, 5, 1, 0] rfl ?_
                          exact ih150 _ (by omega) (w32 (x146 + r183)) (x147 + 1) h184 rfl O187 (F153.call F188 rfl) f190 (iw f191 (by decide) (by decide))
                        · have f192 : (0 : Int) ≤ a3 ∧ a3 ≤ (0 : Int) := ii f70 (r_eq (il 0) q178) (by decide) (by decide)
                          refine g_aload_n C rfl 0 rfl dX11_seam_77 ?_
                          refine g_iload C 5 rfl dX11_seam_78 ?_
                          refine g_iload_n C rfl 1 rfl dX11_seam_80 ?_
                          have e193 : Tg h137 a0 = 11 := (fxT F141 e133)
                          have e194 : Iv h148 a0 15 = 1 := ((fxI F153 e193 rfl).trans ((fxI F141 e133 rfl).trans e134))
                          have p195 := (XInv_fx O140 F153 e193 rfl (XInv_fx O124 F141 e133 rfl p135))
                          refine g_callI (st := [.inl x146]) (gc_V C lk_LandSurvey_299 (k_X11_surelyThick l D cy w z0 O152 e162 f161 (by omega) e194 p195) e162 rfl rfl rfl ⟨by decide, by decide⟩ (Nat.le_of_ble_eq_true rfl) dX11_seam_81 ⟨(by decide), (by decide)⟩) (fun r196 h197 f199 K198 => ?_)
                          obtain ⟨O200, F201, f202⟩ := K198
                          refine g_goto C 94 (by decide) dX11_seam_84 ?_
                          have f203 : (-2147483648 : Int) ≤ (w32 (x146 + r196)) ∧ (w32 (x146 + r196)) ≤ (2147483647 : Int) := w32_inR _
                          refine g_iaddW C dX11_seam_94 ?_
                          refine g_istore C [(4, .inl (w32 (x146 + r196))), (0, .inr (.inr a0)), (1, .inl a1), (2, .inl a2), (3, .inl a3), (5, .inl x147)] (by decide) rfl dX11_seam_95 ?_
                          have f204 : (1 : Int) ≤ (x147 + 1) ∧ (x147 + 1) ≤ (96 : Int) := ia_add f161 (il 1) (by decide) (by decide)
                          refine g_iinc C [(5, .inl (x147 + 1)), (4, .inl (w32 (x146 + r196))), (0, .inr (.inr a0)), (1, .inl a1), (2, .inl a2), (3, .inl a3)] 5 rfl (by decide) rfl dX11_seam_97 ?_
                          refine g_goto C 50 (by decide) dX11_seam_100 ?_
                          refine GW.sub [2, 3, 4, 5, 1, 0] rfl ?_
                          exact ih150 _ (by omega) (w32 (x146 + r196)) (x147 + 1) h197 rfl O200 (F153.call F201 rfl) f203 (iw f204 (by decide) (by decide))
                exact L149 _ 0 0 h137 rfl O140 Fx.rf (iw (il 0) (by decide) (by decide)) (iw (il 0) (by decide) (by decide))
              · have f205 : (0 : Int) ≤ r136 ∧ r136 ≤ (0 : Int) := ii f142 (r_eq (il 0) q144) (by decide) (by decide)
                refine g_iconst C dX11_seam_42 ?_
                have p206 := (XInv_fx O124 F141 e133 rfl p135)
                exact g_iret C hr rfl (iw (il (-1)) (by decide) (by decide)) ⟨O140, ((((Fx.rf (wr := wr_k_X11_seam)).call F76 rfl).call F125 rfl).call F141 rfl), (iw (il (-1)) (by decide) (by decide)), p206⟩ (by decide) (by decide) dX11_seam_43
        · have f207 : (2 : Int) ≤ a3 ∧ a3 ≤ (2147483647 : Int) := r_gt f67 (il 1) q69 (by decide) (by decide)
          refine g_iconst C dX11_seam_18 ?_
          exact g_iret C hr rfl (iw (il (-1)) (by decide) (by decide)) ⟨O, Fx.rf, (iw (il (-1)) (by decide) (by decide)), P_XInv⟩ (by decide) (by decide) dX11_seam_19
def wr_k_X11_drawn : List Nat := []
set_option maxRecDepth 100000 in
set_option maxHeartbeats 4000000 in
theorem k_X11_drawn (l : Launch) (D : va_G) (cy : Nat → ClassId) (w : Nat → Nat) (z0 : Nat)  {h : Hp} {a0 : Nat} {a1 : Int} {a2 : Int} {a3 : Int}  (O : Okh h) (ta0 : Tg h a0 = 11) (fa1 : (-2147483648) ≤ a1 ∧ a1 ≤ 2147483647) (fa2 : (-2147483648) ≤ a2 ∧ a2 ≤ 2147483647) (fa3 : (-2147483648) ≤ a3 ∧ a3 ≤ 2147483647) (P_XInv : XInv h a0) : MI l D cy w z0 yX11_drawn cX11_drawn 5 (some .int) 1 21 0 0 [.inr (.inr a0), .inl a1, .inl a2, .inl a3] h (fun v h1 => Okh h1 ∧ Fx wr_k_X11_drawn h h1 ∧ ((-2147483648) ≤ v ∧ v ≤ 2147483647) ∧ (XInv h1 a0)) := by
  obtain ⟨v1, e2⟩ : ∃ z, Rv h a0 3 = z := ⟨_, rfl⟩
  have t3 := ok_R O ta0 rE_11_3 e2
  have l4 := ok_L O ta0 rE_11_3 e2
  obtain ⟨v5, e6⟩ : ∃ z, Iv h a0 4 = z := ⟨_, rfl⟩
  have f7 := ok_I O ta0 rI_11_4 e6
  obtain ⟨v8, e9⟩ : ∃ z, Rv h a0 8 = z := ⟨_, rfl⟩
  have t10 := ok_R O ta0 rE_11_8 e9
  have l11 := ok_L O ta0 rE_11_8 e9
  obtain ⟨v12, e13⟩ : ∃ z, Iv h a0 9 = z := ⟨_, rfl⟩
  have f14 := ok_I O ta0 rI_11_9 e13
  obtain ⟨v15, e16⟩ : ∃ z, Rv h a0 11 = z := ⟨_, rfl⟩
  have t17 := ok_R O ta0 rE_11_11 e16
  have l18 := ok_L O ta0 rE_11_11 e16
  obtain ⟨v19, e20⟩ : ∃ z, Iv h a0 12 = z := ⟨_, rfl⟩
  have f21 := ok_I O ta0 rI_11_12 e20
  obtain ⟨v22, e23⟩ : ∃ z, Iv h a0 15 = z := ⟨_, rfl⟩
  have f24 := ok_I O ta0 rI_11_15 e23
  obtain ⟨v25, e26⟩ : ∃ z, Rv h a0 14 = z := ⟨_, rfl⟩
  have t27 := ok_R O ta0 rE_11_14 e26
  have l28 := ok_L O ta0 rE_11_14 e26
  obtain ⟨v29, e30⟩ : ∃ z, Rv h a0 13 = z := ⟨_, rfl⟩
  have t31 := ok_R O ta0 rE_11_13 e30
  obtain ⟨v32, e33⟩ : ∃ z, Rv h a0 6 = z := ⟨_, rfl⟩
  have t34 := ok_R O ta0 rE_11_6 e33
  obtain ⟨v35, e36⟩ : ∃ z, Rv h a0 7 = z := ⟨_, rfl⟩
  have t37 := ok_R O ta0 rE_11_7 e36
  have p49 := P_XInv
  unfold XInv at p49
  rw [e2, e6, e9, e13, e16, e20, e23, e26, e30, e33, e36] at p49
  obtain ⟨p38, p39, p40, p41, p42, p43, p44, p45, p46, p47, p48⟩ := p49
  obtain ⟨v50, e51⟩ : ∃ z, Iv h v29 3 = z := ⟨_, rfl⟩
  have f52 := ok_I O t31 rI_7_3 e51
  obtain ⟨v53, e54⟩ : ∃ z, Iv h v29 4 = z := ⟨_, rfl⟩
  have f55 := ok_I O t31 rI_7_4 e54
  rw [e51] at p44
  rw [e54] at p45
  refine hm_go (by decide +kernel) (Nat.le_of_ble_eq_true rfl) (fun p e s m below meth c C hr hn => ?_)
  refine g_iload_n C rfl 2 rfl dX11_drawn_0 ?_
  refine g_iload_n C rfl 3 rfl dX11_drawn_1 ?_
  refine g_callI (st := []) (gc_S C lk_LandSurvey_85 (k_X11_cellAt l D cy w z0 O fa2 fa3) rfl ⟨by decide, by decide⟩ (Nat.le_of_ble_eq_true rfl) dX11_drawn_2 ⟨(by decide), (by decide)⟩) (fun r56 h57 f59 K58 => ?_)
  obtain ⟨O60, F61, f62, p63⟩ := K58
  refine g_istore C [(4, .inl r56), (0, .inr (.inr a0)), (1, .inl a1), (2, .inl a2), (3, .inl a3)] (by decide) rfl dX11_drawn_5 ?_
  refine g_iload C 0 rfl dX11_drawn_7 ?_
  refine g_iconst C dX11_drawn_9 ?_
  refine g_icmp_eq C (iw f62 (by decide) (by decide)) (iw (il (-1)) (by decide) (by decide)) 21 (by decide) dX11_drawn_10 (fun q64 => ?_) (fun q65 => ?_)
  · have f66 : (-1 : Int) ≤ r56 ∧ r56 ≤ (-1 : Int) := ii f62 (r_eq (il (-1)) q64) (by decide) (by decide)
    refine g_iconst C dX11_drawn_21 ?_
    refine g_goto C 37 (by decide) dX11_drawn_22 ?_
    have p67 := (XInv_fx O F61 ta0 rfl P_XInv)
    exact g_iret C hr rfl (iw (il (-1)) (by decide) (by decide)) ⟨O60, ((Fx.rf (wr := wr_k_X11_drawn)).call F61 rfl), (iw (il (-1)) (by decide) (by decide)), p67⟩ (by decide) (by decide) dX11_drawn_37
  · have f68 : (0 : Int) ≤ r56 ∧ r56 ≤ (95 : Int) := r_nl f62 q65
    refine g_aload_n C rfl 1 rfl dX11_drawn_13 ?_
    refine g_iload_n C rfl 2 rfl dX11_drawn_14 ?_
    have e69 : Tg h57 a0 = 11 := (fxT F61 ta0)
    refine g_callI (st := []) (gc_V C lk_LandSurvey_312 (k_X11_isSheet l D cy w z0 O60 e69 fa1) e69 rfl rfl rfl ⟨by decide, by decide⟩ (Nat.le_of_ble_eq_true rfl) dX11_drawn_15 ⟨(by decide), (by decide)⟩) (fun r70 h71 f73 K72 => ?_)
    obtain ⟨O74, F75, f76, p77⟩ := K72
    have e78 : Iv h57 a0 12 = v19 := ((fxI F61 ta0 rfl).trans e20)
    refine g_if_ne C (iw f76 (by decide) (by decide)) 25 (by decide) dX11_drawn_18 (fun q79 => ?_) (fun q80 => ?_)
    · have f81 : (1 : Int) ≤ r70 ∧ r70 ≤ (1 : Int) := r_nl f76 q79
      refine g_aload_n C rfl 1 rfl dX11_drawn_25 ?_
      have e82 : Tg h71 a0 = 11 := (fxT F75 e69)
      have e83 : Rv h71 a0 11 = v15 := ((fxR F75 e69 rfl).trans ((fxR F61 ta0 rfl).trans e16))
      refine gf_R C fk_LandSurvey_55 rfl e82 e83 dX11_drawn_26 ?_
      refine g_iload_n C rfl 2 rfl dX11_drawn_29 ?_
      have e84 : Tg h71 v15 = 48106 := (fxT F75 (fxT F61 t17))
      have e85 : Tg h57 v15 = 48106 := (fxT F61 t17)
      have e86 : Ln h71 v15 = 10 := ((fxL F75 e85).trans ((fxL F61 t17).trans l18))
      obtain ⟨v87, e88⟩ : ∃ z, Rv h71 v15 a1.toNat = z := ⟨_, rfl⟩
      refine g_aald (t := 6) C e84 rfl (by decide) rfl e86 (by omega) e88 dX11_drawn_30 ?_
      have p89 := (NN_fx F75 e85 ar_48106 rfl (NN_fx F61 t17 ar_48106 rfl p40))
      have q90 := nn_get p89 (by omega) e88
      have t91 := ok_Na O74 e84 ar_48106 rE_48106_0 e88 q90
      obtain ⟨v92, e93⟩ : ∃ z, Rv h71 v87 0 = z := ⟨_, rfl⟩
      have t94 := ok_R O74 t91 rE_8_0 e93
      have l95 := ok_L O74 t91 rE_8_0 e93
      refine gf_R C fk_LandSurvey_309 rfl t91 e93 dX11_drawn_31 ?_
      refine g_iload C 0 rfl dX11_drawn_34 ?_
      obtain ⟨v96, e97⟩ : ∃ z, Iv h71 v92 r56.toNat = z := ⟨_, rfl⟩
      have f98 := ok_Ia O74 t94 ar_44100 rI_44100_0 e97
      refine g_iald C t94 rfl l95 (ix f68 (by decide) (by decide)) e97 dX11_drawn_36 ?_
      have p99 := (XInv_fx O60 F75 e69 rfl (XInv_fx O F61 ta0 rfl P_XInv))
      exact g_iret C hr rfl f98 ⟨O74, (((Fx.rf (wr := wr_k_X11_drawn)).call F61 rfl).call F75 rfl), f98, p99⟩ (by decide) (by decide) dX11_drawn_37
    · have f100 : (0 : Int) ≤ r70 ∧ r70 ≤ (0 : Int) := ii f76 (r_eq (il 0) q80) (by decide) (by decide)
      refine g_iconst C dX11_drawn_21 ?_
      refine g_goto C 37 (by decide) dX11_drawn_22 ?_
      have p101 := (XInv_fx O60 F75 e69 rfl (XInv_fx O F61 ta0 rfl P_XInv))
      exact g_iret C hr rfl (iw (il (-1)) (by decide) (by decide)) ⟨O74, (((Fx.rf (wr := wr_k_X11_drawn)).call F61 rfl).call F75 rfl), (iw (il (-1)) (by decide) (by decide)), p101⟩ (by decide) (by decide) dX11_drawn_37
def wr_k_X11_quarrel : List Nat := []
set_option maxRecDepth 100000 in
set_option maxHeartbeats 4000000 in
theorem k_X11_quarrel (l : Launch) (D : va_G) (cy : Nat → ClassId) (w : Nat → Nat) (z0 : Nat)  {h : Hp} {a0 : Nat} {a1 : Int} {a2 : Int}  (O : Okh h) (ta0 : Tg h a0 = 11) (fa1 : (-2147483648) ≤ a1 ∧ a1 ≤ 2147483647) (fa2 : (-2147483648) ≤ a2 ∧ a2 ≤ 2147483647) (P_XInv : XInv h a0) : MI l D cy w z0 yX11_quarrel cX11_quarrel 7 (some .int) 1 21 0 0 [.inr (.inr a0), .inl a1, .inl a2] h (fun v h1 => Okh h1 ∧ Fx wr_k_X11_quarrel h h1 ∧ ((-2147483648) ≤ v ∧ v ≤ 2147483647) ∧ (XInv h1 a0)) := by
  obtain ⟨v1, e2⟩ : ∃ z, Rv h a0 3 = z := ⟨_, rfl⟩
  have t3 := ok_R O ta0 rE_11_3 e2
  have l4 := ok_L O ta0 rE_11_3 e2
  obtain ⟨v5, e6⟩ : ∃ z, Iv h a0 4 = z := ⟨_, rfl⟩
  have f7 := ok_I O ta0 rI_11_4 e6
  obtain ⟨v8, e9⟩ : ∃ z, Rv h a0 8 = z := ⟨_, rfl⟩
  have t10 := ok_R O ta0 rE_11_8 e9
  have l11 := ok_L O ta0 rE_11_8 e9
  obtain ⟨v12, e13⟩ : ∃ z, Iv h a0 9 = z := ⟨_, rfl⟩
  have f14 := ok_I O ta0 rI_11_9 e13
  obtain ⟨v15, e16⟩ : ∃ z, Rv h a0 11 = z := ⟨_, rfl⟩
  have t17 := ok_R O ta0 rE_11_11 e16
  have l18 := ok_L O ta0 rE_11_11 e16
  obtain ⟨v19, e20⟩ : ∃ z, Iv h a0 12 = z := ⟨_, rfl⟩
  have f21 := ok_I O ta0 rI_11_12 e20
  obtain ⟨v22, e23⟩ : ∃ z, Iv h a0 15 = z := ⟨_, rfl⟩
  have f24 := ok_I O ta0 rI_11_15 e23
  obtain ⟨v25, e26⟩ : ∃ z, Rv h a0 14 = z := ⟨_, rfl⟩
  have t27 := ok_R O ta0 rE_11_14 e26
  have l28 := ok_L O ta0 rE_11_14 e26
  obtain ⟨v29, e30⟩ : ∃ z, Rv h a0 13 = z := ⟨_, rfl⟩
  have t31 := ok_R O ta0 rE_11_13 e30
  obtain ⟨v32, e33⟩ : ∃ z, Rv h a0 6 = z := ⟨_, rfl⟩
  have t34 := ok_R O ta0 rE_11_6 e33
  obtain ⟨v35, e36⟩ : ∃ z, Rv h a0 7 = z := ⟨_, rfl⟩
  have t37 := ok_R O ta0 rE_11_7 e36
  have p49 := P_XInv
  unfold XInv at p49
  rw [e2, e6, e9, e13, e16, e20, e23, e26, e30, e33, e36] at p49
  obtain ⟨p38, p39, p40, p41, p42, p43, p44, p45, p46, p47, p48⟩ := p49
  obtain ⟨v50, e51⟩ : ∃ z, Iv h v29 3 = z := ⟨_, rfl⟩
  have f52 := ok_I O t31 rI_7_3 e51
  obtain ⟨v53, e54⟩ : ∃ z, Iv h v29 4 = z := ⟨_, rfl⟩
  have f55 := ok_I O t31 rI_7_4 e54
  rw [e51] at p44
  rw [e54] at p45
  refine hm_go (by decide +kernel) (Nat.le_of_ble_eq_true rfl) (fun p e s m below meth c C hr hn => ?_)
  refine g_aload_n C rfl 0 rfl dX11_quarrel_0 ?_
  refine g_iload_n C rfl 1 rfl dX11_quarrel_1 ?_
  refine g_callI (st := []) (gc_V C lk_LandSurvey_312 (k_X11_isSheet l D cy w z0 O ta0 fa1) ta0 rfl rfl rfl ⟨by decide, by decide⟩ (Nat.le_of_ble_eq_true rfl) dX11_quarrel_2 ⟨(by decide), (by decide)⟩) (fun r56 h57 f59 K58 => ?_)
  obtain ⟨O60, F61, f62, p63⟩ := K58
  refine g_if_eq C (iw f62 (by decide) (by decide)) 16 (by decide) dX11_quarrel_5 (fun q64 => ?_) (fun q65 => ?_)
  · have f66 : (0 : Int) ≤ r56 ∧ r56 ≤ (0 : Int) := ii f62 (r_eq (il 0) q64) (by decide) (by decide)
    refine g_iconst C dX11_quarrel_16 ?_
    have p67 := (XInv_fx O F61 ta0 rfl P_XInv)
    exact g_iret C hr rfl (iw (il (-1)) (by decide) (by decide)) ⟨O60, ((Fx.rf (wr := wr_k_X11_quarrel)).call F61 rfl), (iw (il (-1)) (by decide) (by decide)), p67⟩ (by decide) (by decide) dX11_quarrel_17
  · have f68 : (1 : Int) ≤ r56 ∧ r56 ≤ (1 : Int) := r_nl f62 q65
    refine g_aload_n C rfl 0 rfl dX11_quarrel_8 ?_
    refine g_iload_n C rfl 2 rfl dX11_quarrel_9 ?_
    have e69 : Tg h57 a0 = 11 := (fxT F61 ta0)
    refine g_callI (st := []) (gc_V C lk_LandSurvey_312 (k_X11_isSheet l D cy w z0 O60 e69 fa2) e69 rfl rfl rfl ⟨by decide, by decide⟩ (Nat.le_of_ble_eq_true rfl) dX11_quarrel_10 ⟨(by decide), (by decide)⟩) (fun r70 h71 f73 K72 => ?_)
    obtain ⟨O74, F75, f76, p77⟩ := K72
    have e78 : Iv h57 a0 12 = v19 := ((fxI F61 ta0 rfl).trans e20)
    refine g_if_ne C (iw f76 (by decide) (by decide)) 18 (by decide) dX11_quarrel_13 (fun q79 => ?_) (fun q80 => ?_)
    · have f81 : (1 : Int) ≤ r70 ∧ r70 ≤ (1 : Int) := r_nl f76 q79
      refine g_iconst C dX11_quarrel_18 ?_
      refine g_istore_n C [(3, .inl 0), (0, .inr (.inr a0)), (1, .inl a1), (2, .inl a2)] rfl (by decide) rfl dX11_quarrel_19 ?_
      refine g_iconst C dX11_quarrel_20 ?_
      refine g_istore C [(4, .inl 0), (3, .inl 0), (0, .inr (.inr a0)), (1, .inl a1), (2, .inl a2)] (by decide) rfl dX11_quarrel_21 ?_
      refine GW.sub [2, 3, 4, 1, 0] rfl ?_
      -- loop at 23
      have L84 : ∀ (μ : Nat) (x82 : Int) (x83 : Int), (96 - x83).toNat = μ → ((-2147483648 : Int) ≤ x82 ∧ x82 ≤ (2147483647 : Int)) → ((0 : Int) ≤ x83 ∧ x83 ≤ (96 : Int)) → GW p l e (rmm 1 21 0 0) s m (List.map toV [.inr (.inr a0), .inl a1, .inl a2]).toArray below meth c D cy z0 7 (MQ below (QI D cy z0 (fun v h1 => Okh h1 ∧ Fx wr_k_X11_quarrel h h1 ∧ ((-2147483648) ≤ v ∧ v ≤ 2147483647) ∧ (XInv h1 a0))) (List.map toV [.inr (.inr a0), .inl a1, .inl a2]).toArray s 0 0 (Aof z0)) 23 [(0, .inr (.inr a0)), (1, .inl a1), (2, .inl a2), (3, .inl x82), (4, .inl x83)] [] h71 0 0 := by
        intro μ
        induction μ using Nat.strongRecOn with
        | ind μ ih85 =>
          intro x82 x83 hm86 f87 f88
          refine g_iload C 4 rfl dX11_quarrel_23 ?_
          refine g_bipush C (by decide) dX11_quarrel_25 ?_
          refine g_icmp_ge C (iw f88 (by decide) (by decide)) (iw (il 96) (by decide) (by decide)) 87 (by decide) dX11_quarrel_27 (fun q89 => ?_) (fun q90 => ?_)
          · have f91 : (96 : Int) ≤ x83 ∧ x83 ≤ (96 : Int) := r_ge f88 (il 96) q89 (by decide) (by decide)
            refine g_iload_n C rfl 3 rfl dX11_quarrel_87 ?_
            have p92 := (XInv_fx O60 F75 e69 rfl (XInv_fx O F61 ta0 rfl P_XInv))
            exact g_iret C hr rfl f87 ⟨O74, (((Fx.rf (wr := wr_k_X11_quarrel)).call F61 rfl).call F75 rfl), f87, p92⟩ (by decide) (by decide) dX11_quarrel_88
          · have f93 : (0 : Int) ≤ x83 ∧ x83 ≤ (95 : Int) := r_lt f88 (il 96) q90 (by decide) (by decide)
            refine g_aload_n C rfl 0 rfl dX11_quarrel_30 ?_
            have e94 : Tg h71 a0 = 11 := (fxT F75 e69)
            have e95 : Rv h71 a0 11 = v15 := ((fxR F75 e69 rfl).trans ((fxR F61 ta0 rfl).trans e16))
            refine gf_R C fk_LandSurvey_55 rfl e94 e95 dX11_quarrel_31 ?_
            refine g_iload_n C rfl 1 rfl dX11_quarrel_34 ?_
            have e96 : Tg h71 v15 = 48106 := (fxT F75 (fxT F61 t17))
            have e97 : Tg h57 v15 = 48106 := (fxT F61 t17)
            have e98 : Ln h71 v15 = 10 := ((fxL F75 e97).trans ((fxL F61 t17).trans l18))
            obtain ⟨v99, e100⟩ : ∃ z, Rv h71 v15 a1.toNat = z := ⟨_, rfl⟩
            refine g_aald (t := 6) C e96 rfl (by decide) rfl e98 (by omega) e100 dX11_quarrel_35 ?_
            have p101 := (NN_fx F75 e97 ar_48106 rfl (NN_fx F61 t17 ar_48106 rfl p40))
            have q102 := nn_get p101 (by omega) e100
            have t103 := ok_Na O74 e96 ar_48106 rE_48106_0 e100 q102
            obtain ⟨v104, e105⟩ : ∃ z, Rv h71 v99 0 = z := ⟨_, rfl⟩
            have t106 := ok_R O74 t103 rE_8_0 e105
            have l107 := ok_L O74 t103 rE_8_0 e105
            refine gf_R C fk_LandSurvey_309 rfl t103 e105 dX11_quarrel_36 ?_
            refine g_iload C 4 rfl dX11_quarrel_39 ?_
            obtain ⟨v108, e109⟩ : ∃ z, Iv h71 v104 x83.toNat = z := ⟨_, rfl⟩
            have f110 := ok_Ia O74 t106 ar_44100 rI_44100_0 e109
            refine g_iald C t106 rfl l107 (ix f93 (by decide) (by decide)) e109 dX11_quarrel_41 ?_
            refine g_istore C [(5, .inl v108), (0, .inr (.inr a0)), (1, .inl a1), (2, .inl a2), (3, .inl x82), (4, .inl x83)] (by decide) rfl dX11_quarrel_42 ?_
            refine g_aload_n C rfl 1 rfl dX11_quarrel_44 ?_
            refine gf_R C fk_LandSurvey_55 rfl e94 e95 dX11_quarrel_45 ?_
            refine g_iload_n C rfl 3 rfl dX11_quarrel_48 ?_
            obtain ⟨v111, e112⟩ : ∃ z, Rv h71 v15 a2.toNat = z := ⟨_, rfl⟩
            refine g_aald (t := 6) C e96 rfl (by decide) rfl e98 (by omega) e112 dX11_quarrel_49 ?_
            have q113 := nn_get p101 (by omega) e112
            have t114 := ok_Na O74 e96 ar_48106 rE_48106_0 e112 q113
            obtain ⟨v115, e116⟩ : ∃ z, Rv h71 v111 0 = z := ⟨_, rfl⟩
            have t117 := ok_R O74 t114 rE_8_0 e116
            have l118 := ok_L O74 t114 rE_8_0 e116
            refine gf_R C fk_LandSurvey_309 rfl t114 e116 dX11_quarrel_50 ?_
            refine g_iload C 5 rfl dX11_quarrel_53 ?_
            obtain ⟨v119, e120⟩ : ∃ z, Iv h71 v115 x83.toNat = z := ⟨_, rfl⟩
            have f121 := ok_Ia O74 t117 ar_44100 rI_44100_0 e120
            refine g_iald C t117 rfl l118 (ix f93 (by decide) (by decide)) e120 dX11_quarrel_55 ?_
            refine g_istore C [(6, .inl v119), (5, .inl v108), (0, .inr (.inr a0)), (1, .inl a1), (2, .inl a2), (3, .inl x82), (4, .inl x83)] (by decide) rfl dX11_quarrel_56 ?_
            refine g_iload C 1 rfl dX11_quarrel_58 ?_
            refine g_iconst C dX11_quarrel_60 ?_
            refine g_icmp_eq C f110 (iw (il (-1)) (by decide) (by decide)) 81 (by decide) dX11_quarrel_61 (fun q122 => ?_) (fun q123 => ?_)
            · have f124 : (-1 : Int) ≤ v108 ∧ v108 ≤ (-1 : Int) := ii f110 (r_eq (il (-1)) q122) (by decide) (by decide)
              have f125 : (1 : Int) ≤ (x83 + 1) ∧ (x83 + 1) ≤ (96 : Int) := ia_add f93 (il 1) (by decide) (by decide)
              refine g_iinc C [(4, .inl (x83 + 1)), (6, .inl v119), (5, .inl v108), (0, .inr (.inr a0)), (1, .inl a1), (2, .inl a2), (3, .inl x82)] 6 rfl (by decide) rfl dX11_quarrel_81 ?_
              refine g_goto C 23 (by decide) dX11_quarrel_84 ?_
              refine GW.sub [3, 4, 5, 6, 0] rfl ?_
              exact ih85 _ (by omega) x82 (x83 + 1) rfl f87 (iw f125 (by decide) (by decide))
            · refine g_iload C 0 rfl dX11_quarrel_64 ?_
              refine g_iconst C dX11_quarrel_66 ?_
              refine g_icmp_eq C f121 (iw (il (-1)) (by decide) (by decide)) 81 (by decide) dX11_quarrel_67 (fun q126 => ?_) (fun q127 => ?_)
              · have f128 : (-1 : Int) ≤ v119 ∧ v119 ≤ (-1 : Int) := ii f121 (r_eq (il (-1)) q126) (by decide) (by decide)
                have f129 : (1 : Int) ≤ (x83 + 1) ∧ (x83 + 1) ≤ (96 : Int) := ia_add f93 (il 1) (by decide) (by decide)
                refine g_iinc C [(4, .inl (x83 + 1)), (6, .inl v119), (5, .inl v108), (0, .inr (.inr a0)), (1, .inl a1), (2, .inl a2), (3, .inl x82)] 6 rfl (by decide) rfl dX11_quarrel_81 ?_
                refine g_goto C 23 (by decide) dX11_quarrel_84 ?_
                refine GW.sub [3, 4, 5, 6, 0] rfl ?_
                exact ih85 _ (by omega) x82 (x83 + 1) rfl f87 (iw f129 (by decide) (by decide))
              · refine g_iload C 1 rfl dX11_quarrel_70 ?_
                refine g_iload C 0 rfl dX11_quarrel_72 ?_
                refine g_iand C dX11_quarrel_74 ?_
                have f130 : (-2147483648 : Int) ≤ (bAnd v108 v119) ∧ (bAnd v108 v119) ≤ (2147483647 : Int) := inR_of _
                refine g_if_ne C f130 81 (by decide) dX11_quarrel_75 (fun q131 => ?_) (fun q132 => ?_)
                · have f133 : (1 : Int) ≤ (x83 + 1) ∧ (x83 + 1) ≤ (96 : Int) := ia_add f93 (il 1) (by decide) (by decide)
                  refine g_iinc C [(4, .inl (x83 + 1)), (6, .inl v119), (5, .inl v108), (0, .inr (.inr a0)), (1, .inl a1), (2, .inl a2), (3, .inl x82)] 6 rfl (by decide) rfl dX11_quarrel_81 ?_
                  refine g_goto C 23 (by decide) dX11_quarrel_84 ?_
                  refine GW.sub [3, 4, 5, 6, 0] rfl ?_
                  exact ih85 _ (by omega) x82 (x83 + 1) rfl f87 (iw f133 (by decide) (by decide))
                · have f134 : (0 : Int) ≤ (bAnd v108 v119) ∧ (bAnd v108 v119) ≤ (0 : Int) := ii f130 (r_eq (il 0) q132) (by decide) (by decide)
                  have f135 : (-2147483648 : Int) ≤ (w32 (x82 + 1)) ∧ (w32 (x82 + 1)) ≤ (2147483647 : Int) := w32_inR _
                  refine g_iincW C [(3, .inl (w32 (x82 + 1))), (6, .inl v119), (5, .inl v108), (0, .inr (.inr a0)), (1, .inl a1), (2, .inl a2), (4, .inl x83)] 5 rfl (by decide) rfl dX11_quarrel_78 ?_
                  have f136 : (1 : Int) ≤ (x83 + 1) ∧ (x83 + 1) ≤ (96 : Int) := ia_add f93 (il 1) (by decide) (by decide)
                  refine g_iinc C [(4, .inl (x83 + 1)), (3, .inl (w32 (x82 + 1))), (6, .inl v119), (5, .inl v108), (0, .inr (.inr a0)), (1, .inl a1), (2, .inl a2)] 6 rfl (by decide) rfl dX11_quarrel_81 ?_
                  refine g_goto C 23 (by decide) dX11_quarrel_84 ?_
                  refine GW.sub [4, 5, 6, 1, 0] rfl ?_
                  exact ih85 _ (by omega) (w32 (x82 + 1)) (x83 + 1) rfl f135 (iw f136 (by decide) (by decide))
      exact L84 _ 0 0 rfl (iw (il 0) (by decide) (by decide)) (iw (il 0) (by decide) (by decide))
    · have f137 : (0 : Int) ≤ r70 ∧ r70 ≤ (0 : Int) := ii f76 (r_eq (il 0) q80) (by decide) (by decide)
      refine g_iconst C dX11_quarrel_16 ?_
      have p138 := (XInv_fx O60 F75 e69 rfl (XInv_fx O F61 ta0 rfl P_XInv))
      exact g_iret C hr rfl (iw (il (-1)) (by decide) (by decide)) ⟨O74, (((Fx.rf (wr := wr_k_X11_quarrel)).call F61 rfl).call F75 rfl), (iw (il (-1)) (by decide) (by decide)), p138⟩ (by decide) (by decide) dX11_quarrel_17
def wr_k_X11_stale : List Nat := [401, 402, 403, 404, 405, 406, 1403, 1404, 1405, 1412, 1813, 1814, 1815, 1816, 1817, 1818, 2003, 2207, 2215, 2216, 2217, 200400, 200407, 200408, 2020000, 2220000, 7420000, 8020000, 8220400, 8420400, 8620000, 9020000, 9220400, 9420000, 9821400, 10020000, 1000000002, 1000001002, 1000010100, 1000011100]
set_option maxRecDepth 100000 in
set_option maxHeartbeats 4000000 in
theorem k_X11_stale (l : Launch) (D : va_G) (cy : Nat → ClassId) (w : Nat → Nat) (z0 : Nat)  {h : Hp} {a0 : Nat} {a1 : Int}  (O : Okh h) (ta0 : Tg h a0 = 11) (fa1 : (-2147483648) ≤ a1 ∧ a1 ≤ 2147483647) (P_XInv : XInv h a0) : MI l D cy w z0 yX11_stale cX11_stale 5 (some .int) 11 300 48 3216 [.inr (.inr a0), .inl a1] h (fun v h1 => Okh h1 ∧ Fx wr_k_X11_stale h h1 ∧ ((-2147483648) ≤ v ∧ v ≤ 2147483647) ∧ (XInv h1 a0)) := by
  obtain ⟨v1, e2⟩ : ∃ z, Rv h a0 3 = z := ⟨_, rfl⟩
  have t3 := ok_R O ta0 rE_11_3 e2
  have l4 := ok_L O ta0 rE_11_3 e2
  obtain ⟨v5, e6⟩ : ∃ z, Iv h a0 4 = z := ⟨_, rfl⟩
  have f7 := ok_I O ta0 rI_11_4 e6
  obtain ⟨v8, e9⟩ : ∃ z, Rv h a0 8 = z := ⟨_, rfl⟩
  have t10 := ok_R O ta0 rE_11_8 e9
  have l11 := ok_L O ta0 rE_11_8 e9
  obtain ⟨v12, e13⟩ : ∃ z, Iv h a0 9 = z := ⟨_, rfl⟩
  have f14 := ok_I O ta0 rI_11_9 e13
  obtain ⟨v15, e16⟩ : ∃ z, Rv h a0 11 = z := ⟨_, rfl⟩
  have t17 := ok_R O ta0 rE_11_11 e16
  have l18 := ok_L O ta0 rE_11_11 e16
  obtain ⟨v19, e20⟩ : ∃ z, Iv h a0 12 = z := ⟨_, rfl⟩
  have f21 := ok_I O ta0 rI_11_12 e20
  obtain ⟨v22, e23⟩ : ∃ z, Iv h a0 15 = z := ⟨_, rfl⟩
  have f24 := ok_I O ta0 rI_11_15 e23
  obtain ⟨v25, e26⟩ : ∃ z, Rv h a0 14 = z := ⟨_, rfl⟩
  have t27 := ok_R O ta0 rE_11_14 e26
  have l28 := ok_L O ta0 rE_11_14 e26
  obtain ⟨v29, e30⟩ : ∃ z, Rv h a0 13 = z := ⟨_, rfl⟩
  have t31 := ok_R O ta0 rE_11_13 e30
  obtain ⟨v32, e33⟩ : ∃ z, Rv h a0 6 = z := ⟨_, rfl⟩
  have t34 := ok_R O ta0 rE_11_6 e33
  obtain ⟨v35, e36⟩ : ∃ z, Rv h a0 7 = z := ⟨_, rfl⟩
  have t37 := ok_R O ta0 rE_11_7 e36
  have p49 := P_XInv
  unfold XInv at p49
  rw [e2, e6, e9, e13, e16, e20, e23, e26, e30, e33, e36] at p49
  obtain ⟨p38, p39, p40, p41, p42, p43, p44, p45, p46, p47, p48⟩ := p49
  obtain ⟨v50, e51⟩ : ∃ z, Iv h v29 3 = z := ⟨_, rfl⟩
  have f52 := ok_I O t31 rI_7_3 e51
  obtain ⟨v53, e54⟩ : ∃ z, Iv h v29 4 = z := ⟨_, rfl⟩
  have f55 := ok_I O t31 rI_7_4 e54
  rw [e51] at p44
  rw [e54] at p45
  refine hm_go (by decide +kernel) (Nat.le_of_ble_eq_true rfl) (fun p e s m below meth c C hr hn => ?_)
  refine g_aload_n C rfl 0 rfl dX11_stale_0 ?_
  refine g_iload_n C rfl 1 rfl dX11_stale_1 ?_
  refine g_callI (st := []) (gc_V C lk_LandSurvey_312 (k_X11_isSheet l D cy w z0 O ta0 fa1) ta0 rfl rfl rfl ⟨by decide, by decide⟩ (Nat.le_of_ble_eq_true rfl) dX11_stale_2 ⟨(by decide), (by decide)⟩) (fun r56 h57 f59 K58 => ?_)
  obtain ⟨O60, F61, f62, p63⟩ := K58
  refine g_if_eq C (iw f62 (by decide) (by decide)) 15 (by decide) dX11_stale_5 (fun q64 => ?_) (fun q65 => ?_)
  · have f66 : (0 : Int) ≤ r56 ∧ r56 ≤ (0 : Int) := ii f62 (r_eq (il 0) q64) (by decide) (by decide)
    refine g_iconst C dX11_stale_15 ?_
    have p67 := (XInv_fx O F61 ta0 rfl P_XInv)
    exact g_iret C hr rfl (iw (il (-1)) (by decide) (by decide)) ⟨O60, ((Fx.rf (wr := wr_k_X11_stale)).call F61 rfl), (iw (il (-1)) (by decide) (by decide)), p67⟩ (by decide) (by decide) dX11_stale_16
  · have f68 : (1 : Int) ≤ r56 ∧ r56 ≤ (1 : Int) := r_nl f62 q65
    refine g_aload_n C rfl 0 rfl dX11_stale_8 ?_
    have e69 : Tg h57 a0 = 11 := (fxT F61 ta0)
    have p70 := (XInv_fx O F61 ta0 rfl P_XInv)
    refine g_callI (st := []) (gc_V C lk_LandSurvey_253 (k_X11_prepare l D cy w z0 O60 e69 p70) e69 rfl rfl rfl ⟨by decide, by decide⟩ (Nat.le_of_ble_eq_true rfl) dX11_stale_9 ⟨(by decide), (by decide)⟩) (fun r71 h72 f74 K73 => ?_)
    obtain ⟨O75, F76, f77, p78, p79, p80⟩ := K73
    obtain ⟨v81, e82⟩ : ∃ z, Rv h72 a0 17 = z := ⟨_, rfl⟩
    have e83 : Tg h72 a0 = 11 := (fxT F76 e69)
    rw [e82] at p80
    have e84 : Rv h72 a0 3 = v1 := ((fxR F76 e69 rfl).trans ((fxR F61 ta0 rfl).trans e2))
    have e85 : Iv h72 a0 4 = v5 := ((fxI F76 e69 rfl).trans ((fxI F61 ta0 rfl).trans e6))
    have e86 : Rv h72 a0 8 = v8 := ((fxR F76 e69 rfl).trans ((fxR F61 ta0 rfl).trans e9))
    have e87 : Iv h72 a0 9 = v12 := ((fxI F76 e69 rfl).trans ((fxI F61 ta0 rfl).trans e13))
    have e88 : Rv h72 a0 11 = v15 := ((fxR F76 e69 rfl).trans ((fxR F61 ta0 rfl).trans e16))
    have e89 : Iv h72 a0 12 = v19 := ((fxI F76 e69 rfl).trans ((fxI F61 ta0 rfl).trans e20))
    have e90 : Rv h72 a0 14 = v25 := ((fxR F76 e69 rfl).trans ((fxR F61 ta0 rfl).trans e26))
    have e91 : Rv h72 a0 13 = v29 := ((fxR F76 e69 rfl).trans ((fxR F61 ta0 rfl).trans e30))
    have e92 : Rv h72 a0 6 = v32 := ((fxR F76 e69 rfl).trans ((fxR F61 ta0 rfl).trans e33))
    obtain ⟨v93, e94⟩ : ∃ z, Rv h72 a0 7 = z := ⟨_, rfl⟩
    have t95 := ok_R O75 e83 rE_11_7 e94
    have p107 := p78
    unfold XInv at p107
    rw [e84, e85, e86, e87, e88, e89, p79, e90, e91, e92, e94] at p107
    obtain ⟨p96, p97, p98, p99, p100, p101, p102, p103, p104, p105, p106⟩ := p107
    have e108 : Tg h57 v29 = 7 := (fxT F61 t31)
    obtain ⟨v109, e110⟩ : ∃ z, Iv h72 v29 3 = z := ⟨_, rfl⟩
    have e111 : Tg h72 v29 = 7 := (fxT F76 e108)
    have f112 := ok_I O75 e111 rI_7_3 e110
    obtain ⟨v113, e114⟩ : ∃ z, Iv h72 v29 4 = z := ⟨_, rfl⟩
    have f115 := ok_I O75 e111 rI_7_4 e114
    rw [e110] at p102
    rw [e114] at p103
    have p116 := p99 (by omega)
    refine g_if_ne C (iw f77 (by decide) (by decide)) 17 (by decide) dX11_stale_12 (fun q117 => ?_) (fun q118 => ?_)
    · have f119 : (1 : Int) ≤ r71 ∧ r71 ≤ (1 : Int) := r_nl f77 q117
      refine g_iconst C dX11_stale_17 ?_
      refine g_istore_n C [(2, .inl 0), (0, .inr (.inr a0)), (1, .inl a1)] rfl (by decide) rfl dX11_stale_18 ?_
      refine g_iconst C dX11_stale_19 ?_
      refine g_istore_n C [(3, .inl 0), (2, .inl 0), (0, .inr (.inr a0)), (1, .inl a1)] rfl (by decide) rfl dX11_stale_20 ?_
      refine GW.sub [2, 3, 1, 0] rfl ?_
      -- loop at 21
      have L123 : ∀ (μ : Nat) (x120 : Int) (x121 : Int) (h122 : Hp), (96 - x121).toNat = μ → Okh h122 → Fx [] h72 h122 → ((-2147483648 : Int) ≤ x120 ∧ x120 ≤ (2147483647 : Int)) → ((0 : Int) ≤ x121 ∧ x121 ≤ (96 : Int)) → GW p l e (rmm 11 300 48 3216) s m (List.map toV [.inr (.inr a0), .inl a1]).toArray below meth c D cy z0 5 (MQ below (QI D cy z0 (fun v h1 => Okh h1 ∧ Fx wr_k_X11_stale h h1 ∧ ((-2147483648) ≤ v ∧ v ≤ 2147483647) ∧ (XInv h1 a0))) (List.map toV [.inr (.inr a0), .inl a1]).toArray s 48 3216 (Aof z0)) 21 [(0, .inr (.inr a0)), (1, .inl a1), (2, .inl x120), (3, .inl x121)] [] h122 48 3216 := by
        intro μ
        induction μ using Nat.strongRecOn with
        | ind μ ih124 =>
          intro x120 x121 h122 hm125 O126 F127 f128 f129
          refine g_iload_n C rfl 3 rfl dX11_stale_21 ?_
          refine g_bipush C (by decide) dX11_stale_22 ?_
          refine g_icmp_ge C (iw f129 (by decide) (by decide)) (iw (il 96) (by decide) (by decide)) 66 (by decide) dX11_stale_24 (fun q130 => ?_) (fun q131 => ?_)
          · have f132 : (96 : Int) ≤ x121 ∧ x121 ≤ (96 : Int) := r_ge f129 (il 96) q130 (by decide) (by decide)
            refine g_iload_n C rfl 2 rfl dX11_stale_66 ?_
            have p133 := (XInv_fx O75 F127 e83 rfl p78)
            exact g_iret C hr rfl f128 ⟨O126, ((((Fx.rf (wr := wr_k_X11_stale)).call F61 rfl).call F76 rfl).call F127 rfl), f128, p133⟩ (by decide) (by decide) dX11_stale_67
          · have f134 : (0 : Int) ≤ x121 ∧ x121 ≤ (95 : Int) := r_lt f129 (il 96) q131 (by decide) (by decide)
            refine g_aload_n C rfl 0 rfl dX11_stale_27 ?_
            have e135 : Tg h122 a0 = 11 := (fxT F127 e83)
            have e136 : Rv h122 a0 11 = v15 := ((fxR F127 e83 rfl).trans e88)
            refine gf_R C fk_LandSurvey_55 rfl e135 e136 dX11_stale_28 ?_
            refine g_iload_n C rfl 1 rfl dX11_stale_31 ?_
            have e137 : Tg h122 v15 = 48106 := (fxT F127 (fxT F76 (fxT F61 t17)))
            have e138 : Tg h57 v15 = 48106 := (fxT F61 t17)
            have e139 : Tg h72 v15 = 48106 := (fxT F76 e138)
            have e140 : Ln h122 v15 = 10 := ((fxL F127 e139).trans ((fxL F76 e138).trans ((fxL F61 t17).trans l18)))
            obtain ⟨v141, e142⟩ : ∃ z, Rv h122 v15 a1.toNat = z := ⟨_, rfl⟩
            refine g_aald (t := 6) C e137 rfl (by decide) rfl e140 (by omega) e142 dX11_stale_32 ?_
            have p143 := (NN_fx F127 e139 ar_48106 rfl p98)
            have q144 := nn_get p143 (by omega) e142
            have t145 := ok_Na O126 e137 ar_48106 rE_48106_0 e142 q144
            obtain ⟨v146, e147⟩ : ∃ z, Rv h122 v141 0 = z := ⟨_, rfl⟩
            have t148 := ok_R O126 t145 rE_8_0 e147
            have l149 := ok_L O126 t145 rE_8_0 e147
            refine gf_R C fk_LandSurvey_309 rfl t145 e147 dX11_stale_33 ?_
            refine g_iload_n C rfl 3 rfl dX11_stale_36 ?_
            obtain ⟨v150, e151⟩ : ∃ z, Iv h122 v146 x121.toNat = z := ⟨_, rfl⟩
            have f152 := ok_Ia O126 t148 ar_44100 rI_44100_0 e151
            refine g_iald C t148 rfl l149 (ix f134 (by decide) (by decide)) e151 dX11_stale_37 ?_
            refine g_istore C [(4, .inl v150), (0, .inr (.inr a0)), (1, .inl a1), (2, .inl x120), (3, .inl x121)] (by decide) rfl dX11_stale_38 ?_
            refine g_iload C 0 rfl dX11_stale_40 ?_
            refine g_iconst C dX11_stale_42 ?_
            refine g_icmp_eq C f152 (iw (il (-1)) (by decide) (by decide)) 60 (by decide) dX11_stale_43 (fun q153 => ?_) (fun q154 => ?_)
            · have f155 : (-1 : Int) ≤ v150 ∧ v150 ≤ (-1 : Int) := ii f152 (r_eq (il (-1)) q153) (by decide) (by decide)
              have f156 : (1 : Int) ≤ (x121 + 1) ∧ (x121 + 1) ≤ (96 : Int) := ia_add f134 (il 1) (by decide) (by decide)
              refine g_iinc C [(3, .inl (x121 + 1)), (4, .inl v150), (0, .inr (.inr a0)), (1, .inl a1), (2, .inl x120)] 4 rfl (by decide) rfl dX11_stale_60 ?_
              refine g_goto C 21 (by decide) dX11_stale_63 ?_
              refine GW.sub [2, 3, 4, 0] rfl ?_
              exact ih124 _ (by omega) x120 (x121 + 1) h122 rfl O126 F127 f128 (iw f156 (by decide) (by decide))
            · refine g_iload C 0 rfl dX11_stale_46 ?_
              refine g_aload_n C rfl 1 rfl dX11_stale_48 ?_
              refine g_iload_n C rfl 4 rfl dX11_stale_49 ?_
              refine g_iconst C dX11_stale_50 ?_
              have e157 : Iv h122 a0 15 = 1 := ((fxI F127 e83 rfl).trans p79)
              have p158 := (XInv_fx O75 F127 e83 rfl p78)
              refine g_callI (st := [.inl v150]) (gc_V C lk_LandSurvey_256 (k_X11_mayLieByAll l D cy w z0 O126 e135 f134 (iw (il 0) (by decide) (by decide)) e157 p158) e135 rfl rfl rfl ⟨by decide, by decide⟩ (Nat.le_of_ble_eq_true rfl) dX11_stale_51 ⟨(by decide), (by decide)⟩) (fun r159 h160 f162 K161 => ?_)
              obtain ⟨O163, F164, f165⟩ := K161
              refine g_icmp_eq C f152 f165 60 (by decide) dX11_stale_54 (fun q166 => ?_) (fun q167 => ?_)
              · have f168 : (1 : Int) ≤ (x121 + 1) ∧ (x121 + 1) ≤ (96 : Int) := ia_add f134 (il 1) (by decide) (by decide)
                refine g_iinc C [(3, .inl (x121 + 1)), (4, .inl v150), (0, .inr (.inr a0)), (1, .inl a1), (2, .inl x120)] 4 rfl (by decide) rfl dX11_stale_60 ?_
                refine g_goto C 21 (by decide) dX11_stale_63 ?_
                refine GW.sub [2, 3, 4, 0] rfl ?_
                exact ih124 _ (by omega) x120 (x121 + 1) h160 rfl O163 (F127.call F164 rfl) f128 (iw f168 (by decide) (by decide))
              · have f169 : (-2147483648 : Int) ≤ (w32 (x120 + 1)) ∧ (w32 (x120 + 1)) ≤ (2147483647 : Int) := w32_inR _
                refine g_iincW C [(2, .inl (w32 (x120 + 1))), (4, .inl v150), (0, .inr (.inr a0)), (1, .inl a1), (3, .inl x121)] 3 rfl (by decide) rfl dX11_stale_57 ?_
                have f170 : (1 : Int) ≤ (x121 + 1) ∧ (x121 + 1) ≤ (96 : Int) := ia_add f134 (il 1) (by decide) (by decide)
                refine g_iinc C [(3, .inl (x121 + 1)), (2, .inl (w32 (x120 + 1))), (4, .inl v150), (0, .inr (.inr a0)), (1, .inl a1)] 4 rfl (by decide) rfl dX11_stale_60 ?_
                refine g_goto C 21 (by decide) dX11_stale_63 ?_
                refine GW.sub [3, 4, 1, 0] rfl ?_
                exact ih124 _ (by omega) (w32 (x120 + 1)) (x121 + 1) h160 rfl O163 (F127.call F164 rfl) f169 (iw f170 (by decide) (by decide))
      exact L123 _ 0 0 h72 rfl O75 Fx.rf (iw (il 0) (by decide) (by decide)) (iw (il 0) (by decide) (by decide))
    · have f171 : (0 : Int) ≤ r71 ∧ r71 ≤ (0 : Int) := ii f77 (r_eq (il 0) q118) (by decide) (by decide)
      refine g_iconst C dX11_stale_15 ?_
      exact g_iret C hr rfl (iw (il (-1)) (by decide) (by decide)) ⟨O75, (((Fx.rf (wr := wr_k_X11_stale)).call F61 rfl).call F76 rfl), (iw (il (-1)) (by decide) (by decide)), p78⟩ (by decide) (by decide) dX11_stale_16
def wr_k_X11_doubles : List Nat := [401, 1403, 1404, 1405, 1813, 1814, 1815, 1816, 1817, 1818, 2207, 2215, 2216, 200400, 200407, 200408, 7420000, 9821400, 10020000, 1000000002, 1000001002, 1000010100, 1000011100]
set_option maxRecDepth 100000 in
set_option maxHeartbeats 4000000 in
theorem k_X11_doubles (l : Launch) (D : va_G) (cy : Nat → ClassId) (w : Nat → Nat) (z0 : Nat)  {h : Hp} {a0 : Nat} {a1 : Int} {a2 : Int} {a3 : Int}  (O : Okh h) (ta0 : Tg h a0 = 11) (fa1 : (-2147483648) ≤ a1 ∧ a1 ≤ 2147483647) (fa2 : (-2147483648) ≤ a2 ∧ a2 ≤ 2147483647) (fa3 : (-2147483648) ≤ a3 ∧ a3 ≤ 2147483647) (P_XInv : XInv h a0) : MI l D cy w z0 yX11_doubles cX11_doubles 7 (some .int) 5 116 48 3216 [.inr (.inr a0), .inl a1, .inl a2, .inl a3] h (fun v h1 => Okh h1 ∧ Fx wr_k_X11_doubles h h1 ∧ ((-2147483648) ≤ v ∧ v ≤ 2147483647) ∧ (XInv h1 a0)) := by
  obtain ⟨v1, e2⟩ : ∃ z, Rv h a0 3 = z := ⟨_, rfl⟩
  have t3 := ok_R O ta0 rE_11_3 e2
  have l4 := ok_L O ta0 rE_11_3 e2
  obtain ⟨v5, e6⟩ : ∃ z, Iv h a0 4 = z := ⟨_, rfl⟩
  have f7 := ok_I O ta0 rI_11_4 e6
  obtain ⟨v8, e9⟩ : ∃ z, Rv h a0 8 = z := ⟨_, rfl⟩
  have t10 := ok_R O ta0 rE_11_8 e9
  have l11 := ok_L O ta0 rE_11_8 e9
  obtain ⟨v12, e13⟩ : ∃ z, Iv h a0 9 = z := ⟨_, rfl⟩
  have f14 := ok_I O ta0 rI_11_9 e13
  obtain ⟨v15, e16⟩ : ∃ z, Rv h a0 11 = z := ⟨_, rfl⟩
  have t17 := ok_R O ta0 rE_11_11 e16
  have l18 := ok_L O ta0 rE_11_11 e16
  obtain ⟨v19, e20⟩ : ∃ z, Iv h a0 12 = z := ⟨_, rfl⟩
  have f21 := ok_I O ta0 rI_11_12 e20
  obtain ⟨v22, e23⟩ : ∃ z, Iv h a0 15 = z := ⟨_, rfl⟩
  have f24 := ok_I O ta0 rI_11_15 e23
  obtain ⟨v25, e26⟩ : ∃ z, Rv h a0 14 = z := ⟨_, rfl⟩
  have t27 := ok_R O ta0 rE_11_14 e26
  have l28 := ok_L O ta0 rE_11_14 e26
  obtain ⟨v29, e30⟩ : ∃ z, Rv h a0 13 = z := ⟨_, rfl⟩
  have t31 := ok_R O ta0 rE_11_13 e30
  obtain ⟨v32, e33⟩ : ∃ z, Rv h a0 6 = z := ⟨_, rfl⟩
  have t34 := ok_R O ta0 rE_11_6 e33
  obtain ⟨v35, e36⟩ : ∃ z, Rv h a0 7 = z := ⟨_, rfl⟩
  have t37 := ok_R O ta0 rE_11_7 e36
  have p49 := P_XInv
  unfold XInv at p49
  rw [e2, e6, e9, e13, e16, e20, e23, e26, e30, e33, e36] at p49
  obtain ⟨p38, p39, p40, p41, p42, p43, p44, p45, p46, p47, p48⟩ := p49
  obtain ⟨v50, e51⟩ : ∃ z, Iv h v29 3 = z := ⟨_, rfl⟩
  have f52 := ok_I O t31 rI_7_3 e51
  obtain ⟨v53, e54⟩ : ∃ z, Iv h v29 4 = z := ⟨_, rfl⟩
  have f55 := ok_I O t31 rI_7_4 e54
  rw [e51] at p44
  rw [e54] at p45
  refine hm_go (by decide +kernel) (Nat.le_of_ble_eq_true rfl) (fun p e s m below meth c C hr hn => ?_)
  refine g_iload_n C rfl 1 rfl dX11_doubles_0 ?_
  refine g_callI (st := []) (gc_S C lk_LandSurvey_315 (k_X11_isHand l D cy w z0 O fa1) rfl ⟨by decide, by decide⟩ (Nat.le_of_ble_eq_true rfl) dX11_doubles_1 ⟨(by decide), (by decide)⟩) (fun r56 h57 f59 K58 => ?_)
  obtain ⟨O60, F61, f62⟩ := K58
  refine g_if_eq C (iw f62 (by decide) (by decide)) 28 (by decide) dX11_doubles_4 (fun q63 => ?_) (fun q64 => ?_)
  · have f65 : (0 : Int) ≤ r56 ∧ r56 ≤ (0 : Int) := ii f62 (r_eq (il 0) q63) (by decide) (by decide)
    refine g_iconst C dX11_doubles_28 ?_
    have p66 := (XInv_fx O F61 ta0 rfl P_XInv)
    exact g_iret C hr rfl (iw (il (-1)) (by decide) (by decide)) ⟨O60, ((Fx.rf (wr := wr_k_X11_doubles)).call F61 rfl), (iw (il (-1)) (by decide) (by decide)), p66⟩ (by decide) (by decide) dX11_doubles_29
  · have f67 : (1 : Int) ≤ r56 ∧ r56 ≤ (1 : Int) := r_nl f62 q64
    refine g_iload_n C rfl 2 rfl dX11_doubles_7 ?_
    refine g_callI (st := []) (gc_S C lk_LandSurvey_315 (k_X11_isHand l D cy w z0 O60 fa2) rfl ⟨by decide, by decide⟩ (Nat.le_of_ble_eq_true rfl) dX11_doubles_8 ⟨(by decide), (by decide)⟩) (fun r68 h69 f71 K70 => ?_)
    obtain ⟨O72, F73, f74⟩ := K70
    refine g_if_eq C (iw f74 (by decide) (by decide)) 28 (by decide) dX11_doubles_11 (fun q75 => ?_) (fun q76 => ?_)
    · have f77 : (0 : Int) ≤ r68 ∧ r68 ≤ (0 : Int) := ii f74 (r_eq (il 0) q75) (by decide) (by decide)
      refine g_iconst C dX11_doubles_28 ?_
      have e78 : Tg h57 a0 = 11 := (fxT F61 ta0)
      have p79 := (XInv_fx O60 F73 e78 rfl (XInv_fx O F61 ta0 rfl P_XInv))
      exact g_iret C hr rfl (iw (il (-1)) (by decide) (by decide)) ⟨O72, (((Fx.rf (wr := wr_k_X11_doubles)).call F61 rfl).call F73 rfl), (iw (il (-1)) (by decide) (by decide)), p79⟩ (by decide) (by decide) dX11_doubles_29
    · have f80 : (1 : Int) ≤ r68 ∧ r68 ≤ (1 : Int) := r_nl f74 q76
      refine g_iload_n C rfl 1 rfl dX11_doubles_14 ?_
      refine g_iload_n C rfl 2 rfl dX11_doubles_15 ?_
      refine g_icmp_eq C fa1 fa2 28 (by decide) dX11_doubles_16 (fun q81 => ?_) (fun q82 => ?_)
      · refine g_iconst C dX11_doubles_28 ?_
        have e83 : Tg h57 a0 = 11 := (fxT F61 ta0)
        have p84 := (XInv_fx O60 F73 e83 rfl (XInv_fx O F61 ta0 rfl P_XInv))
        exact g_iret C hr rfl (iw (il (-1)) (by decide) (by decide)) ⟨O72, (((Fx.rf (wr := wr_k_X11_doubles)).call F61 rfl).call F73 rfl), (iw (il (-1)) (by decide) (by decide)), p84⟩ (by decide) (by decide) dX11_doubles_29
      · refine g_iload_n C rfl 3 rfl dX11_doubles_19 ?_
        refine g_if_lt C fa3 28 (by decide) dX11_doubles_20 (fun q85 => ?_) (fun q86 => ?_)
        · have f87 : (-2147483648 : Int) ≤ a3 ∧ a3 ≤ (-1 : Int) := r_lt fa3 (il 0) q85 (by decide) (by decide)
          refine g_iconst C dX11_doubles_28 ?_
          have e88 : Tg h57 a0 = 11 := (fxT F61 ta0)
          have p89 := (XInv_fx O60 F73 e88 rfl (XInv_fx O F61 ta0 rfl P_XInv))
          exact g_iret C hr rfl (iw (il (-1)) (by decide) (by decide)) ⟨O72, (((Fx.rf (wr := wr_k_X11_doubles)).call F61 rfl).call F73 rfl), (iw (il (-1)) (by decide) (by decide)), p89⟩ (by decide) (by decide) dX11_doubles_29
        · have f90 : (0 : Int) ≤ a3 ∧ a3 ≤ (2147483647 : Int) := r_ge fa3 (il 0) q86 (by decide) (by decide)
          refine g_iload_n C rfl 3 rfl dX11_doubles_23 ?_
          refine g_iconst C dX11_doubles_24 ?_
          refine g_icmp_le C (iw f90 (by decide) (by decide)) (iw (il 1) (by decide) (by decide)) 30 (by decide) dX11_doubles_25 (fun q91 => ?_) (fun q92 => ?_)
          · have f93 : (0 : Int) ≤ a3 ∧ a3 ≤ (1 : Int) := r_le f90 (il 1) q91 (by decide) (by decide)
            refine g_aload_n C rfl 0 rfl dX11_doubles_30 ?_
            have e94 : Tg h69 a0 = 11 := (fxT F73 (fxT F61 ta0))
            have e95 : Tg h57 a0 = 11 := (fxT F61 ta0)
            have p96 := (XInv_fx O60 F73 e95 rfl (XInv_fx O F61 ta0 rfl P_XInv))
            refine g_callV (st := []) (gc_V C lk_LandSurvey_169 (k_X11_settle l D cy w z0 O72 e94 p96) e94 rfl rfl rfl ⟨by decide, by decide⟩ (Nat.le_of_ble_eq_true rfl) dX11_doubles_31 ⟨(by decide), (by decide)⟩) (fun h98 K99 => ?_)
            obtain ⟨O101, F102, p103, p104⟩ := K99
            have e105 : Rv h98 a0 3 = v1 := ((fxR F102 e94 rfl).trans ((fxR F73 e95 rfl).trans ((fxR F61 ta0 rfl).trans e2)))
            have e106 : Iv h98 a0 4 = v5 := ((fxI F102 e94 rfl).trans ((fxI F73 e95 rfl).trans ((fxI F61 ta0 rfl).trans e6)))
            have e107 : Rv h98 a0 8 = v8 := ((fxR F102 e94 rfl).trans ((fxR F73 e95 rfl).trans ((fxR F61 ta0 rfl).trans e9)))
            have e108 : Iv h98 a0 9 = v12 := ((fxI F102 e94 rfl).trans ((fxI F73 e95 rfl).trans ((fxI F61 ta0 rfl).trans e13)))
            have e109 : Rv h98 a0 11 = v15 := ((fxR F102 e94 rfl).trans ((fxR F73 e95 rfl).trans ((fxR F61 ta0 rfl).trans e16)))
            have e110 : Iv h98 a0 12 = v19 := ((fxI F102 e94 rfl).trans ((fxI F73 e95 rfl).trans ((fxI F61 ta0 rfl).trans e20)))
            have e111 : Rv h98 a0 14 = v25 := ((fxR F102 e94 rfl).trans ((fxR F73 e95 rfl).trans ((fxR F61 ta0 rfl).trans e26)))
            have e112 : Rv h98 a0 13 = v29 := ((fxR F102 e94 rfl).trans ((fxR F73 e95 rfl).trans ((fxR F61 ta0 rfl).trans e30)))
            have e113 : Rv h98 a0 6 = v32 := ((fxR F102 e94 rfl).trans ((fxR F73 e95 rfl).trans ((fxR F61 ta0 rfl).trans e33)))
            obtain ⟨v114, e115⟩ : ∃ z, Rv h98 a0 7 = z := ⟨_, rfl⟩
            have e116 : Tg h98 a0 = 11 := (fxT F102 e94)
            have t117 := ok_R O101 e116 rE_11_7 e115
            have p129 := p103
            unfold XInv at p129
            rw [e105, e106, e107, e108, e109, e110, p104, e111, e112, e113, e115] at p129
            obtain ⟨p118, p119, p120, p121, p122, p123, p124, p125, p126, p127, p128⟩ := p129
            have e130 : Tg h57 v29 = 7 := (fxT F61 t31)
            have e131 : Tg h69 v29 = 7 := (fxT F73 e130)
            obtain ⟨v132, e133⟩ : ∃ z, Iv h98 v29 3 = z := ⟨_, rfl⟩
            have e134 : Tg h98 v29 = 7 := (fxT F102 e131)
            have f135 := ok_I O101 e134 rI_7_3 e133
            obtain ⟨v136, e137⟩ : ∃ z, Iv h98 v29 4 = z := ⟨_, rfl⟩
            have f138 := ok_I O101 e134 rI_7_4 e137
            rw [e133] at p124
            rw [e137] at p125
            have p139 := p121 (by omega)
            refine g_iconst C dX11_doubles_34 ?_
            refine g_istore C [(4, .inl 0), (0, .inr (.inr a0)), (1, .inl a1), (2, .inl a2), (3, .inl a3)] (by decide) rfl dX11_doubles_35 ?_
            refine g_iconst C dX11_doubles_37 ?_
            refine g_istore C [(5, .inl 0), (4, .inl 0), (0, .inr (.inr a0)), (1, .inl a1), (2, .inl a2), (3, .inl a3)] (by decide) rfl dX11_doubles_38 ?_
            refine GW.sub [2, 3, 4, 5, 1, 0] rfl ?_
            -- loop at 40
            have L143 : ∀ (μ : Nat) (x140 : Int) (x141 : Int) (h142 : Hp), (40 - x141).toNat = μ → Okh h142 → Fx [] h98 h142 → ((-2147483648 : Int) ≤ x140 ∧ x140 ≤ (2147483647 : Int)) → ((0 : Int) ≤ x141 ∧ x141 ≤ (40 : Int)) → GW p l e (rmm 5 116 48 3216) s m (List.map toV [.inr (.inr a0), .inl a1, .inl a2, .inl a3]).toArray below meth c D cy z0 7 (MQ below (QI D cy z0 (fun v h1 => Okh h1 ∧ Fx wr_k_X11_doubles h h1 ∧ ((-2147483648) ≤ v ∧ v ≤ 2147483647) ∧ (XInv h1 a0))) (List.map toV [.inr (.inr a0), .inl a1, .inl a2, .inl a3]).toArray s 48 3216 (Aof z0)) 40 [(0, .inr (.inr a0)), (1, .inl a1), (2, .inl a2), (3, .inl a3), (4, .inl x140), (5, .inl x141)] [] h142 48 3216 := by
              intro μ
              induction μ using Nat.strongRecOn with
              | ind μ ih144 =>
                intro x140 x141 h142 hm145 O146 F147 f148 f149
                refine g_iload C 5 rfl dX11_doubles_40 ?_
                refine g_aload_n C rfl 0 rfl dX11_doubles_42 ?_
                have e150 : Tg h142 a0 = 11 := (fxT F147 e116)
                have e151 : Iv h142 a0 4 = v5 := ((fxI F147 e116 rfl).trans e106)
                refine gf_I C fk_LandSurvey_102 rfl e150 e151 dX11_doubles_43 ?_
                refine g_icmp_ge C (iw f149 (by decide) (by decide)) (iw f7 (by decide) (by decide)) 158 (by decide) dX11_doubles_46 (fun q152 => ?_) (fun q153 => ?_)
                · refine g_iload C 4 rfl dX11_doubles_158 ?_
                  have p154 := (XInv_fx O101 F147 e116 rfl p103)
                  exact g_iret C hr rfl f148 ⟨O146, (((((Fx.rf (wr := wr_k_X11_doubles)).call F61 rfl).call F73 rfl).call F102 rfl).call F147 rfl), f148, p154⟩ (by decide) (by decide) dX11_doubles_160
                · have f155 : (0 : Int) ≤ x141 ∧ x141 ≤ (39 : Int) := r_lt f149 f7 q153 (by decide) (by decide)
                  have f156 : (1 : Int) ≤ v5 ∧ v5 ≤ (40 : Int) := r_gt f7 f149 q153 (by decide) (by decide)
                  refine g_iconst C dX11_doubles_49 ?_
                  refine g_istore C [(6, .inl 0), (0, .inr (.inr a0)), (1, .inl a1), (2, .inl a2), (3, .inl a3), (4, .inl x140), (5, .inl x141)] (by decide) rfl dX11_doubles_50 ?_
                  refine GW.sub [1, 2, 3, 4, 5, 6, 0] rfl ?_
                  -- loop at 52
                  have L160 : ∀ (μ : Nat) (x157 : Int) (x158 : Int) (h159 : Hp), (40 - x158).toNat = μ → Okh h159 → Fx [] h142 h159 → ((-2147483648 : Int) ≤ x157 ∧ x157 ≤ (2147483647 : Int)) → ((0 : Int) ≤ x158 ∧ x158 ≤ (40 : Int)) → GW p l e (rmm 5 116 48 3216) s m (List.map toV [.inr (.inr a0), .inl a1, .inl a2, .inl a3]).toArray below meth c D cy z0 7 (MQ below (QI D cy z0 (fun v h1 => Okh h1 ∧ Fx wr_k_X11_doubles h h1 ∧ ((-2147483648) ≤ v ∧ v ≤ 2147483647) ∧ (XInv h1 a0))) (List.map toV [.inr (.inr a0), .inl a1, .inl a2, .inl a3]).toArray s 48 3216 (Aof z0)) 52 [(0, .inr (.inr a0)), (1, .inl a1), (2, .inl a2), (3, .inl a3), (4, .inl x157), (5, .inl x141), (6, .inl x158)] [] h159 48 3216 := by
                    intro μ
                    induction μ using Nat.strongRecOn with
                    | ind μ ih161 =>
                      intro x157 x158 h159 hm162 O163 F164 f165 f166
                      refine g_iload C 6 rfl dX11_doubles_52 ?_
                      refine g_aload_n C rfl 0 rfl dX11_doubles_54 ?_
                      have e167 : Tg h159 a0 = 11 := (fxT F164 e150)
                      have e168 : Iv h159 a0 4 = v5 := ((fxI F164 e150 rfl).trans e151)
                      refine gf_I C fk_LandSurvey_102 rfl e167 e168 dX11_doubles_55 ?_
                      refine g_icmp_ge C (iw f166 (by decide) (by decide)) (iw f156 (by decide) (by decide)) 152 (by decide) dX11_doubles_58 (fun q169 => ?_) (fun q170 => ?_)
                      · have f171 : (1 : Int) ≤ x158 ∧ x158 ≤ (40 : Int) := r_ge f166 f156 q169 (by decide) (by decide)
                        have f172 : (1 : Int) ≤ (x141 + 1) ∧ (x141 + 1) ≤ (40 : Int) := ia_add f155 (il 1) (by decide) (by decide)
                        refine g_iinc C [(5, .inl (x141 + 1)), (0, .inr (.inr a0)), (1, .inl a1), (2, .inl a2), (3, .inl a3), (4, .inl x157), (6, .inl x158)] 5 rfl (by decide) rfl dX11_doubles_152 ?_
                        refine g_goto C 40 (by decide) dX11_doubles_155 ?_
                        refine GW.sub [1, 2, 3, 4, 5, 0] rfl ?_
                        exact ih144 _ (by omega) x157 (x141 + 1) h159 rfl O163 (F147.call F164 rfl) f165 (iw f172 (by decide) (by decide))
                      · have f173 : (0 : Int) ≤ x158 ∧ x158 ≤ (39 : Int) := r_lt f166 f156 q170 (by decide) (by decide)
                        refine g_aload_n C rfl 0 rfl dX11_doubles_61 ?_
                        have e174 : Rv h159 a0 3 = v1 := ((fxR F164 e150 rfl).trans ((fxR F147 e116 rfl).trans e105))
                        refine gf_R C fk_LandSurvey_22 rfl e167 e174 dX11_doubles_62 ?_
                        refine g_iload C 5 rfl dX11_doubles_65 ?_
                        have e175 : Tg h159 v1 = 38104 := (fxT F164 (fxT F147 (fxT F102 (fxT F73 (fxT F61 t3)))))
                        have e176 : Tg h57 v1 = 38104 := (fxT F61 t3)
                        have e177 : Tg h69 v1 = 38104 := (fxT F73 e176)
                        have e178 : Tg h98 v1 = 38104 := (fxT F102 e177)
                        have e179 : Tg h142 v1 = 38104 := (fxT F147 e178)
                        have e180 : Ln h159 v1 = 40 := ((fxL F164 e179).trans ((fxL F147 e178).trans ((fxL F102 e177).trans ((fxL F73 e176).trans ((fxL F61 t3).trans l4)))))
                        obtain ⟨v181, e182⟩ : ∃ z, Rv h159 v1 x141.toNat = z := ⟨_, rfl⟩
                        refine g_aald (t := 4) C e175 rfl (by decide) rfl e180 (ix f155 (by decide) (by decide)) e182 dX11_doubles_67 ?_
                        have p183 := (SOK_fx O146 F164 e179 rfl rfl rfl (SOK_fx O101 F147 e178 rfl rfl rfl p118))
                        have q184 := nn_get p183.nn (by omega) e182
                        have t185 := ok_Na O163 e175 ar_38104 rE_38104_0 e182 q184
                        obtain ⟨v186, e187⟩ : ∃ z, Iv h159 v181 3 = z := ⟨_, rfl⟩
                        have f188 := ok_I O163 t185 rI_9_3 e187
                        refine gf_I C fk_LandSurvey_318 rfl t185 e187 dX11_doubles_68 ?_
                        refine g_iload_n C rfl 1 rfl dX11_doubles_71 ?_
                        refine g_icmp_ne C (iw f188 (by decide) (by decide)) fa1 146 (by decide) dX11_doubles_72 (fun q189 => ?_) (fun q190 => ?_)
                        · have f191 : (1 : Int) ≤ (x158 + 1) ∧ (x158 + 1) ≤ (40 : Int) := ia_add f173 (il 1) (by decide) (by decide)
                          refine g_iinc C [(6, .inl (x158 + 1)), (0, .inr (.inr a0)), (1, .inl a1), (2, .inl a2), (3, .inl a3), (4, .inl x157), (5, .inl x141)] 6 rfl (by decide) rfl dX11_doubles_146 ?_
                          refine g_goto C 52 (by decide) dX11_doubles_149 ?_
                          refine GW.sub [1, 2, 3, 4, 5, 6, 0] rfl ?_
                          exact ih161 _ (by omega) x157 (x158 + 1) h159 rfl O163 F164 f165 (iw f191 (by decide) (by decide))
                        · have f192 : (0 : Int) ≤ a1 ∧ a1 ≤ (5 : Int) := ii fa1 (r_eq2 f188 q190) (by decide) (by decide)
                          refine g_aload_n C rfl 0 rfl dX11_doubles_75 ?_
                          refine gf_R C fk_LandSurvey_22 rfl e167 e174 dX11_doubles_76 ?_
                          refine g_iload C 6 rfl dX11_doubles_79 ?_
                          obtain ⟨v193, e194⟩ : ∃ z, Rv h159 v1 x158.toNat = z := ⟨_, rfl⟩
                          refine g_aald (t := 4) C e175 rfl (by decide) rfl e180 (ix f173 (by decide) (by decide)) e194 dX11_doubles_81 ?_
                          have q195 := nn_get p183.nn (by omega) e194
                          have t196 := ok_Na O163 e175 ar_38104 rE_38104_0 e194 q195
                          obtain ⟨v197, e198⟩ : ∃ z, Iv h159 v193 3 = z := ⟨_, rfl⟩
                          have f199 := ok_I O163 t196 rI_9_3 e198
                          refine gf_I C fk_LandSurvey_318 rfl t196 e198 dX11_doubles_82 ?_
                          refine g_iload_n C rfl 2 rfl dX11_doubles_85 ?_
                          refine g_icmp_ne C (iw f199 (by decide) (by decide)) fa2 146 (by decide) dX11_doubles_86 (fun q200 => ?_) (fun q201 => ?_)
                          · have f202 : (1 : Int) ≤ (x158 + 1) ∧ (x158 + 1) ≤ (40 : Int) := ia_add f173 (il 1) (by decide) (by decide)
                            refine g_iinc C [(6, .inl (x158 + 1)), (0, .inr (.inr a0)), (1, .inl a1), (2, .inl a2), (3, .inl a3), (4, .inl x157), (5, .inl x141)] 6 rfl (by decide) rfl dX11_doubles_146 ?_
                            refine g_goto C 52 (by decide) dX11_doubles_149 ?_
                            refine GW.sub [1, 2, 3, 4, 5, 6, 0] rfl ?_
                            exact ih161 _ (by omega) x157 (x158 + 1) h159 rfl O163 F164 f165 (iw f202 (by decide) (by decide))
                          · have f203 : (0 : Int) ≤ a2 ∧ a2 ≤ (5 : Int) := ii fa2 (r_eq2 f199 q201) (by decide) (by decide)
                            refine g_aload_n C rfl 0 rfl dX11_doubles_89 ?_
                            refine gf_R C fk_LandSurvey_22 rfl e167 e174 dX11_doubles_90 ?_
                            refine g_iload C 5 rfl dX11_doubles_93 ?_
                            refine g_aald (t := 4) C e175 rfl (by decide) rfl e180 (ix f155 (by decide) (by decide)) e182 dX11_doubles_95 ?_
                            refine g_aload_n C rfl 0 rfl dX11_doubles_96 ?_
                            refine gf_R C fk_LandSurvey_22 rfl e167 e174 dX11_doubles_97 ?_
                            refine g_iload C 6 rfl dX11_doubles_100 ?_
                            refine g_aald (t := 4) C e175 rfl (by decide) rfl e180 (ix f173 (by decide) (by decide)) e194 dX11_doubles_102 ?_
                            refine g_callI (st := []) (gc_S C lk_LandSurvey_321 (k_X11_areDoubles l D cy w z0 O163 t185 t196) rfl ⟨by decide, by decide⟩ (Nat.le_of_ble_eq_true rfl) dX11_doubles_103 ⟨(by decide), (by decide)⟩) (fun r204 h205 f207 K206 => ?_)
                            obtain ⟨O208, F209, f210⟩ := K206
                            refine g_if_eq C (iw f210 (by decide) (by decide)) 146 (by decide) dX11_doubles_106 (fun q211 => ?_) (fun q212 => ?_)
                            · have f213 : (0 : Int) ≤ r204 ∧ r204 ≤ (0 : Int) := ii f210 (r_eq (il 0) q211) (by decide) (by decide)
                              have f214 : (1 : Int) ≤ (x158 + 1) ∧ (x158 + 1) ≤ (40 : Int) := ia_add f173 (il 1) (by decide) (by decide)
                              refine g_iinc C [(6, .inl (x158 + 1)), (0, .inr (.inr a0)), (1, .inl a1), (2, .inl a2), (3, .inl a3), (4, .inl x157), (5, .inl x141)] 6 rfl (by decide) rfl dX11_doubles_146 ?_
                              refine g_goto C 52 (by decide) dX11_doubles_149 ?_
                              refine GW.sub [1, 2, 3, 4, 5, 6, 0] rfl ?_
                              exact ih161 _ (by omega) x157 (x158 + 1) h205 rfl O208 (F164.call F209 rfl) f165 (iw f214 (by decide) (by decide))
                            · have f215 : (1 : Int) ≤ r204 ∧ r204 ≤ (1 : Int) := r_nl f210 q212
                              refine g_iload C 4 rfl dX11_doubles_109 ?_
                              refine g_iload_n C rfl 3 rfl dX11_doubles_111 ?_
                              refine g_if_eq C (iw f93 (by decide) (by decide)) 138 (by decide) dX11_doubles_112 (fun q216 => ?_) (fun q217 => ?_)
                              · have f218 : (0 : Int) ≤ a3 ∧ a3 ≤ (0 : Int) := ii f93 (r_eq (il 0) q216) (by decide) (by decide)
                                refine g_iconst C dX11_doubles_138 ?_
                                refine g_goto C 143 (by decide) dX11_doubles_139 ?_
                                have f219 : (-2147483648 : Int) ≤ (w32 (x157 + 1)) ∧ (w32 (x157 + 1)) ≤ (2147483647 : Int) := w32_inR _
                                refine g_iaddW C dX11_doubles_143 ?_
                                refine g_istore C [(4, .inl (w32 (x157 + 1))), (0, .inr (.inr a0)), (1, .inl a1), (2, .inl a2), (3, .inl a3), (5, .inl x141), (6, .inl x158)] (by decide) rfl dX11_doubles_144 ?_
                                have f220 : (1 : Int) ≤ (x158 + 1) ∧ (x158 + 1) ≤ (40 : Int) := ia_add f173 (il 1) (by decide) (by decide)
                                refine g_iinc C [(6, .inl (x158 + 1)), (4, .inl (w32 (x157 + 1))), (0, .inr (.inr a0)), (1, .inl a1), (2, .inl a2), (3, .inl a3), (5, .inl x141)] 6 rfl (by decide) rfl dX11_doubles_146 ?_
                                refine g_goto C 52 (by decide) dX11_doubles_149 ?_
                                refine GW.sub [2, 3, 4, 5, 1, 6, 0] rfl ?_
                                exact ih161 _ (by omega) (w32 (x157 + 1)) (x158 + 1) h205 rfl O208 (F164.call F209 rfl) f219 (iw f220 (by decide) (by decide))
                              · have f221 : (1 : Int) ≤ a3 ∧ a3 ≤ (1 : Int) := r_nl f93 q217
                                refine g_aload_n C rfl 0 rfl dX11_doubles_115 ?_
                                have e222 : Tg h205 a0 = 11 := (fxT F209 e167)
                                have e223 : Rv h205 a0 3 = v1 := ((fxR F209 e167 rfl).trans e174)
                                refine gf_R C fk_LandSurvey_22 rfl e222 e223 dX11_doubles_116 ?_
                                refine g_iload C 5 rfl dX11_doubles_119 ?_
                                have e224 : Tg h205 v1 = 38104 := (fxT F209 e175)
                                have e225 : Ln h205 v1 = 40 := ((fxL F209 e175).trans e180)
                                have e226 : Rv h205 v1 x141.toNat = v181 := ((fxRa F209 e175 ar_38104 rfl).trans e182)
                                refine g_aald (t := 4) C e224 rfl (by decide) rfl e225 (ix f155 (by decide) (by decide)) e226 dX11_doubles_121 ?_
                                have e227 : Tg h205 v181 = 9 := (fxT F209 t185)
                                obtain ⟨v228, e229⟩ : ∃ z, Iv h205 v181 14 = z := ⟨_, rfl⟩
                                have f230 := ok_I O208 e227 rI_9_14 e229
                                refine gf_I C fk_LandSurvey_175 rfl e227 e229 dX11_doubles_122 ?_
                                refine g_aload_n C rfl 0 rfl dX11_doubles_125 ?_
                                refine gf_R C fk_LandSurvey_22 rfl e222 e223 dX11_doubles_126 ?_
                                refine g_iload C 6 rfl dX11_doubles_129 ?_
                                have e231 : Rv h205 v1 x158.toNat = v193 := ((fxRa F209 e175 ar_38104 rfl).trans e194)
                                refine g_aald (t := 4) C e224 rfl (by decide) rfl e225 (ix f173 (by decide) (by decide)) e231 dX11_doubles_131 ?_
                                have e232 : Tg h205 v193 = 9 := (fxT F209 t196)
                                obtain ⟨v233, e234⟩ : ∃ z, Iv h205 v193 14 = z := ⟨_, rfl⟩
                                have f235 := ok_I O208 e232 rI_9_14 e234
                                refine gf_I C fk_LandSurvey_175 rfl e232 e234 dX11_doubles_132 ?_
                                refine g_icmp_ne C (iw f230 (by decide) (by decide)) (iw f235 (by decide) (by decide)) 142 (by decide) dX11_doubles_135 (fun q236 => ?_) (fun q237 => ?_)
                                · refine g_iconst C dX11_doubles_142 ?_
                                  have f238 : (-2147483648 : Int) ≤ (x157 + 0) ∧ (x157 + 0) ≤ (2147483647 : Int) := ia_add f165 (il 0) (by decide) (by decide)
                                  refine g_iadd C dX11_doubles_143 ?_
                                  refine g_istore C [(4, .inl (x157 + 0)), (0, .inr (.inr a0)), (1, .inl a1), (2, .inl a2), (3, .inl a3), (5, .inl x141), (6, .inl x158)] (by decide) rfl dX11_doubles_144 ?_
                                  have f239 : (1 : Int) ≤ (x158 + 1) ∧ (x158 + 1) ≤ (40 : Int) := ia_add f173 (il 1) (by decide) (by decide)
                                  refine g_iinc C [(6, .inl (x158 + 1)), (4, .inl (x157 + 0)), (0, .inr (.inr a0)), (1, .inl a1), (2, .inl a2), (3, .inl a3), (5, .inl x141)] 6 rfl (by decide) rfl dX11_doubles_146 ?_
                                  refine g_goto C 52 (by decide) dX11_doubles_149 ?_
                                  refine GW.sub [2, 3, 4, 5, 1, 6, 0] rfl ?_
                                  exact ih161 _ (by omega) (x157 + 0) (x158 + 1) h205 rfl O208 (F164.call F209 rfl) f238 (iw f239 (by decide) (by decide))
                                · refine g_iconst C dX11_doubles_138 ?_
                                  refine g_goto C 143 (by decide) dX11_doubles_139 ?_
                                  have f240 : (-2147483648 : Int) ≤ (w32 (x157 + 1)) ∧ (w32 (x157 + 1)) ≤ (2147483647 : Int) := w32_inR _
                                  refine g_iaddW C dX11_doubles_143 ?_
                                  refine g_istore C [(4, .inl (w32 (x157 + 1))), (0, .inr (.inr a0)), (1, .inl a1), (2, .inl a2), (3, .inl a3), (5, .inl x141), (6, .inl x158)] (by decide) rfl dX11_doubles_144 ?_
                                  have f241 : (1 : Int) ≤ (x158 + 1) ∧ (x158 + 1) ≤ (40 : Int) := ia_add f173 (il 1) (by decide) (by decide)
                                  refine g_iinc C [(6, .inl (x158 + 1)), (4, .inl (w32 (x157 + 1))), (0, .inr (.inr a0)), (1, .inl a1), (2, .inl a2), (3, .inl a3), (5, .inl x141)] 6 rfl (by decide) rfl dX11_doubles_146 ?_
                                  refine g_goto C 52 (by decide) dX11_doubles_149 ?_
                                  refine GW.sub [2, 3, 4, 5, 1, 6, 0] rfl ?_
                                  exact ih161 _ (by omega) (w32 (x157 + 1)) (x158 + 1) h205 rfl O208 (F164.call F209 rfl) f240 (iw f241 (by decide) (by decide))
                  exact L160 _ x140 0 h142 rfl O146 Fx.rf f148 (iw (il 0) (by decide) (by decide))
            exact L143 _ 0 0 h98 rfl O101 Fx.rf (iw (il 0) (by decide) (by decide)) (iw (il 0) (by decide) (by decide))
          · have f242 : (2 : Int) ≤ a3 ∧ a3 ≤ (2147483647 : Int) := r_gt f90 (il 1) q92 (by decide) (by decide)
            refine g_iconst C dX11_doubles_28 ?_
            have e243 : Tg h57 a0 = 11 := (fxT F61 ta0)
            have p244 := (XInv_fx O60 F73 e243 rfl (XInv_fx O F61 ta0 rfl P_XInv))
            exact g_iret C hr rfl (iw (il (-1)) (by decide) (by decide)) ⟨O72, (((Fx.rf (wr := wr_k_X11_doubles)).call F61 rfl).call F73 rfl), (iw (il (-1)) (by decide) (by decide)), p244⟩ (by decide) (by decide) dX11_doubles_29
def wr_k_X11_question : List Nat := [605, 3220200]
set_option maxRecDepth 100000 in
set_option maxHeartbeats 4000000 in
theorem k_X11_question (l : Launch) (D : va_G) (cy : Nat → ClassId) (w : Nat → Nat) (z0 : Nat)  {h : Hp} {a0 : Nat} {a1 : Int} {a2 : Int} {a3 : Int}  (O : Okh h) (ta0 : Tg h a0 = 11) (fa1 : (-2147483648) ≤ a1 ∧ a1 ≤ 2147483647) (fa2 : (-2147483648) ≤ a2 ∧ a2 ≤ 2147483647) (fa3 : 0 ≤ a3 ∧ a3 ≤ 1) (P_XInv : XInv h a0) : MI l D cy w z0 yX11_question cX11_question 5 (some .boolean) 1 21 0 0 [.inr (.inr a0), .inl a1, .inl a2, .inl a3] h (fun v h1 => Okh h1 ∧ Fx wr_k_X11_question h h1 ∧ (0 ≤ v ∧ v ≤ 1) ∧ (XInv h1 a0)) := by
  obtain ⟨v1, e2⟩ : ∃ z, Rv h a0 3 = z := ⟨_, rfl⟩
  have t3 := ok_R O ta0 rE_11_3 e2
  have l4 := ok_L O ta0 rE_11_3 e2
  obtain ⟨v5, e6⟩ : ∃ z, Iv h a0 4 = z := ⟨_, rfl⟩
  have f7 := ok_I O ta0 rI_11_4 e6
  obtain ⟨v8, e9⟩ : ∃ z, Rv h a0 8 = z := ⟨_, rfl⟩
  have t10 := ok_R O ta0 rE_11_8 e9
  have l11 := ok_L O ta0 rE_11_8 e9
  obtain ⟨v12, e13⟩ : ∃ z, Iv h a0 9 = z := ⟨_, rfl⟩
  have f14 := ok_I O ta0 rI_11_9 e13
  obtain ⟨v15, e16⟩ : ∃ z, Rv h a0 11 = z := ⟨_, rfl⟩
  have t17 := ok_R O ta0 rE_11_11 e16
  have l18 := ok_L O ta0 rE_11_11 e16
  obtain ⟨v19, e20⟩ : ∃ z, Iv h a0 12 = z := ⟨_, rfl⟩
  have f21 := ok_I O ta0 rI_11_12 e20
  obtain ⟨v22, e23⟩ : ∃ z, Iv h a0 15 = z := ⟨_, rfl⟩
  have f24 := ok_I O ta0 rI_11_15 e23
  obtain ⟨v25, e26⟩ : ∃ z, Rv h a0 14 = z := ⟨_, rfl⟩
  have t27 := ok_R O ta0 rE_11_14 e26
  have l28 := ok_L O ta0 rE_11_14 e26
  obtain ⟨v29, e30⟩ : ∃ z, Rv h a0 13 = z := ⟨_, rfl⟩
  have t31 := ok_R O ta0 rE_11_13 e30
  obtain ⟨v32, e33⟩ : ∃ z, Rv h a0 6 = z := ⟨_, rfl⟩
  have t34 := ok_R O ta0 rE_11_6 e33
  obtain ⟨v35, e36⟩ : ∃ z, Rv h a0 7 = z := ⟨_, rfl⟩
  have t37 := ok_R O ta0 rE_11_7 e36
  have p49 := P_XInv
  unfold XInv at p49
  rw [e2, e6, e9, e13, e16, e20, e23, e26, e30, e33, e36] at p49
  obtain ⟨p38, p39, p40, p41, p42, p43, p44, p45, p46, p47, p48⟩ := p49
  obtain ⟨v50, e51⟩ : ∃ z, Iv h v29 3 = z := ⟨_, rfl⟩
  have f52 := ok_I O t31 rI_7_3 e51
  obtain ⟨v53, e54⟩ : ∃ z, Iv h v29 4 = z := ⟨_, rfl⟩
  have f55 := ok_I O t31 rI_7_4 e54
  rw [e51] at p44
  rw [e54] at p45
  refine hm_go (by decide +kernel) (Nat.le_of_ble_eq_true rfl) (fun p e s m below meth c C hr hn => ?_)
  refine g_iload_n C rfl 1 rfl dX11_question_0 ?_
  refine g_iload_n C rfl 2 rfl dX11_question_1 ?_
  refine g_callI (st := []) (gc_S C lk_LandSurvey_85 (k_X11_cellAt l D cy w z0 O fa1 fa2) rfl ⟨by decide, by decide⟩ (Nat.le_of_ble_eq_true rfl) dX11_question_2 ⟨(by decide), (by decide)⟩) (fun r56 h57 f59 K58 => ?_)
  obtain ⟨O60, F61, f62, p63⟩ := K58
  refine g_istore C [(4, .inl r56), (0, .inr (.inr a0)), (1, .inl a1), (2, .inl a2), (3, .inl a3)] (by decide) rfl dX11_question_5 ?_
  refine g_iload C 0 rfl dX11_question_7 ?_
  refine g_iconst C dX11_question_9 ?_
  refine g_icmp_ne C (iw f62 (by decide) (by decide)) (iw (il (-1)) (by decide) (by decide)) 15 (by decide) dX11_question_10 (fun q64 => ?_) (fun q65 => ?_)
  · have f66 : (0 : Int) ≤ r56 ∧ r56 ≤ (95 : Int) := r_nl f62 q64
    refine g_aload_n C rfl 1 rfl dX11_question_15 ?_
    have e67 : Tg h57 a0 = 11 := (fxT F61 ta0)
    obtain ⟨v68, e69⟩ : ∃ z, Rv h57 a0 2 = z := ⟨_, rfl⟩
    have t70 := ok_R O60 e67 rE_11_2 e69
    refine gf_R C fk_LandSurvey_16 rfl e67 e69 dX11_question_16 ?_
    obtain ⟨v71, e72⟩ : ∃ z, Rv h57 v68 4 = z := ⟨_, rfl⟩
    have t73 := ok_R O60 t70 rE_3_4 e72
    have l74 := ok_L O60 t70 rE_3_4 e72
    refine gf_R C fk_LandSurvey_331 rfl t70 e72 dX11_question_19 ?_
    refine g_iload C 0 rfl dX11_question_22 ?_
    obtain ⟨v75, e76⟩ : ∃ z, Iv h57 v71 r56.toNat = z := ⟨_, rfl⟩
    have f77 := ok_Ia O60 t73 ar_16101 rI_16101_0 e76
    refine g_zald C t73 rfl l74 (ix f66 (by decide) (by decide)) e76 dX11_question_24 ?_
    refine g_iload_n C rfl 4 rfl dX11_question_25 ?_
    refine g_icmp_ne C (iw f77 (by decide) (by decide)) (iw fa3 (by decide) (by decide)) 31 (by decide) dX11_question_26 (fun q78 => ?_) (fun q79 => ?_)
    · refine g_iload_n C rfl 4 rfl dX11_question_31 ?_
      refine g_if_eq C (iw fa3 (by decide) (by decide)) 49 (by decide) dX11_question_32 (fun q80 => ?_) (fun q81 => ?_)
      · have f82 : (0 : Int) ≤ a3 ∧ a3 ≤ (0 : Int) := ii fa3 (r_eq (il 0) q80) (by decide) (by decide)
        refine g_aload_n C rfl 1 rfl dX11_question_49 ?_
        refine gf_R C fk_LandSurvey_16 rfl e67 e69 dX11_question_50 ?_
        refine gf_R C fk_LandSurvey_331 rfl t70 e72 dX11_question_53 ?_
        refine g_iload C 0 rfl dX11_question_56 ?_
        refine g_iload_n C rfl 4 rfl dX11_question_58 ?_
        refine g_zast C t73 rfl l74 (ix f66 (by decide) (by decide)) (iw f82 (by decide) (by decide)) dX11_question_59 (fun h84 hh83 => ?_)
        have O85 := O60.pIa t73 ar_16101 hh83 rI_16101_0 (iw f82 (by decide) (by decide)) nofun
        refine g_aload_n C rfl 1 rfl dX11_question_60 ?_
        have e86 : Tg h84 a0 = 11 := ((pIT hh83).trans e67)
        have e87 : Rv h84 a0 2 = v68 := ((pIR hh83).trans e69)
        refine gf_R C fk_LandSurvey_16 rfl e86 e87 dX11_question_61 ?_
        refine g_dup C rfl dX11_question_64 ?_
        have e88 : Tg h84 v68 = 3 := ((pIT hh83).trans t70)
        obtain ⟨v89, e90⟩ : ∃ z, Iv h84 v68 5 = z := ⟨_, rfl⟩
        have f91 := ok_I O85 e88 rI_3_5 e90
        refine gf_I C fk_LandSurvey_334 rfl e88 e90 dX11_question_65 ?_
        refine g_iload_n C rfl 4 rfl dX11_question_68 ?_
        refine g_if_eq C (iw f82 (by decide) (by decide)) 76 (by decide) dX11_question_69 (fun q92 => ?_) (fun q93 => ?_)
        · refine g_iconst C dX11_question_76 ?_
          have f94 : (-2147483648 : Int) ≤ (w32 (v89 + (-1))) ∧ (w32 (v89 + (-1))) ≤ (2147483647 : Int) := w32_inR _
          refine g_iaddW C dX11_question_77 ?_
          refine gp_I C fk_LandSurvey_334 pk_LandSurvey_Land_5 rfl e88 f94 (nf_i _) dX11_question_78 (fun h96 hh95 => ?_)
          have O97 := O85.pI e88 hh95 rI_3_5 f94 nofun
          refine g_iconst C dX11_question_81 ?_
          have p98 := (XInv_fx O85 ((Fx.rf (wr := [605]) (h := h84)).pI e88 hh95 rfl) e86 rfl (XInv_fx O60 ((Fx.rf (wr := [3220200]) (h := h57)).pIa t73 ar_16101 hh83 rfl) e67 rfl (XInv_fx O F61 ta0 rfl P_XInv)))
          exact g_iret C hr (nar_z2 (iw (il 1) (by decide) (by decide))).1 (iw (il 1) (by decide) (by decide)) ⟨O97, ((((Fx.rf (wr := wr_k_X11_question)).call F61 rfl).pIa t73 ar_16101 hh83 rfl).pI e88 hh95 rfl), (iw (il 1) (by decide) (by decide)), p98⟩ (by decide) (by decide) dX11_question_82
        · exact (no_ne f82 (il 0) q93 (by decide)).elim
      · have f99 : (1 : Int) ≤ a3 ∧ a3 ≤ (1 : Int) := r_nl fa3 q81
        refine g_aload_n C rfl 1 rfl dX11_question_35 ?_
        refine gf_R C fk_LandSurvey_16 rfl e67 e69 dX11_question_36 ?_
        obtain ⟨v100, e101⟩ : ∃ z, Iv h57 v68 5 = z := ⟨_, rfl⟩
        have f102 := ok_I O60 t70 rI_3_5 e101
        refine gf_I C fk_LandSurvey_334 rfl t70 e101 dX11_question_39 ?_
        refine g_bipush C (by decide) dX11_question_42 ?_
        refine g_icmp_lt C f102 (iw (il 8) (by decide) (by decide)) 49 (by decide) dX11_question_44 (fun q103 => ?_) (fun q104 => ?_)
        · have f105 : (-2147483648 : Int) ≤ v100 ∧ v100 ≤ (7 : Int) := r_lt f102 (il 8) q103 (by decide) (by decide)
          refine g_aload_n C rfl 1 rfl dX11_question_49 ?_
          refine gf_R C fk_LandSurvey_16 rfl e67 e69 dX11_question_50 ?_
          refine gf_R C fk_LandSurvey_331 rfl t70 e72 dX11_question_53 ?_
          refine g_iload C 0 rfl dX11_question_56 ?_
          refine g_iload_n C rfl 4 rfl dX11_question_58 ?_
          refine g_zast C t73 rfl l74 (ix f66 (by decide) (by decide)) (iw f99 (by decide) (by decide)) dX11_question_59 (fun h107 hh106 => ?_)
          have O108 := O60.pIa t73 ar_16101 hh106 rI_16101_0 (iw f99 (by decide) (by decide)) nofun
          refine g_aload_n C rfl 1 rfl dX11_question_60 ?_
          have e109 : Tg h107 a0 = 11 := ((pIT hh106).trans e67)
          have e110 : Rv h107 a0 2 = v68 := ((pIR hh106).trans e69)
          refine gf_R C fk_LandSurvey_16 rfl e109 e110 dX11_question_61 ?_
          refine g_dup C rfl dX11_question_64 ?_
          have e111 : Tg h107 v68 = 3 := ((pIT hh106).trans t70)
          have e112 : Iv h107 v68 5 = v100 := ((pI_n hh106 (ne_tag t70 t73 (by decide))).trans e101)
          refine gf_I C fk_LandSurvey_334 rfl e111 e112 dX11_question_65 ?_
          refine g_iload_n C rfl 4 rfl dX11_question_68 ?_
          refine g_if_eq C (iw f99 (by decide) (by decide)) 76 (by decide) dX11_question_69 (fun q113 => ?_) (fun q114 => ?_)
          · exact (no_eq f99 (il 0) q113 (by decide)).elim
          · refine g_iconst C dX11_question_72 ?_
            refine g_goto C 77 (by decide) dX11_question_73 ?_
            have f115 : (-2147483647 : Int) ≤ (v100 + 1) ∧ (v100 + 1) ≤ (8 : Int) := ia_add f105 (il 1) (by decide) (by decide)
            refine g_iadd C dX11_question_77 ?_
            refine gp_I C fk_LandSurvey_334 pk_LandSurvey_Land_5 rfl e111 (iw f115 (by decide) (by decide)) (nf_i _) dX11_question_78 (fun h117 hh116 => ?_)
            have O118 := O108.pI e111 hh116 rI_3_5 (iw f115 (by decide) (by decide)) nofun
            refine g_iconst C dX11_question_81 ?_
            have p119 := (XInv_fx O108 ((Fx.rf (wr := [605]) (h := h107)).pI e111 hh116 rfl) e109 rfl (XInv_fx O60 ((Fx.rf (wr := [3220200]) (h := h57)).pIa t73 ar_16101 hh106 rfl) e67 rfl (XInv_fx O F61 ta0 rfl P_XInv)))
            exact g_iret C hr (nar_z2 (iw (il 1) (by decide) (by decide))).1 (iw (il 1) (by decide) (by decide)) ⟨O118, ((((Fx.rf (wr := wr_k_X11_question)).call F61 rfl).pIa t73 ar_16101 hh106 rfl).pI e111 hh116 rfl), (iw (il 1) (by decide) (by decide)), p119⟩ (by decide) (by decide) dX11_question_82
        · have f120 : (8 : Int) ≤ v100 ∧ v100 ≤ (2147483647 : Int) := r_ge f102 (il 8) q104 (by decide) (by decide)
          refine g_iconst C dX11_question_47 ?_
          have p121 := (XInv_fx O F61 ta0 rfl P_XInv)
          exact g_iret C hr (nar_z2 (iw (il 0) (by decide) (by decide))).1 (iw (il 0) (by decide) (by decide)) ⟨O60, ((Fx.rf (wr := wr_k_X11_question)).call F61 rfl), (iw (il 0) (by decide) (by decide)), p121⟩ (by decide) (by decide) dX11_question_48
    · refine g_iconst C dX11_question_29 ?_
      have p122 := (XInv_fx O F61 ta0 rfl P_XInv)
      exact g_iret C hr (nar_z2 (iw (il 1) (by decide) (by decide))).1 (iw (il 1) (by decide) (by decide)) ⟨O60, ((Fx.rf (wr := wr_k_X11_question)).call F61 rfl), (iw (il 1) (by decide) (by decide)), p122⟩ (by decide) (by decide) dX11_question_30
  · have f123 : (-1 : Int) ≤ r56 ∧ r56 ≤ (-1 : Int) := ii f62 (r_eq (il (-1)) q65) (by decide) (by decide)
    refine g_iconst C dX11_question_13 ?_
    have p124 := (XInv_fx O F61 ta0 rfl P_XInv)
    exact g_iret C hr (nar_z2 (iw (il 0) (by decide) (by decide))).1 (iw (il 0) (by decide) (by decide)) ⟨O60, ((Fx.rf (wr := wr_k_X11_question)).call F61 rfl), (iw (il 0) (by decide) (by decide)), p124⟩ (by decide) (by decide) dX11_question_14
def wr_k_X11_place : List Nat := [608, 3420000, 3620000]
set_option maxRecDepth 100000 in
set_option maxHeartbeats 4000000 in
theorem k_X11_place (l : Launch) (D : va_G) (cy : Nat → ClassId) (w : Nat → Nat) (z0 : Nat)  {h : Hp} {a0 : Nat} {a1 : Int} {a2 : Int} {a3 : Int}  (O : Okh h) (ta0 : Tg h a0 = 11) (fa1 : (-2147483648) ≤ a1 ∧ a1 ≤ 2147483647) (fa2 : (-2147483648) ≤ a2 ∧ a2 ≤ 2147483647) (fa3 : (-2147483648) ≤ a3 ∧ a3 ≤ 2147483647) (P_XInv : XInv h a0) : MI l D cy w z0 yX11_place cX11_place 5 (some .int) 1 21 0 0 [.inr (.inr a0), .inl a1, .inl a2, .inl a3] h (fun v h1 => Okh h1 ∧ Fx wr_k_X11_place h h1 ∧ ((-2147483648) ≤ v ∧ v ≤ 2147483647) ∧ (XInv h1 a0)) := by
  obtain ⟨v1, e2⟩ : ∃ z, Rv h a0 3 = z := ⟨_, rfl⟩
  have t3 := ok_R O ta0 rE_11_3 e2
  have l4 := ok_L O ta0 rE_11_3 e2
  obtain ⟨v5, e6⟩ : ∃ z, Iv h a0 4 = z := ⟨_, rfl⟩
  have f7 := ok_I O ta0 rI_11_4 e6
  obtain ⟨v8, e9⟩ : ∃ z, Rv h a0 8 = z := ⟨_, rfl⟩
  have t10 := ok_R O ta0 rE_11_8 e9
  have l11 := ok_L O ta0 rE_11_8 e9
  obtain ⟨v12, e13⟩ : ∃ z, Iv h a0 9 = z := ⟨_, rfl⟩
  have f14 := ok_I O ta0 rI_11_9 e13
  obtain ⟨v15, e16⟩ : ∃ z, Rv h a0 11 = z := ⟨_, rfl⟩
  have t17 := ok_R O ta0 rE_11_11 e16
  have l18 := ok_L O ta0 rE_11_11 e16
  obtain ⟨v19, e20⟩ : ∃ z, Iv h a0 12 = z := ⟨_, rfl⟩
  have f21 := ok_I O ta0 rI_11_12 e20
  obtain ⟨v22, e23⟩ : ∃ z, Iv h a0 15 = z := ⟨_, rfl⟩
  have f24 := ok_I O ta0 rI_11_15 e23
  obtain ⟨v25, e26⟩ : ∃ z, Rv h a0 14 = z := ⟨_, rfl⟩
  have t27 := ok_R O ta0 rE_11_14 e26
  have l28 := ok_L O ta0 rE_11_14 e26
  obtain ⟨v29, e30⟩ : ∃ z, Rv h a0 13 = z := ⟨_, rfl⟩
  have t31 := ok_R O ta0 rE_11_13 e30
  obtain ⟨v32, e33⟩ : ∃ z, Rv h a0 6 = z := ⟨_, rfl⟩
  have t34 := ok_R O ta0 rE_11_6 e33
  obtain ⟨v35, e36⟩ : ∃ z, Rv h a0 7 = z := ⟨_, rfl⟩
  have t37 := ok_R O ta0 rE_11_7 e36
  have p49 := P_XInv
  unfold XInv at p49
  rw [e2, e6, e9, e13, e16, e20, e23, e26, e30, e33, e36] at p49
  obtain ⟨p38, p39, p40, p41, p42, p43, p44, p45, p46, p47, p48⟩ := p49
  obtain ⟨v50, e51⟩ : ∃ z, Iv h v29 3 = z := ⟨_, rfl⟩
  have f52 := ok_I O t31 rI_7_3 e51
  obtain ⟨v53, e54⟩ : ∃ z, Iv h v29 4 = z := ⟨_, rfl⟩
  have f55 := ok_I O t31 rI_7_4 e54
  rw [e51] at p44
  rw [e54] at p45
  refine hm_go (by decide +kernel) (Nat.le_of_ble_eq_true rfl) (fun p e s m below meth c C hr hn => ?_)
  refine g_iload_n C rfl 1 rfl dX11_place_0 ?_
  refine g_iload_n C rfl 2 rfl dX11_place_1 ?_
  refine g_callI (st := []) (gc_S C lk_LandSurvey_85 (k_X11_cellAt l D cy w z0 O fa1 fa2) rfl ⟨by decide, by decide⟩ (Nat.le_of_ble_eq_true rfl) dX11_place_2 ⟨(by decide), (by decide)⟩) (fun r56 h57 f59 K58 => ?_)
  obtain ⟨O60, F61, f62, p63⟩ := K58
  refine g_istore C [(4, .inl r56), (0, .inr (.inr a0)), (1, .inl a1), (2, .inl a2), (3, .inl a3)] (by decide) rfl dX11_place_5 ?_
  refine g_iload C 0 rfl dX11_place_7 ?_
  refine g_iconst C dX11_place_9 ?_
  refine g_icmp_eq C (iw f62 (by decide) (by decide)) (iw (il (-1)) (by decide) (by decide)) 36 (by decide) dX11_place_10 (fun q64 => ?_) (fun q65 => ?_)
  · have f66 : (-1 : Int) ≤ r56 ∧ r56 ≤ (-1 : Int) := ii f62 (r_eq (il (-1)) q64) (by decide) (by decide)
    refine g_iconst C dX11_place_36 ?_
    have p67 := (XInv_fx O F61 ta0 rfl P_XInv)
    exact g_iret C hr rfl (iw (il (-1)) (by decide) (by decide)) ⟨O60, ((Fx.rf (wr := wr_k_X11_place)).call F61 rfl), (iw (il (-1)) (by decide) (by decide)), p67⟩ (by decide) (by decide) dX11_place_37
  · have f68 : (0 : Int) ≤ r56 ∧ r56 ≤ (95 : Int) := r_nl f62 q65
    refine g_iload_n C rfl 4 rfl dX11_place_13 ?_
    refine g_iconst C dX11_place_14 ?_
    refine g_icmp_lt C fa3 (iw (il 1) (by decide) (by decide)) 36 (by decide) dX11_place_15 (fun q69 => ?_) (fun q70 => ?_)
    · have f71 : (-2147483648 : Int) ≤ a3 ∧ a3 ≤ (0 : Int) := r_lt fa3 (il 1) q69 (by decide) (by decide)
      refine g_iconst C dX11_place_36 ?_
      have p72 := (XInv_fx O F61 ta0 rfl P_XInv)
      exact g_iret C hr rfl (iw (il (-1)) (by decide) (by decide)) ⟨O60, ((Fx.rf (wr := wr_k_X11_place)).call F61 rfl), (iw (il (-1)) (by decide) (by decide)), p72⟩ (by decide) (by decide) dX11_place_37
    · have f73 : (1 : Int) ≤ a3 ∧ a3 ≤ (2147483647 : Int) := r_ge fa3 (il 1) q70 (by decide) (by decide)
      refine g_iload_n C rfl 4 rfl dX11_place_18 ?_
      refine g_bipush C (by decide) dX11_place_19 ?_
      refine g_icmp_gt C (iw f73 (by decide) (by decide)) (iw (il 99) (by decide) (by decide)) 36 (by decide) dX11_place_21 (fun q74 => ?_) (fun q75 => ?_)
      · have f76 : (100 : Int) ≤ a3 ∧ a3 ≤ (2147483647 : Int) := r_gt f73 (il 99) q74 (by decide) (by decide)
        refine g_iconst C dX11_place_36 ?_
        have p77 := (XInv_fx O F61 ta0 rfl P_XInv)
        exact g_iret C hr rfl (iw (il (-1)) (by decide) (by decide)) ⟨O60, ((Fx.rf (wr := wr_k_X11_place)).call F61 rfl), (iw (il (-1)) (by decide) (by decide)), p77⟩ (by decide) (by decide) dX11_place_37
      · have f78 : (1 : Int) ≤ a3 ∧ a3 ≤ (99 : Int) := r_le f73 (il 99) q75 (by decide) (by decide)
        refine g_aload_n C rfl 1 rfl dX11_place_24 ?_
        have e79 : Tg h57 a0 = 11 := (fxT F61 ta0)
        obtain ⟨v80, e81⟩ : ∃ z, Rv h57 a0 2 = z := ⟨_, rfl⟩
        have t82 := ok_R O60 e79 rE_11_2 e81
        refine gf_R C fk_LandSurvey_16 rfl e79 e81 dX11_place_25 ?_
        obtain ⟨v83, e84⟩ : ∃ z, Iv h57 v80 8 = z := ⟨_, rfl⟩
        have f85 := ok_I O60 t82 rI_3_8 e84
        refine gf_I C fk_LandSurvey_337 rfl t82 e84 dX11_place_28 ?_
        refine g_bipush C (by decide) dX11_place_31 ?_
        refine g_icmp_lt C (iw f85 (by decide) (by decide)) (iw (il 8) (by decide) (by decide)) 38 (by decide) dX11_place_33 (fun q86 => ?_) (fun q87 => ?_)
        · have f88 : (0 : Int) ≤ v83 ∧ v83 ≤ (7 : Int) := r_lt f85 (il 8) q86 (by decide) (by decide)
          refine g_aload_n C rfl 1 rfl dX11_place_38 ?_
          refine gf_R C fk_LandSurvey_16 rfl e79 e81 dX11_place_39 ?_
          obtain ⟨v89, e90⟩ : ∃ z, Rv h57 v80 6 = z := ⟨_, rfl⟩
          have t91 := ok_R O60 t82 rE_3_6 e90
          have l92 := ok_L O60 t82 rE_3_6 e90
          refine gf_R C fk_LandSurvey_340 rfl t82 e90 dX11_place_42 ?_
          refine g_aload_n C rfl 1 rfl dX11_place_45 ?_
          refine gf_R C fk_LandSurvey_16 rfl e79 e81 dX11_place_46 ?_
          refine gf_I C fk_LandSurvey_337 rfl t82 e84 dX11_place_49 ?_
          refine g_iload C 0 rfl dX11_place_52 ?_
          refine g_iast C t91 rfl l92 (ix f88 (by decide) (by decide)) (iw f68 (by decide) (by decide)) dX11_place_54 (fun h94 hh93 => ?_)
          have O95 := O60.pIa t91 ar_17100 hh93 rI_17100_0 f68 nofun
          refine g_aload_n C rfl 1 rfl dX11_place_55 ?_
          have e96 : Tg h94 a0 = 11 := ((pIT hh93).trans e79)
          have e97 : Rv h94 a0 2 = v80 := ((pIR hh93).trans e81)
          refine gf_R C fk_LandSurvey_16 rfl e96 e97 dX11_place_56 ?_
          have e98 : Tg h94 v80 = 3 := ((pIT hh93).trans t82)
          obtain ⟨v99, e100⟩ : ∃ z, Rv h94 v80 7 = z := ⟨_, rfl⟩
          have t101 := ok_R O95 e98 rE_3_7 e100
          have l102 := ok_L O95 e98 rE_3_7 e100
          refine gf_R C fk_LandSurvey_343 rfl e98 e100 dX11_place_59 ?_
          refine g_aload_n C rfl 1 rfl dX11_place_62 ?_
          refine gf_R C fk_LandSurvey_16 rfl e96 e97 dX11_place_63 ?_
          have e103 : Iv h94 v80 8 = v83 := ((pI_n hh93 (ne_tag t82 t91 (by decide))).trans e84)
          refine gf_I C fk_LandSurvey_337 rfl e98 e103 dX11_place_66 ?_
          refine g_iload_n C rfl 4 rfl dX11_place_69 ?_
          refine g_iast C t101 rfl l102 (ix f88 (by decide) (by decide)) (iw f78 (by decide) (by decide)) dX11_place_70 (fun h105 hh104 => ?_)
          have O106 := O95.pIa t101 ar_18100 hh104 rI_18100_0 (iw f78 (by decide) (by decide)) nofun
          refine g_aload_n C rfl 1 rfl dX11_place_71 ?_
          have e107 : Tg h105 a0 = 11 := ((pIT hh104).trans e96)
          have e108 : Rv h105 a0 2 = v80 := ((pIR hh104).trans e97)
          refine gf_R C fk_LandSurvey_16 rfl e107 e108 dX11_place_72 ?_
          refine g_dup C rfl dX11_place_75 ?_
          have e109 : Tg h105 v80 = 3 := ((pIT hh104).trans e98)
          have e110 : Iv h105 v80 8 = v83 := ((pI_n hh104 (ne_tag e98 t101 (by decide))).trans e103)
          refine gf_I C fk_LandSurvey_337 rfl e109 e110 dX11_place_76 ?_
          refine g_dup_x1 C rfl rfl dX11_place_79 ?_
          refine g_iconst C dX11_place_80 ?_
          have f111 : (1 : Int) ≤ (v83 + 1) ∧ (v83 + 1) ≤ (8 : Int) := ia_add f88 (il 1) (by decide) (by decide)
          refine g_iadd C dX11_place_81 ?_
          refine gp_I C fk_LandSurvey_337 pk_LandSurvey_Land_8 rfl e109 (iw f111 (by decide) (by decide)) (nf_i _) dX11_place_82 (fun h113 hh112 => ?_)
          have O114 := O106.pI e109 hh112 rI_3_8 (iw f111 (by decide) (by decide)) nofun
          have p115 := (XInv_fx O106 ((Fx.rf (wr := [608]) (h := h105)).pI e109 hh112 rfl) e107 rfl (XInv_fx O95 ((Fx.rf (wr := [3620000]) (h := h94)).pIa t101 ar_18100 hh104 rfl) e96 rfl (XInv_fx O60 ((Fx.rf (wr := [3420000]) (h := h57)).pIa t91 ar_17100 hh93 rfl) e79 rfl (XInv_fx O F61 ta0 rfl P_XInv))))
          exact g_iret C hr rfl (iw f88 (by decide) (by decide)) ⟨O114, (((((Fx.rf (wr := wr_k_X11_place)).call F61 rfl).pIa t91 ar_17100 hh93 rfl).pIa t101 ar_18100 hh104 rfl).pI e109 hh112 rfl), (iw f88 (by decide) (by decide)), p115⟩ (by decide) (by decide) dX11_place_85
        · have f116 : (8 : Int) ≤ v83 ∧ v83 ≤ (8 : Int) := r_ge f85 (il 8) q87 (by decide) (by decide)
          refine g_iconst C dX11_place_36 ?_
          have p117 := (XInv_fx O F61 ta0 rfl P_XInv)
          exact g_iret C hr rfl (iw (il (-1)) (by decide) (by decide)) ⟨O60, ((Fx.rf (wr := wr_k_X11_place)).call F61 rfl), (iw (il (-1)) (by decide) (by decide)), p117⟩ (by decide) (by decide) dX11_place_37
def wr_k_X11_doubt : List Nat := [401, 402, 403, 404, 405, 406, 1403, 1404, 1405, 1412, 1813, 1814, 1815, 1816, 1817, 1818, 2003, 2207, 2215, 2216, 2217, 200400, 200407, 200408, 2020000, 2220000, 7420000, 8020000, 8220400, 8420400, 8620000, 9020000, 9220400, 9420000, 9821400, 10020000, 1000000002, 1000001002, 1000010100, 1000011100]
set_option maxRecDepth 100000 in
set_option maxHeartbeats 4000000 in
theorem k_X11_doubt (l : Launch) (D : va_G) (cy : Nat → ClassId) (w : Nat → Nat) (z0 : Nat)  {h : Hp} {a0 : Nat}  (O : Okh h) (ta0 : Tg h a0 = 11) (P_XInv : XInv h a0) : MI l D cy w z0 yX11_doubt cX11_doubt 2 (some .int) 11 299 48 3216 [.inr (.inr a0)] h (fun v h1 => Okh h1 ∧ Fx wr_k_X11_doubt h h1 ∧ ((-2147483648) ≤ v ∧ v ≤ 2147483647) ∧ (XInv h1 a0)) := by
  obtain ⟨v1, e2⟩ : ∃ z, Rv h a0 3 = z := ⟨_, rfl⟩
  have t3 := ok_R O ta0 rE_11_3 e2
  have l4 := ok_L O ta0 rE_11_3 e2
  obtain ⟨v5, e6⟩ : ∃ z, Iv h a0 4 = z := ⟨_, rfl⟩
  have f7 := ok_I O ta0 rI_11_4 e6
  obtain ⟨v8, e9⟩ : ∃ z, Rv h a0 8 = z := ⟨_, rfl⟩
  have t10 := ok_R O ta0 rE_11_8 e9
  have l11 := ok_L O ta0 rE_11_8 e9
  obtain ⟨v12, e13⟩ : ∃ z, Iv h a0 9 = z := ⟨_, rfl⟩
  have f14 := ok_I O ta0 rI_11_9 e13
  obtain ⟨v15, e16⟩ : ∃ z, Rv h a0 11 = z := ⟨_, rfl⟩
  have t17 := ok_R O ta0 rE_11_11 e16
  have l18 := ok_L O ta0 rE_11_11 e16
  obtain ⟨v19, e20⟩ : ∃ z, Iv h a0 12 = z := ⟨_, rfl⟩
  have f21 := ok_I O ta0 rI_11_12 e20
  obtain ⟨v22, e23⟩ : ∃ z, Iv h a0 15 = z := ⟨_, rfl⟩
  have f24 := ok_I O ta0 rI_11_15 e23
  obtain ⟨v25, e26⟩ : ∃ z, Rv h a0 14 = z := ⟨_, rfl⟩
  have t27 := ok_R O ta0 rE_11_14 e26
  have l28 := ok_L O ta0 rE_11_14 e26
  obtain ⟨v29, e30⟩ : ∃ z, Rv h a0 13 = z := ⟨_, rfl⟩
  have t31 := ok_R O ta0 rE_11_13 e30
  obtain ⟨v32, e33⟩ : ∃ z, Rv h a0 6 = z := ⟨_, rfl⟩
  have t34 := ok_R O ta0 rE_11_6 e33
  obtain ⟨v35, e36⟩ : ∃ z, Rv h a0 7 = z := ⟨_, rfl⟩
  have t37 := ok_R O ta0 rE_11_7 e36
  have p49 := P_XInv
  unfold XInv at p49
  rw [e2, e6, e9, e13, e16, e20, e23, e26, e30, e33, e36] at p49
  obtain ⟨p38, p39, p40, p41, p42, p43, p44, p45, p46, p47, p48⟩ := p49
  obtain ⟨v50, e51⟩ : ∃ z, Iv h v29 3 = z := ⟨_, rfl⟩
  have f52 := ok_I O t31 rI_7_3 e51
  obtain ⟨v53, e54⟩ : ∃ z, Iv h v29 4 = z := ⟨_, rfl⟩
  have f55 := ok_I O t31 rI_7_4 e54
  rw [e51] at p44
  rw [e54] at p45
  refine hm_go (by decide +kernel) (Nat.le_of_ble_eq_true rfl) (fun p e s m below meth c C hr hn => ?_)
  refine g_aload_n C rfl 0 rfl dX11_doubt_0 ?_
  refine g_callR (st := []) (gc_V C lk_LandSurvey_346 (k_X11_knownBest l D cy w z0 O ta0 P_XInv) ta0 rfl rfl rfl ⟨by decide, by decide⟩ (Nat.le_of_ble_eq_true rfl) dX11_doubt_1 ⟨(by decide), (by decide)⟩) (fun r56 h57 K58 => ?_)
  obtain ⟨O60, F61, p62, p63⟩ := K58
  have e64 : Rv h57 a0 3 = v1 := ((fxR F61 ta0 rfl).trans e2)
  have e65 : Iv h57 a0 4 = v5 := ((fxI F61 ta0 rfl).trans e6)
  have e66 : Rv h57 a0 8 = v8 := ((fxR F61 ta0 rfl).trans e9)
  have e67 : Iv h57 a0 9 = v12 := ((fxI F61 ta0 rfl).trans e13)
  have e68 : Rv h57 a0 11 = v15 := ((fxR F61 ta0 rfl).trans e16)
  have e69 : Iv h57 a0 12 = v19 := ((fxI F61 ta0 rfl).trans e20)
  obtain ⟨v70, e71⟩ : ∃ z, Iv h57 a0 15 = z := ⟨_, rfl⟩
  have e72 : Tg h57 a0 = 11 := (fxT F61 ta0)
  have f73 := ok_I O60 e72 rI_11_15 e71
  have e74 : Rv h57 a0 14 = v25 := ((fxR F61 ta0 rfl).trans e26)
  have e75 : Rv h57 a0 13 = v29 := ((fxR F61 ta0 rfl).trans e30)
  have e76 : Rv h57 a0 6 = v32 := ((fxR F61 ta0 rfl).trans e33)
  obtain ⟨v77, e78⟩ : ∃ z, Rv h57 a0 7 = z := ⟨_, rfl⟩
  have t79 := ok_R O60 e72 rE_11_7 e78
  have p91 := p62
  unfold XInv at p91
  rw [e64, e65, e66, e67, e68, e69, e71, e74, e75, e76, e78] at p91
  obtain ⟨p80, p81, p82, p83, p84, p85, p86, p87, p88, p89, p90⟩ := p91
  obtain ⟨v92, e93⟩ : ∃ z, Iv h57 v29 3 = z := ⟨_, rfl⟩
  have e94 : Tg h57 v29 = 7 := (fxT F61 t31)
  have f95 := ok_I O60 e94 rI_7_3 e93
  obtain ⟨v96, e97⟩ : ∃ z, Iv h57 v29 4 = z := ⟨_, rfl⟩
  have f98 := ok_I O60 e94 rI_7_4 e97
  rw [e93] at p86
  rw [e97] at p87
  refine g_astore_n C [(1, .inr (.inr r56)), (0, .inr (.inr a0))] rfl (by decide) rfl dX11_doubt_4 ?_
  refine g_aload_n C rfl 0 rfl dX11_doubt_5 ?_
  refine g_ifnonnull C 13 (by decide) dX11_doubt_6 (fun q99 => ?_) (fun q100 => ?_)
  · have t101 := p63.resolve_left q99
    refine g_aload_n C rfl 1 rfl dX11_doubt_13 ?_
    refine g_aload_n C rfl 0 rfl dX11_doubt_14 ?_
    refine g_callI (st := []) (gc_V C lk_LandSurvey_350 (k_X11_doubtIn l D cy w z0 O60 e72 t101) e72 rfl rfl rfl ⟨by decide, by decide⟩ (Nat.le_of_ble_eq_true rfl) dX11_doubt_15 ⟨(by decide), (by decide)⟩) (fun r102 h103 f105 K104 => ?_)
    obtain ⟨O106, F107, f108⟩ := K104
    have p109 := (XInv_fx O60 F107 e72 rfl p62)
    exact g_iret C hr rfl f108 ⟨O106, (((Fx.rf (wr := wr_k_X11_doubt)).call F61 rfl).call F107 rfl), f108, p109⟩ (by decide) (by decide) dX11_doubt_18
  · refine g_iconst C dX11_doubt_9 ?_
    refine g_goto C 18 (by decide) dX11_doubt_10 ?_
    exact g_iret C hr rfl (iw (il (-1)) (by decide) (by decide)) ⟨O60, ((Fx.rf (wr := wr_k_X11_doubt)).call F61 rfl), (iw (il (-1)) (by decide) (by decide)), p62⟩ (by decide) (by decide) dX11_doubt_18
def wr_k_X11_count : List Nat := [401, 402, 403, 404, 405, 406, 1403, 1404, 1405, 1412, 1813, 1814, 1815, 1816, 1817, 1818, 2003, 2207, 2215, 2216, 2217, 200400, 200407, 200408, 2020000, 2220000, 7420000, 8020000, 8220400, 8420400, 8620000, 9020000, 9220400, 9420000, 9821400, 10020000, 1000000002, 1000001002, 1000010100, 1000011100]
set_option maxRecDepth 100000 in
set_option maxHeartbeats 4000000 in
theorem k_X11_count (l : Launch) (D : va_G) (cy : Nat → ClassId) (w : Nat → Nat) (z0 : Nat)  {h : Hp} {a0 : Nat} {a1 : Int}  (O : Okh h) (ta0 : Tg h a0 = 11) (fa1 : (-2147483648) ≤ a1 ∧ a1 ≤ 2147483647) (P_XInv : XInv h a0) : MI l D cy w z0 yX11_count cX11_count 2 (some .int) 11 300 96 6432 [.inr (.inr a0), .inl a1] h (fun v h1 => Okh h1 ∧ Fx wr_k_X11_count h h1 ∧ ((-2147483648) ≤ v ∧ v ≤ 2147483647) ∧ (XInv h1 a0)) := by
  obtain ⟨v1, e2⟩ : ∃ z, Rv h a0 3 = z := ⟨_, rfl⟩
  have t3 := ok_R O ta0 rE_11_3 e2
  have l4 := ok_L O ta0 rE_11_3 e2
  obtain ⟨v5, e6⟩ : ∃ z, Iv h a0 4 = z := ⟨_, rfl⟩
  have f7 := ok_I O ta0 rI_11_4 e6
  obtain ⟨v8, e9⟩ : ∃ z, Rv h a0 8 = z := ⟨_, rfl⟩
  have t10 := ok_R O ta0 rE_11_8 e9
  have l11 := ok_L O ta0 rE_11_8 e9
  obtain ⟨v12, e13⟩ : ∃ z, Iv h a0 9 = z := ⟨_, rfl⟩
  have f14 := ok_I O ta0 rI_11_9 e13
  obtain ⟨v15, e16⟩ : ∃ z, Rv h a0 11 = z := ⟨_, rfl⟩
  have t17 := ok_R O ta0 rE_11_11 e16
  have l18 := ok_L O ta0 rE_11_11 e16
  obtain ⟨v19, e20⟩ : ∃ z, Iv h a0 12 = z := ⟨_, rfl⟩
  have f21 := ok_I O ta0 rI_11_12 e20
  obtain ⟨v22, e23⟩ : ∃ z, Iv h a0 15 = z := ⟨_, rfl⟩
  have f24 := ok_I O ta0 rI_11_15 e23
  obtain ⟨v25, e26⟩ : ∃ z, Rv h a0 14 = z := ⟨_, rfl⟩
  have t27 := ok_R O ta0 rE_11_14 e26
  have l28 := ok_L O ta0 rE_11_14 e26
  obtain ⟨v29, e30⟩ : ∃ z, Rv h a0 13 = z := ⟨_, rfl⟩
  have t31 := ok_R O ta0 rE_11_13 e30
  obtain ⟨v32, e33⟩ : ∃ z, Rv h a0 6 = z := ⟨_, rfl⟩
  have t34 := ok_R O ta0 rE_11_6 e33
  obtain ⟨v35, e36⟩ : ∃ z, Rv h a0 7 = z := ⟨_, rfl⟩
  have t37 := ok_R O ta0 rE_11_7 e36
  have p49 := P_XInv
  unfold XInv at p49
  rw [e2, e6, e9, e13, e16, e20, e23, e26, e30, e33, e36] at p49
  obtain ⟨p38, p39, p40, p41, p42, p43, p44, p45, p46, p47, p48⟩ := p49
  obtain ⟨v50, e51⟩ : ∃ z, Iv h v29 3 = z := ⟨_, rfl⟩
  have f52 := ok_I O t31 rI_7_3 e51
  obtain ⟨v53, e54⟩ : ∃ z, Iv h v29 4 = z := ⟨_, rfl⟩
  have f55 := ok_I O t31 rI_7_4 e54
  rw [e51] at p44
  rw [e54] at p45
  refine hm_go (by decide +kernel) (Nat.le_of_ble_eq_true rfl) (fun p e s m below meth c C hr hn => ?_)
  refine g_aload_n C rfl 0 rfl dX11_count_0 ?_
  refine g_callV (st := []) (gc_V C lk_LandSurvey_169 (k_X11_settle l D cy w z0 O ta0 P_XInv) ta0 rfl rfl rfl ⟨by decide, by decide⟩ (Nat.le_of_ble_eq_true rfl) dX11_count_1 ⟨(by decide), (by decide)⟩) (fun h57 K58 => ?_)
  obtain ⟨O60, F61, p62, p63⟩ := K58
  have e64 : Rv h57 a0 3 = v1 := ((fxR F61 ta0 rfl).trans e2)
  have e65 : Iv h57 a0 4 = v5 := ((fxI F61 ta0 rfl).trans e6)
  have e66 : Rv h57 a0 8 = v8 := ((fxR F61 ta0 rfl).trans e9)
  have e67 : Iv h57 a0 9 = v12 := ((fxI F61 ta0 rfl).trans e13)
  have e68 : Rv h57 a0 11 = v15 := ((fxR F61 ta0 rfl).trans e16)
  have e69 : Iv h57 a0 12 = v19 := ((fxI F61 ta0 rfl).trans e20)
  have e70 : Rv h57 a0 14 = v25 := ((fxR F61 ta0 rfl).trans e26)
  have e71 : Rv h57 a0 13 = v29 := ((fxR F61 ta0 rfl).trans e30)
  have e72 : Rv h57 a0 6 = v32 := ((fxR F61 ta0 rfl).trans e33)
  obtain ⟨v73, e74⟩ : ∃ z, Rv h57 a0 7 = z := ⟨_, rfl⟩
  have e75 : Tg h57 a0 = 11 := (fxT F61 ta0)
  have t76 := ok_R O60 e75 rE_11_7 e74
  have p88 := p62
  unfold XInv at p88
  rw [e64, e65, e66, e67, e68, e69, p63, e70, e71, e72, e74] at p88
  obtain ⟨p77, p78, p79, p80, p81, p82, p83, p84, p85, p86, p87⟩ := p88
  obtain ⟨v89, e90⟩ : ∃ z, Iv h57 v29 3 = z := ⟨_, rfl⟩
  have e91 : Tg h57 v29 = 7 := (fxT F61 t31)
  have f92 := ok_I O60 e91 rI_7_3 e90
  obtain ⟨v93, e94⟩ : ∃ z, Iv h57 v29 4 = z := ⟨_, rfl⟩
  have f95 := ok_I O60 e91 rI_7_4 e94
  rw [e90] at p83
  rw [e94] at p84
  have p96 := p80 (by omega)
  refine g_iload_n C rfl 1 rfl dX11_count_4 ?_
  rcases Classical.em (a1 = 0) with q97 | q98
  · refine g_tin (kv := 0) C q97 (by decide) 72 (by decide) (by decide) rfl (by decide) dX11_count_5 ?_
    have f99 : (0 : Int) ≤ a1 ∧ a1 ≤ (0 : Int) := ii fa1 (r_eq (il 0) q97) (by decide) (by decide)
    refine g_aload_n C rfl 0 rfl dX11_count_72 ?_
    obtain ⟨v100, e101⟩ : ∃ z, Iv h57 a0 0 = z := ⟨_, rfl⟩
    have f102 := ok_I O60 e75 rI_11_0 e101
    refine gf_I C fk_LandSurvey_78 rfl e75 e101 dX11_count_73 ?_
    exact g_iret C hr rfl (iw f102 (by decide) (by decide)) ⟨O60, ((Fx.rf (wr := wr_k_X11_count)).call F61 rfl), (iw f102 (by decide) (by decide)), p62⟩ (by decide) (by decide) dX11_count_76
  · rcases Classical.em (a1 = 1) with q103 | q104
    · refine g_tin (kv := 1) C q103 (by decide) 77 (by decide) (by decide) rfl (by decide) dX11_count_5 ?_
      have f105 : (1 : Int) ≤ a1 ∧ a1 ≤ (1 : Int) := ii fa1 (r_eq (il 1) q103) (by decide) (by decide)
      refine g_aload_n C rfl 0 rfl dX11_count_77 ?_
      refine g_callI (st := []) (gc_V C lk_LandSurvey_362 (k_X11_dayShown l D cy w z0 O60 e75) e75 rfl rfl rfl ⟨by decide, by decide⟩ (Nat.le_of_ble_eq_true rfl) dX11_count_78 ⟨(by decide), (by decide)⟩) (fun r106 h107 f109 K108 => ?_)
      obtain ⟨O110, F111, f112⟩ := K108
      have p113 := (XInv_fx O60 F111 e75 rfl p62)
      exact g_iret C hr rfl (iw f112 (by decide) (by decide)) ⟨O110, (((Fx.rf (wr := wr_k_X11_count)).call F61 rfl).call F111 rfl), (iw f112 (by decide) (by decide)), p113⟩ (by decide) (by decide) dX11_count_81
    · rcases Classical.em (a1 = 2) with q114 | q115
      · refine g_tin (kv := 2) C q114 (by decide) 82 (by decide) (by decide) rfl (by decide) dX11_count_5 ?_
        have f116 : (2 : Int) ≤ a1 ∧ a1 ≤ (2 : Int) := ii fa1 (r_eq (il 2) q114) (by decide) (by decide)
        refine g_aload_n C rfl 0 rfl dX11_count_82 ?_
        refine gf_I C fk_LandSurvey_102 rfl e75 e65 dX11_count_83 ?_
        exact g_iret C hr rfl (iw f7 (by decide) (by decide)) ⟨O60, ((Fx.rf (wr := wr_k_X11_count)).call F61 rfl), (iw f7 (by decide) (by decide)), p62⟩ (by decide) (by decide) dX11_count_86
      · rcases Classical.em (a1 = 3) with q117 | q118
        · refine g_tin (kv := 3) C q117 (by decide) 87 (by decide) (by decide) rfl (by decide) dX11_count_5 ?_
          have f119 : (3 : Int) ≤ a1 ∧ a1 ≤ (3 : Int) := ii fa1 (r_eq (il 3) q117) (by decide) (by decide)
          refine g_aload_n C rfl 0 rfl dX11_count_87 ?_
          refine g_iconst C dX11_count_88 ?_
          refine g_callI (st := []) (gc_V C lk_LandSurvey_365 (k_X11_countSaying l D cy w z0 O60 e75 (iw (il 0) (by decide) (by decide)) p62) e75 rfl rfl rfl ⟨by decide, by decide⟩ (Nat.le_of_ble_eq_true rfl) dX11_count_89 ⟨(by decide), (by decide)⟩) (fun r120 h121 f123 K122 => ?_)
          obtain ⟨O124, F125, f126⟩ := K122
          have p127 := (XInv_fx O60 F125 e75 rfl p62)
          exact g_iret C hr rfl f126 ⟨O124, (((Fx.rf (wr := wr_k_X11_count)).call F61 rfl).call F125 rfl), f126, p127⟩ (by decide) (by decide) dX11_count_92
        · rcases Classical.em (a1 = 4) with q128 | q129
          · refine g_tin (kv := 4) C q128 (by decide) 93 (by decide) (by decide) rfl (by decide) dX11_count_5 ?_
            have f130 : (4 : Int) ≤ a1 ∧ a1 ≤ (4 : Int) := ii fa1 (r_eq (il 4) q128) (by decide) (by decide)
            refine g_aload_n C rfl 0 rfl dX11_count_93 ?_
            refine gf_R C fk_LandSurvey_44 rfl e75 e74 dX11_count_94 ?_
            obtain ⟨v131, e132⟩ : ∃ z, Iv h57 v73 0 = z := ⟨_, rfl⟩
            have f133 := ok_I O60 t76 rI_6_0 e132
            refine gf_I C fk_LandSurvey_284 rfl t76 e132 dX11_count_97 ?_
            exact g_iret C hr rfl (iw f133 (by decide) (by decide)) ⟨O60, ((Fx.rf (wr := wr_k_X11_count)).call F61 rfl), (iw f133 (by decide) (by decide)), p62⟩ (by decide) (by decide) dX11_count_100
          · rcases Classical.em (a1 = 5) with q134 | q135
            · refine g_tin (kv := 5) C q134 (by decide) 101 (by decide) (by decide) rfl (by decide) dX11_count_5 ?_
              have f136 : (5 : Int) ≤ a1 ∧ a1 ≤ (5 : Int) := ii fa1 (r_eq (il 5) q134) (by decide) (by decide)
              refine g_aload_n C rfl 0 rfl dX11_count_101 ?_
              refine gf_I C fk_LandSurvey_157 rfl e75 e67 dX11_count_102 ?_
              exact g_iret C hr rfl (iw f14 (by decide) (by decide)) ⟨O60, ((Fx.rf (wr := wr_k_X11_count)).call F61 rfl), (iw f14 (by decide) (by decide)), p62⟩ (by decide) (by decide) dX11_count_105
            · rcases Classical.em (a1 = 6) with q137 | q138
              · refine g_tin (kv := 6) C q137 (by decide) 106 (by decide) (by decide) rfl (by decide) dX11_count_5 ?_
                have f139 : (6 : Int) ≤ a1 ∧ a1 ≤ (6 : Int) := ii fa1 (r_eq (il 6) q137) (by decide) (by decide)
                refine g_aload_n C rfl 0 rfl dX11_count_106 ?_
                refine gf_I C fk_LandSurvey_305 rfl e75 e69 dX11_count_107 ?_
                exact g_iret C hr rfl (iw f21 (by decide) (by decide)) ⟨O60, ((Fx.rf (wr := wr_k_X11_count)).call F61 rfl), (iw f21 (by decide) (by decide)), p62⟩ (by decide) (by decide) dX11_count_110
              · rcases Classical.em (a1 = 7) with q140 | q141
                · refine g_tin (kv := 7) C q140 (by decide) 111 (by decide) (by decide) rfl (by decide) dX11_count_5 ?_
                  have f142 : (7 : Int) ≤ a1 ∧ a1 ≤ (7 : Int) := ii fa1 (r_eq (il 7) q140) (by decide) (by decide)
                  refine g_aload_n C rfl 0 rfl dX11_count_111 ?_
                  refine g_iconst C dX11_count_112 ?_
                  refine g_callI (st := []) (gc_V C lk_LandSurvey_365 (k_X11_countSaying l D cy w z0 O60 e75 (iw (il 1) (by decide) (by decide)) p62) e75 rfl rfl rfl ⟨by decide, by decide⟩ (Nat.le_of_ble_eq_true rfl) dX11_count_113 ⟨(by decide), (by decide)⟩) (fun r143 h144 f146 K145 => ?_)
                  obtain ⟨O147, F148, f149⟩ := K145
                  have p150 := (XInv_fx O60 F148 e75 rfl p62)
                  exact g_iret C hr rfl f149 ⟨O147, (((Fx.rf (wr := wr_k_X11_count)).call F61 rfl).call F148 rfl), f149, p150⟩ (by decide) (by decide) dX11_count_116
                · rcases Classical.em (a1 = 8) with q151 | q152
                  · refine g_tin (kv := 8) C q151 (by decide) 117 (by decide) (by decide) rfl (by decide) dX11_count_5 ?_
                    have f153 : (8 : Int) ≤ a1 ∧ a1 ≤ (8 : Int) := ii fa1 (r_eq (il 8) q151) (by decide) (by decide)
                    refine g_aload_n C rfl 0 rfl dX11_count_117 ?_
                    refine gf_R C fk_LandSurvey_36 rfl e75 e72 dX11_count_118 ?_
                    have e154 : Tg h57 v32 = 5 := (fxT F61 t34)
                    obtain ⟨v155, e156⟩ : ∃ z, Iv h57 v32 2 = z := ⟨_, rfl⟩
                    have f157 := ok_I O60 e154 rI_5_2 e156
                    refine gf_I C fk_LandSurvey_369 rfl e154 e156 dX11_count_121 ?_
                    exact g_iret C hr rfl (iw f157 (by decide) (by decide)) ⟨O60, ((Fx.rf (wr := wr_k_X11_count)).call F61 rfl), (iw f157 (by decide) (by decide)), p62⟩ (by decide) (by decide) dX11_count_124
                  · rcases Classical.em (a1 = 9) with q158 | q159
                    · refine g_tin (kv := 9) C q158 (by decide) 125 (by decide) (by decide) rfl (by decide) dX11_count_5 ?_
                      have f160 : (9 : Int) ≤ a1 ∧ a1 ≤ (9 : Int) := ii fa1 (r_eq (il 9) q158) (by decide) (by decide)
                      refine g_aload_n C rfl 0 rfl dX11_count_125 ?_
                      obtain ⟨v161, e162⟩ : ∃ z, Rv h57 a0 5 = z := ⟨_, rfl⟩
                      have t163 := ok_R O60 e75 rE_11_5 e162
                      refine gf_R C fk_LandSurvey_29 rfl e75 e162 dX11_count_126 ?_
                      obtain ⟨v164, e165⟩ : ∃ z, Iv h57 v161 1 = z := ⟨_, rfl⟩
                      have f166 := ok_I O60 t163 rI_4_1 e165
                      refine gf_I C fk_LandSurvey_143 rfl t163 e165 dX11_count_129 ?_
                      exact g_iret C hr rfl (iw f166 (by decide) (by decide)) ⟨O60, ((Fx.rf (wr := wr_k_X11_count)).call F61 rfl), (iw f166 (by decide) (by decide)), p62⟩ (by decide) (by decide) dX11_count_132
                    · rcases Classical.em (a1 = 10) with q167 | q168
                      · refine g_tin (kv := 10) C q167 (by decide) 133 (by decide) (by decide) rfl (by decide) dX11_count_5 ?_
                        have f169 : (10 : Int) ≤ a1 ∧ a1 ≤ (10 : Int) := ii fa1 (r_eq (il 10) q167) (by decide) (by decide)
                        refine g_aload_n C rfl 0 rfl dX11_count_133 ?_
                        refine g_callI (st := []) (gc_V C lk_LandSurvey_253 (k_X11_prepare l D cy w z0 O60 e75 p62) e75 rfl rfl rfl ⟨by decide, by decide⟩ (Nat.le_of_ble_eq_true rfl) dX11_count_134 ⟨(by decide), (by decide)⟩) (fun r170 h171 f173 K172 => ?_)
                        obtain ⟨O174, F175, f176, p177, p178, p179⟩ := K172
                        obtain ⟨v180, e181⟩ : ∃ z, Rv h171 a0 17 = z := ⟨_, rfl⟩
                        have e182 : Tg h171 a0 = 11 := (fxT F175 e75)
                        rw [e181] at p179
                        have e183 : Rv h171 a0 3 = v1 := ((fxR F175 e75 rfl).trans e64)
                        have e184 : Iv h171 a0 4 = v5 := ((fxI F175 e75 rfl).trans e65)
                        have e185 : Rv h171 a0 8 = v8 := ((fxR F175 e75 rfl).trans e66)
                        have e186 : Iv h171 a0 9 = v12 := ((fxI F175 e75 rfl).trans e67)
                        have e187 : Rv h171 a0 11 = v15 := ((fxR F175 e75 rfl).trans e68)
                        have e188 : Iv h171 a0 12 = v19 := ((fxI F175 e75 rfl).trans e69)
                        have e189 : Rv h171 a0 14 = v25 := ((fxR F175 e75 rfl).trans e70)
                        have e190 : Rv h171 a0 13 = v29 := ((fxR F175 e75 rfl).trans e71)
                        have e191 : Rv h171 a0 6 = v32 := ((fxR F175 e75 rfl).trans e72)
                        obtain ⟨v192, e193⟩ : ∃ z, Rv h171 a0 7 = z := ⟨_, rfl⟩
                        have t194 := ok_R O174 e182 rE_11_7 e193
                        have p206 := p177
                        unfold XInv at p206
                        rw [e183, e184, e185, e186, e187, e188, p178, e189, e190, e191, e193] at p206
                        obtain ⟨p195, p196, p197, p198, p199, p200, p201, p202, p203, p204, p205⟩ := p206
                        obtain ⟨v207, e208⟩ : ∃ z, Iv h171 v29 3 = z := ⟨_, rfl⟩
                        have e209 : Tg h171 v29 = 7 := (fxT F175 e91)
                        have f210 := ok_I O174 e209 rI_7_3 e208
                        obtain ⟨v211, e212⟩ : ∃ z, Iv h171 v29 4 = z := ⟨_, rfl⟩
                        have f213 := ok_I O174 e209 rI_7_4 e212
                        rw [e208] at p201
                        rw [e212] at p202
                        have p214 := p198 (by omega)
                        refine g_if_eq C (iw f176 (by decide) (by decide)) 147 (by decide) dX11_count_137 (fun q215 => ?_) (fun q216 => ?_)
                        · have f217 : (0 : Int) ≤ r170 ∧ r170 ≤ (0 : Int) := ii f176 (r_eq (il 0) q215) (by decide) (by decide)
                          refine g_iconst C dX11_count_147 ?_
                          exact g_iret C hr rfl (iw (il 0) (by decide) (by decide)) ⟨O174, (((Fx.rf (wr := wr_k_X11_count)).call F61 rfl).call F175 rfl), (iw (il 0) (by decide) (by decide)), p177⟩ (by decide) (by decide) dX11_count_148
                        · have f218 : (1 : Int) ≤ r170 ∧ r170 ≤ (1 : Int) := r_nl f176 q216
                          refine g_aload_n C rfl 0 rfl dX11_count_140 ?_
                          refine g_callI (st := []) (gc_V C lk_LandSurvey_372 (k_X11_countCertain l D cy w z0 O174 e182 p178 p177) e182 rfl rfl rfl ⟨by decide, by decide⟩ (Nat.le_of_ble_eq_true rfl) dX11_count_141 ⟨(by decide), (by decide)⟩) (fun r219 h220 f222 K221 => ?_)
                          obtain ⟨O223, F224, f225⟩ := K221
                          refine g_goto C 148 (by decide) dX11_count_144 ?_
                          have p226 := (XInv_fx O174 F224 e182 rfl p177)
                          exact g_iret C hr rfl f225 ⟨O223, ((((Fx.rf (wr := wr_k_X11_count)).call F61 rfl).call F175 rfl).call F224 rfl), f225, p226⟩ (by decide) (by decide) dX11_count_148
                      · rcases Classical.em (a1 = 11) with q227 | q228
                        · refine g_tin (kv := 11) C q227 (by decide) 149 (by decide) (by decide) rfl (by decide) dX11_count_5 ?_
                          have f229 : (11 : Int) ≤ a1 ∧ a1 ≤ (11 : Int) := ii fa1 (r_eq (il 11) q227) (by decide) (by decide)
                          refine g_aload_n C rfl 0 rfl dX11_count_149 ?_
                          obtain ⟨v230, e231⟩ : ∃ z, Rv h57 a0 2 = z := ⟨_, rfl⟩
                          have t232 := ok_R O60 e75 rE_11_2 e231
                          refine gf_R C fk_LandSurvey_16 rfl e75 e231 dX11_count_150 ?_
                          obtain ⟨v233, e234⟩ : ∃ z, Iv h57 v230 5 = z := ⟨_, rfl⟩
                          have f235 := ok_I O60 t232 rI_3_5 e234
                          refine gf_I C fk_LandSurvey_334 rfl t232 e234 dX11_count_153 ?_
                          exact g_iret C hr rfl f235 ⟨O60, ((Fx.rf (wr := wr_k_X11_count)).call F61 rfl), f235, p62⟩ (by decide) (by decide) dX11_count_156
                        · rcases Classical.em (a1 = 12) with q236 | q237
                          · refine g_tin (kv := 12) C q236 (by decide) 157 (by decide) (by decide) rfl (by decide) dX11_count_5 ?_
                            have f238 : (12 : Int) ≤ a1 ∧ a1 ≤ (12 : Int) := ii fa1 (r_eq (il 12) q236) (by decide) (by decide)
                            refine g_aload_n C rfl 0 rfl dX11_count_157 ?_
                            obtain ⟨v239, e240⟩ : ∃ z, Rv h57 a0 2 = z := ⟨_, rfl⟩
                            have t241 := ok_R O60 e75 rE_11_2 e240
                            refine gf_R C fk_LandSurvey_16 rfl e75 e240 dX11_count_158 ?_
                            obtain ⟨v242, e243⟩ : ∃ z, Iv h57 v239 8 = z := ⟨_, rfl⟩
                            have f244 := ok_I O60 t241 rI_3_8 e243
                            refine gf_I C fk_LandSurvey_337 rfl t241 e243 dX11_count_161 ?_
                            exact g_iret C hr rfl (iw f244 (by decide) (by decide)) ⟨O60, ((Fx.rf (wr := wr_k_X11_count)).call F61 rfl), (iw f244 (by decide) (by decide)), p62⟩ (by decide) (by decide) dX11_count_164
                          · refine g_tout C fa1 165 (by omega) (by decide) dX11_count_5 ?_
                            refine g_iconst C dX11_count_165 ?_
                            exact g_iret C hr rfl (iw (il (-1)) (by decide) (by decide)) ⟨O60, ((Fx.rf (wr := wr_k_X11_count)).call F61 rfl), (iw (il (-1)) (by decide) (by decide)), p62⟩ (by decide) (by decide) dX11_count_166
