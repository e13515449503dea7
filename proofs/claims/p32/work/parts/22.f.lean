abbrev cX11_judge : ByteArray := prog_1_method_53_code
def yX11_judge : MethodName := ⟨RX11, "judge", "()Z"⟩
theorem okX11_judge : yok yX11_judge 0 := by decide +kernel
theorem kw_485 : Cond.fieldLink "LandSurvey" 214 "LandSurvey" "finest" "LLandSurvey$Ground;" ∈ uu := uu_in (i := 485) (by decide +kernel) (by decide +kernel)
theorem fk_LandSurvey_214 : fkR "LandSurvey" 214 10 17 RX11 TX11 19 := ⟨rfl, rfl, inX11, by decide, kw_485, by decide⟩
theorem dX11_judge_0 : decode cX11_judge 0 = .ok (.aload_n 0, 1) := by decide +kernel
theorem dX11_judge_1 : decode cX11_judge 1 = .ok (.invokevirtual 169, 3) := by decide +kernel
theorem kw_963 : Cond.code yX11_settle prog_1_method_46_code 2 none ∈ uu := uu_in (i := 963) (by decide +kernel) (by decide +kernel)
theorem kw_960 : Cond.methodLink "LandSurvey" 169 yX11_settle ∈ uu := uu_in (i := 960) (by decide +kernel) (by decide +kernel)
theorem kw_962 : Cond.instanceMethod yX11_settle ∈ uu := uu_in (i := 962) (by decide +kernel) (by decide +kernel)
theorem kw_23 : Cond.selects "LandSurvey" yX11_settle yX11_settle ∈ uu := uu_in (i := 23) (by decide +kernel) (by decide +kernel)
theorem lk_LandSurvey_169 : lkV "LandSurvey" 169 yX11_settle cX11_settle 2 none 0 := ⟨kw_960, kw_962, kw_23, kw_144, kw_963, okX11_settle⟩
theorem dX11_judge_4 : decode cX11_judge 4 = .ok (.aload_n 0, 1) := by decide +kernel
theorem dX11_judge_5 : decode cX11_judge 5 = .ok (.getfield 375, 3) := by decide +kernel
theorem dX11_judge_8 : decode cX11_judge 8 = .ok (.ifCond .ne 86, 3) := by decide +kernel
theorem dX11_judge_94 : decode cX11_judge 94 = .ok (.aload_n 0, 1) := by decide +kernel
theorem dX11_judge_95 : decode cX11_judge 95 = .ok (.getfield 214, 3) := by decide +kernel
theorem dX11_judge_98 : decode cX11_judge 98 = .ok (.ifnull 7, 3) := by decide +kernel
theorem dX11_judge_105 : decode cX11_judge 105 = .ok (.iconst 0, 1) := by decide +kernel
theorem dX11_judge_106 : decode cX11_judge 106 = .ok (.ireturn, 1) := by decide +kernel
theorem dX11_judge_101 : decode cX11_judge 101 = .ok (.iconst 1, 1) := by decide +kernel
theorem dX11_judge_102 : decode cX11_judge 102 = .ok (.goto 4, 3) := by decide +kernel
theorem dX11_judge_11 : decode cX11_judge 11 = .ok (.aload_n 0, 1) := by decide +kernel
theorem dX11_judge_12 : decode cX11_judge 12 = .ok (.iconst 1, 1) := by decide +kernel
theorem dX11_judge_13 : decode cX11_judge 13 = .ok (.putfield 375, 3) := by decide +kernel
theorem dX11_judge_16 : decode cX11_judge 16 = .ok (.aload_n 0, 1) := by decide +kernel
theorem dX11_judge_17 : decode cX11_judge 17 = .ok (.aconst_null, 1) := by decide +kernel
theorem dX11_judge_18 : decode cX11_judge 18 = .ok (.putfield 214, 3) := by decide +kernel
theorem pk_LandSurvey_17 : pk RX11 TX11 19 17 tyX11 false := ⟨tyX11_ok, nmX11, rfl⟩
theorem dX11_judge_21 : decode cX11_judge 21 = .ok (.iconst 0, 1) := by decide +kernel
theorem dX11_judge_22 : decode cX11_judge 22 = .ok (.istore_n 1, 1) := by decide +kernel
theorem dX11_judge_23 : decode cX11_judge 23 = .ok (.iload_n 1, 1) := by decide +kernel
theorem dX11_judge_24 : decode cX11_judge 24 = .ok (.iconst 1, 1) := by decide +kernel
theorem dX11_judge_25 : decode cX11_judge 25 = .ok (.aload_n 0, 1) := by decide +kernel
theorem dX11_judge_26 : decode cX11_judge 26 = .ok (.getfield 157, 3) := by decide +kernel
theorem dX11_judge_29 : decode cX11_judge 29 = .ok (.ishl, 1) := by decide +kernel
theorem dX11_judge_30 : decode cX11_judge 30 = .ok (.if_icmp .ge 64, 3) := by decide +kernel
theorem dX11_judge_33 : decode cX11_judge 33 = .ok (.aload_n 0, 1) := by decide +kernel
theorem dX11_judge_34 : decode cX11_judge 34 = .ok (.getfield 70, 3) := by decide +kernel
theorem dX11_judge_37 : decode cX11_judge 37 = .ok (.iload_n 1, 1) := by decide +kernel
theorem dX11_judge_38 : decode cX11_judge 38 = .ok (.aaload, 1) := by decide +kernel
theorem dX11_judge_39 : decode cX11_judge 39 = .ok (.astore_n 2, 1) := by decide +kernel
theorem dX11_judge_40 : decode cX11_judge 40 = .ok (.aload_n 2, 1) := by decide +kernel
theorem dX11_judge_41 : decode cX11_judge 41 = .ok (.getfield 389, 3) := by decide +kernel
theorem dX11_judge_44 : decode cX11_judge 44 = .ok (.ifCond .ne 11, 3) := by decide +kernel
theorem dX11_judge_55 : decode cX11_judge 55 = .ok (.aload_n 2, 1) := by decide +kernel
theorem dX11_judge_56 : decode cX11_judge 56 = .ok (.getfield 435, 3) := by decide +kernel
theorem kw_1019 : Cond.fieldLink "LandSurvey" 435 "LandSurvey$Ground" "found" "Z" ∈ uu := uu_in (i := 1019) (by decide +kernel) (by decide +kernel)
theorem fk_LandSurvey_435 : fkI "LandSurvey" 435 1 2 RX1 TX1 9 := ⟨rfl, rfl, inX1, by decide, kw_1019, by decide⟩
theorem dX11_judge_59 : decode cX11_judge 59 = .ok (.ifCond .eq 29, 3) := by decide +kernel
theorem dX11_judge_88 : decode cX11_judge 88 = .ok (.iinc 1 1, 3) := by decide +kernel
theorem dX11_judge_91 : decode cX11_judge 91 = .ok (.goto (-68), 3) := by decide +kernel
theorem dX11_judge_62 : decode cX11_judge 62 = .ok (.aload_n 0, 1) := by decide +kernel
theorem dX11_judge_63 : decode cX11_judge 63 = .ok (.getfield 214, 3) := by decide +kernel
theorem dX11_judge_66 : decode cX11_judge 66 = .ok (.ifnull 17, 3) := by decide +kernel
theorem dX11_judge_83 : decode cX11_judge 83 = .ok (.aload_n 0, 1) := by decide +kernel
theorem dX11_judge_84 : decode cX11_judge 84 = .ok (.aload_n 2, 1) := by decide +kernel
theorem dX11_judge_85 : decode cX11_judge 85 = .ok (.putfield 214, 3) := by decide +kernel
theorem dX11_judge_69 : decode cX11_judge 69 = .ok (.aload_n 2, 1) := by decide +kernel
theorem dX11_judge_70 : decode cX11_judge 70 = .ok (.getfield 201, 3) := by decide +kernel
theorem kw_1021 : Cond.fieldLink "LandSurvey" 201 "LandSurvey$Ground" "cost" "I" ∈ uu := uu_in (i := 1021) (by decide +kernel) (by decide +kernel)
theorem fk_LandSurvey_201 : fkI "LandSurvey" 201 1 3 RX1 TX1 9 := ⟨rfl, rfl, inX1, by decide, kw_1021, by decide⟩
theorem dX11_judge_73 : decode cX11_judge 73 = .ok (.aload_n 0, 1) := by decide +kernel
theorem dX11_judge_74 : decode cX11_judge 74 = .ok (.getfield 214, 3) := by decide +kernel
theorem dX11_judge_77 : decode cX11_judge 77 = .ok (.getfield 201, 3) := by decide +kernel
theorem dX11_judge_80 : decode cX11_judge 80 = .ok (.if_icmp .ge 8, 3) := by decide +kernel
theorem dX11_judge_47 : decode cX11_judge 47 = .ok (.aload_n 0, 1) := by decide +kernel
theorem dX11_judge_48 : decode cX11_judge 48 = .ok (.getfield 64, 3) := by decide +kernel
theorem dX11_judge_51 : decode cX11_judge 51 = .ok (.aload_n 2, 1) := by decide +kernel
theorem dX11_judge_52 : decode cX11_judge 52 = .ok (.invokevirtual 432, 3) := by decide +kernel
theorem kw_1061 : Cond.code yX6_solve prog_8_method_3_code 4 none ∈ uu := uu_in (i := 1061) (by decide +kernel) (by decide +kernel)
theorem kw_1058 : Cond.methodLink "LandSurvey" 432 yX6_solve ∈ uu := uu_in (i := 1058) (by decide +kernel) (by decide +kernel)
theorem kw_1059 : Cond.instanceMethod yX6_solve ∈ uu := uu_in (i := 1059) (by decide +kernel) (by decide +kernel)
theorem kw_1060 : Cond.selects "LandSurvey$Search" yX6_solve yX6_solve ∈ uu := uu_in (i := 1060) (by decide +kernel) (by decide +kernel)
theorem lk_LandSurvey_432 : lkV "LandSurvey" 432 yX6_solve cX6_solve 4 none 1 := ⟨kw_1058, kw_1059, kw_1060, kw_150, kw_1061, okX6_solve⟩
abbrev cX11_isSet : ByteArray := prog_1_method_43_code
def yX11_isSet : MethodName := ⟨RX11, "isSet", "(I)Z"⟩
theorem okX11_isSet : yok yX11_isSet 1 := by decide +kernel
theorem dX11_isSet_0 : decode cX11_isSet 0 = .ok (.iload_n 1, 1) := by decide +kernel
theorem dX11_isSet_1 : decode cX11_isSet 1 = .ok (.ifCond .lt 17, 3) := by decide +kernel
theorem dX11_isSet_18 : decode cX11_isSet 18 = .ok (.iconst 0, 1) := by decide +kernel
theorem dX11_isSet_19 : decode cX11_isSet 19 = .ok (.ireturn, 1) := by decide +kernel
theorem dX11_isSet_4 : decode cX11_isSet 4 = .ok (.iload_n 1, 1) := by decide +kernel
theorem dX11_isSet_5 : decode cX11_isSet 5 = .ok (.iconst 1, 1) := by decide +kernel
theorem dX11_isSet_6 : decode cX11_isSet 6 = .ok (.aload_n 0, 1) := by decide +kernel
theorem dX11_isSet_7 : decode cX11_isSet 7 = .ok (.getfield 157, 3) := by decide +kernel
theorem dX11_isSet_10 : decode cX11_isSet 10 = .ok (.ishl, 1) := by decide +kernel
theorem dX11_isSet_11 : decode cX11_isSet 11 = .ok (.if_icmp .ge 7, 3) := by decide +kernel
theorem dX11_isSet_14 : decode cX11_isSet 14 = .ok (.iconst 1, 1) := by decide +kernel
theorem dX11_isSet_15 : decode cX11_isSet 15 = .ok (.goto 4, 3) := by decide +kernel
abbrev cX11_isRock : ByteArray := prog_1_method_42_code
def yX11_isRock : MethodName := ⟨RX11, "isRock", "(I)Z"⟩
theorem okX11_isRock : yok yX11_isRock 1 := by decide +kernel
theorem dX11_isRock_0 : decode cX11_isRock 0 = .ok (.iload_n 1, 1) := by decide +kernel
theorem dX11_isRock_1 : decode cX11_isRock 1 = .ok (.ifCond .lt 18, 3) := by decide +kernel
theorem dX11_isRock_19 : decode cX11_isRock 19 = .ok (.iconst 0, 1) := by decide +kernel
theorem dX11_isRock_20 : decode cX11_isRock 20 = .ok (.ireturn, 1) := by decide +kernel
theorem dX11_isRock_4 : decode cX11_isRock 4 = .ok (.iload_n 1, 1) := by decide +kernel
theorem dX11_isRock_5 : decode cX11_isRock 5 = .ok (.aload_n 0, 1) := by decide +kernel
theorem dX11_isRock_6 : decode cX11_isRock 6 = .ok (.getfield 44, 3) := by decide +kernel
theorem dX11_isRock_9 : decode cX11_isRock 9 = .ok (.getfield 284, 3) := by decide +kernel
theorem kw_296 : Cond.fieldLink "LandSurvey" 284 "LandSurvey$Rules" "rocks" "I" ∈ uu := uu_in (i := 296) (by decide +kernel) (by decide +kernel)
theorem fk_LandSurvey_284 : fkI "LandSurvey" 284 5 0 RX5 TX5 19 := ⟨rfl, rfl, inX5, by decide, kw_296, by decide⟩
theorem dX11_isRock_12 : decode cX11_isRock 12 = .ok (.if_icmp .ge 7, 3) := by decide +kernel
theorem dX11_isRock_15 : decode cX11_isRock 15 = .ok (.iconst 1, 1) := by decide +kernel
theorem dX11_isRock_16 : decode cX11_isRock 16 = .ok (.goto 4, 3) := by decide +kernel
abbrev cX11_isKept : ByteArray := prog_1_method_54_code
def yX11_isKept : MethodName := ⟨RX11, "isKept", "(I)Z"⟩
theorem okX11_isKept : yok yX11_isKept 1 := by decide +kernel
theorem dX11_isKept_0 : decode cX11_isKept 0 = .ok (.aload_n 0, 1) := by decide +kernel
theorem dX11_isKept_1 : decode cX11_isKept 1 = .ok (.getfield 214, 3) := by decide +kernel
theorem dX11_isKept_4 : decode cX11_isKept 4 = .ok (.ifnull 43, 3) := by decide +kernel
theorem dX11_isKept_47 : decode cX11_isKept 47 = .ok (.iconst 0, 1) := by decide +kernel
theorem dX11_isKept_48 : decode cX11_isKept 48 = .ok (.ireturn, 1) := by decide +kernel
theorem dX11_isKept_7 : decode cX11_isKept 7 = .ok (.aload_n 0, 1) := by decide +kernel
theorem dX11_isKept_8 : decode cX11_isKept 8 = .ok (.getfield 70, 3) := by decide +kernel
theorem dX11_isKept_11 : decode cX11_isKept 11 = .ok (.iload_n 1, 1) := by decide +kernel
theorem dX11_isKept_12 : decode cX11_isKept 12 = .ok (.aaload, 1) := by decide +kernel
theorem dX11_isKept_13 : decode cX11_isKept 13 = .ok (.getfield 435, 3) := by decide +kernel
theorem dX11_isKept_16 : decode cX11_isKept 16 = .ok (.ifCond .eq 31, 3) := by decide +kernel
theorem dX11_isKept_19 : decode cX11_isKept 19 = .ok (.aload_n 0, 1) := by decide +kernel
theorem dX11_isKept_20 : decode cX11_isKept 20 = .ok (.getfield 70, 3) := by decide +kernel
theorem dX11_isKept_23 : decode cX11_isKept 23 = .ok (.iload_n 1, 1) := by decide +kernel
theorem dX11_isKept_24 : decode cX11_isKept 24 = .ok (.aaload, 1) := by decide +kernel
theorem dX11_isKept_25 : decode cX11_isKept 25 = .ok (.getfield 201, 3) := by decide +kernel
theorem dX11_isKept_28 : decode cX11_isKept 28 = .ok (.aload_n 0, 1) := by decide +kernel
theorem dX11_isKept_29 : decode cX11_isKept 29 = .ok (.getfield 214, 3) := by decide +kernel
theorem dX11_isKept_32 : decode cX11_isKept 32 = .ok (.getfield 201, 3) := by decide +kernel
theorem dX11_isKept_35 : decode cX11_isKept 35 = .ok (.aload_n 0, 1) := by decide +kernel
theorem dX11_isKept_36 : decode cX11_isKept 36 = .ok (.getfield 163, 3) := by decide +kernel
theorem dX11_isKept_39 : decode cX11_isKept 39 = .ok (.iadd, 1) := by decide +kernel
theorem dX11_isKept_40 : decode cX11_isKept 40 = .ok (.if_icmp .gt 7, 3) := by decide +kernel
theorem dX11_isKept_43 : decode cX11_isKept 43 = .ok (.iconst 1, 1) := by decide +kernel
theorem dX11_isKept_44 : decode cX11_isKept 44 = .ok (.goto 4, 3) := by decide +kernel
abbrev cX11_countKept : ByteArray := prog_1_method_55_code
def yX11_countKept : MethodName := ⟨RX11, "countKept", "()I"⟩
theorem okX11_countKept : yok yX11_countKept 0 := by decide +kernel
theorem dX11_countKept_0 : decode cX11_countKept 0 = .ok (.iconst 0, 1) := by decide +kernel
theorem dX11_countKept_1 : decode cX11_countKept 1 = .ok (.istore_n 1, 1) := by decide +kernel
theorem dX11_countKept_2 : decode cX11_countKept 2 = .ok (.iconst 0, 1) := by decide +kernel
theorem dX11_countKept_3 : decode cX11_countKept 3 = .ok (.istore_n 2, 1) := by decide +kernel
theorem dX11_countKept_4 : decode cX11_countKept 4 = .ok (.iload_n 2, 1) := by decide +kernel
theorem dX11_countKept_5 : decode cX11_countKept 5 = .ok (.iconst 1, 1) := by decide +kernel
theorem dX11_countKept_6 : decode cX11_countKept 6 = .ok (.aload_n 0, 1) := by decide +kernel
theorem dX11_countKept_7 : decode cX11_countKept 7 = .ok (.getfield 157, 3) := by decide +kernel
theorem dX11_countKept_10 : decode cX11_countKept 10 = .ok (.ishl, 1) := by decide +kernel
theorem dX11_countKept_11 : decode cX11_countKept 11 = .ok (.if_icmp .ge 25, 3) := by decide +kernel
theorem dX11_countKept_36 : decode cX11_countKept 36 = .ok (.iload_n 1, 1) := by decide +kernel
theorem dX11_countKept_37 : decode cX11_countKept 37 = .ok (.ireturn, 1) := by decide +kernel
theorem dX11_countKept_14 : decode cX11_countKept 14 = .ok (.iload_n 1, 1) := by decide +kernel
theorem dX11_countKept_15 : decode cX11_countKept 15 = .ok (.aload_n 0, 1) := by decide +kernel
theorem dX11_countKept_16 : decode cX11_countKept 16 = .ok (.iload_n 2, 1) := by decide +kernel
theorem dX11_countKept_17 : decode cX11_countKept 17 = .ok (.invokevirtual 234, 3) := by decide +kernel
theorem kw_1152 : Cond.code yX11_isKept prog_1_method_54_code 2 (some .boolean) ∈ uu := uu_in (i := 1152) (by decide +kernel) (by decide +kernel)
theorem kw_1149 : Cond.methodLink "LandSurvey" 234 yX11_isKept ∈ uu := uu_in (i := 1149) (by decide +kernel) (by decide +kernel)
theorem kw_1151 : Cond.instanceMethod yX11_isKept ∈ uu := uu_in (i := 1151) (by decide +kernel) (by decide +kernel)
theorem kw_38 : Cond.selects "LandSurvey" yX11_isKept yX11_isKept ∈ uu := uu_in (i := 38) (by decide +kernel) (by decide +kernel)
theorem lk_LandSurvey_234 : lkV "LandSurvey" 234 yX11_isKept cX11_isKept 2 (some .boolean) 1 := ⟨kw_1149, kw_1151, kw_38, kw_144, kw_1152, okX11_isKept⟩
theorem dX11_countKept_20 : decode cX11_countKept 20 = .ok (.ifCond .eq 7, 3) := by decide +kernel
theorem dX11_countKept_27 : decode cX11_countKept 27 = .ok (.iconst 0, 1) := by decide +kernel
theorem dX11_countKept_28 : decode cX11_countKept 28 = .ok (.iadd, 1) := by decide +kernel
theorem dX11_countKept_29 : decode cX11_countKept 29 = .ok (.istore_n 1, 1) := by decide +kernel
theorem dX11_countKept_30 : decode cX11_countKept 30 = .ok (.iinc 2 1, 3) := by decide +kernel
theorem dX11_countKept_33 : decode cX11_countKept 33 = .ok (.goto (-29), 3) := by decide +kernel
theorem dX11_countKept_23 : decode cX11_countKept 23 = .ok (.iconst 1, 1) := by decide +kernel
theorem dX11_countKept_24 : decode cX11_countKept 24 = .ok (.goto 4, 3) := by decide +kernel
abbrev cX11_allKeptKnown : ByteArray := prog_1_method_57_code
def yX11_allKeptKnown : MethodName := ⟨RX11, "allKeptKnown", "()Z"⟩
theorem okX11_allKeptKnown : yok yX11_allKeptKnown 0 := by decide +kernel
theorem dX11_allKeptKnown_0 : decode cX11_allKeptKnown 0 = .ok (.iconst 0, 1) := by decide +kernel
theorem dX11_allKeptKnown_1 : decode cX11_allKeptKnown 1 = .ok (.istore_n 1, 1) := by decide +kernel
theorem dX11_allKeptKnown_2 : decode cX11_allKeptKnown 2 = .ok (.iload_n 1, 1) := by decide +kernel
theorem dX11_allKeptKnown_3 : decode cX11_allKeptKnown 3 = .ok (.iconst 1, 1) := by decide +kernel
theorem dX11_allKeptKnown_4 : decode cX11_allKeptKnown 4 = .ok (.aload_n 0, 1) := by decide +kernel
theorem dX11_allKeptKnown_5 : decode cX11_allKeptKnown 5 = .ok (.getfield 157, 3) := by decide +kernel
theorem dX11_allKeptKnown_8 : decode cX11_allKeptKnown 8 = .ok (.ishl, 1) := by decide +kernel
theorem dX11_allKeptKnown_9 : decode cX11_allKeptKnown 9 = .ok (.if_icmp .ge 31, 3) := by decide +kernel
theorem dX11_allKeptKnown_40 : decode cX11_allKeptKnown 40 = .ok (.iconst 1, 1) := by decide +kernel
theorem dX11_allKeptKnown_41 : decode cX11_allKeptKnown 41 = .ok (.ireturn, 1) := by decide +kernel
theorem dX11_allKeptKnown_12 : decode cX11_allKeptKnown 12 = .ok (.aload_n 0, 1) := by decide +kernel
theorem dX11_allKeptKnown_13 : decode cX11_allKeptKnown 13 = .ok (.iload_n 1, 1) := by decide +kernel
theorem dX11_allKeptKnown_14 : decode cX11_allKeptKnown 14 = .ok (.invokevirtual 234, 3) := by decide +kernel
theorem dX11_allKeptKnown_17 : decode cX11_allKeptKnown 17 = .ok (.ifCond .eq 17, 3) := by decide +kernel
theorem dX11_allKeptKnown_34 : decode cX11_allKeptKnown 34 = .ok (.iinc 1 1, 3) := by decide +kernel
theorem dX11_allKeptKnown_37 : decode cX11_allKeptKnown 37 = .ok (.goto (-35), 3) := by decide +kernel
theorem dX11_allKeptKnown_20 : decode cX11_allKeptKnown 20 = .ok (.aload_n 0, 1) := by decide +kernel
theorem dX11_allKeptKnown_21 : decode cX11_allKeptKnown 21 = .ok (.getfield 70, 3) := by decide +kernel
theorem dX11_allKeptKnown_24 : decode cX11_allKeptKnown 24 = .ok (.iload_n 1, 1) := by decide +kernel
theorem dX11_allKeptKnown_25 : decode cX11_allKeptKnown 25 = .ok (.aaload, 1) := by decide +kernel
theorem dX11_allKeptKnown_26 : decode cX11_allKeptKnown 26 = .ok (.getfield 237, 3) := by decide +kernel
theorem kw_1026 : Cond.fieldLink "LandSurvey" 237 "LandSurvey$Ground" "known" "Z" ∈ uu := uu_in (i := 1026) (by decide +kernel) (by decide +kernel)
theorem fk_LandSurvey_237 : fkI "LandSurvey" 237 1 5 RX1 TX1 9 := ⟨rfl, rfl, inX1, by decide, kw_1026, by decide⟩
theorem dX11_allKeptKnown_29 : decode cX11_allKeptKnown 29 = .ok (.ifCond .ne 5, 3) := by decide +kernel
theorem dX11_allKeptKnown_32 : decode cX11_allKeptKnown 32 = .ok (.iconst 0, 1) := by decide +kernel
theorem dX11_allKeptKnown_33 : decode cX11_allKeptKnown 33 = .ok (.ireturn, 1) := by decide +kernel
abbrev cX11_prepare : ByteArray := prog_1_method_56_code
def yX11_prepare : MethodName := ⟨RX11, "prepare", "()Z"⟩
theorem okX11_prepare : yok yX11_prepare 0 := by decide +kernel
theorem dX11_prepare_0 : decode cX11_prepare 0 = .ok (.aload_n 0, 1) := by decide +kernel
theorem dX11_prepare_1 : decode cX11_prepare 1 = .ok (.invokevirtual 207, 3) := by decide +kernel
theorem kw_1144 : Cond.code yX11_judge prog_1_method_53_code 3 (some .boolean) ∈ uu := uu_in (i := 1144) (by decide +kernel) (by decide +kernel)
theorem kw_1141 : Cond.methodLink "LandSurvey" 207 yX11_judge ∈ uu := uu_in (i := 1141) (by decide +kernel) (by decide +kernel)
theorem kw_1143 : Cond.instanceMethod yX11_judge ∈ uu := uu_in (i := 1143) (by decide +kernel) (by decide +kernel)
theorem kw_36 : Cond.selects "LandSurvey" yX11_judge yX11_judge ∈ uu := uu_in (i := 36) (by decide +kernel) (by decide +kernel)
theorem lk_LandSurvey_207 : lkV "LandSurvey" 207 yX11_judge cX11_judge 3 (some .boolean) 0 := ⟨kw_1141, kw_1143, kw_36, kw_144, kw_1144, okX11_judge⟩
theorem dX11_prepare_4 : decode cX11_prepare 4 = .ok (.ifCond .ne 5, 3) := by decide +kernel
theorem dX11_prepare_9 : decode cX11_prepare 9 = .ok (.iconst 0, 1) := by decide +kernel
theorem dX11_prepare_10 : decode cX11_prepare 10 = .ok (.istore_n 1, 1) := by decide +kernel
theorem dX11_prepare_11 : decode cX11_prepare 11 = .ok (.iload_n 1, 1) := by decide +kernel
theorem dX11_prepare_12 : decode cX11_prepare 12 = .ok (.iconst 1, 1) := by decide +kernel
theorem dX11_prepare_13 : decode cX11_prepare 13 = .ok (.aload_n 0, 1) := by decide +kernel
theorem dX11_prepare_14 : decode cX11_prepare 14 = .ok (.getfield 157, 3) := by decide +kernel
theorem dX11_prepare_17 : decode cX11_prepare 17 = .ok (.ishl, 1) := by decide +kernel
theorem dX11_prepare_18 : decode cX11_prepare 18 = .ok (.if_icmp .ge 54, 3) := by decide +kernel
theorem dX11_prepare_72 : decode cX11_prepare 72 = .ok (.iconst 1, 1) := by decide +kernel
theorem dX11_prepare_73 : decode cX11_prepare 73 = .ok (.ireturn, 1) := by decide +kernel
theorem dX11_prepare_21 : decode cX11_prepare 21 = .ok (.aload_n 0, 1) := by decide +kernel
theorem dX11_prepare_22 : decode cX11_prepare 22 = .ok (.iload_n 1, 1) := by decide +kernel
theorem dX11_prepare_23 : decode cX11_prepare 23 = .ok (.invokevirtual 234, 3) := by decide +kernel
theorem dX11_prepare_26 : decode cX11_prepare 26 = .ok (.ifCond .eq 40, 3) := by decide +kernel
theorem dX11_prepare_66 : decode cX11_prepare 66 = .ok (.iinc 1 1, 3) := by decide +kernel
theorem dX11_prepare_69 : decode cX11_prepare 69 = .ok (.goto (-58), 3) := by decide +kernel
theorem dX11_prepare_29 : decode cX11_prepare 29 = .ok (.aload_n 0, 1) := by decide +kernel
theorem dX11_prepare_30 : decode cX11_prepare 30 = .ok (.getfield 70, 3) := by decide +kernel
theorem dX11_prepare_33 : decode cX11_prepare 33 = .ok (.iload_n 1, 1) := by decide +kernel
theorem dX11_prepare_34 : decode cX11_prepare 34 = .ok (.aaload, 1) := by decide +kernel
theorem dX11_prepare_35 : decode cX11_prepare 35 = .ok (.getfield 237, 3) := by decide +kernel
theorem dX11_prepare_38 : decode cX11_prepare 38 = .ok (.ifCond .eq 28, 3) := by decide +kernel
theorem dX11_prepare_41 : decode cX11_prepare 41 = .ok (.aload_n 0, 1) := by decide +kernel
theorem dX11_prepare_42 : decode cX11_prepare 42 = .ok (.getfield 70, 3) := by decide +kernel
theorem dX11_prepare_45 : decode cX11_prepare 45 = .ok (.iload_n 1, 1) := by decide +kernel
theorem dX11_prepare_46 : decode cX11_prepare 46 = .ok (.aaload, 1) := by decide +kernel
theorem dX11_prepare_47 : decode cX11_prepare 47 = .ok (.getfield 240, 3) := by decide +kernel
theorem kw_1028 : Cond.fieldLink "LandSurvey" 240 "LandSurvey$Ground" "spanned" "Z" ∈ uu := uu_in (i := 1028) (by decide +kernel) (by decide +kernel)
theorem fk_LandSurvey_240 : fkI "LandSurvey" 240 1 6 RX1 TX1 9 := ⟨rfl, rfl, inX1, by decide, kw_1028, by decide⟩
theorem dX11_prepare_50 : decode cX11_prepare 50 = .ok (.ifCond .ne 16, 3) := by decide +kernel
theorem dX11_prepare_53 : decode cX11_prepare 53 = .ok (.aload_n 0, 1) := by decide +kernel
theorem dX11_prepare_54 : decode cX11_prepare 54 = .ok (.getfield 64, 3) := by decide +kernel
theorem dX11_prepare_57 : decode cX11_prepare 57 = .ok (.aload_n 0, 1) := by decide +kernel
theorem dX11_prepare_58 : decode cX11_prepare 58 = .ok (.getfield 70, 3) := by decide +kernel
theorem dX11_prepare_61 : decode cX11_prepare 61 = .ok (.iload_n 1, 1) := by decide +kernel
theorem dX11_prepare_62 : decode cX11_prepare 62 = .ok (.aaload, 1) := by decide +kernel
theorem dX11_prepare_63 : decode cX11_prepare 63 = .ok (.invokevirtual 243, 3) := by decide +kernel
theorem kw_1174 : Cond.code yX6_span prog_8_method_14_code 3 none ∈ uu := uu_in (i := 1174) (by decide +kernel) (by decide +kernel)
theorem kw_1171 : Cond.methodLink "LandSurvey" 243 yX6_span ∈ uu := uu_in (i := 1171) (by decide +kernel) (by decide +kernel)
theorem kw_1172 : Cond.instanceMethod yX6_span ∈ uu := uu_in (i := 1172) (by decide +kernel) (by decide +kernel)
theorem kw_1173 : Cond.selects "LandSurvey$Search" yX6_span yX6_span ∈ uu := uu_in (i := 1173) (by decide +kernel) (by decide +kernel)
theorem lk_LandSurvey_243 : lkV "LandSurvey" 243 yX6_span cX6_span 3 none 1 := ⟨kw_1171, kw_1172, kw_1173, kw_150, kw_1174, okX6_span⟩
theorem dX11_prepare_7 : decode cX11_prepare 7 = .ok (.iconst 0, 1) := by decide +kernel
theorem dX11_prepare_8 : decode cX11_prepare 8 = .ok (.ireturn, 1) := by decide +kernel
abbrev cX11_mayLie : ByteArray := prog_1_method_59_code
def yX11_mayLie : MethodName := ⟨RX11, "mayLie", "(LLandSurvey$Ground;II)I"⟩
theorem okX11_mayLie : yok yX11_mayLie 3 := by decide +kernel
theorem dX11_mayLie_0 : decode cX11_mayLie 0 = .ok (.aload_n 1, 1) := by decide +kernel
theorem dX11_mayLie_1 : decode cX11_mayLie 1 = .ok (.getfield 237, 3) := by decide +kernel
theorem dX11_mayLie_4 : decode cX11_mayLie 4 = .ok (.ifCond .ne 23, 3) := by decide +kernel
theorem dX11_mayLie_27 : decode cX11_mayLie 27 = .ok (.aload_n 0, 1) := by decide +kernel
theorem dX11_mayLie_28 : decode cX11_mayLie 28 = .ok (.getfield 16, 3) := by decide +kernel
theorem dX11_mayLie_31 : decode cX11_mayLie 31 = .ok (.getfield 89, 3) := by decide +kernel
theorem dX11_mayLie_34 : decode cX11_mayLie 34 = .ok (.iload_n 2, 1) := by decide +kernel
theorem dX11_mayLie_35 : decode cX11_mayLie 35 = .ok (.iaload, 1) := by decide +kernel
theorem dX11_mayLie_36 : decode cX11_mayLie 36 = .ok (.iload_n 3, 1) := by decide +kernel
theorem dX11_mayLie_37 : decode cX11_mayLie 37 = .ok (.isub, 1) := by decide +kernel
theorem dX11_mayLie_38 : decode cX11_mayLie 38 = .ok (.istore 4, 2) := by decide +kernel
theorem dX11_mayLie_40 : decode cX11_mayLie 40 = .ok (.aload_n 1, 1) := by decide +kernel
theorem dX11_mayLie_41 : decode cX11_mayLie 41 = .ok (.getfield 247, 3) := by decide +kernel
theorem kw_1031 : Cond.fieldLink "LandSurvey" 247 "LandSurvey$Ground" "low" "[I" ∈ uu := uu_in (i := 1031) (by decide +kernel) (by decide +kernel)
theorem fk_LandSurvey_247 : fkR "LandSurvey" 247 1 7 RX1 TX1 9 := ⟨rfl, rfl, inX1, by decide, kw_1031, by decide⟩
theorem dX11_mayLie_44 : decode cX11_mayLie 44 = .ok (.iload_n 2, 1) := by decide +kernel
theorem dX11_mayLie_45 : decode cX11_mayLie 45 = .ok (.iaload, 1) := by decide +kernel
theorem dX11_mayLie_46 : decode cX11_mayLie 46 = .ok (.istore 5, 2) := by decide +kernel
theorem dX11_mayLie_48 : decode cX11_mayLie 48 = .ok (.aload_n 1, 1) := by decide +kernel
theorem dX11_mayLie_49 : decode cX11_mayLie 49 = .ok (.getfield 250, 3) := by decide +kernel
theorem kw_1034 : Cond.fieldLink "LandSurvey" 250 "LandSurvey$Ground" "high" "[I" ∈ uu := uu_in (i := 1034) (by decide +kernel) (by decide +kernel)
theorem fk_LandSurvey_250 : fkR "LandSurvey" 250 1 8 RX1 TX1 9 := ⟨rfl, rfl, inX1, by decide, kw_1034, by decide⟩
theorem dX11_mayLie_52 : decode cX11_mayLie 52 = .ok (.iload_n 2, 1) := by decide +kernel
theorem dX11_mayLie_53 : decode cX11_mayLie 53 = .ok (.iaload, 1) := by decide +kernel
theorem dX11_mayLie_54 : decode cX11_mayLie 54 = .ok (.istore 6, 2) := by decide +kernel
theorem dX11_mayLie_56 : decode cX11_mayLie 56 = .ok (.iload 6, 2) := by decide +kernel
theorem dX11_mayLie_58 : decode cX11_mayLie 58 = .ok (.iload 4, 2) := by decide +kernel
theorem dX11_mayLie_60 : decode cX11_mayLie 60 = .ok (.if_icmp .le 9, 3) := by decide +kernel
theorem dX11_mayLie_69 : decode cX11_mayLie 69 = .ok (.iconst 0, 1) := by decide +kernel
theorem dX11_mayLie_70 : decode cX11_mayLie 70 = .ok (.istore 7, 2) := by decide +kernel
theorem dX11_mayLie_72 : decode cX11_mayLie 72 = .ok (.iload 4, 2) := by decide +kernel
theorem dX11_mayLie_74 : decode cX11_mayLie 74 = .ok (.iload 5, 2) := by decide +kernel
theorem dX11_mayLie_76 : decode cX11_mayLie 76 = .ok (.aload_n 0, 1) := by decide +kernel
theorem dX11_mayLie_77 : decode cX11_mayLie 77 = .ok (.getfield 44, 3) := by decide +kernel
theorem dX11_mayLie_80 : decode cX11_mayLie 80 = .ok (.getfield 438, 3) := by decide +kernel
theorem kw_308 : Cond.fieldLink "LandSurvey" 438 "LandSurvey$Rules" "leastOfAll" "I" ∈ uu := uu_in (i := 308) (by decide +kernel) (by decide +kernel)
theorem fk_LandSurvey_438 : fkI "LandSurvey" 438 5 6 RX5 TX5 19 := ⟨rfl, rfl, inX5, by decide, kw_308, by decide⟩
theorem dX11_mayLie_83 : decode cX11_mayLie 83 = .ok (.iadd, 1) := by decide +kernel
theorem dX11_mayLie_84 : decode cX11_mayLie 84 = .ok (.if_icmp .le 11, 3) := by decide +kernel
theorem dX11_mayLie_95 : decode cX11_mayLie 95 = .ok (.aload_n 0, 1) := by decide +kernel
theorem dX11_mayLie_96 : decode cX11_mayLie 96 = .ok (.getfield 16, 3) := by decide +kernel
theorem dX11_mayLie_99 : decode cX11_mayLie 99 = .ok (.getfield 96, 3) := by decide +kernel
theorem dX11_mayLie_102 : decode cX11_mayLie 102 = .ok (.iload_n 2, 1) := by decide +kernel
theorem dX11_mayLie_103 : decode cX11_mayLie 103 = .ok (.baload, 1) := by decide +kernel
theorem dX11_mayLie_104 : decode cX11_mayLie 104 = .ok (.istore 8, 2) := by decide +kernel
theorem dX11_mayLie_106 : decode cX11_mayLie 106 = .ok (.iconst 0, 1) := by decide +kernel
theorem dX11_mayLie_107 : decode cX11_mayLie 107 = .ok (.istore 9, 2) := by decide +kernel
theorem dX11_mayLie_109 : decode cX11_mayLie 109 = .ok (.iload 9, 2) := by decide +kernel
theorem dX11_mayLie_111 : decode cX11_mayLie 111 = .ok (.aload_n 0, 1) := by decide +kernel
theorem dX11_mayLie_112 : decode cX11_mayLie 112 = .ok (.getfield 44, 3) := by decide +kernel
theorem dX11_mayLie_115 : decode cX11_mayLie 115 = .ok (.getfield 284, 3) := by decide +kernel
theorem dX11_mayLie_118 : decode cX11_mayLie 118 = .ok (.if_icmp .ge 54, 3) := by decide +kernel
theorem dX11_mayLie_172 : decode cX11_mayLie 172 = .ok (.iload 7, 2) := by decide +kernel
theorem dX11_mayLie_174 : decode cX11_mayLie 174 = .ok (.ireturn, 1) := by decide +kernel
theorem dX11_mayLie_121 : decode cX11_mayLie 121 = .ok (.iload 5, 2) := by decide +kernel
theorem dX11_mayLie_123 : decode cX11_mayLie 123 = .ok (.aload_n 0, 1) := by decide +kernel
theorem dX11_mayLie_124 : decode cX11_mayLie 124 = .ok (.getfield 44, 3) := by decide +kernel
theorem dX11_mayLie_127 : decode cX11_mayLie 127 = .ok (.iload 9, 2) := by decide +kernel
theorem dX11_mayLie_129 : decode cX11_mayLie 129 = .ok (.iload 8, 2) := by decide +kernel
theorem dX11_mayLie_131 : decode cX11_mayLie 131 = .ok (.iload 4, 2) := by decide +kernel
theorem dX11_mayLie_133 : decode cX11_mayLie 133 = .ok (.invokevirtual 423, 3) := by decide +kernel
theorem dX11_mayLie_136 : decode cX11_mayLie 136 = .ok (.if_icmp .gt 30, 3) := by decide +kernel
theorem dX11_mayLie_166 : decode cX11_mayLie 166 = .ok (.iinc 9 1, 3) := by decide +kernel
theorem dX11_mayLie_169 : decode cX11_mayLie 169 = .ok (.goto (-60), 3) := by decide +kernel
theorem dX11_mayLie_139 : decode cX11_mayLie 139 = .ok (.iload 6, 2) := by decide +kernel
theorem dX11_mayLie_141 : decode cX11_mayLie 141 = .ok (.aload_n 0, 1) := by decide +kernel
theorem dX11_mayLie_142 : decode cX11_mayLie 142 = .ok (.getfield 44, 3) := by decide +kernel
theorem dX11_mayLie_145 : decode cX11_mayLie 145 = .ok (.iload 9, 2) := by decide +kernel
theorem dX11_mayLie_147 : decode cX11_mayLie 147 = .ok (.iload 8, 2) := by decide +kernel
theorem dX11_mayLie_149 : decode cX11_mayLie 149 = .ok (.iload 4, 2) := by decide +kernel
theorem dX11_mayLie_151 : decode cX11_mayLie 151 = .ok (.invokevirtual 419, 3) := by decide +kernel
theorem dX11_mayLie_154 : decode cX11_mayLie 154 = .ok (.if_icmp .lt 12, 3) := by decide +kernel
theorem dX11_mayLie_157 : decode cX11_mayLie 157 = .ok (.iload 7, 2) := by decide +kernel
theorem dX11_mayLie_159 : decode cX11_mayLie 159 = .ok (.iconst 1, 1) := by decide +kernel
theorem dX11_mayLie_160 : decode cX11_mayLie 160 = .ok (.iload 9, 2) := by decide +kernel
theorem dX11_mayLie_162 : decode cX11_mayLie 162 = .ok (.ishl, 1) := by decide +kernel
theorem dX11_mayLie_163 : decode cX11_mayLie 163 = .ok (.ior, 1) := by decide +kernel
theorem dX11_mayLie_164 : decode cX11_mayLie 164 = .ok (.istore 7, 2) := by decide +kernel
theorem dX11_mayLie_87 : decode cX11_mayLie 87 = .ok (.iload 7, 2) := by decide +kernel
theorem dX11_mayLie_89 : decode cX11_mayLie 89 = .ok (.sipush 2048, 3) := by decide +kernel
theorem dX11_mayLie_92 : decode cX11_mayLie 92 = .ok (.ior, 1) := by decide +kernel
theorem dX11_mayLie_93 : decode cX11_mayLie 93 = .ok (.istore 7, 2) := by decide +kernel
theorem dX11_mayLie_63 : decode cX11_mayLie 63 = .ok (.sipush 1024, 3) := by decide +kernel
theorem dX11_mayLie_66 : decode cX11_mayLie 66 = .ok (.goto 4, 3) := by decide +kernel
theorem dX11_mayLie_7 : decode cX11_mayLie 7 = .ok (.iconst 1, 1) := by decide +kernel
theorem dX11_mayLie_8 : decode cX11_mayLie 8 = .ok (.aload_n 0, 1) := by decide +kernel
theorem dX11_mayLie_9 : decode cX11_mayLie 9 = .ok (.getfield 44, 3) := by decide +kernel
theorem dX11_mayLie_12 : decode cX11_mayLie 12 = .ok (.getfield 284, 3) := by decide +kernel
theorem dX11_mayLie_15 : decode cX11_mayLie 15 = .ok (.ishl, 1) := by decide +kernel
theorem dX11_mayLie_16 : decode cX11_mayLie 16 = .ok (.iconst 1, 1) := by decide +kernel
theorem dX11_mayLie_17 : decode cX11_mayLie 17 = .ok (.isub, 1) := by decide +kernel
theorem dX11_mayLie_18 : decode cX11_mayLie 18 = .ok (.sipush 1024, 3) := by decide +kernel
theorem dX11_mayLie_21 : decode cX11_mayLie 21 = .ok (.ior, 1) := by decide +kernel
theorem dX11_mayLie_22 : decode cX11_mayLie 22 = .ok (.sipush 2048, 3) := by decide +kernel
theorem dX11_mayLie_25 : decode cX11_mayLie 25 = .ok (.ior, 1) := by decide +kernel
theorem dX11_mayLie_26 : decode cX11_mayLie 26 = .ok (.ireturn, 1) := by decide +kernel
abbrev cX11_mayLieByAll : ByteArray := prog_1_method_60_code
def yX11_mayLieByAll : MethodName := ⟨RX11, "mayLieByAll", "(II)I"⟩
theorem okX11_mayLieByAll : yok yX11_mayLieByAll 2 := by decide +kernel
theorem dX11_mayLieByAll_0 : decode cX11_mayLieByAll 0 = .ok (.iconst 0, 1) := by decide +kernel
theorem dX11_mayLieByAll_1 : decode cX11_mayLieByAll 1 = .ok (.istore_n 3, 1) := by decide +kernel
theorem dX11_mayLieByAll_2 : decode cX11_mayLieByAll 2 = .ok (.iconst 0, 1) := by decide +kernel
theorem dX11_mayLieByAll_3 : decode cX11_mayLieByAll 3 = .ok (.istore 4, 2) := by decide +kernel
theorem dX11_mayLieByAll_5 : decode cX11_mayLieByAll 5 = .ok (.iload 4, 2) := by decide +kernel
theorem dX11_mayLieByAll_7 : decode cX11_mayLieByAll 7 = .ok (.iconst 1, 1) := by decide +kernel
theorem dX11_mayLieByAll_8 : decode cX11_mayLieByAll 8 = .ok (.aload_n 0, 1) := by decide +kernel
theorem dX11_mayLieByAll_9 : decode cX11_mayLieByAll 9 = .ok (.getfield 157, 3) := by decide +kernel
theorem dX11_mayLieByAll_12 : decode cX11_mayLieByAll 12 = .ok (.ishl, 1) := by decide +kernel
theorem dX11_mayLieByAll_13 : decode cX11_mayLieByAll 13 = .ok (.if_icmp .ge 34, 3) := by decide +kernel
theorem dX11_mayLieByAll_47 : decode cX11_mayLieByAll 47 = .ok (.iload_n 3, 1) := by decide +kernel
theorem dX11_mayLieByAll_48 : decode cX11_mayLieByAll 48 = .ok (.ireturn, 1) := by decide +kernel
theorem dX11_mayLieByAll_16 : decode cX11_mayLieByAll 16 = .ok (.aload_n 0, 1) := by decide +kernel
theorem dX11_mayLieByAll_17 : decode cX11_mayLieByAll 17 = .ok (.iload 4, 2) := by decide +kernel
theorem dX11_mayLieByAll_19 : decode cX11_mayLieByAll 19 = .ok (.invokevirtual 234, 3) := by decide +kernel
theorem dX11_mayLieByAll_22 : decode cX11_mayLieByAll 22 = .ok (.ifCond .eq 19, 3) := by decide +kernel
theorem dX11_mayLieByAll_41 : decode cX11_mayLieByAll 41 = .ok (.iinc 4 1, 3) := by decide +kernel
theorem dX11_mayLieByAll_44 : decode cX11_mayLieByAll 44 = .ok (.goto (-39), 3) := by decide +kernel
theorem dX11_mayLieByAll_25 : decode cX11_mayLieByAll 25 = .ok (.iload_n 3, 1) := by decide +kernel
theorem dX11_mayLieByAll_26 : decode cX11_mayLieByAll 26 = .ok (.aload_n 0, 1) := by decide +kernel
theorem dX11_mayLieByAll_27 : decode cX11_mayLieByAll 27 = .ok (.aload_n 0, 1) := by decide +kernel
theorem dX11_mayLieByAll_28 : decode cX11_mayLieByAll 28 = .ok (.getfield 70, 3) := by decide +kernel
theorem dX11_mayLieByAll_31 : decode cX11_mayLieByAll 31 = .ok (.iload 4, 2) := by decide +kernel
theorem dX11_mayLieByAll_33 : decode cX11_mayLieByAll 33 = .ok (.aaload, 1) := by decide +kernel
theorem dX11_mayLieByAll_34 : decode cX11_mayLieByAll 34 = .ok (.iload_n 1, 1) := by decide +kernel
theorem dX11_mayLieByAll_35 : decode cX11_mayLieByAll 35 = .ok (.iload_n 2, 1) := by decide +kernel
theorem dX11_mayLieByAll_36 : decode cX11_mayLieByAll 36 = .ok (.invokevirtual 441, 3) := by decide +kernel
theorem kw_1187 : Cond.code yX11_mayLie prog_1_method_59_code 10 (some .int) ∈ uu := uu_in (i := 1187) (by decide +kernel) (by decide +kernel)
theorem kw_1184 : Cond.methodLink "LandSurvey" 441 yX11_mayLie ∈ uu := uu_in (i := 1184) (by decide +kernel) (by decide +kernel)
theorem kw_1186 : Cond.instanceMethod yX11_mayLie ∈ uu := uu_in (i := 1186) (by decide +kernel) (by decide +kernel)
theorem kw_41 : Cond.selects "LandSurvey" yX11_mayLie yX11_mayLie ∈ uu := uu_in (i := 41) (by decide +kernel) (by decide +kernel)
theorem lk_LandSurvey_441 : lkV "LandSurvey" 441 yX11_mayLie cX11_mayLie 10 (some .int) 3 := ⟨kw_1184, kw_1186, kw_41, kw_144, kw_1187, okX11_mayLie⟩
theorem dX11_mayLieByAll_39 : decode cX11_mayLieByAll 39 = .ok (.ior, 1) := by decide +kernel
theorem dX11_mayLieByAll_40 : decode cX11_mayLieByAll 40 = .ok (.istore_n 3, 1) := by decide +kernel
abbrev cX11_countCertain : ByteArray := prog_1_method_61_code
def yX11_countCertain : MethodName := ⟨RX11, "countCertain", "()I"⟩
theorem okX11_countCertain : yok yX11_countCertain 0 := by decide +kernel
theorem dX11_countCertain_0 : decode cX11_countCertain 0 = .ok (.iconst 0, 1) := by decide +kernel
theorem dX11_countCertain_1 : decode cX11_countCertain 1 = .ok (.istore_n 1, 1) := by decide +kernel
theorem dX11_countCertain_2 : decode cX11_countCertain 2 = .ok (.iconst 0, 1) := by decide +kernel
theorem dX11_countCertain_3 : decode cX11_countCertain 3 = .ok (.istore_n 2, 1) := by decide +kernel
theorem dX11_countCertain_4 : decode cX11_countCertain 4 = .ok (.iload_n 2, 1) := by decide +kernel
theorem dX11_countCertain_5 : decode cX11_countCertain 5 = .ok (.bipush 96, 2) := by decide +kernel
theorem dX11_countCertain_7 : decode cX11_countCertain 7 = .ok (.if_icmp .ge 30, 3) := by decide +kernel
theorem dX11_countCertain_37 : decode cX11_countCertain 37 = .ok (.iload_n 1, 1) := by decide +kernel
theorem dX11_countCertain_38 : decode cX11_countCertain 38 = .ok (.ireturn, 1) := by decide +kernel
theorem dX11_countCertain_10 : decode cX11_countCertain 10 = .ok (.iload_n 1, 1) := by decide +kernel
theorem dX11_countCertain_11 : decode cX11_countCertain 11 = .ok (.aload_n 0, 1) := by decide +kernel
theorem dX11_countCertain_12 : decode cX11_countCertain 12 = .ok (.iload_n 2, 1) := by decide +kernel
theorem dX11_countCertain_13 : decode cX11_countCertain 13 = .ok (.iconst 0, 1) := by decide +kernel
theorem dX11_countCertain_14 : decode cX11_countCertain 14 = .ok (.invokevirtual 256, 3) := by decide +kernel
theorem kw_1183 : Cond.code yX11_mayLieByAll prog_1_method_60_code 5 (some .int) ∈ uu := uu_in (i := 1183) (by decide +kernel) (by decide +kernel)
theorem kw_1180 : Cond.methodLink "LandSurvey" 256 yX11_mayLieByAll ∈ uu := uu_in (i := 1180) (by decide +kernel) (by decide +kernel)
theorem kw_1182 : Cond.instanceMethod yX11_mayLieByAll ∈ uu := uu_in (i := 1182) (by decide +kernel) (by decide +kernel)
theorem kw_40 : Cond.selects "LandSurvey" yX11_mayLieByAll yX11_mayLieByAll ∈ uu := uu_in (i := 40) (by decide +kernel) (by decide +kernel)
theorem lk_LandSurvey_256 : lkV "LandSurvey" 256 yX11_mayLieByAll cX11_mayLieByAll 5 (some .int) 2 := ⟨kw_1180, kw_1182, kw_40, kw_144, kw_1183, okX11_mayLieByAll⟩
theorem dX11_countCertain_17 : decode cX11_countCertain 17 = .ok (.invokestatic 445, 3) := by decide +kernel
theorem kw_1198 : Cond.code yJ6_bitCount_0f7a4 prog_19_method_49_code 1 (some .int) ∈ uu := uu_in (i := 1198) (by decide +kernel) (by decide +kernel)
theorem kw_170 : Cond.initialized "java/lang/Integer" ∈ uu := uu_in (i := 170) (by decide +kernel) (by decide +kernel)
theorem kw_1196 : Cond.methodLink "LandSurvey" 445 yJ6_bitCount_0f7a4 ∈ uu := uu_in (i := 1196) (by decide +kernel) (by decide +kernel)
theorem kw_1197 : Cond.static yJ6_bitCount_0f7a4 ∈ uu := uu_in (i := 1197) (by decide +kernel) (by decide +kernel)
theorem lk_LandSurvey_445 : lkS "LandSurvey" 445 yJ6_bitCount_0f7a4 cJ6_bitCount_0f7a4 1 (some .int) 1 := ⟨kw_1196, kw_1197, kw_170, kw_1198, okJ6_bitCount_0f7a4⟩
theorem dX11_countCertain_20 : decode cX11_countCertain 20 = .ok (.iconst 1, 1) := by decide +kernel
theorem dX11_countCertain_21 : decode cX11_countCertain 21 = .ok (.if_icmp .ne 7, 3) := by decide +kernel
theorem dX11_countCertain_28 : decode cX11_countCertain 28 = .ok (.iconst 0, 1) := by decide +kernel
theorem dX11_countCertain_29 : decode cX11_countCertain 29 = .ok (.iadd, 1) := by decide +kernel
theorem dX11_countCertain_30 : decode cX11_countCertain 30 = .ok (.istore_n 1, 1) := by decide +kernel
theorem dX11_countCertain_31 : decode cX11_countCertain 31 = .ok (.iinc 2 1, 3) := by decide +kernel
theorem dX11_countCertain_34 : decode cX11_countCertain 34 = .ok (.goto (-30), 3) := by decide +kernel
theorem dX11_countCertain_24 : decode cX11_countCertain 24 = .ok (.iconst 1, 1) := by decide +kernel
theorem dX11_countCertain_25 : decode cX11_countCertain 25 = .ok (.goto 4, 3) := by decide +kernel
abbrev cX11_gatherLineFacts : ByteArray := prog_1_method_62_code
def yX11_gatherLineFacts : MethodName := ⟨RX11, "gatherLineFacts", "(II)V"⟩
theorem okX11_gatherLineFacts : yok yX11_gatherLineFacts 2 := by decide +kernel
theorem dX11_gatherLineFacts_0 : decode cX11_gatherLineFacts 0 = .ok (.iconst 0, 1) := by decide +kernel
theorem dX11_gatherLineFacts_1 : decode cX11_gatherLineFacts 1 = .ok (.istore_n 3, 1) := by decide +kernel
theorem dX11_gatherLineFacts_2 : decode cX11_gatherLineFacts 2 = .ok (.iconst 0, 1) := by decide +kernel
theorem dX11_gatherLineFacts_3 : decode cX11_gatherLineFacts 3 = .ok (.istore 4, 2) := by decide +kernel
theorem dX11_gatherLineFacts_5 : decode cX11_gatherLineFacts 5 = .ok (.iconst 0, 1) := by decide +kernel
theorem dX11_gatherLineFacts_6 : decode cX11_gatherLineFacts 6 = .ok (.istore 5, 2) := by decide +kernel
theorem dX11_gatherLineFacts_8 : decode cX11_gatherLineFacts 8 = .ok (.iconst 0, 1) := by decide +kernel
theorem dX11_gatherLineFacts_9 : decode cX11_gatherLineFacts 9 = .ok (.istore 6, 2) := by decide +kernel
theorem dX11_gatherLineFacts_11 : decode cX11_gatherLineFacts 11 = .ok (.iconst 0, 1) := by decide +kernel
theorem dX11_gatherLineFacts_12 : decode cX11_gatherLineFacts 12 = .ok (.istore 7, 2) := by decide +kernel
theorem dX11_gatherLineFacts_14 : decode cX11_gatherLineFacts 14 = .ok (.iload 7, 2) := by decide +kernel
theorem dX11_gatherLineFacts_16 : decode cX11_gatherLineFacts 16 = .ok (.iconst 1, 1) := by decide +kernel
theorem dX11_gatherLineFacts_17 : decode cX11_gatherLineFacts 17 = .ok (.aload_n 0, 1) := by decide +kernel
theorem dX11_gatherLineFacts_18 : decode cX11_gatherLineFacts 18 = .ok (.getfield 157, 3) := by decide +kernel
theorem dX11_gatherLineFacts_21 : decode cX11_gatherLineFacts 21 = .ok (.ishl, 1) := by decide +kernel
theorem dX11_gatherLineFacts_22 : decode cX11_gatherLineFacts 22 = .ok (.if_icmp .ge 138, 3) := by decide +kernel
theorem dX11_gatherLineFacts_160 : decode cX11_gatherLineFacts 160 = .ok (.aload_n 0, 1) := by decide +kernel
theorem dX11_gatherLineFacts_161 : decode cX11_gatherLineFacts 161 = .ok (.getfield 74, 3) := by decide +kernel
theorem dX11_gatherLineFacts_164 : decode cX11_gatherLineFacts 164 = .ok (.iconst 0, 1) := by decide +kernel
theorem dX11_gatherLineFacts_165 : decode cX11_gatherLineFacts 165 = .ok (.invokestatic 399, 3) := by decide +kernel
theorem dX11_gatherLineFacts_168 : decode cX11_gatherLineFacts 168 = .ok (.iload_n 3, 1) := by decide +kernel
theorem dX11_gatherLineFacts_169 : decode cX11_gatherLineFacts 169 = .ok (.ifCond .le 56, 3) := by decide +kernel
theorem dX11_gatherLineFacts_225 : decode cX11_gatherLineFacts 225 = .ok (.return_, 1) := by decide +kernel
theorem dX11_gatherLineFacts_172 : decode cX11_gatherLineFacts 172 = .ok (.aload_n 0, 1) := by decide +kernel
theorem dX11_gatherLineFacts_173 : decode cX11_gatherLineFacts 173 = .ok (.getfield 74, 3) := by decide +kernel
theorem dX11_gatherLineFacts_176 : decode cX11_gatherLineFacts 176 = .ok (.bipush 8, 2) := by decide +kernel
theorem dX11_gatherLineFacts_178 : decode cX11_gatherLineFacts 178 = .ok (.sipush 1000, 3) := by decide +kernel
theorem dX11_gatherLineFacts_181 : decode cX11_gatherLineFacts 181 = .ok (.iload 4, 2) := by decide +kernel
theorem dX11_gatherLineFacts_183 : decode cX11_gatherLineFacts 183 = .ok (.imul, 1) := by decide +kernel
theorem dX11_gatherLineFacts_184 : decode cX11_gatherLineFacts 184 = .ok (.iload_n 3, 1) := by decide +kernel
theorem dX11_gatherLineFacts_185 : decode cX11_gatherLineFacts 185 = .ok (.idiv, 1) := by decide +kernel
theorem dX11_gatherLineFacts_186 : decode cX11_gatherLineFacts 186 = .ok (.iastore, 1) := by decide +kernel
theorem dX11_gatherLineFacts_187 : decode cX11_gatherLineFacts 187 = .ok (.aload_n 0, 1) := by decide +kernel
theorem dX11_gatherLineFacts_188 : decode cX11_gatherLineFacts 188 = .ok (.getfield 74, 3) := by decide +kernel
theorem dX11_gatherLineFacts_191 : decode cX11_gatherLineFacts 191 = .ok (.bipush 9, 2) := by decide +kernel
theorem dX11_gatherLineFacts_193 : decode cX11_gatherLineFacts 193 = .ok (.sipush 1000, 3) := by decide +kernel
theorem dX11_gatherLineFacts_196 : decode cX11_gatherLineFacts 196 = .ok (.iload 5, 2) := by decide +kernel
theorem dX11_gatherLineFacts_198 : decode cX11_gatherLineFacts 198 = .ok (.imul, 1) := by decide +kernel
theorem dX11_gatherLineFacts_199 : decode cX11_gatherLineFacts 199 = .ok (.iload_n 3, 1) := by decide +kernel
theorem dX11_gatherLineFacts_200 : decode cX11_gatherLineFacts 200 = .ok (.idiv, 1) := by decide +kernel
theorem dX11_gatherLineFacts_201 : decode cX11_gatherLineFacts 201 = .ok (.iastore, 1) := by decide +kernel
theorem dX11_gatherLineFacts_202 : decode cX11_gatherLineFacts 202 = .ok (.aload_n 0, 1) := by decide +kernel
theorem dX11_gatherLineFacts_203 : decode cX11_gatherLineFacts 203 = .ok (.getfield 74, 3) := by decide +kernel
theorem dX11_gatherLineFacts_206 : decode cX11_gatherLineFacts 206 = .ok (.bipush 10, 2) := by decide +kernel
theorem dX11_gatherLineFacts_208 : decode cX11_gatherLineFacts 208 = .ok (.sipush 1000, 3) := by decide +kernel
theorem dX11_gatherLineFacts_211 : decode cX11_gatherLineFacts 211 = .ok (.iload 6, 2) := by decide +kernel
theorem dX11_gatherLineFacts_213 : decode cX11_gatherLineFacts 213 = .ok (.imul, 1) := by decide +kernel
theorem dX11_gatherLineFacts_214 : decode cX11_gatherLineFacts 214 = .ok (.iload_n 3, 1) := by decide +kernel
theorem dX11_gatherLineFacts_215 : decode cX11_gatherLineFacts 215 = .ok (.idiv, 1) := by decide +kernel
theorem dX11_gatherLineFacts_216 : decode cX11_gatherLineFacts 216 = .ok (.iastore, 1) := by decide +kernel
theorem dX11_gatherLineFacts_217 : decode cX11_gatherLineFacts 217 = .ok (.aload_n 0, 1) := by decide +kernel
theorem dX11_gatherLineFacts_218 : decode cX11_gatherLineFacts 218 = .ok (.getfield 74, 3) := by decide +kernel
theorem dX11_gatherLineFacts_221 : decode cX11_gatherLineFacts 221 = .ok (.bipush 11, 2) := by decide +kernel
theorem dX11_gatherLineFacts_223 : decode cX11_gatherLineFacts 223 = .ok (.iload_n 3, 1) := by decide +kernel
theorem dX11_gatherLineFacts_224 : decode cX11_gatherLineFacts 224 = .ok (.iastore, 1) := by decide +kernel
theorem dX11_gatherLineFacts_25 : decode cX11_gatherLineFacts 25 = .ok (.aload_n 0, 1) := by decide +kernel
theorem dX11_gatherLineFacts_26 : decode cX11_gatherLineFacts 26 = .ok (.iload 7, 2) := by decide +kernel
theorem dX11_gatherLineFacts_28 : decode cX11_gatherLineFacts 28 = .ok (.invokevirtual 234, 3) := by decide +kernel
theorem dX11_gatherLineFacts_31 : decode cX11_gatherLineFacts 31 = .ok (.ifCond .eq 123, 3) := by decide +kernel
theorem dX11_gatherLineFacts_154 : decode cX11_gatherLineFacts 154 = .ok (.iinc 7 1, 3) := by decide +kernel
theorem dX11_gatherLineFacts_157 : decode cX11_gatherLineFacts 157 = .ok (.goto (-143), 3) := by decide +kernel
theorem dX11_gatherLineFacts_34 : decode cX11_gatherLineFacts 34 = .ok (.aload_n 0, 1) := by decide +kernel
theorem dX11_gatherLineFacts_35 : decode cX11_gatherLineFacts 35 = .ok (.aload_n 0, 1) := by decide +kernel
theorem dX11_gatherLineFacts_36 : decode cX11_gatherLineFacts 36 = .ok (.getfield 70, 3) := by decide +kernel
theorem dX11_gatherLineFacts_39 : decode cX11_gatherLineFacts 39 = .ok (.iload 7, 2) := by decide +kernel
theorem dX11_gatherLineFacts_41 : decode cX11_gatherLineFacts 41 = .ok (.aaload, 1) := by decide +kernel
theorem dX11_gatherLineFacts_42 : decode cX11_gatherLineFacts 42 = .ok (.iload_n 1, 1) := by decide +kernel
theorem dX11_gatherLineFacts_43 : decode cX11_gatherLineFacts 43 = .ok (.iconst 0, 1) := by decide +kernel
theorem dX11_gatherLineFacts_44 : decode cX11_gatherLineFacts 44 = .ok (.invokevirtual 441, 3) := by decide +kernel
theorem dX11_gatherLineFacts_47 : decode cX11_gatherLineFacts 47 = .ok (.istore 8, 2) := by decide +kernel
theorem dX11_gatherLineFacts_49 : decode cX11_gatherLineFacts 49 = .ok (.aload_n 0, 1) := by decide +kernel
theorem dX11_gatherLineFacts_50 : decode cX11_gatherLineFacts 50 = .ok (.aload_n 0, 1) := by decide +kernel
theorem dX11_gatherLineFacts_51 : decode cX11_gatherLineFacts 51 = .ok (.getfield 70, 3) := by decide +kernel
theorem dX11_gatherLineFacts_54 : decode cX11_gatherLineFacts 54 = .ok (.iload 7, 2) := by decide +kernel
theorem dX11_gatherLineFacts_56 : decode cX11_gatherLineFacts 56 = .ok (.aaload, 1) := by decide +kernel
theorem dX11_gatherLineFacts_57 : decode cX11_gatherLineFacts 57 = .ok (.iload_n 2, 1) := by decide +kernel
theorem dX11_gatherLineFacts_58 : decode cX11_gatherLineFacts 58 = .ok (.iconst 0, 1) := by decide +kernel
theorem dX11_gatherLineFacts_59 : decode cX11_gatherLineFacts 59 = .ok (.invokevirtual 441, 3) := by decide +kernel
theorem dX11_gatherLineFacts_62 : decode cX11_gatherLineFacts 62 = .ok (.istore 9, 2) := by decide +kernel
theorem dX11_gatherLineFacts_64 : decode cX11_gatherLineFacts 64 = .ok (.iload 8, 2) := by decide +kernel
theorem dX11_gatherLineFacts_66 : decode cX11_gatherLineFacts 66 = .ok (.invokestatic 445, 3) := by decide +kernel
theorem dX11_gatherLineFacts_69 : decode cX11_gatherLineFacts 69 = .ok (.iconst 1, 1) := by decide +kernel
theorem dX11_gatherLineFacts_70 : decode cX11_gatherLineFacts 70 = .ok (.if_icmp .ne 16, 3) := by decide +kernel
theorem dX11_gatherLineFacts_86 : decode cX11_gatherLineFacts 86 = .ok (.iconst 0, 1) := by decide +kernel
theorem dX11_gatherLineFacts_87 : decode cX11_gatherLineFacts 87 = .ok (.istore 10, 2) := by decide +kernel
theorem dX11_gatherLineFacts_89 : decode cX11_gatherLineFacts 89 = .ok (.iinc 3 1, 3) := by decide +kernel
theorem dX11_gatherLineFacts_92 : decode cX11_gatherLineFacts 92 = .ok (.iload 4, 2) := by decide +kernel
theorem dX11_gatherLineFacts_94 : decode cX11_gatherLineFacts 94 = .ok (.iload 10, 2) := by decide +kernel
theorem dX11_gatherLineFacts_96 : decode cX11_gatherLineFacts 96 = .ok (.ifCond .eq 14, 3) := by decide +kernel
theorem dX11_gatherLineFacts_110 : decode cX11_gatherLineFacts 110 = .ok (.iconst 0, 1) := by decide +kernel
theorem dX11_gatherLineFacts_111 : decode cX11_gatherLineFacts 111 = .ok (.iadd, 1) := by decide +kernel
theorem dX11_gatherLineFacts_112 : decode cX11_gatherLineFacts 112 = .ok (.istore 4, 2) := by decide +kernel
theorem dX11_gatherLineFacts_114 : decode cX11_gatherLineFacts 114 = .ok (.iload 5, 2) := by decide +kernel
theorem dX11_gatherLineFacts_116 : decode cX11_gatherLineFacts 116 = .ok (.iload 8, 2) := by decide +kernel
theorem dX11_gatherLineFacts_118 : decode cX11_gatherLineFacts 118 = .ok (.iload 9, 2) := by decide +kernel
theorem dX11_gatherLineFacts_120 : decode cX11_gatherLineFacts 120 = .ok (.iand, 1) := by decide +kernel
theorem dX11_gatherLineFacts_121 : decode cX11_gatherLineFacts 121 = .ok (.ifCond .ne 7, 3) := by decide +kernel
theorem dX11_gatherLineFacts_128 : decode cX11_gatherLineFacts 128 = .ok (.iconst 0, 1) := by decide +kernel
theorem dX11_gatherLineFacts_129 : decode cX11_gatherLineFacts 129 = .ok (.iadd, 1) := by decide +kernel
theorem dX11_gatherLineFacts_130 : decode cX11_gatherLineFacts 130 = .ok (.istore 5, 2) := by decide +kernel
theorem dX11_gatherLineFacts_132 : decode cX11_gatherLineFacts 132 = .ok (.iload 6, 2) := by decide +kernel
theorem dX11_gatherLineFacts_134 : decode cX11_gatherLineFacts 134 = .ok (.iload 10, 2) := by decide +kernel
theorem dX11_gatherLineFacts_136 : decode cX11_gatherLineFacts 136 = .ok (.ifCond .eq 14, 3) := by decide +kernel
theorem dX11_gatherLineFacts_150 : decode cX11_gatherLineFacts 150 = .ok (.iconst 0, 1) := by decide +kernel
theorem dX11_gatherLineFacts_151 : decode cX11_gatherLineFacts 151 = .ok (.iadd, 1) := by decide +kernel
theorem dX11_gatherLineFacts_152 : decode cX11_gatherLineFacts 152 = .ok (.istore 6, 2) := by decide +kernel
theorem dX11_gatherLineFacts_124 : decode cX11_gatherLineFacts 124 = .ok (.iconst 1, 1) := by decide +kernel
theorem dX11_gatherLineFacts_125 : decode cX11_gatherLineFacts 125 = .ok (.goto 4, 3) := by decide +kernel
theorem dX11_gatherLineFacts_73 : decode cX11_gatherLineFacts 73 = .ok (.iload 9, 2) := by decide +kernel
theorem dX11_gatherLineFacts_75 : decode cX11_gatherLineFacts 75 = .ok (.invokestatic 445, 3) := by decide +kernel
theorem dX11_gatherLineFacts_78 : decode cX11_gatherLineFacts 78 = .ok (.iconst 1, 1) := by decide +kernel
theorem dX11_gatherLineFacts_79 : decode cX11_gatherLineFacts 79 = .ok (.if_icmp .ne 7, 3) := by decide +kernel
theorem dX11_gatherLineFacts_82 : decode cX11_gatherLineFacts 82 = .ok (.iconst 1, 1) := by decide +kernel
theorem dX11_gatherLineFacts_83 : decode cX11_gatherLineFacts 83 = .ok (.goto 4, 3) := by decide +kernel
theorem dX11_gatherLineFacts_99 : decode cX11_gatherLineFacts 99 = .ok (.iload 8, 2) := by decide +kernel
theorem dX11_gatherLineFacts_101 : decode cX11_gatherLineFacts 101 = .ok (.iload 9, 2) := by decide +kernel
theorem dX11_gatherLineFacts_103 : decode cX11_gatherLineFacts 103 = .ok (.if_icmp .eq 7, 3) := by decide +kernel
theorem dX11_gatherLineFacts_139 : decode cX11_gatherLineFacts 139 = .ok (.iload 8, 2) := by decide +kernel
theorem dX11_gatherLineFacts_141 : decode cX11_gatherLineFacts 141 = .ok (.iload 9, 2) := by decide +kernel
theorem dX11_gatherLineFacts_143 : decode cX11_gatherLineFacts 143 = .ok (.if_icmp .ne 7, 3) := by decide +kernel
theorem dX11_gatherLineFacts_146 : decode cX11_gatherLineFacts 146 = .ok (.iconst 1, 1) := by decide +kernel
theorem dX11_gatherLineFacts_147 : decode cX11_gatherLineFacts 147 = .ok (.goto 4, 3) := by decide +kernel
theorem dX11_gatherLineFacts_106 : decode cX11_gatherLineFacts 106 = .ok (.iconst 1, 1) := by decide +kernel
theorem dX11_gatherLineFacts_107 : decode cX11_gatherLineFacts 107 = .ok (.goto 4, 3) := by decide +kernel
abbrev cX11_greatestHigh : ByteArray := prog_1_method_63_code
def yX11_greatestHigh : MethodName := ⟨RX11, "greatestHigh", "(I)I"⟩
theorem okX11_greatestHigh : yok yX11_greatestHigh 1 := by decide +kernel
theorem dX11_greatestHigh_0 : decode cX11_greatestHigh 0 = .ok (.ldc_w 449, 3) := by decide +kernel
theorem kw_1226 : Cond.constant "LandSurvey" 449 (-268435456) ∈ uu := uu_in (i := 1226) (by decide +kernel) (by decide +kernel)
theorem dX11_greatestHigh_3 : decode cX11_greatestHigh 3 = .ok (.istore_n 2, 1) := by decide +kernel
theorem dX11_greatestHigh_4 : decode cX11_greatestHigh 4 = .ok (.iconst 0, 1) := by decide +kernel
theorem dX11_greatestHigh_5 : decode cX11_greatestHigh 5 = .ok (.istore_n 3, 1) := by decide +kernel
theorem dX11_greatestHigh_6 : decode cX11_greatestHigh 6 = .ok (.iload_n 3, 1) := by decide +kernel
theorem dX11_greatestHigh_7 : decode cX11_greatestHigh 7 = .ok (.iconst 1, 1) := by decide +kernel
theorem dX11_greatestHigh_8 : decode cX11_greatestHigh 8 = .ok (.aload_n 0, 1) := by decide +kernel
theorem dX11_greatestHigh_9 : decode cX11_greatestHigh 9 = .ok (.getfield 157, 3) := by decide +kernel
theorem dX11_greatestHigh_12 : decode cX11_greatestHigh 12 = .ok (.ishl, 1) := by decide +kernel
theorem dX11_greatestHigh_13 : decode cX11_greatestHigh 13 = .ok (.if_icmp .ge 33, 3) := by decide +kernel
theorem dX11_greatestHigh_46 : decode cX11_greatestHigh 46 = .ok (.iload_n 2, 1) := by decide +kernel
theorem dX11_greatestHigh_47 : decode cX11_greatestHigh 47 = .ok (.ireturn, 1) := by decide +kernel
theorem dX11_greatestHigh_16 : decode cX11_greatestHigh 16 = .ok (.aload_n 0, 1) := by decide +kernel
theorem dX11_greatestHigh_17 : decode cX11_greatestHigh 17 = .ok (.iload_n 3, 1) := by decide +kernel
theorem dX11_greatestHigh_18 : decode cX11_greatestHigh 18 = .ok (.invokevirtual 234, 3) := by decide +kernel
theorem dX11_greatestHigh_21 : decode cX11_greatestHigh 21 = .ok (.ifCond .eq 19, 3) := by decide +kernel
theorem dX11_greatestHigh_40 : decode cX11_greatestHigh 40 = .ok (.iinc 3 1, 3) := by decide +kernel
theorem dX11_greatestHigh_43 : decode cX11_greatestHigh 43 = .ok (.goto (-37), 3) := by decide +kernel
theorem dX11_greatestHigh_24 : decode cX11_greatestHigh 24 = .ok (.iload_n 2, 1) := by decide +kernel
theorem dX11_greatestHigh_25 : decode cX11_greatestHigh 25 = .ok (.aload_n 0, 1) := by decide +kernel
theorem dX11_greatestHigh_26 : decode cX11_greatestHigh 26 = .ok (.getfield 70, 3) := by decide +kernel
theorem dX11_greatestHigh_29 : decode cX11_greatestHigh 29 = .ok (.iload_n 3, 1) := by decide +kernel
theorem dX11_greatestHigh_30 : decode cX11_greatestHigh 30 = .ok (.aaload, 1) := by decide +kernel
theorem dX11_greatestHigh_31 : decode cX11_greatestHigh 31 = .ok (.getfield 250, 3) := by decide +kernel
theorem dX11_greatestHigh_34 : decode cX11_greatestHigh 34 = .ok (.iload_n 1, 1) := by decide +kernel
theorem dX11_greatestHigh_35 : decode cX11_greatestHigh 35 = .ok (.iaload, 1) := by decide +kernel
theorem dX11_greatestHigh_36 : decode cX11_greatestHigh 36 = .ok (.invokestatic 450, 3) := by decide +kernel
abbrev cJ9_max_7cf53 : ByteArray := prog_21_method_65_code
def yJ9_max_7cf53 : MethodName := ⟨"java/lang/Math", "max", "(II)I"⟩
theorem okJ9_max_7cf53 : yok yJ9_max_7cf53 2 := by decide +kernel
theorem kw_1227 : Cond.methodLink "LandSurvey" 450 yJ9_max_7cf53 ∈ uu := uu_in (i := 1227) (by decide +kernel) (by decide +kernel)
theorem kw_714 : Cond.static yJ9_max_7cf53 ∈ uu := uu_in (i := 714) (by decide +kernel) (by decide +kernel)
theorem kw_158 : Cond.initialized "java/lang/Math" ∈ uu := uu_in (i := 158) (by decide +kernel) (by decide +kernel)
theorem kw_715 : Cond.code yJ9_max_7cf53 prog_21_method_65_code 2 (some .int) ∈ uu := uu_in (i := 715) (by decide +kernel) (by decide +kernel)
theorem dX11_greatestHigh_39 : decode cX11_greatestHigh 39 = .ok (.istore_n 2, 1) := by decide +kernel
abbrev cX11_leastLow : ByteArray := prog_1_method_64_code
def yX11_leastLow : MethodName := ⟨RX11, "leastLow", "(I)I"⟩
theorem okX11_leastLow : yok yX11_leastLow 1 := by decide +kernel
theorem dX11_leastLow_0 : decode cX11_leastLow 0 = .ok (.ldc_w 453, 3) := by decide +kernel
theorem kw_1237 : Cond.constant "LandSurvey" 453 (268435456) ∈ uu := uu_in (i := 1237) (by decide +kernel) (by decide +kernel)
theorem dX11_leastLow_3 : decode cX11_leastLow 3 = .ok (.istore_n 2, 1) := by decide +kernel
theorem dX11_leastLow_4 : decode cX11_leastLow 4 = .ok (.iconst 0, 1) := by decide +kernel
theorem dX11_leastLow_5 : decode cX11_leastLow 5 = .ok (.istore_n 3, 1) := by decide +kernel
theorem dX11_leastLow_6 : decode cX11_leastLow 6 = .ok (.iload_n 3, 1) := by decide +kernel
theorem dX11_leastLow_7 : decode cX11_leastLow 7 = .ok (.iconst 1, 1) := by decide +kernel
theorem dX11_leastLow_8 : decode cX11_leastLow 8 = .ok (.aload_n 0, 1) := by decide +kernel
theorem dX11_leastLow_9 : decode cX11_leastLow 9 = .ok (.getfield 157, 3) := by decide +kernel
theorem dX11_leastLow_12 : decode cX11_leastLow 12 = .ok (.ishl, 1) := by decide +kernel
theorem dX11_leastLow_13 : decode cX11_leastLow 13 = .ok (.if_icmp .ge 33, 3) := by decide +kernel
theorem dX11_leastLow_46 : decode cX11_leastLow 46 = .ok (.iload_n 2, 1) := by decide +kernel
theorem dX11_leastLow_47 : decode cX11_leastLow 47 = .ok (.ireturn, 1) := by decide +kernel
theorem dX11_leastLow_16 : decode cX11_leastLow 16 = .ok (.aload_n 0, 1) := by decide +kernel
theorem dX11_leastLow_17 : decode cX11_leastLow 17 = .ok (.iload_n 3, 1) := by decide +kernel
theorem dX11_leastLow_18 : decode cX11_leastLow 18 = .ok (.invokevirtual 234, 3) := by decide +kernel
theorem dX11_leastLow_21 : decode cX11_leastLow 21 = .ok (.ifCond .eq 19, 3) := by decide +kernel
theorem dX11_leastLow_40 : decode cX11_leastLow 40 = .ok (.iinc 3 1, 3) := by decide +kernel
theorem dX11_leastLow_43 : decode cX11_leastLow 43 = .ok (.goto (-37), 3) := by decide +kernel
theorem dX11_leastLow_24 : decode cX11_leastLow 24 = .ok (.iload_n 2, 1) := by decide +kernel
theorem dX11_leastLow_25 : decode cX11_leastLow 25 = .ok (.aload_n 0, 1) := by decide +kernel
theorem dX11_leastLow_26 : decode cX11_leastLow 26 = .ok (.getfield 70, 3) := by decide +kernel
theorem dX11_leastLow_29 : decode cX11_leastLow 29 = .ok (.iload_n 3, 1) := by decide +kernel
theorem dX11_leastLow_30 : decode cX11_leastLow 30 = .ok (.aaload, 1) := by decide +kernel
theorem dX11_leastLow_31 : decode cX11_leastLow 31 = .ok (.getfield 247, 3) := by decide +kernel
theorem dX11_leastLow_34 : decode cX11_leastLow 34 = .ok (.iload_n 1, 1) := by decide +kernel
theorem dX11_leastLow_35 : decode cX11_leastLow 35 = .ok (.iaload, 1) := by decide +kernel
theorem dX11_leastLow_36 : decode cX11_leastLow 36 = .ok (.invokestatic 454, 3) := by decide +kernel
abbrev cJ9_min_7cf53 : ByteArray := prog_21_method_69_code
def yJ9_min_7cf53 : MethodName := ⟨"java/lang/Math", "min", "(II)I"⟩
theorem okJ9_min_7cf53 : yok yJ9_min_7cf53 2 := by decide +kernel
theorem kw_1238 : Cond.methodLink "LandSurvey" 454 yJ9_min_7cf53 ∈ uu := uu_in (i := 1238) (by decide +kernel) (by decide +kernel)
theorem kw_717 : Cond.static yJ9_min_7cf53 ∈ uu := uu_in (i := 717) (by decide +kernel) (by decide +kernel)
theorem kw_718 : Cond.code yJ9_min_7cf53 prog_21_method_69_code 2 (some .int) ∈ uu := uu_in (i := 718) (by decide +kernel) (by decide +kernel)
theorem dX11_leastLow_39 : decode cX11_leastLow 39 = .ok (.istore_n 2, 1) := by decide +kernel
abbrev cX11_leastFoot : ByteArray := prog_1_method_65_code
def yX11_leastFoot : MethodName := ⟨RX11, "leastFoot", "(II)I"⟩
theorem okX11_leastFoot : yok yX11_leastFoot 2 := by decide +kernel
theorem dX11_leastFoot_0 : decode cX11_leastFoot 0 = .ok (.aload_n 0, 1) := by decide +kernel
theorem dX11_leastFoot_1 : decode cX11_leastFoot 1 = .ok (.getfield 16, 3) := by decide +kernel
theorem dX11_leastFoot_4 : decode cX11_leastFoot 4 = .ok (.getfield 89, 3) := by decide +kernel
theorem dX11_leastFoot_7 : decode cX11_leastFoot 7 = .ok (.iload_n 1, 1) := by decide +kernel
theorem dX11_leastFoot_8 : decode cX11_leastFoot 8 = .ok (.iaload, 1) := by decide +kernel
theorem dX11_leastFoot_9 : decode cX11_leastFoot 9 = .ok (.aload_n 0, 1) := by decide +kernel
theorem dX11_leastFoot_10 : decode cX11_leastFoot 10 = .ok (.iload_n 1, 1) := by decide +kernel
theorem dX11_leastFoot_11 : decode cX11_leastFoot 11 = .ok (.invokevirtual 457, 3) := by decide +kernel
theorem kw_1225 : Cond.code yX11_greatestHigh prog_1_method_63_code 4 (some .int) ∈ uu := uu_in (i := 1225) (by decide +kernel) (by decide +kernel)
theorem kw_1222 : Cond.methodLink "LandSurvey" 457 yX11_greatestHigh ∈ uu := uu_in (i := 1222) (by decide +kernel) (by decide +kernel)
theorem kw_1224 : Cond.instanceMethod yX11_greatestHigh ∈ uu := uu_in (i := 1224) (by decide +kernel) (by decide +kernel)
theorem kw_45 : Cond.selects "LandSurvey" yX11_greatestHigh yX11_greatestHigh ∈ uu := uu_in (i := 45) (by decide +kernel) (by decide +kernel)
theorem lk_LandSurvey_457 : lkV "LandSurvey" 457 yX11_greatestHigh cX11_greatestHigh 4 (some .int) 1 := ⟨kw_1222, kw_1224, kw_45, kw_144, kw_1225, okX11_greatestHigh⟩
theorem dX11_leastFoot_14 : decode cX11_leastFoot 14 = .ok (.isub, 1) := by decide +kernel
theorem dX11_leastFoot_15 : decode cX11_leastFoot 15 = .ok (.aload_n 0, 1) := by decide +kernel
theorem dX11_leastFoot_16 : decode cX11_leastFoot 16 = .ok (.getfield 44, 3) := by decide +kernel
theorem dX11_leastFoot_19 : decode cX11_leastFoot 19 = .ok (.iload_n 2, 1) := by decide +kernel
theorem dX11_leastFoot_20 : decode cX11_leastFoot 20 = .ok (.aload_n 0, 1) := by decide +kernel
theorem dX11_leastFoot_21 : decode cX11_leastFoot 21 = .ok (.getfield 16, 3) := by decide +kernel
theorem dX11_leastFoot_24 : decode cX11_leastFoot 24 = .ok (.getfield 96, 3) := by decide +kernel
theorem dX11_leastFoot_27 : decode cX11_leastFoot 27 = .ok (.iload_n 1, 1) := by decide +kernel
theorem dX11_leastFoot_28 : decode cX11_leastFoot 28 = .ok (.baload, 1) := by decide +kernel
theorem dX11_leastFoot_29 : decode cX11_leastFoot 29 = .ok (.invokevirtual 460, 3) := by decide +kernel
theorem kw_1228 : Cond.methodLink "LandSurvey" 460 yX5_underMost ∈ uu := uu_in (i := 1228) (by decide +kernel) (by decide +kernel)
theorem lk_LandSurvey_460 : lkV "LandSurvey" 460 yX5_underMost cX5_underMost 3 (some .int) 2 := ⟨kw_1228, kw_997, kw_998, kw_149, kw_999, okX5_underMost⟩
theorem dX11_leastFoot_32 : decode cX11_leastFoot 32 = .ok (.isub, 1) := by decide +kernel
theorem dX11_leastFoot_33 : decode cX11_leastFoot 33 = .ok (.ireturn, 1) := by decide +kernel
abbrev cX11_greatestFoot : ByteArray := prog_1_method_66_code
def yX11_greatestFoot : MethodName := ⟨RX11, "greatestFoot", "(II)I"⟩
theorem okX11_greatestFoot : yok yX11_greatestFoot 2 := by decide +kernel
theorem dX11_greatestFoot_0 : decode cX11_greatestFoot 0 = .ok (.aload_n 0, 1) := by decide +kernel
theorem dX11_greatestFoot_1 : decode cX11_greatestFoot 1 = .ok (.getfield 16, 3) := by decide +kernel
theorem dX11_greatestFoot_4 : decode cX11_greatestFoot 4 = .ok (.getfield 89, 3) := by decide +kernel
theorem dX11_greatestFoot_7 : decode cX11_greatestFoot 7 = .ok (.iload_n 1, 1) := by decide +kernel
theorem dX11_greatestFoot_8 : decode cX11_greatestFoot 8 = .ok (.iaload, 1) := by decide +kernel
theorem dX11_greatestFoot_9 : decode cX11_greatestFoot 9 = .ok (.aload_n 0, 1) := by decide +kernel
theorem dX11_greatestFoot_10 : decode cX11_greatestFoot 10 = .ok (.iload_n 1, 1) := by decide +kernel
theorem dX11_greatestFoot_11 : decode cX11_greatestFoot 11 = .ok (.invokevirtual 464, 3) := by decide +kernel
theorem kw_1236 : Cond.code yX11_leastLow prog_1_method_64_code 4 (some .int) ∈ uu := uu_in (i := 1236) (by decide +kernel) (by decide +kernel)
theorem kw_1233 : Cond.methodLink "LandSurvey" 464 yX11_leastLow ∈ uu := uu_in (i := 1233) (by decide +kernel) (by decide +kernel)
theorem kw_1235 : Cond.instanceMethod yX11_leastLow ∈ uu := uu_in (i := 1235) (by decide +kernel) (by decide +kernel)
theorem kw_47 : Cond.selects "LandSurvey" yX11_leastLow yX11_leastLow ∈ uu := uu_in (i := 47) (by decide +kernel) (by decide +kernel)
theorem lk_LandSurvey_464 : lkV "LandSurvey" 464 yX11_leastLow cX11_leastLow 4 (some .int) 1 := ⟨kw_1233, kw_1235, kw_47, kw_144, kw_1236, okX11_leastLow⟩
theorem dX11_greatestFoot_14 : decode cX11_greatestFoot 14 = .ok (.isub, 1) := by decide +kernel
theorem dX11_greatestFoot_15 : decode cX11_greatestFoot 15 = .ok (.aload_n 0, 1) := by decide +kernel
theorem dX11_greatestFoot_16 : decode cX11_greatestFoot 16 = .ok (.getfield 44, 3) := by decide +kernel
theorem dX11_greatestFoot_19 : decode cX11_greatestFoot 19 = .ok (.iload_n 2, 1) := by decide +kernel
theorem dX11_greatestFoot_20 : decode cX11_greatestFoot 20 = .ok (.aload_n 0, 1) := by decide +kernel
theorem dX11_greatestFoot_21 : decode cX11_greatestFoot 21 = .ok (.getfield 16, 3) := by decide +kernel
theorem dX11_greatestFoot_24 : decode cX11_greatestFoot 24 = .ok (.getfield 96, 3) := by decide +kernel
theorem dX11_greatestFoot_27 : decode cX11_greatestFoot 27 = .ok (.iload_n 1, 1) := by decide +kernel
theorem dX11_greatestFoot_28 : decode cX11_greatestFoot 28 = .ok (.baload, 1) := by decide +kernel
theorem dX11_greatestFoot_29 : decode cX11_greatestFoot 29 = .ok (.invokevirtual 467, 3) := by decide +kernel
theorem kw_1239 : Cond.methodLink "LandSurvey" 467 yX5_underLeast ∈ uu := uu_in (i := 1239) (by decide +kernel) (by decide +kernel)
theorem lk_LandSurvey_467 : lkV "LandSurvey" 467 yX5_underLeast cX5_underLeast 3 (some .int) 2 := ⟨kw_1239, kw_1005, kw_1006, kw_149, kw_1007, okX5_underLeast⟩
theorem dX11_greatestFoot_32 : decode cX11_greatestFoot 32 = .ok (.isub, 1) := by decide +kernel
theorem dX11_greatestFoot_33 : decode cX11_greatestFoot 33 = .ok (.ireturn, 1) := by decide +kernel
abbrev cX11_leastTop : ByteArray := prog_1_method_67_code
def yX11_leastTop : MethodName := ⟨RX11, "leastTop", "(II)I"⟩
theorem okX11_leastTop : yok yX11_leastTop 2 := by decide +kernel
theorem dX11_leastTop_0 : decode cX11_leastTop 0 = .ok (.aload_n 0, 1) := by decide +kernel
theorem dX11_leastTop_1 : decode cX11_leastTop 1 = .ok (.iload_n 1, 1) := by decide +kernel
theorem dX11_leastTop_2 : decode cX11_leastTop 2 = .ok (.iload_n 2, 1) := by decide +kernel
theorem dX11_leastTop_3 : decode cX11_leastTop 3 = .ok (.invokevirtual 293, 3) := by decide +kernel
theorem kw_1221 : Cond.code yX11_leastFoot prog_1_method_65_code 3 (some .int) ∈ uu := uu_in (i := 1221) (by decide +kernel) (by decide +kernel)
theorem kw_1218 : Cond.methodLink "LandSurvey" 293 yX11_leastFoot ∈ uu := uu_in (i := 1218) (by decide +kernel) (by decide +kernel)
theorem kw_1220 : Cond.instanceMethod yX11_leastFoot ∈ uu := uu_in (i := 1220) (by decide +kernel) (by decide +kernel)
theorem kw_44 : Cond.selects "LandSurvey" yX11_leastFoot yX11_leastFoot ∈ uu := uu_in (i := 44) (by decide +kernel) (by decide +kernel)
theorem lk_LandSurvey_293 : lkV "LandSurvey" 293 yX11_leastFoot cX11_leastFoot 3 (some .int) 2 := ⟨kw_1218, kw_1220, kw_44, kw_144, kw_1221, okX11_leastFoot⟩
theorem dX11_leastTop_6 : decode cX11_leastTop 6 = .ok (.aload_n 0, 1) := by decide +kernel
theorem dX11_leastTop_7 : decode cX11_leastTop 7 = .ok (.getfield 44, 3) := by decide +kernel
theorem dX11_leastTop_10 : decode cX11_leastTop 10 = .ok (.getfield 470, 3) := by decide +kernel
theorem kw_304 : Cond.fieldLink "LandSurvey" 470 "LandSurvey$Rules" "thick" "[I" ∈ uu := uu_in (i := 304) (by decide +kernel) (by decide +kernel)
theorem fk_LandSurvey_470 : fkR "LandSurvey" 470 5 3 RX5 TX5 19 := ⟨rfl, rfl, inX5, by decide, kw_304, by decide⟩
theorem dX11_leastTop_13 : decode cX11_leastTop 13 = .ok (.iload_n 2, 1) := by decide +kernel
theorem dX11_leastTop_14 : decode cX11_leastTop 14 = .ok (.iaload, 1) := by decide +kernel
theorem dX11_leastTop_15 : decode cX11_leastTop 15 = .ok (.isub, 1) := by decide +kernel
theorem dX11_leastTop_16 : decode cX11_leastTop 16 = .ok (.ireturn, 1) := by decide +kernel
abbrev cX11_greatestTop : ByteArray := prog_1_method_68_code
def yX11_greatestTop : MethodName := ⟨RX11, "greatestTop", "(II)I"⟩
theorem okX11_greatestTop : yok yX11_greatestTop 2 := by decide +kernel
theorem dX11_greatestTop_0 : decode cX11_greatestTop 0 = .ok (.aload_n 0, 1) := by decide +kernel
theorem dX11_greatestTop_1 : decode cX11_greatestTop 1 = .ok (.iload_n 1, 1) := by decide +kernel
theorem dX11_greatestTop_2 : decode cX11_greatestTop 2 = .ok (.iload_n 2, 1) := by decide +kernel
theorem dX11_greatestTop_3 : decode cX11_greatestTop 3 = .ok (.invokevirtual 296, 3) := by decide +kernel
theorem kw_1232 : Cond.code yX11_greatestFoot prog_1_method_66_code 3 (some .int) ∈ uu := uu_in (i := 1232) (by decide +kernel) (by decide +kernel)
theorem kw_1229 : Cond.methodLink "LandSurvey" 296 yX11_greatestFoot ∈ uu := uu_in (i := 1229) (by decide +kernel) (by decide +kernel)
theorem kw_1231 : Cond.instanceMethod yX11_greatestFoot ∈ uu := uu_in (i := 1231) (by decide +kernel) (by decide +kernel)
theorem kw_46 : Cond.selects "LandSurvey" yX11_greatestFoot yX11_greatestFoot ∈ uu := uu_in (i := 46) (by decide +kernel) (by decide +kernel)
theorem lk_LandSurvey_296 : lkV "LandSurvey" 296 yX11_greatestFoot cX11_greatestFoot 3 (some .int) 2 := ⟨kw_1229, kw_1231, kw_46, kw_144, kw_1232, okX11_greatestFoot⟩
theorem dX11_greatestTop_6 : decode cX11_greatestTop 6 = .ok (.aload_n 0, 1) := by decide +kernel
theorem dX11_greatestTop_7 : decode cX11_greatestTop 7 = .ok (.getfield 44, 3) := by decide +kernel
theorem dX11_greatestTop_10 : decode cX11_greatestTop 10 = .ok (.getfield 473, 3) := by decide +kernel
theorem kw_301 : Cond.fieldLink "LandSurvey" 473 "LandSurvey$Rules" "thin" "[I" ∈ uu := uu_in (i := 301) (by decide +kernel) (by decide +kernel)
theorem fk_LandSurvey_473 : fkR "LandSurvey" 473 5 2 RX5 TX5 19 := ⟨rfl, rfl, inX5, by decide, kw_301, by decide⟩
theorem dX11_greatestTop_13 : decode cX11_greatestTop 13 = .ok (.iload_n 2, 1) := by decide +kernel
theorem dX11_greatestTop_14 : decode cX11_greatestTop 14 = .ok (.iaload, 1) := by decide +kernel
theorem dX11_greatestTop_15 : decode cX11_greatestTop 15 = .ok (.isub, 1) := by decide +kernel
theorem dX11_greatestTop_16 : decode cX11_greatestTop 16 = .ok (.ireturn, 1) := by decide +kernel
abbrev cX11_surelyThick : ByteArray := prog_1_method_69_code
def yX11_surelyThick : MethodName := ⟨RX11, "surelyThick", "(II)I"⟩
theorem okX11_surelyThick : yok yX11_surelyThick 2 := by decide +kernel
theorem dX11_surelyThick_0 : decode cX11_surelyThick 0 = .ok (.aload_n 0, 1) := by decide +kernel
theorem dX11_surelyThick_1 : decode cX11_surelyThick 1 = .ok (.iload_n 1, 1) := by decide +kernel
theorem dX11_surelyThick_2 : decode cX11_surelyThick 2 = .ok (.iload_n 2, 1) := by decide +kernel
theorem dX11_surelyThick_3 : decode cX11_surelyThick 3 = .ok (.invokevirtual 278, 3) := by decide +kernel
theorem kw_1255 : Cond.code yX11_leastTop prog_1_method_67_code 3 (some .int) ∈ uu := uu_in (i := 1255) (by decide +kernel) (by decide +kernel)
theorem kw_1252 : Cond.methodLink "LandSurvey" 278 yX11_leastTop ∈ uu := uu_in (i := 1252) (by decide +kernel) (by decide +kernel)
theorem kw_1254 : Cond.instanceMethod yX11_leastTop ∈ uu := uu_in (i := 1254) (by decide +kernel) (by decide +kernel)
theorem kw_50 : Cond.selects "LandSurvey" yX11_leastTop yX11_leastTop ∈ uu := uu_in (i := 50) (by decide +kernel) (by decide +kernel)
theorem lk_LandSurvey_278 : lkV "LandSurvey" 278 yX11_leastTop cX11_leastTop 3 (some .int) 2 := ⟨kw_1252, kw_1254, kw_50, kw_144, kw_1255, okX11_leastTop⟩
theorem dX11_surelyThick_6 : decode cX11_surelyThick 6 = .ok (.ifCond .lt 15, 3) := by decide +kernel
theorem dX11_surelyThick_21 : decode cX11_surelyThick 21 = .ok (.iconst 0, 1) := by decide +kernel
theorem dX11_surelyThick_22 : decode cX11_surelyThick 22 = .ok (.ireturn, 1) := by decide +kernel
theorem dX11_surelyThick_9 : decode cX11_surelyThick 9 = .ok (.aload_n 0, 1) := by decide +kernel
theorem dX11_surelyThick_10 : decode cX11_surelyThick 10 = .ok (.getfield 44, 3) := by decide +kernel
theorem dX11_surelyThick_13 : decode cX11_surelyThick 13 = .ok (.getfield 473, 3) := by decide +kernel
theorem dX11_surelyThick_16 : decode cX11_surelyThick 16 = .ok (.iload_n 2, 1) := by decide +kernel
theorem dX11_surelyThick_17 : decode cX11_surelyThick 17 = .ok (.iaload, 1) := by decide +kernel
theorem dX11_surelyThick_18 : decode cX11_surelyThick 18 = .ok (.goto 4, 3) := by decide +kernel
abbrev cX11_perhapsThick : ByteArray := prog_1_method_70_code
def yX11_perhapsThick : MethodName := ⟨RX11, "perhapsThick", "(II)I"⟩
theorem okX11_perhapsThick : yok yX11_perhapsThick 2 := by decide +kernel
theorem dX11_perhapsThick_0 : decode cX11_perhapsThick 0 = .ok (.aload_n 0, 1) := by decide +kernel
theorem dX11_perhapsThick_1 : decode cX11_perhapsThick 1 = .ok (.iload_n 1, 1) := by decide +kernel
theorem dX11_perhapsThick_2 : decode cX11_perhapsThick 2 = .ok (.iload_n 2, 1) := by decide +kernel
theorem dX11_perhapsThick_3 : decode cX11_perhapsThick 3 = .ok (.invokevirtual 296, 3) := by decide +kernel
theorem dX11_perhapsThick_6 : decode cX11_perhapsThick 6 = .ok (.ifCond .le 15, 3) := by decide +kernel
theorem dX11_perhapsThick_21 : decode cX11_perhapsThick 21 = .ok (.iconst 0, 1) := by decide +kernel
theorem dX11_perhapsThick_22 : decode cX11_perhapsThick 22 = .ok (.ireturn, 1) := by decide +kernel
theorem dX11_perhapsThick_9 : decode cX11_perhapsThick 9 = .ok (.aload_n 0, 1) := by decide +kernel
theorem dX11_perhapsThick_10 : decode cX11_perhapsThick 10 = .ok (.getfield 44, 3) := by decide +kernel
theorem dX11_perhapsThick_13 : decode cX11_perhapsThick 13 = .ok (.getfield 470, 3) := by decide +kernel
theorem dX11_perhapsThick_16 : decode cX11_perhapsThick 16 = .ok (.iload_n 2, 1) := by decide +kernel
theorem dX11_perhapsThick_17 : decode cX11_perhapsThick 17 = .ok (.iaload, 1) := by decide +kernel
theorem dX11_perhapsThick_18 : decode cX11_perhapsThick 18 = .ok (.goto 4, 3) := by decide +kernel
abbrev cX11_doubtIn : ByteArray := prog_1_method_71_code
def yX11_doubtIn : MethodName := ⟨RX11, "doubtIn", "(LLandSurvey$Ground;)I"⟩
theorem okX11_doubtIn : yok yX11_doubtIn 1 := by decide +kernel
theorem dX11_doubtIn_0 : decode cX11_doubtIn 0 = .ok (.iconst 0, 1) := by decide +kernel
theorem dX11_doubtIn_1 : decode cX11_doubtIn 1 = .ok (.istore_n 2, 1) := by decide +kernel
theorem dX11_doubtIn_2 : decode cX11_doubtIn 2 = .ok (.iconst 0, 1) := by decide +kernel
theorem dX11_doubtIn_3 : decode cX11_doubtIn 3 = .ok (.istore_n 3, 1) := by decide +kernel
theorem dX11_doubtIn_4 : decode cX11_doubtIn 4 = .ok (.iload_n 3, 1) := by decide +kernel
theorem dX11_doubtIn_5 : decode cX11_doubtIn 5 = .ok (.bipush 96, 2) := by decide +kernel
theorem dX11_doubtIn_7 : decode cX11_doubtIn 7 = .ok (.if_icmp .ge 37, 3) := by decide +kernel
theorem dX11_doubtIn_44 : decode cX11_doubtIn 44 = .ok (.iload_n 2, 1) := by decide +kernel
theorem dX11_doubtIn_45 : decode cX11_doubtIn 45 = .ok (.ireturn, 1) := by decide +kernel
theorem dX11_doubtIn_10 : decode cX11_doubtIn 10 = .ok (.aload_n 0, 1) := by decide +kernel
theorem dX11_doubtIn_11 : decode cX11_doubtIn 11 = .ok (.getfield 16, 3) := by decide +kernel
theorem dX11_doubtIn_14 : decode cX11_doubtIn 14 = .ok (.getfield 331, 3) := by decide +kernel
theorem kw_198 : Cond.fieldLink "LandSurvey" 331 "LandSurvey$Land" "asked" "[Z" ∈ uu := uu_in (i := 198) (by decide +kernel) (by decide +kernel)
theorem fk_LandSurvey_331 : fkR "LandSurvey" 331 2 4 RX2 TX2 9 := ⟨rfl, rfl, inX2, by decide, kw_198, by decide⟩
theorem dX11_doubtIn_17 : decode cX11_doubtIn 17 = .ok (.iload_n 3, 1) := by decide +kernel
theorem dX11_doubtIn_18 : decode cX11_doubtIn 18 = .ok (.baload, 1) := by decide +kernel
theorem dX11_doubtIn_19 : decode cX11_doubtIn 19 = .ok (.ifCond .eq 19, 3) := by decide +kernel
theorem dX11_doubtIn_38 : decode cX11_doubtIn 38 = .ok (.iinc 3 1, 3) := by decide +kernel
theorem dX11_doubtIn_41 : decode cX11_doubtIn 41 = .ok (.goto (-37), 3) := by decide +kernel
theorem dX11_doubtIn_22 : decode cX11_doubtIn 22 = .ok (.iload_n 2, 1) := by decide +kernel
theorem dX11_doubtIn_23 : decode cX11_doubtIn 23 = .ok (.aload_n 1, 1) := by decide +kernel
theorem dX11_doubtIn_24 : decode cX11_doubtIn 24 = .ok (.getfield 250, 3) := by decide +kernel
theorem dX11_doubtIn_27 : decode cX11_doubtIn 27 = .ok (.iload_n 3, 1) := by decide +kernel
theorem dX11_doubtIn_28 : decode cX11_doubtIn 28 = .ok (.iaload, 1) := by decide +kernel
theorem dX11_doubtIn_29 : decode cX11_doubtIn 29 = .ok (.aload_n 1, 1) := by decide +kernel
theorem dX11_doubtIn_30 : decode cX11_doubtIn 30 = .ok (.getfield 247, 3) := by decide +kernel
theorem dX11_doubtIn_33 : decode cX11_doubtIn 33 = .ok (.iload_n 3, 1) := by decide +kernel
theorem dX11_doubtIn_34 : decode cX11_doubtIn 34 = .ok (.iaload, 1) := by decide +kernel
theorem dX11_doubtIn_35 : decode cX11_doubtIn 35 = .ok (.isub, 1) := by decide +kernel
theorem dX11_doubtIn_36 : decode cX11_doubtIn 36 = .ok (.iadd, 1) := by decide +kernel
theorem dX11_doubtIn_37 : decode cX11_doubtIn 37 = .ok (.istore_n 2, 1) := by decide +kernel
abbrev cX11_leftIfFound : ByteArray := prog_1_method_73_code
def yX11_leftIfFound : MethodName := ⟨RX11, "leftIfFound", "(LLandSurvey$Ground;I)I"⟩
theorem okX11_leftIfFound : yok yX11_leftIfFound 2 := by decide +kernel
theorem dX11_leftIfFound_0 : decode cX11_leftIfFound 0 = .ok (.iconst 0, 1) := by decide +kernel
theorem dX11_leftIfFound_1 : decode cX11_leftIfFound 1 = .ok (.istore_n 3, 1) := by decide +kernel
theorem dX11_leftIfFound_2 : decode cX11_leftIfFound 2 = .ok (.iconst 0, 1) := by decide +kernel
theorem dX11_leftIfFound_3 : decode cX11_leftIfFound 3 = .ok (.istore 4, 2) := by decide +kernel
theorem dX11_leftIfFound_5 : decode cX11_leftIfFound 5 = .ok (.iload 4, 2) := by decide +kernel
theorem dX11_leftIfFound_7 : decode cX11_leftIfFound 7 = .ok (.bipush 96, 2) := by decide +kernel
theorem dX11_leftIfFound_9 : decode cX11_leftIfFound 9 = .ok (.if_icmp .ge 78, 3) := by decide +kernel
theorem dX11_leftIfFound_87 : decode cX11_leftIfFound 87 = .ok (.iload_n 3, 1) := by decide +kernel
theorem dX11_leftIfFound_88 : decode cX11_leftIfFound 88 = .ok (.ireturn, 1) := by decide +kernel
theorem dX11_leftIfFound_12 : decode cX11_leftIfFound 12 = .ok (.aload_n 0, 1) := by decide +kernel
theorem dX11_leftIfFound_13 : decode cX11_leftIfFound 13 = .ok (.getfield 16, 3) := by decide +kernel
theorem dX11_leftIfFound_16 : decode cX11_leftIfFound 16 = .ok (.getfield 331, 3) := by decide +kernel
theorem dX11_leftIfFound_19 : decode cX11_leftIfFound 19 = .ok (.iload 4, 2) := by decide +kernel
theorem dX11_leftIfFound_21 : decode cX11_leftIfFound 21 = .ok (.baload, 1) := by decide +kernel
theorem dX11_leftIfFound_22 : decode cX11_leftIfFound 22 = .ok (.ifCond .eq 59, 3) := by decide +kernel
theorem dX11_leftIfFound_81 : decode cX11_leftIfFound 81 = .ok (.iinc 4 1, 3) := by decide +kernel
theorem dX11_leftIfFound_84 : decode cX11_leftIfFound 84 = .ok (.goto (-79), 3) := by decide +kernel
theorem dX11_leftIfFound_25 : decode cX11_leftIfFound 25 = .ok (.aload_n 1, 1) := by decide +kernel
theorem dX11_leftIfFound_26 : decode cX11_leftIfFound 26 = .ok (.getfield 250, 3) := by decide +kernel
theorem dX11_leftIfFound_29 : decode cX11_leftIfFound 29 = .ok (.iload 4, 2) := by decide +kernel
theorem dX11_leftIfFound_31 : decode cX11_leftIfFound 31 = .ok (.iaload, 1) := by decide +kernel
theorem dX11_leftIfFound_32 : decode cX11_leftIfFound 32 = .ok (.iload_n 2, 1) := by decide +kernel
theorem dX11_leftIfFound_33 : decode cX11_leftIfFound 33 = .ok (.aload_n 0, 1) := by decide +kernel
theorem dX11_leftIfFound_34 : decode cX11_leftIfFound 34 = .ok (.getfield 64, 3) := by decide +kernel
theorem dX11_leftIfFound_37 : decode cX11_leftIfFound 37 = .ok (.getfield 485, 3) := by decide +kernel
theorem kw_431 : Cond.fieldLink "LandSurvey" 485 "LandSurvey$Search" "reach" "[I" ∈ uu := uu_in (i := 431) (by decide +kernel) (by decide +kernel)
theorem fk_LandSurvey_485 : fkR "LandSurvey" 485 6 6 RX6 TX6 13 := ⟨rfl, rfl, inX6, by decide, kw_431, by decide⟩
theorem dX11_leftIfFound_40 : decode cX11_leftIfFound 40 = .ok (.iload 4, 2) := by decide +kernel
theorem dX11_leftIfFound_42 : decode cX11_leftIfFound 42 = .ok (.iaload, 1) := by decide +kernel
theorem dX11_leftIfFound_43 : decode cX11_leftIfFound 43 = .ok (.iadd, 1) := by decide +kernel
theorem dX11_leftIfFound_44 : decode cX11_leftIfFound 44 = .ok (.invokestatic 454, 3) := by decide +kernel
theorem dX11_leftIfFound_47 : decode cX11_leftIfFound 47 = .ok (.istore 5, 2) := by decide +kernel
theorem dX11_leftIfFound_49 : decode cX11_leftIfFound 49 = .ok (.aload_n 1, 1) := by decide +kernel
theorem dX11_leftIfFound_50 : decode cX11_leftIfFound 50 = .ok (.getfield 247, 3) := by decide +kernel
theorem dX11_leftIfFound_53 : decode cX11_leftIfFound 53 = .ok (.iload 4, 2) := by decide +kernel
theorem dX11_leftIfFound_55 : decode cX11_leftIfFound 55 = .ok (.iaload, 1) := by decide +kernel
theorem dX11_leftIfFound_56 : decode cX11_leftIfFound 56 = .ok (.iload_n 2, 1) := by decide +kernel
theorem dX11_leftIfFound_57 : decode cX11_leftIfFound 57 = .ok (.aload_n 0, 1) := by decide +kernel
theorem dX11_leftIfFound_58 : decode cX11_leftIfFound 58 = .ok (.getfield 64, 3) := by decide +kernel
theorem dX11_leftIfFound_61 : decode cX11_leftIfFound 61 = .ok (.getfield 488, 3) := by decide +kernel
theorem kw_433 : Cond.fieldLink "LandSurvey" 488 "LandSurvey$Search" "backReach" "[I" ∈ uu := uu_in (i := 433) (by decide +kernel) (by decide +kernel)
theorem fk_LandSurvey_488 : fkR "LandSurvey" 488 6 7 RX6 TX6 13 := ⟨rfl, rfl, inX6, by decide, kw_433, by decide⟩
theorem dX11_leftIfFound_64 : decode cX11_leftIfFound 64 = .ok (.iload 4, 2) := by decide +kernel
theorem dX11_leftIfFound_66 : decode cX11_leftIfFound 66 = .ok (.iaload, 1) := by decide +kernel
theorem dX11_leftIfFound_67 : decode cX11_leftIfFound 67 = .ok (.isub, 1) := by decide +kernel
theorem dX11_leftIfFound_68 : decode cX11_leftIfFound 68 = .ok (.invokestatic 450, 3) := by decide +kernel
theorem dX11_leftIfFound_71 : decode cX11_leftIfFound 71 = .ok (.istore 6, 2) := by decide +kernel
theorem dX11_leftIfFound_73 : decode cX11_leftIfFound 73 = .ok (.iload_n 3, 1) := by decide +kernel
theorem dX11_leftIfFound_74 : decode cX11_leftIfFound 74 = .ok (.iload 5, 2) := by decide +kernel
theorem dX11_leftIfFound_76 : decode cX11_leftIfFound 76 = .ok (.iload 6, 2) := by decide +kernel
theorem dX11_leftIfFound_78 : decode cX11_leftIfFound 78 = .ok (.isub, 1) := by decide +kernel
theorem dX11_leftIfFound_79 : decode cX11_leftIfFound 79 = .ok (.iadd, 1) := by decide +kernel
theorem dX11_leftIfFound_80 : decode cX11_leftIfFound 80 = .ok (.istore_n 3, 1) := by decide +kernel
abbrev cX11_agesQuarrelIn : ByteArray := prog_1_method_48_code
def yX11_agesQuarrelIn : MethodName := ⟨RX11, "agesQuarrelIn", "(LLandSurvey$Sight;)Z"⟩
theorem okX11_agesQuarrelIn : yok yX11_agesQuarrelIn 1 := by decide +kernel
theorem dX11_agesQuarrelIn_0 : decode cX11_agesQuarrelIn 0 = .ok (.aload_n 1, 1) := by decide +kernel
theorem dX11_agesQuarrelIn_1 : decode cX11_agesQuarrelIn 1 = .ok (.getfield 175, 3) := by decide +kernel
theorem dX11_agesQuarrelIn_4 : decode cX11_agesQuarrelIn 4 = .ok (.iconst (-1), 1) := by decide +kernel
theorem dX11_agesQuarrelIn_5 : decode cX11_agesQuarrelIn 5 = .ok (.if_icmp .eq 18, 3) := by decide +kernel
theorem dX11_agesQuarrelIn_23 : decode cX11_agesQuarrelIn 23 = .ok (.iconst 0, 1) := by decide +kernel
theorem dX11_agesQuarrelIn_24 : decode cX11_agesQuarrelIn 24 = .ok (.ireturn, 1) := by decide +kernel
theorem dX11_agesQuarrelIn_8 : decode cX11_agesQuarrelIn 8 = .ok (.aload_n 1, 1) := by decide +kernel
theorem dX11_agesQuarrelIn_9 : decode cX11_agesQuarrelIn 9 = .ok (.getfield 130, 3) := by decide +kernel
theorem kw_583 : Cond.fieldLink "LandSurvey" 130 "LandSurvey$Sight" "remain" "I" ∈ uu := uu_in (i := 583) (by decide +kernel) (by decide +kernel)
theorem fk_LandSurvey_130 : fkI "LandSurvey" 130 8 11 RX8 TX8 19 := ⟨rfl, rfl, inX8, by decide, kw_583, by decide⟩
theorem dX11_agesQuarrelIn_12 : decode cX11_agesQuarrelIn 12 = .ok (.iconst (-1), 1) := by decide +kernel
theorem dX11_agesQuarrelIn_13 : decode cX11_agesQuarrelIn 13 = .ok (.if_icmp .eq 10, 3) := by decide +kernel
theorem dX11_agesQuarrelIn_16 : decode cX11_agesQuarrelIn 16 = .ok (.aload_n 1, 1) := by decide +kernel
theorem dX11_agesQuarrelIn_17 : decode cX11_agesQuarrelIn 17 = .ok (.getfield 133, 3) := by decide +kernel
theorem kw_584 : Cond.fieldLink "LandSurvey" 133 "LandSurvey$Sight" "washed" "Z" ∈ uu := uu_in (i := 584) (by decide +kernel) (by decide +kernel)
theorem fk_LandSurvey_133 : fkI "LandSurvey" 133 8 12 RX8 TX8 19 := ⟨rfl, rfl, inX8, by decide, kw_584, by decide⟩
theorem dX11_agesQuarrelIn_20 : decode cX11_agesQuarrelIn 20 = .ok (.ifCond .eq 5, 3) := by decide +kernel
theorem dX11_agesQuarrelIn_25 : decode cX11_agesQuarrelIn 25 = .ok (.aload_n 0, 1) := by decide +kernel
theorem dX11_agesQuarrelIn_26 : decode cX11_agesQuarrelIn 26 = .ok (.getfield 44, 3) := by decide +kernel
theorem dX11_agesQuarrelIn_29 : decode cX11_agesQuarrelIn 29 = .ok (.getfield 426, 3) := by decide +kernel
theorem kw_321 : Cond.fieldLink "LandSurvey" 426 "LandSurvey$Rules" "remainFrom" "[I" ∈ uu := uu_in (i := 321) (by decide +kernel) (by decide +kernel)
theorem fk_LandSurvey_426 : fkR "LandSurvey" 426 5 11 RX5 TX5 19 := ⟨rfl, rfl, inX5, by decide, kw_321, by decide⟩
theorem dX11_agesQuarrelIn_32 : decode cX11_agesQuarrelIn 32 = .ok (.aload_n 1, 1) := by decide +kernel
theorem dX11_agesQuarrelIn_33 : decode cX11_agesQuarrelIn 33 = .ok (.getfield 130, 3) := by decide +kernel
theorem dX11_agesQuarrelIn_36 : decode cX11_agesQuarrelIn 36 = .ok (.iaload, 1) := by decide +kernel
theorem dX11_agesQuarrelIn_37 : decode cX11_agesQuarrelIn 37 = .ok (.istore_n 2, 1) := by decide +kernel
theorem dX11_agesQuarrelIn_38 : decode cX11_agesQuarrelIn 38 = .ok (.iload_n 2, 1) := by decide +kernel
theorem dX11_agesQuarrelIn_39 : decode cX11_agesQuarrelIn 39 = .ok (.iconst (-1), 1) := by decide +kernel
theorem dX11_agesQuarrelIn_40 : decode cX11_agesQuarrelIn 40 = .ok (.if_icmp .eq 34, 3) := by decide +kernel
theorem dX11_agesQuarrelIn_74 : decode cX11_agesQuarrelIn 74 = .ok (.iconst 0, 1) := by decide +kernel
theorem dX11_agesQuarrelIn_75 : decode cX11_agesQuarrelIn 75 = .ok (.ireturn, 1) := by decide +kernel
theorem dX11_agesQuarrelIn_43 : decode cX11_agesQuarrelIn 43 = .ok (.aload_n 1, 1) := by decide +kernel
theorem dX11_agesQuarrelIn_44 : decode cX11_agesQuarrelIn 44 = .ok (.getfield 175, 3) := by decide +kernel
theorem dX11_agesQuarrelIn_47 : decode cX11_agesQuarrelIn 47 = .ok (.iload_n 2, 1) := by decide +kernel
theorem dX11_agesQuarrelIn_48 : decode cX11_agesQuarrelIn 48 = .ok (.if_icmp .lt 22, 3) := by decide +kernel
theorem dX11_agesQuarrelIn_70 : decode cX11_agesQuarrelIn 70 = .ok (.iconst 1, 1) := by decide +kernel
theorem dX11_agesQuarrelIn_71 : decode cX11_agesQuarrelIn 71 = .ok (.goto 4, 3) := by decide +kernel
theorem dX11_agesQuarrelIn_51 : decode cX11_agesQuarrelIn 51 = .ok (.aload_n 1, 1) := by decide +kernel
theorem dX11_agesQuarrelIn_52 : decode cX11_agesQuarrelIn 52 = .ok (.getfield 175, 3) := by decide +kernel
theorem dX11_agesQuarrelIn_55 : decode cX11_agesQuarrelIn 55 = .ok (.aload_n 0, 1) := by decide +kernel
theorem dX11_agesQuarrelIn_56 : decode cX11_agesQuarrelIn 56 = .ok (.getfield 44, 3) := by decide +kernel
theorem dX11_agesQuarrelIn_59 : decode cX11_agesQuarrelIn 59 = .ok (.getfield 429, 3) := by decide +kernel
theorem kw_324 : Cond.fieldLink "LandSurvey" 429 "LandSurvey$Rules" "remainTo" "[I" ∈ uu := uu_in (i := 324) (by decide +kernel) (by decide +kernel)
theorem fk_LandSurvey_429 : fkR "LandSurvey" 429 5 12 RX5 TX5 19 := ⟨rfl, rfl, inX5, by decide, kw_324, by decide⟩
theorem dX11_agesQuarrelIn_62 : decode cX11_agesQuarrelIn 62 = .ok (.aload_n 1, 1) := by decide +kernel
theorem dX11_agesQuarrelIn_63 : decode cX11_agesQuarrelIn 63 = .ok (.getfield 130, 3) := by decide +kernel
theorem dX11_agesQuarrelIn_66 : decode cX11_agesQuarrelIn 66 = .ok (.iaload, 1) := by decide +kernel
theorem dX11_agesQuarrelIn_67 : decode cX11_agesQuarrelIn 67 = .ok (.if_icmp .le 7, 3) := by decide +kernel
abbrev cX11_areDoubles : ByteArray := prog_1_method_51_code
def yX11_areDoubles : MethodName := ⟨RX11, "areDoubles", "(LLandSurvey$Sight;LLandSurvey$Sight;)Z"⟩
theorem okX11_areDoubles : yok yX11_areDoubles 2 := by decide +kernel
theorem dX11_areDoubles_0 : decode cX11_areDoubles 0 = .ok (.aload_n 0, 1) := by decide +kernel
theorem dX11_areDoubles_1 : decode cX11_areDoubles 1 = .ok (.getfield 172, 3) := by decide +kernel
theorem dX11_areDoubles_4 : decode cX11_areDoubles 4 = .ok (.ifCond .eq 36, 3) := by decide +kernel
theorem dX11_areDoubles_40 : decode cX11_areDoubles 40 = .ok (.iconst 0, 1) := by decide +kernel
theorem dX11_areDoubles_41 : decode cX11_areDoubles 41 = .ok (.ireturn, 1) := by decide +kernel
theorem dX11_areDoubles_7 : decode cX11_areDoubles 7 = .ok (.aload_n 1, 1) := by decide +kernel
theorem dX11_areDoubles_8 : decode cX11_areDoubles 8 = .ok (.getfield 172, 3) := by decide +kernel
theorem dX11_areDoubles_11 : decode cX11_areDoubles 11 = .ok (.ifCond .eq 29, 3) := by decide +kernel
theorem dX11_areDoubles_14 : decode cX11_areDoubles 14 = .ok (.aload_n 0, 1) := by decide +kernel
theorem dX11_areDoubles_15 : decode cX11_areDoubles 15 = .ok (.getfield 115, 3) := by decide +kernel
theorem dX11_areDoubles_18 : decode cX11_areDoubles 18 = .ok (.aload_n 1, 1) := by decide +kernel
theorem dX11_areDoubles_19 : decode cX11_areDoubles 19 = .ok (.getfield 115, 3) := by decide +kernel
theorem dX11_areDoubles_22 : decode cX11_areDoubles 22 = .ok (.if_icmp .ne 18, 3) := by decide +kernel
theorem dX11_areDoubles_25 : decode cX11_areDoubles 25 = .ok (.aload_n 0, 1) := by decide +kernel
theorem dX11_areDoubles_26 : decode cX11_areDoubles 26 = .ok (.getfield 410, 3) := by decide +kernel
theorem dX11_areDoubles_29 : decode cX11_areDoubles 29 = .ok (.aload_n 1, 1) := by decide +kernel
theorem dX11_areDoubles_30 : decode cX11_areDoubles 30 = .ok (.getfield 410, 3) := by decide +kernel
theorem dX11_areDoubles_33 : decode cX11_areDoubles 33 = .ok (.if_icmp .ne 7, 3) := by decide +kernel
theorem dX11_areDoubles_36 : decode cX11_areDoubles 36 = .ok (.iconst 1, 1) := by decide +kernel
theorem dX11_areDoubles_37 : decode cX11_areDoubles 37 = .ok (.goto 4, 3) := by decide +kernel
abbrev cX11_countSaying : ByteArray := prog_1_method_50_code
def yX11_countSaying : MethodName := ⟨RX11, "countSaying", "(Z)I"⟩
theorem okX11_countSaying : yok yX11_countSaying 1 := by decide +kernel
theorem dX11_countSaying_0 : decode cX11_countSaying 0 = .ok (.iconst 0, 1) := by decide +kernel
theorem dX11_countSaying_1 : decode cX11_countSaying 1 = .ok (.istore_n 2, 1) := by decide +kernel
theorem dX11_countSaying_2 : decode cX11_countSaying 2 = .ok (.iconst 0, 1) := by decide +kernel
theorem dX11_countSaying_3 : decode cX11_countSaying 3 = .ok (.istore_n 3, 1) := by decide +kernel
theorem dX11_countSaying_4 : decode cX11_countSaying 4 = .ok (.iload_n 3, 1) := by decide +kernel
theorem dX11_countSaying_5 : decode cX11_countSaying 5 = .ok (.aload_n 0, 1) := by decide +kernel
theorem dX11_countSaying_6 : decode cX11_countSaying 6 = .ok (.getfield 102, 3) := by decide +kernel
theorem dX11_countSaying_9 : decode cX11_countSaying 9 = .ok (.if_icmp .ge 41, 3) := by decide +kernel
theorem dX11_countSaying_50 : decode cX11_countSaying 50 = .ok (.iload_n 2, 1) := by decide +kernel
theorem dX11_countSaying_51 : decode cX11_countSaying 51 = .ok (.ireturn, 1) := by decide +kernel
theorem dX11_countSaying_12 : decode cX11_countSaying 12 = .ok (.aload_n 0, 1) := by decide +kernel
theorem dX11_countSaying_13 : decode cX11_countSaying 13 = .ok (.getfield 22, 3) := by decide +kernel
theorem dX11_countSaying_16 : decode cX11_countSaying 16 = .ok (.iload_n 3, 1) := by decide +kernel
theorem dX11_countSaying_17 : decode cX11_countSaying 17 = .ok (.aaload, 1) := by decide +kernel
theorem dX11_countSaying_18 : decode cX11_countSaying 18 = .ok (.getfield 172, 3) := by decide +kernel
theorem dX11_countSaying_21 : decode cX11_countSaying 21 = .ok (.ifCond .eq 23, 3) := by decide +kernel
theorem dX11_countSaying_44 : decode cX11_countSaying 44 = .ok (.iinc 3 1, 3) := by decide +kernel
theorem dX11_countSaying_47 : decode cX11_countSaying 47 = .ok (.goto (-43), 3) := by decide +kernel
theorem dX11_countSaying_24 : decode cX11_countSaying 24 = .ok (.iload_n 1, 1) := by decide +kernel
theorem dX11_countSaying_25 : decode cX11_countSaying 25 = .ok (.ifCond .eq 16, 3) := by decide +kernel
theorem dX11_countSaying_41 : decode cX11_countSaying 41 = .ok (.iinc 2 1, 3) := by decide +kernel
theorem dX11_countSaying_28 : decode cX11_countSaying 28 = .ok (.aload_n 0, 1) := by decide +kernel
theorem dX11_countSaying_29 : decode cX11_countSaying 29 = .ok (.aload_n 0, 1) := by decide +kernel
theorem dX11_countSaying_30 : decode cX11_countSaying 30 = .ok (.getfield 22, 3) := by decide +kernel
theorem dX11_countSaying_33 : decode cX11_countSaying 33 = .ok (.iload_n 3, 1) := by decide +kernel
theorem dX11_countSaying_34 : decode cX11_countSaying 34 = .ok (.aaload, 1) := by decide +kernel
theorem dX11_countSaying_35 : decode cX11_countSaying 35 = .ok (.invokevirtual 181, 3) := by decide +kernel
theorem kw_1356 : Cond.code yX11_agesQuarrelIn prog_1_method_48_code 3 (some .boolean) ∈ uu := uu_in (i := 1356) (by decide +kernel) (by decide +kernel)
theorem kw_1353 : Cond.methodLink "LandSurvey" 181 yX11_agesQuarrelIn ∈ uu := uu_in (i := 1353) (by decide +kernel) (by decide +kernel)
theorem kw_1355 : Cond.instanceMethod yX11_agesQuarrelIn ∈ uu := uu_in (i := 1355) (by decide +kernel) (by decide +kernel)
theorem kw_58 : Cond.selects "LandSurvey" yX11_agesQuarrelIn yX11_agesQuarrelIn ∈ uu := uu_in (i := 58) (by decide +kernel) (by decide +kernel)
theorem lk_LandSurvey_181 : lkV "LandSurvey" 181 yX11_agesQuarrelIn cX11_agesQuarrelIn 3 (some .boolean) 1 := ⟨kw_1353, kw_1355, kw_58, kw_144, kw_1356, okX11_agesQuarrelIn⟩
theorem dX11_countSaying_38 : decode cX11_countSaying 38 = .ok (.ifCond .eq 6, 3) := by decide +kernel
abbrev cX11_isDoubtedInBest : ByteArray := prog_1_method_49_code
def yX11_isDoubtedInBest : MethodName := ⟨RX11, "isDoubtedInBest", "(I)Z"⟩
theorem okX11_isDoubtedInBest : yok yX11_isDoubtedInBest 1 := by decide +kernel
theorem dX11_isDoubtedInBest_0 : decode cX11_isDoubtedInBest 0 = .ok (.aload_n 0, 1) := by decide +kernel
theorem dX11_isDoubtedInBest_1 : decode cX11_isDoubtedInBest 1 = .ok (.invokevirtual 207, 3) := by decide +kernel
theorem dX11_isDoubtedInBest_4 : decode cX11_isDoubtedInBest 4 = .ok (.ifCond .eq 18, 3) := by decide +kernel
theorem dX11_isDoubtedInBest_22 : decode cX11_isDoubtedInBest 22 = .ok (.iconst 0, 1) := by decide +kernel
theorem dX11_isDoubtedInBest_23 : decode cX11_isDoubtedInBest 23 = .ok (.ireturn, 1) := by decide +kernel
theorem dX11_isDoubtedInBest_7 : decode cX11_isDoubtedInBest 7 = .ok (.aload_n 0, 1) := by decide +kernel
theorem dX11_isDoubtedInBest_8 : decode cX11_isDoubtedInBest 8 = .ok (.getfield 214, 3) := by decide +kernel
theorem dX11_isDoubtedInBest_11 : decode cX11_isDoubtedInBest 11 = .ok (.iload_n 1, 1) := by decide +kernel
theorem dX11_isDoubtedInBest_12 : decode cX11_isDoubtedInBest 12 = .ok (.invokevirtual 204, 3) := by decide +kernel
theorem kw_1136 : Cond.code yX1_doubts prog_3_method_2_code 2 (some .boolean) ∈ uu := uu_in (i := 1136) (by decide +kernel) (by decide +kernel)
theorem kw_1133 : Cond.methodLink "LandSurvey" 204 yX1_doubts ∈ uu := uu_in (i := 1133) (by decide +kernel) (by decide +kernel)
theorem kw_1134 : Cond.instanceMethod yX1_doubts ∈ uu := uu_in (i := 1134) (by decide +kernel) (by decide +kernel)
theorem kw_1135 : Cond.selects "LandSurvey$Ground" yX1_doubts yX1_doubts ∈ uu := uu_in (i := 1135) (by decide +kernel) (by decide +kernel)
theorem lk_LandSurvey_204 : lkV "LandSurvey" 204 yX1_doubts cX1_doubts 2 (some .boolean) 1 := ⟨kw_1133, kw_1134, kw_1135, kw_168, kw_1136, okX1_doubts⟩
theorem dX11_isDoubtedInBest_15 : decode cX11_isDoubtedInBest 15 = .ok (.ifCond .eq 7, 3) := by decide +kernel
theorem dX11_isDoubtedInBest_18 : decode cX11_isDoubtedInBest 18 = .ok (.iconst 1, 1) := by decide +kernel
theorem dX11_isDoubtedInBest_19 : decode cX11_isDoubtedInBest 19 = .ok (.goto 4, 3) := by decide +kernel
abbrev cX11_groundOf : ByteArray := prog_1_method_52_code
def yX11_groundOf : MethodName := ⟨RX11, "groundOf", "(I)LLandSurvey$Ground;"⟩
theorem okX11_groundOf : yok yX11_groundOf 1 := by decide +kernel
theorem dX11_groundOf_0 : decode cX11_groundOf 0 = .ok (.aload_n 0, 1) := by decide +kernel
theorem dX11_groundOf_1 : decode cX11_groundOf 1 = .ok (.iload_n 1, 1) := by decide +kernel
theorem dX11_groundOf_2 : decode cX11_groundOf 2 = .ok (.invokevirtual 231, 3) := by decide +kernel
theorem kw_959 : Cond.code yX11_isSet prog_1_method_43_code 2 (some .boolean) ∈ uu := uu_in (i := 959) (by decide +kernel) (by decide +kernel)
theorem kw_956 : Cond.methodLink "LandSurvey" 231 yX11_isSet ∈ uu := uu_in (i := 956) (by decide +kernel) (by decide +kernel)
theorem kw_958 : Cond.instanceMethod yX11_isSet ∈ uu := uu_in (i := 958) (by decide +kernel) (by decide +kernel)
theorem kw_22 : Cond.selects "LandSurvey" yX11_isSet yX11_isSet ∈ uu := uu_in (i := 22) (by decide +kernel) (by decide +kernel)
theorem lk_LandSurvey_231 : lkV "LandSurvey" 231 yX11_isSet cX11_isSet 2 (some .boolean) 1 := ⟨kw_956, kw_958, kw_22, kw_144, kw_959, okX11_isSet⟩
theorem dX11_groundOf_5 : decode cX11_groundOf 5 = .ok (.ifCond .ne 5, 3) := by decide +kernel
theorem dX11_groundOf_10 : decode cX11_groundOf 10 = .ok (.aload_n 0, 1) := by decide +kernel
theorem dX11_groundOf_11 : decode cX11_groundOf 11 = .ok (.invokevirtual 169, 3) := by decide +kernel
theorem dX11_groundOf_14 : decode cX11_groundOf 14 = .ok (.aload_n 0, 1) := by decide +kernel
theorem dX11_groundOf_15 : decode cX11_groundOf 15 = .ok (.getfield 70, 3) := by decide +kernel
theorem dX11_groundOf_18 : decode cX11_groundOf 18 = .ok (.iload_n 1, 1) := by decide +kernel
theorem dX11_groundOf_19 : decode cX11_groundOf 19 = .ok (.aaload, 1) := by decide +kernel
theorem dX11_groundOf_20 : decode cX11_groundOf 20 = .ok (.astore_n 2, 1) := by decide +kernel
theorem dX11_groundOf_21 : decode cX11_groundOf 21 = .ok (.aload_n 2, 1) := by decide +kernel
theorem dX11_groundOf_22 : decode cX11_groundOf 22 = .ok (.getfield 389, 3) := by decide +kernel
theorem dX11_groundOf_25 : decode cX11_groundOf 25 = .ok (.ifCond .ne 11, 3) := by decide +kernel
theorem dX11_groundOf_36 : decode cX11_groundOf 36 = .ok (.aload_n 2, 1) := by decide +kernel
theorem dX11_groundOf_37 : decode cX11_groundOf 37 = .ok (.getfield 435, 3) := by decide +kernel
theorem dX11_groundOf_40 : decode cX11_groundOf 40 = .ok (.ifCond .eq 7, 3) := by decide +kernel
theorem dX11_groundOf_47 : decode cX11_groundOf 47 = .ok (.aconst_null, 1) := by decide +kernel
theorem dX11_groundOf_48 : decode cX11_groundOf 48 = .ok (.areturn, 1) := by decide +kernel
theorem dX11_groundOf_43 : decode cX11_groundOf 43 = .ok (.aload_n 2, 1) := by decide +kernel
theorem dX11_groundOf_44 : decode cX11_groundOf 44 = .ok (.goto 4, 3) := by decide +kernel
theorem dX11_groundOf_28 : decode cX11_groundOf 28 = .ok (.aload_n 0, 1) := by decide +kernel
theorem dX11_groundOf_29 : decode cX11_groundOf 29 = .ok (.getfield 64, 3) := by decide +kernel
theorem dX11_groundOf_32 : decode cX11_groundOf 32 = .ok (.aload_n 2, 1) := by decide +kernel
theorem dX11_groundOf_33 : decode cX11_groundOf 33 = .ok (.invokevirtual 432, 3) := by decide +kernel
theorem dX11_groundOf_8 : decode cX11_groundOf 8 = .ok (.aconst_null, 1) := by decide +kernel
theorem dX11_groundOf_9 : decode cX11_groundOf 9 = .ok (.areturn, 1) := by decide +kernel
abbrev cX11_knownBest : ByteArray := prog_1_method_58_code
def yX11_knownBest : MethodName := ⟨RX11, "knownBest", "()LLandSurvey$Ground;"⟩
theorem okX11_knownBest : yok yX11_knownBest 0 := by decide +kernel
theorem dX11_knownBest_0 : decode cX11_knownBest 0 = .ok (.aload_n 0, 1) := by decide +kernel
theorem dX11_knownBest_1 : decode cX11_knownBest 1 = .ok (.invokevirtual 207, 3) := by decide +kernel
theorem dX11_knownBest_4 : decode cX11_knownBest 4 = .ok (.ifCond .eq 13, 3) := by decide +kernel
theorem dX11_knownBest_17 : decode cX11_knownBest 17 = .ok (.aconst_null, 1) := by decide +kernel
theorem dX11_knownBest_18 : decode cX11_knownBest 18 = .ok (.areturn, 1) := by decide +kernel
theorem dX11_knownBest_7 : decode cX11_knownBest 7 = .ok (.aload_n 0, 1) := by decide +kernel
theorem dX11_knownBest_8 : decode cX11_knownBest 8 = .ok (.getfield 214, 3) := by decide +kernel
theorem dX11_knownBest_11 : decode cX11_knownBest 11 = .ok (.getfield 237, 3) := by decide +kernel
theorem dX11_knownBest_14 : decode cX11_knownBest 14 = .ok (.ifCond .ne 5, 3) := by decide +kernel
theorem dX11_knownBest_19 : decode cX11_knownBest 19 = .ok (.aload_n 0, 1) := by decide +kernel
theorem dX11_knownBest_20 : decode cX11_knownBest 20 = .ok (.getfield 214, 3) := by decide +kernel
theorem dX11_knownBest_23 : decode cX11_knownBest 23 = .ok (.getfield 240, 3) := by decide +kernel
theorem dX11_knownBest_26 : decode cX11_knownBest 26 = .ok (.ifCond .ne 14, 3) := by decide +kernel
theorem dX11_knownBest_40 : decode cX11_knownBest 40 = .ok (.aload_n 0, 1) := by decide +kernel
theorem dX11_knownBest_41 : decode cX11_knownBest 41 = .ok (.getfield 214, 3) := by decide +kernel
theorem dX11_knownBest_44 : decode cX11_knownBest 44 = .ok (.areturn, 1) := by decide +kernel
theorem dX11_knownBest_29 : decode cX11_knownBest 29 = .ok (.aload_n 0, 1) := by decide +kernel
theorem dX11_knownBest_30 : decode cX11_knownBest 30 = .ok (.getfield 64, 3) := by decide +kernel
theorem dX11_knownBest_33 : decode cX11_knownBest 33 = .ok (.aload_n 0, 1) := by decide +kernel
theorem dX11_knownBest_34 : decode cX11_knownBest 34 = .ok (.getfield 214, 3) := by decide +kernel
theorem dX11_knownBest_37 : decode cX11_knownBest 37 = .ok (.invokevirtual 243, 3) := by decide +kernel
def wr_k_X11_judge : List Nat := [401, 402, 403, 404, 405, 406, 1403, 1404, 1405, 1412, 1813, 1814, 1815, 1816, 1817, 1818, 2003, 2207, 2215, 2216, 2217, 200400, 200407, 200408, 7420000, 8020000, 8220400, 8420400, 8620000, 9020000, 9220400, 9420000, 9821400, 10020000, 1000000002, 1000001002, 1000010100, 1000011100]
set_option maxRecDepth 100000 in
set_option maxHeartbeats 4000000 in
theorem k_X11_judge (l : Launch) (D : va_G) (cy : Nat → ClassId) (w : Nat → Nat) (z0 : Nat)  {h : Hp} {a0 : Nat}  (O : Okh h) (ta0 : Tg h a0 = 11) (P_XInv : XInv h a0) : MI l D cy w z0 yX11_judge cX11_judge 3 (some .boolean) 9 257 48 3216 [.inr (.inr a0)] h (fun v h1 => Okh h1 ∧ Fx wr_k_X11_judge h h1 ∧ (0 ≤ v ∧ v ≤ 1) ∧ (XInv h1 a0) ∧ (Iv h1 a0 15 = 1) ∧ (v = 1 → ¬ Rv h1 a0 17 = 0)) := by
  obtain ⟨v1, e2⟩ : ∃ z, Rv h a0 3 = z := ⟨_, rfl⟩
  have t3 := ok_R O ta0 rE_11_3 e2
  have l4 := ok_L O ta0 rE_11_3 e2
  obtain ⟨v5, e6⟩ : ∃ z, Iv h a0 4 = z := ⟨_, rfl⟩
  have f7 := ok_I O ta0 rI_11_4 e6
  obtain ⟨v8, e9⟩ : ∃ z, Rv h a0 8 = z := ⟨_, rfl⟩
  have t10 := ok_R O ta0 rE_11_8 e9
  have l11 := ok_L O ta0 rE_11_8 e9
  obtain ⟨v12, e13⟩ : ∃ z, Iv h a0 9 = z := ⟨_, rfl⟩
  have f14 := ok_I O ta0 rI_11_9 e13
  obtain ⟨v15, e16⟩ : ∃ z, Rv h a0 11 = z := ⟨_, rfl⟩
  have t17 := ok_R O ta0 rE_11_11 e16
  have l18 := ok_L O ta0 rE_11_11 e16
  obtain ⟨v19, e20⟩ : ∃ z, Iv h a0 12 = z := ⟨_, rfl⟩
  have f21 := ok_I O ta0 rI_11_12 e20
  obtain ⟨v22, e23⟩ : ∃ z, Iv h a0 15 = z := ⟨_, rfl⟩
  have f24 := ok_I O ta0 rI_11_15 e23
  obtain ⟨v25, e26⟩ : ∃ z, Rv h a0 14 = z := ⟨_, rfl⟩
  have t27 := ok_R O ta0 rE_11_14 e26
  have l28 := ok_L O ta0 rE_11_14 e26
  obtain ⟨v29, e30⟩ : ∃ z, Rv h a0 13 = z := ⟨_, rfl⟩
  have t31 := ok_R O ta0 rE_11_13 e30
  obtain ⟨v32, e33⟩ : ∃ z, Rv h a0 6 = z := ⟨_, rfl⟩
  have t34 := ok_R O ta0 rE_11_6 e33
  obtain ⟨v35, e36⟩ : ∃ z, Rv h a0 7 = z := ⟨_, rfl⟩
  have t37 := ok_R O ta0 rE_11_7 e36
  have p49 := P_XInv
  unfold XInv at p49
  rw [e2, e6, e9, e13, e16, e20, e23, e26, e30, e33, e36] at p49
  obtain ⟨p38, p39, p40, p41, p42, p43, p44, p45, p46, p47, p48⟩ := p49
  obtain ⟨v50, e51⟩ : ∃ z, Iv h v29 3 = z := ⟨_, rfl⟩
  have f52 := ok_I O t31 rI_7_3 e51
  obtain ⟨v53, e54⟩ : ∃ z, Iv h v29 4 = z := ⟨_, rfl⟩
  have f55 := ok_I O t31 rI_7_4 e54
  rw [e51] at p44
  rw [e54] at p45
  refine hm_go (by decide +kernel) (Nat.le_of_ble_eq_true rfl) (fun p e s m below meth c C hr hn => ?_)
  refine g_aload_n C rfl 0 rfl dX11_judge_0 ?_
  refine g_callV (st := []) (gc_V C lk_LandSurvey_169 (k_X11_settle l D cy w z0 O ta0 P_XInv) ta0 rfl rfl rfl ⟨by decide, by decide⟩ (Nat.le_of_ble_eq_true rfl) dX11_judge_1 ⟨(by decide), (by decide)⟩) (fun h57 K58 => ?_)
  obtain ⟨O60, F61, p62, p63⟩ := K58
  have e64 : Rv h57 a0 3 = v1 := ((fxR F61 ta0 rfl).trans e2)
  have e65 : Iv h57 a0 4 = v5 := ((fxI F61 ta0 rfl).trans e6)
  have e66 : Rv h57 a0 8 = v8 := ((fxR F61 ta0 rfl).trans e9)
  have e67 : Iv h57 a0 9 = v12 := ((fxI F61 ta0 rfl).trans e13)
  have e68 : Rv h57 a0 11 = v15 := ((fxR F61 ta0 rfl).trans e16)
  have e69 : Iv h57 a0 12 = v19 := ((fxI F61 ta0 rfl).trans e20)
  have e70 : Rv h57 a0 14 = v25 := ((fxR F61 ta0 rfl).trans e26)
  have e71 : Rv h57 a0 13 = v29 := ((fxR F61 ta0 rfl).trans e30)
  have e72 : Rv h57 a0 6 = v32 := ((fxR F61 ta0 rfl).trans e33)
  obtain ⟨v73, e74⟩ : ∃ z, Rv h57 a0 7 = z := ⟨_, rfl⟩
  have e75 : Tg h57 a0 = 11 := (fxT F61 ta0)
  have t76 := ok_R O60 e75 rE_11_7 e74
  have p88 := p62
  unfold XInv at p88
  rw [e64, e65, e66, e67, e68, e69, p63, e70, e71, e72, e74] at p88
  obtain ⟨p77, p78, p79, p80, p81, p82, p83, p84, p85, p86, p87⟩ := p88
  obtain ⟨v89, e90⟩ : ∃ z, Iv h57 v29 3 = z := ⟨_, rfl⟩
  have e91 : Tg h57 v29 = 7 := (fxT F61 t31)
  have f92 := ok_I O60 e91 rI_7_3 e90
  obtain ⟨v93, e94⟩ : ∃ z, Iv h57 v29 4 = z := ⟨_, rfl⟩
  have f95 := ok_I O60 e91 rI_7_4 e94
  rw [e90] at p83
  rw [e94] at p84
  have p96 := p80 (by omega)
  refine g_aload_n C rfl 0 rfl dX11_judge_4 ?_
  obtain ⟨v97, e98⟩ : ∃ z, Iv h57 a0 16 = z := ⟨_, rfl⟩
  have f99 := ok_I O60 e75 rI_11_16 e98
  refine gf_I C fk_LandSurvey_375 rfl e75 e98 dX11_judge_5 ?_
  refine g_if_ne C (iw f99 (by decide) (by decide)) 94 (by decide) dX11_judge_8 (fun q100 => ?_) (fun q101 => ?_)
  · have f102 : (1 : Int) ≤ v97 ∧ v97 ≤ (1 : Int) := r_nl f99 q100
    refine g_aload_n C rfl 0 rfl dX11_judge_94 ?_
    obtain ⟨v103, e104⟩ : ∃ z, Rv h57 a0 17 = z := ⟨_, rfl⟩
    refine gf_R C fk_LandSurvey_214 rfl e75 e104 dX11_judge_95 ?_
    refine g_ifnull C 105 (by decide) dX11_judge_98 (fun q105 => ?_) (fun q106 => ?_)
    · refine g_iconst C dX11_judge_105 ?_
      exact g_iret C hr (nar_z2 (iw (il 0) (by decide) (by decide))).1 (iw (il 0) (by decide) (by decide)) ⟨O60, ((Fx.rf (wr := wr_k_X11_judge)).call F61 rfl), (iw (il 0) (by decide) (by decide)), p62, p63, (fun z => absurd z (by decide))⟩ (by decide) (by decide) dX11_judge_106
    · have t107 := ok_N O60 e75 rE_11_17 e104 q106
      refine g_iconst C dX11_judge_101 ?_
      refine g_goto C 106 (by decide) dX11_judge_102 ?_
      exact g_iret C hr (nar_z2 (iw (il 1) (by decide) (by decide))).1 (iw (il 1) (by decide) (by decide)) ⟨O60, ((Fx.rf (wr := wr_k_X11_judge)).call F61 rfl), (iw (il 1) (by decide) (by decide)), p62, p63, (fun _ => by rw [e104]; exact nz_of O60 t107)⟩ (by decide) (by decide) dX11_judge_106
  · have f108 : (0 : Int) ≤ v97 ∧ v97 ≤ (0 : Int) := ii f99 (r_eq (il 0) q101) (by decide) (by decide)
    refine g_aload_n C rfl 0 rfl dX11_judge_11 ?_
    refine g_iconst C dX11_judge_12 ?_
    refine gp_I C fk_LandSurvey_375 pk_LandSurvey_16 rfl e75 (iw (il 1) (by decide) (by decide)) (nar_z2 (iw (il 1) (by decide) (by decide))) dX11_judge_13 (fun h110 hh109 => ?_)
    have O111 := O60.pI e75 hh109 rI_11_16 (iw (il 1) (by decide) (by decide)) nofun
    refine g_aload_n C rfl 0 rfl dX11_judge_16 ?_
    refine g_null C dX11_judge_17 ?_
    have e112 : Tg h110 a0 = 11 := ((pIT hh109).trans e75)
    refine gp_R C fk_LandSurvey_214 pk_LandSurvey_17 rfl e112 (nf_o _ _) dX11_judge_18 (fun h114 hh113 => ?_)
    have O115 := O111.pR e112 hh113 (okR_0 rE_11_17)
    refine g_iconst C dX11_judge_21 ?_
    refine g_istore_n C [(1, .inl 0), (0, .inr (.inr a0))] rfl (by decide) rfl dX11_judge_22 ?_
    refine GW.sub [1, 0] rfl ?_
    -- loop at 23
    have L118 : ∀ (μ : Nat) (x116 : Int) (h117 : Hp), (16 - x116).toNat = μ → Okh h117 → Fx [401, 402, 403, 404, 405, 406, 1412, 2003, 2217, 8020000, 8220400, 8420400, 8620000, 9020000, 9220400, 9420000] h114 h117 → ((0 : Int) ≤ x116 ∧ x116 ≤ (16 : Int)) → GW p l e (rmm 9 257 48 3216) s m (List.map toV [.inr (.inr a0)]).toArray below meth c D cy z0 3 (MQ below (QI D cy z0 (fun v h1 => Okh h1 ∧ Fx wr_k_X11_judge h h1 ∧ (0 ≤ v ∧ v ≤ 1) ∧ (XInv h1 a0) ∧ (Iv h1 a0 15 = 1) ∧ (v = 1 → ¬ Rv h1 a0 17 = 0))) (List.map toV [.inr (.inr a0)]).toArray s 48 3216 (Aof z0)) 23 [(0, .inr (.inr a0)), (1, .inl x116)] [] h117 48 3216 := by
      intro μ
      induction μ using Nat.strongRecOn with
      | ind μ ih119 =>
        intro x116 h117 hm120 O121 F122 f123
        refine g_iload_n C rfl 1 rfl dX11_judge_23 ?_
        refine g_iconst C dX11_judge_24 ?_
        refine g_aload_n C rfl 0 rfl dX11_judge_25 ?_
        have e124 : Tg h117 a0 = 11 := (fxT F122 ((pRT hh113).trans e112))
        have e125 : Tg h114 a0 = 11 := ((pRT hh113).trans e112)
        have e126 : Iv h117 a0 9 = v12 := ((fxI F122 e125 rfl).trans ((pRI hh113).trans ((pI_j hh109 (by decide)).trans e67)))
        refine gf_I C fk_LandSurvey_157 rfl e124 e126 dX11_judge_26 ?_
        refine g_ishl C dX11_judge_29 ?_
        have f127 : (1 : Int) ≤ (bShl 1 v12) ∧ (bShl 1 v12) ≤ (16 : Int) := bShl_4 f14
        refine g_icmp_ge C (iw f123 (by decide) (by decide)) (iw f127 (by decide) (by decide)) 94 (by decide) dX11_judge_30 (fun q128 => ?_) (fun q129 => ?_)
        · have f130 : (1 : Int) ≤ x116 ∧ x116 ≤ (16 : Int) := r_ge f123 f127 q128 (by decide) (by decide)
          refine g_aload_n C rfl 0 rfl dX11_judge_94 ?_
          obtain ⟨v131, e132⟩ : ∃ z, Rv h117 a0 17 = z := ⟨_, rfl⟩
          refine gf_R C fk_LandSurvey_214 rfl e124 e132 dX11_judge_95 ?_
          refine g_ifnull C 105 (by decide) dX11_judge_98 (fun q133 => ?_) (fun q134 => ?_)
          · refine g_iconst C dX11_judge_105 ?_
            have p135 := (XInv_fx O115 F122 e125 rfl (XInv_fx O111 ((Fx.rf (wr := [2217]) (h := h110)).pR e112 hh113 rfl) e112 rfl (XInv_fx O60 ((Fx.rf (wr := [2216]) (h := h57)).pI e75 hh109 rfl) e75 rfl p62)))
            have e136 : Iv h117 a0 15 = 1 := ((fxI F122 e125 rfl).trans ((pRI hh113).trans ((pI_j hh109 (by decide)).trans p63)))
            exact g_iret C hr (nar_z2 (iw (il 0) (by decide) (by decide))).1 (iw (il 0) (by decide) (by decide)) ⟨O121, (((((Fx.rf (wr := wr_k_X11_judge)).call F61 rfl).pI e75 hh109 rfl).pR e112 hh113 rfl).call F122 rfl), (iw (il 0) (by decide) (by decide)), p135, e136, (fun z => absurd z (by decide))⟩ (by decide) (by decide) dX11_judge_106
          · have t137 := ok_N O121 e124 rE_11_17 e132 q134
            refine g_iconst C dX11_judge_101 ?_
            refine g_goto C 106 (by decide) dX11_judge_102 ?_
            have p138 := (XInv_fx O115 F122 e125 rfl (XInv_fx O111 ((Fx.rf (wr := [2217]) (h := h110)).pR e112 hh113 rfl) e112 rfl (XInv_fx O60 ((Fx.rf (wr := [2216]) (h := h57)).pI e75 hh109 rfl) e75 rfl p62)))
            have e139 : Iv h117 a0 15 = 1 := ((fxI F122 e125 rfl).trans ((pRI hh113).trans ((pI_j hh109 (by decide)).trans p63)))
            exact g_iret C hr (nar_z2 (iw (il 1) (by decide) (by decide))).1 (iw (il 1) (by decide) (by decide)) ⟨O121, (((((Fx.rf (wr := wr_k_X11_judge)).call F61 rfl).pI e75 hh109 rfl).pR e112 hh113 rfl).call F122 rfl), (iw (il 1) (by decide) (by decide)), p138, e139, (fun _ => by rw [e132]; exact nz_of O121 t137)⟩ (by decide) (by decide) dX11_judge_106
        · have f140 : (0 : Int) ≤ x116 ∧ x116 ≤ (15 : Int) := r_lt f123 f127 q129 (by decide) (by decide)
          refine g_aload_n C rfl 0 rfl dX11_judge_33 ?_
          have e141 : Rv h117 a0 14 = v25 := ((fxR F122 e125 rfl).trans ((pR_j hh113 (by decide)).trans ((pIR hh109).trans e70)))
          refine gf_R C fk_LandSurvey_70 rfl e124 e141 dX11_judge_34 ?_
          refine g_iload_n C rfl 1 rfl dX11_judge_37 ?_
          have e142 : Tg h117 v25 = 49107 := (fxT F122 ((pRT hh113).trans ((pIT hh109).trans (fxT F61 t27))))
          have e143 : Tg h114 v25 = 49107 := ((pRT hh113).trans ((pIT hh109).trans (fxT F61 t27)))
          have e144 : Ln h117 v25 = 16 := ((fxL F122 e143).trans ((pRL hh113).trans ((pIL hh109).trans ((fxL F61 t27).trans l28))))
          obtain ⟨v145, e146⟩ : ∃ z, Rv h117 v25 x116.toNat = z := ⟨_, rfl⟩
          refine g_aald (t := 7) C e142 rfl (by decide) rfl e144 (ix f140 (by decide) (by decide)) e146 dX11_judge_38 ?_
          have e147 : Tg h57 v25 = 49107 := (fxT F61 t27)
          have e148 : Tg h110 v25 = 49107 := ((pIT hh109).trans e147)
          have p149 := (NN_fx F122 e143 ar_49107 rfl (NN_fx ((Fx.rf (wr := [2217]) (h := h110)).pR e112 hh113 rfl) e148 ar_49107 rfl (NN_fx ((Fx.rf (wr := [2216]) (h := h57)).pI e75 hh109 rfl) e147 ar_49107 rfl p96)))
          have q150 := nn_get p149 (by omega) e146
          have t151 := ok_Na O121 e142 ar_49107 rE_49107_0 e146 q150
          refine g_astore_n C [(2, .inr (.inr v145)), (0, .inr (.inr a0)), (1, .inl x116)] rfl (by decide) rfl dX11_judge_39 ?_
          refine g_aload_n C rfl 0 rfl dX11_judge_40 ?_
          obtain ⟨v152, e153⟩ : ∃ z, Iv h117 v145 1 = z := ⟨_, rfl⟩
          have f154 := ok_I O121 t151 rI_2_1 e153
          refine gf_I C fk_LandSurvey_389 rfl t151 e153 dX11_judge_41 ?_
          refine g_if_ne C (iw f154 (by decide) (by decide)) 55 (by decide) dX11_judge_44 (fun q155 => ?_) (fun q156 => ?_)
          · have f157 : (1 : Int) ≤ v152 ∧ v152 ≤ (1 : Int) := r_nl f154 q155
            refine g_aload_n C rfl 0 rfl dX11_judge_55 ?_
            obtain ⟨v158, e159⟩ : ∃ z, Iv h117 v145 2 = z := ⟨_, rfl⟩
            have f160 := ok_I O121 t151 rI_2_2 e159
            refine gf_I C fk_LandSurvey_435 rfl t151 e159 dX11_judge_56 ?_
            refine g_if_eq C (iw f160 (by decide) (by decide)) 88 (by decide) dX11_judge_59 (fun q161 => ?_) (fun q162 => ?_)
            · have f163 : (0 : Int) ≤ v158 ∧ v158 ≤ (0 : Int) := ii f160 (r_eq (il 0) q161) (by decide) (by decide)
              have f164 : (1 : Int) ≤ (x116 + 1) ∧ (x116 + 1) ≤ (16 : Int) := ia_add f140 (il 1) (by decide) (by decide)
              refine g_iinc C [(1, .inl (x116 + 1)), (2, .inr (.inr v145)), (0, .inr (.inr a0))] 2 rfl (by decide) rfl dX11_judge_88 ?_
              refine g_goto C 23 (by decide) dX11_judge_91 ?_
              refine GW.sub [2, 0] rfl ?_
              exact ih119 _ (by omega) (x116 + 1) h117 rfl O121 F122 (iw f164 (by decide) (by decide))
            · have f165 : (1 : Int) ≤ v158 ∧ v158 ≤ (1 : Int) := r_nl f160 q162
              refine g_aload_n C rfl 1 rfl dX11_judge_62 ?_
              obtain ⟨v166, e167⟩ : ∃ z, Rv h117 a0 17 = z := ⟨_, rfl⟩
              refine gf_R C fk_LandSurvey_214 rfl e124 e167 dX11_judge_63 ?_
              refine g_ifnull C 83 (by decide) dX11_judge_66 (fun q168 => ?_) (fun q169 => ?_)
              · refine g_aload_n C rfl 1 rfl dX11_judge_83 ?_
                refine g_aload_n C rfl 0 rfl dX11_judge_84 ?_
                refine gp_R C fk_LandSurvey_214 pk_LandSurvey_17 rfl e124 (nf_o _ _) dX11_judge_85 (fun h171 hh170 => ?_)
                have O172 := O121.pR e124 hh170 (okR_o rE_11_17 t151)
                have f173 : (1 : Int) ≤ (x116 + 1) ∧ (x116 + 1) ≤ (16 : Int) := ia_add f140 (il 1) (by decide) (by decide)
                refine g_iinc C [(1, .inl (x116 + 1)), (2, .inr (.inr v145)), (0, .inr (.inr a0))] 2 rfl (by decide) rfl dX11_judge_88 ?_
                refine g_goto C 23 (by decide) dX11_judge_91 ?_
                refine GW.sub [2, 0] rfl ?_
                exact ih119 _ (by omega) (x116 + 1) h171 rfl O172 (F122.pR e124 hh170 rfl) (iw f173 (by decide) (by decide))
              · have t174 := ok_N O121 e124 rE_11_17 e167 q169
                refine g_aload_n C rfl 0 rfl dX11_judge_69 ?_
                obtain ⟨v175, e176⟩ : ∃ z, Iv h117 v145 3 = z := ⟨_, rfl⟩
                have f177 := ok_I O121 t151 rI_2_3 e176
                refine gf_I C fk_LandSurvey_201 rfl t151 e176 dX11_judge_70 ?_
                refine g_aload_n C rfl 1 rfl dX11_judge_73 ?_
                refine gf_R C fk_LandSurvey_214 rfl e124 e167 dX11_judge_74 ?_
                obtain ⟨v178, e179⟩ : ∃ z, Iv h117 v166 3 = z := ⟨_, rfl⟩
                have f180 := ok_I O121 t174 rI_2_3 e179
                refine gf_I C fk_LandSurvey_201 rfl t174 e179 dX11_judge_77 ?_
                refine g_icmp_ge C f177 f180 88 (by decide) dX11_judge_80 (fun q181 => ?_) (fun q182 => ?_)
                · have f183 : (1 : Int) ≤ (x116 + 1) ∧ (x116 + 1) ≤ (16 : Int) := ia_add f140 (il 1) (by decide) (by decide)
                  refine g_iinc C [(1, .inl (x116 + 1)), (2, .inr (.inr v145)), (0, .inr (.inr a0))] 2 rfl (by decide) rfl dX11_judge_88 ?_
                  refine g_goto C 23 (by decide) dX11_judge_91 ?_
                  refine GW.sub [2, 0] rfl ?_
                  exact ih119 _ (by omega) (x116 + 1) h117 rfl O121 F122 (iw f183 (by decide) (by decide))
                · have f184 : (-2147483648 : Int) ≤ v175 ∧ v175 ≤ (2147483646 : Int) := r_lt f177 f180 q182 (by decide) (by decide)
                  have f185 : (-2147483647 : Int) ≤ v178 ∧ v178 ≤ (2147483647 : Int) := r_gt f180 f177 q182 (by decide) (by decide)
                  refine g_aload_n C rfl 1 rfl dX11_judge_83 ?_
                  refine g_aload_n C rfl 0 rfl dX11_judge_84 ?_
                  refine gp_R C fk_LandSurvey_214 pk_LandSurvey_17 rfl e124 (nf_o _ _) dX11_judge_85 (fun h187 hh186 => ?_)
                  have O188 := O121.pR e124 hh186 (okR_o rE_11_17 t151)
                  have f189 : (1 : Int) ≤ (x116 + 1) ∧ (x116 + 1) ≤ (16 : Int) := ia_add f140 (il 1) (by decide) (by decide)
                  refine g_iinc C [(1, .inl (x116 + 1)), (2, .inr (.inr v145)), (0, .inr (.inr a0))] 2 rfl (by decide) rfl dX11_judge_88 ?_
                  refine g_goto C 23 (by decide) dX11_judge_91 ?_
                  refine GW.sub [2, 0] rfl ?_
                  exact ih119 _ (by omega) (x116 + 1) h187 rfl O188 (F122.pR e124 hh186 rfl) (iw f189 (by decide) (by decide))
          · have f190 : (0 : Int) ≤ v152 ∧ v152 ≤ (0 : Int) := ii f154 (r_eq (il 0) q156) (by decide) (by decide)
            refine g_aload_n C rfl 1 rfl dX11_judge_47 ?_
            have e191 : Rv h117 a0 13 = v29 := ((fxR F122 e125 rfl).trans ((pR_j hh113 (by decide)).trans ((pIR hh109).trans e71)))
            refine gf_R C fk_LandSurvey_64 rfl e124 e191 dX11_judge_48 ?_
            refine g_aload_n C rfl 0 rfl dX11_judge_51 ?_
            have e192 : Tg h117 v29 = 7 := (fxT F122 ((pRT hh113).trans ((pIT hh109).trans e91)))
            have e193 : Tg h110 v29 = 7 := ((pIT hh109).trans e91)
            have e194 : Tg h114 v29 = 7 := ((pRT hh113).trans e193)
            have e195 : Rv h117 v29 1 = v1 := ((fxR F122 e194 rfl).trans ((pR_n hh113 (ne_tag e193 e112 (by decide))).trans ((pIR hh109).trans p81)))
            have e196 : Rv h117 v29 2 = v8 := ((fxR F122 e194 rfl).trans ((pR_n hh113 (ne_tag e193 e112 (by decide))).trans ((pIR hh109).trans p82)))
            have e197 : Iv h117 v29 3 = v89 := ((fxI F122 e194 rfl).trans ((pRI hh113).trans ((pI_n hh109 (ne_tag e91 e75 (by decide))).trans e90)))
            have e198 : Iv h117 v29 4 = v93 := ((fxI F122 e194 rfl).trans ((pRI hh113).trans ((pI_n hh109 (ne_tag e91 e75 (by decide))).trans e94)))
            have e199 : Tg h57 v1 = 38104 := (fxT F61 t3)
            have e200 : Tg h110 v1 = 38104 := ((pIT hh109).trans e199)
            have e201 : Tg h114 v1 = 38104 := ((pRT hh113).trans e200)
            have p202 := (SOK_fx O115 F122 e201 rfl rfl rfl (SOK_fx O111 ((Fx.rf (wr := [2217]) (h := h110)).pR e112 hh113 rfl) e200 rfl rfl rfl (SOK_fx O60 ((Fx.rf (wr := [2216]) (h := h57)).pI e75 hh109 rfl) e199 rfl rfl rfl (SOK_le p77 p83))))
            have e203 : Tg h57 v8 = 39105 := (fxT F61 t10)
            have e204 : Tg h110 v8 = 39105 := ((pIT hh109).trans e203)
            have e205 : Tg h114 v8 = 39105 := ((pRT hh113).trans e204)
            have p206 := (BOK_fx O115 F122 e205 rfl rfl rfl rfl (BOK_fx O111 ((Fx.rf (wr := [2217]) (h := h110)).pR e112 hh113 rfl) e204 rfl rfl rfl rfl (BOK_fx O60 ((Fx.rf (wr := [2216]) (h := h57)).pI e75 hh109 rfl) e203 rfl rfl rfl rfl (BOK_le p78 p84))))
            refine g_callV (st := []) (gc_V C lk_LandSurvey_432 (k_X6_solve l D cy w z0 O121 e192 t151 ⟨by rw [e195, e197]; exact p202, by rw [e196, e198]; exact p206⟩) e192 rfl rfl rfl ⟨by decide, by decide⟩ (Nat.le_of_ble_eq_true rfl) dX11_judge_52 ⟨(by decide), (by decide)⟩) (fun h208 K209 => ?_)
            obtain ⟨O211, F212⟩ := K209
            refine g_aload_n C rfl 0 rfl dX11_judge_55 ?_
            have e213 : Tg h208 v145 = 2 := (fxT F212 t151)
            obtain ⟨v214, e215⟩ : ∃ z, Iv h208 v145 2 = z := ⟨_, rfl⟩
            have f216 := ok_I O211 e213 rI_2_2 e215
            refine gf_I C fk_LandSurvey_435 rfl e213 e215 dX11_judge_56 ?_
            refine g_if_eq C (iw f216 (by decide) (by decide)) 88 (by decide) dX11_judge_59 (fun q217 => ?_) (fun q218 => ?_)
            · have f219 : (0 : Int) ≤ v214 ∧ v214 ≤ (0 : Int) := ii f216 (r_eq (il 0) q217) (by decide) (by decide)
              have f220 : (1 : Int) ≤ (x116 + 1) ∧ (x116 + 1) ≤ (16 : Int) := ia_add f140 (il 1) (by decide) (by decide)
              refine g_iinc C [(1, .inl (x116 + 1)), (2, .inr (.inr v145)), (0, .inr (.inr a0))] 2 rfl (by decide) rfl dX11_judge_88 ?_
              refine g_goto C 23 (by decide) dX11_judge_91 ?_
              refine GW.sub [2, 0] rfl ?_
              exact ih119 _ (by omega) (x116 + 1) h208 rfl O211 (F122.call F212 rfl) (iw f220 (by decide) (by decide))
            · have f221 : (1 : Int) ≤ v214 ∧ v214 ≤ (1 : Int) := r_nl f216 q218
              refine g_aload_n C rfl 1 rfl dX11_judge_62 ?_
              have e222 : Tg h208 a0 = 11 := (fxT F212 e124)
              obtain ⟨v223, e224⟩ : ∃ z, Rv h208 a0 17 = z := ⟨_, rfl⟩
              refine gf_R C fk_LandSurvey_214 rfl e222 e224 dX11_judge_63 ?_
              refine g_ifnull C 83 (by decide) dX11_judge_66 (fun q225 => ?_) (fun q226 => ?_)
              · refine g_aload_n C rfl 1 rfl dX11_judge_83 ?_
                refine g_aload_n C rfl 0 rfl dX11_judge_84 ?_
                refine gp_R C fk_LandSurvey_214 pk_LandSurvey_17 rfl e222 (nf_o _ _) dX11_judge_85 (fun h228 hh227 => ?_)
                have O229 := O211.pR e222 hh227 (okR_o rE_11_17 e213)
                have f230 : (1 : Int) ≤ (x116 + 1) ∧ (x116 + 1) ≤ (16 : Int) := ia_add f140 (il 1) (by decide) (by decide)
                refine g_iinc C [(1, .inl (x116 + 1)), (2, .inr (.inr v145)), (0, .inr (.inr a0))] 2 rfl (by decide) rfl dX11_judge_88 ?_
                refine g_goto C 23 (by decide) dX11_judge_91 ?_
                refine GW.sub [2, 0] rfl ?_
                exact ih119 _ (by omega) (x116 + 1) h228 rfl O229 ((F122.call F212 rfl).pR e222 hh227 rfl) (iw f230 (by decide) (by decide))
              · have t231 := ok_N O211 e222 rE_11_17 e224 q226
                refine g_aload_n C rfl 0 rfl dX11_judge_69 ?_
                obtain ⟨v232, e233⟩ : ∃ z, Iv h208 v145 3 = z := ⟨_, rfl⟩
                have f234 := ok_I O211 e213 rI_2_3 e233
                refine gf_I C fk_LandSurvey_201 rfl e213 e233 dX11_judge_70 ?_
                refine g_aload_n C rfl 1 rfl dX11_judge_73 ?_
                refine gf_R C fk_LandSurvey_214 rfl e222 e224 dX11_judge_74 ?_
                obtain ⟨v235, e236⟩ : ∃ z, Iv h208 v223 3 = z := ⟨_, rfl⟩
                have f237 := ok_I O211 t231 rI_2_3 e236
                refine gf_I C fk_LandSurvey_201 rfl t231 e236 dX11_judge_77 ?_
                refine g_icmp_ge C f234 f237 88 (by decide) dX11_judge_80 (fun q238 => ?_) (fun q239 => ?_)
                · have f240 : (1 : Int) ≤ (x116 + 1) ∧ (x116 + 1) ≤ (16 : Int) := ia_add f140 (il 1) (by decide) (by decide)
                  refine g_iinc C [(1, .inl (x116 + 1)), (2, .inr (.inr v145)), (0, .inr (.inr a0))] 2 rfl (by decide) rfl dX11_judge_88 ?_
                  refine g_goto C 23 (by decide) dX11_judge_91 ?_
                  refine GW.sub [2, 0] rfl ?_
                  exact ih119 _ (by omega) (x116 + 1) h208 rfl O211 (F122.call F212 rfl) (iw f240 (by decide) (by decide))
                · have f241 : (-2147483648 : Int) ≤ v232 ∧ v232 ≤ (2147483646 : Int) := r_lt f234 f237 q239 (by decide) (by decide)
                  have f242 : (-2147483647 : Int) ≤ v235 ∧ v235 ≤ (2147483647 : Int) := r_gt f237 f234 q239 (by decide) (by decide)
                  refine g_aload_n C rfl 1 rfl dX11_judge_83 ?_
                  refine g_aload_n C rfl 0 rfl dX11_judge_84 ?_
                  refine gp_R C fk_LandSurvey_214 pk_LandSurvey_17 rfl e222 (nf_o _ _) dX11_judge_85 (fun h244 hh243 => ?_)
                  have O245 := O211.pR e222 hh243 (okR_o rE_11_17 e213)
                  have f246 : (1 : Int) ≤ (x116 + 1) ∧ (x116 + 1) ≤ (16 : Int) := ia_add f140 (il 1) (by decide) (by decide)
                  refine g_iinc C [(1, .inl (x116 + 1)), (2, .inr (.inr v145)), (0, .inr (.inr a0))] 2 rfl (by decide) rfl dX11_judge_88 ?_
                  refine g_goto C 23 (by decide) dX11_judge_91 ?_
                  refine GW.sub [2, 0] rfl ?_
                  exact ih119 _ (by omega) (x116 + 1) h244 rfl O245 ((F122.call F212 rfl).pR e222 hh243 rfl) (iw f246 (by decide) (by decide))
    exact L118 _ 0 h114 rfl O115 Fx.rf (iw (il 0) (by decide) (by decide))
def wr_k_X11_isSet : List Nat := []
set_option maxRecDepth 100000 in
set_option maxHeartbeats 4000000 in
theorem k_X11_isSet (l : Launch) (D : va_G) (cy : Nat → ClassId) (w : Nat → Nat) (z0 : Nat)  {h : Hp} {a0 : Nat} {a1 : Int}  (O : Okh h) (ta0 : Tg h a0 = 11) (fa1 : (-2147483648) ≤ a1 ∧ a1 ≤ 2147483647) : MI l D cy w z0 yX11_isSet cX11_isSet 2 (some .boolean) 0 0 0 0 [.inr (.inr a0), .inl a1] h (fun v h1 => Okh h1 ∧ Fx wr_k_X11_isSet h h1 ∧ (0 ≤ v ∧ v ≤ 1) ∧ (v = 1 → 0 ≤ a1 ∧ a1 < bShl 1 (Iv h a0 9))) := by
  refine hm_go (by decide +kernel) (Nat.le_of_ble_eq_true rfl) (fun p e s m below meth c C hr hn => ?_)
  refine g_iload_n C rfl 1 rfl dX11_isSet_0 ?_
  refine g_if_lt C fa1 18 (by decide) dX11_isSet_1 (fun q1 => ?_) (fun q2 => ?_)
  · have f3 : (-2147483648 : Int) ≤ a1 ∧ a1 ≤ (-1 : Int) := r_lt fa1 (il 0) q1 (by decide) (by decide)
    refine g_iconst C dX11_isSet_18 ?_
    obtain ⟨v4, e5⟩ : ∃ z, Iv h a0 9 = z := ⟨_, rfl⟩
    have f6 := ok_I O ta0 rI_11_9 e5
    exact g_iret C hr (nar_z2 (iw (il 0) (by decide) (by decide))).1 (iw (il 0) (by decide) (by decide)) ⟨O, Fx.rf, (iw (il 0) (by decide) (by decide)), (by rw [e5]; omega)⟩ (by decide) (by decide) dX11_isSet_19
  · have f7 : (0 : Int) ≤ a1 ∧ a1 ≤ (2147483647 : Int) := r_ge fa1 (il 0) q2 (by decide) (by decide)
    refine g_iload_n C rfl 1 rfl dX11_isSet_4 ?_
    refine g_iconst C dX11_isSet_5 ?_
    refine g_aload_n C rfl 0 rfl dX11_isSet_6 ?_
    obtain ⟨v8, e9⟩ : ∃ z, Iv h a0 9 = z := ⟨_, rfl⟩
    have f10 := ok_I O ta0 rI_11_9 e9
    refine gf_I C fk_LandSurvey_157 rfl ta0 e9 dX11_isSet_7 ?_
    refine g_ishl C dX11_isSet_10 ?_
    have f11 : (1 : Int) ≤ (bShl 1 v8) ∧ (bShl 1 v8) ≤ (16 : Int) := bShl_4 f10
    refine g_icmp_ge C (iw f7 (by decide) (by decide)) (iw f11 (by decide) (by decide)) 18 (by decide) dX11_isSet_11 (fun q12 => ?_) (fun q13 => ?_)
    · have f14 : (1 : Int) ≤ a1 ∧ a1 ≤ (2147483647 : Int) := r_ge f7 f11 q12 (by decide) (by decide)
      refine g_iconst C dX11_isSet_18 ?_
      exact g_iret C hr (nar_z2 (iw (il 0) (by decide) (by decide))).1 (iw (il 0) (by decide) (by decide)) ⟨O, Fx.rf, (iw (il 0) (by decide) (by decide)), (by rw [e9]; omega)⟩ (by decide) (by decide) dX11_isSet_19
    · have f15 : (0 : Int) ≤ a1 ∧ a1 ≤ (15 : Int) := r_lt f7 f11 q13 (by decide) (by decide)
      refine g_iconst C dX11_isSet_14 ?_
      refine g_goto C 19 (by decide) dX11_isSet_15 ?_
      exact g_iret C hr (nar_z2 (iw (il 1) (by decide) (by decide))).1 (iw (il 1) (by decide) (by decide)) ⟨O, Fx.rf, (iw (il 1) (by decide) (by decide)), (by rw [e9]; omega)⟩ (by decide) (by decide) dX11_isSet_19
def wr_k_X11_isRock : List Nat := []
set_option maxRecDepth 100000 in
set_option maxHeartbeats 4000000 in
theorem k_X11_isRock (l : Launch) (D : va_G) (cy : Nat → ClassId) (w : Nat → Nat) (z0 : Nat)  {h : Hp} {a0 : Nat} {a1 : Int}  (O : Okh h) (ta0 : Tg h a0 = 11) (fa1 : (-2147483648) ≤ a1 ∧ a1 ≤ 2147483647) : MI l D cy w z0 yX11_isRock cX11_isRock 2 (some .boolean) 0 0 0 0 [.inr (.inr a0), .inl a1] h (fun v h1 => Okh h1 ∧ Fx wr_k_X11_isRock h h1 ∧ (0 ≤ v ∧ v ≤ 1) ∧ (v = 1 → 0 ≤ a1 ∧ a1 ≤ 9)) := by
  refine hm_go (by decide +kernel) (Nat.le_of_ble_eq_true rfl) (fun p e s m below meth c C hr hn => ?_)
  refine g_iload_n C rfl 1 rfl dX11_isRock_0 ?_
  refine g_if_lt C fa1 19 (by decide) dX11_isRock_1 (fun q1 => ?_) (fun q2 => ?_)
  · have f3 : (-2147483648 : Int) ≤ a1 ∧ a1 ≤ (-1 : Int) := r_lt fa1 (il 0) q1 (by decide) (by decide)
    refine g_iconst C dX11_isRock_19 ?_
    exact g_iret C hr (nar_z2 (iw (il 0) (by decide) (by decide))).1 (iw (il 0) (by decide) (by decide)) ⟨O, Fx.rf, (iw (il 0) (by decide) (by decide)), (by omega)⟩ (by decide) (by decide) dX11_isRock_20
  · have f4 : (0 : Int) ≤ a1 ∧ a1 ≤ (2147483647 : Int) := r_ge fa1 (il 0) q2 (by decide) (by decide)
    refine g_iload_n C rfl 1 rfl dX11_isRock_4 ?_
    refine g_aload_n C rfl 0 rfl dX11_isRock_5 ?_
    obtain ⟨v5, e6⟩ : ∃ z, Rv h a0 7 = z := ⟨_, rfl⟩
    have t7 := ok_R O ta0 rE_11_7 e6
    refine gf_R C fk_LandSurvey_44 rfl ta0 e6 dX11_isRock_6 ?_
    obtain ⟨v8, e9⟩ : ∃ z, Iv h v5 0 = z := ⟨_, rfl⟩
    have f10 := ok_I O t7 rI_6_0 e9
    refine gf_I C fk_LandSurvey_284 rfl t7 e9 dX11_isRock_9 ?_
    refine g_icmp_ge C (iw f4 (by decide) (by decide)) (iw f10 (by decide) (by decide)) 19 (by decide) dX11_isRock_12 (fun q11 => ?_) (fun q12 => ?_)
    · refine g_iconst C dX11_isRock_19 ?_
      exact g_iret C hr (nar_z2 (iw (il 0) (by decide) (by decide))).1 (iw (il 0) (by decide) (by decide)) ⟨O, Fx.rf, (iw (il 0) (by decide) (by decide)), (by omega)⟩ (by decide) (by decide) dX11_isRock_20
    · have f13 : (0 : Int) ≤ a1 ∧ a1 ≤ (9 : Int) := r_lt f4 f10 q12 (by decide) (by decide)
      have f14 : (1 : Int) ≤ v8 ∧ v8 ≤ (10 : Int) := r_gt f10 f4 q12 (by decide) (by decide)
      refine g_iconst C dX11_isRock_15 ?_
      refine g_goto C 20 (by decide) dX11_isRock_16 ?_
      exact g_iret C hr (nar_z2 (iw (il 1) (by decide) (by decide))).1 (iw (il 1) (by decide) (by decide)) ⟨O, Fx.rf, (iw (il 1) (by decide) (by decide)), (by omega)⟩ (by decide) (by decide) dX11_isRock_20
def wr_k_X11_isKept : List Nat := []
set_option maxRecDepth 100000 in
set_option maxHeartbeats 4000000 in
theorem k_X11_isKept (l : Launch) (D : va_G) (cy : Nat → ClassId) (w : Nat → Nat) (z0 : Nat)  {h : Hp} {a0 : Nat} {a1 : Int}  (O : Okh h) (ta0 : Tg h a0 = 11) (fa1 : 0 ≤ a1 ∧ a1 ≤ 15) (P_stlp : Iv h a0 15 = 1) (P_XInv : XInv h a0) (P_sb : a1 < bShl 1 (Iv h a0 9)) : MI l D cy w z0 yX11_isKept cX11_isKept 2 (some .boolean) 0 0 0 0 [.inr (.inr a0), .inl a1] h (fun v h1 => Okh h1 ∧ Fx wr_k_X11_isKept h h1 ∧ (0 ≤ v ∧ v ≤ 1)) := by
  obtain ⟨v1, e2⟩ : ∃ z, Rv h a0 3 = z := ⟨_, rfl⟩
  have t3 := ok_R O ta0 rE_11_3 e2
  have l4 := ok_L O ta0 rE_11_3 e2
  obtain ⟨v5, e6⟩ : ∃ z, Iv h a0 4 = z := ⟨_, rfl⟩
  have f7 := ok_I O ta0 rI_11_4 e6
  obtain ⟨v8, e9⟩ : ∃ z, Rv h a0 8 = z := ⟨_, rfl⟩
  have t10 := ok_R O ta0 rE_11_8 e9
  have l11 := ok_L O ta0 rE_11_8 e9
  obtain ⟨v12, e13⟩ : ∃ z, Iv h a0 9 = z := ⟨_, rfl⟩
  have f14 := ok_I O ta0 rI_11_9 e13
  obtain ⟨v15, e16⟩ : ∃ z, Rv h a0 11 = z := ⟨_, rfl⟩
  have t17 := ok_R O ta0 rE_11_11 e16
  have l18 := ok_L O ta0 rE_11_11 e16
  obtain ⟨v19, e20⟩ : ∃ z, Iv h a0 12 = z := ⟨_, rfl⟩
  have f21 := ok_I O ta0 rI_11_12 e20
  obtain ⟨v22, e23⟩ : ∃ z, Rv h a0 14 = z := ⟨_, rfl⟩
  have t24 := ok_R O ta0 rE_11_14 e23
  have l25 := ok_L O ta0 rE_11_14 e23
  obtain ⟨v26, e27⟩ : ∃ z, Rv h a0 13 = z := ⟨_, rfl⟩
  have t28 := ok_R O ta0 rE_11_13 e27
  obtain ⟨v29, e30⟩ : ∃ z, Rv h a0 6 = z := ⟨_, rfl⟩
  have t31 := ok_R O ta0 rE_11_6 e30
  obtain ⟨v32, e33⟩ : ∃ z, Rv h a0 7 = z := ⟨_, rfl⟩
  have t34 := ok_R O ta0 rE_11_7 e33
  have p46 := P_XInv
  unfold XInv at p46
  rw [e2, e6, e9, e13, e16, e20, P_stlp, e23, e27, e30, e33] at p46
  obtain ⟨p35, p36, p37, p38, p39, p40, p41, p42, p43, p44, p45⟩ := p46
  obtain ⟨v47, e48⟩ : ∃ z, Iv h v26 3 = z := ⟨_, rfl⟩
  have f49 := ok_I O t28 rI_7_3 e48
  obtain ⟨v50, e51⟩ : ∃ z, Iv h v26 4 = z := ⟨_, rfl⟩
  have f52 := ok_I O t28 rI_7_4 e51
  rw [e48] at p41
  rw [e51] at p42
  have p53 := p38 (by omega)
  rw [e13] at P_sb
  refine hm_go (by decide +kernel) (Nat.le_of_ble_eq_true rfl) (fun p e s m below meth c C hr hn => ?_)
  refine g_aload_n C rfl 0 rfl dX11_isKept_0 ?_
  obtain ⟨v54, e55⟩ : ∃ z, Rv h a0 17 = z := ⟨_, rfl⟩
  refine gf_R C fk_LandSurvey_214 rfl ta0 e55 dX11_isKept_1 ?_
  refine g_ifnull C 47 (by decide) dX11_isKept_4 (fun q56 => ?_) (fun q57 => ?_)
  · refine g_iconst C dX11_isKept_47 ?_
    exact g_iret C hr (nar_z2 (iw (il 0) (by decide) (by decide))).1 (iw (il 0) (by decide) (by decide)) ⟨O, Fx.rf, (iw (il 0) (by decide) (by decide))⟩ (by decide) (by decide) dX11_isKept_48
  · have t58 := ok_N O ta0 rE_11_17 e55 q57
    refine g_aload_n C rfl 0 rfl dX11_isKept_7 ?_
    refine gf_R C fk_LandSurvey_70 rfl ta0 e23 dX11_isKept_8 ?_
    refine g_iload_n C rfl 1 rfl dX11_isKept_11 ?_
    obtain ⟨v59, e60⟩ : ∃ z, Rv h v22 a1.toNat = z := ⟨_, rfl⟩
    refine g_aald (t := 7) C t24 rfl (by decide) rfl l25 (ix fa1 (by decide) (by decide)) e60 dX11_isKept_12 ?_
    have q61 := nn_get p53 (by omega) e60
    have t62 := ok_Na O t24 ar_49107 rE_49107_0 e60 q61
    obtain ⟨v63, e64⟩ : ∃ z, Iv h v59 2 = z := ⟨_, rfl⟩
    have f65 := ok_I O t62 rI_2_2 e64
    refine gf_I C fk_LandSurvey_435 rfl t62 e64 dX11_isKept_13 ?_
    refine g_if_eq C (iw f65 (by decide) (by decide)) 47 (by decide) dX11_isKept_16 (fun q66 => ?_) (fun q67 => ?_)
    · have f68 : (0 : Int) ≤ v63 ∧ v63 ≤ (0 : Int) := ii f65 (r_eq (il 0) q66) (by decide) (by decide)
      refine g_iconst C dX11_isKept_47 ?_
      exact g_iret C hr (nar_z2 (iw (il 0) (by decide) (by decide))).1 (iw (il 0) (by decide) (by decide)) ⟨O, Fx.rf, (iw (il 0) (by decide) (by decide))⟩ (by decide) (by decide) dX11_isKept_48
    · have f69 : (1 : Int) ≤ v63 ∧ v63 ≤ (1 : Int) := r_nl f65 q67
      refine g_aload_n C rfl 0 rfl dX11_isKept_19 ?_
      refine gf_R C fk_LandSurvey_70 rfl ta0 e23 dX11_isKept_20 ?_
      refine g_iload_n C rfl 1 rfl dX11_isKept_23 ?_
      refine g_aald (t := 7) C t24 rfl (by decide) rfl l25 (ix fa1 (by decide) (by decide)) e60 dX11_isKept_24 ?_
      obtain ⟨v70, e71⟩ : ∃ z, Iv h v59 3 = z := ⟨_, rfl⟩
      have f72 := ok_I O t62 rI_2_3 e71
      refine gf_I C fk_LandSurvey_201 rfl t62 e71 dX11_isKept_25 ?_
      refine g_aload_n C rfl 0 rfl dX11_isKept_28 ?_
      refine gf_R C fk_LandSurvey_214 rfl ta0 e55 dX11_isKept_29 ?_
      obtain ⟨v73, e74⟩ : ∃ z, Iv h v54 3 = z := ⟨_, rfl⟩
      have f75 := ok_I O t58 rI_2_3 e74
      refine gf_I C fk_LandSurvey_201 rfl t58 e74 dX11_isKept_32 ?_
      refine g_aload_n C rfl 0 rfl dX11_isKept_35 ?_
      obtain ⟨v76, e77⟩ : ∃ z, Iv h a0 10 = z := ⟨_, rfl⟩
      have f78 := ok_I O ta0 rI_11_10 e77
      refine gf_I C fk_LandSurvey_163 rfl ta0 e77 dX11_isKept_36 ?_
      have f79 : (-2147483648 : Int) ≤ (w32 (v73 + v76)) ∧ (w32 (v73 + v76)) ≤ (2147483647 : Int) := w32_inR _
      refine g_iaddW C dX11_isKept_39 ?_
      refine g_icmp_gt C f72 f79 47 (by decide) dX11_isKept_40 (fun q80 => ?_) (fun q81 => ?_)
      · have f82 : (-2147483648 : Int) ≤ (w32 (v73 + v76)) ∧ (w32 (v73 + v76)) ≤ (2147483646 : Int) := r_lt f79 f72 q80 (by decide) (by decide)
        have f83 : (-2147483647 : Int) ≤ v70 ∧ v70 ≤ (2147483647 : Int) := r_gt f72 f79 q80 (by decide) (by decide)
        refine g_iconst C dX11_isKept_47 ?_
        exact g_iret C hr (nar_z2 (iw (il 0) (by decide) (by decide))).1 (iw (il 0) (by decide) (by decide)) ⟨O, Fx.rf, (iw (il 0) (by decide) (by decide))⟩ (by decide) (by decide) dX11_isKept_48
      · refine g_iconst C dX11_isKept_43 ?_
        refine g_goto C 48 (by decide) dX11_isKept_44 ?_
        exact g_iret C hr (nar_z2 (iw (il 1) (by decide) (by decide))).1 (iw (il 1) (by decide) (by decide)) ⟨O, Fx.rf, (iw (il 1) (by decide) (by decide))⟩ (by decide) (by decide) dX11_isKept_48
def wr_k_X11_countKept : List Nat := []
set_option maxRecDepth 100000 in
set_option maxHeartbeats 4000000 in
theorem k_X11_countKept (l : Launch) (D : va_G) (cy : Nat → ClassId) (w : Nat → Nat) (z0 : Nat)  {h : Hp} {a0 : Nat}  (O : Okh h) (ta0 : Tg h a0 = 11) (P_stlp : Iv h a0 15 = 1) (P_XInv : XInv h a0) : MI l D cy w z0 yX11_countKept cX11_countKept 3 (some .int) 1 21 0 0 [.inr (.inr a0)] h (fun v h1 => Okh h1 ∧ Fx wr_k_X11_countKept h h1 ∧ ((-2147483648) ≤ v ∧ v ≤ 2147483647)) := by
  obtain ⟨v1, e2⟩ : ∃ z, Rv h a0 3 = z := ⟨_, rfl⟩
  have t3 := ok_R O ta0 rE_11_3 e2
  have l4 := ok_L O ta0 rE_11_3 e2
  obtain ⟨v5, e6⟩ : ∃ z, Iv h a0 4 = z := ⟨_, rfl⟩
  have f7 := ok_I O ta0 rI_11_4 e6
  obtain ⟨v8, e9⟩ : ∃ z, Rv h a0 8 = z := ⟨_, rfl⟩
  have t10 := ok_R O ta0 rE_11_8 e9
  have l11 := ok_L O ta0 rE_11_8 e9
  obtain ⟨v12, e13⟩ : ∃ z, Iv h a0 9 = z := ⟨_, rfl⟩
  have f14 := ok_I O ta0 rI_11_9 e13
  obtain ⟨v15, e16⟩ : ∃ z, Rv h a0 11 = z := ⟨_, rfl⟩
  have t17 := ok_R O ta0 rE_11_11 e16
  have l18 := ok_L O ta0 rE_11_11 e16
  obtain ⟨v19, e20⟩ : ∃ z, Iv h a0 12 = z := ⟨_, rfl⟩
  have f21 := ok_I O ta0 rI_11_12 e20
  obtain ⟨v22, e23⟩ : ∃ z, Rv h a0 14 = z := ⟨_, rfl⟩
  have t24 := ok_R O ta0 rE_11_14 e23
  have l25 := ok_L O ta0 rE_11_14 e23
  obtain ⟨v26, e27⟩ : ∃ z, Rv h a0 13 = z := ⟨_, rfl⟩
  have t28 := ok_R O ta0 rE_11_13 e27
  obtain ⟨v29, e30⟩ : ∃ z, Rv h a0 6 = z := ⟨_, rfl⟩
  have t31 := ok_R O ta0 rE_11_6 e30
  obtain ⟨v32, e33⟩ : ∃ z, Rv h a0 7 = z := ⟨_, rfl⟩
  have t34 := ok_R O ta0 rE_11_7 e33
  have p46 := P_XInv
  unfold XInv at p46
  rw [e2, e6, e9, e13, e16, e20, P_stlp, e23, e27, e30, e33] at p46
  obtain ⟨p35, p36, p37, p38, p39, p40, p41, p42, p43, p44, p45⟩ := p46
  obtain ⟨v47, e48⟩ : ∃ z, Iv h v26 3 = z := ⟨_, rfl⟩
  have f49 := ok_I O t28 rI_7_3 e48
  obtain ⟨v50, e51⟩ : ∃ z, Iv h v26 4 = z := ⟨_, rfl⟩
  have f52 := ok_I O t28 rI_7_4 e51
  rw [e48] at p41
  rw [e51] at p42
  have p53 := p38 (by omega)
  refine hm_go (by decide +kernel) (Nat.le_of_ble_eq_true rfl) (fun p e s m below meth c C hr hn => ?_)
  refine g_iconst C dX11_countKept_0 ?_
  refine g_istore_n C [(1, .inl 0), (0, .inr (.inr a0))] rfl (by decide) rfl dX11_countKept_1 ?_
  refine g_iconst C dX11_countKept_2 ?_
  refine g_istore_n C [(2, .inl 0), (1, .inl 0), (0, .inr (.inr a0))] rfl (by decide) rfl dX11_countKept_3 ?_
  refine GW.sub [2, 1, 0] rfl ?_
  -- loop at 4
  have L57 : ∀ (μ : Nat) (x54 : Int) (x55 : Int) (h56 : Hp), (16 - x55).toNat = μ → Okh h56 → Fx [] h h56 → ((-2147483648 : Int) ≤ x54 ∧ x54 ≤ (2147483647 : Int)) → ((0 : Int) ≤ x55 ∧ x55 ≤ (16 : Int)) → GW p l e (rmm 1 21 0 0) s m (List.map toV [.inr (.inr a0)]).toArray below meth c D cy z0 3 (MQ below (QI D cy z0 (fun v h1 => Okh h1 ∧ Fx wr_k_X11_countKept h h1 ∧ ((-2147483648) ≤ v ∧ v ≤ 2147483647))) (List.map toV [.inr (.inr a0)]).toArray s 0 0 (Aof z0)) 4 [(0, .inr (.inr a0)), (1, .inl x54), (2, .inl x55)] [] h56 0 0 := by
    intro μ
    induction μ using Nat.strongRecOn with
    | ind μ ih58 =>
      intro x54 x55 h56 hm59 O60 F61 f62 f63
      refine g_iload_n C rfl 2 rfl dX11_countKept_4 ?_
      refine g_iconst C dX11_countKept_5 ?_
      refine g_aload_n C rfl 0 rfl dX11_countKept_6 ?_
      have e64 : Tg h56 a0 = 11 := (fxT F61 ta0)
      have e65 : Iv h56 a0 9 = v12 := ((fxI F61 ta0 rfl).trans e13)
      refine gf_I C fk_LandSurvey_157 rfl e64 e65 dX11_countKept_7 ?_
      refine g_ishl C dX11_countKept_10 ?_
      have f66 : (1 : Int) ≤ (bShl 1 v12) ∧ (bShl 1 v12) ≤ (16 : Int) := bShl_4 f14
      refine g_icmp_ge C (iw f63 (by decide) (by decide)) (iw f66 (by decide) (by decide)) 36 (by decide) dX11_countKept_11 (fun q67 => ?_) (fun q68 => ?_)
      · have f69 : (1 : Int) ≤ x55 ∧ x55 ≤ (16 : Int) := r_ge f63 f66 q67 (by decide) (by decide)
        refine g_iload_n C rfl 1 rfl dX11_countKept_36 ?_
        exact g_iret C hr rfl f62 ⟨O60, ((Fx.rf (wr := wr_k_X11_countKept)).call F61 rfl), f62⟩ (by decide) (by decide) dX11_countKept_37
      · have f70 : (0 : Int) ≤ x55 ∧ x55 ≤ (15 : Int) := r_lt f63 f66 q68 (by decide) (by decide)
        refine g_iload_n C rfl 1 rfl dX11_countKept_14 ?_
        refine g_aload_n C rfl 0 rfl dX11_countKept_15 ?_
        refine g_iload_n C rfl 2 rfl dX11_countKept_16 ?_
        have e71 : Iv h56 a0 15 = 1 := ((fxI F61 ta0 rfl).trans P_stlp)
        have p72 := (XInv_fx O F61 ta0 rfl P_XInv)
        refine g_callI (st := [.inl x54]) (gc_V C lk_LandSurvey_234 (k_X11_isKept l D cy w z0 O60 e64 f70 e71 p72 (by rw [e65]; omega)) e64 rfl rfl rfl ⟨by decide, by decide⟩ (Nat.le_of_ble_eq_true rfl) dX11_countKept_17 ⟨(by decide), (by decide)⟩) (fun r73 h74 f76 K75 => ?_)
        obtain ⟨O77, F78, f79⟩ := K75
        refine g_if_eq C (iw f79 (by decide) (by decide)) 27 (by decide) dX11_countKept_20 (fun q80 => ?_) (fun q81 => ?_)
        · have f82 : (0 : Int) ≤ r73 ∧ r73 ≤ (0 : Int) := ii f79 (r_eq (il 0) q80) (by decide) (by decide)
          refine g_iconst C dX11_countKept_27 ?_
          have f83 : (-2147483648 : Int) ≤ (x54 + 0) ∧ (x54 + 0) ≤ (2147483647 : Int) := ia_add f62 (il 0) (by decide) (by decide)
          refine g_iadd C dX11_countKept_28 ?_
          refine g_istore_n C [(1, .inl (x54 + 0)), (0, .inr (.inr a0)), (2, .inl x55)] rfl (by decide) rfl dX11_countKept_29 ?_
          have f84 : (1 : Int) ≤ (x55 + 1) ∧ (x55 + 1) ≤ (16 : Int) := ia_add f70 (il 1) (by decide) (by decide)
          refine g_iinc C [(2, .inl (x55 + 1)), (1, .inl (x54 + 0)), (0, .inr (.inr a0))] 2 rfl (by decide) rfl dX11_countKept_30 ?_
          refine g_goto C 4 (by decide) dX11_countKept_33 ?_
          refine GW.sub [2, 1, 0] rfl ?_
          exact ih58 _ (by omega) (x54 + 0) (x55 + 1) h74 rfl O77 (F61.call F78 rfl) f83 (iw f84 (by decide) (by decide))
        · have f85 : (1 : Int) ≤ r73 ∧ r73 ≤ (1 : Int) := r_nl f79 q81
          refine g_iconst C dX11_countKept_23 ?_
          refine g_goto C 28 (by decide) dX11_countKept_24 ?_
          have f86 : (-2147483648 : Int) ≤ (w32 (x54 + 1)) ∧ (w32 (x54 + 1)) ≤ (2147483647 : Int) := w32_inR _
          refine g_iaddW C dX11_countKept_28 ?_
          refine g_istore_n C [(1, .inl (w32 (x54 + 1))), (0, .inr (.inr a0)), (2, .inl x55)] rfl (by decide) rfl dX11_countKept_29 ?_
          have f87 : (1 : Int) ≤ (x55 + 1) ∧ (x55 + 1) ≤ (16 : Int) := ia_add f70 (il 1) (by decide) (by decide)
          refine g_iinc C [(2, .inl (x55 + 1)), (1, .inl (w32 (x54 + 1))), (0, .inr (.inr a0))] 2 rfl (by decide) rfl dX11_countKept_30 ?_
          refine g_goto C 4 (by decide) dX11_countKept_33 ?_
          refine GW.sub [2, 1, 0] rfl ?_
          exact ih58 _ (by omega) (w32 (x54 + 1)) (x55 + 1) h74 rfl O77 (F61.call F78 rfl) f86 (iw f87 (by decide) (by decide))
  exact L57 _ 0 0 h rfl O Fx.rf (iw (il 0) (by decide) (by decide)) (iw (il 0) (by decide) (by decide))
def wr_k_X11_allKeptKnown : List Nat := []
set_option maxRecDepth 100000 in
set_option maxHeartbeats 4000000 in
theorem k_X11_allKeptKnown (l : Launch) (D : va_G) (cy : Nat → ClassId) (w : Nat → Nat) (z0 : Nat)  {h : Hp} {a0 : Nat}  (O : Okh h) (ta0 : Tg h a0 = 11) (P_stlp : Iv h a0 15 = 1) (P_XInv : XInv h a0) : MI l D cy w z0 yX11_allKeptKnown cX11_allKeptKnown 2 (some .boolean) 1 21 0 0 [.inr (.inr a0)] h (fun v h1 => Okh h1 ∧ Fx wr_k_X11_allKeptKnown h h1 ∧ (0 ≤ v ∧ v ≤ 1)) := by
  obtain ⟨v1, e2⟩ : ∃ z, Rv h a0 3 = z := ⟨_, rfl⟩
  have t3 := ok_R O ta0 rE_11_3 e2
  have l4 := ok_L O ta0 rE_11_3 e2
  obtain ⟨v5, e6⟩ : ∃ z, Iv h a0 4 = z := ⟨_, rfl⟩
  have f7 := ok_I O ta0 rI_11_4 e6
  obtain ⟨v8, e9⟩ : ∃ z, Rv h a0 8 = z := ⟨_, rfl⟩
  have t10 := ok_R O ta0 rE_11_8 e9
  have l11 := ok_L O ta0 rE_11_8 e9
  obtain ⟨v12, e13⟩ : ∃ z, Iv h a0 9 = z := ⟨_, rfl⟩
  have f14 := ok_I O ta0 rI_11_9 e13
  obtain ⟨v15, e16⟩ : ∃ z, Rv h a0 11 = z := ⟨_, rfl⟩
  have t17 := ok_R O ta0 rE_11_11 e16
  have l18 := ok_L O ta0 rE_11_11 e16
  obtain ⟨v19, e20⟩ : ∃ z, Iv h a0 12 = z := ⟨_, rfl⟩
  have f21 := ok_I O ta0 rI_11_12 e20
  obtain ⟨v22, e23⟩ : ∃ z, Rv h a0 14 = z := ⟨_, rfl⟩
  have t24 := ok_R O ta0 rE_11_14 e23
  have l25 := ok_L O ta0 rE_11_14 e23
  obtain ⟨v26, e27⟩ : ∃ z, Rv h a0 13 = z := ⟨_, rfl⟩
  have t28 := ok_R O ta0 rE_11_13 e27
  obtain ⟨v29, e30⟩ : ∃ z, Rv h a0 6 = z := ⟨_, rfl⟩
  have t31 := ok_R O ta0 rE_11_6 e30
  obtain ⟨v32, e33⟩ : ∃ z, Rv h a0 7 = z := ⟨_, rfl⟩
  have t34 := ok_R O ta0 rE_11_7 e33
  have p46 := P_XInv
  unfold XInv at p46
  rw [e2, e6, e9, e13, e16, e20, P_stlp, e23, e27, e30, e33] at p46
  obtain ⟨p35, p36, p37, p38, p39, p40, p41, p42, p43, p44, p45⟩ := p46
  obtain ⟨v47, e48⟩ : ∃ z, Iv h v26 3 = z := ⟨_, rfl⟩
  have f49 := ok_I O t28 rI_7_3 e48
  obtain ⟨v50, e51⟩ : ∃ z, Iv h v26 4 = z := ⟨_, rfl⟩
  have f52 := ok_I O t28 rI_7_4 e51
  rw [e48] at p41
  rw [e51] at p42
  have p53 := p38 (by omega)
  refine hm_go (by decide +kernel) (Nat.le_of_ble_eq_true rfl) (fun p e s m below meth c C hr hn => ?_)
  refine g_iconst C dX11_allKeptKnown_0 ?_
  refine g_istore_n C [(1, .inl 0), (0, .inr (.inr a0))] rfl (by decide) rfl dX11_allKeptKnown_1 ?_
  refine GW.sub [1, 0] rfl ?_
  -- loop at 2
  have L56 : ∀ (μ : Nat) (x54 : Int) (h55 : Hp), (16 - x54).toNat = μ → Okh h55 → Fx [] h h55 → ((0 : Int) ≤ x54 ∧ x54 ≤ (16 : Int)) → GW p l e (rmm 1 21 0 0) s m (List.map toV [.inr (.inr a0)]).toArray below meth c D cy z0 2 (MQ below (QI D cy z0 (fun v h1 => Okh h1 ∧ Fx wr_k_X11_allKeptKnown h h1 ∧ (0 ≤ v ∧ v ≤ 1))) (List.map toV [.inr (.inr a0)]).toArray s 0 0 (Aof z0)) 2 [(0, .inr (.inr a0)), (1, .inl x54)] [] h55 0 0 := by
    intro μ
    induction μ using Nat.strongRecOn with
    | ind μ ih57 =>
      intro x54 h55 hm58 O59 F60 f61
      refine g_iload_n C rfl 1 rfl dX11_allKeptKnown_2 ?_
      refine g_iconst C dX11_allKeptKnown_3 ?_
      refine g_aload_n C rfl 0 rfl dX11_allKeptKnown_4 ?_
      have e62 : Tg h55 a0 = 11 := (fxT F60 ta0)
      have e63 : Iv h55 a0 9 = v12 := ((fxI F60 ta0 rfl).trans e13)
      refine gf_I C fk_LandSurvey_157 rfl e62 e63 dX11_allKeptKnown_5 ?_
      refine g_ishl C dX11_allKeptKnown_8 ?_
      have f64 : (1 : Int) ≤ (bShl 1 v12) ∧ (bShl 1 v12) ≤ (16 : Int) := bShl_4 f14
      refine g_icmp_ge C (iw f61 (by decide) (by decide)) (iw f64 (by decide) (by decide)) 40 (by decide) dX11_allKeptKnown_9 (fun q65 => ?_) (fun q66 => ?_)
      · have f67 : (1 : Int) ≤ x54 ∧ x54 ≤ (16 : Int) := r_ge f61 f64 q65 (by decide) (by decide)
        refine g_iconst C dX11_allKeptKnown_40 ?_
        exact g_iret C hr (nar_z2 (iw (il 1) (by decide) (by decide))).1 (iw (il 1) (by decide) (by decide)) ⟨O59, ((Fx.rf (wr := wr_k_X11_allKeptKnown)).call F60 rfl), (iw (il 1) (by decide) (by decide))⟩ (by decide) (by decide) dX11_allKeptKnown_41
      · have f68 : (0 : Int) ≤ x54 ∧ x54 ≤ (15 : Int) := r_lt f61 f64 q66 (by decide) (by decide)
        refine g_aload_n C rfl 0 rfl dX11_allKeptKnown_12 ?_
        refine g_iload_n C rfl 1 rfl dX11_allKeptKnown_13 ?_
        have e69 : Iv h55 a0 15 = 1 := ((fxI F60 ta0 rfl).trans P_stlp)
        have p70 := (XInv_fx O F60 ta0 rfl P_XInv)
        refine g_callI (st := []) (gc_V C lk_LandSurvey_234 (k_X11_isKept l D cy w z0 O59 e62 f68 e69 p70 (by rw [e63]; omega)) e62 rfl rfl rfl ⟨by decide, by decide⟩ (Nat.le_of_ble_eq_true rfl) dX11_allKeptKnown_14 ⟨(by decide), (by decide)⟩) (fun r71 h72 f74 K73 => ?_)
        obtain ⟨O75, F76, f77⟩ := K73
        refine g_if_eq C (iw f77 (by decide) (by decide)) 34 (by decide) dX11_allKeptKnown_17 (fun q78 => ?_) (fun q79 => ?_)
        · have f80 : (0 : Int) ≤ r71 ∧ r71 ≤ (0 : Int) := ii f77 (r_eq (il 0) q78) (by decide) (by decide)
          have f81 : (1 : Int) ≤ (x54 + 1) ∧ (x54 + 1) ≤ (16 : Int) := ia_add f68 (il 1) (by decide) (by decide)
          refine g_iinc C [(1, .inl (x54 + 1)), (0, .inr (.inr a0))] 1 rfl (by decide) rfl dX11_allKeptKnown_34 ?_
          refine g_goto C 2 (by decide) dX11_allKeptKnown_37 ?_
          refine GW.sub [1, 0] rfl ?_
          exact ih57 _ (by omega) (x54 + 1) h72 rfl O75 (F60.call F76 rfl) (iw f81 (by decide) (by decide))
        · have f82 : (1 : Int) ≤ r71 ∧ r71 ≤ (1 : Int) := r_nl f77 q79
          refine g_aload_n C rfl 0 rfl dX11_allKeptKnown_20 ?_
          have e83 : Tg h72 a0 = 11 := (fxT F76 e62)
          have e84 : Rv h72 a0 14 = v22 := ((fxR F76 e62 rfl).trans ((fxR F60 ta0 rfl).trans e23))
          refine gf_R C fk_LandSurvey_70 rfl e83 e84 dX11_allKeptKnown_21 ?_
          refine g_iload_n C rfl 1 rfl dX11_allKeptKnown_24 ?_
          have e85 : Tg h72 v22 = 49107 := (fxT F76 (fxT F60 t24))
          have e86 : Tg h55 v22 = 49107 := (fxT F60 t24)
          have e87 : Ln h72 v22 = 16 := ((fxL F76 e86).trans ((fxL F60 t24).trans l25))
          obtain ⟨v88, e89⟩ : ∃ z, Rv h72 v22 x54.toNat = z := ⟨_, rfl⟩
          refine g_aald (t := 7) C e85 rfl (by decide) rfl e87 (ix f68 (by decide) (by decide)) e89 dX11_allKeptKnown_25 ?_
          have p90 := (NN_fx F76 e86 ar_49107 rfl (NN_fx F60 t24 ar_49107 rfl p53))
          have q91 := nn_get p90 (by omega) e89
          have t92 := ok_Na O75 e85 ar_49107 rE_49107_0 e89 q91
          obtain ⟨v93, e94⟩ : ∃ z, Iv h72 v88 5 = z := ⟨_, rfl⟩
          have f95 := ok_I O75 t92 rI_2_5 e94
          refine gf_I C fk_LandSurvey_237 rfl t92 e94 dX11_allKeptKnown_26 ?_
          refine g_if_ne C (iw f95 (by decide) (by decide)) 34 (by decide) dX11_allKeptKnown_29 (fun q96 => ?_) (fun q97 => ?_)
          · have f98 : (1 : Int) ≤ v93 ∧ v93 ≤ (1 : Int) := r_nl f95 q96
            have f99 : (1 : Int) ≤ (x54 + 1) ∧ (x54 + 1) ≤ (16 : Int) := ia_add f68 (il 1) (by decide) (by decide)
            refine g_iinc C [(1, .inl (x54 + 1)), (0, .inr (.inr a0))] 1 rfl (by decide) rfl dX11_allKeptKnown_34 ?_
            refine g_goto C 2 (by decide) dX11_allKeptKnown_37 ?_
            refine GW.sub [1, 0] rfl ?_
            exact ih57 _ (by omega) (x54 + 1) h72 rfl O75 (F60.call F76 rfl) (iw f99 (by decide) (by decide))
          · have f100 : (0 : Int) ≤ v93 ∧ v93 ≤ (0 : Int) := ii f95 (r_eq (il 0) q97) (by decide) (by decide)
            refine g_iconst C dX11_allKeptKnown_32 ?_
            exact g_iret C hr (nar_z2 (iw (il 0) (by decide) (by decide))).1 (iw (il 0) (by decide) (by decide)) ⟨O75, (((Fx.rf (wr := wr_k_X11_allKeptKnown)).call F60 rfl).call F76 rfl), (iw (il 0) (by decide) (by decide))⟩ (by decide) (by decide) dX11_allKeptKnown_33
  exact L56 _ 0 h rfl O Fx.rf (iw (il 0) (by decide) (by decide))
def wr_k_X11_prepare : List Nat := [401, 402, 403, 404, 405, 406, 1403, 1404, 1405, 1412, 1813, 1814, 1815, 1816, 1817, 1818, 2003, 2207, 2215, 2216, 2217, 200400, 200407, 200408, 2020000, 2220000, 7420000, 8020000, 8220400, 8420400, 8620000, 9020000, 9220400, 9420000, 9821400, 10020000, 1000000002, 1000001002, 1000010100, 1000011100]
set_option maxRecDepth 100000 in
set_option maxHeartbeats 4000000 in
theorem k_X11_prepare (l : Launch) (D : va_G) (cy : Nat → ClassId) (w : Nat → Nat) (z0 : Nat)  {h : Hp} {a0 : Nat}  (O : Okh h) (ta0 : Tg h a0 = 11) (P_XInv : XInv h a0) : MI l D cy w z0 yX11_prepare cX11_prepare 2 (some .boolean) 10 279 48 3216 [.inr (.inr a0)] h (fun v h1 => Okh h1 ∧ Fx wr_k_X11_prepare h h1 ∧ (0 ≤ v ∧ v ≤ 1) ∧ (XInv h1 a0) ∧ (Iv h1 a0 15 = 1) ∧ (v = 1 → ¬ Rv h1 a0 17 = 0)) := by
  obtain ⟨v1, e2⟩ : ∃ z, Rv h a0 3 = z := ⟨_, rfl⟩
  have t3 := ok_R O ta0 rE_11_3 e2
  have l4 := ok_L O ta0 rE_11_3 e2
  obtain ⟨v5, e6⟩ : ∃ z, Iv h a0 4 = z := ⟨_, rfl⟩
  have f7 := ok_I O ta0 rI_11_4 e6
  obtain ⟨v8, e9⟩ : ∃ z, Rv h a0 8 = z := ⟨_, rfl⟩
  have t10 := ok_R O ta0 rE_11_8 e9
  have l11 := ok_L O ta0 rE_11_8 e9
  obtain ⟨v12, e13⟩ : ∃ z, Iv h a0 9 = z := ⟨_, rfl⟩
  have f14 := ok_I O ta0 rI_11_9 e13
  obtain ⟨v15, e16⟩ : ∃ z, Rv h a0 11 = z := ⟨_, rfl⟩
  have t17 := ok_R O ta0 rE_11_11 e16
  have l18 := ok_L O ta0 rE_11_11 e16
  obtain ⟨v19, e20⟩ : ∃ z, Iv h a0 12 = z := ⟨_, rfl⟩
  have f21 := ok_I O ta0 rI_11_12 e20
  obtain ⟨v22, e23⟩ : ∃ z, Iv h a0 15 = z := ⟨_, rfl⟩
  have f24 := ok_I O ta0 rI_11_15 e23
  obtain ⟨v25, e26⟩ : ∃ z, Rv h a0 14 = z := ⟨_, rfl⟩
  have t27 := ok_R O ta0 rE_11_14 e26
  have l28 := ok_L O ta0 rE_11_14 e26
  obtain ⟨v29, e30⟩ : ∃ z, Rv h a0 13 = z := ⟨_, rfl⟩
  have t31 := ok_R O ta0 rE_11_13 e30
  obtain ⟨v32, e33⟩ : ∃ z, Rv h a0 6 = z := ⟨_, rfl⟩
  have t34 := ok_R O ta0 rE_11_6 e33
  obtain ⟨v35, e36⟩ : ∃ z, Rv h a0 7 = z := ⟨_, rfl⟩
  have t37 := ok_R O ta0 rE_11_7 e36
  have p49 := P_XInv
  unfold XInv at p49
  rw [e2, e6, e9, e13, e16, e20, e23, e26, e30, e33, e36] at p49
  obtain ⟨p38, p39, p40, p41, p42, p43, p44, p45, p46, p47, p48⟩ := p49
  obtain ⟨v50, e51⟩ : ∃ z, Iv h v29 3 = z := ⟨_, rfl⟩
  have f52 := ok_I O t31 rI_7_3 e51
  obtain ⟨v53, e54⟩ : ∃ z, Iv h v29 4 = z := ⟨_, rfl⟩
  have f55 := ok_I O t31 rI_7_4 e54
  rw [e51] at p44
  rw [e54] at p45
  refine hm_go (by decide +kernel) (Nat.le_of_ble_eq_true rfl) (fun p e s m below meth c C hr hn => ?_)
  refine g_aload_n C rfl 0 rfl dX11_prepare_0 ?_
  refine g_callI (st := []) (gc_V C lk_LandSurvey_207 (k_X11_judge l D cy w z0 O ta0 P_XInv) ta0 rfl rfl rfl ⟨by decide, by decide⟩ (Nat.le_of_ble_eq_true rfl) dX11_prepare_1 ⟨(by decide), (by decide)⟩) (fun r56 h57 f59 K58 => ?_)
  obtain ⟨O60, F61, f62, p63, p64, p65⟩ := K58
  obtain ⟨v66, e67⟩ : ∃ z, Rv h57 a0 17 = z := ⟨_, rfl⟩
  have e68 : Tg h57 a0 = 11 := (fxT F61 ta0)
  rw [e67] at p65
  have e69 : Rv h57 a0 3 = v1 := ((fxR F61 ta0 rfl).trans e2)
  have e70 : Iv h57 a0 4 = v5 := ((fxI F61 ta0 rfl).trans e6)
  have e71 : Rv h57 a0 8 = v8 := ((fxR F61 ta0 rfl).trans e9)
  have e72 : Iv h57 a0 9 = v12 := ((fxI F61 ta0 rfl).trans e13)
  have e73 : Rv h57 a0 11 = v15 := ((fxR F61 ta0 rfl).trans e16)
  have e74 : Iv h57 a0 12 = v19 := ((fxI F61 ta0 rfl).trans e20)
  have e75 : Rv h57 a0 14 = v25 := ((fxR F61 ta0 rfl).trans e26)
  have e76 : Rv h57 a0 13 = v29 := ((fxR F61 ta0 rfl).trans e30)
  have e77 : Rv h57 a0 6 = v32 := ((fxR F61 ta0 rfl).trans e33)
  obtain ⟨v78, e79⟩ : ∃ z, Rv h57 a0 7 = z := ⟨_, rfl⟩
  have t80 := ok_R O60 e68 rE_11_7 e79
  have p92 := p63
  unfold XInv at p92
  rw [e69, e70, e71, e72, e73, e74, p64, e75, e76, e77, e79] at p92
  obtain ⟨p81, p82, p83, p84, p85, p86, p87, p88, p89, p90, p91⟩ := p92
  obtain ⟨v93, e94⟩ : ∃ z, Iv h57 v29 3 = z := ⟨_, rfl⟩
  have e95 : Tg h57 v29 = 7 := (fxT F61 t31)
  have f96 := ok_I O60 e95 rI_7_3 e94
  obtain ⟨v97, e98⟩ : ∃ z, Iv h57 v29 4 = z := ⟨_, rfl⟩
  have f99 := ok_I O60 e95 rI_7_4 e98
  rw [e94] at p87
  rw [e98] at p88
  have p100 := p84 (by omega)
  refine g_if_ne C (iw f62 (by decide) (by decide)) 9 (by decide) dX11_prepare_4 (fun q101 => ?_) (fun q102 => ?_)
  · have f103 : (1 : Int) ≤ r56 ∧ r56 ≤ (1 : Int) := r_nl f62 q101
    refine g_iconst C dX11_prepare_9 ?_
    refine g_istore_n C [(1, .inl 0), (0, .inr (.inr a0))] rfl (by decide) rfl dX11_prepare_10 ?_
    refine GW.sub [1, 0] rfl ?_
    -- loop at 11
    have L106 : ∀ (μ : Nat) (x104 : Int) (h105 : Hp), (16 - x104).toNat = μ → Okh h105 → Fx [406, 2003, 2020000, 2220000, 8020000, 8220400, 8420400, 9020000, 9220400, 9420000] h57 h105 → ((0 : Int) ≤ x104 ∧ x104 ≤ (16 : Int)) → GW p l e (rmm 10 279 48 3216) s m (List.map toV [.inr (.inr a0)]).toArray below meth c D cy z0 2 (MQ below (QI D cy z0 (fun v h1 => Okh h1 ∧ Fx wr_k_X11_prepare h h1 ∧ (0 ≤ v ∧ v ≤ 1) ∧ (XInv h1 a0) ∧ (Iv h1 a0 15 = 1) ∧ (v = 1 → ¬ Rv h1 a0 17 = 0))) (List.map toV [.inr (.inr a0)]).toArray s 48 3216 (Aof z0)) 11 [(0, .inr (.inr a0)), (1, .inl x104)] [] h105 48 3216 := by
      intro μ
      induction μ using Nat.strongRecOn with
      | ind μ ih107 =>
        intro x104 h105 hm108 O109 F110 f111
        refine g_iload_n C rfl 1 rfl dX11_prepare_11 ?_
        refine g_iconst C dX11_prepare_12 ?_
        refine g_aload_n C rfl 0 rfl dX11_prepare_13 ?_
        have e112 : Tg h105 a0 = 11 := (fxT F110 e68)
        have e113 : Iv h105 a0 9 = v12 := ((fxI F110 e68 rfl).trans e72)
        refine gf_I C fk_LandSurvey_157 rfl e112 e113 dX11_prepare_14 ?_
        refine g_ishl C dX11_prepare_17 ?_
        have f114 : (1 : Int) ≤ (bShl 1 v12) ∧ (bShl 1 v12) ≤ (16 : Int) := bShl_4 f14
        refine g_icmp_ge C (iw f111 (by decide) (by decide)) (iw f114 (by decide) (by decide)) 72 (by decide) dX11_prepare_18 (fun q115 => ?_) (fun q116 => ?_)
        · have f117 : (1 : Int) ≤ x104 ∧ x104 ≤ (16 : Int) := r_ge f111 f114 q115 (by decide) (by decide)
          refine g_iconst C dX11_prepare_72 ?_
          have p118 := (XInv_fx O60 F110 e68 rfl p63)
          have e119 : Iv h105 a0 15 = 1 := ((fxI F110 e68 rfl).trans p64)
          have e120 : Rv h105 a0 17 = v66 := ((fxR F110 e68 rfl).trans e67)
          exact g_iret C hr (nar_z2 (iw (il 1) (by decide) (by decide))).1 (iw (il 1) (by decide) (by decide)) ⟨O109, (((Fx.rf (wr := wr_k_X11_prepare)).call F61 rfl).call F110 rfl), (iw (il 1) (by decide) (by decide)), p118, e119, (fun _ => by rw [e120]; exact p65 (by omega))⟩ (by decide) (by decide) dX11_prepare_73
        · have f121 : (0 : Int) ≤ x104 ∧ x104 ≤ (15 : Int) := r_lt f111 f114 q116 (by decide) (by decide)
          refine g_aload_n C rfl 0 rfl dX11_prepare_21 ?_
          refine g_iload_n C rfl 1 rfl dX11_prepare_22 ?_
          have e122 : Iv h105 a0 15 = 1 := ((fxI F110 e68 rfl).trans p64)
          have p123 := (XInv_fx O60 F110 e68 rfl p63)
          refine g_callI (st := []) (gc_V C lk_LandSurvey_234 (k_X11_isKept l D cy w z0 O109 e112 f121 e122 p123 (by rw [e113]; omega)) e112 rfl rfl rfl ⟨by decide, by decide⟩ (Nat.le_of_ble_eq_true rfl) dX11_prepare_23 ⟨(by decide), (by decide)⟩) (fun r124 h125 f127 K126 => ?_)
          obtain ⟨O128, F129, f130⟩ := K126
          refine g_if_eq C (iw f130 (by decide) (by decide)) 66 (by decide) dX11_prepare_26 (fun q131 => ?_) (fun q132 => ?_)
          · have f133 : (0 : Int) ≤ r124 ∧ r124 ≤ (0 : Int) := ii f130 (r_eq (il 0) q131) (by decide) (by decide)
            have f134 : (1 : Int) ≤ (x104 + 1) ∧ (x104 + 1) ≤ (16 : Int) := ia_add f121 (il 1) (by decide) (by decide)
            refine g_iinc C [(1, .inl (x104 + 1)), (0, .inr (.inr a0))] 1 rfl (by decide) rfl dX11_prepare_66 ?_
            refine g_goto C 11 (by decide) dX11_prepare_69 ?_
            refine GW.sub [1, 0] rfl ?_
            exact ih107 _ (by omega) (x104 + 1) h125 rfl O128 (F110.call F129 rfl) (iw f134 (by decide) (by decide))
          · have f135 : (1 : Int) ≤ r124 ∧ r124 ≤ (1 : Int) := r_nl f130 q132
            refine g_aload_n C rfl 0 rfl dX11_prepare_29 ?_
            have e136 : Tg h125 a0 = 11 := (fxT F129 e112)
            have e137 : Rv h125 a0 14 = v25 := ((fxR F129 e112 rfl).trans ((fxR F110 e68 rfl).trans e75))
            refine gf_R C fk_LandSurvey_70 rfl e136 e137 dX11_prepare_30 ?_
            refine g_iload_n C rfl 1 rfl dX11_prepare_33 ?_
            have e138 : Tg h125 v25 = 49107 := (fxT F129 (fxT F110 (fxT F61 t27)))
            have e139 : Tg h57 v25 = 49107 := (fxT F61 t27)
            have e140 : Tg h105 v25 = 49107 := (fxT F110 e139)
            have e141 : Ln h125 v25 = 16 := ((fxL F129 e140).trans ((fxL F110 e139).trans ((fxL F61 t27).trans l28)))
            obtain ⟨v142, e143⟩ : ∃ z, Rv h125 v25 x104.toNat = z := ⟨_, rfl⟩
            refine g_aald (t := 7) C e138 rfl (by decide) rfl e141 (ix f121 (by decide) (by decide)) e143 dX11_prepare_34 ?_
            have p144 := (NN_fx F129 e140 ar_49107 rfl (NN_fx F110 e139 ar_49107 rfl p100))
            have q145 := nn_get p144 (by omega) e143
            have t146 := ok_Na O128 e138 ar_49107 rE_49107_0 e143 q145
            obtain ⟨v147, e148⟩ : ∃ z, Iv h125 v142 5 = z := ⟨_, rfl⟩
            have f149 := ok_I O128 t146 rI_2_5 e148
            refine gf_I C fk_LandSurvey_237 rfl t146 e148 dX11_prepare_35 ?_
            refine g_if_eq C (iw f149 (by decide) (by decide)) 66 (by decide) dX11_prepare_38 (fun q150 => ?_) (fun q151 => ?_)
            · have f152 : (0 : Int) ≤ v147 ∧ v147 ≤ (0 : Int) := ii f149 (r_eq (il 0) q150) (by decide) (by decide)
              have f153 : (1 : Int) ≤ (x104 + 1) ∧ (x104 + 1) ≤ (16 : Int) := ia_add f121 (il 1) (by decide) (by decide)
              refine g_iinc C [(1, .inl (x104 + 1)), (0, .inr (.inr a0))] 1 rfl (by decide) rfl dX11_prepare_66 ?_
              refine g_goto C 11 (by decide) dX11_prepare_69 ?_
              refine GW.sub [1, 0] rfl ?_
              exact ih107 _ (by omega) (x104 + 1) h125 rfl O128 (F110.call F129 rfl) (iw f153 (by decide) (by decide))
            · have f154 : (1 : Int) ≤ v147 ∧ v147 ≤ (1 : Int) := r_nl f149 q151
              refine g_aload_n C rfl 0 rfl dX11_prepare_41 ?_
              refine gf_R C fk_LandSurvey_70 rfl e136 e137 dX11_prepare_42 ?_
              refine g_iload_n C rfl 1 rfl dX11_prepare_45 ?_
              refine g_aald (t := 7) C e138 rfl (by decide) rfl e141 (ix f121 (by decide) (by decide)) e143 dX11_prepare_46 ?_
              obtain ⟨v155, e156⟩ : ∃ z, Iv h125 v142 6 = z := ⟨_, rfl⟩
              have f157 := ok_I O128 t146 rI_2_6 e156
              refine gf_I C fk_LandSurvey_240 rfl t146 e156 dX11_prepare_47 ?_
              refine g_if_ne C (iw f157 (by decide) (by decide)) 66 (by decide) dX11_prepare_50 (fun q158 => ?_) (fun q159 => ?_)
              · have f160 : (1 : Int) ≤ v155 ∧ v155 ≤ (1 : Int) := r_nl f157 q158
                have f161 : (1 : Int) ≤ (x104 + 1) ∧ (x104 + 1) ≤ (16 : Int) := ia_add f121 (il 1) (by decide) (by decide)
                refine g_iinc C [(1, .inl (x104 + 1)), (0, .inr (.inr a0))] 1 rfl (by decide) rfl dX11_prepare_66 ?_
                refine g_goto C 11 (by decide) dX11_prepare_69 ?_
                refine GW.sub [1, 0] rfl ?_
                exact ih107 _ (by omega) (x104 + 1) h125 rfl O128 (F110.call F129 rfl) (iw f161 (by decide) (by decide))
              · have f162 : (0 : Int) ≤ v155 ∧ v155 ≤ (0 : Int) := ii f157 (r_eq (il 0) q159) (by decide) (by decide)
                refine g_aload_n C rfl 0 rfl dX11_prepare_53 ?_
                have e163 : Rv h125 a0 13 = v29 := ((fxR F129 e112 rfl).trans ((fxR F110 e68 rfl).trans e76))
                refine gf_R C fk_LandSurvey_64 rfl e136 e163 dX11_prepare_54 ?_
                refine g_aload_n C rfl 0 rfl dX11_prepare_57 ?_
                refine gf_R C fk_LandSurvey_70 rfl e136 e137 dX11_prepare_58 ?_
                refine g_iload_n C rfl 1 rfl dX11_prepare_61 ?_
                refine g_aald (t := 7) C e138 rfl (by decide) rfl e141 (ix f121 (by decide) (by decide)) e143 dX11_prepare_62 ?_
                have e164 : Tg h125 v29 = 7 := (fxT F129 (fxT F110 e95))
                have e165 : Tg h105 v29 = 7 := (fxT F110 e95)
                have e166 : Rv h125 v29 1 = v1 := ((fxR F129 e165 rfl).trans ((fxR F110 e95 rfl).trans p85))
                have e167 : Rv h125 v29 2 = v8 := ((fxR F129 e165 rfl).trans ((fxR F110 e95 rfl).trans p86))
                have e168 : Iv h125 v29 3 = v93 := ((fxI F129 e165 rfl).trans ((fxI F110 e95 rfl).trans e94))
                have e169 : Iv h125 v29 4 = v97 := ((fxI F129 e165 rfl).trans ((fxI F110 e95 rfl).trans e98))
                have e170 : Tg h57 v1 = 38104 := (fxT F61 t3)
                have e171 : Tg h105 v1 = 38104 := (fxT F110 e170)
                have p172 := (SOK_fx O109 F129 e171 rfl rfl rfl (SOK_fx O60 F110 e170 rfl rfl rfl (SOK_le p81 p87)))
                have e173 : Tg h57 v8 = 39105 := (fxT F61 t10)
                have e174 : Tg h105 v8 = 39105 := (fxT F110 e173)
                have p175 := (BOK_fx O109 F129 e174 rfl rfl rfl rfl (BOK_fx O60 F110 e173 rfl rfl rfl rfl (BOK_le p82 p88)))
                refine g_callV (st := []) (gc_V C lk_LandSurvey_243 (k_X6_span l D cy w z0 O128 e164 t146 ⟨by rw [e166, e168]; exact p172, by rw [e167, e169]; exact p175⟩) e164 rfl rfl rfl ⟨by decide, by decide⟩ (Nat.le_of_ble_eq_true rfl) dX11_prepare_63 ⟨(by decide), (by decide)⟩) (fun h177 K178 => ?_)
                obtain ⟨O180, F181⟩ := K178
                have f182 : (1 : Int) ≤ (x104 + 1) ∧ (x104 + 1) ≤ (16 : Int) := ia_add f121 (il 1) (by decide) (by decide)
                refine g_iinc C [(1, .inl (x104 + 1)), (0, .inr (.inr a0))] 1 rfl (by decide) rfl dX11_prepare_66 ?_
                refine g_goto C 11 (by decide) dX11_prepare_69 ?_
                refine GW.sub [1, 0] rfl ?_
                exact ih107 _ (by omega) (x104 + 1) h177 rfl O180 ((F110.call F129 rfl).call F181 rfl) (iw f182 (by decide) (by decide))
    exact L106 _ 0 h57 rfl O60 Fx.rf (iw (il 0) (by decide) (by decide))
  · have f183 : (0 : Int) ≤ r56 ∧ r56 ≤ (0 : Int) := ii f62 (r_eq (il 0) q102) (by decide) (by decide)
    refine g_iconst C dX11_prepare_7 ?_
    exact g_iret C hr (nar_z2 (iw (il 0) (by decide) (by decide))).1 (iw (il 0) (by decide) (by decide)) ⟨O60, ((Fx.rf (wr := wr_k_X11_prepare)).call F61 rfl), (iw (il 0) (by decide) (by decide)), p63, p64, (fun z => absurd z (by decide))⟩ (by decide) (by decide) dX11_prepare_8
def wr_k_X11_mayLie : List Nat := []
set_option maxRecDepth 100000 in
set_option maxHeartbeats 4000000 in
theorem k_X11_mayLie (l : Launch) (D : va_G) (cy : Nat → ClassId) (w : Nat → Nat) (z0 : Nat)  {h : Hp} {a0 : Nat} {a1 : Nat} {a2 : Int} {a3 : Int}  (O : Okh h) (ta0 : Tg h a0 = 11) (ta1 : Tg h a1 = 2) (fa2 : 0 ≤ a2 ∧ a2 ≤ 95) (fa3 : (-2147483648) ≤ a3 ∧ a3 ≤ 2147483647) : MI l D cy w z0 yX11_mayLie cX11_mayLie 10 (some .int) 2 45 0 0 [.inr (.inr a0), .inr (.inr a1), .inl a2, .inl a3] h (fun v h1 => Okh h1 ∧ Fx wr_k_X11_mayLie h h1 ∧ ((-2147483648) ≤ v ∧ v ≤ 2147483647)) := by
  refine hm_go (by decide +kernel) (Nat.le_of_ble_eq_true rfl) (fun p e s m below meth c C hr hn => ?_)
  refine g_aload_n C rfl 1 rfl dX11_mayLie_0 ?_
  obtain ⟨v1, e2⟩ : ∃ z, Iv h a1 5 = z := ⟨_, rfl⟩
  have f3 := ok_I O ta1 rI_2_5 e2
  refine gf_I C fk_LandSurvey_237 rfl ta1 e2 dX11_mayLie_1 ?_
  refine g_if_ne C (iw f3 (by decide) (by decide)) 27 (by decide) dX11_mayLie_4 (fun q4 => ?_) (fun q5 => ?_)
  · have f6 : (1 : Int) ≤ v1 ∧ v1 ≤ (1 : Int) := r_nl f3 q4
    refine g_aload_n C rfl 0 rfl dX11_mayLie_27 ?_
    obtain ⟨v7, e8⟩ : ∃ z, Rv h a0 2 = z := ⟨_, rfl⟩
    have t9 := ok_R O ta0 rE_11_2 e8
    refine gf_R C fk_LandSurvey_16 rfl ta0 e8 dX11_mayLie_28 ?_
    obtain ⟨v10, e11⟩ : ∃ z, Rv h v7 0 = z := ⟨_, rfl⟩
    have t12 := ok_R O t9 rE_3_0 e11
    have l13 := ok_L O t9 rE_3_0 e11
    refine gf_R C fk_LandSurvey_89 rfl t9 e11 dX11_mayLie_31 ?_
    refine g_iload_n C rfl 2 rfl dX11_mayLie_34 ?_
    obtain ⟨v14, e15⟩ : ∃ z, Iv h v10 a2.toNat = z := ⟨_, rfl⟩
    have f16 := ok_Ia O t12 ar_12100 rI_12100_0 e15
    refine g_iald C t12 rfl l13 (ix fa2 (by decide) (by decide)) e15 dX11_mayLie_35 ?_
    refine g_iload_n C rfl 3 rfl dX11_mayLie_36 ?_
    have f17 : (-2147483648 : Int) ≤ (w32 (v14 - a3)) ∧ (w32 (v14 - a3)) ≤ (2147483647 : Int) := w32_inR _
    refine g_isubW C dX11_mayLie_37 ?_
    refine g_istore C [(4, .inl (w32 (v14 - a3))), (0, .inr (.inr a0)), (1, .inr (.inr a1)), (2, .inl a2), (3, .inl a3)] (by decide) rfl dX11_mayLie_38 ?_
    refine g_aload_n C rfl 2 rfl dX11_mayLie_40 ?_
    obtain ⟨v18, e19⟩ : ∃ z, Rv h a1 7 = z := ⟨_, rfl⟩
    have t20 := ok_R O ta1 rE_2_7 e19
    have l21 := ok_L O ta1 rE_2_7 e19
    refine gf_R C fk_LandSurvey_247 rfl ta1 e19 dX11_mayLie_41 ?_
    refine g_iload_n C rfl 3 rfl dX11_mayLie_44 ?_
    obtain ⟨v22, e23⟩ : ∃ z, Iv h v18 a2.toNat = z := ⟨_, rfl⟩
    have f24 := ok_Ia O t20 ar_10100 rI_10100_0 e23
    refine g_iald C t20 rfl l21 (ix fa2 (by decide) (by decide)) e23 dX11_mayLie_45 ?_
    refine g_istore C [(5, .inl v22), (4, .inl (w32 (v14 - a3))), (0, .inr (.inr a0)), (1, .inr (.inr a1)), (2, .inl a2), (3, .inl a3)] (by decide) rfl dX11_mayLie_46 ?_
    refine g_aload_n C rfl 3 rfl dX11_mayLie_48 ?_
    obtain ⟨v25, e26⟩ : ∃ z, Rv h a1 8 = z := ⟨_, rfl⟩
    have t27 := ok_R O ta1 rE_2_8 e26
    have l28 := ok_L O ta1 rE_2_8 e26
    refine gf_R C fk_LandSurvey_250 rfl ta1 e26 dX11_mayLie_49 ?_
    refine g_iload_n C rfl 4 rfl dX11_mayLie_52 ?_
    obtain ⟨v29, e30⟩ : ∃ z, Iv h v25 a2.toNat = z := ⟨_, rfl⟩
    have f31 := ok_Ia O t27 ar_11100 rI_11100_0 e30
    refine g_iald C t27 rfl l28 (ix fa2 (by decide) (by decide)) e30 dX11_mayLie_53 ?_
    refine g_istore C [(6, .inl v29), (5, .inl v22), (4, .inl (w32 (v14 - a3))), (0, .inr (.inr a0)), (1, .inr (.inr a1)), (2, .inl a2), (3, .inl a3)] (by decide) rfl dX11_mayLie_54 ?_
    refine g_iload C 0 rfl dX11_mayLie_56 ?_
    refine g_iload C 2 rfl dX11_mayLie_58 ?_
    refine g_icmp_le C f31 f17 69 (by decide) dX11_mayLie_60 (fun q32 => ?_) (fun q33 => ?_)
    · refine g_iconst C dX11_mayLie_69 ?_
      refine g_istore C [(7, .inl 0), (6, .inl v29), (5, .inl v22), (4, .inl (w32 (v14 - a3))), (0, .inr (.inr a0)), (1, .inr (.inr a1)), (2, .inl a2), (3, .inl a3)] (by decide) rfl dX11_mayLie_70 ?_
      refine g_iload C 3 rfl dX11_mayLie_72 ?_
      refine g_iload C 2 rfl dX11_mayLie_74 ?_
      refine g_aload_n C rfl 4 rfl dX11_mayLie_76 ?_
      obtain ⟨v34, e35⟩ : ∃ z, Rv h a0 7 = z := ⟨_, rfl⟩
      have t36 := ok_R O ta0 rE_11_7 e35
      refine gf_R C fk_LandSurvey_44 rfl ta0 e35 dX11_mayLie_77 ?_
      obtain ⟨v37, e38⟩ : ∃ z, Iv h v34 6 = z := ⟨_, rfl⟩
      have f39 := ok_I O t36 rI_6_6 e38
      refine gf_I C fk_LandSurvey_438 rfl t36 e38 dX11_mayLie_80 ?_
      have f40 : (-2147483648 : Int) ≤ (w32 (v22 + v37)) ∧ (w32 (v22 + v37)) ≤ (2147483647 : Int) := w32_inR _
      refine g_iaddW C dX11_mayLie_83 ?_
      refine g_icmp_le C f17 f40 95 (by decide) dX11_mayLie_84 (fun q41 => ?_) (fun q42 => ?_)
      · refine g_aload_n C rfl 4 rfl dX11_mayLie_95 ?_
        refine gf_R C fk_LandSurvey_16 rfl ta0 e8 dX11_mayLie_96 ?_
        obtain ⟨v43, e44⟩ : ∃ z, Rv h v7 2 = z := ⟨_, rfl⟩
        have t45 := ok_R O t9 rE_3_2 e44
        have l46 := ok_L O t9 rE_3_2 e44
        refine gf_R C fk_LandSurvey_96 rfl t9 e44 dX11_mayLie_99 ?_
        refine g_iload_n C rfl 6 rfl dX11_mayLie_102 ?_
        obtain ⟨v47, e48⟩ : ∃ z, Iv h v43 a2.toNat = z := ⟨_, rfl⟩
        have f49 := ok_Ia O t45 ar_14101 rI_14101_0 e48
        refine g_zald C t45 rfl l46 (ix fa2 (by decide) (by decide)) e48 dX11_mayLie_103 ?_
        refine g_istore C [(8, .inl v47), (7, .inl 0), (6, .inl v29), (5, .inl v22), (4, .inl (w32 (v14 - a3))), (0, .inr (.inr a0)), (1, .inr (.inr a1)), (2, .inl a2), (3, .inl a3)] (by decide) rfl dX11_mayLie_104 ?_
        refine g_iconst C dX11_mayLie_106 ?_
        refine g_istore C [(9, .inl 0), (8, .inl v47), (7, .inl 0), (6, .inl v29), (5, .inl v22), (4, .inl (w32 (v14 - a3))), (0, .inr (.inr a0)), (1, .inr (.inr a1)), (2, .inl a2), (3, .inl a3)] (by decide) rfl dX11_mayLie_107 ?_
        refine GW.sub [6, 7, 8, 9, 5, 4, 3, 2, 1, 0] rfl ?_
        -- loop at 109
        have L53 : ∀ (μ : Nat) (x50 : Int) (x51 : Int) (h52 : Hp), (10 - x51).toNat = μ → Okh h52 → Fx [] h h52 → ((-2147483648 : Int) ≤ x50 ∧ x50 ≤ (2147483647 : Int)) → ((0 : Int) ≤ x51 ∧ x51 ≤ (10 : Int)) → GW p l e (rmm 2 45 0 0) s m (List.map toV [.inr (.inr a0), .inr (.inr a1), .inl a2, .inl a3]).toArray below meth c D cy z0 10 (MQ below (QI D cy z0 (fun v h1 => Okh h1 ∧ Fx wr_k_X11_mayLie h h1 ∧ ((-2147483648) ≤ v ∧ v ≤ 2147483647))) (List.map toV [.inr (.inr a0), .inr (.inr a1), .inl a2, .inl a3]).toArray s 0 0 (Aof z0)) 109 [(0, .inr (.inr a0)), (1, .inr (.inr a1)), (2, .inl a2), (3, .inl a3), (4, .inl (w32 (v14 - a3))), (5, .inl v22), (6, .inl v29), (7, .inl x50), (8, .inl v47), (9, .inl x51)] [] h52 0 0 := by
          intro μ
          induction μ using Nat.strongRecOn with
          | ind μ ih54 =>
            intro x50 x51 h52 hm55 O56 F57 f58 f59
            refine g_iload C 9 rfl dX11_mayLie_109 ?_
            refine g_aload_n C rfl 0 rfl dX11_mayLie_111 ?_
            have e60 : Tg h52 a0 = 11 := (fxT F57 ta0)
            have e61 : Rv h52 a0 7 = v34 := ((fxR F57 ta0 rfl).trans e35)
            refine gf_R C fk_LandSurvey_44 rfl e60 e61 dX11_mayLie_112 ?_
            have e62 : Tg h52 v34 = 6 := (fxT F57 t36)
            obtain ⟨v63, e64⟩ : ∃ z, Iv h52 v34 0 = z := ⟨_, rfl⟩
            have f65 := ok_I O56 e62 rI_6_0 e64
            refine gf_I C fk_LandSurvey_284 rfl e62 e64 dX11_mayLie_115 ?_
            refine g_icmp_ge C (iw f59 (by decide) (by decide)) (iw f65 (by decide) (by decide)) 172 (by decide) dX11_mayLie_118 (fun q66 => ?_) (fun q67 => ?_)
            · refine g_iload C 7 rfl dX11_mayLie_172 ?_
              exact g_iret C hr rfl f58 ⟨O56, ((Fx.rf (wr := wr_k_X11_mayLie)).call F57 rfl), f58⟩ (by decide) (by decide) dX11_mayLie_174
            · have f68 : (0 : Int) ≤ x51 ∧ x51 ≤ (9 : Int) := r_lt f59 f65 q67 (by decide) (by decide)
              have f69 : (1 : Int) ≤ v63 ∧ v63 ≤ (10 : Int) := r_gt f65 f59 q67 (by decide) (by decide)
              refine g_iload C 5 rfl dX11_mayLie_121 ?_
              refine g_aload_n C rfl 0 rfl dX11_mayLie_123 ?_
              refine gf_R C fk_LandSurvey_44 rfl e60 e61 dX11_mayLie_124 ?_
              refine g_iload C 9 rfl dX11_mayLie_127 ?_
              refine g_iload C 8 rfl dX11_mayLie_129 ?_
              refine g_iload C 4 rfl dX11_mayLie_131 ?_
              refine g_callI (st := [.inl v22]) (gc_V C lk_LandSurvey_423 (k_X5_mostBase l D cy w z0 O56 e62 f68 f49 f17) e62 rfl rfl rfl ⟨by decide, by decide⟩ (Nat.le_of_ble_eq_true rfl) dX11_mayLie_133 ⟨(by decide), (by decide)⟩) (fun r70 h71 f73 K72 => ?_)
              obtain ⟨O74, F75, f76⟩ := K72
              refine g_icmp_gt C f24 f76 166 (by decide) dX11_mayLie_136 (fun q77 => ?_) (fun q78 => ?_)
              · have f79 : (-2147483648 : Int) ≤ r70 ∧ r70 ≤ (2147483646 : Int) := r_lt f76 f24 q77 (by decide) (by decide)
                have f80 : (-2147483647 : Int) ≤ v22 ∧ v22 ≤ (2147483647 : Int) := r_gt f24 f76 q77 (by decide) (by decide)
                have f81 : (1 : Int) ≤ (x51 + 1) ∧ (x51 + 1) ≤ (10 : Int) := ia_add f68 (il 1) (by decide) (by decide)
                refine g_iinc C [(9, .inl (x51 + 1)), (0, .inr (.inr a0)), (1, .inr (.inr a1)), (2, .inl a2), (3, .inl a3), (4, .inl (w32 (v14 - a3))), (5, .inl v22), (6, .inl v29), (7, .inl x50), (8, .inl v47)] 9 rfl (by decide) rfl dX11_mayLie_166 ?_
                refine g_goto C 109 (by decide) dX11_mayLie_169 ?_
                refine GW.sub [1, 2, 3, 4, 5, 6, 7, 8, 9, 0] rfl ?_
                exact ih54 _ (by omega) x50 (x51 + 1) h71 rfl O74 (F57.call F75 rfl) f58 (iw f81 (by decide) (by decide))
              · refine g_iload C 6 rfl dX11_mayLie_139 ?_
                refine g_aload_n C rfl 0 rfl dX11_mayLie_141 ?_
                have e82 : Tg h71 a0 = 11 := (fxT F75 e60)
                have e83 : Rv h71 a0 7 = v34 := ((fxR F75 e60 rfl).trans e61)
                refine gf_R C fk_LandSurvey_44 rfl e82 e83 dX11_mayLie_142 ?_
                refine g_iload C 9 rfl dX11_mayLie_145 ?_
                refine g_iload C 8 rfl dX11_mayLie_147 ?_
                refine g_iload C 4 rfl dX11_mayLie_149 ?_
                have e84 : Tg h71 v34 = 6 := (fxT F75 e62)
                refine g_callI (st := [.inl v29]) (gc_V C lk_LandSurvey_419 (k_X5_leastBase l D cy w z0 O74 e84 f68 f49 f17) e84 rfl rfl rfl ⟨by decide, by decide⟩ (Nat.le_of_ble_eq_true rfl) dX11_mayLie_151 ⟨(by decide), (by decide)⟩) (fun r85 h86 f88 K87 => ?_)
                obtain ⟨O89, F90, f91⟩ := K87
                refine g_icmp_lt C f31 f91 166 (by decide) dX11_mayLie_154 (fun q92 => ?_) (fun q93 => ?_)
                · have f94 : (-2147483648 : Int) ≤ v29 ∧ v29 ≤ (2147483646 : Int) := r_lt f31 f91 q92 (by decide) (by decide)
                  have f95 : (-2147483647 : Int) ≤ r85 ∧ r85 ≤ (2147483647 : Int) := r_gt f91 f31 q92 (by decide) (by decide)
                  have f96 : (1 : Int) ≤ (x51 + 1) ∧ (x51 + 1) ≤ (10 : Int) := ia_add f68 (il 1) (by decide) (by decide)
                  refine g_iinc C [(9, .inl (x51 + 1)), (0, .inr (.inr a0)), (1, .inr (.inr a1)), (2, .inl a2), (3, .inl a3), (4, .inl (w32 (v14 - a3))), (5, .inl v22), (6, .inl v29), (7, .inl x50), (8, .inl v47)] 9 rfl (by decide) rfl dX11_mayLie_166 ?_
                  refine g_goto C 109 (by decide) dX11_mayLie_169 ?_
                  refine GW.sub [1, 2, 3, 4, 5, 6, 7, 8, 9, 0] rfl ?_
                  exact ih54 _ (by omega) x50 (x51 + 1) h86 rfl O89 ((F57.call F75 rfl).call F90 rfl) f58 (iw f96 (by decide) (by decide))
                · refine g_iload C 7 rfl dX11_mayLie_157 ?_
                  refine g_iconst C dX11_mayLie_159 ?_
                  refine g_iload C 9 rfl dX11_mayLie_160 ?_
                  refine g_ishl C dX11_mayLie_162 ?_
                  have f97 : (-2147483648 : Int) ≤ (bShl 1 x51) ∧ (bShl 1 x51) ≤ (2147483647 : Int) := inR_of _
                  refine g_ior C dX11_mayLie_163 ?_
                  have f98 : (-2147483648 : Int) ≤ (bOr x50 (bShl 1 x51)) ∧ (bOr x50 (bShl 1 x51)) ≤ (2147483647 : Int) := inR_of _
                  refine g_istore C [(7, .inl (bOr x50 (bShl 1 x51))), (0, .inr (.inr a0)), (1, .inr (.inr a1)), (2, .inl a2), (3, .inl a3), (4, .inl (w32 (v14 - a3))), (5, .inl v22), (6, .inl v29), (8, .inl v47), (9, .inl x51)] (by decide) rfl dX11_mayLie_164 ?_
                  have f99 : (1 : Int) ≤ (x51 + 1) ∧ (x51 + 1) ≤ (10 : Int) := ia_add f68 (il 1) (by decide) (by decide)
                  refine g_iinc C [(9, .inl (x51 + 1)), (7, .inl (bOr x50 (bShl 1 x51))), (0, .inr (.inr a0)), (1, .inr (.inr a1)), (2, .inl a2), (3, .inl a3), (4, .inl (w32 (v14 - a3))), (5, .inl v22), (6, .inl v29), (8, .inl v47)] 9 rfl (by decide) rfl dX11_mayLie_166 ?_
                  refine g_goto C 109 (by decide) dX11_mayLie_169 ?_
                  refine GW.sub [2, 3, 4, 5, 6, 7, 8, 1, 9, 0] rfl ?_
                  exact ih54 _ (by omega) (bOr x50 (bShl 1 x51)) (x51 + 1) h86 rfl O89 ((F57.call F75 rfl).call F90 rfl) f98 (iw f99 (by decide) (by decide))
        exact L53 _ 0 0 h rfl O Fx.rf (iw (il 0) (by decide) (by decide)) (iw (il 0) (by decide) (by decide))
      · have f100 : (-2147483648 : Int) ≤ (w32 (v22 + v37)) ∧ (w32 (v22 + v37)) ≤ (2147483646 : Int) := r_lt f40 f17 q42 (by decide) (by decide)
        have f101 : (-2147483647 : Int) ≤ (w32 (v14 - a3)) ∧ (w32 (v14 - a3)) ≤ (2147483647 : Int) := r_gt f17 f40 q42 (by decide) (by decide)
        refine g_iload C 0 rfl dX11_mayLie_87 ?_
        refine g_sipush C (by decide) dX11_mayLie_89 ?_
        refine g_ior C dX11_mayLie_92 ?_
        have f102 : (-2147483648 : Int) ≤ (bOr 0 2048) ∧ (bOr 0 2048) ≤ (2147483647 : Int) := inR_of _
        refine g_istore C [(7, .inl (bOr 0 2048)), (6, .inl v29), (5, .inl v22), (4, .inl (w32 (v14 - a3))), (0, .inr (.inr a0)), (1, .inr (.inr a1)), (2, .inl a2), (3, .inl a3)] (by decide) rfl dX11_mayLie_93 ?_
        refine g_aload_n C rfl 4 rfl dX11_mayLie_95 ?_
        refine gf_R C fk_LandSurvey_16 rfl ta0 e8 dX11_mayLie_96 ?_
        obtain ⟨v103, e104⟩ : ∃ z, Rv h v7 2 = z := ⟨_, rfl⟩
        have t105 := ok_R O t9 rE_3_2 e104
        have l106 := ok_L O t9 rE_3_2 e104
        refine gf_R C fk_LandSurvey_96 rfl t9 e104 dX11_mayLie_99 ?_
        refine g_iload_n C rfl 6 rfl dX11_mayLie_102 ?_
        obtain ⟨v107, e108⟩ : ∃ z, Iv h v103 a2.toNat = z := ⟨_, rfl⟩
        have f109 := ok_Ia O t105 ar_14101 rI_14101_0 e108
        refine g_zald C t105 rfl l106 (ix fa2 (by decide) (by decide)) e108 dX11_mayLie_103 ?_
        refine g_istore C [(8, .inl v107), (7, .inl (bOr 0 2048)), (6, .inl v29), (5, .inl v22), (4, .inl (w32 (v14 - a3))), (0, .inr (.inr a0)), (1, .inr (.inr a1)), (2, .inl a2), (3, .inl a3)] (by decide) rfl dX11_mayLie_104 ?_
        refine g_iconst C dX11_mayLie_106 ?_
        refine g_istore C [(9, .inl 0), (8, .inl v107), (7, .inl (bOr 0 2048)), (6, .inl v29), (5, .inl v22), (4, .inl (w32 (v14 - a3))), (0, .inr (.inr a0)), (1, .inr (.inr a1)), (2, .inl a2), (3, .inl a3)] (by decide) rfl dX11_mayLie_107 ?_
        refine GW.sub [6, 7, 8, 9, 5, 4, 3, 2, 1, 0] rfl ?_
        -- loop at 109
        have L113 : ∀ (μ : Nat) (x110 : Int) (x111 : Int) (h112 : Hp), (10 - x111).toNat = μ → Okh h112 → Fx [] h h112 → ((-2147483648 : Int) ≤ x110 ∧ x110 ≤ (2147483647 : Int)) → ((0 : Int) ≤ x111 ∧ x111 ≤ (10 : Int)) → GW p l e (rmm 2 45 0 0) s m (List.map toV [.inr (.inr a0), .inr (.inr a1), .inl a2, .inl a3]).toArray below meth c D cy z0 10 (MQ below (QI D cy z0 (fun v h1 => Okh h1 ∧ Fx wr_k_X11_mayLie h h1 ∧ ((-2147483648) ≤ v ∧ v ≤ 2147483647))) (List.map toV [.inr (.inr a0), .inr (.inr a1), .inl a2, .inl a3]).toArray s 0 0 (Aof z0)) 109 [(0, .inr (.inr a0)), (1, .inr (.inr a1)), (2, .inl a2), (3, .inl a3), (4, .inl (w32 (v14 - a3))), (5, .inl v22), (6, .inl v29), (7, .inl x110), (8, .inl v107), (9, .inl x111)] [] h112 0 0 := by
          intro μ
          induction μ using Nat.strongRecOn with
          | ind μ ih114 =>
            intro x110 x111 h112 hm115 O116 F117 f118 f119
            refine g_iload C 9 rfl dX11_mayLie_109 ?_
            refine g_aload_n C rfl 0 rfl dX11_mayLie_111 ?_
            have e120 : Tg h112 a0 = 11 := (fxT F117 ta0)
            have e121 : Rv h112 a0 7 = v34 := ((fxR F117 ta0 rfl).trans e35)
            refine gf_R C fk_LandSurvey_44 rfl e120 e121 dX11_mayLie_112 ?_
            have e122 : Tg h112 v34 = 6 := (fxT F117 t36)
            obtain ⟨v123, e124⟩ : ∃ z, Iv h112 v34 0 = z := ⟨_, rfl⟩
            have f125 := ok_I O116 e122 rI_6_0 e124
            refine gf_I C fk_LandSurvey_284 rfl e122 e124 dX11_mayLie_115 ?_
            refine g_icmp_ge C (iw f119 (by decide) (by decide)) (iw f125 (by decide) (by decide)) 172 (by decide) dX11_mayLie_118 (fun q126 => ?_) (fun q127 => ?_)
            · refine g_iload C 7 rfl dX11_mayLie_172 ?_
              exact g_iret C hr rfl f118 ⟨O116, ((Fx.rf (wr := wr_k_X11_mayLie)).call F117 rfl), f118⟩ (by decide) (by decide) dX11_mayLie_174
            · have f128 : (0 : Int) ≤ x111 ∧ x111 ≤ (9 : Int) := r_lt f119 f125 q127 (by decide) (by decide)
              have f129 : (1 : Int) ≤ v123 ∧ v123 ≤ (10 : Int) := r_gt f125 f119 q127 (by decide) (by decide)
              refine g_iload C 5 rfl dX11_mayLie_121 ?_
              refine g_aload_n C rfl 0 rfl dX11_mayLie_123 ?_
              refine gf_R C fk_LandSurvey_44 rfl e120 e121 dX11_mayLie_124 ?_
              refine g_iload C 9 rfl dX11_mayLie_127 ?_
              refine g_iload C 8 rfl dX11_mayLie_129 ?_
              refine g_iload C 4 rfl dX11_mayLie_131 ?_
              refine g_callI (st := [.inl v22]) (gc_V C lk_LandSurvey_423 (k_X5_mostBase l D cy w z0 O116 e122 f128 f109 (iw f101 (by decide) (by decide))) e122 rfl rfl rfl ⟨by decide, by decide⟩ (Nat.le_of_ble_eq_true rfl) dX11_mayLie_133 ⟨(by decide), (by decide)⟩) (fun r130 h131 f133 K132 => ?_)
              obtain ⟨O134, F135, f136⟩ := K132
              refine g_icmp_gt C f24 f136 166 (by decide) dX11_mayLie_136 (fun q137 => ?_) (fun q138 => ?_)
              · have f139 : (-2147483648 : Int) ≤ r130 ∧ r130 ≤ (2147483646 : Int) := r_lt f136 f24 q137 (by decide) (by decide)
                have f140 : (-2147483647 : Int) ≤ v22 ∧ v22 ≤ (2147483647 : Int) := r_gt f24 f136 q137 (by decide) (by decide)
                have f141 : (1 : Int) ≤ (x111 + 1) ∧ (x111 + 1) ≤ (10 : Int) := ia_add f128 (il 1) (by decide) (by decide)
                refine g_iinc C [(9, .inl (x111 + 1)), (0, .inr (.inr a0)), (1, .inr (.inr a1)), (2, .inl a2), (3, .inl a3), (4, .inl (w32 (v14 - a3))), (5, .inl v22), (6, .inl v29), (7, .inl x110), (8, .inl v107)] 9 rfl (by decide) rfl dX11_mayLie_166 ?_
                refine g_goto C 109 (by decide) dX11_mayLie_169 ?_
                refine GW.sub [1, 2, 3, 4, 5, 6, 7, 8, 9, 0] rfl ?_
                exact ih114 _ (by omega) x110 (x111 + 1) h131 rfl O134 (F117.call F135 rfl) f118 (iw f141 (by decide) (by decide))
              · refine g_iload C 6 rfl dX11_mayLie_139 ?_
                refine g_aload_n C rfl 0 rfl dX11_mayLie_141 ?_
                have e142 : Tg h131 a0 = 11 := (fxT F135 e120)
                have e143 : Rv h131 a0 7 = v34 := ((fxR F135 e120 rfl).trans e121)
                refine gf_R C fk_LandSurvey_44 rfl e142 e143 dX11_mayLie_142 ?_
                refine g_iload C 9 rfl dX11_mayLie_145 ?_
                refine g_iload C 8 rfl dX11_mayLie_147 ?_
                refine g_iload C 4 rfl dX11_mayLie_149 ?_
                have e144 : Tg h131 v34 = 6 := (fxT F135 e122)
                refine g_callI (st := [.inl v29]) (gc_V C lk_LandSurvey_419 (k_X5_leastBase l D cy w z0 O134 e144 f128 f109 (iw f101 (by decide) (by decide))) e144 rfl rfl rfl ⟨by decide, by decide⟩ (Nat.le_of_ble_eq_true rfl) dX11_mayLie_151 ⟨(by decide), (by decide)⟩) (fun r145 h146 f148 K147 => ?_)
                obtain ⟨O149, F150, f151⟩ := K147
                refine g_icmp_lt C f31 f151 166 (by decide) dX11_mayLie_154 (fun q152 => ?_) (fun q153 => ?_)
                · have f154 : (-2147483648 : Int) ≤ v29 ∧ v29 ≤ (2147483646 : Int) := r_lt f31 f151 q152 (by decide) (by decide)
                  have f155 : (-2147483647 : Int) ≤ r145 ∧ r145 ≤ (2147483647 : Int) := r_gt f151 f31 q152 (by decide) (by decide)
                  have f156 : (1 : Int) ≤ (x111 + 1) ∧ (x111 + 1) ≤ (10 : Int) := ia_add f128 (il 1) (by decide) (by decide)
                  refine g_iinc C [(9, .inl (x111 + 1)), (0, .inr (.inr a0)), (1, .inr (.inr a1)), (2, .inl a2), (3, .inl a3), (4, .inl (w32 (v14 - a3))), (5, .inl v22), (6, .inl v29), (7, .inl x110), (8, .inl v107)] 9 rfl (by decide) rfl dX11_mayLie_166 ?_
                  refine g_goto C 109 (by decide) dX11_mayLie_169 ?_
                  refine GW.sub [1, 2, 3, 4, 5, 6, 7, 8, 9, 0] rfl ?_
                  exact ih114 _ (by omega) x110 (x111 + 1) h146 rfl O149 ((F117.call F135 rfl).call F150 rfl) f118 (iw f156 (by decide) (by decide))
                · refine g_iload C 7 rfl dX11_mayLie_157 ?_
                  refine g_iconst C dX11_mayLie_159 ?_
                  refine g_iload C 9 rfl dX11_mayLie_160 ?_
                  refine g_ishl C dX11_mayLie_162 ?_
                  have f157 : (-2147483648 : Int) ≤ (bShl 1 x111) ∧ (bShl 1 x111) ≤ (2147483647 : Int) := inR_of _
                  refine g_ior C dX11_mayLie_163 ?_
                  have f158 : (-2147483648 : Int) ≤ (bOr x110 (bShl 1 x111)) ∧ (bOr x110 (bShl 1 x111)) ≤ (2147483647 : Int) := inR_of _
                  refine g_istore C [(7, .inl (bOr x110 (bShl 1 x111))), (0, .inr (.inr a0)), (1, .inr (.inr a1)), (2, .inl a2), (3, .inl a3), (4, .inl (w32 (v14 - a3))), (5, .inl v22), (6, .inl v29), (8, .inl v107), (9, .inl x111)] (by decide) rfl dX11_mayLie_164 ?_
                  have f159 : (1 : Int) ≤ (x111 + 1) ∧ (x111 + 1) ≤ (10 : Int) := ia_add f128 (il 1) (by decide) (by decide)
                  refine g_iinc C [(9, .inl (x111 + 1)), (7, .inl (bOr x110 (bShl 1 x111))), (0, .inr (.inr a0)), (1, .inr (.inr a1)), (2, .inl a2), (3, .inl a3), (4, .inl (w32 (v14 - a3))), (5, .inl v22), (6, .inl v29), (8, .inl v107)] 9 rfl (by decide) rfl dX11_mayLie_166 ?_
                  refine g_goto C 109 (by decide) dX11_mayLie_169 ?_
                  refine GW.sub [2, 3, 4, 5, 6, 7, 8, 1, 9, 0] rfl ?_
                  exact ih114 _ (by omega) (bOr x110 (bShl 1 x111)) (x111 + 1) h146 rfl O149 ((F117.call F135 rfl).call F150 rfl) f158 (iw f159 (by decide) (by decide))
        exact L113 _ (bOr 0 2048) 0 h rfl O Fx.rf f102 (iw (il 0) (by decide) (by decide))
    · have f160 : (-2147483648 : Int) ≤ (w32 (v14 - a3)) ∧ (w32 (v14 - a3)) ≤ (2147483646 : Int) := r_lt f17 f31 q33 (by decide) (by decide)
      have f161 : (-2147483647 : Int) ≤ v29 ∧ v29 ≤ (2147483647 : Int) := r_gt f31 f17 q33 (by decide) (by decide)
      refine g_sipush C (by decide) dX11_mayLie_63 ?_
      refine g_goto C 70 (by decide) dX11_mayLie_66 ?_
      refine g_istore C [(7, .inl 1024), (6, .inl v29), (5, .inl v22), (4, .inl (w32 (v14 - a3))), (0, .inr (.inr a0)), (1, .inr (.inr a1)), (2, .inl a2), (3, .inl a3)] (by decide) rfl dX11_mayLie_70 ?_
      refine g_iload C 3 rfl dX11_mayLie_72 ?_
      refine g_iload C 2 rfl dX11_mayLie_74 ?_
      refine g_aload_n C rfl 4 rfl dX11_mayLie_76 ?_
      obtain ⟨v162, e163⟩ : ∃ z, Rv h a0 7 = z := ⟨_, rfl⟩
      have t164 := ok_R O ta0 rE_11_7 e163
      refine gf_R C fk_LandSurvey_44 rfl ta0 e163 dX11_mayLie_77 ?_
      obtain ⟨v165, e166⟩ : ∃ z, Iv h v162 6 = z := ⟨_, rfl⟩
      have f167 := ok_I O t164 rI_6_6 e166
      refine gf_I C fk_LandSurvey_438 rfl t164 e166 dX11_mayLie_80 ?_
      have f168 : (-2147483648 : Int) ≤ (w32 (v22 + v165)) ∧ (w32 (v22 + v165)) ≤ (2147483647 : Int) := w32_inR _
      refine g_iaddW C dX11_mayLie_83 ?_
      refine g_icmp_le C (iw f160 (by decide) (by decide)) f168 95 (by decide) dX11_mayLie_84 (fun q169 => ?_) (fun q170 => ?_)
      · refine g_aload_n C rfl 4 rfl dX11_mayLie_95 ?_
        refine gf_R C fk_LandSurvey_16 rfl ta0 e8 dX11_mayLie_96 ?_
        obtain ⟨v171, e172⟩ : ∃ z, Rv h v7 2 = z := ⟨_, rfl⟩
        have t173 := ok_R O t9 rE_3_2 e172
        have l174 := ok_L O t9 rE_3_2 e172
        refine gf_R C fk_LandSurvey_96 rfl t9 e172 dX11_mayLie_99 ?_
        refine g_iload_n C rfl 6 rfl dX11_mayLie_102 ?_
        obtain ⟨v175, e176⟩ : ∃ z, Iv h v171 a2.toNat = z := ⟨_, rfl⟩
        have f177 := ok_Ia O t173 ar_14101 rI_14101_0 e176
        refine g_zald C t173 rfl l174 (ix fa2 (by decide) (by decide)) e176 dX11_mayLie_103 ?_
        refine g_istore C [(8, .inl v175), (7, .inl 1024), (6, .inl v29), (5, .inl v22), (4, .inl (w32 (v14 - a3))), (0, .inr (.inr a0)), (1, .inr (.inr a1)), (2, .inl a2), (3, .inl a3)] (by decide) rfl dX11_mayLie_104 ?_
        refine g_iconst C dX11_mayLie_106 ?_
        refine g_istore C [(9, .inl 0), (8, .inl v175), (7, .inl 1024), (6, .inl v29), (5, .inl v22), (4, .inl (w32 (v14 - a3))), (0, .inr (.inr a0)), (1, .inr (.inr a1)), (2, .inl a2), (3, .inl a3)] (by decide) rfl dX11_mayLie_107 ?_
        refine GW.sub [6, 7, 8, 9, 5, 4, 3, 2, 1, 0] rfl ?_
        -- loop at 109
        have L181 : ∀ (μ : Nat) (x178 : Int) (x179 : Int) (h180 : Hp), (10 - x179).toNat = μ → Okh h180 → Fx [] h h180 → ((-2147483648 : Int) ≤ x178 ∧ x178 ≤ (2147483647 : Int)) → ((0 : Int) ≤ x179 ∧ x179 ≤ (10 : Int)) → GW p l e (rmm 2 45 0 0) s m (List.map toV [.inr (.inr a0), .inr (.inr a1), .inl a2, .inl a3]).toArray below meth c D cy z0 10 (MQ below (QI D cy z0 (fun v h1 => Okh h1 ∧ Fx wr_k_X11_mayLie h h1 ∧ ((-2147483648) ≤ v ∧ v ≤ 2147483647))) (List.map toV [.inr (.inr a0), .inr (.inr a1), .inl a2, .inl a3]).toArray s 0 0 (Aof z0)) 109 [(0, .inr (.inr a0)), (1, .inr (.inr a1)), (2, .inl a2), (3, .inl a3), (4, .inl (w32 (v14 - a3))), (5, .inl v22), (6, .inl v29), (7, .inl x178), (8, .inl v175), (9, .inl x179)] [] h180 0 0 := by
          intro μ
          induction μ using Nat.strongRecOn with
          | ind μ ih182 =>
            intro x178 x179 h180 hm183 O184 F185 f186 f187
            refine g_iload C 9 rfl dX11_mayLie_109 ?_
            refine g_aload_n C rfl 0 rfl dX11_mayLie_111 ?_
            have e188 : Tg h180 a0 = 11 := (fxT F185 ta0)
            have e189 : Rv h180 a0 7 = v162 := ((fxR F185 ta0 rfl).trans e163)
            refine gf_R C fk_LandSurvey_44 rfl e188 e189 dX11_mayLie_112 ?_
            have e190 : Tg h180 v162 = 6 := (fxT F185 t164)
            obtain ⟨v191, e192⟩ : ∃ z, Iv h180 v162 0 = z := ⟨_, rfl⟩
            have f193 := ok_I O184 e190 rI_6_0 e192
            refine gf_I C fk_LandSurvey_284 rfl e190 e192 dX11_mayLie_115 ?_
            refine g_icmp_ge C (iw f187 (by decide) (by decide)) (iw f193 (by decide) (by decide)) 172 (by decide) dX11_mayLie_118 (fun q194 => ?_) (fun q195 => ?_)
            · refine g_iload C 7 rfl dX11_mayLie_172 ?_
              exact g_iret C hr rfl f186 ⟨O184, ((Fx.rf (wr := wr_k_X11_mayLie)).call F185 rfl), f186⟩ (by decide) (by decide) dX11_mayLie_174
            · have f196 : (0 : Int) ≤ x179 ∧ x179 ≤ (9 : Int) := r_lt f187 f193 q195 (by decide) (by decide)
              have f197 : (1 : Int) ≤ v191 ∧ v191 ≤ (10 : Int) := r_gt f193 f187 q195 (by decide) (by decide)
              refine g_iload C 5 rfl dX11_mayLie_121 ?_
              refine g_aload_n C rfl 0 rfl dX11_mayLie_123 ?_
              refine gf_R C fk_LandSurvey_44 rfl e188 e189 dX11_mayLie_124 ?_
              refine g_iload C 9 rfl dX11_mayLie_127 ?_
              refine g_iload C 8 rfl dX11_mayLie_129 ?_
              refine g_iload C 4 rfl dX11_mayLie_131 ?_
              refine g_callI (st := [.inl v22]) (gc_V C lk_LandSurvey_423 (k_X5_mostBase l D cy w z0 O184 e190 f196 f177 (iw f160 (by decide) (by decide))) e190 rfl rfl rfl ⟨by decide, by decide⟩ (Nat.le_of_ble_eq_true rfl) dX11_mayLie_133 ⟨(by decide), (by decide)⟩) (fun r198 h199 f201 K200 => ?_)
              obtain ⟨O202, F203, f204⟩ := K200
              refine g_icmp_gt C f24 f204 166 (by decide) dX11_mayLie_136 (fun q205 => ?_) (fun q206 => ?_)
              · have f207 : (-2147483648 : Int) ≤ r198 ∧ r198 ≤ (2147483646 : Int) := r_lt f204 f24 q205 (by decide) (by decide)
                have f208 : (-2147483647 : Int) ≤ v22 ∧ v22 ≤ (2147483647 : Int) := r_gt f24 f204 q205 (by decide) (by decide)
                have f209 : (1 : Int) ≤ (x179 + 1) ∧ (x179 + 1) ≤ (10 : Int) := ia_add f196 (il 1) (by decide) (by decide)
                refine g_iinc C [(9, .inl (x179 + 1)), (0, .inr (.inr a0)), (1, .inr (.inr a1)), (2, .inl a2), (3, .inl a3), (4, .inl (w32 (v14 - a3))), (5, .inl v22), (6, .inl v29), (7, .inl x178), (8, .inl v175)] 9 rfl (by decide) rfl dX11_mayLie_166 ?_
                refine g_goto C 109 (by decide) dX11_mayLie_169 ?_
                refine GW.sub [1, 2, 3, 4, 5, 6, 7, 8, 9, 0] rfl ?_
                exact ih182 _ (by omega) x178 (x179 + 1) h199 rfl O202 (F185.call F203 rfl) f186 (iw f209 (by decide) (by decide))
              · refine g_iload C 6 rfl dX11_mayLie_139 ?_
                refine g_aload_n C rfl 0 rfl dX11_mayLie_141 ?_
                have e210 : Tg h199 a0 = 11 := (fxT F203 e188)
                have e211 : Rv h199 a0 7 = v162 := ((fxR F203 e188 rfl).trans e189)
                refine gf_R C fk_LandSurvey_44 rfl e210 e211 dX11_mayLie_142 ?_
                refine g_iload C 9 rfl dX11_mayLie_145 ?_
                refine g_iload C 8 rfl dX11_mayLie_147 ?_
                refine g_iload C 4 rfl dX11_mayLie_149 ?_
                have e212 : Tg h199 v162 = 6 := (fxT F203 e190)
                refine g_callI (st := [.inl v29]) (gc_V C lk_LandSurvey_419 (k_X5_leastBase l D cy w z0 O202 e212 f196 f177 (iw f160 (by decide) (by decide))) e212 rfl rfl rfl ⟨by decide, by decide⟩ (Nat.le_of_ble_eq_true rfl) dX11_mayLie_151 ⟨(by decide), (by decide)⟩) (fun r213 h214 f216 K215 => ?_)
                obtain ⟨O217, F218, f219⟩ := K215
                refine g_icmp_lt C (iw f161 (by decide) (by decide)) f219 166 (by decide) dX11_mayLie_154 (fun q220 => ?_) (fun q221 => ?_)
                · have f222 : (-2147483647 : Int) ≤ v29 ∧ v29 ≤ (2147483646 : Int) := r_lt f161 f219 q220 (by decide) (by decide)
                  have f223 : (-2147483646 : Int) ≤ r213 ∧ r213 ≤ (2147483647 : Int) := r_gt f219 f161 q220 (by decide) (by decide)
                  have f224 : (1 : Int) ≤ (x179 + 1) ∧ (x179 + 1) ≤ (10 : Int) := ia_add f196 (il 1) (by decide) (by decide)
                  refine g_iinc C [(9, .inl (x179 + 1)), (0, .inr (.inr a0)), (1, .inr (.inr a1)), (2, .inl a2), (3, .inl a3), (4, .inl (w32 (v14 - a3))), (5, .inl v22), (6, .inl v29), (7, .inl x178), (8, .inl v175)] 9 rfl (by decide) rfl dX11_mayLie_166 ?_
                  refine g_goto C 109 (by decide) dX11_mayLie_169 ?_
                  refine GW.sub [1, 2, 3, 4, 5, 6, 7, 8, 9, 0] rfl ?_
                  exact ih182 _ (by omega) x178 (x179 + 1) h214 rfl O217 ((F185.call F203 rfl).call F218 rfl) f186 (iw f224 (by decide) (by decide))
                · refine g_iload C 7 rfl dX11_mayLie_157 ?_
                  refine g_iconst C dX11_mayLie_159 ?_
                  refine g_iload C 9 rfl dX11_mayLie_160 ?_
                  refine g_ishl C dX11_mayLie_162 ?_
                  have f225 : (-2147483648 : Int) ≤ (bShl 1 x179) ∧ (bShl 1 x179) ≤ (2147483647 : Int) := inR_of _
                  refine g_ior C dX11_mayLie_163 ?_
                  have f226 : (-2147483648 : Int) ≤ (bOr x178 (bShl 1 x179)) ∧ (bOr x178 (bShl 1 x179)) ≤ (2147483647 : Int) := inR_of _
                  refine g_istore C [(7, .inl (bOr x178 (bShl 1 x179))), (0, .inr (.inr a0)), (1, .inr (.inr a1)), (2, .inl a2), (3, .inl a3), (4, .inl (w32 (v14 - a3))), (5, .inl v22), (6, .inl v29), (8, .inl v175), (9, .inl x179)] (by decide) rfl dX11_mayLie_164 ?_
                  have f227 : (1 : Int) ≤ (x179 + 1) ∧ (x179 + 1) ≤ (10 : Int) := ia_add f196 (il 1) (by decide) (by decide)
                  refine g_iinc C [(9, .inl (x179 + 1)), (7, .inl (bOr x178 (bShl 1 x179))), (0, .inr (.inr a0)), (1, .inr (.inr a1)), (2, .inl a2), (3, .inl a3), (4, .inl (w32 (v14 - a3))), (5, .inl v22), (6, .inl v29), (8, .inl v175)] 9 rfl (by decide) rfl dX11_mayLie_166 ?_
                  refine g_goto C 109 (by decide) dX11_mayLie_169 ?_
                  refine GW.sub [2, 3, 4, 5, 6, 7, 8, 1, 9, 0] rfl ?_
                  exact ih182 _ (by omega) (bOr x178 (bShl 1 x179)) (x179 + 1) h214 rfl O217 ((F185.call F203 rfl).call F218 rfl) f226 (iw f227 (by decide) (by decide))
        exact L181 _ 1024 0 h rfl O Fx.rf (iw (il 1024) (by decide) (by decide)) (iw (il 0) (by decide) (by decide))
      · have f228 : (-2147483648 : Int) ≤ (w32 (v22 + v165)) ∧ (w32 (v22 + v165)) ≤ (2147483645 : Int) := r_lt f168 f160 q170 (by decide) (by decide)
        have f229 : (-2147483647 : Int) ≤ (w32 (v14 - a3)) ∧ (w32 (v14 - a3)) ≤ (2147483646 : Int) := r_gt f160 f168 q170 (by decide) (by decide)
        refine g_iload C 0 rfl dX11_mayLie_87 ?_
        refine g_sipush C (by decide) dX11_mayLie_89 ?_
        refine g_ior C dX11_mayLie_92 ?_
        have f230 : (-2147483648 : Int) ≤ (bOr 1024 2048) ∧ (bOr 1024 2048) ≤ (2147483647 : Int) := inR_of _
        refine g_istore C [(7, .inl (bOr 1024 2048)), (6, .inl v29), (5, .inl v22), (4, .inl (w32 (v14 - a3))), (0, .inr (.inr a0)), (1, .inr (.inr a1)), (2, .inl a2), (3, .inl a3)] (by decide) rfl dX11_mayLie_93 ?_
        refine g_aload_n C rfl 4 rfl dX11_mayLie_95 ?_
        refine gf_R C fk_LandSurvey_16 rfl ta0 e8 dX11_mayLie_96 ?_
        obtain ⟨v231, e232⟩ : ∃ z, Rv h v7 2 = z := ⟨_, rfl⟩
        have t233 := ok_R O t9 rE_3_2 e232
        have l234 := ok_L O t9 rE_3_2 e232
        refine gf_R C fk_LandSurvey_96 rfl t9 e232 dX11_mayLie_99 ?_
        refine g_iload_n C rfl 6 rfl dX11_mayLie_102 ?_
        obtain ⟨v235, e236⟩ : ∃ z, Iv h v231 a2.toNat = z := ⟨_, rfl⟩
        have f237 := ok_Ia O t233 ar_14101 rI_14101_0 e236
        refine g_zald C t233 rfl l234 (ix fa2 (by decide) (by decide)) e236 dX11_mayLie_103 ?_
        refine g_istore C [(8, .inl v235), (7, .inl (bOr 1024 2048)), (6, .inl v29), (5, .inl v22), (4, .inl (w32 (v14 - a3))), (0, .inr (.inr a0)), (1, .inr (.inr a1)), (2, .inl a2), (3, .inl a3)] (by decide) rfl dX11_mayLie_104 ?_
        refine g_iconst C dX11_mayLie_106 ?_
        refine g_istore C [(9, .inl 0), (8, .inl v235), (7, .inl (bOr 1024 2048)), (6, .inl v29), (5, .inl v22), (4, .inl (w32 (v14 - a3))), (0, .inr (.inr a0)), (1, .inr (.inr a1)), (2, .inl a2), (3, .inl a3)] (by decide) rfl dX11_mayLie_107 ?_
        refine GW.sub [6, 7, 8, 9, 5, 4, 3, 2, 1, 0] rfl ?_
        -- loop at 109
        have L241 : ∀ (μ : Nat) (x238 : Int) (x239 : Int) (h240 : Hp), (10 - x239).toNat = μ → Okh h240 → Fx [] h h240 → ((-2147483648 : Int) ≤ x238 ∧ x238 ≤ (2147483647 : Int)) → ((0 : Int) ≤ x239 ∧ x239 ≤ (10 : Int)) → GW p l e (rmm 2 45 0 0) s m (List.map toV [.inr (.inr a0), .inr (.inr a1), .inl a2, .inl a3]).toArray below meth c D cy z0 10 (MQ below (QI D cy z0 (fun v h1 => Okh h1 ∧ Fx wr_k_X11_mayLie h h1 ∧ ((-2147483648) ≤ v ∧ v ≤ 2147483647))) (List.map toV [.inr (.inr a0), .inr (.inr a1), .inl a2, .inl a3]).toArray s 0 0 (Aof z0)) 109 [(0, .inr (.inr a0)), (1, .inr (.inr a1)), (2, .inl a2), (3, .inl a3), (4, .inl (w32 (v14 - a3))), (5, .inl v22), (6, .inl v29), (7, .inl x238), (8, .inl v235), (9, .inl x239)] [] h240 0 0 := by
          intro μ
          induction μ using Nat.strongRecOn with
          | ind μ ih242 =>
            intro x238 x239 h240 hm243 O244 F245 f246 f247
            refine g_iload C 9 rfl dX11_mayLie_109 ?_
            refine g_aload_n C rfl 0 rfl dX11_mayLie_111 ?_
            have e248 : Tg h240 a0 = 11 := (fxT F245 ta0)
            have e249 : Rv h240 a0 7 = v162 := ((fxR F245 ta0 rfl).trans e163)
            refine gf_R C fk_LandSurvey_44 rfl e248 e249 dX11_mayLie_112 ?_
            have e250 : Tg h240 v162 = 6 := (fxT F245 t164)
            obtain ⟨v251, e252⟩ : ∃ z, Iv h240 v162 0 = z := ⟨_, rfl⟩
            have f253 := ok_I O244 e250 rI_6_0 e252
            refine gf_I C fk_LandSurvey_284 rfl e250 e252 dX11_mayLie_115 ?_
            refine g_icmp_ge C (iw f247 (by decide) (by decide)) (iw f253 (by decide) (by decide)) 172 (by decide) dX11_mayLie_118 (fun q254 => ?_) (fun q255 => ?_)
            · refine g_iload C 7 rfl dX11_mayLie_172 ?_
              exact g_iret C hr rfl f246 ⟨O244, ((Fx.rf (wr := wr_k_X11_mayLie)).call F245 rfl), f246⟩ (by decide) (by decide) dX11_mayLie_174
            · have f256 : (0 : Int) ≤ x239 ∧ x239 ≤ (9 : Int) := r_lt f247 f253 q255 (by decide) (by decide)
              have f257 : (1 : Int) ≤ v251 ∧ v251 ≤ (10 : Int) := r_gt f253 f247 q255 (by decide) (by decide)
              refine g_iload C 5 rfl dX11_mayLie_121 ?_
              refine g_aload_n C rfl 0 rfl dX11_mayLie_123 ?_
              refine gf_R C fk_LandSurvey_44 rfl e248 e249 dX11_mayLie_124 ?_
              refine g_iload C 9 rfl dX11_mayLie_127 ?_
              refine g_iload C 8 rfl dX11_mayLie_129 ?_
              refine g_iload C 4 rfl dX11_mayLie_131 ?_
              refine g_callI (st := [.inl v22]) (gc_V C lk_LandSurvey_423 (k_X5_mostBase l D cy w z0 O244 e250 f256 f237 (iw f229 (by decide) (by decide))) e250 rfl rfl rfl ⟨by decide, by decide⟩ (Nat.le_of_ble_eq_true rfl) dX11_mayLie_133 ⟨(by decide), (by decide)⟩) (fun r258 h259 f261 K260 => ?_)
              obtain ⟨O262, F263, f264⟩ := K260
              refine g_icmp_gt C f24 f264 166 (by decide) dX11_mayLie_136 (fun q265 => ?_) (fun q266 => ?_)
              · have f267 : (-2147483648 : Int) ≤ r258 ∧ r258 ≤ (2147483646 : Int) := r_lt f264 f24 q265 (by decide) (by decide)
                have f268 : (-2147483647 : Int) ≤ v22 ∧ v22 ≤ (2147483647 : Int) := r_gt f24 f264 q265 (by decide) (by decide)
                have f269 : (1 : Int) ≤ (x239 + 1) ∧ (x239 + 1) ≤ (10 : Int) := ia_add f256 (il 1) (by decide) (by decide)
                refine g_iinc C [(9, .inl (x239 + 1)), (0, .inr (.inr a0)), (1, .inr (.inr a1)), (2, .inl a2), (3, .inl a3), (4, .inl (w32 (v14 - a3))), (5, .inl v22), (6, .inl v29), (7, .inl x238), (8, .inl v235)] 9 rfl (by decide) rfl dX11_mayLie_166 ?_
                refine g_goto C 109 (by decide) dX11_mayLie_169 ?_
                refine GW.sub [1, 2, 3, 4, 5, 6, 7, 8, 9, 0] rfl ?_
                exact ih242 _ (by omega) x238 (x239 + 1) h259 rfl O262 (F245.call F263 rfl) f246 (iw f269 (by decide) (by decide))
              · refine g_iload C 6 rfl dX11_mayLie_139 ?_
                refine g_aload_n C rfl 0 rfl dX11_mayLie_141 ?_
                have e270 : Tg h259 a0 = 11 := (fxT F263 e248)
                have e271 : Rv h259 a0 7 = v162 := ((fxR F263 e248 rfl).trans e249)
                refine gf_R C fk_LandSurvey_44 rfl e270 e271 dX11_mayLie_142 ?_
                refine g_iload C 9 rfl dX11_mayLie_145 ?_
                refine g_iload C 8 rfl dX11_mayLie_147 ?_
                refine g_iload C 4 rfl dX11_mayLie_149 ?_
                have e272 : Tg h259 v162 = 6 := (fxT F263 e250)
                refine g_callI (st := [.inl v29]) (gc_V C lk_LandSurvey_419 (k_X5_leastBase l D cy w z0 O262 e272 f256 f237 (iw f229 (by decide) (by decide))) e272 rfl rfl rfl ⟨by decide, by decide⟩ (Nat.le_of_ble_eq_true rfl) dX11_mayLie_151 ⟨(by decide), (by decide)⟩) (fun r273 h274 f276 K275 => ?_)
                obtain ⟨O277, F278, f279⟩ := K275
                refine g_icmp_lt C (iw f161 (by decide) (by decide)) f279 166 (by decide) dX11_mayLie_154 (fun q280 => ?_) (fun q281 => ?_)
                · have f282 : (-2147483647 : Int) ≤ v29 ∧ v29 ≤ (2147483646 : Int) := r_lt f161 f279 q280 (by decide) (by decide)
                  have f283 : (-2147483646 : Int) ≤ r273 ∧ r273 ≤ (2147483647 : Int) := r_gt f279 f161 q280 (by decide) (by decide)
                  have f284 : (1 : Int) ≤ (x239 + 1) ∧ (x239 + 1) ≤ (10 : Int) := ia_add f256 (il 1) (by decide) (by decide)
                  refine g_iinc C [(9, .inl (x239 + 1)), (0, .inr (.inr a0)), (1, .inr (.inr a1)), (2, .inl a2), (3, .inl a3), (4, .inl (w32 (v14 - a3))), (5, .inl v22), (6, .inl v29), (7, .inl x238), (8, .inl v235)] 9 rfl (by decide) rfl dX11_mayLie_166 ?_
                  refine g_goto C 109 (by decide) dX11_mayLie_169 ?_
                  refine GW.sub [1, 2, 3, 4, 5, 6, 7, 8, 9, 0] rfl ?_
                  exact ih242 _ (by omega) x238 (x239 + 1) h274 rfl O277 ((F245.call F263 rfl).call F278 rfl) f246 (iw f284 (by decide) (by decide))
                · refine g_iload C 7 rfl dX11_mayLie_157 ?_
                  refine g_iconst C dX11_mayLie_159 ?_
                  refine g_iload C 9 rfl dX11_mayLie_160 ?_
                  refine g_ishl C dX11_mayLie_162 ?_
                  have f285 : (-2147483648 : Int) ≤ (bShl 1 x239) ∧ (bShl 1 x239) ≤ (2147483647 : Int) := inR_of _
                  refine g_ior C dX11_mayLie_163 ?_
                  have f286 : (-2147483648 : Int) ≤ (bOr x238 (bShl 1 x239)) ∧ (bOr x238 (bShl 1 x239)) ≤ (2147483647 : Int) := inR_of _
                  refine g_istore C [(7, .inl (bOr x238 (bShl 1 x239))), (0, .inr (.inr a0)), (1, .inr (.inr a1)), (2, .inl a2), (3, .inl a3), (4, .inl (w32 (v14 - a3))), (5, .inl v22), (6, .inl v29), (8, .inl v235), (9, .inl x239)] (by decide) rfl dX11_mayLie_164 ?_
                  have f287 : (1 : Int) ≤ (x239 + 1) ∧ (x239 + 1) ≤ (10 : Int) := ia_add f256 (il 1) (by decide) (by decide)
                  refine g_iinc C [(9, .inl (x239 + 1)), (7, .inl (bOr x238 (bShl 1 x239))), (0, .inr (.inr a0)), (1, .inr (.inr a1)), (2, .inl a2), (3, .inl a3), (4, .inl (w32 (v14 - a3))), (5, .inl v22), (6, .inl v29), (8, .inl v235)] 9 rfl (by decide) rfl dX11_mayLie_166 ?_
                  refine g_goto C 109 (by decide) dX11_mayLie_169 ?_
                  refine GW.sub [2, 3, 4, 5, 6, 7, 8, 1, 9, 0] rfl ?_
                  exact ih242 _ (by omega) (bOr x238 (bShl 1 x239)) (x239 + 1) h274 rfl O277 ((F245.call F263 rfl).call F278 rfl) f286 (iw f287 (by decide) (by decide))
        exact L241 _ (bOr 1024 2048) 0 h rfl O Fx.rf f230 (iw (il 0) (by decide) (by decide))
  · have f288 : (0 : Int) ≤ v1 ∧ v1 ≤ (0 : Int) := ii f3 (r_eq (il 0) q5) (by decide) (by decide)
    refine g_iconst C dX11_mayLie_7 ?_
    refine g_aload_n C rfl 0 rfl dX11_mayLie_8 ?_
    obtain ⟨v289, e290⟩ : ∃ z, Rv h a0 7 = z := ⟨_, rfl⟩
    have t291 := ok_R O ta0 rE_11_7 e290
    refine gf_R C fk_LandSurvey_44 rfl ta0 e290 dX11_mayLie_9 ?_
    obtain ⟨v292, e293⟩ : ∃ z, Iv h v289 0 = z := ⟨_, rfl⟩
    have f294 := ok_I O t291 rI_6_0 e293
    refine gf_I C fk_LandSurvey_284 rfl t291 e293 dX11_mayLie_12 ?_
    refine g_ishl C dX11_mayLie_15 ?_
    have f295 : (-2147483648 : Int) ≤ (bShl 1 v292) ∧ (bShl 1 v292) ≤ (2147483647 : Int) := inR_of _
    refine g_iconst C dX11_mayLie_16 ?_
    have f296 : (-2147483648 : Int) ≤ (w32 ((bShl 1 v292) - 1)) ∧ (w32 ((bShl 1 v292) - 1)) ≤ (2147483647 : Int) := w32_inR _
    refine g_isubW C dX11_mayLie_17 ?_
    refine g_sipush C (by decide) dX11_mayLie_18 ?_
    refine g_ior C dX11_mayLie_21 ?_
    have f297 : (-2147483648 : Int) ≤ (bOr (w32 ((bShl 1 v292) - 1)) 1024) ∧ (bOr (w32 ((bShl 1 v292) - 1)) 1024) ≤ (2147483647 : Int) := inR_of _
    refine g_sipush C (by decide) dX11_mayLie_22 ?_
    refine g_ior C dX11_mayLie_25 ?_
    have f298 : (-2147483648 : Int) ≤ (bOr (bOr (w32 ((bShl 1 v292) - 1)) 1024) 2048) ∧ (bOr (bOr (w32 ((bShl 1 v292) - 1)) 1024) 2048) ≤ (2147483647 : Int) := inR_of _
    exact g_iret C hr rfl f298 ⟨O, Fx.rf, f298⟩ (by decide) (by decide) dX11_mayLie_26
def wr_k_X11_mayLieByAll : List Nat := []
set_option maxRecDepth 100000 in
set_option maxHeartbeats 4000000 in
theorem k_X11_mayLieByAll (l : Launch) (D : va_G) (cy : Nat → ClassId) (w : Nat → Nat) (z0 : Nat)  {h : Hp} {a0 : Nat} {a1 : Int} {a2 : Int}  (O : Okh h) (ta0 : Tg h a0 = 11) (fa1 : 0 ≤ a1 ∧ a1 ≤ 95) (fa2 : (-2147483648) ≤ a2 ∧ a2 ≤ 2147483647) (P_stlp : Iv h a0 15 = 1) (P_XInv : XInv h a0) : MI l D cy w z0 yX11_mayLieByAll cX11_mayLieByAll 5 (some .int) 3 74 0 0 [.inr (.inr a0), .inl a1, .inl a2] h (fun v h1 => Okh h1 ∧ Fx wr_k_X11_mayLieByAll h h1 ∧ ((-2147483648) ≤ v ∧ v ≤ 2147483647)) := by
  obtain ⟨v1, e2⟩ : ∃ z, Rv h a0 3 = z := ⟨_, rfl⟩
  have t3 := ok_R O ta0 rE_11_3 e2
  have l4 := ok_L O ta0 rE_11_3 e2
  obtain ⟨v5, e6⟩ : ∃ z, Iv h a0 4 = z := ⟨_, rfl⟩
  have f7 := ok_I O ta0 rI_11_4 e6
  obtain ⟨v8, e9⟩ : ∃ z, Rv h a0 8 = z := ⟨_, rfl⟩
  have t10 := ok_R O ta0 rE_11_8 e9
  have l11 := ok_L O ta0 rE_11_8 e9
  obtain ⟨v12, e13⟩ : ∃ z, Iv h a0 9 = z := ⟨_, rfl⟩
  have f14 := ok_I O ta0 rI_11_9 e13
  obtain ⟨v15, e16⟩ : ∃ z, Rv h a0 11 = z := ⟨_, rfl⟩
  have t17 := ok_R O ta0 rE_11_11 e16
  have l18 := ok_L O ta0 rE_11_11 e16
  obtain ⟨v19, e20⟩ : ∃ z, Iv h a0 12 = z := ⟨_, rfl⟩
  have f21 := ok_I O ta0 rI_11_12 e20
  obtain ⟨v22, e23⟩ : ∃ z, Rv h a0 14 = z := ⟨_, rfl⟩
  have t24 := ok_R O ta0 rE_11_14 e23
  have l25 := ok_L O ta0 rE_11_14 e23
  obtain ⟨v26, e27⟩ : ∃ z, Rv h a0 13 = z := ⟨_, rfl⟩
  have t28 := ok_R O ta0 rE_11_13 e27
  obtain ⟨v29, e30⟩ : ∃ z, Rv h a0 6 = z := ⟨_, rfl⟩
  have t31 := ok_R O ta0 rE_11_6 e30
  obtain ⟨v32, e33⟩ : ∃ z, Rv h a0 7 = z := ⟨_, rfl⟩
  have t34 := ok_R O ta0 rE_11_7 e33
  have p46 := P_XInv
  unfold XInv at p46
  rw [e2, e6, e9, e13, e16, e20, P_stlp, e23, e27, e30, e33] at p46
  obtain ⟨p35, p36, p37, p38, p39, p40, p41, p42, p43, p44, p45⟩ := p46
  obtain ⟨v47, e48⟩ : ∃ z, Iv h v26 3 = z := ⟨_, rfl⟩
  have f49 := ok_I O t28 rI_7_3 e48
  obtain ⟨v50, e51⟩ : ∃ z, Iv h v26 4 = z := ⟨_, rfl⟩
  have f52 := ok_I O t28 rI_7_4 e51
  rw [e48] at p41
  rw [e51] at p42
  have p53 := p38 (by omega)
  refine hm_go (by decide +kernel) (Nat.le_of_ble_eq_true rfl) (fun p e s m below meth c C hr hn => ?_)
  refine g_iconst C dX11_mayLieByAll_0 ?_
  refine g_istore_n C [(3, .inl 0), (0, .inr (.inr a0)), (1, .inl a1), (2, .inl a2)] rfl (by decide) rfl dX11_mayLieByAll_1 ?_
  refine g_iconst C dX11_mayLieByAll_2 ?_
  refine g_istore C [(4, .inl 0), (3, .inl 0), (0, .inr (.inr a0)), (1, .inl a1), (2, .inl a2)] (by decide) rfl dX11_mayLieByAll_3 ?_
  refine GW.sub [2, 3, 4, 1, 0] rfl ?_
  -- loop at 5
  have L57 : ∀ (μ : Nat) (x54 : Int) (x55 : Int) (h56 : Hp), (16 - x55).toNat = μ → Okh h56 → Fx [] h h56 → ((-2147483648 : Int) ≤ x54 ∧ x54 ≤ (2147483647 : Int)) → ((0 : Int) ≤ x55 ∧ x55 ≤ (16 : Int)) → GW p l e (rmm 3 74 0 0) s m (List.map toV [.inr (.inr a0), .inl a1, .inl a2]).toArray below meth c D cy z0 5 (MQ below (QI D cy z0 (fun v h1 => Okh h1 ∧ Fx wr_k_X11_mayLieByAll h h1 ∧ ((-2147483648) ≤ v ∧ v ≤ 2147483647))) (List.map toV [.inr (.inr a0), .inl a1, .inl a2]).toArray s 0 0 (Aof z0)) 5 [(0, .inr (.inr a0)), (1, .inl a1), (2, .inl a2), (3, .inl x54), (4, .inl x55)] [] h56 0 0 := by
    intro μ
    induction μ using Nat.strongRecOn with
    | ind μ ih58 =>
      intro x54 x55 h56 hm59 O60 F61 f62 f63
      refine g_iload C 4 rfl dX11_mayLieByAll_5 ?_
      refine g_iconst C dX11_mayLieByAll_7 ?_
      refine g_aload_n C rfl 0 rfl dX11_mayLieByAll_8 ?_
      have e64 : Tg h56 a0 = 11 := (fxT F61 ta0)
      have e65 : Iv h56 a0 9 = v12 := ((fxI F61 ta0 rfl).trans e13)
      refine gf_I C fk_LandSurvey_157 rfl e64 e65 dX11_mayLieByAll_9 ?_
      refine g_ishl C dX11_mayLieByAll_12 ?_
      have f66 : (1 : Int) ≤ (bShl 1 v12) ∧ (bShl 1 v12) ≤ (16 : Int) := bShl_4 f14
      refine g_icmp_ge C (iw f63 (by decide) (by decide)) (iw f66 (by decide) (by decide)) 47 (by decide) dX11_mayLieByAll_13 (fun q67 => ?_) (fun q68 => ?_)
      · have f69 : (1 : Int) ≤ x55 ∧ x55 ≤ (16 : Int) := r_ge f63 f66 q67 (by decide) (by decide)
        refine g_iload_n C rfl 3 rfl dX11_mayLieByAll_47 ?_
        exact g_iret C hr rfl f62 ⟨O60, ((Fx.rf (wr := wr_k_X11_mayLieByAll)).call F61 rfl), f62⟩ (by decide) (by decide) dX11_mayLieByAll_48
      · have f70 : (0 : Int) ≤ x55 ∧ x55 ≤ (15 : Int) := r_lt f63 f66 q68 (by decide) (by decide)
        refine g_aload_n C rfl 0 rfl dX11_mayLieByAll_16 ?_
        refine g_iload C 4 rfl dX11_mayLieByAll_17 ?_
        have e71 : Iv h56 a0 15 = 1 := ((fxI F61 ta0 rfl).trans P_stlp)
        have p72 := (XInv_fx O F61 ta0 rfl P_XInv)
        refine g_callI (st := []) (gc_V C lk_LandSurvey_234 (k_X11_isKept l D cy w z0 O60 e64 f70 e71 p72 (by rw [e65]; omega)) e64 rfl rfl rfl ⟨by decide, by decide⟩ (Nat.le_of_ble_eq_true rfl) dX11_mayLieByAll_19 ⟨(by decide), (by decide)⟩) (fun r73 h74 f76 K75 => ?_)
        obtain ⟨O77, F78, f79⟩ := K75
        refine g_if_eq C (iw f79 (by decide) (by decide)) 41 (by decide) dX11_mayLieByAll_22 (fun q80 => ?_) (fun q81 => ?_)
        · have f82 : (0 : Int) ≤ r73 ∧ r73 ≤ (0 : Int) := ii f79 (r_eq (il 0) q80) (by decide) (by decide)
          have f83 : (1 : Int) ≤ (x55 + 1) ∧ (x55 + 1) ≤ (16 : Int) := ia_add f70 (il 1) (by decide) (by decide)
          refine g_iinc C [(4, .inl (x55 + 1)), (0, .inr (.inr a0)), (1, .inl a1), (2, .inl a2), (3, .inl x54)] 4 rfl (by decide) rfl dX11_mayLieByAll_41 ?_
          refine g_goto C 5 (by decide) dX11_mayLieByAll_44 ?_
          refine GW.sub [1, 2, 3, 4, 0] rfl ?_
          exact ih58 _ (by omega) x54 (x55 + 1) h74 rfl O77 (F61.call F78 rfl) f62 (iw f83 (by decide) (by decide))
        · have f84 : (1 : Int) ≤ r73 ∧ r73 ≤ (1 : Int) := r_nl f79 q81
          refine g_iload_n C rfl 3 rfl dX11_mayLieByAll_25 ?_
          refine g_aload_n C rfl 0 rfl dX11_mayLieByAll_26 ?_
          refine g_aload_n C rfl 0 rfl dX11_mayLieByAll_27 ?_
          have e85 : Tg h74 a0 = 11 := (fxT F78 e64)
          have e86 : Rv h74 a0 14 = v22 := ((fxR F78 e64 rfl).trans ((fxR F61 ta0 rfl).trans e23))
          refine gf_R C fk_LandSurvey_70 rfl e85 e86 dX11_mayLieByAll_28 ?_
          refine g_iload C 4 rfl dX11_mayLieByAll_31 ?_
          have e87 : Tg h74 v22 = 49107 := (fxT F78 (fxT F61 t24))
          have e88 : Tg h56 v22 = 49107 := (fxT F61 t24)
          have e89 : Ln h74 v22 = 16 := ((fxL F78 e88).trans ((fxL F61 t24).trans l25))
          obtain ⟨v90, e91⟩ : ∃ z, Rv h74 v22 x55.toNat = z := ⟨_, rfl⟩
          refine g_aald (t := 7) C e87 rfl (by decide) rfl e89 (ix f70 (by decide) (by decide)) e91 dX11_mayLieByAll_33 ?_
          have p92 := (NN_fx F78 e88 ar_49107 rfl (NN_fx F61 t24 ar_49107 rfl p53))
          have q93 := nn_get p92 (by omega) e91
          have t94 := ok_Na O77 e87 ar_49107 rE_49107_0 e91 q93
          refine g_iload_n C rfl 1 rfl dX11_mayLieByAll_34 ?_
          refine g_iload_n C rfl 2 rfl dX11_mayLieByAll_35 ?_
          refine g_callI (st := [.inl x54]) (gc_V C lk_LandSurvey_441 (k_X11_mayLie l D cy w z0 O77 e85 t94 fa1 fa2) e85 rfl rfl rfl ⟨by decide, by decide⟩ (Nat.le_of_ble_eq_true rfl) dX11_mayLieByAll_36 ⟨(by decide), (by decide)⟩) (fun r95 h96 f98 K97 => ?_)
          obtain ⟨O99, F100, f101⟩ := K97
          refine g_ior C dX11_mayLieByAll_39 ?_
          have f102 : (-2147483648 : Int) ≤ (bOr x54 r95) ∧ (bOr x54 r95) ≤ (2147483647 : Int) := inR_of _
          refine g_istore_n C [(3, .inl (bOr x54 r95)), (0, .inr (.inr a0)), (1, .inl a1), (2, .inl a2), (4, .inl x55)] rfl (by decide) rfl dX11_mayLieByAll_40 ?_
          have f103 : (1 : Int) ≤ (x55 + 1) ∧ (x55 + 1) ≤ (16 : Int) := ia_add f70 (il 1) (by decide) (by decide)
          refine g_iinc C [(4, .inl (x55 + 1)), (3, .inl (bOr x54 r95)), (0, .inr (.inr a0)), (1, .inl a1), (2, .inl a2)] 4 rfl (by decide) rfl dX11_mayLieByAll_41 ?_
          refine g_goto C 5 (by decide) dX11_mayLieByAll_44 ?_
          refine GW.sub [2, 3, 4, 1, 0] rfl ?_
          exact ih58 _ (by omega) (bOr x54 r95) (x55 + 1) h96 rfl O99 ((F61.call F78 rfl).call F100 rfl) f102 (iw f103 (by decide) (by decide))
  exact L57 _ 0 0 h rfl O Fx.rf (iw (il 0) (by decide) (by decide)) (iw (il 0) (by decide) (by decide))
def wr_k_X11_countCertain : List Nat := []
set_option maxRecDepth 100000 in
set_option maxHeartbeats 4000000 in
theorem k_X11_countCertain (l : Launch) (D : va_G) (cy : Nat → ClassId) (w : Nat → Nat) (z0 : Nat)  {h : Hp} {a0 : Nat}  (O : Okh h) (ta0 : Tg h a0 = 11) (P_stlp : Iv h a0 15 = 1) (P_XInv : XInv h a0) : MI l D cy w z0 yX11_countCertain cX11_countCertain 3 (some .int) 4 98 0 0 [.inr (.inr a0)] h (fun v h1 => Okh h1 ∧ Fx wr_k_X11_countCertain h h1 ∧ ((-2147483648) ≤ v ∧ v ≤ 2147483647)) := by
  obtain ⟨v1, e2⟩ : ∃ z, Rv h a0 3 = z := ⟨_, rfl⟩
  have t3 := ok_R O ta0 rE_11_3 e2
  have l4 := ok_L O ta0 rE_11_3 e2
  obtain ⟨v5, e6⟩ : ∃ z, Iv h a0 4 = z := ⟨_, rfl⟩
  have f7 := ok_I O ta0 rI_11_4 e6
  obtain ⟨v8, e9⟩ : ∃ z, Rv h a0 8 = z := ⟨_, rfl⟩
  have t10 := ok_R O ta0 rE_11_8 e9
  have l11 := ok_L O ta0 rE_11_8 e9
  obtain ⟨v12, e13⟩ : ∃ z, Iv h a0 9 = z := ⟨_, rfl⟩
  have f14 := ok_I O ta0 rI_11_9 e13
  obtain ⟨v15, e16⟩ : ∃ z, Rv h a0 11 = z := ⟨_, rfl⟩
  have t17 := ok_R O ta0 rE_11_11 e16
  have l18 := ok_L O ta0 rE_11_11 e16
  obtain ⟨v19, e20⟩ : ∃ z, Iv h a0 12 = z := ⟨_, rfl⟩
  have f21 := ok_I O ta0 rI_11_12 e20
  obtain ⟨v22, e23⟩ : ∃ z, Rv h a0 14 = z := ⟨_, rfl⟩
  have t24 := ok_R O ta0 rE_11_14 e23
  have l25 := ok_L O ta0 rE_11_14 e23
  obtain ⟨v26, e27⟩ : ∃ z, Rv h a0 13 = z := ⟨_, rfl⟩
  have t28 := ok_R O ta0 rE_11_13 e27
  obtain ⟨v29, e30⟩ : ∃ z, Rv h a0 6 = z := ⟨_, rfl⟩
  have t31 := ok_R O ta0 rE_11_6 e30
  obtain ⟨v32, e33⟩ : ∃ z, Rv h a0 7 = z := ⟨_, rfl⟩
  have t34 := ok_R O ta0 rE_11_7 e33
  have p46 := P_XInv
  unfold XInv at p46
  rw [e2, e6, e9, e13, e16, e20, P_stlp, e23, e27, e30, e33] at p46
  obtain ⟨p35, p36, p37, p38, p39, p40, p41, p42, p43, p44, p45⟩ := p46
  obtain ⟨v47, e48⟩ : ∃ z, Iv h v26 3 = z := ⟨_, rfl⟩
  have f49 := ok_I O t28 rI_7_3 e48
  obtain ⟨v50, e51⟩ : ∃ z, Iv h v26 4 = z := ⟨_, rfl⟩
  have f52 := ok_I O t28 rI_7_4 e51
  rw [e48] at p41
  rw [e51] at p42
  have p53 := p38 (by omega)
  refine hm_go (by decide +kernel) (Nat.le_of_ble_eq_true rfl) (fun p e s m below meth c C hr hn => ?_)
  refine g_iconst C dX11_countCertain_0 ?_
  refine g_istore_n C [(1, .inl 0), (0, .inr (.inr a0))] rfl (by decide) rfl dX11_countCertain_1 ?_
  refine g_iconst C dX11_countCertain_2 ?_
  refine g_istore_n C [(2, .inl 0), (1, .inl 0), (0, .inr (.inr a0))] rfl (by decide) rfl dX11_countCertain_3 ?_
  refine GW.sub [2, 1, 0] rfl ?_
  -- loop at 4
  have L57 : ∀ (μ : Nat) (x54 : Int) (x55 : Int) (h56 : Hp), (96 - x55).toNat = μ → Okh h56 → Fx [] h h56 → ((-2147483648 : Int) ≤ x54 ∧ x54 ≤ (2147483647 : Int)) → ((0 : Int) ≤ x55 ∧ x55 ≤ (96 : Int)) → GW p l e (rmm 4 98 0 0) s m (List.map toV [.inr (.inr a0)]).toArray below meth c D cy z0 3 (MQ below (QI D cy z0 (fun v h1 => Okh h1 ∧ Fx wr_k_X11_countCertain h h1 ∧ ((-2147483648) ≤ v ∧ v ≤ 2147483647))) (List.map toV [.inr (.inr a0)]).toArray s 0 0 (Aof z0)) 4 [(0, .inr (.inr a0)), (1, .inl x54), (2, .inl x55)] [] h56 0 0 := by
    intro μ
    induction μ using Nat.strongRecOn with
    | ind μ ih58 =>
      intro x54 x55 h56 hm59 O60 F61 f62 f63
      refine g_iload_n C rfl 2 rfl dX11_countCertain_4 ?_
      refine g_bipush C (by decide) dX11_countCertain_5 ?_
      refine g_icmp_ge C (iw f63 (by decide) (by decide)) (iw (il 96) (by decide) (by decide)) 37 (by decide) dX11_countCertain_7 (fun q64 => ?_) (fun q65 => ?_)
      · have f66 : (96 : Int) ≤ x55 ∧ x55 ≤ (96 : Int) := r_ge f63 (il 96) q64 (by decide) (by decide)
        refine g_iload_n C rfl 1 rfl dX11_countCertain_37 ?_
        exact g_iret C hr rfl f62 ⟨O60, ((Fx.rf (wr := wr_k_X11_countCertain)).call F61 rfl), f62⟩ (by decide) (by decide) dX11_countCertain_38
      · have f67 : (0 : Int) ≤ x55 ∧ x55 ≤ (95 : Int) := r_lt f63 (il 96) q65 (by decide) (by decide)
        refine g_iload_n C rfl 1 rfl dX11_countCertain_10 ?_
        refine g_aload_n C rfl 0 rfl dX11_countCertain_11 ?_
        refine g_iload_n C rfl 2 rfl dX11_countCertain_12 ?_
        refine g_iconst C dX11_countCertain_13 ?_
        have e68 : Tg h56 a0 = 11 := (fxT F61 ta0)
        have e69 : Iv h56 a0 15 = 1 := ((fxI F61 ta0 rfl).trans P_stlp)
        have p70 := (XInv_fx O F61 ta0 rfl P_XInv)
        refine g_callI (st := [.inl x54]) (gc_V C lk_LandSurvey_256 (k_X11_mayLieByAll l D cy w z0 O60 e68 f67 (iw (il 0) (by decide) (by decide)) e69 p70) e68 rfl rfl rfl ⟨by decide, by decide⟩ (Nat.le_of_ble_eq_true rfl) dX11_countCertain_14 ⟨(by decide), (by decide)⟩) (fun r71 h72 f74 K73 => ?_)
        obtain ⟨O75, F76, f77⟩ := K73
        refine g_callI (st := [.inl x54]) (gc_S C lk_LandSurvey_445 (k_J6_bitCount_0f7a4 l D cy w z0 O75 f77) rfl ⟨by decide, by decide⟩ (Nat.le_of_ble_eq_true rfl) dX11_countCertain_17 ⟨(by decide), (by decide)⟩) (fun r78 h79 f81 K80 => ?_)
        obtain ⟨O82, F83, f84⟩ := K80
        refine g_iconst C dX11_countCertain_20 ?_
        refine g_icmp_ne C (iw f84 (by decide) (by decide)) (iw (il 1) (by decide) (by decide)) 28 (by decide) dX11_countCertain_21 (fun q85 => ?_) (fun q86 => ?_)
        · refine g_iconst C dX11_countCertain_28 ?_
          have f87 : (-2147483648 : Int) ≤ (x54 + 0) ∧ (x54 + 0) ≤ (2147483647 : Int) := ia_add f62 (il 0) (by decide) (by decide)
          refine g_iadd C dX11_countCertain_29 ?_
          refine g_istore_n C [(1, .inl (x54 + 0)), (0, .inr (.inr a0)), (2, .inl x55)] rfl (by decide) rfl dX11_countCertain_30 ?_
          have f88 : (1 : Int) ≤ (x55 + 1) ∧ (x55 + 1) ≤ (96 : Int) := ia_add f67 (il 1) (by decide) (by decide)
          refine g_iinc C [(2, .inl (x55 + 1)), (1, .inl (x54 + 0)), (0, .inr (.inr a0))] 2 rfl (by decide) rfl dX11_countCertain_31 ?_
          refine g_goto C 4 (by decide) dX11_countCertain_34 ?_
          refine GW.sub [2, 1, 0] rfl ?_
          exact ih58 _ (by omega) (x54 + 0) (x55 + 1) h79 rfl O82 ((F61.call F76 rfl).call F83 rfl) f87 (iw f88 (by decide) (by decide))
        · have f89 : (1 : Int) ≤ r78 ∧ r78 ≤ (1 : Int) := ii f84 (r_eq (il 1) q86) (by decide) (by decide)
          refine g_iconst C dX11_countCertain_24 ?_
          refine g_goto C 29 (by decide) dX11_countCertain_25 ?_
          have f90 : (-2147483648 : Int) ≤ (w32 (x54 + 1)) ∧ (w32 (x54 + 1)) ≤ (2147483647 : Int) := w32_inR _
          refine g_iaddW C dX11_countCertain_29 ?_
          refine g_istore_n C [(1, .inl (w32 (x54 + 1))), (0, .inr (.inr a0)), (2, .inl x55)] rfl (by decide) rfl dX11_countCertain_30 ?_
          have f91 : (1 : Int) ≤ (x55 + 1) ∧ (x55 + 1) ≤ (96 : Int) := ia_add f67 (il 1) (by decide) (by decide)
          refine g_iinc C [(2, .inl (x55 + 1)), (1, .inl (w32 (x54 + 1))), (0, .inr (.inr a0))] 2 rfl (by decide) rfl dX11_countCertain_31 ?_
          refine g_goto C 4 (by decide) dX11_countCertain_34 ?_
          refine GW.sub [2, 1, 0] rfl ?_
          exact ih58 _ (by omega) (w32 (x54 + 1)) (x55 + 1) h79 rfl O82 ((F61.call F76 rfl).call F83 rfl) f90 (iw f91 (by decide) (by decide))
  exact L57 _ 0 0 h rfl O Fx.rf (iw (il 0) (by decide) (by decide)) (iw (il 0) (by decide) (by decide))
def wr_k_X11_gatherLineFacts : List Nat := [10020000]
set_option maxRecDepth 100000 in
set_option maxHeartbeats 4000000 in
theorem k_X11_gatherLineFacts (l : Launch) (D : va_G) (cy : Nat → ClassId) (w : Nat → Nat) (z0 : Nat)  {h : Hp} {a0 : Nat} {a1 : Int} {a2 : Int}  (O : Okh h) (ta0 : Tg h a0 = 11) (fa1 : 0 ≤ a1 ∧ a1 ≤ 95) (fa2 : 0 ≤ a2 ∧ a2 ≤ 95) (P_stlp : Iv h a0 15 = 1) (P_XInv : XInv h a0) : MV l D cy w z0 yX11_gatherLineFacts cX11_gatherLineFacts 11 none 3 74 0 0 [.inr (.inr a0), .inl a1, .inl a2] h (fun h1 => Okh h1 ∧ Fx wr_k_X11_gatherLineFacts h h1) := by
  obtain ⟨v1, e2⟩ : ∃ z, Rv h a0 3 = z := ⟨_, rfl⟩
  have t3 := ok_R O ta0 rE_11_3 e2
  have l4 := ok_L O ta0 rE_11_3 e2
  obtain ⟨v5, e6⟩ : ∃ z, Iv h a0 4 = z := ⟨_, rfl⟩
  have f7 := ok_I O ta0 rI_11_4 e6
  obtain ⟨v8, e9⟩ : ∃ z, Rv h a0 8 = z := ⟨_, rfl⟩
  have t10 := ok_R O ta0 rE_11_8 e9
  have l11 := ok_L O ta0 rE_11_8 e9
  obtain ⟨v12, e13⟩ : ∃ z, Iv h a0 9 = z := ⟨_, rfl⟩
  have f14 := ok_I O ta0 rI_11_9 e13
  obtain ⟨v15, e16⟩ : ∃ z, Rv h a0 11 = z := ⟨_, rfl⟩
  have t17 := ok_R O ta0 rE_11_11 e16
  have l18 := ok_L O ta0 rE_11_11 e16
  obtain ⟨v19, e20⟩ : ∃ z, Iv h a0 12 = z := ⟨_, rfl⟩
  have f21 := ok_I O ta0 rI_11_12 e20
  obtain ⟨v22, e23⟩ : ∃ z, Rv h a0 14 = z := ⟨_, rfl⟩
  have t24 := ok_R O ta0 rE_11_14 e23
  have l25 := ok_L O ta0 rE_11_14 e23
  obtain ⟨v26, e27⟩ : ∃ z, Rv h a0 13 = z := ⟨_, rfl⟩
  have t28 := ok_R O ta0 rE_11_13 e27
  obtain ⟨v29, e30⟩ : ∃ z, Rv h a0 6 = z := ⟨_, rfl⟩
  have t31 := ok_R O ta0 rE_11_6 e30
  obtain ⟨v32, e33⟩ : ∃ z, Rv h a0 7 = z := ⟨_, rfl⟩
  have t34 := ok_R O ta0 rE_11_7 e33
  have p46 := P_XInv
  unfold XInv at p46
  rw [e2, e6, e9, e13, e16, e20, P_stlp, e23, e27, e30, e33] at p46
  obtain ⟨p35, p36, p37, p38, p39, p40, p41, p42, p43, p44, p45⟩ := p46
  obtain ⟨v47, e48⟩ : ∃ z, Iv h v26 3 = z := ⟨_, rfl⟩
  have f49 := ok_I O t28 rI_7_3 e48
  obtain ⟨v50, e51⟩ : ∃ z, Iv h v26 4 = z := ⟨_, rfl⟩
  have f52 := ok_I O t28 rI_7_4 e51
  rw [e48] at p41
  rw [e51] at p42
  have p53 := p38 (by omega)
  refine hm_go (by decide +kernel) (Nat.le_of_ble_eq_true rfl) (fun p e s m below meth c C hr hn => ?_)
  refine g_iconst C dX11_gatherLineFacts_0 ?_
  refine g_istore_n C [(3, .inl 0), (0, .inr (.inr a0)), (1, .inl a1), (2, .inl a2)] rfl (by decide) rfl dX11_gatherLineFacts_1 ?_
  refine g_iconst C dX11_gatherLineFacts_2 ?_
  refine g_istore C [(4, .inl 0), (3, .inl 0), (0, .inr (.inr a0)), (1, .inl a1), (2, .inl a2)] (by decide) rfl dX11_gatherLineFacts_3 ?_
  refine g_iconst C dX11_gatherLineFacts_5 ?_
  refine g_istore C [(5, .inl 0), (4, .inl 0), (3, .inl 0), (0, .inr (.inr a0)), (1, .inl a1), (2, .inl a2)] (by decide) rfl dX11_gatherLineFacts_6 ?_
  refine g_iconst C dX11_gatherLineFacts_8 ?_
  refine g_istore C [(6, .inl 0), (5, .inl 0), (4, .inl 0), (3, .inl 0), (0, .inr (.inr a0)), (1, .inl a1), (2, .inl a2)] (by decide) rfl dX11_gatherLineFacts_9 ?_
  refine g_iconst C dX11_gatherLineFacts_11 ?_
  refine g_istore C [(7, .inl 0), (6, .inl 0), (5, .inl 0), (4, .inl 0), (3, .inl 0), (0, .inr (.inr a0)), (1, .inl a1), (2, .inl a2)] (by decide) rfl dX11_gatherLineFacts_12 ?_
  refine GW.sub [5, 6, 7, 4, 3, 2, 1, 0] rfl ?_
  -- loop at 14
  have L60 : ∀ (μ : Nat) (x54 : Int) (x55 : Int) (x56 : Int) (x57 : Int) (x58 : Int) (h59 : Hp), (16 - x58).toNat = μ → Okh h59 → Fx [] h h59 → ((-2147483648 : Int) ≤ x54 ∧ x54 ≤ (2147483647 : Int)) → ((-2147483648 : Int) ≤ x55 ∧ x55 ≤ (2147483647 : Int)) → ((-2147483648 : Int) ≤ x56 ∧ x56 ≤ (2147483647 : Int)) → ((-2147483648 : Int) ≤ x57 ∧ x57 ≤ (2147483647 : Int)) → ((0 : Int) ≤ x58 ∧ x58 ≤ (16 : Int)) → GW p l e (rmm 3 74 0 0) s m (List.map toV [.inr (.inr a0), .inl a1, .inl a2]).toArray below meth c D cy z0 11 (MQ below (QV D cy z0 (fun h1 => Okh h1 ∧ Fx wr_k_X11_gatherLineFacts h h1)) (List.map toV [.inr (.inr a0), .inl a1, .inl a2]).toArray s 0 0 (Aof z0)) 14 [(0, .inr (.inr a0)), (1, .inl a1), (2, .inl a2), (3, .inl x54), (4, .inl x55), (5, .inl x56), (6, .inl x57), (7, .inl x58)] [] h59 0 0 := by
    intro μ
    induction μ using Nat.strongRecOn with
    | ind μ ih61 =>
      intro x54 x55 x56 x57 x58 h59 hm62 O63 F64 f65 f66 f67 f68 f69
      refine g_iload C 7 rfl dX11_gatherLineFacts_14 ?_
      refine g_iconst C dX11_gatherLineFacts_16 ?_
      refine g_aload_n C rfl 0 rfl dX11_gatherLineFacts_17 ?_
      have e70 : Tg h59 a0 = 11 := (fxT F64 ta0)
      have e71 : Iv h59 a0 9 = v12 := ((fxI F64 ta0 rfl).trans e13)
      refine gf_I C fk_LandSurvey_157 rfl e70 e71 dX11_gatherLineFacts_18 ?_
      refine g_ishl C dX11_gatherLineFacts_21 ?_
      have f72 : (1 : Int) ≤ (bShl 1 v12) ∧ (bShl 1 v12) ≤ (16 : Int) := bShl_4 f14
      refine g_icmp_ge C (iw f69 (by decide) (by decide)) (iw f72 (by decide) (by decide)) 160 (by decide) dX11_gatherLineFacts_22 (fun q73 => ?_) (fun q74 => ?_)
      · have f75 : (1 : Int) ≤ x58 ∧ x58 ≤ (16 : Int) := r_ge f69 f72 q73 (by decide) (by decide)
        refine g_aload_n C rfl 0 rfl dX11_gatherLineFacts_160 ?_
        obtain ⟨v76, e77⟩ : ∃ z, Rv h59 a0 18 = z := ⟨_, rfl⟩
        have t78 := ok_R O63 e70 rE_11_18 e77
        have l79 := ok_L O63 e70 rE_11_18 e77
        refine gf_R C fk_LandSurvey_74 rfl e70 e77 dX11_gatherLineFacts_161 ?_
        refine g_iconst C dX11_gatherLineFacts_164 ?_
        refine g_callV (st := []) (gc_S C lk_LandSurvey_399 (k_fill_50100 l D cy w z0 O63 t78 l79 (iw (il 0) (by decide) (by decide))) rfl ⟨by decide, by decide⟩ (Nat.le_of_ble_eq_true rfl) dX11_gatherLineFacts_165 ⟨(by decide), (by decide)⟩) (fun h81 K82 => ?_)
        obtain ⟨O84, F85⟩ := K82
        refine g_iload_n C rfl 3 rfl dX11_gatherLineFacts_168 ?_
        refine g_if_le C f65 225 (by decide) dX11_gatherLineFacts_169 (fun q86 => ?_) (fun q87 => ?_)
        · have f88 : (-2147483648 : Int) ≤ x54 ∧ x54 ≤ (0 : Int) := r_le f65 (il 0) q86 (by decide) (by decide)
          exact g_vret C hr ⟨O84, (((Fx.rf (wr := wr_k_X11_gatherLineFacts)).call F64 rfl).call F85 rfl)⟩ (by decide) (by decide) dX11_gatherLineFacts_225
        · have f89 : (1 : Int) ≤ x54 ∧ x54 ≤ (2147483647 : Int) := r_gt f65 (il 0) q87 (by decide) (by decide)
          refine g_aload_n C rfl 0 rfl dX11_gatherLineFacts_172 ?_
          have e90 : Tg h81 a0 = 11 := (fxT F85 e70)
          have e91 : Rv h81 a0 18 = v76 := ((fxR F85 e70 rfl).trans e77)
          refine gf_R C fk_LandSurvey_74 rfl e90 e91 dX11_gatherLineFacts_173 ?_
          refine g_bipush C (by decide) dX11_gatherLineFacts_176 ?_
          refine g_sipush C (by decide) dX11_gatherLineFacts_178 ?_
          refine g_iload C 4 rfl dX11_gatherLineFacts_181 ?_
          have f92 : (-2147483648 : Int) ≤ (w32 (1000 * x55)) ∧ (w32 (1000 * x55)) ≤ (2147483647 : Int) := w32_inR _
          refine g_imulW C dX11_gatherLineFacts_183 ?_
          refine g_iload_n C rfl 3 rfl dX11_gatherLineFacts_184 ?_
          refine g_idiv C (iw f89 (by decide) (by decide)) (iv_pos f89 (by decide)) dX11_gatherLineFacts_185 ?_
          have f93 : (-2147483648 : Int) ≤ (iD (w32 (1000 * x55)) x54) ∧ (iD (w32 (1000 * x55)) x54) ≤ (2147483647 : Int) := inR_of _
          have e94 : Tg h81 v76 = 50100 := (fxT F85 t78)
          have e95 : Ln h81 v76 = 12 := ((fxL F85 t78).trans l79)
          refine g_iast C e94 rfl e95 (ix (il 8) (by decide) (by decide)) f93 dX11_gatherLineFacts_186 (fun h97 hh96 => ?_)
          have O98 := O84.pIa e94 ar_50100 hh96 rI_50100_0 f93 nofun
          refine g_aload_n C rfl 0 rfl dX11_gatherLineFacts_187 ?_
          have e99 : Tg h97 a0 = 11 := ((pIT hh96).trans e90)
          have e100 : Rv h97 a0 18 = v76 := ((pIR hh96).trans e91)
          refine gf_R C fk_LandSurvey_74 rfl e99 e100 dX11_gatherLineFacts_188 ?_
          refine g_bipush C (by decide) dX11_gatherLineFacts_191 ?_
          refine g_sipush C (by decide) dX11_gatherLineFacts_193 ?_
          refine g_iload C 5 rfl dX11_gatherLineFacts_196 ?_
          have f101 : (-2147483648 : Int) ≤ (w32 (1000 * x56)) ∧ (w32 (1000 * x56)) ≤ (2147483647 : Int) := w32_inR _
          refine g_imulW C dX11_gatherLineFacts_198 ?_
          refine g_iload_n C rfl 3 rfl dX11_gatherLineFacts_199 ?_
          refine g_idiv C (iw f89 (by decide) (by decide)) (iv_pos f89 (by decide)) dX11_gatherLineFacts_200 ?_
          have f102 : (-2147483648 : Int) ≤ (iD (w32 (1000 * x56)) x54) ∧ (iD (w32 (1000 * x56)) x54) ≤ (2147483647 : Int) := inR_of _
          have e103 : Tg h97 v76 = 50100 := ((pIT hh96).trans e94)
          have e104 : Ln h97 v76 = 12 := ((pIL hh96).trans e95)
          refine g_iast C e103 rfl e104 (ix (il 9) (by decide) (by decide)) f102 dX11_gatherLineFacts_201 (fun h106 hh105 => ?_)
          have O107 := O98.pIa e103 ar_50100 hh105 rI_50100_0 f102 nofun
          refine g_aload_n C rfl 0 rfl dX11_gatherLineFacts_202 ?_
          have e108 : Tg h106 a0 = 11 := ((pIT hh105).trans e99)
          have e109 : Rv h106 a0 18 = v76 := ((pIR hh105).trans e100)
          refine gf_R C fk_LandSurvey_74 rfl e108 e109 dX11_gatherLineFacts_203 ?_
          refine g_bipush C (by decide) dX11_gatherLineFacts_206 ?_
          refine g_sipush C (by decide) dX11_gatherLineFacts_208 ?_
          refine g_iload C 6 rfl dX11_gatherLineFacts_211 ?_
          have f110 : (-2147483648 : Int) ≤ (w32 (1000 * x57)) ∧ (w32 (1000 * x57)) ≤ (2147483647 : Int) := w32_inR _
          refine g_imulW C dX11_gatherLineFacts_213 ?_
          refine g_iload_n C rfl 3 rfl dX11_gatherLineFacts_214 ?_
          refine g_idiv C (iw f89 (by decide) (by decide)) (iv_pos f89 (by decide)) dX11_gatherLineFacts_215 ?_
          have f111 : (-2147483648 : Int) ≤ (iD (w32 (1000 * x57)) x54) ∧ (iD (w32 (1000 * x57)) x54) ≤ (2147483647 : Int) := inR_of _
          have e112 : Tg h106 v76 = 50100 := ((pIT hh105).trans e103)
          have e113 : Ln h106 v76 = 12 := ((pIL hh105).trans e104)
          refine g_iast C e112 rfl e113 (ix (il 10) (by decide) (by decide)) f111 dX11_gatherLineFacts_216 (fun h115 hh114 => ?_)
          have O116 := O107.pIa e112 ar_50100 hh114 rI_50100_0 f111 nofun
          refine g_aload_n C rfl 0 rfl dX11_gatherLineFacts_217 ?_
          have e117 : Tg h115 a0 = 11 := ((pIT hh114).trans e108)
          have e118 : Rv h115 a0 18 = v76 := ((pIR hh114).trans e109)
          refine gf_R C fk_LandSurvey_74 rfl e117 e118 dX11_gatherLineFacts_218 ?_
          refine g_bipush C (by decide) dX11_gatherLineFacts_221 ?_
          refine g_iload_n C rfl 3 rfl dX11_gatherLineFacts_223 ?_
          have e119 : Tg h115 v76 = 50100 := ((pIT hh114).trans e112)
          have e120 : Ln h115 v76 = 12 := ((pIL hh114).trans e113)
          refine g_iast C e119 rfl e120 (ix (il 11) (by decide) (by decide)) (iw f89 (by decide) (by decide)) dX11_gatherLineFacts_224 (fun h122 hh121 => ?_)
          have O123 := O116.pIa e119 ar_50100 hh121 rI_50100_0 (iw f89 (by decide) (by decide)) nofun
          exact g_vret C hr ⟨O123, (((((((Fx.rf (wr := wr_k_X11_gatherLineFacts)).call F64 rfl).call F85 rfl).pIa e94 ar_50100 hh96 rfl).pIa e103 ar_50100 hh105 rfl).pIa e112 ar_50100 hh114 rfl).pIa e119 ar_50100 hh121 rfl)⟩ (by decide) (by decide) dX11_gatherLineFacts_225
      · have f124 : (0 : Int) ≤ x58 ∧ x58 ≤ (15 : Int) := r_lt f69 f72 q74 (by decide) (by decide)
        refine g_aload_n C rfl 0 rfl dX11_gatherLineFacts_25 ?_
        refine g_iload C 7 rfl dX11_gatherLineFacts_26 ?_
        have e125 : Iv h59 a0 15 = 1 := ((fxI F64 ta0 rfl).trans P_stlp)
        have p126 := (XInv_fx O F64 ta0 rfl P_XInv)
        refine g_callI (st := []) (gc_V C lk_LandSurvey_234 (k_X11_isKept l D cy w z0 O63 e70 f124 e125 p126 (by rw [e71]; omega)) e70 rfl rfl rfl ⟨by decide, by decide⟩ (Nat.le_of_ble_eq_true rfl) dX11_gatherLineFacts_28 ⟨(by decide), (by decide)⟩) (fun r127 h128 f130 K129 => ?_)
        obtain ⟨O131, F132, f133⟩ := K129
        refine g_if_eq C (iw f133 (by decide) (by decide)) 154 (by decide) dX11_gatherLineFacts_31 (fun q134 => ?_) (fun q135 => ?_)
        · have f136 : (0 : Int) ≤ r127 ∧ r127 ≤ (0 : Int) := ii f133 (r_eq (il 0) q134) (by decide) (by decide)
          have f137 : (1 : Int) ≤ (x58 + 1) ∧ (x58 + 1) ≤ (16 : Int) := ia_add f124 (il 1) (by decide) (by decide)
          refine g_iinc C [(7, .inl (x58 + 1)), (0, .inr (.inr a0)), (1, .inl a1), (2, .inl a2), (3, .inl x54), (4, .inl x55), (5, .inl x56), (6, .inl x57)] 7 rfl (by decide) rfl dX11_gatherLineFacts_154 ?_
          refine g_goto C 14 (by decide) dX11_gatherLineFacts_157 ?_
          refine GW.sub [1, 2, 3, 4, 5, 6, 7, 0] rfl ?_
          exact ih61 _ (by omega) x54 x55 x56 x57 (x58 + 1) h128 rfl O131 (F64.call F132 rfl) f65 f66 f67 f68 (iw f137 (by decide) (by decide))
        · have f138 : (1 : Int) ≤ r127 ∧ r127 ≤ (1 : Int) := r_nl f133 q135
          refine g_aload_n C rfl 0 rfl dX11_gatherLineFacts_34 ?_
          refine g_aload_n C rfl 0 rfl dX11_gatherLineFacts_35 ?_
          have e139 : Tg h128 a0 = 11 := (fxT F132 e70)
          have e140 : Rv h128 a0 14 = v22 := ((fxR F132 e70 rfl).trans ((fxR F64 ta0 rfl).trans e23))
          refine gf_R C fk_LandSurvey_70 rfl e139 e140 dX11_gatherLineFacts_36 ?_
          refine g_iload C 7 rfl dX11_gatherLineFacts_39 ?_
          have e141 : Tg h128 v22 = 49107 := (fxT F132 (fxT F64 t24))
          have e142 : Tg h59 v22 = 49107 := (fxT F64 t24)
          have e143 : Ln h128 v22 = 16 := ((fxL F132 e142).trans ((fxL F64 t24).trans l25))
          obtain ⟨v144, e145⟩ : ∃ z, Rv h128 v22 x58.toNat = z := ⟨_, rfl⟩
          refine g_aald (t := 7) C e141 rfl (by decide) rfl e143 (ix f124 (by decide) (by decide)) e145 dX11_gatherLineFacts_41 ?_
          have p146 := (NN_fx F132 e142 ar_49107 rfl (NN_fx F64 t24 ar_49107 rfl p53))
          have q147 := nn_get p146 (by omega) e145
          have t148 := ok_Na O131 e141 ar_49107 rE_49107_0 e145 q147
          refine g_iload_n C rfl 1 rfl dX11_gatherLineFacts_42 ?_
          refine g_iconst C dX11_gatherLineFacts_43 ?_
          refine g_callI (st := []) (gc_V C lk_LandSurvey_441 (k_X11_mayLie l D cy w z0 O131 e139 t148 fa1 (iw (il 0) (by decide) (by decide))) e139 rfl rfl rfl ⟨by decide, by decide⟩ (Nat.le_of_ble_eq_true rfl) dX11_gatherLineFacts_44 ⟨(by decide), (by decide)⟩) (fun r149 h150 f152 K151 => ?_)
          obtain ⟨O153, F154, f155⟩ := K151
          refine g_istore C [(8, .inl r149), (0, .inr (.inr a0)), (1, .inl a1), (2, .inl a2), (3, .inl x54), (4, .inl x55), (5, .inl x56), (6, .inl x57), (7, .inl x58)] (by decide) rfl dX11_gatherLineFacts_47 ?_
          refine g_aload_n C rfl 1 rfl dX11_gatherLineFacts_49 ?_
          refine g_aload_n C rfl 1 rfl dX11_gatherLineFacts_50 ?_
          have e156 : Tg h150 a0 = 11 := (fxT F154 e139)
          have e157 : Rv h150 a0 14 = v22 := ((fxR F154 e139 rfl).trans e140)
          refine gf_R C fk_LandSurvey_70 rfl e156 e157 dX11_gatherLineFacts_51 ?_
          refine g_iload C 8 rfl dX11_gatherLineFacts_54 ?_
          have e158 : Tg h150 v22 = 49107 := (fxT F154 e141)
          have e159 : Ln h150 v22 = 16 := ((fxL F154 e141).trans e143)
          have e160 : Rv h150 v22 x58.toNat = v144 := ((fxRa F154 e141 ar_49107 rfl).trans e145)
          refine g_aald (t := 7) C e158 rfl (by decide) rfl e159 (ix f124 (by decide) (by decide)) e160 dX11_gatherLineFacts_56 ?_
          have e161 : Tg h150 v144 = 2 := (fxT F154 t148)
          refine g_iload_n C rfl 3 rfl dX11_gatherLineFacts_57 ?_
          refine g_iconst C dX11_gatherLineFacts_58 ?_
          refine g_callI (st := []) (gc_V C lk_LandSurvey_441 (k_X11_mayLie l D cy w z0 O153 e156 e161 fa2 (iw (il 0) (by decide) (by decide))) e156 rfl rfl rfl ⟨by decide, by decide⟩ (Nat.le_of_ble_eq_true rfl) dX11_gatherLineFacts_59 ⟨(by decide), (by decide)⟩) (fun r162 h163 f165 K164 => ?_)
          obtain ⟨O166, F167, f168⟩ := K164
          refine g_istore C [(9, .inl r162), (8, .inl r149), (0, .inr (.inr a0)), (1, .inl a1), (2, .inl a2), (3, .inl x54), (4, .inl x55), (5, .inl x56), (6, .inl x57), (7, .inl x58)] (by decide) rfl dX11_gatherLineFacts_62 ?_
          refine g_iload C 1 rfl dX11_gatherLineFacts_64 ?_
          refine g_callI (st := []) (gc_S C lk_LandSurvey_445 (k_J6_bitCount_0f7a4 l D cy w z0 O166 f155) rfl ⟨by decide, by decide⟩ (Nat.le_of_ble_eq_true rfl) dX11_gatherLineFacts_66 ⟨(by decide), (by decide)⟩) (fun r169 h170 f172 K171 => ?_)
          obtain ⟨O173, F174, f175⟩ := K171
          refine g_iconst C dX11_gatherLineFacts_69 ?_
          refine g_icmp_ne C (iw f175 (by decide) (by decide)) (iw (il 1) (by decide) (by decide)) 86 (by decide) dX11_gatherLineFacts_70 (fun q176 => ?_) (fun q177 => ?_)
          · refine g_iconst C dX11_gatherLineFacts_86 ?_
            refine g_istore C [(10, .inl 0), (9, .inl r162), (8, .inl r149), (0, .inr (.inr a0)), (1, .inl a1), (2, .inl a2), (3, .inl x54), (4, .inl x55), (5, .inl x56), (6, .inl x57), (7, .inl x58)] (by decide) rfl dX11_gatherLineFacts_87 ?_
            have f178 : (-2147483648 : Int) ≤ (w32 (x54 + 1)) ∧ (w32 (x54 + 1)) ≤ (2147483647 : Int) := w32_inR _
            refine g_iincW C [(3, .inl (w32 (x54 + 1))), (10, .inl 0), (9, .inl r162), (8, .inl r149), (0, .inr (.inr a0)), (1, .inl a1), (2, .inl a2), (4, .inl x55), (5, .inl x56), (6, .inl x57), (7, .inl x58)] 6 rfl (by decide) rfl dX11_gatherLineFacts_89 ?_
            refine g_iload C 7 rfl dX11_gatherLineFacts_92 ?_
            refine g_iload C 1 rfl dX11_gatherLineFacts_94 ?_
            refine g_if_eq C (iw (il 0) (by decide) (by decide)) 110 (by decide) dX11_gatherLineFacts_96 (fun q179 => ?_) (fun q180 => ?_)
            · refine g_iconst C dX11_gatherLineFacts_110 ?_
              have f181 : (-2147483648 : Int) ≤ (x55 + 0) ∧ (x55 + 0) ≤ (2147483647 : Int) := ia_add f66 (il 0) (by decide) (by decide)
              refine g_iadd C dX11_gatherLineFacts_111 ?_
              refine g_istore C [(4, .inl (x55 + 0)), (3, .inl (w32 (x54 + 1))), (10, .inl 0), (9, .inl r162), (8, .inl r149), (0, .inr (.inr a0)), (1, .inl a1), (2, .inl a2), (5, .inl x56), (6, .inl x57), (7, .inl x58)] (by decide) rfl dX11_gatherLineFacts_112 ?_
              refine g_iload C 8 rfl dX11_gatherLineFacts_114 ?_
              refine g_iload C 4 rfl dX11_gatherLineFacts_116 ?_
              refine g_iload C 3 rfl dX11_gatherLineFacts_118 ?_
              refine g_iand C dX11_gatherLineFacts_120 ?_
              have f182 : (-2147483648 : Int) ≤ (bAnd r149 r162) ∧ (bAnd r149 r162) ≤ (2147483647 : Int) := inR_of _
              refine g_if_ne C f182 128 (by decide) dX11_gatherLineFacts_121 (fun q183 => ?_) (fun q184 => ?_)
              · refine g_iconst C dX11_gatherLineFacts_128 ?_
                have f185 : (-2147483648 : Int) ≤ (x56 + 0) ∧ (x56 + 0) ≤ (2147483647 : Int) := ia_add f67 (il 0) (by decide) (by decide)
                refine g_iadd C dX11_gatherLineFacts_129 ?_
                refine g_istore C [(5, .inl (x56 + 0)), (4, .inl (x55 + 0)), (3, .inl (w32 (x54 + 1))), (10, .inl 0), (9, .inl r162), (8, .inl r149), (0, .inr (.inr a0)), (1, .inl a1), (2, .inl a2), (6, .inl x57), (7, .inl x58)] (by decide) rfl dX11_gatherLineFacts_130 ?_
                refine g_iload C 9 rfl dX11_gatherLineFacts_132 ?_
                refine g_iload C 3 rfl dX11_gatherLineFacts_134 ?_
                refine g_if_eq C (iw (il 0) (by decide) (by decide)) 150 (by decide) dX11_gatherLineFacts_136 (fun q186 => ?_) (fun q187 => ?_)
                · refine g_iconst C dX11_gatherLineFacts_150 ?_
                  have f188 : (-2147483648 : Int) ≤ (x57 + 0) ∧ (x57 + 0) ≤ (2147483647 : Int) := ia_add f68 (il 0) (by decide) (by decide)
                  refine g_iadd C dX11_gatherLineFacts_151 ?_
                  refine g_istore C [(6, .inl (x57 + 0)), (5, .inl (x56 + 0)), (4, .inl (x55 + 0)), (3, .inl (w32 (x54 + 1))), (10, .inl 0), (9, .inl r162), (8, .inl r149), (0, .inr (.inr a0)), (1, .inl a1), (2, .inl a2), (7, .inl x58)] (by decide) rfl dX11_gatherLineFacts_152 ?_
                  have f189 : (1 : Int) ≤ (x58 + 1) ∧ (x58 + 1) ≤ (16 : Int) := ia_add f124 (il 1) (by decide) (by decide)
                  refine g_iinc C [(7, .inl (x58 + 1)), (6, .inl (x57 + 0)), (5, .inl (x56 + 0)), (4, .inl (x55 + 0)), (3, .inl (w32 (x54 + 1))), (10, .inl 0), (9, .inl r162), (8, .inl r149), (0, .inr (.inr a0)), (1, .inl a1), (2, .inl a2)] 10 rfl (by decide) rfl dX11_gatherLineFacts_154 ?_
                  refine g_goto C 14 (by decide) dX11_gatherLineFacts_157 ?_
                  refine GW.sub [8, 9, 10, 4, 3, 2, 1, 0] rfl ?_
                  exact ih61 _ (by omega) (w32 (x54 + 1)) (x55 + 0) (x56 + 0) (x57 + 0) (x58 + 1) h170 rfl O173 ((((F64.call F132 rfl).call F154 rfl).call F167 rfl).call F174 rfl) f178 f181 f185 f188 (iw f189 (by decide) (by decide))
                · exact (no_ne (il 0) (il 0) q187 (by decide)).elim
              · have f190 : (0 : Int) ≤ (bAnd r149 r162) ∧ (bAnd r149 r162) ≤ (0 : Int) := ii f182 (r_eq (il 0) q184) (by decide) (by decide)
                refine g_iconst C dX11_gatherLineFacts_124 ?_
                refine g_goto C 129 (by decide) dX11_gatherLineFacts_125 ?_
                have f191 : (-2147483648 : Int) ≤ (w32 (x56 + 1)) ∧ (w32 (x56 + 1)) ≤ (2147483647 : Int) := w32_inR _
                refine g_iaddW C dX11_gatherLineFacts_129 ?_
                refine g_istore C [(5, .inl (w32 (x56 + 1))), (4, .inl (x55 + 0)), (3, .inl (w32 (x54 + 1))), (10, .inl 0), (9, .inl r162), (8, .inl r149), (0, .inr (.inr a0)), (1, .inl a1), (2, .inl a2), (6, .inl x57), (7, .inl x58)] (by decide) rfl dX11_gatherLineFacts_130 ?_
                refine g_iload C 9 rfl dX11_gatherLineFacts_132 ?_
                refine g_iload C 3 rfl dX11_gatherLineFacts_134 ?_
                refine g_if_eq C (iw (il 0) (by decide) (by decide)) 150 (by decide) dX11_gatherLineFacts_136 (fun q192 => ?_) (fun q193 => ?_)
                · refine g_iconst C dX11_gatherLineFacts_150 ?_
                  have f194 : (-2147483648 : Int) ≤ (x57 + 0) ∧ (x57 + 0) ≤ (2147483647 : Int) := ia_add f68 (il 0) (by decide) (by decide)
                  refine g_iadd C dX11_gatherLineFacts_151 ?_
                  refine g_istore C [(6, .inl (x57 + 0)), (5, .inl (w32 (x56 + 1))), (4, .inl (x55 + 0)), (3, .inl (w32 (x54 + 1))), (10, .inl 0), (9, .inl r162), (8, .inl r149), (0, .inr (.inr a0)), (1, .inl a1), (2, .inl a2), (7, .inl x58)] (by decide) rfl dX11_gatherLineFacts_152 ?_
                  have f195 : (1 : Int) ≤ (x58 + 1) ∧ (x58 + 1) ≤ (16 : Int) := ia_add f124 (il 1) (by decide) (by decide)
                  refine g_iinc C [(7, .inl (x58 + 1)), (6, .inl (x57 + 0)), (5, .inl (w32 (x56 + 1))), (4, .inl (x55 + 0)), (3, .inl (w32 (x54 + 1))), (10, .inl 0), (9, .inl r162), (8, .inl r149), (0, .inr (.inr a0)), (1, .inl a1), (2, .inl a2)] 10 rfl (by decide) rfl dX11_gatherLineFacts_154 ?_
                  refine g_goto C 14 (by decide) dX11_gatherLineFacts_157 ?_
                  refine GW.sub [8, 9, 10, 4, 3, 2, 1, 0] rfl ?_
                  exact ih61 _ (by omega) (w32 (x54 + 1)) (x55 + 0) (w32 (x56 + 1)) (x57 + 0) (x58 + 1) h170 rfl O173 ((((F64.call F132 rfl).call F154 rfl).call F167 rfl).call F174 rfl) f178 f181 f191 f194 (iw f195 (by decide) (by decide))
                · exact (no_ne (il 0) (il 0) q193 (by decide)).elim
            · exact (no_ne (il 0) (il 0) q180 (by decide)).elim
          · have f196 : (1 : Int) ≤ r169 ∧ r169 ≤ (1 : Int) := ii f175 (r_eq (il 1) q177) (by decide) (by decide)
            refine g_iload C 0 rfl dX11_gatherLineFacts_73 ?_
            refine g_callI (st := []) (gc_S C lk_LandSurvey_445 (k_J6_bitCount_0f7a4 l D cy w z0 O173 f168) rfl ⟨by decide, by decide⟩ (Nat.le_of_ble_eq_true rfl) dX11_gatherLineFacts_75 ⟨(by decide), (by decide)⟩) (fun r197 h198 f200 K199 => ?_)
            obtain ⟨O201, F202, f203⟩ := K199
            refine g_iconst C dX11_gatherLineFacts_78 ?_
            refine g_icmp_ne C (iw f203 (by decide) (by decide)) (iw (il 1) (by decide) (by decide)) 86 (by decide) dX11_gatherLineFacts_79 (fun q204 => ?_) (fun q205 => ?_)
            · refine g_iconst C dX11_gatherLineFacts_86 ?_
              refine g_istore C [(10, .inl 0), (9, .inl r162), (8, .inl r149), (0, .inr (.inr a0)), (1, .inl a1), (2, .inl a2), (3, .inl x54), (4, .inl x55), (5, .inl x56), (6, .inl x57), (7, .inl x58)] (by decide) rfl dX11_gatherLineFacts_87 ?_
              have f206 : (-2147483648 : Int) ≤ (w32 (x54 + 1)) ∧ (w32 (x54 + 1)) ≤ (2147483647 : Int) := w32_inR _
              refine g_iincW C [(3, .inl (w32 (x54 + 1))), (10, .inl 0), (9, .inl r162), (8, .inl r149), (0, .inr (.inr a0)), (1, .inl a1), (2, .inl a2), (4, .inl x55), (5, .inl x56), (6, .inl x57), (7, .inl x58)] 6 rfl (by decide) rfl dX11_gatherLineFacts_89 ?_
              refine g_iload C 7 rfl dX11_gatherLineFacts_92 ?_
              refine g_iload C 1 rfl dX11_gatherLineFacts_94 ?_
              refine g_if_eq C (iw (il 0) (by decide) (by decide)) 110 (by decide) dX11_gatherLineFacts_96 (fun q207 => ?_) (fun q208 => ?_)
              · refine g_iconst C dX11_gatherLineFacts_110 ?_
                have f209 : (-2147483648 : Int) ≤ (x55 + 0) ∧ (x55 + 0) ≤ (2147483647 : Int) := ia_add f66 (il 0) (by decide) (by decide)
                refine g_iadd C dX11_gatherLineFacts_111 ?_
                refine g_istore C [(4, .inl (x55 + 0)), (3, .inl (w32 (x54 + 1))), (10, .inl 0), (9, .inl r162), (8, .inl r149), (0, .inr (.inr a0)), (1, .inl a1), (2, .inl a2), (5, .inl x56), (6, .inl x57), (7, .inl x58)] (by decide) rfl dX11_gatherLineFacts_112 ?_
                refine g_iload C 8 rfl dX11_gatherLineFacts_114 ?_
                refine g_iload C 4 rfl dX11_gatherLineFacts_116 ?_
                refine g_iload C 3 rfl dX11_gatherLineFacts_118 ?_
                refine g_iand C dX11_gatherLineFacts_120 ?_
                have f210 : (-2147483648 : Int) ≤ (bAnd r149 r162) ∧ (bAnd r149 r162) ≤ (2147483647 : Int) := inR_of _
                refine g_if_ne C f210 128 (by decide) dX11_gatherLineFacts_121 (fun q211 => ?_) (fun q212 => ?_)
                · refine g_iconst C dX11_gatherLineFacts_128 ?_
                  have f213 : (-2147483648 : Int) ≤ (x56 + 0) ∧ (x56 + 0) ≤ (2147483647 : Int) := ia_add f67 (il 0) (by decide) (by decide)
                  refine g_iadd C dX11_gatherLineFacts_129 ?_
                  refine g_istore C [(5, .inl (x56 + 0)), (4, .inl (x55 + 0)), (3, .inl (w32 (x54 + 1))), (10, .inl 0), (9, .inl r162), (8, .inl r149), (0, .inr (.inr a0)), (1, .inl a1), (2, .inl a2), (6, .inl x57), (7, .inl x58)] (by decide) rfl dX11_gatherLineFacts_130 ?_
                  refine g_iload C 9 rfl dX11_gatherLineFacts_132 ?_
                  refine g_iload C 3 rfl dX11_gatherLineFacts_134 ?_
                  refine g_if_eq C (iw (il 0) (by decide) (by decide)) 150 (by decide) dX11_gatherLineFacts_136 (fun q214 => ?_) (fun q215 => ?_)
                  · refine g_iconst C dX11_gatherLineFacts_150 ?_
                    have f216 : (-2147483648 : Int) ≤ (x57 + 0) ∧ (x57 + 0) ≤ (2147483647 : Int) := ia_add f68 (il 0) (by decide) (by decide)
                    refine g_iadd C dX11_gatherLineFacts_151 ?_
                    refine g_istore C [(6, .inl (x57 + 0)), (5, .inl (x56 + 0)), (4, .inl (x55 + 0)), (3, .inl (w32 (x54 + 1))), (10, .inl 0), (9, .inl r162), (8, .inl r149), (0, .inr (.inr a0)), (1, .inl a1), (2, .inl a2), (7, .inl x58)] (by decide) rfl dX11_gatherLineFacts_152 ?_
                    have f217 : (1 : Int) ≤ (x58 + 1) ∧ (x58 + 1) ≤ (16 : Int) := ia_add f124 (il 1) (by decide) (by decide)
                    refine g_iinc C [(7, .inl (x58 + 1)), (6, .inl (x57 + 0)), (5, .inl (x56 + 0)), (4, .inl (x55 + 0)), (3, .inl (w32 (x54 + 1))), (10, .inl 0), (9, .inl r162), (8, .inl r149), (0, .inr (.inr a0)), (1, .inl a1), (2, .inl a2)] 10 rfl (by decide) rfl dX11_gatherLineFacts_154 ?_
                    refine g_goto C 14 (by decide) dX11_gatherLineFacts_157 ?_
                    refine GW.sub [8, 9, 10, 4, 3, 2, 1, 0] rfl ?_
                    exact ih61 _ (by omega) (w32 (x54 + 1)) (x55 + 0) (x56 + 0) (x57 + 0) (x58 + 1) h198 rfl O201 (((((F64.call F132 rfl).call F154 rfl).call F167 rfl).call F174 rfl).call F202 rfl) f206 f209 f213 f216 (iw f217 (by decide) (by decide))
                  · exact (no_ne (il 0) (il 0) q215 (by decide)).elim
                · have f218 : (0 : Int) ≤ (bAnd r149 r162) ∧ (bAnd r149 r162) ≤ (0 : Int) := ii f210 (r_eq (il 0) q212) (by decide) (by decide)
                  refine g_iconst C dX11_gatherLineFacts_124 ?_
                  refine g_goto C 129 (by decide) dX11_gatherLineFacts_125 ?_
                  have f219 : (-2147483648 : Int) ≤ (w32 (x56 + 1)) ∧ (w32 (x56 + 1)) ≤ (2147483647 : Int) := w32_inR _
                  refine g_iaddW C dX11_gatherLineFacts_129 ?_
                  refine g_istore C [(5, .inl (w32 (x56 + 1))), (4, .inl (x55 + 0)), (3, .inl (w32 (x54 + 1))), (10, .inl 0), (9, .inl r162), (8, .inl r149), (0, .inr (.inr a0)), (1, .inl a1), (2, .inl a2), (6, .inl x57), (7, .inl x58)] (by decide) rfl dX11_gatherLineFacts_130 ?_
                  refine g_iload C 9 rfl dX11_gatherLineFacts_132 ?_
                  refine g_iload C 3 rfl dX11_gatherLineFacts_134 ?_
                  refine g_if_eq C (iw (il 0) (by decide) (by decide)) 150 (by decide) dX11_gatherLineFacts_136 (fun q220 => ?_) (fun q221 => ?_)
                  · refine g_iconst C dX11_gatherLineFacts_150 ?_
                    have f222 : (-2147483648 : Int) ≤ (x57 + 0) ∧ (x57 + 0) ≤ (2147483647 : Int) := ia_add f68 (il 0) (by decide) (by decide)
                    refine g_iadd C dX11_gatherLineFacts_151 ?_
                    refine g_istore C [(6, .inl (x57 + 0)), (5, .inl (w32 (x56 + 1))), (4, .inl (x55 + 0)), (3, .inl (w32 (x54 + 1))), (10, .inl 0), (9, .inl r162), (8, .inl r149), (0, .inr (.inr a0)), (1, .inl a1), (2, .inl a2), (7, .inl x58)] (by decide) rfl dX11_gatherLineFacts_152 ?_
                    have f223 : (1 : Int) ≤ (x58 + 1) ∧ (x58 + 1) ≤ (16 : Int) := ia_add f124 (il 1) (by decide) (by decide)
                    refine g_iinc C [(7, .inl (x58 + 1)), (6, .inl (x57 + 0)), (5, .inl (w32 (x56 + 1))), (4, .inl (x55 + 0)), (3, .inl (w32 (x54 + 1))), (10, .inl 0), (9, .inl r162), (8, .inl r149), (0, .inr (.inr a0)), (1, .inl a1), (2, .inl a2)] 10 rfl (by decide) rfl dX11_gatherLineFacts_154 ?_
                    refine g_goto C 14 (by decide) dX11_gatherLineFacts_157 ?_
                    refine GW.sub [8, 9, 10, 4, 3, 2, 1, 0] rfl ?_
                    exact ih61 _ (by omega) (w32 (x54 + 1)) (x55 + 0) (w32 (x56 + 1)) (x57 + 0) (x58 + 1) h198 rfl O201 (((((F64.call F132 rfl).call F154 rfl).call F167 rfl).call F174 rfl).call F202 rfl) f206 f209 f219 f222 (iw f223 (by decide) (by decide))
                  · exact (no_ne (il 0) (il 0) q221 (by decide)).elim
              · exact (no_ne (il 0) (il 0) q208 (by decide)).elim
            · have f224 : (1 : Int) ≤ r197 ∧ r197 ≤ (1 : Int) := ii f203 (r_eq (il 1) q205) (by decide) (by decide)
              refine g_iconst C dX11_gatherLineFacts_82 ?_
              refine g_goto C 87 (by decide) dX11_gatherLineFacts_83 ?_
              refine g_istore C [(10, .inl 1), (9, .inl r162), (8, .inl r149), (0, .inr (.inr a0)), (1, .inl a1), (2, .inl a2), (3, .inl x54), (4, .inl x55), (5, .inl x56), (6, .inl x57), (7, .inl x58)] (by decide) rfl dX11_gatherLineFacts_87 ?_
              have f225 : (-2147483648 : Int) ≤ (w32 (x54 + 1)) ∧ (w32 (x54 + 1)) ≤ (2147483647 : Int) := w32_inR _
              refine g_iincW C [(3, .inl (w32 (x54 + 1))), (10, .inl 1), (9, .inl r162), (8, .inl r149), (0, .inr (.inr a0)), (1, .inl a1), (2, .inl a2), (4, .inl x55), (5, .inl x56), (6, .inl x57), (7, .inl x58)] 6 rfl (by decide) rfl dX11_gatherLineFacts_89 ?_
              refine g_iload C 7 rfl dX11_gatherLineFacts_92 ?_
              refine g_iload C 1 rfl dX11_gatherLineFacts_94 ?_
              refine g_if_eq C (iw (il 1) (by decide) (by decide)) 110 (by decide) dX11_gatherLineFacts_96 (fun q226 => ?_) (fun q227 => ?_)
              · exact (no_eq (il 1) (il 0) q226 (by decide)).elim
              · refine g_iload C 3 rfl dX11_gatherLineFacts_99 ?_
                refine g_iload C 2 rfl dX11_gatherLineFacts_101 ?_
                refine g_icmp_eq C f155 f168 110 (by decide) dX11_gatherLineFacts_103 (fun q228 => ?_) (fun q229 => ?_)
                · refine g_iconst C dX11_gatherLineFacts_110 ?_
                  have f230 : (-2147483648 : Int) ≤ (x55 + 0) ∧ (x55 + 0) ≤ (2147483647 : Int) := ia_add f66 (il 0) (by decide) (by decide)
                  refine g_iadd C dX11_gatherLineFacts_111 ?_
                  refine g_istore C [(4, .inl (x55 + 0)), (3, .inl (w32 (x54 + 1))), (10, .inl 1), (9, .inl r162), (8, .inl r149), (0, .inr (.inr a0)), (1, .inl a1), (2, .inl a2), (5, .inl x56), (6, .inl x57), (7, .inl x58)] (by decide) rfl dX11_gatherLineFacts_112 ?_
                  refine g_iload C 8 rfl dX11_gatherLineFacts_114 ?_
                  refine g_iload C 4 rfl dX11_gatherLineFacts_116 ?_
                  refine g_iload C 3 rfl dX11_gatherLineFacts_118 ?_
                  refine g_iand C dX11_gatherLineFacts_120 ?_
                  have f231 : (-2147483648 : Int) ≤ (bAnd r149 r162) ∧ (bAnd r149 r162) ≤ (2147483647 : Int) := inR_of _
                  refine g_if_ne C f231 128 (by decide) dX11_gatherLineFacts_121 (fun q232 => ?_) (fun q233 => ?_)
                  · refine g_iconst C dX11_gatherLineFacts_128 ?_
                    have f234 : (-2147483648 : Int) ≤ (x56 + 0) ∧ (x56 + 0) ≤ (2147483647 : Int) := ia_add f67 (il 0) (by decide) (by decide)
                    refine g_iadd C dX11_gatherLineFacts_129 ?_
                    refine g_istore C [(5, .inl (x56 + 0)), (4, .inl (x55 + 0)), (3, .inl (w32 (x54 + 1))), (10, .inl 1), (9, .inl r162), (8, .inl r149), (0, .inr (.inr a0)), (1, .inl a1), (2, .inl a2), (6, .inl x57), (7, .inl x58)] (by decide) rfl dX11_gatherLineFacts_130 ?_
                    refine g_iload C 9 rfl dX11_gatherLineFacts_132 ?_
                    refine g_iload C 3 rfl dX11_gatherLineFacts_134 ?_
                    refine g_if_eq C (iw (il 1) (by decide) (by decide)) 150 (by decide) dX11_gatherLineFacts_136 (fun q235 => ?_) (fun q236 => ?_)
                    · exact (no_eq (il 1) (il 0) q235 (by decide)).elim
                    · refine g_iload C 5 rfl dX11_gatherLineFacts_139 ?_
                      refine g_iload C 4 rfl dX11_gatherLineFacts_141 ?_
                      refine g_icmp_ne C f155 f168 150 (by decide) dX11_gatherLineFacts_143 (fun q237 => ?_) (fun q238 => ?_)
                      · refine g_iconst C dX11_gatherLineFacts_150 ?_
                        have f239 : (-2147483648 : Int) ≤ (x57 + 0) ∧ (x57 + 0) ≤ (2147483647 : Int) := ia_add f68 (il 0) (by decide) (by decide)
                        refine g_iadd C dX11_gatherLineFacts_151 ?_
                        refine g_istore C [(6, .inl (x57 + 0)), (5, .inl (x56 + 0)), (4, .inl (x55 + 0)), (3, .inl (w32 (x54 + 1))), (10, .inl 1), (9, .inl r162), (8, .inl r149), (0, .inr (.inr a0)), (1, .inl a1), (2, .inl a2), (7, .inl x58)] (by decide) rfl dX11_gatherLineFacts_152 ?_
                        have f240 : (1 : Int) ≤ (x58 + 1) ∧ (x58 + 1) ≤ (16 : Int) := ia_add f124 (il 1) (by decide) (by decide)
                        refine g_iinc C [(7, .inl (x58 + 1)), (6, .inl (x57 + 0)), (5, .inl (x56 + 0)), (4, .inl (x55 + 0)), (3, .inl (w32 (x54 + 1))), (10, .inl 1), (9, .inl r162), (8, .inl r149), (0, .inr (.inr a0)), (1, .inl a1), (2, .inl a2)] 10 rfl (by decide) rfl dX11_gatherLineFacts_154 ?_
                        refine g_goto C 14 (by decide) dX11_gatherLineFacts_157 ?_
                        refine GW.sub [8, 9, 10, 4, 3, 2, 1, 0] rfl ?_
                        exact ih61 _ (by omega) (w32 (x54 + 1)) (x55 + 0) (x56 + 0) (x57 + 0) (x58 + 1) h198 rfl O201 (((((F64.call F132 rfl).call F154 rfl).call F167 rfl).call F174 rfl).call F202 rfl) f225 f230 f234 f239 (iw f240 (by decide) (by decide))
                      · refine g_iconst C dX11_gatherLineFacts_146 ?_
                        refine g_goto C 151 (by decide) dX11_gatherLineFacts_147 ?_
                        have f241 : (-2147483648 : Int) ≤ (w32 (x57 + 1)) ∧ (w32 (x57 + 1)) ≤ (2147483647 : Int) := w32_inR _
                        refine g_iaddW C dX11_gatherLineFacts_151 ?_
                        refine g_istore C [(6, .inl (w32 (x57 + 1))), (5, .inl (x56 + 0)), (4, .inl (x55 + 0)), (3, .inl (w32 (x54 + 1))), (10, .inl 1), (9, .inl r162), (8, .inl r149), (0, .inr (.inr a0)), (1, .inl a1), (2, .inl a2), (7, .inl x58)] (by decide) rfl dX11_gatherLineFacts_152 ?_
                        have f242 : (1 : Int) ≤ (x58 + 1) ∧ (x58 + 1) ≤ (16 : Int) := ia_add f124 (il 1) (by decide) (by decide)
                        refine g_iinc C [(7, .inl (x58 + 1)), (6, .inl (w32 (x57 + 1))), (5, .inl (x56 + 0)), (4, .inl (x55 + 0)), (3, .inl (w32 (x54 + 1))), (10, .inl 1), (9, .inl r162), (8, .inl r149), (0, .inr (.inr a0)), (1, .inl a1), (2, .inl a2)] 10 rfl (by decide) rfl dX11_gatherLineFacts_154 ?_
                        refine g_goto C 14 (by decide) dX11_gatherLineFacts_157 ?_
                        refine GW.sub [8, 9, 10, 4, 3, 2, 1, 0] rfl ?_
                        exact ih61 _ (by omega) (w32 (x54 + 1)) (x55 + 0) (x56 + 0) (w32 (x57 + 1)) (x58 + 1) h198 rfl O201 (((((F64.call F132 rfl).call F154 rfl).call F167 rfl).call F174 rfl).call F202 rfl) f225 f230 f234 f241 (iw f242 (by decide) (by decide))
                  · have f243 : (0 : Int) ≤ (bAnd r149 r162) ∧ (bAnd r149 r162) ≤ (0 : Int) := ii f231 (r_eq (il 0) q233) (by decide) (by decide)
                    refine g_iconst C dX11_gatherLineFacts_124 ?_
                    refine g_goto C 129 (by decide) dX11_gatherLineFacts_125 ?_
                    have f244 : (-2147483648 : Int) ≤ (w32 (x56 + 1)) ∧ (w32 (x56 + 1)) ≤ (2147483647 : Int) := w32_inR _
                    refine g_iaddW C dX11_gatherLineFacts_129 ?_
                    refine g_istore C [(5, .inl (w32 (x56 + 1))), (4, .inl (x55 + 0)), (3, .inl (w32 (x54 + 1))), (10, .inl 1), (9, .inl r162), (8, .inl r149), (0, .inr (.inr a0)), (1, .inl a1), (2, .inl a2), (6, .inl x57), (7, .inl x58)] (by decide) rfl dX11_gatherLineFacts_130 ?_
                    refine g_iload C 9 rfl dX11_gatherLineFacts_132 ?_
                    refine g_iload C 3 rfl dX11_gatherLineFacts_134 ?_
                    refine g_if_eq C (iw (il 1) (by decide) (by decide)) 150 (by decide) dX11_gatherLineFacts_136 (fun q245 => ?_) (fun q246 => ?_)
                    · exact (no_eq (il 1) (il 0) q245 (by decide)).elim
                    · refine g_iload C 5 rfl dX11_gatherLineFacts_139 ?_
                      refine g_iload C 4 rfl dX11_gatherLineFacts_141 ?_
                      refine g_icmp_ne C f155 f168 150 (by decide) dX11_gatherLineFacts_143 (fun q247 => ?_) (fun q248 => ?_)
                      · refine g_iconst C dX11_gatherLineFacts_150 ?_
                        have f249 : (-2147483648 : Int) ≤ (x57 + 0) ∧ (x57 + 0) ≤ (2147483647 : Int) := ia_add f68 (il 0) (by decide) (by decide)
                        refine g_iadd C dX11_gatherLineFacts_151 ?_
                        refine g_istore C [(6, .inl (x57 + 0)), (5, .inl (w32 (x56 + 1))), (4, .inl (x55 + 0)), (3, .inl (w32 (x54 + 1))), (10, .inl 1), (9, .inl r162), (8, .inl r149), (0, .inr (.inr a0)), (1, .inl a1), (2, .inl a2), (7, .inl x58)] (by decide) rfl dX11_gatherLineFacts_152 ?_
                        have f250 : (1 : Int) ≤ (x58 + 1) ∧ (x58 + 1) ≤ (16 : Int) := ia_add f124 (il 1) (by decide) (by decide)
                        refine g_iinc C [(7, .inl (x58 + 1)), (6, .inl (x57 + 0)), (5, .inl (w32 (x56 + 1))), (4, .inl (x55 + 0)), (3, .inl (w32 (x54 + 1))), (10, .inl 1), (9, .inl r162), (8, .inl r149), (0, .inr (.inr a0)), (1, .inl a1), (2, .inl a2)] 10 rfl (by decide) rfl dX11_gatherLineFacts_154 ?_
                        refine g_goto C 14 (by decide) dX11_gatherLineFacts_157 ?_
                        refine GW.sub [8, 9, 10, 4, 3, 2, 1, 0] rfl ?_
                        exact ih61 _ (by omega) (w32 (x54 + 1)) (x55 + 0) (w32 (x56 + 1)) (x57 + 0) (x58 + 1) h198 rfl O201 (((((F64.call F132 rfl).call F154 rfl).call F167 rfl).call F174 rfl).call F202 rfl) f225 f230 f244 f249 (iw f250 (by decide) (by decide))
                      · refine g_iconst C dX11_gatherLineFacts_146 ?_
                        refine g_goto C 151 (by decide) dX11_gatherLineFacts_147 ?_
                        have f251 : (-2147483648 : Int) ≤ (w32 (x57 + 1)) ∧ (w32 (x57 + 1)) ≤ (2147483647 : Int) := w32_inR _
                        refine g_iaddW C dX11_gatherLineFacts_151 ?_
                        refine g_istore C [(6, .inl (w32 (x57 + 1))), (5, .inl (w32 (x56 + 1))), (4, .inl (x55 + 0)), (3, .inl (w32 (x54 + 1))), (10, .inl 1), (9, .inl r162), (8, .inl r149), (0, .inr (.inr a0)), (1, .inl a1), (2, .inl a2), (7, .inl x58)] (by decide) rfl dX11_gatherLineFacts_152 ?_
                        have f252 : (1 : Int) ≤ (x58 + 1) ∧ (x58 + 1) ≤ (16 : Int) := ia_add f124 (il 1) (by decide) (by decide)
                        refine g_iinc C [(7, .inl (x58 + 1)), (6, .inl (w32 (x57 + 1))), (5, .inl (w32 (x56 + 1))), (4, .inl (x55 + 0)), (3, .inl (w32 (x54 + 1))), (10, .inl 1), (9, .inl r162), (8, .inl r149), (0, .inr (.inr a0)), (1, .inl a1), (2, .inl a2)] 10 rfl (by decide) rfl dX11_gatherLineFacts_154 ?_
                        refine g_goto C 14 (by decide) dX11_gatherLineFacts_157 ?_
                        refine GW.sub [8, 9, 10, 4, 3, 2, 1, 0] rfl ?_
                        exact ih61 _ (by omega) (w32 (x54 + 1)) (x55 + 0) (w32 (x56 + 1)) (w32 (x57 + 1)) (x58 + 1) h198 rfl O201 (((((F64.call F132 rfl).call F154 rfl).call F167 rfl).call F174 rfl).call F202 rfl) f225 f230 f244 f251 (iw f252 (by decide) (by decide))
                · refine g_iconst C dX11_gatherLineFacts_106 ?_
                  refine g_goto C 111 (by decide) dX11_gatherLineFacts_107 ?_
                  have f253 : (-2147483648 : Int) ≤ (w32 (x55 + 1)) ∧ (w32 (x55 + 1)) ≤ (2147483647 : Int) := w32_inR _
                  refine g_iaddW C dX11_gatherLineFacts_111 ?_
                  refine g_istore C [(4, .inl (w32 (x55 + 1))), (3, .inl (w32 (x54 + 1))), (10, .inl 1), (9, .inl r162), (8, .inl r149), (0, .inr (.inr a0)), (1, .inl a1), (2, .inl a2), (5, .inl x56), (6, .inl x57), (7, .inl x58)] (by decide) rfl dX11_gatherLineFacts_112 ?_
                  refine g_iload C 8 rfl dX11_gatherLineFacts_114 ?_
                  refine g_iload C 4 rfl dX11_gatherLineFacts_116 ?_
                  refine g_iload C 3 rfl dX11_gatherLineFacts_118 ?_
                  refine g_iand C dX11_gatherLineFacts_120 ?_
                  have f254 : (-2147483648 : Int) ≤ (bAnd r149 r162) ∧ (bAnd r149 r162) ≤ (2147483647 : Int) := inR_of _
                  refine g_if_ne C f254 128 (by decide) dX11_gatherLineFacts_121 (fun q255 => ?_) (fun q256 => ?_)
                  · refine g_iconst C dX11_gatherLineFacts_128 ?_
                    have f257 : (-2147483648 : Int) ≤ (x56 + 0) ∧ (x56 + 0) ≤ (2147483647 : Int) := ia_add f67 (il 0) (by decide) (by decide)
                    refine g_iadd C dX11_gatherLineFacts_129 ?_
                    refine g_istore C [(5, .inl (x56 + 0)), (4, .inl (w32 (x55 + 1))), (3, .inl (w32 (x54 + 1))), (10, .inl 1), (9, .inl r162), (8, .inl r149), (0, .inr (.inr a0)), (1, .inl a1), (2, .inl a2), (6, .inl x57), (7, .inl x58)] (by decide) rfl dX11_gatherLineFacts_130 ?_
                    refine g_iload C 9 rfl dX11_gatherLineFacts_132 ?_
                    refine g_iload C 3 rfl dX11_gatherLineFacts_134 ?_
                    refine g_if_eq C (iw (il 1) (by decide) (by decide)) 150 (by decide) dX11_gatherLineFacts_136 (fun q258 => ?_) (fun q259 => ?_)
                    · exact (no_eq (il 1) (il 0) q258 (by decide)).elim
                    · refine g_iload C 5 rfl dX11_gatherLineFacts_139 ?_
                      refine g_iload C 4 rfl dX11_gatherLineFacts_141 ?_
                      refine g_icmp_ne C f155 f168 150 (by decide) dX11_gatherLineFacts_143 (fun q260 => ?_) (fun q261 => ?_)
                      · refine g_iconst C dX11_gatherLineFacts_150 ?_
                        have f262 : (-2147483648 : Int) ≤ (x57 + 0) ∧ (x57 + 0) ≤ (2147483647 : Int) := ia_add f68 (il 0) (by decide) (by decide)
                        refine g_iadd C dX11_gatherLineFacts_151 ?_
                        refine g_istore C [(6, .inl (x57 + 0)), (5, .inl (x56 + 0)), (4, .inl (w32 (x55 + 1))), (3, .inl (w32 (x54 + 1))), (10, .inl 1), (9, .inl r162), (8, .inl r149), (0, .inr (.inr a0)), (1, .inl a1), (2, .inl a2), (7, .inl x58)] (by decide) rfl dX11_gatherLineFacts_152 ?_
                        have f263 : (1 : Int) ≤ (x58 + 1) ∧ (x58 + 1) ≤ (16 : Int) := ia_add f124 (il 1) (by decide) (by decide)
                        refine g_iinc C [(7, .inl (x58 + 1)), (6, .inl (x57 + 0)), (5, .inl (x56 + 0)), (4, .inl (w32 (x55 + 1))), (3, .inl (w32 (x54 + 1))), (10, .inl 1), (9, .inl r162), (8, .inl r149), (0, .inr (.inr a0)), (1, .inl a1), (2, .inl a2)] 10 rfl (by decide) rfl dX11_gatherLineFacts_154 ?_
                        refine g_goto C 14 (by decide) dX11_gatherLineFacts_157 ?_
                        refine GW.sub [8, 9, 10, 4, 3, 2, 1, 0] rfl ?_
                        exact ih61 _ (by omega) (w32 (x54 + 1)) (w32 (x55 + 1)) (x56 + 0) (x57 + 0) (x58 + 1) h198 rfl O201 (((((F64.call F132 rfl).call F154 rfl).call F167 rfl).call F174 rfl).call F202 rfl) f225 f253 f257 f262 (iw f263 (by decide) (by decide))
                      · refine g_iconst C dX11_gatherLineFacts_146 ?_
                        refine g_goto C 151 (by decide) dX11_gatherLineFacts_147 ?_
                        have f264 : (-2147483648 : Int) ≤ (w32 (x57 + 1)) ∧ (w32 (x57 + 1)) ≤ (2147483647 : Int) := w32_inR _
                        refine g_iaddW C dX11_gatherLineFacts_151 ?_
                        refine g_istore C [(6, .inl (w32 (x57 + 1))), (5, .inl (x56 + 0)), (4, .inl (w32 (x55 + 1))), (3, .inl (w32 (x54 + 1))), (10, .inl 1), (9, .inl r162), (8, .inl r149), (0, .inr (.inr a0)), (1, .inl a1), (2, .inl a2), (7, .inl x58)] (by decide) rfl dX11_gatherLineFacts_152 ?_
                        have f265 : (1 : Int) ≤ (x58 + 1) ∧ (x58 + 1) ≤ (16 : Int) := ia_add f124 (il 1) (by decide) (by decide)
                        refine g_iinc C [(7, .inl (x58 + 1)), (6, .inl (w32 (x57 + 1))), (5, .inl (x56 + 0)), (4, .inl (w32 (x55 + 1))), (3, .inl (w32 (x54 + 1))), (10, .inl 1), (9, .inl r162), (8, .inl r149), (0, .inr (.inr a0)), (1, .inl a1), (2, .inl a2)] 10 rfl (by decide) rfl dX11_gatherLineFacts_154 ?_
                        refine g_goto C 14 (by decide) dX11_gatherLineFacts_157 ?_
                        refine GW.sub [8, 9, 10, 4, 3, 2, 1, 0] rfl ?_
                        exact ih61 _ (by omega) (w32 (x54 + 1)) (w32 (x55 + 1)) (x56 + 0) (w32 (x57 + 1)) (x58 + 1) h198 rfl O201 (((((F64.call F132 rfl).call F154 rfl).call F167 rfl).call F174 rfl).call F202 rfl) f225 f253 f257 f264 (iw f265 (by decide) (by decide))
                  · have f266 : (0 : Int) ≤ (bAnd r149 r162) ∧ (bAnd r149 r162) ≤ (0 : Int) := ii f254 (r_eq (il 0) q256) (by decide) (by decide)
                    refine g_iconst C dX11_gatherLineFacts_124 ?_
                    refine g_goto C 129 (by decide) dX11_gatherLineFacts_125 ?_
                    have f267 : (-2147483648 : Int) ≤ (w32 (x56 + 1)) ∧ (w32 (x56 + 1)) ≤ (2147483647 : Int) := w32_inR _
                    refine g_iaddW C dX11_gatherLineFacts_129 ?_
                    refine g_istore C [(5, .inl (w32 (x56 + 1))), (4, .inl (w32 (x55 + 1))), (3, .inl (w32 (x54 + 1))), (10, .inl 1), (9, .inl r162), (8, .inl r149), (0, .inr (.inr a0)), (1, .inl a1), (2, .inl a2), (6, .inl x57), (7, .inl x58)] (by decide) rfl dX11_gatherLineFacts_130 ?_
                    refine g_iload C 9 rfl dX11_gatherLineFacts_132 ?_
                    refine g_iload C 3 rfl dX11_gatherLineFacts_134 ?_
                    refine g_if_eq C (iw (il 1) (by decide) (by decide)) 150 (by decide) dX11_gatherLineFacts_136 (fun q268 => ?_) (fun q269 => ?_)
                    · exact (no_eq (il 1) (il 0) q268 (by decide)).elim
                    · refine g_iload C 5 rfl dX11_gatherLineFacts_139 ?_
                      refine g_iload C 4 rfl dX11_gatherLineFacts_141 ?_
                      refine g_icmp_ne C f155 f168 150 (by decide) dX11_gatherLineFacts_143 (fun q270 => ?_) (fun q271 => ?_)
                      · refine g_iconst C dX11_gatherLineFacts_150 ?_
                        have f272 : (-2147483648 : Int) ≤ (x57 + 0) ∧ (x57 + 0) ≤ (2147483647 : Int) := ia_add f68 (il 0) (by decide) (by decide)
                        refine g_iadd C dX11_gatherLineFacts_151 ?_
                        refine g_istore C [(6, .inl (x57 + 0)), (5, .inl (w32 (x56 + 1))), (4, .inl (w32 (x55 + 1))), (3, .inl (w32 (x54 + 1))), (10, .inl 1), (9, .inl r162), (8, .inl r149), (0, .inr (.inr a0)), (1, .inl a1), (2, .inl a2), (7, .inl x58)] (by decide) rfl dX11_gatherLineFacts_152 ?_
                        have f273 : (1 : Int) ≤ (x58 + 1) ∧ (x58 + 1) ≤ (16 : Int) := ia_add f124 (il 1) (by decide) (by decide)
                        refine g_iinc C [(7, .inl (x58 + 1)), (6, .inl (x57 + 0)), (5, .inl (w32 (x56 + 1))), (4, .inl (w32 (x55 + 1))), (3, .inl (w32 (x54 + 1))), (10, .inl 1), (9, .inl r162), (8, .inl r149), (0, .inr (.inr a0)), (1, .inl a1), (2, .inl a2)] 10 rfl (by decide) rfl dX11_gatherLineFacts_154 ?_
                        refine g_goto C 14 (by decide) dX11_gatherLineFacts_157 ?_
                        refine GW.sub [8, 9, 10, 4, 3, 2, 1, 0] rfl ?_
                        exact ih61 _ (by omega) (w32 (x54 + 1)) (w32 (x55 + 1)) (w32 (x56 + 1)) (x57 + 0) (x58 + 1) h198 rfl O201 (((((F64.call F132 rfl).call F154 rfl).call F167 rfl).call F174 rfl).call F202 rfl) f225 f253 f267 f272 (iw f273 (by decide) (by decide))
                      · refine g_iconst C dX11_gatherLineFacts_146 ?_
                        refine g_goto C 151 (by decide) dX11_gatherLineFacts_147 ?_
                        have f274 : (-2147483648 : Int) ≤ (w32 (x57 + 1)) ∧ (w32 (x57 + 1)) ≤ (2147483647 : Int) := w32_inR _
                        refine g_iaddW C dX11_gatherLineFacts_151 ?_
                        refine g_istore C [(6, .inl (w32 (x57 + 1))), (5, .inl (w32 (x56 + 1))), (4, .inl (w32 (x55 + 1))), (3, .inl (w32 (x54 + 1))), (10, .inl 1), (9, .inl r162), (8, .inl r149), (0, .inr (.inr a0)), (1, .inl a1), (2, .inl a2), (7, .inl x58)] (by decide) rfl dX11_gatherLineFacts_152 ?_
                        have f275 : (1 : Int) ≤ (x58 + 1) ∧ (x58 + 1) ≤ (16 : Int) := ia_add f124 (il 1) (by decide) (by decide)
                        refine g_iinc C [(7, .inl (x58 + 1)), (6, .inl (w32 (x57 + 1))), (5, .inl (w32 (x56 + 1))), (4, .inl (w32 (x55 + 1))), (3, .inl (w32 (x54 + 1))), (10, .inl 1), (9, .inl r162), (8, .inl r149), (0, .inr (.inr a0)), (1, .inl a1), (2, .inl a2)] 10 rfl (by decide) rfl dX11_gatherLineFacts_154 ?_
                        refine g_goto C 14 (by decide) dX11_gatherLineFacts_157 ?_
                        refine GW.sub [8, 9, 10, 4, 3, 2, 1, 0] rfl ?_
                        exact ih61 _ (by omega) (w32 (x54 + 1)) (w32 (x55 + 1)) (w32 (x56 + 1)) (w32 (x57 + 1)) (x58 + 1) h198 rfl O201 (((((F64.call F132 rfl).call F154 rfl).call F167 rfl).call F174 rfl).call F202 rfl) f225 f253 f267 f274 (iw f275 (by decide) (by decide))
  exact L60 _ 0 0 0 0 0 h rfl O Fx.rf (iw (il 0) (by decide) (by decide)) (iw (il 0) (by decide) (by decide)) (iw (il 0) (by decide) (by decide)) (iw (il 0) (by decide) (by decide)) (iw (il 0) (by decide) (by decide))
def wr_k_X11_greatestHigh : List Nat := []
set_option maxRecDepth 100000 in
set_option maxHeartbeats 4000000 in
theorem k_X11_greatestHigh (l : Launch) (D : va_G) (cy : Nat → ClassId) (w : Nat → Nat) (z0 : Nat)  {h : Hp} {a0 : Nat} {a1 : Int}  (O : Okh h) (ta0 : Tg h a0 = 11) (fa1 : 0 ≤ a1 ∧ a1 ≤ 95) (P_stlp : Iv h a0 15 = 1) (P_XInv : XInv h a0) : MI l D cy w z0 yX11_greatestHigh cX11_greatestHigh 4 (some .int) 1 24 0 0 [.inr (.inr a0), .inl a1] h (fun v h1 => Okh h1 ∧ Fx wr_k_X11_greatestHigh h h1 ∧ ((-2147483648) ≤ v ∧ v ≤ 2147483647)) := by
  obtain ⟨v1, e2⟩ : ∃ z, Rv h a0 3 = z := ⟨_, rfl⟩
  have t3 := ok_R O ta0 rE_11_3 e2
  have l4 := ok_L O ta0 rE_11_3 e2
  obtain ⟨v5, e6⟩ : ∃ z, Iv h a0 4 = z := ⟨_, rfl⟩
  have f7 := ok_I O ta0 rI_11_4 e6
  obtain ⟨v8, e9⟩ : ∃ z, Rv h a0 8 = z := ⟨_, rfl⟩
  have t10 := ok_R O ta0 rE_11_8 e9
  have l11 := ok_L O ta0 rE_11_8 e9
  obtain ⟨v12, e13⟩ : ∃ z, Iv h a0 9 = z := ⟨_, rfl⟩
  have f14 := ok_I O ta0 rI_11_9 e13
  obtain ⟨v15, e16⟩ : ∃ z, Rv h a0 11 = z := ⟨_, rfl⟩
  have t17 := ok_R O ta0 rE_11_11 e16
  have l18 := ok_L O ta0 rE_11_11 e16
  obtain ⟨v19, e20⟩ : ∃ z, Iv h a0 12 = z := ⟨_, rfl⟩
  have f21 := ok_I O ta0 rI_11_12 e20
  obtain ⟨v22, e23⟩ : ∃ z, Rv h a0 14 = z := ⟨_, rfl⟩
  have t24 := ok_R O ta0 rE_11_14 e23
  have l25 := ok_L O ta0 rE_11_14 e23
  obtain ⟨v26, e27⟩ : ∃ z, Rv h a0 13 = z := ⟨_, rfl⟩
  have t28 := ok_R O ta0 rE_11_13 e27
  obtain ⟨v29, e30⟩ : ∃ z, Rv h a0 6 = z := ⟨_, rfl⟩
  have t31 := ok_R O ta0 rE_11_6 e30
  obtain ⟨v32, e33⟩ : ∃ z, Rv h a0 7 = z := ⟨_, rfl⟩
  have t34 := ok_R O ta0 rE_11_7 e33
  have p46 := P_XInv
  unfold XInv at p46
  rw [e2, e6, e9, e13, e16, e20, P_stlp, e23, e27, e30, e33] at p46
  obtain ⟨p35, p36, p37, p38, p39, p40, p41, p42, p43, p44, p45⟩ := p46
  obtain ⟨v47, e48⟩ : ∃ z, Iv h v26 3 = z := ⟨_, rfl⟩
  have f49 := ok_I O t28 rI_7_3 e48
  obtain ⟨v50, e51⟩ : ∃ z, Iv h v26 4 = z := ⟨_, rfl⟩
  have f52 := ok_I O t28 rI_7_4 e51
  rw [e48] at p41
  rw [e51] at p42
  have p53 := p38 (by omega)
  refine hm_go (by decide +kernel) (Nat.le_of_ble_eq_true rfl) (fun p e s m below meth c C hr hn => ?_)
  refine g_ldcw (z := (-268435456)) C kw_1226 (by decide) dX11_greatestHigh_0 ?_
  refine g_istore_n C [(2, .inl (-268435456)), (0, .inr (.inr a0)), (1, .inl a1)] rfl (by decide) rfl dX11_greatestHigh_3 ?_
  refine g_iconst C dX11_greatestHigh_4 ?_
  refine g_istore_n C [(3, .inl 0), (2, .inl (-268435456)), (0, .inr (.inr a0)), (1, .inl a1)] rfl (by decide) rfl dX11_greatestHigh_5 ?_
  refine GW.sub [2, 3, 1, 0] rfl ?_
  -- loop at 6
  have L57 : ∀ (μ : Nat) (x54 : Int) (x55 : Int) (h56 : Hp), (16 - x55).toNat = μ → Okh h56 → Fx [] h h56 → ((-2147483648 : Int) ≤ x54 ∧ x54 ≤ (2147483647 : Int)) → ((0 : Int) ≤ x55 ∧ x55 ≤ (16 : Int)) → GW p l e (rmm 1 24 0 0) s m (List.map toV [.inr (.inr a0), .inl a1]).toArray below meth c D cy z0 4 (MQ below (QI D cy z0 (fun v h1 => Okh h1 ∧ Fx wr_k_X11_greatestHigh h h1 ∧ ((-2147483648) ≤ v ∧ v ≤ 2147483647))) (List.map toV [.inr (.inr a0), .inl a1]).toArray s 0 0 (Aof z0)) 6 [(0, .inr (.inr a0)), (1, .inl a1), (2, .inl x54), (3, .inl x55)] [] h56 0 0 := by
    intro μ
    induction μ using Nat.strongRecOn with
    | ind μ ih58 =>
      intro x54 x55 h56 hm59 O60 F61 f62 f63
      refine g_iload_n C rfl 3 rfl dX11_greatestHigh_6 ?_
      refine g_iconst C dX11_greatestHigh_7 ?_
      refine g_aload_n C rfl 0 rfl dX11_greatestHigh_8 ?_
      have e64 : Tg h56 a0 = 11 := (fxT F61 ta0)
      have e65 : Iv h56 a0 9 = v12 := ((fxI F61 ta0 rfl).trans e13)
      refine gf_I C fk_LandSurvey_157 rfl e64 e65 dX11_greatestHigh_9 ?_
      refine g_ishl C dX11_greatestHigh_12 ?_
      have f66 : (1 : Int) ≤ (bShl 1 v12) ∧ (bShl 1 v12) ≤ (16 : Int) := bShl_4 f14
      refine g_icmp_ge C (iw f63 (by decide) (by decide)) (iw f66 (by decide) (by decide)) 46 (by decide) dX11_greatestHigh_13 (fun q67 => ?_) (fun q68 => ?_)
      · have f69 : (1 : Int) ≤ x55 ∧ x55 ≤ (16 : Int) := r_ge f63 f66 q67 (by decide) (by decide)
        refine g_iload_n C rfl 2 rfl dX11_greatestHigh_46 ?_
        exact g_iret C hr rfl f62 ⟨O60, ((Fx.rf (wr := wr_k_X11_greatestHigh)).call F61 rfl), f62⟩ (by decide) (by decide) dX11_greatestHigh_47
      · have f70 : (0 : Int) ≤ x55 ∧ x55 ≤ (15 : Int) := r_lt f63 f66 q68 (by decide) (by decide)
        refine g_aload_n C rfl 0 rfl dX11_greatestHigh_16 ?_
        refine g_iload_n C rfl 3 rfl dX11_greatestHigh_17 ?_
        have e71 : Iv h56 a0 15 = 1 := ((fxI F61 ta0 rfl).trans P_stlp)
        have p72 := (XInv_fx O F61 ta0 rfl P_XInv)
        refine g_callI (st := []) (gc_V C lk_LandSurvey_234 (k_X11_isKept l D cy w z0 O60 e64 f70 e71 p72 (by rw [e65]; omega)) e64 rfl rfl rfl ⟨by decide, by decide⟩ (Nat.le_of_ble_eq_true rfl) dX11_greatestHigh_18 ⟨(by decide), (by decide)⟩) (fun r73 h74 f76 K75 => ?_)
        obtain ⟨O77, F78, f79⟩ := K75
        refine g_if_eq C (iw f79 (by decide) (by decide)) 40 (by decide) dX11_greatestHigh_21 (fun q80 => ?_) (fun q81 => ?_)
        · have f82 : (0 : Int) ≤ r73 ∧ r73 ≤ (0 : Int) := ii f79 (r_eq (il 0) q80) (by decide) (by decide)
          have f83 : (1 : Int) ≤ (x55 + 1) ∧ (x55 + 1) ≤ (16 : Int) := ia_add f70 (il 1) (by decide) (by decide)
          refine g_iinc C [(3, .inl (x55 + 1)), (0, .inr (.inr a0)), (1, .inl a1), (2, .inl x54)] 3 rfl (by decide) rfl dX11_greatestHigh_40 ?_
          refine g_goto C 6 (by decide) dX11_greatestHigh_43 ?_
          refine GW.sub [1, 2, 3, 0] rfl ?_
          exact ih58 _ (by omega) x54 (x55 + 1) h74 rfl O77 (F61.call F78 rfl) f62 (iw f83 (by decide) (by decide))
        · have f84 : (1 : Int) ≤ r73 ∧ r73 ≤ (1 : Int) := r_nl f79 q81
          refine g_iload_n C rfl 2 rfl dX11_greatestHigh_24 ?_
          refine g_aload_n C rfl 0 rfl dX11_greatestHigh_25 ?_
          have e85 : Tg h74 a0 = 11 := (fxT F78 e64)
          have e86 : Rv h74 a0 14 = v22 := ((fxR F78 e64 rfl).trans ((fxR F61 ta0 rfl).trans e23))
          refine gf_R C fk_LandSurvey_70 rfl e85 e86 dX11_greatestHigh_26 ?_
          refine g_iload_n C rfl 3 rfl dX11_greatestHigh_29 ?_
          have e87 : Tg h74 v22 = 49107 := (fxT F78 (fxT F61 t24))
          have e88 : Tg h56 v22 = 49107 := (fxT F61 t24)
          have e89 : Ln h74 v22 = 16 := ((fxL F78 e88).trans ((fxL F61 t24).trans l25))
          obtain ⟨v90, e91⟩ : ∃ z, Rv h74 v22 x55.toNat = z := ⟨_, rfl⟩
          refine g_aald (t := 7) C e87 rfl (by decide) rfl e89 (ix f70 (by decide) (by decide)) e91 dX11_greatestHigh_30 ?_
          have p92 := (NN_fx F78 e88 ar_49107 rfl (NN_fx F61 t24 ar_49107 rfl p53))
          have q93 := nn_get p92 (by omega) e91
          have t94 := ok_Na O77 e87 ar_49107 rE_49107_0 e91 q93
          obtain ⟨v95, e96⟩ : ∃ z, Rv h74 v90 8 = z := ⟨_, rfl⟩
          have t97 := ok_R O77 t94 rE_2_8 e96
          have l98 := ok_L O77 t94 rE_2_8 e96
          refine gf_R C fk_LandSurvey_250 rfl t94 e96 dX11_greatestHigh_31 ?_
          refine g_iload_n C rfl 1 rfl dX11_greatestHigh_34 ?_
          obtain ⟨v99, e100⟩ : ∃ z, Iv h74 v95 a1.toNat = z := ⟨_, rfl⟩
          have f101 := ok_Ia O77 t97 ar_11100 rI_11100_0 e100
          refine g_iald C t97 rfl l98 (ix fa1 (by decide) (by decide)) e100 dX11_greatestHigh_35 ?_
          refine g_mmax C f62 f101 kw_1227 kw_714 kw_158 kw_715 (by decide) (Nat.le_of_ble_eq_true rfl) (by decide) (by decide) dX11_greatestHigh_36 (fun v102 q103 => ?_)
          have f104 : (-2147483648 : Int) ≤ v102 ∧ v102 ≤ (2147483647 : Int) := mm_rng f62 f101 q103 (by decide) (by decide)
          refine g_istore_n C [(2, .inl v102), (0, .inr (.inr a0)), (1, .inl a1), (3, .inl x55)] rfl (by decide) rfl dX11_greatestHigh_39 ?_
          have f105 : (1 : Int) ≤ (x55 + 1) ∧ (x55 + 1) ≤ (16 : Int) := ia_add f70 (il 1) (by decide) (by decide)
          refine g_iinc C [(3, .inl (x55 + 1)), (2, .inl v102), (0, .inr (.inr a0)), (1, .inl a1)] 3 rfl (by decide) rfl dX11_greatestHigh_40 ?_
          refine g_goto C 6 (by decide) dX11_greatestHigh_43 ?_
          refine GW.sub [2, 3, 1, 0] rfl ?_
          exact ih58 _ (by omega) v102 (x55 + 1) h74 rfl O77 (F61.call F78 rfl) f104 (iw f105 (by decide) (by decide))
  exact L57 _ (-268435456) 0 h rfl O Fx.rf (iw (il (-268435456)) (by decide) (by decide)) (iw (il 0) (by decide) (by decide))
def wr_k_X11_leastLow : List Nat := []
set_option maxRecDepth 100000 in
set_option maxHeartbeats 4000000 in
theorem k_X11_leastLow (l : Launch) (D : va_G) (cy : Nat → ClassId) (w : Nat → Nat) (z0 : Nat)  {h : Hp} {a0 : Nat} {a1 : Int}  (O : Okh h) (ta0 : Tg h a0 = 11) (fa1 : 0 ≤ a1 ∧ a1 ≤ 95) (P_stlp : Iv h a0 15 = 1) (P_XInv : XInv h a0) : MI l D cy w z0 yX11_leastLow cX11_leastLow 4 (some .int) 1 24 0 0 [.inr (.inr a0), .inl a1] h (fun v h1 => Okh h1 ∧ Fx wr_k_X11_leastLow h h1 ∧ ((-2147483648) ≤ v ∧ v ≤ 2147483647)) := by
  obtain ⟨v1, e2⟩ : ∃ z, Rv h a0 3 = z := ⟨_, rfl⟩
  have t3 := ok_R O ta0 rE_11_3 e2
  have l4 := ok_L O ta0 rE_11_3 e2
  obtain ⟨v5, e6⟩ : ∃ z, Iv h a0 4 = z := ⟨_, rfl⟩
  have f7 := ok_I O ta0 rI_11_4 e6
  obtain ⟨v8, e9⟩ : ∃ z, Rv h a0 8 = z := ⟨_, rfl⟩
  have t10 := ok_R O ta0 rE_11_8 e9
  have l11 := ok_L O ta0 rE_11_8 e9
  obtain ⟨v12, e13⟩ : ∃ z, Iv h a0 9 = z := ⟨_, rfl⟩
  have f14 := ok_I O ta0 rI_11_9 e13
  obtain ⟨v15, e16⟩ : ∃ z, Rv h a0 11 = z := ⟨_, rfl⟩
  have t17 := ok_R O ta0 rE_11_11 e16
  have l18 := ok_L O ta0 rE_11_11 e16
  obtain ⟨v19, e20⟩ : ∃ z, Iv h a0 12 = z := ⟨_, rfl⟩
  have f21 := ok_I O ta0 rI_11_12 e20
  obtain ⟨v22, e23⟩ : ∃ z, Rv h a0 14 = z := ⟨_, rfl⟩
  have t24 := ok_R O ta0 rE_11_14 e23
  have l25 := ok_L O ta0 rE_11_14 e23
  obtain ⟨v26, e27⟩ : ∃ z, Rv h a0 13 = z := ⟨_, rfl⟩
  have t28 := ok_R O ta0 rE_11_13 e27
  obtain ⟨v29, e30⟩ : ∃ z, Rv h a0 6 = z := ⟨_, rfl⟩
  have t31 := ok_R O ta0 rE_11_6 e30
  obtain ⟨v32, e33⟩ : ∃ z, Rv h a0 7 = z := ⟨_, rfl⟩
  have t34 := ok_R O ta0 rE_11_7 e33
  have p46 := P_XInv
  unfold XInv at p46
  rw [e2, e6, e9, e13, e16, e20, P_stlp, e23, e27, e30, e33] at p46
  obtain ⟨p35, p36, p37, p38, p39, p40, p41, p42, p43, p44, p45⟩ := p46
  obtain ⟨v47, e48⟩ : ∃ z, Iv h v26 3 = z := ⟨_, rfl⟩
  have f49 := ok_I O t28 rI_7_3 e48
  obtain ⟨v50, e51⟩ : ∃ z, Iv h v26 4 = z := ⟨_, rfl⟩
  have f52 := ok_I O t28 rI_7_4 e51
  rw [e48] at p41
  rw [e51] at p42
  have p53 := p38 (by omega)
  refine hm_go (by decide +kernel) (Nat.le_of_ble_eq_true rfl) (fun p e s m below meth c C hr hn => ?_)
  refine g_ldcw (z := 268435456) C kw_1237 (by decide) dX11_leastLow_0 ?_
  refine g_istore_n C [(2, .inl 268435456), (0, .inr (.inr a0)), (1, .inl a1)] rfl (by decide) rfl dX11_leastLow_3 ?_
  refine g_iconst C dX11_leastLow_4 ?_
  refine g_istore_n C [(3, .inl 0), (2, .inl 268435456), (0, .inr (.inr a0)), (1, .inl a1)] rfl (by decide) rfl dX11_leastLow_5 ?_
  refine GW.sub [2, 3, 1, 0] rfl ?_
  -- loop at 6
  have L57 : ∀ (μ : Nat) (x54 : Int) (x55 : Int) (h56 : Hp), (16 - x55).toNat = μ → Okh h56 → Fx [] h h56 → ((-2147483648 : Int) ≤ x54 ∧ x54 ≤ (2147483647 : Int)) → ((0 : Int) ≤ x55 ∧ x55 ≤ (16 : Int)) → GW p l e (rmm 1 24 0 0) s m (List.map toV [.inr (.inr a0), .inl a1]).toArray below meth c D cy z0 4 (MQ below (QI D cy z0 (fun v h1 => Okh h1 ∧ Fx wr_k_X11_leastLow h h1 ∧ ((-2147483648) ≤ v ∧ v ≤ 2147483647))) (List.map toV [.inr (.inr a0), .inl a1]).toArray s 0 0 (Aof z0)) 6 [(0, .inr (.inr a0)), (1, .inl a1), (2, .inl x54), (3, .inl x55)] [] h56 0 0 := by
    intro μ
    induction μ using Nat.strongRecOn with
    | ind μ ih58 =>
      intro x54 x55 h56 hm59 O60 F61 f62 f63
      refine g_iload_n C rfl 3 rfl dX11_leastLow_6 ?_
      refine g_iconst C dX11_leastLow_7 ?_
      refine g_aload_n C rfl 0 rfl dX11_leastLow_8 ?_
      have e64 : Tg h56 a0 = 11 := (fxT F61 ta0)
      have e65 : Iv h56 a0 9 = v12 := ((fxI F61 ta0 rfl).trans e13)
      refine gf_I C fk_LandSurvey_157 rfl e64 e65 dX11_leastLow_9 ?_
      refine g_ishl C dX11_leastLow_12 ?_
      have f66 : (1 : Int) ≤ (bShl 1 v12) ∧ (bShl 1 v12) ≤ (16 : Int) := bShl_4 f14
      refine g_icmp_ge C (iw f63 (by decide) (by decide)) (iw f66 (by decide) (by decide)) 46 (by decide) dX11_leastLow_13 (fun q67 => ?_) (fun q68 => ?_)
      · have f69 : (1 : Int) ≤ x55 ∧ x55 ≤ (16 : Int) := r_ge f63 f66 q67 (by decide) (by decide)
        refine g_iload_n C rfl 2 rfl dX11_leastLow_46 ?_
        exact g_iret C hr rfl f62 ⟨O60, ((Fx.rf (wr := wr_k_X11_leastLow)).call F61 rfl), f62⟩ (by decide) (by decide) dX11_leastLow_47
      · have f70 : (0 : Int) ≤ x55 ∧ x55 ≤ (15 : Int) := r_lt f63 f66 q68 (by decide) (by decide)
        refine g_aload_n C rfl 0 rfl dX11_leastLow_16 ?_
        refine g_iload_n C rfl 3 rfl dX11_leastLow_17 ?_
        have e71 : Iv h56 a0 15 = 1 := ((fxI F61 ta0 rfl).trans P_stlp)
        have p72 := (XInv_fx O F61 ta0 rfl P_XInv)
        refine g_callI (st := []) (gc_V C lk_LandSurvey_234 (k_X11_isKept l D cy w z0 O60 e64 f70 e71 p72 (by rw [e65]; omega)) e64 rfl rfl rfl ⟨by decide, by decide⟩ (Nat.le_of_ble_eq_true rfl) dX11_leastLow_18 ⟨(by decide), (by decide)⟩) (fun r73 h74 f76 K75 => ?_)
        obtain ⟨O77, F78, f79⟩ := K75
        refine g_if_eq C (iw f79 (by decide) (by decide)) 40 (by decide) dX11_leastLow_21 (fun q80 => ?_) (fun q81 => ?_)
        · have f82 : (0 : Int) ≤ r73 ∧ r73 ≤ (0 : Int) := ii f79 (r_eq (il 0) q80) (by decide) (by decide)
          have f83 : (1 : Int) ≤ (x55 + 1) ∧ (x55 + 1) ≤ (16 : Int) := ia_add f70 (il 1) (by decide) (by decide)
          refine g_iinc C [(3, .inl (x55 + 1)), (0, .inr (.inr a0)), (1, .inl a1), (2, .inl x54)] 3 rfl (by decide) rfl dX11_leastLow_40 ?_
          refine g_goto C 6 (by decide) dX11_leastLow_43 ?_
          refine GW.sub [1, 2, 3, 0] rfl ?_
          exact ih58 _ (by omega) x54 (x55 + 1) h74 rfl O77 (F61.call F78 rfl) f62 (iw f83 (by decide) (by decide))
        · have f84 : (1 : Int) ≤ r73 ∧ r73 ≤ (1 : Int) := r_nl f79 q81
          refine g_iload_n C rfl 2 rfl dX11_leastLow_24 ?_
          refine g_aload_n C rfl 0 rfl dX11_leastLow_25 ?_
          have e85 : Tg h74 a0 = 11 := (fxT F78 e64)
          have e86 : Rv h74 a0 14 = v22 := ((fxR F78 e64 rfl).trans ((fxR F61 ta0 rfl).trans e23))
          refine gf_R C fk_LandSurvey_70 rfl e85 e86 dX11_leastLow_26 ?_
          refine g_iload_n C rfl 3 rfl dX11_leastLow_29 ?_
          have e87 : Tg h74 v22 = 49107 := (fxT F78 (fxT F61 t24))
          have e88 : Tg h56 v22 = 49107 := (fxT F61 t24)
          have e89 : Ln h74 v22 = 16 := ((fxL F78 e88).trans ((fxL F61 t24).trans l25))
          obtain ⟨v90, e91⟩ : ∃ z, Rv h74 v22 x55.toNat = z := ⟨_, rfl⟩
          refine g_aald (t := 7) C e87 rfl (by decide) rfl e89 (ix f70 (by decide) (by decide)) e91 dX11_leastLow_30 ?_
          have p92 := (NN_fx F78 e88 ar_49107 rfl (NN_fx F61 t24 ar_49107 rfl p53))
          have q93 := nn_get p92 (by omega) e91
          have t94 := ok_Na O77 e87 ar_49107 rE_49107_0 e91 q93
          obtain ⟨v95, e96⟩ : ∃ z, Rv h74 v90 7 = z := ⟨_, rfl⟩
          have t97 := ok_R O77 t94 rE_2_7 e96
          have l98 := ok_L O77 t94 rE_2_7 e96
          refine gf_R C fk_LandSurvey_247 rfl t94 e96 dX11_leastLow_31 ?_
          refine g_iload_n C rfl 1 rfl dX11_leastLow_34 ?_
          obtain ⟨v99, e100⟩ : ∃ z, Iv h74 v95 a1.toNat = z := ⟨_, rfl⟩
          have f101 := ok_Ia O77 t97 ar_10100 rI_10100_0 e100
          refine g_iald C t97 rfl l98 (ix fa1 (by decide) (by decide)) e100 dX11_leastLow_35 ?_
          refine g_mmin C f62 f101 kw_1238 kw_717 kw_158 kw_718 (by decide) (Nat.le_of_ble_eq_true rfl) (by decide) (by decide) dX11_leastLow_36 (fun v102 q103 => ?_)
          have f104 : (-2147483648 : Int) ≤ v102 ∧ v102 ≤ (2147483647 : Int) := mm_rng f62 f101 q103 (by decide) (by decide)
          refine g_istore_n C [(2, .inl v102), (0, .inr (.inr a0)), (1, .inl a1), (3, .inl x55)] rfl (by decide) rfl dX11_leastLow_39 ?_
          have f105 : (1 : Int) ≤ (x55 + 1) ∧ (x55 + 1) ≤ (16 : Int) := ia_add f70 (il 1) (by decide) (by decide)
          refine g_iinc C [(3, .inl (x55 + 1)), (2, .inl v102), (0, .inr (.inr a0)), (1, .inl a1)] 3 rfl (by decide) rfl dX11_leastLow_40 ?_
          refine g_goto C 6 (by decide) dX11_leastLow_43 ?_
          refine GW.sub [2, 3, 1, 0] rfl ?_
          exact ih58 _ (by omega) v102 (x55 + 1) h74 rfl O77 (F61.call F78 rfl) f104 (iw f105 (by decide) (by decide))
  exact L57 _ 268435456 0 h rfl O Fx.rf (iw (il 268435456) (by decide) (by decide)) (iw (il 0) (by decide) (by decide))
def wr_k_X11_leastFoot : List Nat := []
set_option maxRecDepth 100000 in
set_option maxHeartbeats 4000000 in
theorem k_X11_leastFoot (l : Launch) (D : va_G) (cy : Nat → ClassId) (w : Nat → Nat) (z0 : Nat)  {h : Hp} {a0 : Nat} {a1 : Int} {a2 : Int}  (O : Okh h) (ta0 : Tg h a0 = 11) (fa1 : 0 ≤ a1 ∧ a1 ≤ 95) (fa2 : 0 ≤ a2 ∧ a2 ≤ 9) (P_stlp : Iv h a0 15 = 1) (P_XInv : XInv h a0) : MI l D cy w z0 yX11_leastFoot cX11_leastFoot 3 (some .int) 2 47 0 0 [.inr (.inr a0), .inl a1, .inl a2] h (fun v h1 => Okh h1 ∧ Fx wr_k_X11_leastFoot h h1 ∧ ((-2147483648) ≤ v ∧ v ≤ 2147483647)) := by
  obtain ⟨v1, e2⟩ : ∃ z, Rv h a0 3 = z := ⟨_, rfl⟩
  have t3 := ok_R O ta0 rE_11_3 e2
  have l4 := ok_L O ta0 rE_11_3 e2
  obtain ⟨v5, e6⟩ : ∃ z, Iv h a0 4 = z := ⟨_, rfl⟩
  have f7 := ok_I O ta0 rI_11_4 e6
  obtain ⟨v8, e9⟩ : ∃ z, Rv h a0 8 = z := ⟨_, rfl⟩
  have t10 := ok_R O ta0 rE_11_8 e9
  have l11 := ok_L O ta0 rE_11_8 e9
  obtain ⟨v12, e13⟩ : ∃ z, Iv h a0 9 = z := ⟨_, rfl⟩
  have f14 := ok_I O ta0 rI_11_9 e13
  obtain ⟨v15, e16⟩ : ∃ z, Rv h a0 11 = z := ⟨_, rfl⟩
  have t17 := ok_R O ta0 rE_11_11 e16
  have l18 := ok_L O ta0 rE_11_11 e16
  obtain ⟨v19, e20⟩ : ∃ z, Iv h a0 12 = z := ⟨_, rfl⟩
  have f21 := ok_I O ta0 rI_11_12 e20
  obtain ⟨v22, e23⟩ : ∃ z, Rv h a0 14 = z := ⟨_, rfl⟩
  have t24 := ok_R O ta0 rE_11_14 e23
  have l25 := ok_L O ta0 rE_11_14 e23
  obtain ⟨v26, e27⟩ : ∃ z, Rv h a0 13 = z := ⟨_, rfl⟩
  have t28 := ok_R O ta0 rE_11_13 e27
  obtain ⟨v29, e30⟩ : ∃ z, Rv h a0 6 = z := ⟨_, rfl⟩
  have t31 := ok_R O ta0 rE_11_6 e30
  obtain ⟨v32, e33⟩ : ∃ z, Rv h a0 7 = z := ⟨_, rfl⟩
  have t34 := ok_R O ta0 rE_11_7 e33
  have p46 := P_XInv
  unfold XInv at p46
  rw [e2, e6, e9, e13, e16, e20, P_stlp, e23, e27, e30, e33] at p46
  obtain ⟨p35, p36, p37, p38, p39, p40, p41, p42, p43, p44, p45⟩ := p46
  obtain ⟨v47, e48⟩ : ∃ z, Iv h v26 3 = z := ⟨_, rfl⟩
  have f49 := ok_I O t28 rI_7_3 e48
  obtain ⟨v50, e51⟩ : ∃ z, Iv h v26 4 = z := ⟨_, rfl⟩
  have f52 := ok_I O t28 rI_7_4 e51
  rw [e48] at p41
  rw [e51] at p42
  have p53 := p38 (by omega)
  refine hm_go (by decide +kernel) (Nat.le_of_ble_eq_true rfl) (fun p e s m below meth c C hr hn => ?_)
  refine g_aload_n C rfl 0 rfl dX11_leastFoot_0 ?_
  obtain ⟨v54, e55⟩ : ∃ z, Rv h a0 2 = z := ⟨_, rfl⟩
  have t56 := ok_R O ta0 rE_11_2 e55
  refine gf_R C fk_LandSurvey_16 rfl ta0 e55 dX11_leastFoot_1 ?_
  obtain ⟨v57, e58⟩ : ∃ z, Rv h v54 0 = z := ⟨_, rfl⟩
  have t59 := ok_R O t56 rE_3_0 e58
  have l60 := ok_L O t56 rE_3_0 e58
  refine gf_R C fk_LandSurvey_89 rfl t56 e58 dX11_leastFoot_4 ?_
  refine g_iload_n C rfl 1 rfl dX11_leastFoot_7 ?_
  obtain ⟨v61, e62⟩ : ∃ z, Iv h v57 a1.toNat = z := ⟨_, rfl⟩
  have f63 := ok_Ia O t59 ar_12100 rI_12100_0 e62
  refine g_iald C t59 rfl l60 (ix fa1 (by decide) (by decide)) e62 dX11_leastFoot_8 ?_
  refine g_aload_n C rfl 0 rfl dX11_leastFoot_9 ?_
  refine g_iload_n C rfl 1 rfl dX11_leastFoot_10 ?_
  refine g_callI (st := [.inl v61]) (gc_V C lk_LandSurvey_457 (k_X11_greatestHigh l D cy w z0 O ta0 fa1 P_stlp P_XInv) ta0 rfl rfl rfl ⟨by decide, by decide⟩ (Nat.le_of_ble_eq_true rfl) dX11_leastFoot_11 ⟨(by decide), (by decide)⟩) (fun r64 h65 f67 K66 => ?_)
  obtain ⟨O68, F69, f70⟩ := K66
  have f71 : (-2147483648 : Int) ≤ (w32 (v61 - r64)) ∧ (w32 (v61 - r64)) ≤ (2147483647 : Int) := w32_inR _
  refine g_isubW C dX11_leastFoot_14 ?_
  refine g_aload_n C rfl 0 rfl dX11_leastFoot_15 ?_
  have e72 : Tg h65 a0 = 11 := (fxT F69 ta0)
  have e73 : Rv h65 a0 7 = v32 := ((fxR F69 ta0 rfl).trans e33)
  refine gf_R C fk_LandSurvey_44 rfl e72 e73 dX11_leastFoot_16 ?_
  refine g_iload_n C rfl 2 rfl dX11_leastFoot_19 ?_
  refine g_aload_n C rfl 0 rfl dX11_leastFoot_20 ?_
  have e74 : Rv h65 a0 2 = v54 := ((fxR F69 ta0 rfl).trans e55)
  refine gf_R C fk_LandSurvey_16 rfl e72 e74 dX11_leastFoot_21 ?_
  have e75 : Tg h65 v54 = 3 := (fxT F69 t56)
  obtain ⟨v76, e77⟩ : ∃ z, Rv h65 v54 2 = z := ⟨_, rfl⟩
  have t78 := ok_R O68 e75 rE_3_2 e77
  have l79 := ok_L O68 e75 rE_3_2 e77
  refine gf_R C fk_LandSurvey_96 rfl e75 e77 dX11_leastFoot_24 ?_
  refine g_iload_n C rfl 1 rfl dX11_leastFoot_27 ?_
  obtain ⟨v80, e81⟩ : ∃ z, Iv h65 v76 a1.toNat = z := ⟨_, rfl⟩
  have f82 := ok_Ia O68 t78 ar_14101 rI_14101_0 e81
  refine g_zald C t78 rfl l79 (ix fa1 (by decide) (by decide)) e81 dX11_leastFoot_28 ?_
  have e83 : Tg h65 v32 = 6 := (fxT F69 t34)
  refine g_callI (st := [.inl (w32 (v61 - r64))]) (gc_V C lk_LandSurvey_460 (k_X5_underMost l D cy w z0 O68 e83 fa2 f82) e83 rfl rfl rfl ⟨by decide, by decide⟩ (Nat.le_of_ble_eq_true rfl) dX11_leastFoot_29 ⟨(by decide), (by decide)⟩) (fun r84 h85 f87 K86 => ?_)
  obtain ⟨O88, F89, f90⟩ := K86
  have f91 : (-2147483648 : Int) ≤ (w32 ((w32 (v61 - r64)) - r84)) ∧ (w32 ((w32 (v61 - r64)) - r84)) ≤ (2147483647 : Int) := w32_inR _
  refine g_isubW C dX11_leastFoot_32 ?_
  exact g_iret C hr rfl f91 ⟨O88, (((Fx.rf (wr := wr_k_X11_leastFoot)).call F69 rfl).call F89 rfl), f91⟩ (by decide) (by decide) dX11_leastFoot_33
def wr_k_X11_greatestFoot : List Nat := []
set_option maxRecDepth 100000 in
set_option maxHeartbeats 4000000 in
theorem k_X11_greatestFoot (l : Launch) (D : va_G) (cy : Nat → ClassId) (w : Nat → Nat) (z0 : Nat)  {h : Hp} {a0 : Nat} {a1 : Int} {a2 : Int}  (O : Okh h) (ta0 : Tg h a0 = 11) (fa1 : 0 ≤ a1 ∧ a1 ≤ 95) (fa2 : 0 ≤ a2 ∧ a2 ≤ 9) (P_stlp : Iv h a0 15 = 1) (P_XInv : XInv h a0) : MI l D cy w z0 yX11_greatestFoot cX11_greatestFoot 3 (some .int) 2 47 0 0 [.inr (.inr a0), .inl a1, .inl a2] h (fun v h1 => Okh h1 ∧ Fx wr_k_X11_greatestFoot h h1 ∧ ((-2147483648) ≤ v ∧ v ≤ 2147483647)) := by
  obtain ⟨v1, e2⟩ : ∃ z, Rv h a0 3 = z := ⟨_, rfl⟩
  have t3 := ok_R O ta0 rE_11_3 e2
  have l4 := ok_L O ta0 rE_11_3 e2
  obtain ⟨v5, e6⟩ : ∃ z, Iv h a0 4 = z := ⟨_, rfl⟩
  have f7 := ok_I O ta0 rI_11_4 e6
  obtain ⟨v8, e9⟩ : ∃ z, Rv h a0 8 = z := ⟨_, rfl⟩
  have t10 := ok_R O ta0 rE_11_8 e9
  have l11 := ok_L O ta0 rE_11_8 e9
  obtain ⟨v12, e13⟩ : ∃ z, Iv h a0 9 = z := ⟨_, rfl⟩
  have f14 := ok_I O ta0 rI_11_9 e13
  obtain ⟨v15, e16⟩ : ∃ z, Rv h a0 11 = z := ⟨_, rfl⟩
  have t17 := ok_R O ta0 rE_11_11 e16
  have l18 := ok_L O ta0 rE_11_11 e16
  obtain ⟨v19, e20⟩ : ∃ z, Iv h a0 12 = z := ⟨_, rfl⟩
  have f21 := ok_I O ta0 rI_11_12 e20
  obtain ⟨v22, e23⟩ : ∃ z, Rv h a0 14 = z := ⟨_, rfl⟩
  have t24 := ok_R O ta0 rE_11_14 e23
  have l25 := ok_L O ta0 rE_11_14 e23
  obtain ⟨v26, e27⟩ : ∃ z, Rv h a0 13 = z := ⟨_, rfl⟩
  have t28 := ok_R O ta0 rE_11_13 e27
  obtain ⟨v29, e30⟩ : ∃ z, Rv h a0 6 = z := ⟨_, rfl⟩
  have t31 := ok_R O ta0 rE_11_6 e30
  obtain ⟨v32, e33⟩ : ∃ z, Rv h a0 7 = z := ⟨_, rfl⟩
  have t34 := ok_R O ta0 rE_11_7 e33
  have p46 := P_XInv
  unfold XInv at p46
  rw [e2, e6, e9, e13, e16, e20, P_stlp, e23, e27, e30, e33] at p46
  obtain ⟨p35, p36, p37, p38, p39, p40, p41, p42, p43, p44, p45⟩ := p46
  obtain ⟨v47, e48⟩ : ∃ z, Iv h v26 3 = z := ⟨_, rfl⟩
  have f49 := ok_I O t28 rI_7_3 e48
  obtain ⟨v50, e51⟩ : ∃ z, Iv h v26 4 = z := ⟨_, rfl⟩
  have f52 := ok_I O t28 rI_7_4 e51
  rw [e48] at p41
  rw [e51] at p42
  have p53 := p38 (by omega)
  refine hm_go (by decide +kernel) (Nat.le_of_ble_eq_true rfl) (fun p e s m below meth c C hr hn => ?_)
  refine g_aload_n C rfl 0 rfl dX11_greatestFoot_0 ?_
  obtain ⟨v54, e55⟩ : ∃ z, Rv h a0 2 = z := ⟨_, rfl⟩
  have t56 := ok_R O ta0 rE_11_2 e55
  refine gf_R C fk_LandSurvey_16 rfl ta0 e55 dX11_greatestFoot_1 ?_
  obtain ⟨v57, e58⟩ : ∃ z, Rv h v54 0 = z := ⟨_, rfl⟩
  have t59 := ok_R O t56 rE_3_0 e58
  have l60 := ok_L O t56 rE_3_0 e58
  refine gf_R C fk_LandSurvey_89 rfl t56 e58 dX11_greatestFoot_4 ?_
  refine g_iload_n C rfl 1 rfl dX11_greatestFoot_7 ?_
  obtain ⟨v61, e62⟩ : ∃ z, Iv h v57 a1.toNat = z := ⟨_, rfl⟩
  have f63 := ok_Ia O t59 ar_12100 rI_12100_0 e62
  refine g_iald C t59 rfl l60 (ix fa1 (by decide) (by decide)) e62 dX11_greatestFoot_8 ?_
  refine g_aload_n C rfl 0 rfl dX11_greatestFoot_9 ?_
  refine g_iload_n C rfl 1 rfl dX11_greatestFoot_10 ?_
  refine g_callI (st := [.inl v61]) (gc_V C lk_LandSurvey_464 (k_X11_leastLow l D cy w z0 O ta0 fa1 P_stlp P_XInv) ta0 rfl rfl rfl ⟨by decide, by decide⟩ (Nat.le_of_ble_eq_true rfl) dX11_greatestFoot_11 ⟨(by decide), (by decide)⟩) (fun r64 h65 f67 K66 => ?_)
  obtain ⟨O68, F69, f70⟩ := K66
  have f71 : (-2147483648 : Int) ≤ (w32 (v61 - r64)) ∧ (w32 (v61 - r64)) ≤ (2147483647 : Int) := w32_inR _
  refine g_isubW C dX11_greatestFoot_14 ?_
  refine g_aload_n C rfl 0 rfl dX11_greatestFoot_15 ?_
  have e72 : Tg h65 a0 = 11 := (fxT F69 ta0)
  have e73 : Rv h65 a0 7 = v32 := ((fxR F69 ta0 rfl).trans e33)
  refine gf_R C fk_LandSurvey_44 rfl e72 e73 dX11_greatestFoot_16 ?_
  refine g_iload_n C rfl 2 rfl dX11_greatestFoot_19 ?_
  refine g_aload_n C rfl 0 rfl dX11_greatestFoot_20 ?_
  have e74 : Rv h65 a0 2 = v54 := ((fxR F69 ta0 rfl).trans e55)
  refine gf_R C fk_LandSurvey_16 rfl e72 e74 dX11_greatestFoot_21 ?_
  have e75 : Tg h65 v54 = 3 := (fxT F69 t56)
  obtain ⟨v76, e77⟩ : ∃ z, Rv h65 v54 2 = z := ⟨_, rfl⟩
  have t78 := ok_R O68 e75 rE_3_2 e77
  have l79 := ok_L O68 e75 rE_3_2 e77
  refine gf_R C fk_LandSurvey_96 rfl e75 e77 dX11_greatestFoot_24 ?_
  refine g_iload_n C rfl 1 rfl dX11_greatestFoot_27 ?_
  obtain ⟨v80, e81⟩ : ∃ z, Iv h65 v76 a1.toNat = z := ⟨_, rfl⟩
  have f82 := ok_Ia O68 t78 ar_14101 rI_14101_0 e81
  refine g_zald C t78 rfl l79 (ix fa1 (by decide) (by decide)) e81 dX11_greatestFoot_28 ?_
  have e83 : Tg h65 v32 = 6 := (fxT F69 t34)
  refine g_callI (st := [.inl (w32 (v61 - r64))]) (gc_V C lk_LandSurvey_467 (k_X5_underLeast l D cy w z0 O68 e83 fa2 f82) e83 rfl rfl rfl ⟨by decide, by decide⟩ (Nat.le_of_ble_eq_true rfl) dX11_greatestFoot_29 ⟨(by decide), (by decide)⟩) (fun r84 h85 f87 K86 => ?_)
  obtain ⟨O88, F89, f90⟩ := K86
  have f91 : (-2147483648 : Int) ≤ (w32 ((w32 (v61 - r64)) - r84)) ∧ (w32 ((w32 (v61 - r64)) - r84)) ≤ (2147483647 : Int) := w32_inR _
  refine g_isubW C dX11_greatestFoot_32 ?_
  exact g_iret C hr rfl f91 ⟨O88, (((Fx.rf (wr := wr_k_X11_greatestFoot)).call F69 rfl).call F89 rfl), f91⟩ (by decide) (by decide) dX11_greatestFoot_33
def wr_k_X11_leastTop : List Nat := []
set_option maxRecDepth 100000 in
set_option maxHeartbeats 4000000 in
theorem k_X11_leastTop (l : Launch) (D : va_G) (cy : Nat → ClassId) (w : Nat → Nat) (z0 : Nat)  {h : Hp} {a0 : Nat} {a1 : Int} {a2 : Int}  (O : Okh h) (ta0 : Tg h a0 = 11) (fa1 : 0 ≤ a1 ∧ a1 ≤ 95) (fa2 : 0 ≤ a2 ∧ a2 ≤ 9) (P_stlp : Iv h a0 15 = 1) (P_XInv : XInv h a0) : MI l D cy w z0 yX11_leastTop cX11_leastTop 3 (some .int) 3 69 0 0 [.inr (.inr a0), .inl a1, .inl a2] h (fun v h1 => Okh h1 ∧ Fx wr_k_X11_leastTop h h1 ∧ ((-2147483648) ≤ v ∧ v ≤ 2147483647)) := by
  obtain ⟨v1, e2⟩ : ∃ z, Rv h a0 3 = z := ⟨_, rfl⟩
  have t3 := ok_R O ta0 rE_11_3 e2
  have l4 := ok_L O ta0 rE_11_3 e2
  obtain ⟨v5, e6⟩ : ∃ z, Iv h a0 4 = z := ⟨_, rfl⟩
  have f7 := ok_I O ta0 rI_11_4 e6
  obtain ⟨v8, e9⟩ : ∃ z, Rv h a0 8 = z := ⟨_, rfl⟩
  have t10 := ok_R O ta0 rE_11_8 e9
  have l11 := ok_L O ta0 rE_11_8 e9
  obtain ⟨v12, e13⟩ : ∃ z, Iv h a0 9 = z := ⟨_, rfl⟩
  have f14 := ok_I O ta0 rI_11_9 e13
  obtain ⟨v15, e16⟩ : ∃ z, Rv h a0 11 = z := ⟨_, rfl⟩
  have t17 := ok_R O ta0 rE_11_11 e16
  have l18 := ok_L O ta0 rE_11_11 e16
  obtain ⟨v19, e20⟩ : ∃ z, Iv h a0 12 = z := ⟨_, rfl⟩
  have f21 := ok_I O ta0 rI_11_12 e20
  obtain ⟨v22, e23⟩ : ∃ z, Rv h a0 14 = z := ⟨_, rfl⟩
  have t24 := ok_R O ta0 rE_11_14 e23
  have l25 := ok_L O ta0 rE_11_14 e23
  obtain ⟨v26, e27⟩ : ∃ z, Rv h a0 13 = z := ⟨_, rfl⟩
  have t28 := ok_R O ta0 rE_11_13 e27
  obtain ⟨v29, e30⟩ : ∃ z, Rv h a0 6 = z := ⟨_, rfl⟩
  have t31 := ok_R O ta0 rE_11_6 e30
  obtain ⟨v32, e33⟩ : ∃ z, Rv h a0 7 = z := ⟨_, rfl⟩
  have t34 := ok_R O ta0 rE_11_7 e33
  have p46 := P_XInv
  unfold XInv at p46
  rw [e2, e6, e9, e13, e16, e20, P_stlp, e23, e27, e30, e33] at p46
  obtain ⟨p35, p36, p37, p38, p39, p40, p41, p42, p43, p44, p45⟩ := p46
  obtain ⟨v47, e48⟩ : ∃ z, Iv h v26 3 = z := ⟨_, rfl⟩
  have f49 := ok_I O t28 rI_7_3 e48
  obtain ⟨v50, e51⟩ : ∃ z, Iv h v26 4 = z := ⟨_, rfl⟩
  have f52 := ok_I O t28 rI_7_4 e51
  rw [e48] at p41
  rw [e51] at p42
  have p53 := p38 (by omega)
  refine hm_go (by decide +kernel) (Nat.le_of_ble_eq_true rfl) (fun p e s m below meth c C hr hn => ?_)
  refine g_aload_n C rfl 0 rfl dX11_leastTop_0 ?_
  refine g_iload_n C rfl 1 rfl dX11_leastTop_1 ?_
  refine g_iload_n C rfl 2 rfl dX11_leastTop_2 ?_
  refine g_callI (st := []) (gc_V C lk_LandSurvey_293 (k_X11_leastFoot l D cy w z0 O ta0 fa1 fa2 P_stlp P_XInv) ta0 rfl rfl rfl ⟨by decide, by decide⟩ (Nat.le_of_ble_eq_true rfl) dX11_leastTop_3 ⟨(by decide), (by decide)⟩) (fun r54 h55 f57 K56 => ?_)
  obtain ⟨O58, F59, f60⟩ := K56
  refine g_aload_n C rfl 0 rfl dX11_leastTop_6 ?_
  have e61 : Tg h55 a0 = 11 := (fxT F59 ta0)
  have e62 : Rv h55 a0 7 = v32 := ((fxR F59 ta0 rfl).trans e33)
  refine gf_R C fk_LandSurvey_44 rfl e61 e62 dX11_leastTop_7 ?_
  have e63 : Tg h55 v32 = 6 := (fxT F59 t34)
  obtain ⟨v64, e65⟩ : ∃ z, Rv h55 v32 3 = z := ⟨_, rfl⟩
  have t66 := ok_R O58 e63 rE_6_3 e65
  have l67 := ok_L O58 e63 rE_6_3 e65
  refine gf_R C fk_LandSurvey_470 rfl e63 e65 dX11_leastTop_10 ?_
  refine g_iload_n C rfl 2 rfl dX11_leastTop_13 ?_
  obtain ⟨v68, e69⟩ : ∃ z, Iv h55 v64 a2.toNat = z := ⟨_, rfl⟩
  have f70 := ok_Ia O58 t66 ar_25100 rI_25100_0 e69
  refine g_iald C t66 rfl l67 (ix fa2 (by decide) (by decide)) e69 dX11_leastTop_14 ?_
  have f71 : (-2147483648 : Int) ≤ (w32 (r54 - v68)) ∧ (w32 (r54 - v68)) ≤ (2147483647 : Int) := w32_inR _
  refine g_isubW C dX11_leastTop_15 ?_
  exact g_iret C hr rfl f71 ⟨O58, ((Fx.rf (wr := wr_k_X11_leastTop)).call F59 rfl), f71⟩ (by decide) (by decide) dX11_leastTop_16
def wr_k_X11_greatestTop : List Nat := []
set_option maxRecDepth 100000 in
set_option maxHeartbeats 4000000 in
theorem k_X11_greatestTop (l : Launch) (D : va_G) (cy : Nat → ClassId) (w : Nat → Nat) (z0 : Nat)  {h : Hp} {a0 : Nat} {a1 : Int} {a2 : Int}  (O : Okh h) (ta0 : Tg h a0 = 11) (fa1 : 0 ≤ a1 ∧ a1 ≤ 95) (fa2 : 0 ≤ a2 ∧ a2 ≤ 9) (P_stlp : Iv h a0 15 = 1) (P_XInv : XInv h a0) : MI l D cy w z0 yX11_greatestTop cX11_greatestTop 3 (some .int) 3 69 0 0 [.inr (.inr a0), .inl a1, .inl a2] h (fun v h1 => Okh h1 ∧ Fx wr_k_X11_greatestTop h h1 ∧ ((-2147483648) ≤ v ∧ v ≤ 2147483647)) := by
  obtain ⟨v1, e2⟩ : ∃ z, Rv h a0 3 = z := ⟨_, rfl⟩
  have t3 := ok_R O ta0 rE_11_3 e2
  have l4 := ok_L O ta0 rE_11_3 e2
  obtain ⟨v5, e6⟩ : ∃ z, Iv h a0 4 = z := ⟨_, rfl⟩
  have f7 := ok_I O ta0 rI_11_4 e6
  obtain ⟨v8, e9⟩ : ∃ z, Rv h a0 8 = z := ⟨_, rfl⟩
  have t10 := ok_R O ta0 rE_11_8 e9
  have l11 := ok_L O ta0 rE_11_8 e9
  obtain ⟨v12, e13⟩ : ∃ z, Iv h a0 9 = z := ⟨_, rfl⟩
  have f14 := ok_I O ta0 rI_11_9 e13
  obtain ⟨v15, e16⟩ : ∃ z, Rv h a0 11 = z := ⟨_, rfl⟩
  have t17 := ok_R O ta0 rE_11_11 e16
  have l18 := ok_L O ta0 rE_11_11 e16
  obtain ⟨v19, e20⟩ : ∃ z, Iv h a0 12 = z := ⟨_, rfl⟩
  have f21 := ok_I O ta0 rI_11_12 e20
  obtain ⟨v22, e23⟩ : ∃ z, Rv h a0 14 = z := ⟨_, rfl⟩
  have t24 := ok_R O ta0 rE_11_14 e23
  have l25 := ok_L O ta0 rE_11_14 e23
  obtain ⟨v26, e27⟩ : ∃ z, Rv h a0 13 = z := ⟨_, rfl⟩
  have t28 := ok_R O ta0 rE_11_13 e27
  obtain ⟨v29, e30⟩ : ∃ z, Rv h a0 6 = z := ⟨_, rfl⟩
  have t31 := ok_R O ta0 rE_11_6 e30
  obtain ⟨v32, e33⟩ : ∃ z, Rv h a0 7 = z := ⟨_, rfl⟩
  have t34 := ok_R O ta0 rE_11_7 e33
  have p46 := P_XInv
  unfold XInv at p46
  rw [e2, e6, e9, e13, e16, e20, P_stlp, e23, e27, e30, e33] at p46
  obtain ⟨p35, p36, p37, p38, p39, p40, p41, p42, p43, p44, p45⟩ := p46
  obtain ⟨v47, e48⟩ : ∃ z, Iv h v26 3 = z := ⟨_, rfl⟩
  have f49 := ok_I O t28 rI_7_3 e48
  obtain ⟨v50, e51⟩ : ∃ z, Iv h v26 4 = z := ⟨_, rfl⟩
  have f52 := ok_I O t28 rI_7_4 e51
  rw [e48] at p41
  rw [e51] at p42
  have p53 := p38 (by omega)
  refine hm_go (by decide +kernel) (Nat.le_of_ble_eq_true rfl) (fun p e s m below meth c C hr hn => ?_)
  refine g_aload_n C rfl 0 rfl dX11_greatestTop_0 ?_
  refine g_iload_n C rfl 1 rfl dX11_greatestTop_1 ?_
  refine g_iload_n C rfl 2 rfl dX11_greatestTop_2 ?_
  refine g_callI (st := []) (gc_V C lk_LandSurvey_296 (k_X11_greatestFoot l D cy w z0 O ta0 fa1 fa2 P_stlp P_XInv) ta0 rfl rfl rfl ⟨by decide, by decide⟩ (Nat.le_of_ble_eq_true rfl) dX11_greatestTop_3 ⟨(by decide), (by decide)⟩) (fun r54 h55 f57 K56 => ?_)
  obtain ⟨O58, F59, f60⟩ := K56
  refine g_aload_n C rfl 0 rfl dX11_greatestTop_6 ?_
  have e61 : Tg h55 a0 = 11 := (fxT F59 ta0)
  have e62 : Rv h55 a0 7 = v32 := ((fxR F59 ta0 rfl).trans e33)
  refine gf_R C fk_LandSurvey_44 rfl e61 e62 dX11_greatestTop_7 ?_
  have e63 : Tg h55 v32 = 6 := (fxT F59 t34)
  obtain ⟨v64, e65⟩ : ∃ z, Rv h55 v32 2 = z := ⟨_, rfl⟩
  have t66 := ok_R O58 e63 rE_6_2 e65
  have l67 := ok_L O58 e63 rE_6_2 e65
  refine gf_R C fk_LandSurvey_473 rfl e63 e65 dX11_greatestTop_10 ?_
  refine g_iload_n C rfl 2 rfl dX11_greatestTop_13 ?_
  obtain ⟨v68, e69⟩ : ∃ z, Iv h55 v64 a2.toNat = z := ⟨_, rfl⟩
  have f70 := ok_Ia O58 t66 ar_24100 rI_24100_0 e69
  refine g_iald C t66 rfl l67 (ix fa2 (by decide) (by decide)) e69 dX11_greatestTop_14 ?_
  have f71 : (-2147483648 : Int) ≤ (w32 (r54 - v68)) ∧ (w32 (r54 - v68)) ≤ (2147483647 : Int) := w32_inR _
  refine g_isubW C dX11_greatestTop_15 ?_
  exact g_iret C hr rfl f71 ⟨O58, ((Fx.rf (wr := wr_k_X11_greatestTop)).call F59 rfl), f71⟩ (by decide) (by decide) dX11_greatestTop_16
def wr_k_X11_surelyThick : List Nat := []
set_option maxRecDepth 100000 in
set_option maxHeartbeats 4000000 in
theorem k_X11_surelyThick (l : Launch) (D : va_G) (cy : Nat → ClassId) (w : Nat → Nat) (z0 : Nat)  {h : Hp} {a0 : Nat} {a1 : Int} {a2 : Int}  (O : Okh h) (ta0 : Tg h a0 = 11) (fa1 : 0 ≤ a1 ∧ a1 ≤ 95) (fa2 : 0 ≤ a2 ∧ a2 ≤ 9) (P_stlp : Iv h a0 15 = 1) (P_XInv : XInv h a0) : MI l D cy w z0 yX11_surelyThick cX11_surelyThick 3 (some .int) 4 91 0 0 [.inr (.inr a0), .inl a1, .inl a2] h (fun v h1 => Okh h1 ∧ Fx wr_k_X11_surelyThick h h1 ∧ ((-2147483648) ≤ v ∧ v ≤ 2147483647)) := by
  obtain ⟨v1, e2⟩ : ∃ z, Rv h a0 3 = z := ⟨_, rfl⟩
  have t3 := ok_R O ta0 rE_11_3 e2
  have l4 := ok_L O ta0 rE_11_3 e2
  obtain ⟨v5, e6⟩ : ∃ z, Iv h a0 4 = z := ⟨_, rfl⟩
  have f7 := ok_I O ta0 rI_11_4 e6
  obtain ⟨v8, e9⟩ : ∃ z, Rv h a0 8 = z := ⟨_, rfl⟩
  have t10 := ok_R O ta0 rE_11_8 e9
  have l11 := ok_L O ta0 rE_11_8 e9
  obtain ⟨v12, e13⟩ : ∃ z, Iv h a0 9 = z := ⟨_, rfl⟩
  have f14 := ok_I O ta0 rI_11_9 e13
  obtain ⟨v15, e16⟩ : ∃ z, Rv h a0 11 = z := ⟨_, rfl⟩
  have t17 := ok_R O ta0 rE_11_11 e16
  have l18 := ok_L O ta0 rE_11_11 e16
  obtain ⟨v19, e20⟩ : ∃ z, Iv h a0 12 = z := ⟨_, rfl⟩
  have f21 := ok_I O ta0 rI_11_12 e20
  obtain ⟨v22, e23⟩ : ∃ z, Rv h a0 14 = z := ⟨_, rfl⟩
  have t24 := ok_R O ta0 rE_11_14 e23
  have l25 := ok_L O ta0 rE_11_14 e23
  obtain ⟨v26, e27⟩ : ∃ z, Rv h a0 13 = z := ⟨_, rfl⟩
  have t28 := ok_R O ta0 rE_11_13 e27
  obtain ⟨v29, e30⟩ : ∃ z, Rv h a0 6 = z := ⟨_, rfl⟩
  have t31 := ok_R O ta0 rE_11_6 e30
  obtain ⟨v32, e33⟩ : ∃ z, Rv h a0 7 = z := ⟨_, rfl⟩
  have t34 := ok_R O ta0 rE_11_7 e33
  have p46 := P_XInv
  unfold XInv at p46
  rw [e2, e6, e9, e13, e16, e20, P_stlp, e23, e27, e30, e33] at p46
  obtain ⟨p35, p36, p37, p38, p39, p40, p41, p42, p43, p44, p45⟩ := p46
  obtain ⟨v47, e48⟩ : ∃ z, Iv h v26 3 = z := ⟨_, rfl⟩
  have f49 := ok_I O t28 rI_7_3 e48
  obtain ⟨v50, e51⟩ : ∃ z, Iv h v26 4 = z := ⟨_, rfl⟩
  have f52 := ok_I O t28 rI_7_4 e51
  rw [e48] at p41
  rw [e51] at p42
  have p53 := p38 (by omega)
  refine hm_go (by decide +kernel) (Nat.le_of_ble_eq_true rfl) (fun p e s m below meth c C hr hn => ?_)
  refine g_aload_n C rfl 0 rfl dX11_surelyThick_0 ?_
  refine g_iload_n C rfl 1 rfl dX11_surelyThick_1 ?_
  refine g_iload_n C rfl 2 rfl dX11_surelyThick_2 ?_
  refine g_callI (st := []) (gc_V C lk_LandSurvey_278 (k_X11_leastTop l D cy w z0 O ta0 fa1 fa2 P_stlp P_XInv) ta0 rfl rfl rfl ⟨by decide, by decide⟩ (Nat.le_of_ble_eq_true rfl) dX11_surelyThick_3 ⟨(by decide), (by decide)⟩) (fun r54 h55 f57 K56 => ?_)
  obtain ⟨O58, F59, f60⟩ := K56
  refine g_if_lt C f60 21 (by decide) dX11_surelyThick_6 (fun q61 => ?_) (fun q62 => ?_)
  · have f63 : (-2147483648 : Int) ≤ r54 ∧ r54 ≤ (-1 : Int) := r_lt f60 (il 0) q61 (by decide) (by decide)
    refine g_iconst C dX11_surelyThick_21 ?_
    exact g_iret C hr rfl (iw (il 0) (by decide) (by decide)) ⟨O58, ((Fx.rf (wr := wr_k_X11_surelyThick)).call F59 rfl), (iw (il 0) (by decide) (by decide))⟩ (by decide) (by decide) dX11_surelyThick_22
  · have f64 : (0 : Int) ≤ r54 ∧ r54 ≤ (2147483647 : Int) := r_ge f60 (il 0) q62 (by decide) (by decide)
    refine g_aload_n C rfl 0 rfl dX11_surelyThick_9 ?_
    have e65 : Tg h55 a0 = 11 := (fxT F59 ta0)
    have e66 : Rv h55 a0 7 = v32 := ((fxR F59 ta0 rfl).trans e33)
    refine gf_R C fk_LandSurvey_44 rfl e65 e66 dX11_surelyThick_10 ?_
    have e67 : Tg h55 v32 = 6 := (fxT F59 t34)
    obtain ⟨v68, e69⟩ : ∃ z, Rv h55 v32 2 = z := ⟨_, rfl⟩
    have t70 := ok_R O58 e67 rE_6_2 e69
    have l71 := ok_L O58 e67 rE_6_2 e69
    refine gf_R C fk_LandSurvey_473 rfl e67 e69 dX11_surelyThick_13 ?_
    refine g_iload_n C rfl 2 rfl dX11_surelyThick_16 ?_
    obtain ⟨v72, e73⟩ : ∃ z, Iv h55 v68 a2.toNat = z := ⟨_, rfl⟩
    have f74 := ok_Ia O58 t70 ar_24100 rI_24100_0 e73
    refine g_iald C t70 rfl l71 (ix fa2 (by decide) (by decide)) e73 dX11_surelyThick_17 ?_
    refine g_goto C 22 (by decide) dX11_surelyThick_18 ?_
    exact g_iret C hr rfl (iw f74 (by decide) (by decide)) ⟨O58, ((Fx.rf (wr := wr_k_X11_surelyThick)).call F59 rfl), (iw f74 (by decide) (by decide))⟩ (by decide) (by decide) dX11_surelyThick_22
def wr_k_X11_perhapsThick : List Nat := []
set_option maxRecDepth 100000 in
set_option maxHeartbeats 4000000 in
theorem k_X11_perhapsThick (l : Launch) (D : va_G) (cy : Nat → ClassId) (w : Nat → Nat) (z0 : Nat)  {h : Hp} {a0 : Nat} {a1 : Int} {a2 : Int}  (O : Okh h) (ta0 : Tg h a0 = 11) (fa1 : 0 ≤ a1 ∧ a1 ≤ 95) (fa2 : 0 ≤ a2 ∧ a2 ≤ 9) (P_stlp : Iv h a0 15 = 1) (P_XInv : XInv h a0) : MI l D cy w z0 yX11_perhapsThick cX11_perhapsThick 3 (some .int) 3 69 0 0 [.inr (.inr a0), .inl a1, .inl a2] h (fun v h1 => Okh h1 ∧ Fx wr_k_X11_perhapsThick h h1 ∧ ((-2147483648) ≤ v ∧ v ≤ 2147483647)) := by
  obtain ⟨v1, e2⟩ : ∃ z, Rv h a0 3 = z := ⟨_, rfl⟩
  have t3 := ok_R O ta0 rE_11_3 e2
  have l4 := ok_L O ta0 rE_11_3 e2
  obtain ⟨v5, e6⟩ : ∃ z, Iv h a0 4 = z := ⟨_, rfl⟩
  have f7 := ok_I O ta0 rI_11_4 e6
  obtain ⟨v8, e9⟩ : ∃ z, Rv h a0 8 = z := ⟨_, rfl⟩
  have t10 := ok_R O ta0 rE_11_8 e9
  have l11 := ok_L O ta0 rE_11_8 e9
  obtain ⟨v12, e13⟩ : ∃ z, Iv h a0 9 = z := ⟨_, rfl⟩
  have f14 := ok_I O ta0 rI_11_9 e13
  obtain ⟨v15, e16⟩ : ∃ z, Rv h a0 11 = z := ⟨_, rfl⟩
  have t17 := ok_R O ta0 rE_11_11 e16
  have l18 := ok_L O ta0 rE_11_11 e16
  obtain ⟨v19, e20⟩ : ∃ z, Iv h a0 12 = z := ⟨_, rfl⟩
  have f21 := ok_I O ta0 rI_11_12 e20
  obtain ⟨v22, e23⟩ : ∃ z, Rv h a0 14 = z := ⟨_, rfl⟩
  have t24 := ok_R O ta0 rE_11_14 e23
  have l25 := ok_L O ta0 rE_11_14 e23
  obtain ⟨v26, e27⟩ : ∃ z, Rv h a0 13 = z := ⟨_, rfl⟩
  have t28 := ok_R O ta0 rE_11_13 e27
  obtain ⟨v29, e30⟩ : ∃ z, Rv h a0 6 = z := ⟨_, rfl⟩
  have t31 := ok_R O ta0 rE_11_6 e30
  obtain ⟨v32, e33⟩ : ∃ z, Rv h a0 7 = z := ⟨_, rfl⟩
  have t34 := ok_R O ta0 rE_11_7 e33
  have p46 := P_XInv
  unfold XInv at p46
  rw [e2, e6, e9, e13, e16, e20, P_stlp, e23, e27, e30, e33] at p46
  obtain ⟨p35, p36, p37, p38, p39, p40, p41, p42, p43, p44, p45⟩ := p46
  obtain ⟨v47, e48⟩ : ∃ z, Iv h v26 3 = z := ⟨_, rfl⟩
  have f49 := ok_I O t28 rI_7_3 e48
  obtain ⟨v50, e51⟩ : ∃ z, Iv h v26 4 = z := ⟨_, rfl⟩
  have f52 := ok_I O t28 rI_7_4 e51
  rw [e48] at p41
  rw [e51] at p42
  have p53 := p38 (by omega)
  refine hm_go (by decide +kernel) (Nat.le_of_ble_eq_true rfl) (fun p e s m below meth c C hr hn => ?_)
  refine g_aload_n C rfl 0 rfl dX11_perhapsThick_0 ?_
  refine g_iload_n C rfl 1 rfl dX11_perhapsThick_1 ?_
  refine g_iload_n C rfl 2 rfl dX11_perhapsThick_2 ?_
  refine g_callI (st := []) (gc_V C lk_LandSurvey_296 (k_X11_greatestFoot l D cy w z0 O ta0 fa1 fa2 P_stlp P_XInv) ta0 rfl rfl rfl ⟨by decide, by decide⟩ (Nat.le_of_ble_eq_true rfl) dX11_perhapsThick_3 ⟨(by decide), (by decide)⟩) (fun r54 h55 f57 K56 => ?_)
  obtain ⟨O58, F59, f60⟩ := K56
  refine g_if_le C f60 21 (by decide) dX11_perhapsThick_6 (fun q61 => ?_) (fun q62 => ?_)
  · have f63 : (-2147483648 : Int) ≤ r54 ∧ r54 ≤ (0 : Int) := r_le f60 (il 0) q61 (by decide) (by decide)
    refine g_iconst C dX11_perhapsThick_21 ?_
    exact g_iret C hr rfl (iw (il 0) (by decide) (by decide)) ⟨O58, ((Fx.rf (wr := wr_k_X11_perhapsThick)).call F59 rfl), (iw (il 0) (by decide) (by decide))⟩ (by decide) (by decide) dX11_perhapsThick_22
  · have f64 : (1 : Int) ≤ r54 ∧ r54 ≤ (2147483647 : Int) := r_gt f60 (il 0) q62 (by decide) (by decide)
    refine g_aload_n C rfl 0 rfl dX11_perhapsThick_9 ?_
    have e65 : Tg h55 a0 = 11 := (fxT F59 ta0)
    have e66 : Rv h55 a0 7 = v32 := ((fxR F59 ta0 rfl).trans e33)
    refine gf_R C fk_LandSurvey_44 rfl e65 e66 dX11_perhapsThick_10 ?_
    have e67 : Tg h55 v32 = 6 := (fxT F59 t34)
    obtain ⟨v68, e69⟩ : ∃ z, Rv h55 v32 3 = z := ⟨_, rfl⟩
    have t70 := ok_R O58 e67 rE_6_3 e69
    have l71 := ok_L O58 e67 rE_6_3 e69
    refine gf_R C fk_LandSurvey_470 rfl e67 e69 dX11_perhapsThick_13 ?_
    refine g_iload_n C rfl 2 rfl dX11_perhapsThick_16 ?_
    obtain ⟨v72, e73⟩ : ∃ z, Iv h55 v68 a2.toNat = z := ⟨_, rfl⟩
    have f74 := ok_Ia O58 t70 ar_25100 rI_25100_0 e73
    refine g_iald C t70 rfl l71 (ix fa2 (by decide) (by decide)) e73 dX11_perhapsThick_17 ?_
    refine g_goto C 22 (by decide) dX11_perhapsThick_18 ?_
    exact g_iret C hr rfl (iw f74 (by decide) (by decide)) ⟨O58, ((Fx.rf (wr := wr_k_X11_perhapsThick)).call F59 rfl), (iw f74 (by decide) (by decide))⟩ (by decide) (by decide) dX11_perhapsThick_22
def wr_k_X11_doubtIn : List Nat := []
set_option maxRecDepth 100000 in
set_option maxHeartbeats 4000000 in
theorem k_X11_doubtIn (l : Launch) (D : va_G) (cy : Nat → ClassId) (w : Nat → Nat) (z0 : Nat)  {h : Hp} {a0 : Nat} {a1 : Nat}  (O : Okh h) (ta0 : Tg h a0 = 11) (ta1 : Tg h a1 = 2) : MI l D cy w z0 yX11_doubtIn cX11_doubtIn 4 (some .int) 0 0 0 0 [.inr (.inr a0), .inr (.inr a1)] h (fun v h1 => Okh h1 ∧ Fx wr_k_X11_doubtIn h h1 ∧ ((-2147483648) ≤ v ∧ v ≤ 2147483647)) := by
  refine hm_go (by decide +kernel) (Nat.le_of_ble_eq_true rfl) (fun p e s m below meth c C hr hn => ?_)
  refine g_iconst C dX11_doubtIn_0 ?_
  refine g_istore_n C [(2, .inl 0), (0, .inr (.inr a0)), (1, .inr (.inr a1))] rfl (by decide) rfl dX11_doubtIn_1 ?_
  refine g_iconst C dX11_doubtIn_2 ?_
  refine g_istore_n C [(3, .inl 0), (2, .inl 0), (0, .inr (.inr a0)), (1, .inr (.inr a1))] rfl (by decide) rfl dX11_doubtIn_3 ?_
  refine GW.sub [2, 3, 1, 0] rfl ?_
  -- loop at 4
  have L3 : ∀ (μ : Nat) (x1 : Int) (x2 : Int), (96 - x2).toNat = μ → ((-2147483648 : Int) ≤ x1 ∧ x1 ≤ (2147483647 : Int)) → ((0 : Int) ≤ x2 ∧ x2 ≤ (96 : Int)) → GW p l e (rmm 0 0 0 0) s m (List.map toV [.inr (.inr a0), .inr (.inr a1)]).toArray below meth c D cy z0 4 (MQ below (QI D cy z0 (fun v h1 => Okh h1 ∧ Fx wr_k_X11_doubtIn h h1 ∧ ((-2147483648) ≤ v ∧ v ≤ 2147483647))) (List.map toV [.inr (.inr a0), .inr (.inr a1)]).toArray s 0 0 (Aof z0)) 4 [(0, .inr (.inr a0)), (1, .inr (.inr a1)), (2, .inl x1), (3, .inl x2)] [] h 0 0 := by
    intro μ
    induction μ using Nat.strongRecOn with
    | ind μ ih4 =>
      intro x1 x2 hm5 f6 f7
      refine g_iload_n C rfl 3 rfl dX11_doubtIn_4 ?_
      refine g_bipush C (by decide) dX11_doubtIn_5 ?_
      refine g_icmp_ge C (iw f7 (by decide) (by decide)) (iw (il 96) (by decide) (by decide)) 44 (by decide) dX11_doubtIn_7 (fun q8 => ?_) (fun q9 => ?_)
      · have f10 : (96 : Int) ≤ x2 ∧ x2 ≤ (96 : Int) := r_ge f7 (il 96) q8 (by decide) (by decide)
        refine g_iload_n C rfl 2 rfl dX11_doubtIn_44 ?_
        exact g_iret C hr rfl f6 ⟨O, Fx.rf, f6⟩ (by decide) (by decide) dX11_doubtIn_45
      · have f11 : (0 : Int) ≤ x2 ∧ x2 ≤ (95 : Int) := r_lt f7 (il 96) q9 (by decide) (by decide)
        refine g_aload_n C rfl 0 rfl dX11_doubtIn_10 ?_
        obtain ⟨v12, e13⟩ : ∃ z, Rv h a0 2 = z := ⟨_, rfl⟩
        have t14 := ok_R O ta0 rE_11_2 e13
        refine gf_R C fk_LandSurvey_16 rfl ta0 e13 dX11_doubtIn_11 ?_
        obtain ⟨v15, e16⟩ : ∃ z, Rv h v12 4 = z := ⟨_, rfl⟩
        have t17 := ok_R O t14 rE_3_4 e16
        have l18 := ok_L O t14 rE_3_4 e16
        refine gf_R C fk_LandSurvey_331 rfl t14 e16 dX11_doubtIn_14 ?_
        refine g_iload_n C rfl 3 rfl dX11_doubtIn_17 ?_
        obtain ⟨v19, e20⟩ : ∃ z, Iv h v15 x2.toNat = z := ⟨_, rfl⟩
        have f21 := ok_Ia O t17 ar_16101 rI_16101_0 e20
        refine g_zald C t17 rfl l18 (ix f11 (by decide) (by decide)) e20 dX11_doubtIn_18 ?_
        refine g_if_eq C (iw f21 (by decide) (by decide)) 38 (by decide) dX11_doubtIn_19 (fun q22 => ?_) (fun q23 => ?_)
        · have f24 : (0 : Int) ≤ v19 ∧ v19 ≤ (0 : Int) := ii f21 (r_eq (il 0) q22) (by decide) (by decide)
          have f25 : (1 : Int) ≤ (x2 + 1) ∧ (x2 + 1) ≤ (96 : Int) := ia_add f11 (il 1) (by decide) (by decide)
          refine g_iinc C [(3, .inl (x2 + 1)), (0, .inr (.inr a0)), (1, .inr (.inr a1)), (2, .inl x1)] 3 rfl (by decide) rfl dX11_doubtIn_38 ?_
          refine g_goto C 4 (by decide) dX11_doubtIn_41 ?_
          refine GW.sub [1, 2, 3, 0] rfl ?_
          exact ih4 _ (by omega) x1 (x2 + 1) rfl f6 (iw f25 (by decide) (by decide))
        · have f26 : (1 : Int) ≤ v19 ∧ v19 ≤ (1 : Int) := r_nl f21 q23
          refine g_iload_n C rfl 2 rfl dX11_doubtIn_22 ?_
          refine g_aload_n C rfl 1 rfl dX11_doubtIn_23 ?_
          obtain ⟨v27, e28⟩ : ∃ z, Rv h a1 8 = z := ⟨_, rfl⟩
          have t29 := ok_R O ta1 rE_2_8 e28
          have l30 := ok_L O ta1 rE_2_8 e28
          refine gf_R C fk_LandSurvey_250 rfl ta1 e28 dX11_doubtIn_24 ?_
          refine g_iload_n C rfl 3 rfl dX11_doubtIn_27 ?_
          obtain ⟨v31, e32⟩ : ∃ z, Iv h v27 x2.toNat = z := ⟨_, rfl⟩
          have f33 := ok_Ia O t29 ar_11100 rI_11100_0 e32
          refine g_iald C t29 rfl l30 (ix f11 (by decide) (by decide)) e32 dX11_doubtIn_28 ?_
          refine g_aload_n C rfl 1 rfl dX11_doubtIn_29 ?_
          obtain ⟨v34, e35⟩ : ∃ z, Rv h a1 7 = z := ⟨_, rfl⟩
          have t36 := ok_R O ta1 rE_2_7 e35
          have l37 := ok_L O ta1 rE_2_7 e35
          refine gf_R C fk_LandSurvey_247 rfl ta1 e35 dX11_doubtIn_30 ?_
          refine g_iload_n C rfl 3 rfl dX11_doubtIn_33 ?_
          obtain ⟨v38, e39⟩ : ∃ z, Iv h v34 x2.toNat = z := ⟨_, rfl⟩
          have f40 := ok_Ia O t36 ar_10100 rI_10100_0 e39
          refine g_iald C t36 rfl l37 (ix f11 (by decide) (by decide)) e39 dX11_doubtIn_34 ?_
          have f41 : (-2147483648 : Int) ≤ (w32 (v31 - v38)) ∧ (w32 (v31 - v38)) ≤ (2147483647 : Int) := w32_inR _
          refine g_isubW C dX11_doubtIn_35 ?_
          have f42 : (-2147483648 : Int) ≤ (w32 (x1 + (w32 (v31 - v38)))) ∧ (w32 (x1 + (w32 (v31 - v38)))) ≤ (2147483647 : Int) := w32_inR _
          refine g_iaddW C dX11_doubtIn_36 ?_
          refine g_istore_n C [(2, .inl (w32 (x1 + (w32 (v31 - v38))))), (0, .inr (.inr a0)), (1, .inr (.inr a1)), (3, .inl x2)] rfl (by decide) rfl dX11_doubtIn_37 ?_
          have f43 : (1 : Int) ≤ (x2 + 1) ∧ (x2 + 1) ≤ (96 : Int) := ia_add f11 (il 1) (by decide) (by decide)
          refine g_iinc C [(3, .inl (x2 + 1)), (2, .inl (w32 (x1 + (w32 (v31 - v38))))), (0, .inr (.inr a0)), (1, .inr (.inr a1))] 3 rfl (by decide) rfl dX11_doubtIn_38 ?_
          refine g_goto C 4 (by decide) dX11_doubtIn_41 ?_
          refine GW.sub [2, 3, 1, 0] rfl ?_
          exact ih4 _ (by omega) (w32 (x1 + (w32 (v31 - v38)))) (x2 + 1) rfl f42 (iw f43 (by decide) (by decide))
  exact L3 _ 0 0 rfl (iw (il 0) (by decide) (by decide)) (iw (il 0) (by decide) (by decide))
def wr_k_X11_leftIfFound : List Nat := []
set_option maxRecDepth 100000 in
set_option maxHeartbeats 4000000 in
theorem k_X11_leftIfFound (l : Launch) (D : va_G) (cy : Nat → ClassId) (w : Nat → Nat) (z0 : Nat)  {h : Hp} {a0 : Nat} {a1 : Nat} {a2 : Int}  (O : Okh h) (ta0 : Tg h a0 = 11) (ta1 : Tg h a1 = 2) (fa2 : (-2147483648) ≤ a2 ∧ a2 ≤ 2147483647) : MI l D cy w z0 yX11_leftIfFound cX11_leftIfFound 7 (some .int) 1 24 0 0 [.inr (.inr a0), .inr (.inr a1), .inl a2] h (fun v h1 => Okh h1 ∧ Fx wr_k_X11_leftIfFound h h1 ∧ ((-2147483648) ≤ v ∧ v ≤ 2147483647)) := by
  refine hm_go (by decide +kernel) (Nat.le_of_ble_eq_true rfl) (fun p e s m below meth c C hr hn => ?_)
  refine g_iconst C dX11_leftIfFound_0 ?_
  refine g_istore_n C [(3, .inl 0), (0, .inr (.inr a0)), (1, .inr (.inr a1)), (2, .inl a2)] rfl (by decide) rfl dX11_leftIfFound_1 ?_
  refine g_iconst C dX11_leftIfFound_2 ?_
  refine g_istore C [(4, .inl 0), (3, .inl 0), (0, .inr (.inr a0)), (1, .inr (.inr a1)), (2, .inl a2)] (by decide) rfl dX11_leftIfFound_3 ?_
  refine GW.sub [2, 3, 4, 1, 0] rfl ?_
  -- loop at 5
  have L3 : ∀ (μ : Nat) (x1 : Int) (x2 : Int), (96 - x2).toNat = μ → ((-2147483648 : Int) ≤ x1 ∧ x1 ≤ (2147483647 : Int)) → ((0 : Int) ≤ x2 ∧ x2 ≤ (96 : Int)) → GW p l e (rmm 1 24 0 0) s m (List.map toV [.inr (.inr a0), .inr (.inr a1), .inl a2]).toArray below meth c D cy z0 7 (MQ below (QI D cy z0 (fun v h1 => Okh h1 ∧ Fx wr_k_X11_leftIfFound h h1 ∧ ((-2147483648) ≤ v ∧ v ≤ 2147483647))) (List.map toV [.inr (.inr a0), .inr (.inr a1), .inl a2]).toArray s 0 0 (Aof z0)) 5 [(0, .inr (.inr a0)), (1, .inr (.inr a1)), (2, .inl a2), (3, .inl x1), (4, .inl x2)] [] h 0 0 := by
    intro μ
    induction μ using Nat.strongRecOn with
    | ind μ ih4 =>
      intro x1 x2 hm5 f6 f7
      refine g_iload C 4 rfl dX11_leftIfFound_5 ?_
      refine g_bipush C (by decide) dX11_leftIfFound_7 ?_
      refine g_icmp_ge C (iw f7 (by decide) (by decide)) (iw (il 96) (by decide) (by decide)) 87 (by decide) dX11_leftIfFound_9 (fun q8 => ?_) (fun q9 => ?_)
      · have f10 : (96 : Int) ≤ x2 ∧ x2 ≤ (96 : Int) := r_ge f7 (il 96) q8 (by decide) (by decide)
        refine g_iload_n C rfl 3 rfl dX11_leftIfFound_87 ?_
        exact g_iret C hr rfl f6 ⟨O, Fx.rf, f6⟩ (by decide) (by decide) dX11_leftIfFound_88
      · have f11 : (0 : Int) ≤ x2 ∧ x2 ≤ (95 : Int) := r_lt f7 (il 96) q9 (by decide) (by decide)
        refine g_aload_n C rfl 0 rfl dX11_leftIfFound_12 ?_
        obtain ⟨v12, e13⟩ : ∃ z, Rv h a0 2 = z := ⟨_, rfl⟩
        have t14 := ok_R O ta0 rE_11_2 e13
        refine gf_R C fk_LandSurvey_16 rfl ta0 e13 dX11_leftIfFound_13 ?_
        obtain ⟨v15, e16⟩ : ∃ z, Rv h v12 4 = z := ⟨_, rfl⟩
        have t17 := ok_R O t14 rE_3_4 e16
        have l18 := ok_L O t14 rE_3_4 e16
        refine gf_R C fk_LandSurvey_331 rfl t14 e16 dX11_leftIfFound_16 ?_
        refine g_iload C 4 rfl dX11_leftIfFound_19 ?_
        obtain ⟨v19, e20⟩ : ∃ z, Iv h v15 x2.toNat = z := ⟨_, rfl⟩
        have f21 := ok_Ia O t17 ar_16101 rI_16101_0 e20
        refine g_zald C t17 rfl l18 (ix f11 (by decide) (by decide)) e20 dX11_leftIfFound_21 ?_
        refine g_if_eq C (iw f21 (by decide) (by decide)) 81 (by decide) dX11_leftIfFound_22 (fun q22 => ?_) (fun q23 => ?_)
        · have f24 : (0 : Int) ≤ v19 ∧ v19 ≤ (0 : Int) := ii f21 (r_eq (il 0) q22) (by decide) (by decide)
          have f25 : (1 : Int) ≤ (x2 + 1) ∧ (x2 + 1) ≤ (96 : Int) := ia_add f11 (il 1) (by decide) (by decide)
          refine g_iinc C [(4, .inl (x2 + 1)), (0, .inr (.inr a0)), (1, .inr (.inr a1)), (2, .inl a2), (3, .inl x1)] 4 rfl (by decide) rfl dX11_leftIfFound_81 ?_
          refine g_goto C 5 (by decide) dX11_leftIfFound_84 ?_
          refine GW.sub [1, 2, 3, 4, 0] rfl ?_
          exact ih4 _ (by omega) x1 (x2 + 1) rfl f6 (iw f25 (by decide) (by decide))
        · have f26 : (1 : Int) ≤ v19 ∧ v19 ≤ (1 : Int) := r_nl f21 q23
          refine g_aload_n C rfl 1 rfl dX11_leftIfFound_25 ?_
          obtain ⟨v27, e28⟩ : ∃ z, Rv h a1 8 = z := ⟨_, rfl⟩
          have t29 := ok_R O ta1 rE_2_8 e28
          have l30 := ok_L O ta1 rE_2_8 e28
          refine gf_R C fk_LandSurvey_250 rfl ta1 e28 dX11_leftIfFound_26 ?_
          refine g_iload C 4 rfl dX11_leftIfFound_29 ?_
          obtain ⟨v31, e32⟩ : ∃ z, Iv h v27 x2.toNat = z := ⟨_, rfl⟩
          have f33 := ok_Ia O t29 ar_11100 rI_11100_0 e32
          refine g_iald C t29 rfl l30 (ix f11 (by decide) (by decide)) e32 dX11_leftIfFound_31 ?_
          refine g_iload_n C rfl 2 rfl dX11_leftIfFound_32 ?_
          refine g_aload_n C rfl 0 rfl dX11_leftIfFound_33 ?_
          obtain ⟨v34, e35⟩ : ∃ z, Rv h a0 13 = z := ⟨_, rfl⟩
          have t36 := ok_R O ta0 rE_11_13 e35
          refine gf_R C fk_LandSurvey_64 rfl ta0 e35 dX11_leftIfFound_34 ?_
          obtain ⟨v37, e38⟩ : ∃ z, Rv h v34 6 = z := ⟨_, rfl⟩
          have t39 := ok_R O t36 rE_7_6 e38
          have l40 := ok_L O t36 rE_7_6 e38
          refine gf_R C fk_LandSurvey_485 rfl t36 e38 dX11_leftIfFound_37 ?_
          refine g_iload C 4 rfl dX11_leftIfFound_40 ?_
          obtain ⟨v41, e42⟩ : ∃ z, Iv h v37 x2.toNat = z := ⟨_, rfl⟩
          have f43 := ok_Ia O t39 ar_40100 rI_40100_0 e42
          refine g_iald C t39 rfl l40 (ix f11 (by decide) (by decide)) e42 dX11_leftIfFound_42 ?_
          have f44 : (-2147483648 : Int) ≤ (w32 (a2 + v41)) ∧ (w32 (a2 + v41)) ≤ (2147483647 : Int) := w32_inR _
          refine g_iaddW C dX11_leftIfFound_43 ?_
          refine g_mmin C f33 f44 kw_1238 kw_717 kw_158 kw_718 (by decide) (Nat.le_of_ble_eq_true rfl) (by decide) (by decide) dX11_leftIfFound_44 (fun v45 q46 => ?_)
          have f47 : (-2147483648 : Int) ≤ v45 ∧ v45 ≤ (2147483647 : Int) := mm_rng f33 f44 q46 (by decide) (by decide)
          refine g_istore C [(5, .inl v45), (0, .inr (.inr a0)), (1, .inr (.inr a1)), (2, .inl a2), (3, .inl x1), (4, .inl x2)] (by decide) rfl dX11_leftIfFound_47 ?_
          refine g_aload_n C rfl 2 rfl dX11_leftIfFound_49 ?_
          obtain ⟨v48, e49⟩ : ∃ z, Rv h a1 7 = z := ⟨_, rfl⟩
          have t50 := ok_R O ta1 rE_2_7 e49
          have l51 := ok_L O ta1 rE_2_7 e49
          refine gf_R C fk_LandSurvey_247 rfl ta1 e49 dX11_leftIfFound_50 ?_
          refine g_iload C 5 rfl dX11_leftIfFound_53 ?_
          obtain ⟨v52, e53⟩ : ∃ z, Iv h v48 x2.toNat = z := ⟨_, rfl⟩
          have f54 := ok_Ia O t50 ar_10100 rI_10100_0 e53
          refine g_iald C t50 rfl l51 (ix f11 (by decide) (by decide)) e53 dX11_leftIfFound_55 ?_
          refine g_iload_n C rfl 3 rfl dX11_leftIfFound_56 ?_
          refine g_aload_n C rfl 1 rfl dX11_leftIfFound_57 ?_
          refine gf_R C fk_LandSurvey_64 rfl ta0 e35 dX11_leftIfFound_58 ?_
          obtain ⟨v55, e56⟩ : ∃ z, Rv h v34 7 = z := ⟨_, rfl⟩
          have t57 := ok_R O t36 rE_7_7 e56
          have l58 := ok_L O t36 rE_7_7 e56
          refine gf_R C fk_LandSurvey_488 rfl t36 e56 dX11_leftIfFound_61 ?_
          refine g_iload C 5 rfl dX11_leftIfFound_64 ?_
          obtain ⟨v59, e60⟩ : ∃ z, Iv h v55 x2.toNat = z := ⟨_, rfl⟩
          have f61 := ok_Ia O t57 ar_40100 rI_40100_0 e60
          refine g_iald C t57 rfl l58 (ix f11 (by decide) (by decide)) e60 dX11_leftIfFound_66 ?_
          have f62 : (-2147483648 : Int) ≤ (w32 (a2 - v59)) ∧ (w32 (a2 - v59)) ≤ (2147483647 : Int) := w32_inR _
          refine g_isubW C dX11_leftIfFound_67 ?_
          refine g_mmax C f54 f62 kw_1227 kw_714 kw_158 kw_715 (by decide) (Nat.le_of_ble_eq_true rfl) (by decide) (by decide) dX11_leftIfFound_68 (fun v63 q64 => ?_)
          have f65 : (-2147483648 : Int) ≤ v63 ∧ v63 ≤ (2147483647 : Int) := mm_rng f54 f62 q64 (by decide) (by decide)
          refine g_istore C [(6, .inl v63), (5, .inl v45), (0, .inr (.inr a0)), (1, .inr (.inr a1)), (2, .inl a2), (3, .inl x1), (4, .inl x2)] (by decide) rfl dX11_leftIfFound_71 ?_
          refine g_iload_n C rfl 5 rfl dX11_leftIfFound_73 ?_
          refine g_iload C 1 rfl dX11_leftIfFound_74 ?_
          refine g_iload C 0 rfl dX11_leftIfFound_76 ?_
          have f66 : (-2147483648 : Int) ≤ (w32 (v45 - v63)) ∧ (w32 (v45 - v63)) ≤ (2147483647 : Int) := w32_inR _
          refine g_isubW C dX11_leftIfFound_78 ?_
          have f67 : (-2147483648 : Int) ≤ (w32 (x1 + (w32 (v45 - v63)))) ∧ (w32 (x1 + (w32 (v45 - v63)))) ≤ (2147483647 : Int) := w32_inR _
          refine g_iaddW C dX11_leftIfFound_79 ?_
          refine g_istore_n C [(3, .inl (w32 (x1 + (w32 (v45 - v63))))), (6, .inl v63), (5, .inl v45), (0, .inr (.inr a0)), (1, .inr (.inr a1)), (2, .inl a2), (4, .inl x2)] rfl (by decide) rfl dX11_leftIfFound_80 ?_
          have f68 : (1 : Int) ≤ (x2 + 1) ∧ (x2 + 1) ≤ (96 : Int) := ia_add f11 (il 1) (by decide) (by decide)
          refine g_iinc C [(4, .inl (x2 + 1)), (3, .inl (w32 (x1 + (w32 (v45 - v63))))), (6, .inl v63), (5, .inl v45), (0, .inr (.inr a0)), (1, .inr (.inr a1)), (2, .inl a2)] 6 rfl (by decide) rfl dX11_leftIfFound_81 ?_
          refine g_goto C 5 (by decide) dX11_leftIfFound_84 ?_
          refine GW.sub [4, 5, 6, 1, 0] rfl ?_
          exact ih4 _ (by omega) (w32 (x1 + (w32 (v45 - v63)))) (x2 + 1) rfl f67 (iw f68 (by decide) (by decide))
  exact L3 _ 0 0 rfl (iw (il 0) (by decide) (by decide)) (iw (il 0) (by decide) (by decide))
def wr_k_X11_agesQuarrelIn : List Nat := []
set_option maxRecDepth 100000 in
set_option maxHeartbeats 4000000 in
theorem k_X11_agesQuarrelIn (l : Launch) (D : va_G) (cy : Nat → ClassId) (w : Nat → Nat) (z0 : Nat)  {h : Hp} {a0 : Nat} {a1 : Nat}  (O : Okh h) (ta0 : Tg h a0 = 11) (ta1 : Tg h a1 = 9) : MI l D cy w z0 yX11_agesQuarrelIn cX11_agesQuarrelIn 3 (some .boolean) 0 0 0 0 [.inr (.inr a0), .inr (.inr a1)] h (fun v h1 => Okh h1 ∧ Fx wr_k_X11_agesQuarrelIn h h1 ∧ (0 ≤ v ∧ v ≤ 1)) := by
  refine hm_go (by decide +kernel) (Nat.le_of_ble_eq_true rfl) (fun p e s m below meth c C hr hn => ?_)
  refine g_aload_n C rfl 1 rfl dX11_agesQuarrelIn_0 ?_
  obtain ⟨v1, e2⟩ : ∃ z, Iv h a1 14 = z := ⟨_, rfl⟩
  have f3 := ok_I O ta1 rI_9_14 e2
  refine gf_I C fk_LandSurvey_175 rfl ta1 e2 dX11_agesQuarrelIn_1 ?_
  refine g_iconst C dX11_agesQuarrelIn_4 ?_
  refine g_icmp_eq C (iw f3 (by decide) (by decide)) (iw (il (-1)) (by decide) (by decide)) 23 (by decide) dX11_agesQuarrelIn_5 (fun q4 => ?_) (fun q5 => ?_)
  · have f6 : (-1 : Int) ≤ v1 ∧ v1 ≤ (-1 : Int) := ii f3 (r_eq (il (-1)) q4) (by decide) (by decide)
    refine g_iconst C dX11_agesQuarrelIn_23 ?_
    exact g_iret C hr (nar_z2 (iw (il 0) (by decide) (by decide))).1 (iw (il 0) (by decide) (by decide)) ⟨O, Fx.rf, (iw (il 0) (by decide) (by decide))⟩ (by decide) (by decide) dX11_agesQuarrelIn_24
  · have f7 : (0 : Int) ≤ v1 ∧ v1 ≤ (9 : Int) := r_nl f3 q5
    refine g_aload_n C rfl 1 rfl dX11_agesQuarrelIn_8 ?_
    obtain ⟨v8, e9⟩ : ∃ z, Iv h a1 11 = z := ⟨_, rfl⟩
    have f10 := ok_I O ta1 rI_9_11 e9
    refine gf_I C fk_LandSurvey_130 rfl ta1 e9 dX11_agesQuarrelIn_9 ?_
    refine g_iconst C dX11_agesQuarrelIn_12 ?_
    refine g_icmp_eq C (iw f10 (by decide) (by decide)) (iw (il (-1)) (by decide) (by decide)) 23 (by decide) dX11_agesQuarrelIn_13 (fun q11 => ?_) (fun q12 => ?_)
    · have f13 : (-1 : Int) ≤ v8 ∧ v8 ≤ (-1 : Int) := ii f10 (r_eq (il (-1)) q11) (by decide) (by decide)
      refine g_iconst C dX11_agesQuarrelIn_23 ?_
      exact g_iret C hr (nar_z2 (iw (il 0) (by decide) (by decide))).1 (iw (il 0) (by decide) (by decide)) ⟨O, Fx.rf, (iw (il 0) (by decide) (by decide))⟩ (by decide) (by decide) dX11_agesQuarrelIn_24
    · have f14 : (0 : Int) ≤ v8 ∧ v8 ≤ (9 : Int) := r_nl f10 q12
      refine g_aload_n C rfl 1 rfl dX11_agesQuarrelIn_16 ?_
      obtain ⟨v15, e16⟩ : ∃ z, Iv h a1 12 = z := ⟨_, rfl⟩
      have f17 := ok_I O ta1 rI_9_12 e16
      refine gf_I C fk_LandSurvey_133 rfl ta1 e16 dX11_agesQuarrelIn_17 ?_
      refine g_if_eq C (iw f17 (by decide) (by decide)) 25 (by decide) dX11_agesQuarrelIn_20 (fun q18 => ?_) (fun q19 => ?_)
      · have f20 : (0 : Int) ≤ v15 ∧ v15 ≤ (0 : Int) := ii f17 (r_eq (il 0) q18) (by decide) (by decide)
        refine g_aload_n C rfl 0 rfl dX11_agesQuarrelIn_25 ?_
        obtain ⟨v21, e22⟩ : ∃ z, Rv h a0 7 = z := ⟨_, rfl⟩
        have t23 := ok_R O ta0 rE_11_7 e22
        refine gf_R C fk_LandSurvey_44 rfl ta0 e22 dX11_agesQuarrelIn_26 ?_
        obtain ⟨v24, e25⟩ : ∃ z, Rv h v21 11 = z := ⟨_, rfl⟩
        have t26 := ok_R O t23 rE_6_11 e25
        have l27 := ok_L O t23 rE_6_11 e25
        refine gf_R C fk_LandSurvey_426 rfl t23 e25 dX11_agesQuarrelIn_29 ?_
        refine g_aload_n C rfl 1 rfl dX11_agesQuarrelIn_32 ?_
        refine gf_I C fk_LandSurvey_130 rfl ta1 e9 dX11_agesQuarrelIn_33 ?_
        obtain ⟨v28, e29⟩ : ∃ z, Iv h v24 v8.toNat = z := ⟨_, rfl⟩
        have f30 := ok_Ia O t26 ar_28100 rI_28100_0 e29
        refine g_iald C t26 rfl l27 (ix f14 (by decide) (by decide)) e29 dX11_agesQuarrelIn_36 ?_
        refine g_istore_n C [(2, .inl v28), (0, .inr (.inr a0)), (1, .inr (.inr a1))] rfl (by decide) rfl dX11_agesQuarrelIn_37 ?_
        refine g_iload_n C rfl 0 rfl dX11_agesQuarrelIn_38 ?_
        refine g_iconst C dX11_agesQuarrelIn_39 ?_
        refine g_icmp_eq C (iw f30 (by decide) (by decide)) (iw (il (-1)) (by decide) (by decide)) 74 (by decide) dX11_agesQuarrelIn_40 (fun q31 => ?_) (fun q32 => ?_)
        · have f33 : (-1 : Int) ≤ v28 ∧ v28 ≤ (-1 : Int) := ii f30 (r_eq (il (-1)) q31) (by decide) (by decide)
          refine g_iconst C dX11_agesQuarrelIn_74 ?_
          exact g_iret C hr (nar_z2 (iw (il 0) (by decide) (by decide))).1 (iw (il 0) (by decide) (by decide)) ⟨O, Fx.rf, (iw (il 0) (by decide) (by decide))⟩ (by decide) (by decide) dX11_agesQuarrelIn_75
        · have f34 : (0 : Int) ≤ v28 ∧ v28 ≤ (9 : Int) := r_nl f30 q32
          refine g_aload_n C rfl 2 rfl dX11_agesQuarrelIn_43 ?_
          refine gf_I C fk_LandSurvey_175 rfl ta1 e2 dX11_agesQuarrelIn_44 ?_
          refine g_iload_n C rfl 0 rfl dX11_agesQuarrelIn_47 ?_
          refine g_icmp_lt C (iw f7 (by decide) (by decide)) (iw f34 (by decide) (by decide)) 70 (by decide) dX11_agesQuarrelIn_48 (fun q35 => ?_) (fun q36 => ?_)
          · have f37 : (0 : Int) ≤ v1 ∧ v1 ≤ (8 : Int) := r_lt f7 f34 q35 (by decide) (by decide)
            have f38 : (1 : Int) ≤ v28 ∧ v28 ≤ (9 : Int) := r_gt f34 f7 q35 (by decide) (by decide)
            refine g_iconst C dX11_agesQuarrelIn_70 ?_
            refine g_goto C 75 (by decide) dX11_agesQuarrelIn_71 ?_
            exact g_iret C hr (nar_z2 (iw (il 1) (by decide) (by decide))).1 (iw (il 1) (by decide) (by decide)) ⟨O, Fx.rf, (iw (il 1) (by decide) (by decide))⟩ (by decide) (by decide) dX11_agesQuarrelIn_75
          · refine g_aload_n C rfl 2 rfl dX11_agesQuarrelIn_51 ?_
            refine gf_I C fk_LandSurvey_175 rfl ta1 e2 dX11_agesQuarrelIn_52 ?_
            refine g_aload_n C rfl 1 rfl dX11_agesQuarrelIn_55 ?_
            refine gf_R C fk_LandSurvey_44 rfl ta0 e22 dX11_agesQuarrelIn_56 ?_
            obtain ⟨v39, e40⟩ : ∃ z, Rv h v21 12 = z := ⟨_, rfl⟩
            have t41 := ok_R O t23 rE_6_12 e40
            have l42 := ok_L O t23 rE_6_12 e40
            refine gf_R C fk_LandSurvey_429 rfl t23 e40 dX11_agesQuarrelIn_59 ?_
            refine g_aload_n C rfl 2 rfl dX11_agesQuarrelIn_62 ?_
            refine gf_I C fk_LandSurvey_130 rfl ta1 e9 dX11_agesQuarrelIn_63 ?_
            obtain ⟨v43, e44⟩ : ∃ z, Iv h v39 v8.toNat = z := ⟨_, rfl⟩
            have f45 := ok_Ia O t41 ar_29100 rI_29100_0 e44
            refine g_iald C t41 rfl l42 (ix f14 (by decide) (by decide)) e44 dX11_agesQuarrelIn_66 ?_
            refine g_icmp_le C (iw f7 (by decide) (by decide)) (iw f45 (by decide) (by decide)) 74 (by decide) dX11_agesQuarrelIn_67 (fun q46 => ?_) (fun q47 => ?_)
            · refine g_iconst C dX11_agesQuarrelIn_74 ?_
              exact g_iret C hr (nar_z2 (iw (il 0) (by decide) (by decide))).1 (iw (il 0) (by decide) (by decide)) ⟨O, Fx.rf, (iw (il 0) (by decide) (by decide))⟩ (by decide) (by decide) dX11_agesQuarrelIn_75
            · have f48 : (0 : Int) ≤ v43 ∧ v43 ≤ (8 : Int) := r_lt f45 f7 q47 (by decide) (by decide)
              have f49 : (1 : Int) ≤ v1 ∧ v1 ≤ (9 : Int) := r_gt f7 f45 q47 (by decide) (by decide)
              refine g_iconst C dX11_agesQuarrelIn_70 ?_
              refine g_goto C 75 (by decide) dX11_agesQuarrelIn_71 ?_
              exact g_iret C hr (nar_z2 (iw (il 1) (by decide) (by decide))).1 (iw (il 1) (by decide) (by decide)) ⟨O, Fx.rf, (iw (il 1) (by decide) (by decide))⟩ (by decide) (by decide) dX11_agesQuarrelIn_75
      · have f50 : (1 : Int) ≤ v15 ∧ v15 ≤ (1 : Int) := r_nl f17 q19
        refine g_iconst C dX11_agesQuarrelIn_23 ?_
        exact g_iret C hr (nar_z2 (iw (il 0) (by decide) (by decide))).1 (iw (il 0) (by decide) (by decide)) ⟨O, Fx.rf, (iw (il 0) (by decide) (by decide))⟩ (by decide) (by decide) dX11_agesQuarrelIn_24
def wr_k_X11_areDoubles : List Nat := []
set_option maxRecDepth 100000 in
set_option maxHeartbeats 4000000 in
theorem k_X11_areDoubles (l : Launch) (D : va_G) (cy : Nat → ClassId) (w : Nat → Nat) (z0 : Nat)  {h : Hp} {a0 : Nat} {a1 : Nat}  (O : Okh h) (ta0 : Tg h a0 = 9) (ta1 : Tg h a1 = 9) : MI l D cy w z0 yX11_areDoubles cX11_areDoubles 2 (some .boolean) 0 0 0 0 [.inr (.inr a0), .inr (.inr a1)] h (fun v h1 => Okh h1 ∧ Fx wr_k_X11_areDoubles h h1 ∧ (0 ≤ v ∧ v ≤ 1)) := by
  refine hm_go (by decide +kernel) (Nat.le_of_ble_eq_true rfl) (fun p e s m below meth c C hr hn => ?_)
  refine g_aload_n C rfl 0 rfl dX11_areDoubles_0 ?_
  obtain ⟨v1, e2⟩ : ∃ z, Iv h a0 16 = z := ⟨_, rfl⟩
  have f3 := ok_I O ta0 rI_9_16 e2
  refine gf_I C fk_LandSurvey_172 rfl ta0 e2 dX11_areDoubles_1 ?_
  refine g_if_eq C (iw f3 (by decide) (by decide)) 40 (by decide) dX11_areDoubles_4 (fun q4 => ?_) (fun q5 => ?_)
  · have f6 : (0 : Int) ≤ v1 ∧ v1 ≤ (0 : Int) := ii f3 (r_eq (il 0) q4) (by decide) (by decide)
    refine g_iconst C dX11_areDoubles_40 ?_
    exact g_iret C hr (nar_z2 (iw (il 0) (by decide) (by decide))).1 (iw (il 0) (by decide) (by decide)) ⟨O, Fx.rf, (iw (il 0) (by decide) (by decide))⟩ (by decide) (by decide) dX11_areDoubles_41
  · have f7 : (1 : Int) ≤ v1 ∧ v1 ≤ (1 : Int) := r_nl f3 q5
    refine g_aload_n C rfl 1 rfl dX11_areDoubles_7 ?_
    obtain ⟨v8, e9⟩ : ∃ z, Iv h a1 16 = z := ⟨_, rfl⟩
    have f10 := ok_I O ta1 rI_9_16 e9
    refine gf_I C fk_LandSurvey_172 rfl ta1 e9 dX11_areDoubles_8 ?_
    refine g_if_eq C (iw f10 (by decide) (by decide)) 40 (by decide) dX11_areDoubles_11 (fun q11 => ?_) (fun q12 => ?_)
    · have f13 : (0 : Int) ≤ v8 ∧ v8 ≤ (0 : Int) := ii f10 (r_eq (il 0) q11) (by decide) (by decide)
      refine g_iconst C dX11_areDoubles_40 ?_
      exact g_iret C hr (nar_z2 (iw (il 0) (by decide) (by decide))).1 (iw (il 0) (by decide) (by decide)) ⟨O, Fx.rf, (iw (il 0) (by decide) (by decide))⟩ (by decide) (by decide) dX11_areDoubles_41
    · have f14 : (1 : Int) ≤ v8 ∧ v8 ≤ (1 : Int) := r_nl f10 q12
      refine g_aload_n C rfl 0 rfl dX11_areDoubles_14 ?_
      obtain ⟨v15, e16⟩ : ∃ z, Iv h a0 1 = z := ⟨_, rfl⟩
      have f17 := ok_I O ta0 rI_9_1 e16
      refine gf_I C fk_LandSurvey_115 rfl ta0 e16 dX11_areDoubles_15 ?_
      refine g_aload_n C rfl 1 rfl dX11_areDoubles_18 ?_
      obtain ⟨v18, e19⟩ : ∃ z, Iv h a1 1 = z := ⟨_, rfl⟩
      have f20 := ok_I O ta1 rI_9_1 e19
      refine gf_I C fk_LandSurvey_115 rfl ta1 e19 dX11_areDoubles_19 ?_
      refine g_icmp_ne C (iw f17 (by decide) (by decide)) (iw f20 (by decide) (by decide)) 40 (by decide) dX11_areDoubles_22 (fun q21 => ?_) (fun q22 => ?_)
      · refine g_iconst C dX11_areDoubles_40 ?_
        exact g_iret C hr (nar_z2 (iw (il 0) (by decide) (by decide))).1 (iw (il 0) (by decide) (by decide)) ⟨O, Fx.rf, (iw (il 0) (by decide) (by decide))⟩ (by decide) (by decide) dX11_areDoubles_41
      · refine g_aload_n C rfl 0 rfl dX11_areDoubles_25 ?_
        obtain ⟨v23, e24⟩ : ∃ z, Iv h a0 2 = z := ⟨_, rfl⟩
        have f25 := ok_I O ta0 rI_9_2 e24
        refine gf_I C fk_LandSurvey_410 rfl ta0 e24 dX11_areDoubles_26 ?_
        refine g_aload_n C rfl 1 rfl dX11_areDoubles_29 ?_
        obtain ⟨v26, e27⟩ : ∃ z, Iv h a1 2 = z := ⟨_, rfl⟩
        have f28 := ok_I O ta1 rI_9_2 e27
        refine gf_I C fk_LandSurvey_410 rfl ta1 e27 dX11_areDoubles_30 ?_
        refine g_icmp_ne C (iw f25 (by decide) (by decide)) (iw f28 (by decide) (by decide)) 40 (by decide) dX11_areDoubles_33 (fun q29 => ?_) (fun q30 => ?_)
        · refine g_iconst C dX11_areDoubles_40 ?_
          exact g_iret C hr (nar_z2 (iw (il 0) (by decide) (by decide))).1 (iw (il 0) (by decide) (by decide)) ⟨O, Fx.rf, (iw (il 0) (by decide) (by decide))⟩ (by decide) (by decide) dX11_areDoubles_41
        · refine g_iconst C dX11_areDoubles_36 ?_
          refine g_goto C 41 (by decide) dX11_areDoubles_37 ?_
          exact g_iret C hr (nar_z2 (iw (il 1) (by decide) (by decide))).1 (iw (il 1) (by decide) (by decide)) ⟨O, Fx.rf, (iw (il 1) (by decide) (by decide))⟩ (by decide) (by decide) dX11_areDoubles_41
def wr_k_X11_countSaying : List Nat := []
set_option maxRecDepth 100000 in
set_option maxHeartbeats 4000000 in
theorem k_X11_countSaying (l : Launch) (D : va_G) (cy : Nat → ClassId) (w : Nat → Nat) (z0 : Nat)  {h : Hp} {a0 : Nat} {a1 : Int}  (O : Okh h) (ta0 : Tg h a0 = 11) (fa1 : 0 ≤ a1 ∧ a1 ≤ 1) (P_XInv : XInv h a0) : MI l D cy w z0 yX11_countSaying cX11_countSaying 4 (some .int) 1 22 0 0 [.inr (.inr a0), .inl a1] h (fun v h1 => Okh h1 ∧ Fx wr_k_X11_countSaying h h1 ∧ ((-2147483648) ≤ v ∧ v ≤ 2147483647)) := by
  obtain ⟨v1, e2⟩ : ∃ z, Rv h a0 3 = z := ⟨_, rfl⟩
  have t3 := ok_R O ta0 rE_11_3 e2
  have l4 := ok_L O ta0 rE_11_3 e2
  obtain ⟨v5, e6⟩ : ∃ z, Iv h a0 4 = z := ⟨_, rfl⟩
  have f7 := ok_I O ta0 rI_11_4 e6
  obtain ⟨v8, e9⟩ : ∃ z, Rv h a0 8 = z := ⟨_, rfl⟩
  have t10 := ok_R O ta0 rE_11_8 e9
  have l11 := ok_L O ta0 rE_11_8 e9
  obtain ⟨v12, e13⟩ : ∃ z, Iv h a0 9 = z := ⟨_, rfl⟩
  have f14 := ok_I O ta0 rI_11_9 e13
  obtain ⟨v15, e16⟩ : ∃ z, Rv h a0 11 = z := ⟨_, rfl⟩
  have t17 := ok_R O ta0 rE_11_11 e16
  have l18 := ok_L O ta0 rE_11_11 e16
  obtain ⟨v19, e20⟩ : ∃ z, Iv h a0 12 = z := ⟨_, rfl⟩
  have f21 := ok_I O ta0 rI_11_12 e20
  obtain ⟨v22, e23⟩ : ∃ z, Iv h a0 15 = z := ⟨_, rfl⟩
  have f24 := ok_I O ta0 rI_11_15 e23
  obtain ⟨v25, e26⟩ : ∃ z, Rv h a0 14 = z := ⟨_, rfl⟩
  have t27 := ok_R O ta0 rE_11_14 e26
  have l28 := ok_L O ta0 rE_11_14 e26
  obtain ⟨v29, e30⟩ : ∃ z, Rv h a0 13 = z := ⟨_, rfl⟩
  have t31 := ok_R O ta0 rE_11_13 e30
  obtain ⟨v32, e33⟩ : ∃ z, Rv h a0 6 = z := ⟨_, rfl⟩
  have t34 := ok_R O ta0 rE_11_6 e33
  obtain ⟨v35, e36⟩ : ∃ z, Rv h a0 7 = z := ⟨_, rfl⟩
  have t37 := ok_R O ta0 rE_11_7 e36
  have p49 := P_XInv
  unfold XInv at p49
  rw [e2, e6, e9, e13, e16, e20, e23, e26, e30, e33, e36] at p49
  obtain ⟨p38, p39, p40, p41, p42, p43, p44, p45, p46, p47, p48⟩ := p49
  obtain ⟨v50, e51⟩ : ∃ z, Iv h v29 3 = z := ⟨_, rfl⟩
  have f52 := ok_I O t31 rI_7_3 e51
  obtain ⟨v53, e54⟩ : ∃ z, Iv h v29 4 = z := ⟨_, rfl⟩
  have f55 := ok_I O t31 rI_7_4 e54
  rw [e51] at p44
  rw [e54] at p45
  refine hm_go (by decide +kernel) (Nat.le_of_ble_eq_true rfl) (fun p e s m below meth c C hr hn => ?_)
  refine g_iconst C dX11_countSaying_0 ?_
  refine g_istore_n C [(2, .inl 0), (0, .inr (.inr a0)), (1, .inl a1)] rfl (by decide) rfl dX11_countSaying_1 ?_
  refine g_iconst C dX11_countSaying_2 ?_
  refine g_istore_n C [(3, .inl 0), (2, .inl 0), (0, .inr (.inr a0)), (1, .inl a1)] rfl (by decide) rfl dX11_countSaying_3 ?_
  refine GW.sub [2, 3, 1, 0] rfl ?_
  -- loop at 4
  have L59 : ∀ (μ : Nat) (x56 : Int) (x57 : Int) (h58 : Hp), (40 - x57).toNat = μ → Okh h58 → Fx [] h h58 → ((-2147483648 : Int) ≤ x56 ∧ x56 ≤ (2147483647 : Int)) → ((0 : Int) ≤ x57 ∧ x57 ≤ (40 : Int)) → GW p l e (rmm 1 22 0 0) s m (List.map toV [.inr (.inr a0), .inl a1]).toArray below meth c D cy z0 4 (MQ below (QI D cy z0 (fun v h1 => Okh h1 ∧ Fx wr_k_X11_countSaying h h1 ∧ ((-2147483648) ≤ v ∧ v ≤ 2147483647))) (List.map toV [.inr (.inr a0), .inl a1]).toArray s 0 0 (Aof z0)) 4 [(0, .inr (.inr a0)), (1, .inl a1), (2, .inl x56), (3, .inl x57)] [] h58 0 0 := by
    intro μ
    induction μ using Nat.strongRecOn with
    | ind μ ih60 =>
      intro x56 x57 h58 hm61 O62 F63 f64 f65
      refine g_iload_n C rfl 3 rfl dX11_countSaying_4 ?_
      refine g_aload_n C rfl 0 rfl dX11_countSaying_5 ?_
      have e66 : Tg h58 a0 = 11 := (fxT F63 ta0)
      have e67 : Iv h58 a0 4 = v5 := ((fxI F63 ta0 rfl).trans e6)
      refine gf_I C fk_LandSurvey_102 rfl e66 e67 dX11_countSaying_6 ?_
      refine g_icmp_ge C (iw f65 (by decide) (by decide)) (iw f7 (by decide) (by decide)) 50 (by decide) dX11_countSaying_9 (fun q68 => ?_) (fun q69 => ?_)
      · refine g_iload_n C rfl 2 rfl dX11_countSaying_50 ?_
        exact g_iret C hr rfl f64 ⟨O62, ((Fx.rf (wr := wr_k_X11_countSaying)).call F63 rfl), f64⟩ (by decide) (by decide) dX11_countSaying_51
      · have f70 : (0 : Int) ≤ x57 ∧ x57 ≤ (39 : Int) := r_lt f65 f7 q69 (by decide) (by decide)
        have f71 : (1 : Int) ≤ v5 ∧ v5 ≤ (40 : Int) := r_gt f7 f65 q69 (by decide) (by decide)
        refine g_aload_n C rfl 0 rfl dX11_countSaying_12 ?_
        have e72 : Rv h58 a0 3 = v1 := ((fxR F63 ta0 rfl).trans e2)
        refine gf_R C fk_LandSurvey_22 rfl e66 e72 dX11_countSaying_13 ?_
        refine g_iload_n C rfl 3 rfl dX11_countSaying_16 ?_
        have e73 : Tg h58 v1 = 38104 := (fxT F63 t3)
        have e74 : Ln h58 v1 = 40 := ((fxL F63 t3).trans l4)
        obtain ⟨v75, e76⟩ : ∃ z, Rv h58 v1 x57.toNat = z := ⟨_, rfl⟩
        refine g_aald (t := 4) C e73 rfl (by decide) rfl e74 (ix f70 (by decide) (by decide)) e76 dX11_countSaying_17 ?_
        have p77 := (SOK_fx O F63 t3 rfl rfl rfl p38)
        have q78 := nn_get p77.nn (by omega) e76
        have t79 := ok_Na O62 e73 ar_38104 rE_38104_0 e76 q78
        obtain ⟨v80, e81⟩ : ∃ z, Iv h58 v75 16 = z := ⟨_, rfl⟩
        have f82 := ok_I O62 t79 rI_9_16 e81
        refine gf_I C fk_LandSurvey_172 rfl t79 e81 dX11_countSaying_18 ?_
        refine g_if_eq C (iw f82 (by decide) (by decide)) 44 (by decide) dX11_countSaying_21 (fun q83 => ?_) (fun q84 => ?_)
        · have f85 : (0 : Int) ≤ v80 ∧ v80 ≤ (0 : Int) := ii f82 (r_eq (il 0) q83) (by decide) (by decide)
          have f86 : (1 : Int) ≤ (x57 + 1) ∧ (x57 + 1) ≤ (40 : Int) := ia_add f70 (il 1) (by decide) (by decide)
          refine g_iinc C [(3, .inl (x57 + 1)), (0, .inr (.inr a0)), (1, .inl a1), (2, .inl x56)] 3 rfl (by decide) rfl dX11_countSaying_44 ?_
          refine g_goto C 4 (by decide) dX11_countSaying_47 ?_
          refine GW.sub [1, 2, 3, 0] rfl ?_
          exact ih60 _ (by omega) x56 (x57 + 1) h58 rfl O62 F63 f64 (iw f86 (by decide) (by decide))
        · have f87 : (1 : Int) ≤ v80 ∧ v80 ≤ (1 : Int) := r_nl f82 q84
          refine g_iload_n C rfl 1 rfl dX11_countSaying_24 ?_
          refine g_if_eq C (iw fa1 (by decide) (by decide)) 41 (by decide) dX11_countSaying_25 (fun q88 => ?_) (fun q89 => ?_)
          · have f90 : (0 : Int) ≤ a1 ∧ a1 ≤ (0 : Int) := ii fa1 (r_eq (il 0) q88) (by decide) (by decide)
            have f91 : (-2147483648 : Int) ≤ (w32 (x56 + 1)) ∧ (w32 (x56 + 1)) ≤ (2147483647 : Int) := w32_inR _
            refine g_iincW C [(2, .inl (w32 (x56 + 1))), (0, .inr (.inr a0)), (1, .inl a1), (3, .inl x57)] 2 rfl (by decide) rfl dX11_countSaying_41 ?_
            have f92 : (1 : Int) ≤ (x57 + 1) ∧ (x57 + 1) ≤ (40 : Int) := ia_add f70 (il 1) (by decide) (by decide)
            refine g_iinc C [(3, .inl (x57 + 1)), (2, .inl (w32 (x56 + 1))), (0, .inr (.inr a0)), (1, .inl a1)] 3 rfl (by decide) rfl dX11_countSaying_44 ?_
            refine g_goto C 4 (by decide) dX11_countSaying_47 ?_
            refine GW.sub [2, 3, 1, 0] rfl ?_
            exact ih60 _ (by omega) (w32 (x56 + 1)) (x57 + 1) h58 rfl O62 F63 f91 (iw f92 (by decide) (by decide))
          · have f93 : (1 : Int) ≤ a1 ∧ a1 ≤ (1 : Int) := r_nl fa1 q89
            refine g_aload_n C rfl 0 rfl dX11_countSaying_28 ?_
            refine g_aload_n C rfl 0 rfl dX11_countSaying_29 ?_
            refine gf_R C fk_LandSurvey_22 rfl e66 e72 dX11_countSaying_30 ?_
            refine g_iload_n C rfl 3 rfl dX11_countSaying_33 ?_
            refine g_aald (t := 4) C e73 rfl (by decide) rfl e74 (ix f70 (by decide) (by decide)) e76 dX11_countSaying_34 ?_
            refine g_callI (st := []) (gc_V C lk_LandSurvey_181 (k_X11_agesQuarrelIn l D cy w z0 O62 e66 t79) e66 rfl rfl rfl ⟨by decide, by decide⟩ (Nat.le_of_ble_eq_true rfl) dX11_countSaying_35 ⟨(by decide), (by decide)⟩) (fun r94 h95 f97 K96 => ?_)
            obtain ⟨O98, F99, f100⟩ := K96
            refine g_if_eq C (iw f100 (by decide) (by decide)) 44 (by decide) dX11_countSaying_38 (fun q101 => ?_) (fun q102 => ?_)
            · have f103 : (0 : Int) ≤ r94 ∧ r94 ≤ (0 : Int) := ii f100 (r_eq (il 0) q101) (by decide) (by decide)
              have f104 : (1 : Int) ≤ (x57 + 1) ∧ (x57 + 1) ≤ (40 : Int) := ia_add f70 (il 1) (by decide) (by decide)
              refine g_iinc C [(3, .inl (x57 + 1)), (0, .inr (.inr a0)), (1, .inl a1), (2, .inl x56)] 3 rfl (by decide) rfl dX11_countSaying_44 ?_
              refine g_goto C 4 (by decide) dX11_countSaying_47 ?_
              refine GW.sub [1, 2, 3, 0] rfl ?_
              exact ih60 _ (by omega) x56 (x57 + 1) h95 rfl O98 (F63.call F99 rfl) f64 (iw f104 (by decide) (by decide))
            · have f105 : (1 : Int) ≤ r94 ∧ r94 ≤ (1 : Int) := r_nl f100 q102
              have f106 : (-2147483648 : Int) ≤ (w32 (x56 + 1)) ∧ (w32 (x56 + 1)) ≤ (2147483647 : Int) := w32_inR _
              refine g_iincW C [(2, .inl (w32 (x56 + 1))), (0, .inr (.inr a0)), (1, .inl a1), (3, .inl x57)] 2 rfl (by decide) rfl dX11_countSaying_41 ?_
              have f107 : (1 : Int) ≤ (x57 + 1) ∧ (x57 + 1) ≤ (40 : Int) := ia_add f70 (il 1) (by decide) (by decide)
              refine g_iinc C [(3, .inl (x57 + 1)), (2, .inl (w32 (x56 + 1))), (0, .inr (.inr a0)), (1, .inl a1)] 3 rfl (by decide) rfl dX11_countSaying_44 ?_
              refine g_goto C 4 (by decide) dX11_countSaying_47 ?_
              refine GW.sub [2, 3, 1, 0] rfl ?_
              exact ih60 _ (by omega) (w32 (x56 + 1)) (x57 + 1) h95 rfl O98 (F63.call F99 rfl) f106 (iw f107 (by decide) (by decide))
  exact L59 _ 0 0 h rfl O Fx.rf (iw (il 0) (by decide) (by decide)) (iw (il 0) (by decide) (by decide))
def wr_k_X11_isDoubtedInBest : List Nat := [401, 402, 403, 404, 405, 406, 1403, 1404, 1405, 1412, 1813, 1814, 1815, 1816, 1817, 1818, 2003, 2207, 2215, 2216, 2217, 200400, 200407, 200408, 7420000, 8020000, 8220400, 8420400, 8620000, 9020000, 9220400, 9420000, 9821400, 10020000, 1000000002, 1000001002, 1000010100, 1000011100]
set_option maxRecDepth 100000 in
set_option maxHeartbeats 4000000 in
theorem k_X11_isDoubtedInBest (l : Launch) (D : va_G) (cy : Nat → ClassId) (w : Nat → Nat) (z0 : Nat)  {h : Hp} {a0 : Nat} {a1 : Int}  (O : Okh h) (ta0 : Tg h a0 = 11) (fa1 : (-2147483648) ≤ a1 ∧ a1 ≤ 2147483647) (P_XInv : XInv h a0) : MI l D cy w z0 yX11_isDoubtedInBest cX11_isDoubtedInBest 2 (some .boolean) 10 279 48 3216 [.inr (.inr a0), .inl a1] h (fun v h1 => Okh h1 ∧ Fx wr_k_X11_isDoubtedInBest h h1 ∧ (0 ≤ v ∧ v ≤ 1) ∧ (XInv h1 a0)) := by
  obtain ⟨v1, e2⟩ : ∃ z, Rv h a0 3 = z := ⟨_, rfl⟩
  have t3 := ok_R O ta0 rE_11_3 e2
  have l4 := ok_L O ta0 rE_11_3 e2
  obtain ⟨v5, e6⟩ : ∃ z, Iv h a0 4 = z := ⟨_, rfl⟩
  have f7 := ok_I O ta0 rI_11_4 e6
  obtain ⟨v8, e9⟩ : ∃ z, Rv h a0 8 = z := ⟨_, rfl⟩
  have t10 := ok_R O ta0 rE_11_8 e9
  have l11 := ok_L O ta0 rE_11_8 e9
  obtain ⟨v12, e13⟩ : ∃ z, Iv h a0 9 = z := ⟨_, rfl⟩
  have f14 := ok_I O ta0 rI_11_9 e13
  obtain ⟨v15, e16⟩ : ∃ z, Rv h a0 11 = z := ⟨_, rfl⟩
  have t17 := ok_R O ta0 rE_11_11 e16
  have l18 := ok_L O ta0 rE_11_11 e16
  obtain ⟨v19, e20⟩ : ∃ z, Iv h a0 12 = z := ⟨_, rfl⟩
  have f21 := ok_I O ta0 rI_11_12 e20
  obtain ⟨v22, e23⟩ : ∃ z, Iv h a0 15 = z := ⟨_, rfl⟩
  have f24 := ok_I O ta0 rI_11_15 e23
  obtain ⟨v25, e26⟩ : ∃ z, Rv h a0 14 = z := ⟨_, rfl⟩
  have t27 := ok_R O ta0 rE_11_14 e26
  have l28 := ok_L O ta0 rE_11_14 e26
  obtain ⟨v29, e30⟩ : ∃ z, Rv h a0 13 = z := ⟨_, rfl⟩
  have t31 := ok_R O ta0 rE_11_13 e30
  obtain ⟨v32, e33⟩ : ∃ z, Rv h a0 6 = z := ⟨_, rfl⟩
  have t34 := ok_R O ta0 rE_11_6 e33
  obtain ⟨v35, e36⟩ : ∃ z, Rv h a0 7 = z := ⟨_, rfl⟩
  have t37 := ok_R O ta0 rE_11_7 e36
  have p49 := P_XInv
  unfold XInv at p49
  rw [e2, e6, e9, e13, e16, e20, e23, e26, e30, e33, e36] at p49
  obtain ⟨p38, p39, p40, p41, p42, p43, p44, p45, p46, p47, p48⟩ := p49
  obtain ⟨v50, e51⟩ : ∃ z, Iv h v29 3 = z := ⟨_, rfl⟩
  have f52 := ok_I O t31 rI_7_3 e51
  obtain ⟨v53, e54⟩ : ∃ z, Iv h v29 4 = z := ⟨_, rfl⟩
  have f55 := ok_I O t31 rI_7_4 e54
  rw [e51] at p44
  rw [e54] at p45
  refine hm_go (by decide +kernel) (Nat.le_of_ble_eq_true rfl) (fun p e s m below meth c C hr hn => ?_)
  refine g_aload_n C rfl 0 rfl dX11_isDoubtedInBest_0 ?_
  refine g_callI (st := []) (gc_V C lk_LandSurvey_207 (k_X11_judge l D cy w z0 O ta0 P_XInv) ta0 rfl rfl rfl ⟨by decide, by decide⟩ (Nat.le_of_ble_eq_true rfl) dX11_isDoubtedInBest_1 ⟨(by decide), (by decide)⟩) (fun r56 h57 f59 K58 => ?_)
  obtain ⟨O60, F61, f62, p63, p64, p65⟩ := K58
  obtain ⟨v66, e67⟩ : ∃ z, Rv h57 a0 17 = z := ⟨_, rfl⟩
  have e68 : Tg h57 a0 = 11 := (fxT F61 ta0)
  rw [e67] at p65
  have e69 : Rv h57 a0 3 = v1 := ((fxR F61 ta0 rfl).trans e2)
  have e70 : Iv h57 a0 4 = v5 := ((fxI F61 ta0 rfl).trans e6)
  have e71 : Rv h57 a0 8 = v8 := ((fxR F61 ta0 rfl).trans e9)
  have e72 : Iv h57 a0 9 = v12 := ((fxI F61 ta0 rfl).trans e13)
  have e73 : Rv h57 a0 11 = v15 := ((fxR F61 ta0 rfl).trans e16)
  have e74 : Iv h57 a0 12 = v19 := ((fxI F61 ta0 rfl).trans e20)
  have e75 : Rv h57 a0 14 = v25 := ((fxR F61 ta0 rfl).trans e26)
  have e76 : Rv h57 a0 13 = v29 := ((fxR F61 ta0 rfl).trans e30)
  have e77 : Rv h57 a0 6 = v32 := ((fxR F61 ta0 rfl).trans e33)
  obtain ⟨v78, e79⟩ : ∃ z, Rv h57 a0 7 = z := ⟨_, rfl⟩
  have t80 := ok_R O60 e68 rE_11_7 e79
  have p92 := p63
  unfold XInv at p92
  rw [e69, e70, e71, e72, e73, e74, p64, e75, e76, e77, e79] at p92
  obtain ⟨p81, p82, p83, p84, p85, p86, p87, p88, p89, p90, p91⟩ := p92
  obtain ⟨v93, e94⟩ : ∃ z, Iv h57 v29 3 = z := ⟨_, rfl⟩
  have e95 : Tg h57 v29 = 7 := (fxT F61 t31)
  have f96 := ok_I O60 e95 rI_7_3 e94
  obtain ⟨v97, e98⟩ : ∃ z, Iv h57 v29 4 = z := ⟨_, rfl⟩
  have f99 := ok_I O60 e95 rI_7_4 e98
  rw [e94] at p87
  rw [e98] at p88
  have p100 := p84 (by omega)
  refine g_if_eq C (iw f62 (by decide) (by decide)) 22 (by decide) dX11_isDoubtedInBest_4 (fun q101 => ?_) (fun q102 => ?_)
  · have f103 : (0 : Int) ≤ r56 ∧ r56 ≤ (0 : Int) := ii f62 (r_eq (il 0) q101) (by decide) (by decide)
    refine g_iconst C dX11_isDoubtedInBest_22 ?_
    exact g_iret C hr (nar_z2 (iw (il 0) (by decide) (by decide))).1 (iw (il 0) (by decide) (by decide)) ⟨O60, ((Fx.rf (wr := wr_k_X11_isDoubtedInBest)).call F61 rfl), (iw (il 0) (by decide) (by decide)), p63⟩ (by decide) (by decide) dX11_isDoubtedInBest_23
  · have f104 : (1 : Int) ≤ r56 ∧ r56 ≤ (1 : Int) := r_nl f62 q102
    refine g_aload_n C rfl 0 rfl dX11_isDoubtedInBest_7 ?_
    refine gf_R C fk_LandSurvey_214 rfl e68 e67 dX11_isDoubtedInBest_8 ?_
    have q105 := p65 (by omega)
    have t106 := ok_N O60 e68 rE_11_17 e67 q105
    refine g_iload_n C rfl 1 rfl dX11_isDoubtedInBest_11 ?_
    refine g_callI (st := []) (gc_V C lk_LandSurvey_204 (k_X1_doubts l D cy w z0 O60 t106 fa1) t106 rfl rfl rfl ⟨by decide, by decide⟩ (Nat.le_of_ble_eq_true rfl) dX11_isDoubtedInBest_12 ⟨(by decide), (by decide)⟩) (fun r107 h108 f110 K109 => ?_)
    obtain ⟨O111, F112, f113⟩ := K109
    refine g_if_eq C (iw f113 (by decide) (by decide)) 22 (by decide) dX11_isDoubtedInBest_15 (fun q114 => ?_) (fun q115 => ?_)
    · have f116 : (0 : Int) ≤ r107 ∧ r107 ≤ (0 : Int) := ii f113 (r_eq (il 0) q114) (by decide) (by decide)
      refine g_iconst C dX11_isDoubtedInBest_22 ?_
      have p117 := (XInv_fx O60 F112 e68 rfl p63)
      exact g_iret C hr (nar_z2 (iw (il 0) (by decide) (by decide))).1 (iw (il 0) (by decide) (by decide)) ⟨O111, (((Fx.rf (wr := wr_k_X11_isDoubtedInBest)).call F61 rfl).call F112 rfl), (iw (il 0) (by decide) (by decide)), p117⟩ (by decide) (by decide) dX11_isDoubtedInBest_23
    · have f118 : (1 : Int) ≤ r107 ∧ r107 ≤ (1 : Int) := r_nl f113 q115
      refine g_iconst C dX11_isDoubtedInBest_18 ?_
      refine g_goto C 23 (by decide) dX11_isDoubtedInBest_19 ?_
      have p119 := (XInv_fx O60 F112 e68 rfl p63)
      exact g_iret C hr (nar_z2 (iw (il 1) (by decide) (by decide))).1 (iw (il 1) (by decide) (by decide)) ⟨O111, (((Fx.rf (wr := wr_k_X11_isDoubtedInBest)).call F61 rfl).call F112 rfl), (iw (il 1) (by decide) (by decide)), p119⟩ (by decide) (by decide) dX11_isDoubtedInBest_23
def wr_k_X11_groundOf : List Nat := [401, 402, 403, 404, 405, 406, 1403, 1404, 1405, 1412, 1813, 1814, 1815, 1816, 1817, 1818, 2003, 2207, 2215, 2216, 200400, 200407, 200408, 7420000, 8020000, 8220400, 8420400, 8620000, 9020000, 9220400, 9420000, 9821400, 10020000, 1000000002, 1000001002, 1000010100, 1000011100]
set_option maxRecDepth 100000 in
set_option maxHeartbeats 4000000 in
theorem k_X11_groundOf (l : Launch) (D : va_G) (cy : Nat → ClassId) (w : Nat → Nat) (z0 : Nat)  {h : Hp} {a0 : Nat} {a1 : Int}  (O : Okh h) (ta0 : Tg h a0 = 11) (fa1 : (-2147483648) ≤ a1 ∧ a1 ≤ 2147483647) (P_XInv : XInv h a0) : MR l D cy w z0 yX11_groundOf cX11_groundOf 3 (some (.object "LandSurvey$Ground")) 9 257 48 3216 [.inr (.inr a0), .inl a1] h (fun v h1 => Okh h1 ∧ Fx wr_k_X11_groundOf h h1 ∧ (XInv h1 a0) ∧ (v = 0 ∨ Tg h1 v = 2)) := by
  obtain ⟨v1, e2⟩ : ∃ z, Rv h a0 3 = z := ⟨_, rfl⟩
  have t3 := ok_R O ta0 rE_11_3 e2
  have l4 := ok_L O ta0 rE_11_3 e2
  obtain ⟨v5, e6⟩ : ∃ z, Iv h a0 4 = z := ⟨_, rfl⟩
  have f7 := ok_I O ta0 rI_11_4 e6
  obtain ⟨v8, e9⟩ : ∃ z, Rv h a0 8 = z := ⟨_, rfl⟩
  have t10 := ok_R O ta0 rE_11_8 e9
  have l11 := ok_L O ta0 rE_11_8 e9
  obtain ⟨v12, e13⟩ : ∃ z, Iv h a0 9 = z := ⟨_, rfl⟩
  have f14 := ok_I O ta0 rI_11_9 e13
  obtain ⟨v15, e16⟩ : ∃ z, Rv h a0 11 = z := ⟨_, rfl⟩
  have t17 := ok_R O ta0 rE_11_11 e16
  have l18 := ok_L O ta0 rE_11_11 e16
  obtain ⟨v19, e20⟩ : ∃ z, Iv h a0 12 = z := ⟨_, rfl⟩
  have f21 := ok_I O ta0 rI_11_12 e20
  obtain ⟨v22, e23⟩ : ∃ z, Iv h a0 15 = z := ⟨_, rfl⟩
  have f24 := ok_I O ta0 rI_11_15 e23
  obtain ⟨v25, e26⟩ : ∃ z, Rv h a0 14 = z := ⟨_, rfl⟩
  have t27 := ok_R O ta0 rE_11_14 e26
  have l28 := ok_L O ta0 rE_11_14 e26
  obtain ⟨v29, e30⟩ : ∃ z, Rv h a0 13 = z := ⟨_, rfl⟩
  have t31 := ok_R O ta0 rE_11_13 e30
  obtain ⟨v32, e33⟩ : ∃ z, Rv h a0 6 = z := ⟨_, rfl⟩
  have t34 := ok_R O ta0 rE_11_6 e33
  obtain ⟨v35, e36⟩ : ∃ z, Rv h a0 7 = z := ⟨_, rfl⟩
  have t37 := ok_R O ta0 rE_11_7 e36
  have p49 := P_XInv
  unfold XInv at p49
  rw [e2, e6, e9, e13, e16, e20, e23, e26, e30, e33, e36] at p49
  obtain ⟨p38, p39, p40, p41, p42, p43, p44, p45, p46, p47, p48⟩ := p49
  obtain ⟨v50, e51⟩ : ∃ z, Iv h v29 3 = z := ⟨_, rfl⟩
  have f52 := ok_I O t31 rI_7_3 e51
  obtain ⟨v53, e54⟩ : ∃ z, Iv h v29 4 = z := ⟨_, rfl⟩
  have f55 := ok_I O t31 rI_7_4 e54
  rw [e51] at p44
  rw [e54] at p45
  refine hm_go (by decide +kernel) (Nat.le_of_ble_eq_true rfl) (fun p e s m below meth c C hr hn => ?_)
  refine g_aload_n C rfl 0 rfl dX11_groundOf_0 ?_
  refine g_iload_n C rfl 1 rfl dX11_groundOf_1 ?_
  refine g_callI (st := []) (gc_V C lk_LandSurvey_231 (k_X11_isSet l D cy w z0 O ta0 fa1) ta0 rfl rfl rfl ⟨by decide, by decide⟩ (Nat.le_of_ble_eq_true rfl) dX11_groundOf_2 ⟨(by decide), (by decide)⟩) (fun r56 h57 f59 K58 => ?_)
  obtain ⟨O60, F61, f62, p63⟩ := K58
  rw [e13] at p63
  have f64 : (1 : Int) ≤ (bShl 1 v12) ∧ (bShl 1 v12) ≤ (16 : Int) := bShl_4 f14
  refine g_if_ne C (iw f62 (by decide) (by decide)) 10 (by decide) dX11_groundOf_5 (fun q65 => ?_) (fun q66 => ?_)
  · have f67 : (1 : Int) ≤ r56 ∧ r56 ≤ (1 : Int) := r_nl f62 q65
    refine g_aload_n C rfl 0 rfl dX11_groundOf_10 ?_
    have e68 : Tg h57 a0 = 11 := (fxT F61 ta0)
    have p69 := (XInv_fx O F61 ta0 rfl P_XInv)
    refine g_callV (st := []) (gc_V C lk_LandSurvey_169 (k_X11_settle l D cy w z0 O60 e68 p69) e68 rfl rfl rfl ⟨by decide, by decide⟩ (Nat.le_of_ble_eq_true rfl) dX11_groundOf_11 ⟨(by decide), (by decide)⟩) (fun h71 K72 => ?_)
    obtain ⟨O74, F75, p76, p77⟩ := K72
    have e78 : Rv h71 a0 3 = v1 := ((fxR F75 e68 rfl).trans ((fxR F61 ta0 rfl).trans e2))
    have e79 : Iv h71 a0 4 = v5 := ((fxI F75 e68 rfl).trans ((fxI F61 ta0 rfl).trans e6))
    have e80 : Rv h71 a0 8 = v8 := ((fxR F75 e68 rfl).trans ((fxR F61 ta0 rfl).trans e9))
    have e81 : Iv h71 a0 9 = v12 := ((fxI F75 e68 rfl).trans ((fxI F61 ta0 rfl).trans e13))
    have e82 : Rv h71 a0 11 = v15 := ((fxR F75 e68 rfl).trans ((fxR F61 ta0 rfl).trans e16))
    have e83 : Iv h71 a0 12 = v19 := ((fxI F75 e68 rfl).trans ((fxI F61 ta0 rfl).trans e20))
    have e84 : Rv h71 a0 14 = v25 := ((fxR F75 e68 rfl).trans ((fxR F61 ta0 rfl).trans e26))
    have e85 : Rv h71 a0 13 = v29 := ((fxR F75 e68 rfl).trans ((fxR F61 ta0 rfl).trans e30))
    have e86 : Rv h71 a0 6 = v32 := ((fxR F75 e68 rfl).trans ((fxR F61 ta0 rfl).trans e33))
    obtain ⟨v87, e88⟩ : ∃ z, Rv h71 a0 7 = z := ⟨_, rfl⟩
    have e89 : Tg h71 a0 = 11 := (fxT F75 e68)
    have t90 := ok_R O74 e89 rE_11_7 e88
    have p102 := p76
    unfold XInv at p102
    rw [e78, e79, e80, e81, e82, e83, p77, e84, e85, e86, e88] at p102
    obtain ⟨p91, p92, p93, p94, p95, p96, p97, p98, p99, p100, p101⟩ := p102
    have e103 : Tg h57 v29 = 7 := (fxT F61 t31)
    obtain ⟨v104, e105⟩ : ∃ z, Iv h71 v29 3 = z := ⟨_, rfl⟩
    have e106 : Tg h71 v29 = 7 := (fxT F75 e103)
    have f107 := ok_I O74 e106 rI_7_3 e105
    obtain ⟨v108, e109⟩ : ∃ z, Iv h71 v29 4 = z := ⟨_, rfl⟩
    have f110 := ok_I O74 e106 rI_7_4 e109
    rw [e105] at p97
    rw [e109] at p98
    have p111 := p94 (by omega)
    refine g_aload_n C rfl 0 rfl dX11_groundOf_14 ?_
    refine gf_R C fk_LandSurvey_70 rfl e89 e84 dX11_groundOf_15 ?_
    refine g_iload_n C rfl 1 rfl dX11_groundOf_18 ?_
    have e112 : Tg h71 v25 = 49107 := (fxT F75 (fxT F61 t27))
    have e113 : Tg h57 v25 = 49107 := (fxT F61 t27)
    have e114 : Ln h71 v25 = 16 := ((fxL F75 e113).trans ((fxL F61 t27).trans l28))
    obtain ⟨v115, e116⟩ : ∃ z, Rv h71 v25 a1.toNat = z := ⟨_, rfl⟩
    refine g_aald (t := 7) C e112 rfl (by decide) rfl e114 (by omega) e116 dX11_groundOf_19 ?_
    have q117 := nn_get p111 (by omega) e116
    have t118 := ok_Na O74 e112 ar_49107 rE_49107_0 e116 q117
    refine g_astore_n C [(2, .inr (.inr v115)), (0, .inr (.inr a0)), (1, .inl a1)] rfl (by decide) rfl dX11_groundOf_20 ?_
    refine g_aload_n C rfl 0 rfl dX11_groundOf_21 ?_
    obtain ⟨v119, e120⟩ : ∃ z, Iv h71 v115 1 = z := ⟨_, rfl⟩
    have f121 := ok_I O74 t118 rI_2_1 e120
    refine gf_I C fk_LandSurvey_389 rfl t118 e120 dX11_groundOf_22 ?_
    refine g_if_ne C (iw f121 (by decide) (by decide)) 36 (by decide) dX11_groundOf_25 (fun q122 => ?_) (fun q123 => ?_)
    · have f124 : (1 : Int) ≤ v119 ∧ v119 ≤ (1 : Int) := r_nl f121 q122
      refine g_aload_n C rfl 0 rfl dX11_groundOf_36 ?_
      obtain ⟨v125, e126⟩ : ∃ z, Iv h71 v115 2 = z := ⟨_, rfl⟩
      have f127 := ok_I O74 t118 rI_2_2 e126
      refine gf_I C fk_LandSurvey_435 rfl t118 e126 dX11_groundOf_37 ?_
      refine g_if_eq C (iw f127 (by decide) (by decide)) 47 (by decide) dX11_groundOf_40 (fun q128 => ?_) (fun q129 => ?_)
      · have f130 : (0 : Int) ≤ v125 ∧ v125 ≤ (0 : Int) := ii f127 (r_eq (il 0) q128) (by decide) (by decide)
        refine g_null C dX11_groundOf_47 ?_
        exact g_aret C hr (Or.inl ⟨_, rfl⟩) ⟨O74, (((Fx.rf (wr := wr_k_X11_groundOf)).call F61 rfl).call F75 rfl), p76, (Or.inl rfl)⟩ (by decide) (by decide) dX11_groundOf_48
      · have f131 : (1 : Int) ≤ v125 ∧ v125 ≤ (1 : Int) := r_nl f127 q129
        refine g_aload_n C rfl 0 rfl dX11_groundOf_43 ?_
        refine g_goto C 48 (by decide) dX11_groundOf_44 ?_
        exact g_aret C hr (Or.inl ⟨_, rfl⟩) ⟨O74, (((Fx.rf (wr := wr_k_X11_groundOf)).call F61 rfl).call F75 rfl), p76, (Or.inr t118)⟩ (by decide) (by decide) dX11_groundOf_48
    · have f132 : (0 : Int) ≤ v119 ∧ v119 ≤ (0 : Int) := ii f121 (r_eq (il 0) q123) (by decide) (by decide)
      refine g_aload_n C rfl 1 rfl dX11_groundOf_28 ?_
      refine gf_R C fk_LandSurvey_64 rfl e89 e85 dX11_groundOf_29 ?_
      refine g_aload_n C rfl 0 rfl dX11_groundOf_32 ?_
      refine g_callV (st := []) (gc_V C lk_LandSurvey_432 (k_X6_solve l D cy w z0 O74 e106 t118 ⟨by rw [p95, e105]; exact (SOK_le p91 p97), by rw [p96, e109]; exact (BOK_le p92 p98)⟩) e106 rfl rfl rfl ⟨by decide, by decide⟩ (Nat.le_of_ble_eq_true rfl) dX11_groundOf_33 ⟨(by decide), (by decide)⟩) (fun h134 K135 => ?_)
      obtain ⟨O137, F138⟩ := K135
      refine g_aload_n C rfl 0 rfl dX11_groundOf_36 ?_
      have e139 : Tg h134 v115 = 2 := (fxT F138 t118)
      obtain ⟨v140, e141⟩ : ∃ z, Iv h134 v115 2 = z := ⟨_, rfl⟩
      have f142 := ok_I O137 e139 rI_2_2 e141
      refine gf_I C fk_LandSurvey_435 rfl e139 e141 dX11_groundOf_37 ?_
      refine g_if_eq C (iw f142 (by decide) (by decide)) 47 (by decide) dX11_groundOf_40 (fun q143 => ?_) (fun q144 => ?_)
      · have f145 : (0 : Int) ≤ v140 ∧ v140 ≤ (0 : Int) := ii f142 (r_eq (il 0) q143) (by decide) (by decide)
        refine g_null C dX11_groundOf_47 ?_
        have p146 := (XInv_fx O74 F138 e89 rfl p76)
        exact g_aret C hr (Or.inl ⟨_, rfl⟩) ⟨O137, ((((Fx.rf (wr := wr_k_X11_groundOf)).call F61 rfl).call F75 rfl).call F138 rfl), p146, (Or.inl rfl)⟩ (by decide) (by decide) dX11_groundOf_48
      · have f147 : (1 : Int) ≤ v140 ∧ v140 ≤ (1 : Int) := r_nl f142 q144
        refine g_aload_n C rfl 0 rfl dX11_groundOf_43 ?_
        refine g_goto C 48 (by decide) dX11_groundOf_44 ?_
        have p148 := (XInv_fx O74 F138 e89 rfl p76)
        exact g_aret C hr (Or.inl ⟨_, rfl⟩) ⟨O137, ((((Fx.rf (wr := wr_k_X11_groundOf)).call F61 rfl).call F75 rfl).call F138 rfl), p148, (Or.inr e139)⟩ (by decide) (by decide) dX11_groundOf_48
  · have f149 : (0 : Int) ≤ r56 ∧ r56 ≤ (0 : Int) := ii f62 (r_eq (il 0) q66) (by decide) (by decide)
    refine g_null C dX11_groundOf_8 ?_
    have p150 := (XInv_fx O F61 ta0 rfl P_XInv)
    exact g_aret C hr (Or.inl ⟨_, rfl⟩) ⟨O60, ((Fx.rf (wr := wr_k_X11_groundOf)).call F61 rfl), p150, (Or.inl rfl)⟩ (by decide) (by decide) dX11_groundOf_9
def wr_k_X11_knownBest : List Nat := [401, 402, 403, 404, 405, 406, 1403, 1404, 1405, 1412, 1813, 1814, 1815, 1816, 1817, 1818, 2003, 2207, 2215, 2216, 2217, 200400, 200407, 200408, 2020000, 2220000, 7420000, 8020000, 8220400, 8420400, 8620000, 9020000, 9220400, 9420000, 9821400, 10020000, 1000000002, 1000001002, 1000010100, 1000011100]
set_option maxRecDepth 100000 in
set_option maxHeartbeats 4000000 in
theorem k_X11_knownBest (l : Launch) (D : va_G) (cy : Nat → ClassId) (w : Nat → Nat) (z0 : Nat)  {h : Hp} {a0 : Nat}  (O : Okh h) (ta0 : Tg h a0 = 11) (P_XInv : XInv h a0) : MR l D cy w z0 yX11_knownBest cX11_knownBest 1 (some (.object "LandSurvey$Ground")) 10 279 48 3216 [.inr (.inr a0)] h (fun v h1 => Okh h1 ∧ Fx wr_k_X11_knownBest h h1 ∧ (XInv h1 a0) ∧ (v = 0 ∨ Tg h1 v = 2)) := by
  obtain ⟨v1, e2⟩ : ∃ z, Rv h a0 3 = z := ⟨_, rfl⟩
  have t3 := ok_R O ta0 rE_11_3 e2
  have l4 := ok_L O ta0 rE_11_3 e2
  obtain ⟨v5, e6⟩ : ∃ z, Iv h a0 4 = z := ⟨_, rfl⟩
  have f7 := ok_I O ta0 rI_11_4 e6
  obtain ⟨v8, e9⟩ : ∃ z, Rv h a0 8 = z := ⟨_, rfl⟩
  have t10 := ok_R O ta0 rE_11_8 e9
  have l11 := ok_L O ta0 rE_11_8 e9
  obtain ⟨v12, e13⟩ : ∃ z, Iv h a0 9 = z := ⟨_, rfl⟩
  have f14 := ok_I O ta0 rI_11_9 e13
  obtain ⟨v15, e16⟩ : ∃ z, Rv h a0 11 = z := ⟨_, rfl⟩
  have t17 := ok_R O ta0 rE_11_11 e16
  have l18 := ok_L O ta0 rE_11_11 e16
  obtain ⟨v19, e20⟩ : ∃ z, Iv h a0 12 = z := ⟨_, rfl⟩
  have f21 := ok_I O ta0 rI_11_12 e20
  obtain ⟨v22, e23⟩ : ∃ z, Iv h a0 15 = z := ⟨_, rfl⟩
  have f24 := ok_I O ta0 rI_11_15 e23
  obtain ⟨v25, e26⟩ : ∃ z, Rv h a0 14 = z := ⟨_, rfl⟩
  have t27 := ok_R O ta0 rE_11_14 e26
  have l28 := ok_L O ta0 rE_11_14 e26
  obtain ⟨v29, e30⟩ : ∃ z, Rv h a0 13 = z := ⟨_, rfl⟩
  have t31 := ok_R O ta0 rE_11_13 e30
  obtain ⟨v32, e33⟩ : ∃ z, Rv h a0 6 = z := ⟨_, rfl⟩
  have t34 := ok_R O ta0 rE_11_6 e33
  obtain ⟨v35, e36⟩ : ∃ z, Rv h a0 7 = z := ⟨_, rfl⟩
  have t37 := ok_R O ta0 rE_11_7 e36
  have p49 := P_XInv
  unfold XInv at p49
  rw [e2, e6, e9, e13, e16, e20, e23, e26, e30, e33, e36] at p49
  obtain ⟨p38, p39, p40, p41, p42, p43, p44, p45, p46, p47, p48⟩ := p49
  obtain ⟨v50, e51⟩ : ∃ z, Iv h v29 3 = z := ⟨_, rfl⟩
  have f52 := ok_I O t31 rI_7_3 e51
  obtain ⟨v53, e54⟩ : ∃ z, Iv h v29 4 = z := ⟨_, rfl⟩
  have f55 := ok_I O t31 rI_7_4 e54
  rw [e51] at p44
  rw [e54] at p45
  refine hm_go (by decide +kernel) (Nat.le_of_ble_eq_true rfl) (fun p e s m below meth c C hr hn => ?_)
  refine g_aload_n C rfl 0 rfl dX11_knownBest_0 ?_
  refine g_callI (st := []) (gc_V C lk_LandSurvey_207 (k_X11_judge l D cy w z0 O ta0 P_XInv) ta0 rfl rfl rfl ⟨by decide, by decide⟩ (Nat.le_of_ble_eq_true rfl) dX11_knownBest_1 ⟨(by decide), (by decide)⟩) (fun r56 h57 f59 K58 => ?_)
  obtain ⟨O60, F61, f62, p63, p64, p65⟩ := K58
  obtain ⟨v66, e67⟩ : ∃ z, Rv h57 a0 17 = z := ⟨_, rfl⟩
  have e68 : Tg h57 a0 = 11 := (fxT F61 ta0)
  rw [e67] at p65
  have e69 : Rv h57 a0 3 = v1 := ((fxR F61 ta0 rfl).trans e2)
  have e70 : Iv h57 a0 4 = v5 := ((fxI F61 ta0 rfl).trans e6)
  have e71 : Rv h57 a0 8 = v8 := ((fxR F61 ta0 rfl).trans e9)
  have e72 : Iv h57 a0 9 = v12 := ((fxI F61 ta0 rfl).trans e13)
  have e73 : Rv h57 a0 11 = v15 := ((fxR F61 ta0 rfl).trans e16)
  have e74 : Iv h57 a0 12 = v19 := ((fxI F61 ta0 rfl).trans e20)
  have e75 : Rv h57 a0 14 = v25 := ((fxR F61 ta0 rfl).trans e26)
  have e76 : Rv h57 a0 13 = v29 := ((fxR F61 ta0 rfl).trans e30)
  have e77 : Rv h57 a0 6 = v32 := ((fxR F61 ta0 rfl).trans e33)
  obtain ⟨v78, e79⟩ : ∃ z, Rv h57 a0 7 = z := ⟨_, rfl⟩
  have t80 := ok_R O60 e68 rE_11_7 e79
  have p92 := p63
  unfold XInv at p92
  rw [e69, e70, e71, e72, e73, e74, p64, e75, e76, e77, e79] at p92
  obtain ⟨p81, p82, p83, p84, p85, p86, p87, p88, p89, p90, p91⟩ := p92
  obtain ⟨v93, e94⟩ : ∃ z, Iv h57 v29 3 = z := ⟨_, rfl⟩
  have e95 : Tg h57 v29 = 7 := (fxT F61 t31)
  have f96 := ok_I O60 e95 rI_7_3 e94
  obtain ⟨v97, e98⟩ : ∃ z, Iv h57 v29 4 = z := ⟨_, rfl⟩
  have f99 := ok_I O60 e95 rI_7_4 e98
  rw [e94] at p87
  rw [e98] at p88
  have p100 := p84 (by omega)
  refine g_if_eq C (iw f62 (by decide) (by decide)) 17 (by decide) dX11_knownBest_4 (fun q101 => ?_) (fun q102 => ?_)
  · have f103 : (0 : Int) ≤ r56 ∧ r56 ≤ (0 : Int) := ii f62 (r_eq (il 0) q101) (by decide) (by decide)
    refine g_null C dX11_knownBest_17 ?_
    exact g_aret C hr (Or.inl ⟨_, rfl⟩) ⟨O60, ((Fx.rf (wr := wr_k_X11_knownBest)).call F61 rfl), p63, (Or.inl rfl)⟩ (by decide) (by decide) dX11_knownBest_18
  · have f104 : (1 : Int) ≤ r56 ∧ r56 ≤ (1 : Int) := r_nl f62 q102
    refine g_aload_n C rfl 0 rfl dX11_knownBest_7 ?_
    refine gf_R C fk_LandSurvey_214 rfl e68 e67 dX11_knownBest_8 ?_
    have q105 := p65 (by omega)
    have t106 := ok_N O60 e68 rE_11_17 e67 q105
    obtain ⟨v107, e108⟩ : ∃ z, Iv h57 v66 5 = z := ⟨_, rfl⟩
    have f109 := ok_I O60 t106 rI_2_5 e108
    refine gf_I C fk_LandSurvey_237 rfl t106 e108 dX11_knownBest_11 ?_
    refine g_if_ne C (iw f109 (by decide) (by decide)) 19 (by decide) dX11_knownBest_14 (fun q110 => ?_) (fun q111 => ?_)
    · have f112 : (1 : Int) ≤ v107 ∧ v107 ≤ (1 : Int) := r_nl f109 q110
      refine g_aload_n C rfl 0 rfl dX11_knownBest_19 ?_
      refine gf_R C fk_LandSurvey_214 rfl e68 e67 dX11_knownBest_20 ?_
      obtain ⟨v113, e114⟩ : ∃ z, Iv h57 v66 6 = z := ⟨_, rfl⟩
      have f115 := ok_I O60 t106 rI_2_6 e114
      refine gf_I C fk_LandSurvey_240 rfl t106 e114 dX11_knownBest_23 ?_
      refine g_if_ne C (iw f115 (by decide) (by decide)) 40 (by decide) dX11_knownBest_26 (fun q116 => ?_) (fun q117 => ?_)
      · have f118 : (1 : Int) ≤ v113 ∧ v113 ≤ (1 : Int) := r_nl f115 q116
        refine g_aload_n C rfl 0 rfl dX11_knownBest_40 ?_
        refine gf_R C fk_LandSurvey_214 rfl e68 e67 dX11_knownBest_41 ?_
        exact g_aret C hr (Or.inl ⟨_, rfl⟩) ⟨O60, ((Fx.rf (wr := wr_k_X11_knownBest)).call F61 rfl), p63, (Or.inr t106)⟩ (by decide) (by decide) dX11_knownBest_44
      · have f119 : (0 : Int) ≤ v113 ∧ v113 ≤ (0 : Int) := ii f115 (r_eq (il 0) q117) (by decide) (by decide)
        refine g_aload_n C rfl 0 rfl dX11_knownBest_29 ?_
        refine gf_R C fk_LandSurvey_64 rfl e68 e76 dX11_knownBest_30 ?_
        refine g_aload_n C rfl 0 rfl dX11_knownBest_33 ?_
        refine gf_R C fk_LandSurvey_214 rfl e68 e67 dX11_knownBest_34 ?_
        refine g_callV (st := []) (gc_V C lk_LandSurvey_243 (k_X6_span l D cy w z0 O60 e95 t106 ⟨by rw [p85, e94]; exact (SOK_le p81 p87), by rw [p86, e98]; exact (BOK_le p82 p88)⟩) e95 rfl rfl rfl ⟨by decide, by decide⟩ (Nat.le_of_ble_eq_true rfl) dX11_knownBest_37 ⟨(by decide), (by decide)⟩) (fun h121 K122 => ?_)
        obtain ⟨O124, F125⟩ := K122
        refine g_aload_n C rfl 0 rfl dX11_knownBest_40 ?_
        have e126 : Tg h121 a0 = 11 := (fxT F125 e68)
        have e127 : Rv h121 a0 17 = v66 := ((fxR F125 e68 rfl).trans e67)
        refine gf_R C fk_LandSurvey_214 rfl e126 e127 dX11_knownBest_41 ?_
        have e128 : Tg h121 v66 = 2 := (fxT F125 t106)
        have p129 := (XInv_fx O60 F125 e68 rfl p63)
        exact g_aret C hr (Or.inl ⟨_, rfl⟩) ⟨O124, (((Fx.rf (wr := wr_k_X11_knownBest)).call F61 rfl).call F125 rfl), p129, (Or.inr e128)⟩ (by decide) (by decide) dX11_knownBest_44
    · have f130 : (0 : Int) ≤ v107 ∧ v107 ≤ (0 : Int) := ii f109 (r_eq (il 0) q111) (by decide) (by decide)
      refine g_null C dX11_knownBest_17 ?_
      exact g_aret C hr (Or.inl ⟨_, rfl⟩) ⟨O60, ((Fx.rf (wr := wr_k_X11_knownBest)).call F61 rfl), p63, (Or.inl rfl)⟩ (by decide) (by decide) dX11_knownBest_18
