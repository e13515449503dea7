abbrev cX8_init : ByteArray := prog_10_method_1_code
def yX8_init : MethodName := ⟨RX8, "<init>", "(IIIIII)V"⟩
theorem okX8_init : yok yX8_init 6 := by decide +kernel
theorem kw_572 : Cond.fieldLink "LandSurvey$Sight" 15 "LandSurvey$Sight" "dipWhere" "I" ∈ uu := uu_in (i := 572) (by decide +kernel) (by decide +kernel)
theorem fk_LandSurvey_Sight_15 : fkI "LandSurvey$Sight" 15 8 7 RX8 TX8 19 := ⟨rfl, rfl, inX8, by decide, kw_572, by decide⟩
theorem kw_575 : Cond.fieldLink "LandSurvey$Sight" 18 "LandSurvey$Sight" "dipBeyond" "I" ∈ uu := uu_in (i := 575) (by decide +kernel) (by decide +kernel)
theorem fk_LandSurvey_Sight_18 : fkI "LandSurvey$Sight" 18 8 8 RX8 TX8 19 := ⟨rfl, rfl, inX8, by decide, kw_575, by decide⟩
theorem kw_582 : Cond.fieldLink "LandSurvey$Sight" 21 "LandSurvey$Sight" "remain" "I" ∈ uu := uu_in (i := 582) (by decide +kernel) (by decide +kernel)
theorem fk_LandSurvey_Sight_21 : fkI "LandSurvey$Sight" 21 8 11 RX8 TX8 19 := ⟨rfl, rfl, inX8, by decide, kw_582, by decide⟩
theorem kw_585 : Cond.fieldLink "LandSurvey$Sight" 24 "LandSurvey$Sight" "namedBy" "I" ∈ uu := uu_in (i := 585) (by decide +kernel) (by decide +kernel)
theorem fk_LandSurvey_Sight_24 : fkI "LandSurvey$Sight" 24 8 13 RX8 TX8 19 := ⟨rfl, rfl, inX8, by decide, kw_585, by decide⟩
theorem kw_587 : Cond.fieldLink "LandSurvey$Sight" 27 "LandSurvey$Sight" "rock" "I" ∈ uu := uu_in (i := 587) (by decide +kernel) (by decide +kernel)
theorem fk_LandSurvey_Sight_27 : fkI "LandSurvey$Sight" 27 8 14 RX8 TX8 19 := ⟨rfl, rfl, inX8, by decide, kw_587, by decide⟩
theorem kw_558 : Cond.fieldLink "LandSurvey$Sight" 30 "LandSurvey$Sight" "kind" "I" ∈ uu := uu_in (i := 558) (by decide +kernel) (by decide +kernel)
theorem fk_LandSurvey_Sight_30 : fkI "LandSurvey$Sight" 30 8 0 RX8 TX8 19 := ⟨rfl, rfl, inX8, by decide, kw_558, by decide⟩
theorem kw_560 : Cond.fieldLink "LandSurvey$Sight" 33 "LandSurvey$Sight" "cell" "I" ∈ uu := uu_in (i := 560) (by decide +kernel) (by decide +kernel)
theorem fk_LandSurvey_Sight_33 : fkI "LandSurvey$Sight" 33 8 1 RX8 TX8 19 := ⟨rfl, rfl, inX8, by decide, kw_560, by decide⟩
theorem kw_563 : Cond.fieldLink "LandSurvey$Sight" 36 "LandSurvey$Sight" "depth" "I" ∈ uu := uu_in (i := 563) (by decide +kernel) (by decide +kernel)
theorem fk_LandSurvey_Sight_36 : fkI "LandSurvey$Sight" 36 8 2 RX8 TX8 19 := ⟨rfl, rfl, inX8, by decide, kw_563, by decide⟩
theorem kw_565 : Cond.fieldLink "LandSurvey$Sight" 39 "LandSurvey$Sight" "hand" "I" ∈ uu := uu_in (i := 565) (by decide +kernel) (by decide +kernel)
theorem fk_LandSurvey_Sight_39 : fkI "LandSurvey$Sight" 39 8 3 RX8 TX8 19 := ⟨rfl, rfl, inX8, by decide, kw_565, by decide⟩
theorem kw_567 : Cond.fieldLink "LandSurvey$Sight" 42 "LandSurvey$Sight" "facts" "I" ∈ uu := uu_in (i := 567) (by decide +kernel) (by decide +kernel)
theorem fk_LandSurvey_Sight_42 : fkI "LandSurvey$Sight" 42 8 4 RX8 TX8 19 := ⟨rfl, rfl, inX8, by decide, kw_567, by decide⟩
theorem dX8_init_0 : decode cX8_init 0 = .ok (.aload_n 0, 1) := by decide +kernel
theorem dX8_init_1 : decode cX8_init 1 = .ok (.invokespecial 3, 3) := by decide +kernel
theorem kw_557 : Cond.methodLink "LandSurvey$Sight" 3 (⟨"java/lang/Object", "<init>", "()V"⟩ : MethodName) ∈ uu := uu_in (i := 557) (by decide +kernel) (by decide +kernel)
theorem dX8_init_4 : decode cX8_init 4 = .ok (.aload_n 0, 1) := by decide +kernel
theorem dX8_init_5 : decode cX8_init 5 = .ok (.iconst (-1), 1) := by decide +kernel
theorem dX8_init_6 : decode cX8_init 6 = .ok (.putfield 9, 3) := by decide +kernel
theorem dX8_init_9 : decode cX8_init 9 = .ok (.aload_n 0, 1) := by decide +kernel
theorem dX8_init_10 : decode cX8_init 10 = .ok (.iconst (-1), 1) := by decide +kernel
theorem dX8_init_11 : decode cX8_init 11 = .ok (.putfield 15, 3) := by decide +kernel
theorem pk_LandSurvey_Sight_7 : pk RX8 TX8 19 7 tyX8 false := ⟨tyX8_ok, nmX8, rfl⟩
theorem dX8_init_14 : decode cX8_init 14 = .ok (.aload_n 0, 1) := by decide +kernel
theorem dX8_init_15 : decode cX8_init 15 = .ok (.iconst (-1), 1) := by decide +kernel
theorem dX8_init_16 : decode cX8_init 16 = .ok (.putfield 18, 3) := by decide +kernel
theorem pk_LandSurvey_Sight_8 : pk RX8 TX8 19 8 tyX8 false := ⟨tyX8_ok, nmX8, rfl⟩
theorem dX8_init_19 : decode cX8_init 19 = .ok (.aload_n 0, 1) := by decide +kernel
theorem dX8_init_20 : decode cX8_init 20 = .ok (.iconst (-1), 1) := by decide +kernel
theorem dX8_init_21 : decode cX8_init 21 = .ok (.putfield 21, 3) := by decide +kernel
theorem dX8_init_24 : decode cX8_init 24 = .ok (.aload_n 0, 1) := by decide +kernel
theorem dX8_init_25 : decode cX8_init 25 = .ok (.iconst (-1), 1) := by decide +kernel
theorem dX8_init_26 : decode cX8_init 26 = .ok (.putfield 24, 3) := by decide +kernel
theorem dX8_init_29 : decode cX8_init 29 = .ok (.aload_n 0, 1) := by decide +kernel
theorem dX8_init_30 : decode cX8_init 30 = .ok (.iconst (-1), 1) := by decide +kernel
theorem dX8_init_31 : decode cX8_init 31 = .ok (.putfield 27, 3) := by decide +kernel
theorem dX8_init_34 : decode cX8_init 34 = .ok (.aload_n 0, 1) := by decide +kernel
theorem dX8_init_35 : decode cX8_init 35 = .ok (.iload_n 1, 1) := by decide +kernel
theorem dX8_init_36 : decode cX8_init 36 = .ok (.putfield 30, 3) := by decide +kernel
theorem pk_LandSurvey_Sight_0 : pk RX8 TX8 19 0 tyX8 true := ⟨tyX8_ok, nmX8, rfl⟩
theorem dX8_init_39 : decode cX8_init 39 = .ok (.aload_n 0, 1) := by decide +kernel
theorem dX8_init_40 : decode cX8_init 40 = .ok (.iload_n 2, 1) := by decide +kernel
theorem dX8_init_41 : decode cX8_init 41 = .ok (.putfield 33, 3) := by decide +kernel
theorem pk_LandSurvey_Sight_1 : pk RX8 TX8 19 1 tyX8 true := ⟨tyX8_ok, nmX8, rfl⟩
theorem dX8_init_44 : decode cX8_init 44 = .ok (.aload_n 0, 1) := by decide +kernel
theorem dX8_init_45 : decode cX8_init 45 = .ok (.iload_n 3, 1) := by decide +kernel
theorem dX8_init_46 : decode cX8_init 46 = .ok (.putfield 36, 3) := by decide +kernel
theorem pk_LandSurvey_Sight_2 : pk RX8 TX8 19 2 tyX8 true := ⟨tyX8_ok, nmX8, rfl⟩
theorem dX8_init_49 : decode cX8_init 49 = .ok (.aload_n 0, 1) := by decide +kernel
theorem dX8_init_50 : decode cX8_init 50 = .ok (.iload 4, 2) := by decide +kernel
theorem dX8_init_52 : decode cX8_init 52 = .ok (.putfield 39, 3) := by decide +kernel
theorem pk_LandSurvey_Sight_3 : pk RX8 TX8 19 3 tyX8 true := ⟨tyX8_ok, nmX8, rfl⟩
theorem dX8_init_55 : decode cX8_init 55 = .ok (.aload_n 0, 1) := by decide +kernel
theorem dX8_init_56 : decode cX8_init 56 = .ok (.iload 5, 2) := by decide +kernel
theorem dX8_init_58 : decode cX8_init 58 = .ok (.putfield 42, 3) := by decide +kernel
theorem pk_LandSurvey_Sight_4 : pk RX8 TX8 19 4 tyX8 true := ⟨tyX8_ok, nmX8, rfl⟩
theorem dX8_init_61 : decode cX8_init 61 = .ok (.aload_n 0, 1) := by decide +kernel
theorem dX8_init_62 : decode cX8_init 62 = .ok (.iload 6, 2) := by decide +kernel
theorem dX8_init_64 : decode cX8_init 64 = .ok (.putfield 45, 3) := by decide +kernel
theorem pk_LandSurvey_Sight_5 : pk RX8 TX8 19 5 tyX8 true := ⟨tyX8_ok, nmX8, rfl⟩
theorem dX8_init_67 : decode cX8_init 67 = .ok (.return_, 1) := by decide +kernel
abbrev cX0_init : ByteArray := prog_2_method_1_code
def yX0_init : MethodName := ⟨RX0, "<init>", "(IZIIII)V"⟩
theorem okX0_init : yok yX0_init 6 := by decide +kernel
theorem kw_919 : Cond.fieldLink "LandSurvey$Break" 7 "LandSurvey$Break" "cell" "I" ∈ uu := uu_in (i := 919) (by decide +kernel) (by decide +kernel)
theorem fk_LandSurvey_Break_7 : fkI "LandSurvey$Break" 7 0 0 RX0 TX0 6 := ⟨rfl, rfl, inX0, by decide, kw_919, by decide⟩
theorem kw_921 : Cond.fieldLink "LandSurvey$Break" 13 "LandSurvey$Break" "down" "Z" ∈ uu := uu_in (i := 921) (by decide +kernel) (by decide +kernel)
theorem fk_LandSurvey_Break_13 : fkI "LandSurvey$Break" 13 0 1 RX0 TX0 6 := ⟨rfl, rfl, inX0, by decide, kw_921, by decide⟩
theorem kw_923 : Cond.fieldLink "LandSurvey$Break" 17 "LandSurvey$Break" "sides" "I" ∈ uu := uu_in (i := 923) (by decide +kernel) (by decide +kernel)
theorem fk_LandSurvey_Break_17 : fkI "LandSurvey$Break" 17 0 2 RX0 TX0 6 := ⟨rfl, rfl, inX0, by decide, kw_923, by decide⟩
theorem kw_925 : Cond.fieldLink "LandSurvey$Break" 20 "LandSurvey$Break" "from" "I" ∈ uu := uu_in (i := 925) (by decide +kernel) (by decide +kernel)
theorem fk_LandSurvey_Break_20 : fkI "LandSurvey$Break" 20 0 3 RX0 TX0 6 := ⟨rfl, rfl, inX0, by decide, kw_925, by decide⟩
theorem kw_927 : Cond.fieldLink "LandSurvey$Break" 23 "LandSurvey$Break" "to" "I" ∈ uu := uu_in (i := 927) (by decide +kernel) (by decide +kernel)
theorem fk_LandSurvey_Break_23 : fkI "LandSurvey$Break" 23 0 4 RX0 TX0 6 := ⟨rfl, rfl, inX0, by decide, kw_927, by decide⟩
theorem kw_929 : Cond.fieldLink "LandSurvey$Break" 26 "LandSurvey$Break" "cost" "I" ∈ uu := uu_in (i := 929) (by decide +kernel) (by decide +kernel)
theorem fk_LandSurvey_Break_26 : fkI "LandSurvey$Break" 26 0 5 RX0 TX0 6 := ⟨rfl, rfl, inX0, by decide, kw_929, by decide⟩
theorem dX0_init_0 : decode cX0_init 0 = .ok (.aload_n 0, 1) := by decide +kernel
theorem dX0_init_1 : decode cX0_init 1 = .ok (.invokespecial 1, 3) := by decide +kernel
theorem kw_918 : Cond.methodLink "LandSurvey$Break" 1 (⟨"java/lang/Object", "<init>", "()V"⟩ : MethodName) ∈ uu := uu_in (i := 918) (by decide +kernel) (by decide +kernel)
theorem dX0_init_4 : decode cX0_init 4 = .ok (.aload_n 0, 1) := by decide +kernel
theorem dX0_init_5 : decode cX0_init 5 = .ok (.iload_n 1, 1) := by decide +kernel
theorem dX0_init_6 : decode cX0_init 6 = .ok (.putfield 7, 3) := by decide +kernel
theorem pk_LandSurvey_Break_0 : pk RX0 TX0 6 0 tyX0 true := ⟨tyX0_ok, nmX0, rfl⟩
theorem dX0_init_9 : decode cX0_init 9 = .ok (.aload_n 0, 1) := by decide +kernel
theorem dX0_init_10 : decode cX0_init 10 = .ok (.iload_n 2, 1) := by decide +kernel
theorem dX0_init_11 : decode cX0_init 11 = .ok (.putfield 13, 3) := by decide +kernel
theorem pk_LandSurvey_Break_1 : pk RX0 TX0 6 1 tyX0 true := ⟨tyX0_ok, nmX0, rfl⟩
theorem dX0_init_14 : decode cX0_init 14 = .ok (.aload_n 0, 1) := by decide +kernel
theorem dX0_init_15 : decode cX0_init 15 = .ok (.iload_n 3, 1) := by decide +kernel
theorem dX0_init_16 : decode cX0_init 16 = .ok (.putfield 17, 3) := by decide +kernel
theorem pk_LandSurvey_Break_2 : pk RX0 TX0 6 2 tyX0 true := ⟨tyX0_ok, nmX0, rfl⟩
theorem dX0_init_19 : decode cX0_init 19 = .ok (.aload_n 0, 1) := by decide +kernel
theorem dX0_init_20 : decode cX0_init 20 = .ok (.iload 4, 2) := by decide +kernel
theorem dX0_init_22 : decode cX0_init 22 = .ok (.putfield 20, 3) := by decide +kernel
theorem pk_LandSurvey_Break_3 : pk RX0 TX0 6 3 tyX0 true := ⟨tyX0_ok, nmX0, rfl⟩
theorem dX0_init_25 : decode cX0_init 25 = .ok (.aload_n 0, 1) := by decide +kernel
theorem dX0_init_26 : decode cX0_init 26 = .ok (.iload 5, 2) := by decide +kernel
theorem dX0_init_28 : decode cX0_init 28 = .ok (.putfield 23, 3) := by decide +kernel
theorem pk_LandSurvey_Break_4 : pk RX0 TX0 6 4 tyX0 true := ⟨tyX0_ok, nmX0, rfl⟩
theorem dX0_init_31 : decode cX0_init 31 = .ok (.aload_n 0, 1) := by decide +kernel
theorem dX0_init_32 : decode cX0_init 32 = .ok (.iload 6, 2) := by decide +kernel
theorem dX0_init_34 : decode cX0_init 34 = .ok (.putfield 26, 3) := by decide +kernel
theorem pk_LandSurvey_Break_5 : pk RX0 TX0 6 5 tyX0 true := ⟨tyX0_ok, nmX0, rfl⟩
theorem dX0_init_37 : decode cX0_init 37 = .ok (.return_, 1) := by decide +kernel
abbrev cX11_sight : ByteArray := prog_1_method_7_code
def yX11_sight : MethodName := ⟨RX11, "sight", "(IIIIII)I"⟩
theorem okX11_sight : yok yX11_sight 6 := by decide +kernel
theorem dX11_sight_0 : decode cX11_sight 0 = .ok (.iload_n 2, 1) := by decide +kernel
theorem dX11_sight_1 : decode cX11_sight 1 = .ok (.iload_n 3, 1) := by decide +kernel
theorem dX11_sight_2 : decode cX11_sight 2 = .ok (.invokestatic 85, 3) := by decide +kernel
theorem dX11_sight_5 : decode cX11_sight 5 = .ok (.istore 7, 2) := by decide +kernel
theorem dX11_sight_7 : decode cX11_sight 7 = .ok (.iload 7, 2) := by decide +kernel
theorem dX11_sight_9 : decode cX11_sight 9 = .ok (.iconst (-1), 1) := by decide +kernel
theorem dX11_sight_10 : decode cX11_sight 10 = .ok (.if_icmp .eq 21, 3) := by decide +kernel
theorem dX11_sight_31 : decode cX11_sight 31 = .ok (.iconst (-1), 1) := by decide +kernel
theorem dX11_sight_32 : decode cX11_sight 32 = .ok (.ireturn, 1) := by decide +kernel
theorem dX11_sight_13 : decode cX11_sight 13 = .ok (.iload_n 1, 1) := by decide +kernel
theorem dX11_sight_14 : decode cX11_sight 14 = .ok (.ifCond .lt 17, 3) := by decide +kernel
theorem dX11_sight_17 : decode cX11_sight 17 = .ok (.iload_n 1, 1) := by decide +kernel
theorem dX11_sight_18 : decode cX11_sight 18 = .ok (.iconst 4, 1) := by decide +kernel
theorem dX11_sight_19 : decode cX11_sight 19 = .ok (.if_icmp .gt 12, 3) := by decide +kernel
theorem dX11_sight_22 : decode cX11_sight 22 = .ok (.aload_n 0, 1) := by decide +kernel
theorem dX11_sight_23 : decode cX11_sight 23 = .ok (.getfield 102, 3) := by decide +kernel
theorem dX11_sight_26 : decode cX11_sight 26 = .ok (.bipush 40, 2) := by decide +kernel
theorem dX11_sight_28 : decode cX11_sight 28 = .ok (.if_icmp .lt 5, 3) := by decide +kernel
theorem dX11_sight_33 : decode cX11_sight 33 = .ok (.iload_n 1, 1) := by decide +kernel
theorem dX11_sight_34 : decode cX11_sight 34 = .ok (.ifCond .eq 8, 3) := by decide +kernel
theorem dX11_sight_42 : decode cX11_sight 42 = .ok (.iconst 0, 1) := by decide +kernel
theorem dX11_sight_43 : decode cX11_sight 43 = .ok (.goto 6, 3) := by decide +kernel
theorem dX11_sight_49 : decode cX11_sight 49 = .ok (.istore 8, 2) := by decide +kernel
theorem dX11_sight_51 : decode cX11_sight 51 = .ok (.iload 4, 2) := by decide +kernel
theorem dX11_sight_53 : decode cX11_sight 53 = .ok (.ifCond .lt 35, 3) := by decide +kernel
theorem dX11_sight_88 : decode cX11_sight 88 = .ok (.iconst (-1), 1) := by decide +kernel
theorem dX11_sight_89 : decode cX11_sight 89 = .ok (.ireturn, 1) := by decide +kernel
theorem dX11_sight_56 : decode cX11_sight 56 = .ok (.iload 4, 2) := by decide +kernel
theorem dX11_sight_58 : decode cX11_sight 58 = .ok (.iload 8, 2) := by decide +kernel
theorem dX11_sight_60 : decode cX11_sight 60 = .ok (.if_icmp .gt 28, 3) := by decide +kernel
theorem dX11_sight_63 : decode cX11_sight 63 = .ok (.iload 5, 2) := by decide +kernel
theorem dX11_sight_65 : decode cX11_sight 65 = .ok (.ifCond .lt 23, 3) := by decide +kernel
theorem dX11_sight_68 : decode cX11_sight 68 = .ok (.iload 5, 2) := by decide +kernel
theorem dX11_sight_70 : decode cX11_sight 70 = .ok (.bipush 6, 2) := by decide +kernel
theorem dX11_sight_72 : decode cX11_sight 72 = .ok (.if_icmp .ge 16, 3) := by decide +kernel
theorem dX11_sight_75 : decode cX11_sight 75 = .ok (.iload 6, 2) := by decide +kernel
theorem dX11_sight_77 : decode cX11_sight 77 = .ok (.ifCond .lt 11, 3) := by decide +kernel
theorem dX11_sight_80 : decode cX11_sight 80 = .ok (.iload 6, 2) := by decide +kernel
theorem dX11_sight_82 : decode cX11_sight 82 = .ok (.sipush 9999, 3) := by decide +kernel
theorem dX11_sight_85 : decode cX11_sight 85 = .ok (.if_icmp .le 5, 3) := by decide +kernel
theorem dX11_sight_90 : decode cX11_sight 90 = .ok (.iload_n 1, 1) := by decide +kernel
theorem dX11_sight_91 : decode cX11_sight 91 = .ok (.ifCond .ne 18, 3) := by decide +kernel
theorem dX11_sight_94 : decode cX11_sight 94 = .ok (.aload_n 0, 1) := by decide +kernel
theorem dX11_sight_95 : decode cX11_sight 95 = .ok (.getfield 16, 3) := by decide +kernel
theorem dX11_sight_98 : decode cX11_sight 98 = .ok (.getfield 92, 3) := by decide +kernel
theorem dX11_sight_101 : decode cX11_sight 101 = .ok (.iload 7, 2) := by decide +kernel
theorem dX11_sight_103 : decode cX11_sight 103 = .ok (.baload, 1) := by decide +kernel
theorem dX11_sight_104 : decode cX11_sight 104 = .ok (.ifCond .eq 5, 3) := by decide +kernel
theorem dX11_sight_109 : decode cX11_sight 109 = .ok (.new 20, 3) := by decide +kernel
theorem kw_226 : Cond.classLink "LandSurvey" 20 "LandSurvey$Sight" ∈ uu := uu_in (i := 226) (by decide +kernel) (by decide +kernel)
theorem kw_553 : Cond.instantiable "LandSurvey$Sight" 19 ∈ uu := uu_in (i := 553) (by decide +kernel) (by decide +kernel)
theorem dX11_sight_112 : decode cX11_sight 112 = .ok (.dup, 1) := by decide +kernel
theorem dX11_sight_113 : decode cX11_sight 113 = .ok (.iload_n 1, 1) := by decide +kernel
theorem dX11_sight_114 : decode cX11_sight 114 = .ok (.iload 7, 2) := by decide +kernel
theorem dX11_sight_116 : decode cX11_sight 116 = .ok (.iload 4, 2) := by decide +kernel
theorem dX11_sight_118 : decode cX11_sight 118 = .ok (.iload 5, 2) := by decide +kernel
theorem dX11_sight_120 : decode cX11_sight 120 = .ok (.iload 6, 2) := by decide +kernel
theorem dX11_sight_122 : decode cX11_sight 122 = .ok (.aload_n 0, 1) := by decide +kernel
theorem dX11_sight_123 : decode cX11_sight 123 = .ok (.getfield 78, 3) := by decide +kernel
theorem dX11_sight_126 : decode cX11_sight 126 = .ok (.invokespecial 105, 3) := by decide +kernel
theorem kw_556 : Cond.code yX8_init prog_10_method_1_code 7 none ∈ uu := uu_in (i := 556) (by decide +kernel) (by decide +kernel)
theorem kw_554 : Cond.methodLink "LandSurvey" 105 yX8_init ∈ uu := uu_in (i := 554) (by decide +kernel) (by decide +kernel)
theorem kw_555 : Cond.instanceMethod yX8_init ∈ uu := uu_in (i := 555) (by decide +kernel) (by decide +kernel)
theorem lk_LandSurvey_105 : lkI "LandSurvey" 105 yX8_init cX8_init 7 none 6 := ⟨kw_554, kw_555, kw_153, kw_556, okX8_init, rfl⟩
theorem dX11_sight_129 : decode cX11_sight 129 = .ok (.astore 9, 2) := by decide +kernel
theorem dX11_sight_131 : decode cX11_sight 131 = .ok (.aload_n 0, 1) := by decide +kernel
theorem dX11_sight_132 : decode cX11_sight 132 = .ok (.getfield 22, 3) := by decide +kernel
theorem dX11_sight_135 : decode cX11_sight 135 = .ok (.aload_n 0, 1) := by decide +kernel
theorem dX11_sight_136 : decode cX11_sight 136 = .ok (.getfield 102, 3) := by decide +kernel
theorem dX11_sight_139 : decode cX11_sight 139 = .ok (.aload 9, 2) := by decide +kernel
theorem dX11_sight_141 : decode cX11_sight 141 = .ok (.aastore, 1) := by decide +kernel
theorem dX11_sight_142 : decode cX11_sight 142 = .ok (.aload_n 0, 1) := by decide +kernel
theorem dX11_sight_143 : decode cX11_sight 143 = .ok (.iconst 0, 1) := by decide +kernel
theorem dX11_sight_144 : decode cX11_sight 144 = .ok (.putfield 81, 3) := by decide +kernel
theorem dX11_sight_147 : decode cX11_sight 147 = .ok (.aload_n 0, 1) := by decide +kernel
theorem dX11_sight_148 : decode cX11_sight 148 = .ok (.dup, 1) := by decide +kernel
theorem dX11_sight_149 : decode cX11_sight 149 = .ok (.getfield 102, 3) := by decide +kernel
theorem dX11_sight_152 : decode cX11_sight 152 = .ok (.dup_x1, 1) := by decide +kernel
theorem dX11_sight_153 : decode cX11_sight 153 = .ok (.iconst 1, 1) := by decide +kernel
theorem dX11_sight_154 : decode cX11_sight 154 = .ok (.iadd, 1) := by decide +kernel
theorem dX11_sight_155 : decode cX11_sight 155 = .ok (.putfield 102, 3) := by decide +kernel
theorem pk_LandSurvey_4 : pk RX11 TX11 19 4 tyX11 false := ⟨tyX11_ok, nmX11, rfl⟩
theorem dX11_sight_158 : decode cX11_sight 158 = .ok (.ireturn, 1) := by decide +kernel
theorem dX11_sight_107 : decode cX11_sight 107 = .ok (.iconst (-1), 1) := by decide +kernel
theorem dX11_sight_108 : decode cX11_sight 108 = .ok (.ireturn, 1) := by decide +kernel
theorem dX11_sight_37 : decode cX11_sight 37 = .ok (.iload_n 1, 1) := by decide +kernel
theorem dX11_sight_38 : decode cX11_sight 38 = .ok (.iconst 1, 1) := by decide +kernel
theorem dX11_sight_39 : decode cX11_sight 39 = .ok (.if_icmp .ne 7, 3) := by decide +kernel
theorem dX11_sight_46 : decode cX11_sight 46 = .ok (.sipush 999, 3) := by decide +kernel
abbrev cX11_dip : ByteArray := prog_1_method_8_code
def yX11_dip : MethodName := ⟨RX11, "dip", "(IIII)Z"⟩
theorem okX11_dip : yok yX11_dip 4 := by decide +kernel
theorem kw_573 : Cond.fieldLink "LandSurvey" 112 "LandSurvey$Sight" "dipWhere" "I" ∈ uu := uu_in (i := 573) (by decide +kernel) (by decide +kernel)
theorem fk_LandSurvey_112 : fkI "LandSurvey" 112 8 7 RX8 TX8 19 := ⟨rfl, rfl, inX8, by decide, kw_573, by decide⟩
theorem kw_576 : Cond.fieldLink "LandSurvey" 121 "LandSurvey$Sight" "dipBeyond" "I" ∈ uu := uu_in (i := 576) (by decide +kernel) (by decide +kernel)
theorem fk_LandSurvey_121 : fkI "LandSurvey" 121 8 8 RX8 TX8 19 := ⟨rfl, rfl, inX8, by decide, kw_576, by decide⟩
theorem kw_578 : Cond.fieldLink "LandSurvey" 124 "LandSurvey$Sight" "dipRise" "I" ∈ uu := uu_in (i := 578) (by decide +kernel) (by decide +kernel)
theorem fk_LandSurvey_124 : fkI "LandSurvey" 124 8 9 RX8 TX8 19 := ⟨rfl, rfl, inX8, by decide, kw_578, by decide⟩
theorem kw_580 : Cond.fieldLink "LandSurvey" 127 "LandSurvey$Sight" "dipSlack" "I" ∈ uu := uu_in (i := 580) (by decide +kernel) (by decide +kernel)
theorem fk_LandSurvey_127 : fkI "LandSurvey" 127 8 10 RX8 TX8 19 := ⟨rfl, rfl, inX8, by decide, kw_580, by decide⟩
theorem dX11_dip_0 : decode cX11_dip 0 = .ok (.aload_n 0, 1) := by decide +kernel
theorem dX11_dip_1 : decode cX11_dip 1 = .ok (.iload_n 1, 1) := by decide +kernel
theorem dX11_dip_2 : decode cX11_dip 2 = .ok (.invokevirtual 108, 3) := by decide +kernel
theorem dX11_dip_5 : decode cX11_dip 5 = .ok (.ifCond .eq 16, 3) := by decide +kernel
theorem dX11_dip_21 : decode cX11_dip 21 = .ok (.iconst 0, 1) := by decide +kernel
theorem dX11_dip_22 : decode cX11_dip 22 = .ok (.ireturn, 1) := by decide +kernel
theorem dX11_dip_8 : decode cX11_dip 8 = .ok (.aload_n 0, 1) := by decide +kernel
theorem dX11_dip_9 : decode cX11_dip 9 = .ok (.getfield 22, 3) := by decide +kernel
theorem dX11_dip_12 : decode cX11_dip 12 = .ok (.iload_n 1, 1) := by decide +kernel
theorem dX11_dip_13 : decode cX11_dip 13 = .ok (.aaload, 1) := by decide +kernel
theorem dX11_dip_14 : decode cX11_dip 14 = .ok (.getfield 112, 3) := by decide +kernel
theorem dX11_dip_17 : decode cX11_dip 17 = .ok (.iconst (-1), 1) := by decide +kernel
theorem dX11_dip_18 : decode cX11_dip 18 = .ok (.if_icmp .eq 5, 3) := by decide +kernel
theorem dX11_dip_23 : decode cX11_dip 23 = .ok (.iload_n 2, 1) := by decide +kernel
theorem dX11_dip_24 : decode cX11_dip 24 = .ok (.ifCond .lt 32, 3) := by decide +kernel
theorem dX11_dip_56 : decode cX11_dip 56 = .ok (.iconst 0, 1) := by decide +kernel
theorem dX11_dip_57 : decode cX11_dip 57 = .ok (.ireturn, 1) := by decide +kernel
theorem dX11_dip_27 : decode cX11_dip 27 = .ok (.iload_n 2, 1) := by decide +kernel
theorem dX11_dip_28 : decode cX11_dip 28 = .ok (.iconst 4, 1) := by decide +kernel
theorem dX11_dip_29 : decode cX11_dip 29 = .ok (.if_icmp .ge 27, 3) := by decide +kernel
theorem dX11_dip_32 : decode cX11_dip 32 = .ok (.iload_n 3, 1) := by decide +kernel
theorem dX11_dip_33 : decode cX11_dip 33 = .ok (.bipush (-99), 2) := by decide +kernel
theorem dX11_dip_35 : decode cX11_dip 35 = .ok (.if_icmp .lt 21, 3) := by decide +kernel
theorem dX11_dip_38 : decode cX11_dip 38 = .ok (.iload_n 3, 1) := by decide +kernel
theorem dX11_dip_39 : decode cX11_dip 39 = .ok (.bipush 99, 2) := by decide +kernel
theorem dX11_dip_41 : decode cX11_dip 41 = .ok (.if_icmp .gt 15, 3) := by decide +kernel
theorem dX11_dip_44 : decode cX11_dip 44 = .ok (.iload 4, 2) := by decide +kernel
theorem dX11_dip_46 : decode cX11_dip 46 = .ok (.ifCond .lt 10, 3) := by decide +kernel
theorem dX11_dip_49 : decode cX11_dip 49 = .ok (.iload 4, 2) := by decide +kernel
theorem dX11_dip_51 : decode cX11_dip 51 = .ok (.bipush 99, 2) := by decide +kernel
theorem dX11_dip_53 : decode cX11_dip 53 = .ok (.if_icmp .le 5, 3) := by decide +kernel
theorem dX11_dip_58 : decode cX11_dip 58 = .ok (.aload_n 0, 1) := by decide +kernel
theorem dX11_dip_59 : decode cX11_dip 59 = .ok (.getfield 22, 3) := by decide +kernel
theorem dX11_dip_62 : decode cX11_dip 62 = .ok (.iload_n 1, 1) := by decide +kernel
theorem dX11_dip_63 : decode cX11_dip 63 = .ok (.aaload, 1) := by decide +kernel
theorem dX11_dip_64 : decode cX11_dip 64 = .ok (.iload_n 2, 1) := by decide +kernel
theorem dX11_dip_65 : decode cX11_dip 65 = .ok (.putfield 112, 3) := by decide +kernel
theorem dX11_dip_68 : decode cX11_dip 68 = .ok (.aload_n 0, 1) := by decide +kernel
theorem dX11_dip_69 : decode cX11_dip 69 = .ok (.getfield 22, 3) := by decide +kernel
theorem dX11_dip_72 : decode cX11_dip 72 = .ok (.iload_n 1, 1) := by decide +kernel
theorem dX11_dip_73 : decode cX11_dip 73 = .ok (.aaload, 1) := by decide +kernel
theorem dX11_dip_74 : decode cX11_dip 74 = .ok (.aload_n 0, 1) := by decide +kernel
theorem dX11_dip_75 : decode cX11_dip 75 = .ok (.getfield 22, 3) := by decide +kernel
theorem dX11_dip_78 : decode cX11_dip 78 = .ok (.iload_n 1, 1) := by decide +kernel
theorem dX11_dip_79 : decode cX11_dip 79 = .ok (.aaload, 1) := by decide +kernel
theorem dX11_dip_80 : decode cX11_dip 80 = .ok (.getfield 115, 3) := by decide +kernel
theorem dX11_dip_83 : decode cX11_dip 83 = .ok (.iload_n 2, 1) := by decide +kernel
theorem dX11_dip_84 : decode cX11_dip 84 = .ok (.invokestatic 118, 3) := by decide +kernel
theorem dX11_dip_87 : decode cX11_dip 87 = .ok (.putfield 121, 3) := by decide +kernel
theorem dX11_dip_90 : decode cX11_dip 90 = .ok (.aload_n 0, 1) := by decide +kernel
theorem dX11_dip_91 : decode cX11_dip 91 = .ok (.getfield 22, 3) := by decide +kernel
theorem dX11_dip_94 : decode cX11_dip 94 = .ok (.iload_n 1, 1) := by decide +kernel
theorem dX11_dip_95 : decode cX11_dip 95 = .ok (.aaload, 1) := by decide +kernel
theorem dX11_dip_96 : decode cX11_dip 96 = .ok (.iload_n 3, 1) := by decide +kernel
theorem dX11_dip_97 : decode cX11_dip 97 = .ok (.putfield 124, 3) := by decide +kernel
theorem pk_LandSurvey_Sight_9 : pk RX8 TX8 19 9 tyX8 false := ⟨tyX8_ok, nmX8, rfl⟩
theorem dX11_dip_100 : decode cX11_dip 100 = .ok (.aload_n 0, 1) := by decide +kernel
theorem dX11_dip_101 : decode cX11_dip 101 = .ok (.getfield 22, 3) := by decide +kernel
theorem dX11_dip_104 : decode cX11_dip 104 = .ok (.iload_n 1, 1) := by decide +kernel
theorem dX11_dip_105 : decode cX11_dip 105 = .ok (.aaload, 1) := by decide +kernel
theorem dX11_dip_106 : decode cX11_dip 106 = .ok (.iload 4, 2) := by decide +kernel
theorem dX11_dip_108 : decode cX11_dip 108 = .ok (.putfield 127, 3) := by decide +kernel
theorem pk_LandSurvey_Sight_10 : pk RX8 TX8 19 10 tyX8 false := ⟨tyX8_ok, nmX8, rfl⟩
theorem dX11_dip_111 : decode cX11_dip 111 = .ok (.aload_n 0, 1) := by decide +kernel
theorem dX11_dip_112 : decode cX11_dip 112 = .ok (.iconst 0, 1) := by decide +kernel
theorem dX11_dip_113 : decode cX11_dip 113 = .ok (.putfield 81, 3) := by decide +kernel
theorem dX11_dip_116 : decode cX11_dip 116 = .ok (.iconst 1, 1) := by decide +kernel
theorem dX11_dip_117 : decode cX11_dip 117 = .ok (.ireturn, 1) := by decide +kernel
abbrev cX11_fault : ByteArray := prog_1_method_13_code
def yX11_fault : MethodName := ⟨RX11, "fault", "(IIZIIII)I"⟩
theorem okX11_fault : yok yX11_fault 7 := by decide +kernel
theorem dX11_fault_0 : decode cX11_fault 0 = .ok (.iload_n 1, 1) := by decide +kernel
theorem dX11_fault_1 : decode cX11_fault 1 = .ok (.iload_n 2, 1) := by decide +kernel
theorem dX11_fault_2 : decode cX11_fault 2 = .ok (.invokestatic 85, 3) := by decide +kernel
theorem dX11_fault_5 : decode cX11_fault 5 = .ok (.istore 8, 2) := by decide +kernel
theorem dX11_fault_7 : decode cX11_fault 7 = .ok (.iload 8, 2) := by decide +kernel
theorem dX11_fault_9 : decode cX11_fault 9 = .ok (.iconst (-1), 1) := by decide +kernel
theorem dX11_fault_10 : decode cX11_fault 10 = .ok (.if_icmp .eq 24, 3) := by decide +kernel
theorem dX11_fault_34 : decode cX11_fault 34 = .ok (.iconst (-1), 1) := by decide +kernel
theorem dX11_fault_35 : decode cX11_fault 35 = .ok (.ireturn, 1) := by decide +kernel
theorem dX11_fault_13 : decode cX11_fault 13 = .ok (.aload_n 0, 1) := by decide +kernel
theorem dX11_fault_14 : decode cX11_fault 14 = .ok (.getfield 157, 3) := by decide +kernel
theorem dX11_fault_17 : decode cX11_fault 17 = .ok (.iconst 4, 1) := by decide +kernel
theorem dX11_fault_18 : decode cX11_fault 18 = .ok (.if_icmp .ge 16, 3) := by decide +kernel
theorem dX11_fault_21 : decode cX11_fault 21 = .ok (.iload 4, 2) := by decide +kernel
theorem dX11_fault_23 : decode cX11_fault 23 = .ok (.iconst 1, 1) := by decide +kernel
theorem dX11_fault_24 : decode cX11_fault 24 = .ok (.if_icmp .lt 10, 3) := by decide +kernel
theorem dX11_fault_27 : decode cX11_fault 27 = .ok (.iload 4, 2) := by decide +kernel
theorem dX11_fault_29 : decode cX11_fault 29 = .ok (.bipush 12, 2) := by decide +kernel
theorem dX11_fault_31 : decode cX11_fault 31 = .ok (.if_icmp .le 5, 3) := by decide +kernel
theorem dX11_fault_36 : decode cX11_fault 36 = .ok (.iload 5, 2) := by decide +kernel
theorem dX11_fault_38 : decode cX11_fault 38 = .ok (.sipush (-300), 3) := by decide +kernel
theorem dX11_fault_41 : decode cX11_fault 41 = .ok (.if_icmp .lt 31, 3) := by decide +kernel
theorem dX11_fault_72 : decode cX11_fault 72 = .ok (.iconst (-1), 1) := by decide +kernel
theorem dX11_fault_73 : decode cX11_fault 73 = .ok (.ireturn, 1) := by decide +kernel
theorem dX11_fault_44 : decode cX11_fault 44 = .ok (.iload 6, 2) := by decide +kernel
theorem dX11_fault_46 : decode cX11_fault 46 = .ok (.sipush 300, 3) := by decide +kernel
theorem dX11_fault_49 : decode cX11_fault 49 = .ok (.if_icmp .gt 23, 3) := by decide +kernel
theorem dX11_fault_52 : decode cX11_fault 52 = .ok (.iload 5, 2) := by decide +kernel
theorem dX11_fault_54 : decode cX11_fault 54 = .ok (.iload 6, 2) := by decide +kernel
theorem dX11_fault_56 : decode cX11_fault 56 = .ok (.if_icmp .gt 16, 3) := by decide +kernel
theorem dX11_fault_59 : decode cX11_fault 59 = .ok (.iload 7, 2) := by decide +kernel
theorem dX11_fault_61 : decode cX11_fault 61 = .ok (.iconst 1, 1) := by decide +kernel
theorem dX11_fault_62 : decode cX11_fault 62 = .ok (.if_icmp .lt 10, 3) := by decide +kernel
theorem dX11_fault_65 : decode cX11_fault 65 = .ok (.iload 7, 2) := by decide +kernel
theorem dX11_fault_67 : decode cX11_fault 67 = .ok (.bipush 99, 2) := by decide +kernel
theorem dX11_fault_69 : decode cX11_fault 69 = .ok (.if_icmp .le 5, 3) := by decide +kernel
theorem dX11_fault_74 : decode cX11_fault 74 = .ok (.iload_n 3, 1) := by decide +kernel
theorem dX11_fault_75 : decode cX11_fault 75 = .ok (.ifCond .eq 28, 3) := by decide +kernel
theorem dX11_fault_103 : decode cX11_fault 103 = .ok (.iload_n 2, 1) := by decide +kernel
theorem dX11_fault_104 : decode cX11_fault 104 = .ok (.iconst 1, 1) := by decide +kernel
theorem dX11_fault_105 : decode cX11_fault 105 = .ok (.iadd, 1) := by decide +kernel
theorem dX11_fault_106 : decode cX11_fault 106 = .ok (.bipush 8, 2) := by decide +kernel
theorem dX11_fault_108 : decode cX11_fault 108 = .ok (.if_icmp .ge 16, 3) := by decide +kernel
theorem dX11_fault_124 : decode cX11_fault 124 = .ok (.iconst 0, 1) := by decide +kernel
theorem dX11_fault_125 : decode cX11_fault 125 = .ok (.istore 9, 2) := by decide +kernel
theorem dX11_fault_127 : decode cX11_fault 127 = .ok (.iload 9, 2) := by decide +kernel
theorem dX11_fault_129 : decode cX11_fault 129 = .ok (.ifCond .ne 5, 3) := by decide +kernel
theorem dX11_fault_132 : decode cX11_fault 132 = .ok (.iconst (-1), 1) := by decide +kernel
theorem dX11_fault_133 : decode cX11_fault 133 = .ok (.ireturn, 1) := by decide +kernel
theorem dX11_fault_111 : decode cX11_fault 111 = .ok (.iload_n 1, 1) := by decide +kernel
theorem dX11_fault_112 : decode cX11_fault 112 = .ok (.iload 4, 2) := by decide +kernel
theorem dX11_fault_114 : decode cX11_fault 114 = .ok (.iadd, 1) := by decide +kernel
theorem dX11_fault_115 : decode cX11_fault 115 = .ok (.bipush 12, 2) := by decide +kernel
theorem dX11_fault_117 : decode cX11_fault 117 = .ok (.if_icmp .gt 7, 3) := by decide +kernel
theorem dX11_fault_120 : decode cX11_fault 120 = .ok (.iconst 1, 1) := by decide +kernel
theorem dX11_fault_121 : decode cX11_fault 121 = .ok (.goto 4, 3) := by decide +kernel
theorem dX11_fault_134 : decode cX11_fault 134 = .ok (.aload_n 0, 1) := by decide +kernel
theorem dX11_fault_135 : decode cX11_fault 135 = .ok (.getfield 49, 3) := by decide +kernel
theorem kw_476 : Cond.fieldLink "LandSurvey" 49 "LandSurvey" "breaks" "[LLandSurvey$Break;" ∈ uu := uu_in (i := 476) (by decide +kernel) (by decide +kernel)
theorem fk_LandSurvey_49 : fkR "LandSurvey" 49 10 8 RX11 TX11 19 := ⟨rfl, rfl, inX11, by decide, kw_476, by decide⟩
theorem dX11_fault_138 : decode cX11_fault 138 = .ok (.aload_n 0, 1) := by decide +kernel
theorem dX11_fault_139 : decode cX11_fault 139 = .ok (.getfield 157, 3) := by decide +kernel
theorem dX11_fault_142 : decode cX11_fault 142 = .ok (.new 47, 3) := by decide +kernel
theorem kw_392 : Cond.classLink "LandSurvey" 47 "LandSurvey$Break" ∈ uu := uu_in (i := 392) (by decide +kernel) (by decide +kernel)
theorem kw_914 : Cond.instantiable "LandSurvey$Break" 6 ∈ uu := uu_in (i := 914) (by decide +kernel) (by decide +kernel)
theorem kw_163 : Cond.initialized "LandSurvey$Break" ∈ uu := uu_in (i := 163) (by decide +kernel) (by decide +kernel)
theorem dX11_fault_145 : decode cX11_fault 145 = .ok (.dup, 1) := by decide +kernel
theorem dX11_fault_146 : decode cX11_fault 146 = .ok (.iload 8, 2) := by decide +kernel
theorem dX11_fault_148 : decode cX11_fault 148 = .ok (.iload_n 3, 1) := by decide +kernel
theorem dX11_fault_149 : decode cX11_fault 149 = .ok (.iload 4, 2) := by decide +kernel
theorem dX11_fault_151 : decode cX11_fault 151 = .ok (.iload 5, 2) := by decide +kernel
theorem dX11_fault_153 : decode cX11_fault 153 = .ok (.iload 6, 2) := by decide +kernel
theorem dX11_fault_155 : decode cX11_fault 155 = .ok (.iload 7, 2) := by decide +kernel
theorem dX11_fault_157 : decode cX11_fault 157 = .ok (.invokespecial 160, 3) := by decide +kernel
theorem kw_917 : Cond.code yX0_init prog_2_method_1_code 7 none ∈ uu := uu_in (i := 917) (by decide +kernel) (by decide +kernel)
theorem kw_915 : Cond.methodLink "LandSurvey" 160 yX0_init ∈ uu := uu_in (i := 915) (by decide +kernel) (by decide +kernel)
theorem kw_916 : Cond.instanceMethod yX0_init ∈ uu := uu_in (i := 916) (by decide +kernel) (by decide +kernel)
theorem lk_LandSurvey_160 : lkI "LandSurvey" 160 yX0_init cX0_init 7 none 6 := ⟨kw_915, kw_916, kw_163, kw_917, okX0_init, rfl⟩
theorem dX11_fault_160 : decode cX11_fault 160 = .ok (.aastore, 1) := by decide +kernel
theorem dX11_fault_161 : decode cX11_fault 161 = .ok (.aload_n 0, 1) := by decide +kernel
theorem dX11_fault_162 : decode cX11_fault 162 = .ok (.iconst 0, 1) := by decide +kernel
theorem dX11_fault_163 : decode cX11_fault 163 = .ok (.putfield 81, 3) := by decide +kernel
theorem dX11_fault_166 : decode cX11_fault 166 = .ok (.aload_n 0, 1) := by decide +kernel
theorem dX11_fault_167 : decode cX11_fault 167 = .ok (.dup, 1) := by decide +kernel
theorem dX11_fault_168 : decode cX11_fault 168 = .ok (.getfield 157, 3) := by decide +kernel
theorem dX11_fault_171 : decode cX11_fault 171 = .ok (.dup_x1, 1) := by decide +kernel
theorem dX11_fault_172 : decode cX11_fault 172 = .ok (.iconst 1, 1) := by decide +kernel
theorem dX11_fault_173 : decode cX11_fault 173 = .ok (.iadd, 1) := by decide +kernel
theorem dX11_fault_174 : decode cX11_fault 174 = .ok (.putfield 157, 3) := by decide +kernel
theorem pk_LandSurvey_9 : pk RX11 TX11 19 9 tyX11 false := ⟨tyX11_ok, nmX11, rfl⟩
theorem dX11_fault_177 : decode cX11_fault 177 = .ok (.ireturn, 1) := by decide +kernel
theorem dX11_fault_78 : decode cX11_fault 78 = .ok (.iload_n 1, 1) := by decide +kernel
theorem dX11_fault_79 : decode cX11_fault 79 = .ok (.iconst 1, 1) := by decide +kernel
theorem dX11_fault_80 : decode cX11_fault 80 = .ok (.iadd, 1) := by decide +kernel
theorem dX11_fault_81 : decode cX11_fault 81 = .ok (.bipush 12, 2) := by decide +kernel
theorem dX11_fault_83 : decode cX11_fault 83 = .ok (.if_icmp .ge 16, 3) := by decide +kernel
theorem dX11_fault_99 : decode cX11_fault 99 = .ok (.iconst 0, 1) := by decide +kernel
theorem dX11_fault_100 : decode cX11_fault 100 = .ok (.goto 25, 3) := by decide +kernel
theorem dX11_fault_86 : decode cX11_fault 86 = .ok (.iload_n 2, 1) := by decide +kernel
theorem dX11_fault_87 : decode cX11_fault 87 = .ok (.iload 4, 2) := by decide +kernel
theorem dX11_fault_89 : decode cX11_fault 89 = .ok (.iadd, 1) := by decide +kernel
theorem dX11_fault_90 : decode cX11_fault 90 = .ok (.bipush 8, 2) := by decide +kernel
theorem dX11_fault_92 : decode cX11_fault 92 = .ok (.if_icmp .gt 7, 3) := by decide +kernel
theorem dX11_fault_95 : decode cX11_fault 95 = .ok (.iconst 1, 1) := by decide +kernel
theorem dX11_fault_96 : decode cX11_fault 96 = .ok (.goto 29, 3) := by decide +kernel
abbrev cX7_init : ByteArray := prog_9_method_1_code
def yX7_init : MethodName := ⟨RX7, "<init>", "()V"⟩
theorem okX7_init : yok yX7_init 0 := by decide +kernel
theorem kw_1270 : Cond.fieldLink "LandSurvey$Sheet" 9 "LandSurvey$Sheet" "bits" "[I" ∈ uu := uu_in (i := 1270) (by decide +kernel) (by decide +kernel)
theorem fk_LandSurvey_Sheet_9 : fkR "LandSurvey$Sheet" 9 7 0 RX7 TX7 1 := ⟨rfl, rfl, inX7, by decide, kw_1270, by decide⟩
theorem dX7_init_0 : decode cX7_init 0 = .ok (.aload_n 0, 1) := by decide +kernel
theorem dX7_init_1 : decode cX7_init 1 = .ok (.invokespecial 3, 3) := by decide +kernel
theorem kw_1268 : Cond.methodLink "LandSurvey$Sheet" 3 (⟨"java/lang/Object", "<init>", "()V"⟩ : MethodName) ∈ uu := uu_in (i := 1268) (by decide +kernel) (by decide +kernel)
theorem dX7_init_4 : decode cX7_init 4 = .ok (.aload_n 0, 1) := by decide +kernel
theorem dX7_init_5 : decode cX7_init 5 = .ok (.bipush 96, 2) := by decide +kernel
theorem dX7_init_7 : decode cX7_init 7 = .ok (.newarray .int, 2) := by decide +kernel
theorem dX7_init_9 : decode cX7_init 9 = .ok (.putfield 9, 3) := by decide +kernel
theorem pk_LandSurvey_Sheet_0 : pk RX7 TX7 1 0 tyX7 true := ⟨tyX7_ok, nmX7, rfl⟩
theorem dX7_init_12 : decode cX7_init 12 = .ok (.aload_n 0, 1) := by decide +kernel
theorem dX7_init_13 : decode cX7_init 13 = .ok (.getfield 9, 3) := by decide +kernel
theorem dX7_init_16 : decode cX7_init 16 = .ok (.iconst (-1), 1) := by decide +kernel
theorem dX7_init_17 : decode cX7_init 17 = .ok (.invokestatic 15, 3) := by decide +kernel
theorem kw_1269 : Cond.methodLink "LandSurvey$Sheet" 15 yJ7_fill_53178 ∈ uu := uu_in (i := 1269) (by decide +kernel) (by decide +kernel)
theorem lk_LandSurvey_Sheet_15 : lkS "LandSurvey$Sheet" 15 yJ7_fill_53178 cJ7_fill_53178 4 none 2 := ⟨kw_1269, kw_187, kw_146, kw_188, okJ7_fill_53178⟩
theorem dX7_init_20 : decode cX7_init 20 = .ok (.return_, 1) := by decide +kernel
abbrev cX11_sheet : ByteArray := prog_1_method_26_code
def yX11_sheet : MethodName := ⟨RX11, "sheet", "(IIII)I"⟩
theorem okX11_sheet : yok yX11_sheet 4 := by decide +kernel
theorem dX11_sheet_0 : decode cX11_sheet 0 = .ok (.iload_n 1, 1) := by decide +kernel
theorem dX11_sheet_1 : decode cX11_sheet 1 = .ok (.iload_n 2, 1) := by decide +kernel
theorem dX11_sheet_2 : decode cX11_sheet 2 = .ok (.invokestatic 85, 3) := by decide +kernel
theorem dX11_sheet_5 : decode cX11_sheet 5 = .ok (.istore 5, 2) := by decide +kernel
theorem dX11_sheet_7 : decode cX11_sheet 7 = .ok (.iload_n 3, 1) := by decide +kernel
theorem dX11_sheet_8 : decode cX11_sheet 8 = .ok (.iload 4, 2) := by decide +kernel
theorem dX11_sheet_10 : decode cX11_sheet 10 = .ok (.invokestatic 85, 3) := by decide +kernel
theorem dX11_sheet_13 : decode cX11_sheet 13 = .ok (.istore 6, 2) := by decide +kernel
theorem dX11_sheet_15 : decode cX11_sheet 15 = .ok (.iload 5, 2) := by decide +kernel
theorem dX11_sheet_17 : decode cX11_sheet 17 = .ok (.iconst (-1), 1) := by decide +kernel
theorem dX11_sheet_18 : decode cX11_sheet 18 = .ok (.if_icmp .eq 20, 3) := by decide +kernel
theorem dX11_sheet_38 : decode cX11_sheet 38 = .ok (.iconst (-1), 1) := by decide +kernel
theorem dX11_sheet_39 : decode cX11_sheet 39 = .ok (.ireturn, 1) := by decide +kernel
theorem dX11_sheet_21 : decode cX11_sheet 21 = .ok (.iload 6, 2) := by decide +kernel
theorem dX11_sheet_23 : decode cX11_sheet 23 = .ok (.iconst (-1), 1) := by decide +kernel
theorem dX11_sheet_24 : decode cX11_sheet 24 = .ok (.if_icmp .eq 14, 3) := by decide +kernel
theorem dX11_sheet_27 : decode cX11_sheet 27 = .ok (.iload_n 1, 1) := by decide +kernel
theorem dX11_sheet_28 : decode cX11_sheet 28 = .ok (.iload_n 3, 1) := by decide +kernel
theorem dX11_sheet_29 : decode cX11_sheet 29 = .ok (.if_icmp .gt 9, 3) := by decide +kernel
theorem dX11_sheet_32 : decode cX11_sheet 32 = .ok (.iload_n 2, 1) := by decide +kernel
theorem dX11_sheet_33 : decode cX11_sheet 33 = .ok (.iload 4, 2) := by decide +kernel
theorem dX11_sheet_35 : decode cX11_sheet 35 = .ok (.if_icmp .le 5, 3) := by decide +kernel
theorem dX11_sheet_40 : decode cX11_sheet 40 = .ok (.aload_n 0, 1) := by decide +kernel
theorem dX11_sheet_41 : decode cX11_sheet 41 = .ok (.getfield 305, 3) := by decide +kernel
theorem dX11_sheet_44 : decode cX11_sheet 44 = .ok (.bipush 10, 2) := by decide +kernel
theorem dX11_sheet_46 : decode cX11_sheet 46 = .ok (.if_icmp .ge 10, 3) := by decide +kernel
theorem dX11_sheet_56 : decode cX11_sheet 56 = .ok (.iconst (-1), 1) := by decide +kernel
theorem dX11_sheet_57 : decode cX11_sheet 57 = .ok (.ireturn, 1) := by decide +kernel
theorem dX11_sheet_49 : decode cX11_sheet 49 = .ok (.aload_n 0, 1) := by decide +kernel
theorem dX11_sheet_50 : decode cX11_sheet 50 = .ok (.invokevirtual 253, 3) := by decide +kernel
theorem dX11_sheet_53 : decode cX11_sheet 53 = .ok (.ifCond .ne 5, 3) := by decide +kernel
theorem dX11_sheet_58 : decode cX11_sheet 58 = .ok (.new 53, 3) := by decide +kernel
theorem kw_394 : Cond.classLink "LandSurvey" 53 "LandSurvey$Sheet" ∈ uu := uu_in (i := 394) (by decide +kernel) (by decide +kernel)
theorem kw_1264 : Cond.instantiable "LandSurvey$Sheet" 1 ∈ uu := uu_in (i := 1264) (by decide +kernel) (by decide +kernel)
theorem kw_171 : Cond.initialized "LandSurvey$Sheet" ∈ uu := uu_in (i := 171) (by decide +kernel) (by decide +kernel)
theorem dX11_sheet_61 : decode cX11_sheet 61 = .ok (.dup, 1) := by decide +kernel
theorem dX11_sheet_62 : decode cX11_sheet 62 = .ok (.invokespecial 308, 3) := by decide +kernel
theorem kw_1267 : Cond.code yX7_init prog_9_method_1_code 1 none ∈ uu := uu_in (i := 1267) (by decide +kernel) (by decide +kernel)
theorem kw_1265 : Cond.methodLink "LandSurvey" 308 yX7_init ∈ uu := uu_in (i := 1265) (by decide +kernel) (by decide +kernel)
theorem kw_1266 : Cond.instanceMethod yX7_init ∈ uu := uu_in (i := 1266) (by decide +kernel) (by decide +kernel)
theorem lk_LandSurvey_308 : lkI "LandSurvey" 308 yX7_init cX7_init 1 none 0 := ⟨kw_1265, kw_1266, kw_171, kw_1267, okX7_init, rfl⟩
theorem tbI_8_1008 : ∀ j, rI 8 j = rI 1008 j := tab_I (by decide +kernel)
theorem tbE_8_1008 : ∀ j, (rE 8 j).1 = (rE 1008 j).1 ∧ (rE 8 j).2.1 = (rE 1008 j).2.1 := tab_E (by decide +kernel)
theorem tbN_8 : ∀ j, (rE 8 j).2.2 = true → ([0] : List Nat).elem j = true := tab_N _ (by decide +kernel)
theorem dX11_sheet_65 : decode cX11_sheet 65 = .ok (.astore 7, 2) := by decide +kernel
theorem dX11_sheet_67 : decode cX11_sheet 67 = .ok (.iload_n 2, 1) := by decide +kernel
theorem dX11_sheet_68 : decode cX11_sheet 68 = .ok (.istore 8, 2) := by decide +kernel
theorem dX11_sheet_70 : decode cX11_sheet 70 = .ok (.iload 8, 2) := by decide +kernel
theorem dX11_sheet_72 : decode cX11_sheet 72 = .ok (.iload 4, 2) := by decide +kernel
theorem dX11_sheet_74 : decode cX11_sheet 74 = .ok (.if_icmp .gt 49, 3) := by decide +kernel
theorem dX11_sheet_123 : decode cX11_sheet 123 = .ok (.aload_n 0, 1) := by decide +kernel
theorem dX11_sheet_124 : decode cX11_sheet 124 = .ok (.getfield 55, 3) := by decide +kernel
theorem dX11_sheet_127 : decode cX11_sheet 127 = .ok (.aload_n 0, 1) := by decide +kernel
theorem dX11_sheet_128 : decode cX11_sheet 128 = .ok (.getfield 305, 3) := by decide +kernel
theorem dX11_sheet_131 : decode cX11_sheet 131 = .ok (.aload 7, 2) := by decide +kernel
theorem dX11_sheet_133 : decode cX11_sheet 133 = .ok (.aastore, 1) := by decide +kernel
theorem dX11_sheet_134 : decode cX11_sheet 134 = .ok (.aload_n 0, 1) := by decide +kernel
theorem dX11_sheet_135 : decode cX11_sheet 135 = .ok (.dup, 1) := by decide +kernel
theorem dX11_sheet_136 : decode cX11_sheet 136 = .ok (.getfield 305, 3) := by decide +kernel
theorem dX11_sheet_139 : decode cX11_sheet 139 = .ok (.dup_x1, 1) := by decide +kernel
theorem dX11_sheet_140 : decode cX11_sheet 140 = .ok (.iconst 1, 1) := by decide +kernel
theorem dX11_sheet_141 : decode cX11_sheet 141 = .ok (.iadd, 1) := by decide +kernel
theorem dX11_sheet_142 : decode cX11_sheet 142 = .ok (.putfield 305, 3) := by decide +kernel
theorem pk_LandSurvey_12 : pk RX11 TX11 19 12 tyX11 false := ⟨tyX11_ok, nmX11, rfl⟩
theorem dX11_sheet_145 : decode cX11_sheet 145 = .ok (.ireturn, 1) := by decide +kernel
theorem dX11_sheet_77 : decode cX11_sheet 77 = .ok (.iload_n 1, 1) := by decide +kernel
theorem dX11_sheet_78 : decode cX11_sheet 78 = .ok (.istore 9, 2) := by decide +kernel
theorem dX11_sheet_80 : decode cX11_sheet 80 = .ok (.iload 9, 2) := by decide +kernel
theorem dX11_sheet_82 : decode cX11_sheet 82 = .ok (.iload_n 3, 1) := by decide +kernel
theorem dX11_sheet_83 : decode cX11_sheet 83 = .ok (.if_icmp .gt 34, 3) := by decide +kernel
theorem dX11_sheet_117 : decode cX11_sheet 117 = .ok (.iinc 8 1, 3) := by decide +kernel
theorem dX11_sheet_120 : decode cX11_sheet 120 = .ok (.goto (-50), 3) := by decide +kernel
theorem dX11_sheet_86 : decode cX11_sheet 86 = .ok (.bipush 12, 2) := by decide +kernel
theorem dX11_sheet_88 : decode cX11_sheet 88 = .ok (.iload 8, 2) := by decide +kernel
theorem dX11_sheet_90 : decode cX11_sheet 90 = .ok (.imul, 1) := by decide +kernel
theorem dX11_sheet_91 : decode cX11_sheet 91 = .ok (.iload 9, 2) := by decide +kernel
theorem dX11_sheet_93 : decode cX11_sheet 93 = .ok (.iadd, 1) := by decide +kernel
theorem dX11_sheet_94 : decode cX11_sheet 94 = .ok (.istore 10, 2) := by decide +kernel
theorem dX11_sheet_96 : decode cX11_sheet 96 = .ok (.aload 7, 2) := by decide +kernel
theorem dX11_sheet_98 : decode cX11_sheet 98 = .ok (.getfield 309, 3) := by decide +kernel
theorem dX11_sheet_101 : decode cX11_sheet 101 = .ok (.iload 10, 2) := by decide +kernel
theorem dX11_sheet_103 : decode cX11_sheet 103 = .ok (.aload_n 0, 1) := by decide +kernel
theorem dX11_sheet_104 : decode cX11_sheet 104 = .ok (.iload 10, 2) := by decide +kernel
theorem dX11_sheet_106 : decode cX11_sheet 106 = .ok (.iconst 0, 1) := by decide +kernel
theorem dX11_sheet_107 : decode cX11_sheet 107 = .ok (.invokevirtual 256, 3) := by decide +kernel
theorem dX11_sheet_110 : decode cX11_sheet 110 = .ok (.iastore, 1) := by decide +kernel
theorem dX11_sheet_111 : decode cX11_sheet 111 = .ok (.iinc 9 1, 3) := by decide +kernel
theorem dX11_sheet_114 : decode cX11_sheet 114 = .ok (.goto (-34), 3) := by decide +kernel
abbrev cX3_takeSigns : ByteArray := prog_5_method_2_code
def yX3_takeSigns : MethodName := ⟨RX3, "takeSigns", "(J)V"⟩
theorem okX3_takeSigns : yok yX3_takeSigns 1 := by decide +kernel
theorem kw_235 : Cond.fieldLink "LandSurvey$Reader" 19 "LandSurvey$Reader" "length" "I" ∈ uu := uu_in (i := 235) (by decide +kernel) (by decide +kernel)
theorem fk_LandSurvey_Reader_19 : fkI "LandSurvey$Reader" 19 3 1 RX3 TX3 14 := ⟨rfl, rfl, inX3, by decide, kw_235, by decide⟩
theorem dX3_takeSigns_0 : decode cX3_takeSigns 0 = .ok (.bipush 56, 2) := by decide +kernel
theorem dX3_takeSigns_2 : decode cX3_takeSigns 2 = .ok (.istore_n 3, 1) := by decide +kernel
theorem dX3_takeSigns_3 : decode cX3_takeSigns 3 = .ok (.iload_n 3, 1) := by decide +kernel
theorem dX3_takeSigns_4 : decode cX3_takeSigns 4 = .ok (.ifCond .lt 84, 3) := by decide +kernel
theorem dX3_takeSigns_88 : decode cX3_takeSigns 88 = .ok (.return_, 1) := by decide +kernel
theorem dX3_takeSigns_7 : decode cX3_takeSigns 7 = .ok (.lload_n 1, 1) := by decide +kernel
theorem dX3_takeSigns_8 : decode cX3_takeSigns 8 = .ok (.iload_n 3, 1) := by decide +kernel
theorem dX3_takeSigns_9 : decode cX3_takeSigns 9 = .ok (.lushr, 1) := by decide +kernel
theorem dX3_takeSigns_10 : decode cX3_takeSigns 10 = .ok (.l2i, 1) := by decide +kernel
theorem dX3_takeSigns_11 : decode cX3_takeSigns 11 = .ok (.sipush 255, 3) := by decide +kernel
theorem dX3_takeSigns_14 : decode cX3_takeSigns 14 = .ok (.iand, 1) := by decide +kernel
theorem dX3_takeSigns_15 : decode cX3_takeSigns 15 = .ok (.istore 4, 2) := by decide +kernel
theorem dX3_takeSigns_17 : decode cX3_takeSigns 17 = .ok (.iload 4, 2) := by decide +kernel
theorem dX3_takeSigns_19 : decode cX3_takeSigns 19 = .ok (.bipush 10, 2) := by decide +kernel
theorem dX3_takeSigns_21 : decode cX3_takeSigns 21 = .ok (.if_icmp .eq 17, 3) := by decide +kernel
theorem dX3_takeSigns_38 : decode cX3_takeSigns 38 = .ok (.iconst 1, 1) := by decide +kernel
theorem dX3_takeSigns_39 : decode cX3_takeSigns 39 = .ok (.goto 4, 3) := by decide +kernel
theorem dX3_takeSigns_43 : decode cX3_takeSigns 43 = .ok (.istore 5, 2) := by decide +kernel
theorem dX3_takeSigns_45 : decode cX3_takeSigns 45 = .ok (.iload 5, 2) := by decide +kernel
theorem dX3_takeSigns_47 : decode cX3_takeSigns 47 = .ok (.ifCond .eq 35, 3) := by decide +kernel
theorem dX3_takeSigns_50 : decode cX3_takeSigns 50 = .ok (.aload_n 0, 1) := by decide +kernel
theorem dX3_takeSigns_51 : decode cX3_takeSigns 51 = .ok (.getfield 19, 3) := by decide +kernel
theorem dX3_takeSigns_54 : decode cX3_takeSigns 54 = .ok (.sipush 1500, 3) := by decide +kernel
theorem dX3_takeSigns_57 : decode cX3_takeSigns 57 = .ok (.if_icmp .ge 25, 3) := by decide +kernel
theorem dX3_takeSigns_82 : decode cX3_takeSigns 82 = .ok (.iinc 3 (-8), 3) := by decide +kernel
theorem dX3_takeSigns_85 : decode cX3_takeSigns 85 = .ok (.goto (-82), 3) := by decide +kernel
theorem dX3_takeSigns_60 : decode cX3_takeSigns 60 = .ok (.aload_n 0, 1) := by decide +kernel
theorem dX3_takeSigns_61 : decode cX3_takeSigns 61 = .ok (.getfield 9, 3) := by decide +kernel
theorem kw_234 : Cond.fieldLink "LandSurvey$Reader" 9 "LandSurvey$Reader" "tape" "[C" ∈ uu := uu_in (i := 234) (by decide +kernel) (by decide +kernel)
theorem fk_LandSurvey_Reader_9 : fkR "LandSurvey$Reader" 9 3 0 RX3 TX3 14 := ⟨rfl, rfl, inX3, by decide, kw_234, by decide⟩
theorem dX3_takeSigns_64 : decode cX3_takeSigns 64 = .ok (.aload_n 0, 1) := by decide +kernel
theorem dX3_takeSigns_65 : decode cX3_takeSigns 65 = .ok (.getfield 19, 3) := by decide +kernel
theorem dX3_takeSigns_68 : decode cX3_takeSigns 68 = .ok (.iload 4, 2) := by decide +kernel
theorem dX3_takeSigns_70 : decode cX3_takeSigns 70 = .ok (.i2c, 1) := by decide +kernel
theorem dX3_takeSigns_71 : decode cX3_takeSigns 71 = .ok (.castore, 1) := by decide +kernel
theorem dX3_takeSigns_72 : decode cX3_takeSigns 72 = .ok (.aload_n 0, 1) := by decide +kernel
theorem dX3_takeSigns_73 : decode cX3_takeSigns 73 = .ok (.dup, 1) := by decide +kernel
theorem dX3_takeSigns_74 : decode cX3_takeSigns 74 = .ok (.getfield 19, 3) := by decide +kernel
theorem dX3_takeSigns_77 : decode cX3_takeSigns 77 = .ok (.iconst 1, 1) := by decide +kernel
theorem dX3_takeSigns_78 : decode cX3_takeSigns 78 = .ok (.iadd, 1) := by decide +kernel
theorem dX3_takeSigns_79 : decode cX3_takeSigns 79 = .ok (.putfield 19, 3) := by decide +kernel
theorem pk_LandSurvey_Reader_1 : pk RX3 TX3 14 1 tyX3 false := ⟨tyX3_ok, nmX3, rfl⟩
theorem dX3_takeSigns_24 : decode cX3_takeSigns 24 = .ok (.iload 4, 2) := by decide +kernel
theorem dX3_takeSigns_26 : decode cX3_takeSigns 26 = .ok (.bipush 32, 2) := by decide +kernel
theorem dX3_takeSigns_28 : decode cX3_takeSigns 28 = .ok (.if_icmp .lt 14, 3) := by decide +kernel
theorem dX3_takeSigns_42 : decode cX3_takeSigns 42 = .ok (.iconst 0, 1) := by decide +kernel
theorem dX3_takeSigns_31 : decode cX3_takeSigns 31 = .ok (.iload 4, 2) := by decide +kernel
theorem dX3_takeSigns_33 : decode cX3_takeSigns 33 = .ok (.bipush 126, 2) := by decide +kernel
theorem dX3_takeSigns_35 : decode cX3_takeSigns 35 = .ok (.if_icmp .gt 7, 3) := by decide +kernel
abbrev cX11_feed : ByteArray := prog_1_method_11_code
def yX11_feed : MethodName := ⟨RX11, "feed", "(JJJ)I"⟩
theorem okX11_feed : yok yX11_feed 3 := by decide +kernel
theorem dX11_feed_0 : decode cX11_feed 0 = .ok (.aload_n 0, 1) := by decide +kernel
theorem dX11_feed_1 : decode cX11_feed 1 = .ok (.getfield 29, 3) := by decide +kernel
theorem dX11_feed_4 : decode cX11_feed 4 = .ok (.lload_n 1, 1) := by decide +kernel
theorem dX11_feed_5 : decode cX11_feed 5 = .ok (.invokevirtual 139, 3) := by decide +kernel
theorem kw_662 : Cond.code yX3_takeSigns prog_5_method_2_code 6 none ∈ uu := uu_in (i := 662) (by decide +kernel) (by decide +kernel)
theorem kw_147 : Cond.initialized "LandSurvey$Reader" ∈ uu := uu_in (i := 147) (by decide +kernel) (by decide +kernel)
theorem kw_659 : Cond.methodLink "LandSurvey" 139 yX3_takeSigns ∈ uu := uu_in (i := 659) (by decide +kernel) (by decide +kernel)
theorem kw_660 : Cond.instanceMethod yX3_takeSigns ∈ uu := uu_in (i := 660) (by decide +kernel) (by decide +kernel)
theorem kw_661 : Cond.selects "LandSurvey$Reader" yX3_takeSigns yX3_takeSigns ∈ uu := uu_in (i := 661) (by decide +kernel) (by decide +kernel)
theorem lk_LandSurvey_139 : lkV "LandSurvey" 139 yX3_takeSigns cX3_takeSigns 6 none 1 := ⟨kw_659, kw_660, kw_661, kw_147, kw_662, okX3_takeSigns⟩
theorem dX11_feed_8 : decode cX11_feed 8 = .ok (.aload_n 0, 1) := by decide +kernel
theorem dX11_feed_9 : decode cX11_feed 9 = .ok (.getfield 29, 3) := by decide +kernel
theorem dX11_feed_12 : decode cX11_feed 12 = .ok (.lload_n 3, 1) := by decide +kernel
theorem dX11_feed_13 : decode cX11_feed 13 = .ok (.invokevirtual 139, 3) := by decide +kernel
theorem dX11_feed_16 : decode cX11_feed 16 = .ok (.aload_n 0, 1) := by decide +kernel
theorem dX11_feed_17 : decode cX11_feed 17 = .ok (.getfield 29, 3) := by decide +kernel
theorem dX11_feed_20 : decode cX11_feed 20 = .ok (.lload 5, 2) := by decide +kernel
theorem dX11_feed_22 : decode cX11_feed 22 = .ok (.invokevirtual 139, 3) := by decide +kernel
theorem dX11_feed_25 : decode cX11_feed 25 = .ok (.aload_n 0, 1) := by decide +kernel
theorem dX11_feed_26 : decode cX11_feed 26 = .ok (.getfield 29, 3) := by decide +kernel
theorem dX11_feed_29 : decode cX11_feed 29 = .ok (.getfield 143, 3) := by decide +kernel
theorem dX11_feed_32 : decode cX11_feed 32 = .ok (.ireturn, 1) := by decide +kernel
def wr_k_X8_init : List Nat := [1800, 1801, 1802, 1803, 1804, 1805, 1806, 1807, 1808, 1811, 1813, 1814]
set_option maxRecDepth 100000 in
set_option maxHeartbeats 4000000 in
theorem k_X8_init (l : Launch) (D : va_G) (cy : Nat → ClassId) (w : Nat → Nat) (z0 : Nat) {h : Hp} {a0 : Nat} {a1 : Int} {a2 : Int} {a3 : Int} {a4 : Int} {a5 : Int} {a6 : Int}  (O : Okh h) (ta0 : Tg h a0 = 9) (fa1 : 0 ≤ a1 ∧ a1 ≤ 4) (fa2 : 0 ≤ a2 ∧ a2 ≤ 95) (fa3 : 0 ≤ a3 ∧ a3 ≤ 999) (fa4 : 0 ≤ a4 ∧ a4 ≤ 5) (fa5 : 0 ≤ a5 ∧ a5 ≤ 9999) (fa6 : 0 ≤ a6 ∧ a6 ≤ 9999) : MV l D cy w z0 yX8_init cX8_init 7 none 1 24 0 0 [.inr (.inr a0), .inl a1, .inl a2, .inl a3, .inl a4, .inl a5, .inl a6] h (fun h1 => Okh h1 ∧ Fx wr_k_X8_init h h1 ∧ (Fe a0 h h1) ∧ (Iv h1 a0 8 = -1)) := by
  refine hm_go (by decide +kernel) (Nat.le_of_ble_eq_true rfl) (fun p e s m below meth c C hr hn => ?_)
  refine g_aload_n C rfl 0 rfl dX8_init_0 ?_
  refine g_oinit C (tg_nz ta0) kw_557 kw_178 (by decide) (Nat.le_of_ble_eq_true rfl) dX8_init_1 ?_
  refine g_aload_n C rfl 0 rfl dX8_init_4 ?_
  refine g_iconst C dX8_init_5 ?_
  refine gp_I C fk_LandSurvey_Sight_9 pk_LandSurvey_Sight_6 rfl ta0 (iw (il (-1)) (by decide) (by decide)) (nf_i _) dX8_init_6 (fun h2 hh1 => ?_)
  have O3 := O.pI ta0 hh1 rI_9_6 (iw (il (-1)) (by decide) (by decide)) nofun
  refine g_aload_n C rfl 0 rfl dX8_init_9 ?_
  refine g_iconst C dX8_init_10 ?_
  have e4 : Tg h2 a0 = 9 := ((pIT hh1).trans ta0)
  refine gp_I C fk_LandSurvey_Sight_15 pk_LandSurvey_Sight_7 rfl e4 (iw (il (-1)) (by decide) (by decide)) (nf_i _) dX8_init_11 (fun h6 hh5 => ?_)
  have O7 := O3.pI e4 hh5 rI_9_7 (iw (il (-1)) (by decide) (by decide)) nofun
  refine g_aload_n C rfl 0 rfl dX8_init_14 ?_
  refine g_iconst C dX8_init_15 ?_
  have e8 : Tg h6 a0 = 9 := ((pIT hh5).trans e4)
  refine gp_I C fk_LandSurvey_Sight_18 pk_LandSurvey_Sight_8 rfl e8 (iw (il (-1)) (by decide) (by decide)) (nf_i _) dX8_init_16 (fun h10 hh9 => ?_)
  have O11 := O7.pI e8 hh9 rI_9_8 (iw (il (-1)) (by decide) (by decide)) nofun
  refine g_aload_n C rfl 0 rfl dX8_init_19 ?_
  refine g_iconst C dX8_init_20 ?_
  have e12 : Tg h10 a0 = 9 := ((pIT hh9).trans e8)
  refine gp_I C fk_LandSurvey_Sight_21 pk_LandSurvey_Sight_11 rfl e12 (iw (il (-1)) (by decide) (by decide)) (nf_i _) dX8_init_21 (fun h14 hh13 => ?_)
  have O15 := O11.pI e12 hh13 rI_9_11 (iw (il (-1)) (by decide) (by decide)) nofun
  refine g_aload_n C rfl 0 rfl dX8_init_24 ?_
  refine g_iconst C dX8_init_25 ?_
  have e16 : Tg h14 a0 = 9 := ((pIT hh13).trans e12)
  refine gp_I C fk_LandSurvey_Sight_24 pk_LandSurvey_Sight_13 rfl e16 (iw (il (-1)) (by decide) (by decide)) (nf_i _) dX8_init_26 (fun h18 hh17 => ?_)
  have O19 := O15.pI e16 hh17 rI_9_13 (iw (il (-1)) (by decide) (by decide)) nofun
  refine g_aload_n C rfl 0 rfl dX8_init_29 ?_
  refine g_iconst C dX8_init_30 ?_
  have e20 : Tg h18 a0 = 9 := ((pIT hh17).trans e16)
  refine gp_I C fk_LandSurvey_Sight_27 pk_LandSurvey_Sight_14 rfl e20 (iw (il (-1)) (by decide) (by decide)) (nf_i _) dX8_init_31 (fun h22 hh21 => ?_)
  have O23 := O19.pI e20 hh21 rI_9_14 (iw (il (-1)) (by decide) (by decide)) nofun
  refine g_aload_n C rfl 0 rfl dX8_init_34 ?_
  refine g_iload_n C rfl 1 rfl dX8_init_35 ?_
  have e24 : Tg h22 a0 = 9 := ((pIT hh21).trans e20)
  refine gp_IF C fk_LandSurvey_Sight_30 pk_LandSurvey_Sight_0 rfl e24 hn rfl (iw fa1 (by decide) (by decide)) (nf_i _) dX8_init_36 (fun h26 hh25 => ?_)
  have O27 := O23.pI e24 hh25 rI_9_0 fa1 nofun
  refine g_aload_n C rfl 0 rfl dX8_init_39 ?_
  refine g_iload_n C rfl 2 rfl dX8_init_40 ?_
  have e28 : Tg h26 a0 = 9 := ((pIT hh25).trans e24)
  refine gp_IF C fk_LandSurvey_Sight_33 pk_LandSurvey_Sight_1 rfl e28 hn rfl (iw fa2 (by decide) (by decide)) (nf_i _) dX8_init_41 (fun h30 hh29 => ?_)
  have O31 := O27.pI e28 hh29 rI_9_1 fa2 nofun
  refine g_aload_n C rfl 0 rfl dX8_init_44 ?_
  refine g_iload_n C rfl 3 rfl dX8_init_45 ?_
  have e32 : Tg h30 a0 = 9 := ((pIT hh29).trans e28)
  refine gp_IF C fk_LandSurvey_Sight_36 pk_LandSurvey_Sight_2 rfl e32 hn rfl (iw fa3 (by decide) (by decide)) (nf_i _) dX8_init_46 (fun h34 hh33 => ?_)
  have O35 := O31.pI e32 hh33 rI_9_2 fa3 nofun
  refine g_aload_n C rfl 0 rfl dX8_init_49 ?_
  refine g_iload C 4 rfl dX8_init_50 ?_
  have e36 : Tg h34 a0 = 9 := ((pIT hh33).trans e32)
  refine gp_IF C fk_LandSurvey_Sight_39 pk_LandSurvey_Sight_3 rfl e36 hn rfl (iw fa4 (by decide) (by decide)) (nf_i _) dX8_init_52 (fun h38 hh37 => ?_)
  have O39 := O35.pI e36 hh37 rI_9_3 fa4 nofun
  refine g_aload_n C rfl 0 rfl dX8_init_55 ?_
  refine g_iload C 5 rfl dX8_init_56 ?_
  have e40 : Tg h38 a0 = 9 := ((pIT hh37).trans e36)
  refine gp_IF C fk_LandSurvey_Sight_42 pk_LandSurvey_Sight_4 rfl e40 hn rfl (iw fa5 (by decide) (by decide)) (nf_i _) dX8_init_58 (fun h42 hh41 => ?_)
  have O43 := O39.pI e40 hh41 rI_9_4 fa5 nofun
  refine g_aload_n C rfl 0 rfl dX8_init_61 ?_
  refine g_iload C 6 rfl dX8_init_62 ?_
  have e44 : Tg h42 a0 = 9 := ((pIT hh41).trans e40)
  refine gp_IF C fk_LandSurvey_Sight_45 pk_LandSurvey_Sight_5 rfl e44 hn rfl (iw fa6 (by decide) (by decide)) (nf_i _) dX8_init_64 (fun h46 hh45 => ?_)
  have O47 := O43.pI e44 hh45 rI_9_5 fa6 nofun
  have e48 : Iv h46 a0 8 = (-1) := ((pI_j hh45 (by decide)).trans ((pI_j hh41 (by decide)).trans ((pI_j hh37 (by decide)).trans ((pI_j hh33 (by decide)).trans ((pI_j hh29 (by decide)).trans ((pI_j hh25 (by decide)).trans ((pI_j hh21 (by decide)).trans ((pI_j hh17 (by decide)).trans ((pI_j hh13 (by decide)).trans (pI_e hh9))))))))))
  exact g_vret C hr ⟨O47, (((((((((((((Fx.rf (wr := wr_k_X8_init)).pI ta0 hh1 rfl).pI e4 hh5 rfl).pI e8 hh9 rfl).pI e12 hh13 rfl).pI e16 hh17 rfl).pI e20 hh21 rfl).pI e24 hh25 rfl).pI e28 hh29 rfl).pI e32 hh33 rfl).pI e36 hh37 rfl).pI e40 hh41 rfl).pI e44 hh45 rfl), ((((((((((((Fe.rf.pI hh1).pI hh5).pI hh9).pI hh13).pI hh17).pI hh21).pI hh25).pI hh29).pI hh33).pI hh37).pI hh41).pI hh45), e48⟩ (by decide) (by decide) dX8_init_67
def wr_k_X0_init : List Nat := [200, 201, 202, 203, 204, 205]
set_option maxRecDepth 100000 in
set_option maxHeartbeats 4000000 in
theorem k_X0_init (l : Launch) (D : va_G) (cy : Nat → ClassId) (w : Nat → Nat) (z0 : Nat) {h : Hp} {a0 : Nat} {a1 : Int} {a2 : Int} {a3 : Int} {a4 : Int} {a5 : Int} {a6 : Int}  (O : Okh h) (ta0 : Tg h a0 = 1) (fa1 : 0 ≤ a1 ∧ a1 ≤ 95) (fa2 : 0 ≤ a2 ∧ a2 ≤ 1) (fa3 : 0 ≤ a3 ∧ a3 ≤ 12) (fa4 : (-300) ≤ a4 ∧ a4 ≤ 300) (fa5 : (-300) ≤ a5 ∧ a5 ≤ 300) (fa6 : 0 ≤ a6 ∧ a6 ≤ 99) : MV l D cy w z0 yX0_init cX0_init 7 none 1 24 0 0 [.inr (.inr a0), .inl a1, .inl a2, .inl a3, .inl a4, .inl a5, .inl a6] h (fun h1 => Okh h1 ∧ Fx wr_k_X0_init h h1 ∧ (Fe a0 h h1) ∧ (Iv h1 a0 0 = a1) ∧ (Iv h1 a0 1 = a2) ∧ (Iv h1 a0 2 = a3)) := by
  refine hm_go (by decide +kernel) (Nat.le_of_ble_eq_true rfl) (fun p e s m below meth c C hr hn => ?_)
  refine g_aload_n C rfl 0 rfl dX0_init_0 ?_
  refine g_oinit C (tg_nz ta0) kw_918 kw_178 (by decide) (Nat.le_of_ble_eq_true rfl) dX0_init_1 ?_
  refine g_aload_n C rfl 0 rfl dX0_init_4 ?_
  refine g_iload_n C rfl 1 rfl dX0_init_5 ?_
  refine gp_IF C fk_LandSurvey_Break_7 pk_LandSurvey_Break_0 rfl ta0 hn rfl (iw fa1 (by decide) (by decide)) (nf_i _) dX0_init_6 (fun h2 hh1 => ?_)
  have O3 := O.pI ta0 hh1 rI_1_0 fa1 nofun
  refine g_aload_n C rfl 0 rfl dX0_init_9 ?_
  refine g_iload_n C rfl 2 rfl dX0_init_10 ?_
  have e4 : Tg h2 a0 = 1 := ((pIT hh1).trans ta0)
  refine gp_IF C fk_LandSurvey_Break_13 pk_LandSurvey_Break_1 rfl e4 hn rfl (iw fa2 (by decide) (by decide)) (nar_z2 fa2) dX0_init_11 (fun h6 hh5 => ?_)
  have O7 := O3.pI e4 hh5 rI_1_1 fa2 nofun
  refine g_aload_n C rfl 0 rfl dX0_init_14 ?_
  refine g_iload_n C rfl 3 rfl dX0_init_15 ?_
  have e8 : Tg h6 a0 = 1 := ((pIT hh5).trans e4)
  refine gp_IF C fk_LandSurvey_Break_17 pk_LandSurvey_Break_2 rfl e8 hn rfl (iw fa3 (by decide) (by decide)) (nf_i _) dX0_init_16 (fun h10 hh9 => ?_)
  have O11 := O7.pI e8 hh9 rI_1_2 fa3 nofun
  refine g_aload_n C rfl 0 rfl dX0_init_19 ?_
  refine g_iload C 4 rfl dX0_init_20 ?_
  have e12 : Tg h10 a0 = 1 := ((pIT hh9).trans e8)
  refine gp_IF C fk_LandSurvey_Break_20 pk_LandSurvey_Break_3 rfl e12 hn rfl (iw fa4 (by decide) (by decide)) (nf_i _) dX0_init_22 (fun h14 hh13 => ?_)
  have O15 := O11.pI e12 hh13 rI_1_3 fa4 nofun
  refine g_aload_n C rfl 0 rfl dX0_init_25 ?_
  refine g_iload C 5 rfl dX0_init_26 ?_
  have e16 : Tg h14 a0 = 1 := ((pIT hh13).trans e12)
  refine gp_IF C fk_LandSurvey_Break_23 pk_LandSurvey_Break_4 rfl e16 hn rfl (iw fa5 (by decide) (by decide)) (nf_i _) dX0_init_28 (fun h18 hh17 => ?_)
  have O19 := O15.pI e16 hh17 rI_1_4 fa5 nofun
  refine g_aload_n C rfl 0 rfl dX0_init_31 ?_
  refine g_iload C 6 rfl dX0_init_32 ?_
  have e20 : Tg h18 a0 = 1 := ((pIT hh17).trans e16)
  refine gp_IF C fk_LandSurvey_Break_26 pk_LandSurvey_Break_5 rfl e20 hn rfl (iw fa6 (by decide) (by decide)) (nf_i _) dX0_init_34 (fun h22 hh21 => ?_)
  have O23 := O19.pI e20 hh21 rI_1_5 fa6 nofun
  have e24 : Iv h22 a0 0 = a1 := ((pI_j hh21 (by decide)).trans ((pI_j hh17 (by decide)).trans ((pI_j hh13 (by decide)).trans ((pI_j hh9 (by decide)).trans ((pI_j hh5 (by decide)).trans (pI_e hh1))))))
  have e25 : Iv h22 a0 1 = a2 := ((pI_j hh21 (by decide)).trans ((pI_j hh17 (by decide)).trans ((pI_j hh13 (by decide)).trans ((pI_j hh9 (by decide)).trans (pI_e hh5)))))
  have e26 : Iv h22 a0 2 = a3 := ((pI_j hh21 (by decide)).trans ((pI_j hh17 (by decide)).trans ((pI_j hh13 (by decide)).trans (pI_e hh9))))
  exact g_vret C hr ⟨O23, (((((((Fx.rf (wr := wr_k_X0_init)).pI ta0 hh1 rfl).pI e4 hh5 rfl).pI e8 hh9 rfl).pI e12 hh13 rfl).pI e16 hh17 rfl).pI e20 hh21 rfl), ((((((Fe.rf.pI hh1).pI hh5).pI hh9).pI hh13).pI hh17).pI hh21), e24, e25, e26⟩ (by decide) (by decide) dX0_init_37
def wr_k_X11_sight : List Nat := [1800, 1801, 1802, 1803, 1804, 1805, 1806, 1807, 1808, 1811, 1813, 1814, 2204, 2215, 7620800]
set_option maxRecDepth 100000 in
set_option maxHeartbeats 4000000 in
theorem k_X11_sight (l : Launch) (D : va_G) (cy : Nat → ClassId) (w : Nat → Nat) (z0 : Nat) {h : Hp} {a0 : Nat} {a1 : Int} {a2 : Int} {a3 : Int} {a4 : Int} {a5 : Int} {a6 : Int}  (O : Okh h) (ta0 : Tg h a0 = 11) (fa1 : (-2147483648) ≤ a1 ∧ a1 ≤ 2147483647) (fa2 : (-2147483648) ≤ a2 ∧ a2 ≤ 2147483647) (fa3 : (-2147483648) ≤ a3 ∧ a3 ≤ 2147483647) (fa4 : (-2147483648) ≤ a4 ∧ a4 ≤ 2147483647) (fa5 : (-2147483648) ≤ a5 ∧ a5 ≤ 2147483647) (fa6 : (-2147483648) ≤ a6 ∧ a6 ≤ 2147483647) (P_XInv : XInv h a0) : MI l D cy w z0 yX11_sight cX11_sight 10 (some .int) 2 50 1 19 [.inr (.inr a0), .inl a1, .inl a2, .inl a3, .inl a4, .inl a5, .inl a6] h (fun v h1 => Okh h1 ∧ Fx wr_k_X11_sight h h1 ∧ ((-1) ≤ v ∧ v ≤ 39) ∧ (XInv h1 a0)) := by
  obtain ⟨v1, e2⟩ : ∃ z, Rv h a0 3 = z := ⟨_, rfl⟩
  have t3 := ok_R O ta0 rE_11_3 e2
  have l4 := ok_L O ta0 rE_11_3 e2
  obtain ⟨v5, e6⟩ : ∃ z, Iv h a0 4 = z := ⟨_, rfl⟩
  have f7 := ok_I O ta0 rI_11_4 e6
  obtain ⟨v8, e9⟩ : ∃ z, Rv h a0 8 = z := ⟨_, rfl⟩
  have t10 := ok_R O ta0 rE_11_8 e9
  have l11 := ok_L O ta0 rE_11_8 e9
  obtain ⟨v12, e13⟩ : ∃ z, Iv h a0 9 = z := ⟨_, rfl⟩
  have f14 := ok_I O ta0 rI_11_9 e13
  obtain ⟨v15, e16⟩ : ∃ z, Rv h a0 11 = z := ⟨_, rfl⟩
  have t17 := ok_R O ta0 rE_11_11 e16
  have l18 := ok_L O ta0 rE_11_11 e16
  obtain ⟨v19, e20⟩ : ∃ z, Iv h a0 12 = z := ⟨_, rfl⟩
  have f21 := ok_I O ta0 rI_11_12 e20
  obtain ⟨v22, e23⟩ : ∃ z, Iv h a0 15 = z := ⟨_, rfl⟩
  have f24 := ok_I O ta0 rI_11_15 e23
  obtain ⟨v25, e26⟩ : ∃ z, Rv h a0 14 = z := ⟨_, rfl⟩
  have t27 := ok_R O ta0 rE_11_14 e26
  have l28 := ok_L O ta0 rE_11_14 e26
  obtain ⟨v29, e30⟩ : ∃ z, Rv h a0 13 = z := ⟨_, rfl⟩
  have t31 := ok_R O ta0 rE_11_13 e30
  obtain ⟨v32, e33⟩ : ∃ z, Rv h a0 6 = z := ⟨_, rfl⟩
  have t34 := ok_R O ta0 rE_11_6 e33
  obtain ⟨v35, e36⟩ : ∃ z, Rv h a0 7 = z := ⟨_, rfl⟩
  have t37 := ok_R O ta0 rE_11_7 e36
  have p48 := P_XInv
  unfold XInv at p48
  rw [e2, e6, e9, e13, e16, e20, e23, e26, e30, e33, e36] at p48
  obtain ⟨p38, p39, p40, p41, p42, p43, p44, p45, p46, p47⟩ := p48
  obtain ⟨v49, e50⟩ : ∃ z, Iv h v29 3 = z := ⟨_, rfl⟩
  have f51 := ok_I O t31 rI_7_3 e50
  obtain ⟨v52, e53⟩ : ∃ z, Iv h v29 4 = z := ⟨_, rfl⟩
  have f54 := ok_I O t31 rI_7_4 e53
  rw [e50] at p44
  rw [e53] at p45
  refine hm_go (by decide +kernel) (Nat.le_of_ble_eq_true rfl) (fun p e s m below meth c C hr hn => ?_)
  refine g_iload_n C rfl 2 rfl dX11_sight_0 ?_
  refine g_iload_n C rfl 3 rfl dX11_sight_1 ?_
  refine g_callI (st := []) (gc_S C lk_LandSurvey_85 (k_X11_cellAt l D cy w z0 O fa2 fa3) rfl ⟨by decide, by decide⟩ (Nat.le_of_ble_eq_true rfl) dX11_sight_2 ⟨(by decide), (by decide)⟩) (fun r55 h56 f58 K57 => ?_)
  obtain ⟨O59, F60, f61, p62⟩ := K57
  refine g_istore C [(7, .inl r55), (0, .inr (.inr a0)), (1, .inl a1), (2, .inl a2), (3, .inl a3), (4, .inl a4), (5, .inl a5), (6, .inl a6)] (by decide) rfl dX11_sight_5 ?_
  refine g_iload C 0 rfl dX11_sight_7 ?_
  refine g_iconst C dX11_sight_9 ?_
  refine g_icmp_eq C (iw f61 (by decide) (by decide)) (iw (il (-1)) (by decide) (by decide)) 31 (by decide) dX11_sight_10 (fun q63 => ?_) (fun q64 => ?_)
  · have f65 : (-1 : Int) ≤ r55 ∧ r55 ≤ (-1 : Int) := ii f61 (r_eq (il (-1)) q63) (by decide) (by decide)
    refine g_iconst C dX11_sight_31 ?_
    have p66 := (XInv_fx O F60 ta0 rfl P_XInv)
    exact g_iret C hr rfl (iw (il (-1)) (by decide) (by decide)) ⟨O59, ((Fx.rf (wr := wr_k_X11_sight)).call F60 rfl), (iw (il (-1)) (by decide) (by decide)), p66⟩ (by decide) (by decide) dX11_sight_32
  · have f67 : (0 : Int) ≤ r55 ∧ r55 ≤ (95 : Int) := r_nl f61 q64
    refine g_iload_n C rfl 2 rfl dX11_sight_13 ?_
    refine g_if_lt C fa1 31 (by decide) dX11_sight_14 (fun q68 => ?_) (fun q69 => ?_)
    · have f70 : (-2147483648 : Int) ≤ a1 ∧ a1 ≤ (-1 : Int) := r_lt fa1 (il 0) q68 (by decide) (by decide)
      refine g_iconst C dX11_sight_31 ?_
      have p71 := (XInv_fx O F60 ta0 rfl P_XInv)
      exact g_iret C hr rfl (iw (il (-1)) (by decide) (by decide)) ⟨O59, ((Fx.rf (wr := wr_k_X11_sight)).call F60 rfl), (iw (il (-1)) (by decide) (by decide)), p71⟩ (by decide) (by decide) dX11_sight_32
    · have f72 : (0 : Int) ≤ a1 ∧ a1 ≤ (2147483647 : Int) := r_ge fa1 (il 0) q69 (by decide) (by decide)
      refine g_iload_n C rfl 2 rfl dX11_sight_17 ?_
      refine g_iconst C dX11_sight_18 ?_
      refine g_icmp_gt C (iw f72 (by decide) (by decide)) (iw (il 4) (by decide) (by decide)) 31 (by decide) dX11_sight_19 (fun q73 => ?_) (fun q74 => ?_)
      · have f75 : (5 : Int) ≤ a1 ∧ a1 ≤ (2147483647 : Int) := r_gt f72 (il 4) q73 (by decide) (by decide)
        refine g_iconst C dX11_sight_31 ?_
        have p76 := (XInv_fx O F60 ta0 rfl P_XInv)
        exact g_iret C hr rfl (iw (il (-1)) (by decide) (by decide)) ⟨O59, ((Fx.rf (wr := wr_k_X11_sight)).call F60 rfl), (iw (il (-1)) (by decide) (by decide)), p76⟩ (by decide) (by decide) dX11_sight_32
      · have f77 : (0 : Int) ≤ a1 ∧ a1 ≤ (4 : Int) := r_le f72 (il 4) q74 (by decide) (by decide)
        refine g_aload_n C rfl 1 rfl dX11_sight_22 ?_
        have e78 : Tg h56 a0 = 11 := (fxT F60 ta0)
        have e79 : Iv h56 a0 4 = v5 := ((fxI F60 ta0 rfl).trans e6)
        refine gf_I C fk_LandSurvey_102 rfl e78 e79 dX11_sight_23 ?_
        refine g_bipush C (by decide) dX11_sight_26 ?_
        refine g_icmp_lt C (iw f7 (by decide) (by decide)) (iw (il 40) (by decide) (by decide)) 33 (by decide) dX11_sight_28 (fun q80 => ?_) (fun q81 => ?_)
        · have f82 : (0 : Int) ≤ v5 ∧ v5 ≤ (39 : Int) := r_lt f7 (il 40) q80 (by decide) (by decide)
          refine g_iload_n C rfl 2 rfl dX11_sight_33 ?_
          refine g_if_eq C (iw f77 (by decide) (by decide)) 42 (by decide) dX11_sight_34 (fun q83 => ?_) (fun q84 => ?_)
          · have f85 : (0 : Int) ≤ a1 ∧ a1 ≤ (0 : Int) := ii f77 (r_eq (il 0) q83) (by decide) (by decide)
            refine g_iconst C dX11_sight_42 ?_
            refine g_goto C 49 (by decide) dX11_sight_43 ?_
            refine g_istore C [(8, .inl 0), (7, .inl r55), (0, .inr (.inr a0)), (1, .inl a1), (2, .inl a2), (3, .inl a3), (4, .inl a4), (5, .inl a5), (6, .inl a6)] (by decide) rfl dX11_sight_49 ?_
            refine g_iload C 6 rfl dX11_sight_51 ?_
            refine g_if_lt C fa4 88 (by decide) dX11_sight_53 (fun q86 => ?_) (fun q87 => ?_)
            · have f88 : (-2147483648 : Int) ≤ a4 ∧ a4 ≤ (-1 : Int) := r_lt fa4 (il 0) q86 (by decide) (by decide)
              refine g_iconst C dX11_sight_88 ?_
              have p89 := (XInv_fx O F60 ta0 rfl P_XInv)
              exact g_iret C hr rfl (iw (il (-1)) (by decide) (by decide)) ⟨O59, ((Fx.rf (wr := wr_k_X11_sight)).call F60 rfl), (iw (il (-1)) (by decide) (by decide)), p89⟩ (by decide) (by decide) dX11_sight_89
            · have f90 : (0 : Int) ≤ a4 ∧ a4 ≤ (2147483647 : Int) := r_ge fa4 (il 0) q87 (by decide) (by decide)
              refine g_iload C 6 rfl dX11_sight_56 ?_
              refine g_iload C 0 rfl dX11_sight_58 ?_
              refine g_icmp_gt C (iw f90 (by decide) (by decide)) (iw (il 0) (by decide) (by decide)) 88 (by decide) dX11_sight_60 (fun q91 => ?_) (fun q92 => ?_)
              · have f93 : (1 : Int) ≤ a4 ∧ a4 ≤ (2147483647 : Int) := r_gt f90 (il 0) q91 (by decide) (by decide)
                refine g_iconst C dX11_sight_88 ?_
                have p94 := (XInv_fx O F60 ta0 rfl P_XInv)
                exact g_iret C hr rfl (iw (il (-1)) (by decide) (by decide)) ⟨O59, ((Fx.rf (wr := wr_k_X11_sight)).call F60 rfl), (iw (il (-1)) (by decide) (by decide)), p94⟩ (by decide) (by decide) dX11_sight_89
              · have f95 : (0 : Int) ≤ a4 ∧ a4 ≤ (0 : Int) := r_le f90 (il 0) q92 (by decide) (by decide)
                refine g_iload C 7 rfl dX11_sight_63 ?_
                refine g_if_lt C fa5 88 (by decide) dX11_sight_65 (fun q96 => ?_) (fun q97 => ?_)
                · have f98 : (-2147483648 : Int) ≤ a5 ∧ a5 ≤ (-1 : Int) := r_lt fa5 (il 0) q96 (by decide) (by decide)
                  refine g_iconst C dX11_sight_88 ?_
                  have p99 := (XInv_fx O F60 ta0 rfl P_XInv)
                  exact g_iret C hr rfl (iw (il (-1)) (by decide) (by decide)) ⟨O59, ((Fx.rf (wr := wr_k_X11_sight)).call F60 rfl), (iw (il (-1)) (by decide) (by decide)), p99⟩ (by decide) (by decide) dX11_sight_89
                · have f100 : (0 : Int) ≤ a5 ∧ a5 ≤ (2147483647 : Int) := r_ge fa5 (il 0) q97 (by decide) (by decide)
                  refine g_iload C 7 rfl dX11_sight_68 ?_
                  refine g_bipush C (by decide) dX11_sight_70 ?_
                  refine g_icmp_ge C (iw f100 (by decide) (by decide)) (iw (il 6) (by decide) (by decide)) 88 (by decide) dX11_sight_72 (fun q101 => ?_) (fun q102 => ?_)
                  · have f103 : (6 : Int) ≤ a5 ∧ a5 ≤ (2147483647 : Int) := r_ge f100 (il 6) q101 (by decide) (by decide)
                    refine g_iconst C dX11_sight_88 ?_
                    have p104 := (XInv_fx O F60 ta0 rfl P_XInv)
                    exact g_iret C hr rfl (iw (il (-1)) (by decide) (by decide)) ⟨O59, ((Fx.rf (wr := wr_k_X11_sight)).call F60 rfl), (iw (il (-1)) (by decide) (by decide)), p104⟩ (by decide) (by decide) dX11_sight_89
                  · have f105 : (0 : Int) ≤ a5 ∧ a5 ≤ (5 : Int) := r_lt f100 (il 6) q102 (by decide) (by decide)
                    refine g_iload C 8 rfl dX11_sight_75 ?_
                    refine g_if_lt C fa6 88 (by decide) dX11_sight_77 (fun q106 => ?_) (fun q107 => ?_)
                    · have f108 : (-2147483648 : Int) ≤ a6 ∧ a6 ≤ (-1 : Int) := r_lt fa6 (il 0) q106 (by decide) (by decide)
                      refine g_iconst C dX11_sight_88 ?_
                      have p109 := (XInv_fx O F60 ta0 rfl P_XInv)
                      exact g_iret C hr rfl (iw (il (-1)) (by decide) (by decide)) ⟨O59, ((Fx.rf (wr := wr_k_X11_sight)).call F60 rfl), (iw (il (-1)) (by decide) (by decide)), p109⟩ (by decide) (by decide) dX11_sight_89
                    · have f110 : (0 : Int) ≤ a6 ∧ a6 ≤ (2147483647 : Int) := r_ge fa6 (il 0) q107 (by decide) (by decide)
                      refine g_iload C 8 rfl dX11_sight_80 ?_
                      refine g_sipush C (by decide) dX11_sight_82 ?_
                      refine g_icmp_le C (iw f110 (by decide) (by decide)) (iw (il 9999) (by decide) (by decide)) 90 (by decide) dX11_sight_85 (fun q111 => ?_) (fun q112 => ?_)
                      · have f113 : (0 : Int) ≤ a6 ∧ a6 ≤ (9999 : Int) := r_le f110 (il 9999) q111 (by decide) (by decide)
                        refine g_iload_n C rfl 3 rfl dX11_sight_90 ?_
                        refine g_if_ne C (iw f85 (by decide) (by decide)) 109 (by decide) dX11_sight_91 (fun q114 => ?_) (fun q115 => ?_)
                        · exact (no_ne f85 (il 0) q114 (by decide)).elim
                        · refine g_aload_n C rfl 2 rfl dX11_sight_94 ?_
                          obtain ⟨v116, e117⟩ : ∃ z, Rv h56 a0 2 = z := ⟨_, rfl⟩
                          have t118 := ok_R O59 e78 rE_11_2 e117
                          refine gf_R C fk_LandSurvey_16 rfl e78 e117 dX11_sight_95 ?_
                          obtain ⟨v119, e120⟩ : ∃ z, Rv h56 v116 1 = z := ⟨_, rfl⟩
                          have t121 := ok_R O59 t118 rE_3_1 e120
                          have l122 := ok_L O59 t118 rE_3_1 e120
                          refine gf_R C fk_LandSurvey_92 rfl t118 e120 dX11_sight_98 ?_
                          refine g_iload C 1 rfl dX11_sight_101 ?_
                          obtain ⟨v123, e124⟩ : ∃ z, Iv h56 v119 r55.toNat = z := ⟨_, rfl⟩
                          have f125 := ok_Ia O59 t121 ar_13101 rI_13101_0 e124
                          refine g_zald C t121 rfl l122 (ix f67 (by decide) (by decide)) e124 dX11_sight_103 ?_
                          refine g_if_eq C (iw f125 (by decide) (by decide)) 109 (by decide) dX11_sight_104 (fun q126 => ?_) (fun q127 => ?_)
                          · have f128 : (0 : Int) ≤ v123 ∧ v123 ≤ (0 : Int) := ii f125 (r_eq (il 0) q126) (by decide) (by decide)
                            refine g_new C 9 rfl rfl rfl inX8 tyX8 tyX8_ok kw_226 kw_553 kw_153 (by decide +kernel) (by decide) (by decide) dX11_sight_109 (fun n129 z130 z131 h133 hh132 => ?_)
                            have O134 := O59.pN z130 z131 hh132 (by decide) nn_9
                            refine g_dup C rfl dX11_sight_112 ?_
                            refine g_iload_n C rfl 3 rfl dX11_sight_113 ?_
                            refine g_iload C 1 rfl dX11_sight_114 ?_
                            refine g_iload C 6 rfl dX11_sight_116 ?_
                            refine g_iload C 7 rfl dX11_sight_118 ?_
                            refine g_iload C 8 rfl dX11_sight_120 ?_
                            refine g_aload_n C rfl 2 rfl dX11_sight_122 ?_
                            have e135 : Tg h133 a0 = 11 := ((pNT hh132 (pN_n hh132 z131 e78)).trans e78)
                            obtain ⟨v136, e137⟩ : ∃ z, Iv h133 a0 0 = z := ⟨_, rfl⟩
                            have f138 := ok_I O134 e135 rI_11_0 e137
                            refine gf_I C fk_LandSurvey_78 rfl e135 e137 dX11_sight_123 ?_
                            refine g_callV (st := [.inr (.inr n129)]) (gc_I C lk_LandSurvey_105 rfl (k_X8_init l D cy w z0 O134 (pN_T hh132) (iw f85 (by decide) (by decide)) f67 (iw f95 (by decide) (by decide)) f105 f113 f138) (tg_nz (pN_T hh132)) rfl ⟨by decide, by decide⟩ (Nat.le_of_ble_eq_true rfl) dX11_sight_126 ⟨(by decide), (by decide)⟩) (fun h140 K141 => ?_)
                            obtain ⟨O143, F144, p145, p146⟩ := K141
                            have e147 : Tg h140 n129 = 9 := (fxT F144 (pN_T hh132))
                            have F148 : Fx [] h56 h140 := fe_new z131 hh132 p145
                            refine g_astore C [(9, .inr (.inr n129)), (8, .inl 0), (7, .inl r55), (0, .inr (.inr a0)), (1, .inl a1), (2, .inl a2), (3, .inl a3), (4, .inl a4), (5, .inl a5), (6, .inl a6)] (by decide) rfl dX11_sight_129 ?_
                            refine g_aload_n C rfl 3 rfl dX11_sight_131 ?_
                            have e149 : Tg h140 a0 = 11 := (fxT F148 e78)
                            have e150 : Rv h140 a0 3 = v1 := ((fxR F148 e78 rfl).trans ((fxR F60 ta0 rfl).trans e2))
                            refine gf_R C fk_LandSurvey_22 rfl e149 e150 dX11_sight_132 ?_
                            refine g_aload_n C rfl 3 rfl dX11_sight_135 ?_
                            have e151 : Iv h140 a0 4 = v5 := ((fxI F148 e78 rfl).trans e79)
                            refine gf_I C fk_LandSurvey_102 rfl e149 e151 dX11_sight_136 ?_
                            refine g_aload C 0 rfl dX11_sight_139 ?_
                            have e152 : Tg h140 v1 = 38104 := (fxT F148 (fxT F60 t3))
                            have e153 : Tg h56 v1 = 38104 := (fxT F60 t3)
                            have e154 : Ln h140 v1 = 40 := ((fxL F148 e153).trans ((fxL F60 t3).trans l4))
                            refine g_aast (t := 4) C e152 rfl (by decide) rfl e147 rfl rfl e154 (ix f82 (by decide) (by decide)) dX11_sight_141 (fun h156 hh155 => ?_)
                            have O157 := O143.pR e152 hh155 (okR_o ((rE_arr ar_38104 _).trans rE_38104_0) e147)
                            have e158 : Iv h156 a0 4 = v5 := ((pRI hh155).trans e151)
                            have p159 := (SOK_fx O59 F148 e153 rfl rfl rfl (SOK_fx O F60 t3 rfl rfl rfl p38))
                            have e160 : Tg h156 n129 = 9 := ((pRT hh155).trans e147)
                            have p161 : SOK h156 v1 (v5 + 1) := SOK_set p159 hh155 (by omega) (nz_of O157 e160) (fun z => absurd p146 z)
                            refine g_aload_n C rfl 3 rfl dX11_sight_142 ?_
                            refine g_iconst C dX11_sight_143 ?_
                            have e162 : Tg h156 a0 = 11 := ((pRT hh155).trans e149)
                            refine gp_I C fk_LandSurvey_81 pk_LandSurvey_15 rfl e162 (iw (il 0) (by decide) (by decide)) (nar_z2 (iw (il 0) (by decide) (by decide))) dX11_sight_144 (fun h164 hh163 => ?_)
                            have O165 := O157.pI e162 hh163 rI_11_15 (iw (il 0) (by decide) (by decide)) nofun
                            refine g_aload_n C rfl 3 rfl dX11_sight_147 ?_
                            refine g_dup C rfl dX11_sight_148 ?_
                            have e166 : Tg h164 a0 = 11 := ((pIT hh163).trans e162)
                            have e167 : Iv h164 a0 4 = v5 := ((pI_j hh163 (by decide)).trans e158)
                            refine gf_I C fk_LandSurvey_102 rfl e166 e167 dX11_sight_149 ?_
                            refine g_dup_x1 C rfl rfl dX11_sight_152 ?_
                            refine g_iconst C dX11_sight_153 ?_
                            have f168 : (1 : Int) ≤ (v5 + 1) ∧ (v5 + 1) ≤ (40 : Int) := ia_add f82 (il 1) (by decide) (by decide)
                            refine g_iadd C dX11_sight_154 ?_
                            refine gp_I C fk_LandSurvey_102 pk_LandSurvey_4 rfl e166 (iw f168 (by decide) (by decide)) (nf_i _) dX11_sight_155 (fun h170 hh169 => ?_)
                            have O171 := O165.pI e166 hh169 rI_11_4 (iw f168 (by decide) (by decide)) nofun
                            have e172 : Rv h170 a0 3 = v1 := ((pIR hh169).trans ((pIR hh163).trans ((pR_n hh155 (ne_tag e149 e152 (by decide))).trans e150)))
                            have e173 : Rv h170 a0 8 = v8 := ((pIR hh169).trans ((pIR hh163).trans ((pR_n hh155 (ne_tag e149 e152 (by decide))).trans ((fxR F148 e78 rfl).trans ((fxR F60 ta0 rfl).trans e9)))))
                            have e174 : Iv h170 a0 9 = v12 := ((pI_j hh169 (by decide)).trans ((pI_j hh163 (by decide)).trans ((pRI hh155).trans ((fxI F148 e78 rfl).trans ((fxI F60 ta0 rfl).trans e13)))))
                            have e175 : Rv h170 a0 11 = v15 := ((pIR hh169).trans ((pIR hh163).trans ((pR_n hh155 (ne_tag e149 e152 (by decide))).trans ((fxR F148 e78 rfl).trans ((fxR F60 ta0 rfl).trans e16)))))
                            have e176 : Iv h170 a0 12 = v19 := ((pI_j hh169 (by decide)).trans ((pI_j hh163 (by decide)).trans ((pRI hh155).trans ((fxI F148 e78 rfl).trans ((fxI F60 ta0 rfl).trans e20)))))
                            have e177 : Rv h170 a0 14 = v25 := ((pIR hh169).trans ((pIR hh163).trans ((pR_n hh155 (ne_tag e149 e152 (by decide))).trans ((fxR F148 e78 rfl).trans ((fxR F60 ta0 rfl).trans e26)))))
                            have e178 : Iv h170 a0 15 = 0 := ((pI_j hh169 (by decide)).trans (pI_e hh163))
                            have e179 : Rv h170 a0 13 = v29 := ((pIR hh169).trans ((pIR hh163).trans ((pR_n hh155 (ne_tag e149 e152 (by decide))).trans ((fxR F148 e78 rfl).trans ((fxR F60 ta0 rfl).trans e30)))))
                            have e180 : Rv h170 a0 6 = v32 := ((pIR hh169).trans ((pIR hh163).trans ((pR_n hh155 (ne_tag e149 e152 (by decide))).trans ((fxR F148 e78 rfl).trans ((fxR F60 ta0 rfl).trans e33)))))
                            have e181 : Rv h170 a0 7 = v35 := ((pIR hh169).trans ((pIR hh163).trans ((pR_n hh155 (ne_tag e149 e152 (by decide))).trans ((fxR F148 e78 rfl).trans ((fxR F60 ta0 rfl).trans e36)))))
                            have e182 : Tg h56 v29 = 7 := (fxT F60 t31)
                            have e183 : Tg h140 v29 = 7 := (fxT F148 e182)
                            have e184 : Rv h170 v29 1 = v1 := ((pIR hh169).trans ((pIR hh163).trans ((pR_n hh155 (ne_tag e183 e152 (by decide))).trans ((fxR F148 e182 rfl).trans ((fxR F60 t31 rfl).trans p42)))))
                            have e185 : Rv h170 v29 2 = v8 := ((pIR hh169).trans ((pIR hh163).trans ((pR_n hh155 (ne_tag e183 e152 (by decide))).trans ((fxR F148 e182 rfl).trans ((fxR F60 t31 rfl).trans p43)))))
                            have e186 : Tg h156 v29 = 7 := ((pRT hh155).trans e183)
                            have e187 : Tg h164 v29 = 7 := ((pIT hh163).trans e186)
                            have e188 : Iv h170 v29 3 = v49 := ((pI_n hh169 (ne_tag e187 e166 (by decide))).trans ((pI_n hh163 (ne_tag e186 e162 (by decide))).trans ((pRI hh155).trans ((fxI F148 e182 rfl).trans ((fxI F60 t31 rfl).trans e50)))))
                            have e189 : Iv h170 v29 4 = v52 := ((pI_n hh169 (ne_tag e187 e166 (by decide))).trans ((pI_n hh163 (ne_tag e186 e162 (by decide))).trans ((pRI hh155).trans ((fxI F148 e182 rfl).trans ((fxI F60 t31 rfl).trans e53)))))
                            have e190 : Tg h156 v1 = 38104 := ((pRT hh155).trans e152)
                            have e191 : Tg h164 v1 = 38104 := ((pIT hh163).trans e190)
                            have p192 := (SOK_fx O165 ((Fx.rf (wr := [2204]) (h := h164)).pI e166 hh169 rfl) e191 rfl rfl rfl (SOK_fx O157 ((Fx.rf (wr := [2215]) (h := h156)).pI e162 hh163 rfl) e190 rfl rfl rfl p161))
                            have e193 : Tg h56 v8 = 39105 := (fxT F60 t10)
                            have e194 : Tg h140 v8 = 39105 := (fxT F148 e193)
                            have e195 : Tg h156 v8 = 39105 := ((pRT hh155).trans e194)
                            have e196 : Tg h164 v8 = 39105 := ((pIT hh163).trans e195)
                            have p197 := (BOK_fx O165 ((Fx.rf (wr := [2204]) (h := h164)).pI e166 hh169 rfl) e196 rfl rfl rfl rfl (BOK_fx O157 ((Fx.rf (wr := [2215]) (h := h156)).pI e162 hh163 rfl) e195 rfl rfl rfl rfl (BOK_fx O143 ((Fx.rf (wr := [7620800]) (h := h140)).pRa e152 ar_38104 hh155 rfl) e194 rfl rfl rfl rfl (BOK_fx O59 F148 e193 rfl rfl rfl rfl (BOK_fx O F60 t10 rfl rfl rfl rfl p39)))))
                            have e198 : Tg h56 v15 = 48106 := (fxT F60 t17)
                            have e199 : Tg h140 v15 = 48106 := (fxT F148 e198)
                            have e200 : Tg h156 v15 = 48106 := ((pRT hh155).trans e199)
                            have e201 : Tg h164 v15 = 48106 := ((pIT hh163).trans e200)
                            have p202 := (NN_fx ((Fx.rf (wr := [2204]) (h := h164)).pI e166 hh169 rfl) e201 ar_48106 rfl (NN_fx ((Fx.rf (wr := [2215]) (h := h156)).pI e162 hh163 rfl) e200 ar_48106 rfl (NN_fx ((Fx.rf (wr := [7620800]) (h := h140)).pRa e152 ar_38104 hh155 rfl) e199 ar_48106 rfl (NN_fx F148 e198 ar_48106 rfl (NN_fx F60 t17 ar_48106 rfl p40)))))
                            have e203 : Tg h56 v32 = 5 := (fxT F60 t34)
                            have e204 : Tg h140 v32 = 5 := (fxT F148 e203)
                            have e205 : Tg h156 v32 = 5 := ((pRT hh155).trans e204)
                            have e206 : Tg h164 v32 = 5 := ((pIT hh163).trans e205)
                            have p207 := (BkOk_fx O165 ((Fx.rf (wr := [2204]) (h := h164)).pI e166 hh169 rfl) e206 rfl rfl (BkOk_fx O157 ((Fx.rf (wr := [2215]) (h := h156)).pI e162 hh163 rfl) e205 rfl rfl (BkOk_fx O143 ((Fx.rf (wr := [7620800]) (h := h140)).pRa e152 ar_38104 hh155 rfl) e204 rfl rfl (BkOk_fx O59 F148 e203 rfl rfl (BkOk_fx O F60 t34 rfl rfl p46)))))
                            have e208 : Tg h56 v35 = 6 := (fxT F60 t37)
                            have e209 : Tg h140 v35 = 6 := (fxT F148 e208)
                            have e210 : Tg h156 v35 = 6 := ((pRT hh155).trans e209)
                            have e211 : Tg h164 v35 = 6 := ((pIT hh163).trans e210)
                            have p212 := (RulesOk_fx O165 ((Fx.rf (wr := [2204]) (h := h164)).pI e166 hh169 rfl) e211 rfl (RulesOk_fx O157 ((Fx.rf (wr := [2215]) (h := h156)).pI e162 hh163 rfl) e210 rfl (RulesOk_fx O143 ((Fx.rf (wr := [7620800]) (h := h140)).pRa e152 ar_38104 hh155 rfl) e209 rfl (RulesOk_fx O59 F148 e208 rfl (RulesOk_fx O F60 t37 rfl p47)))))
                            exact g_iret C hr rfl (iw f82 (by decide) (by decide)) ⟨O171, ((((((Fx.rf (wr := wr_k_X11_sight)).call F60 rfl).call F148 rfl).pRa e152 ar_38104 hh155 rfl).pI e162 hh163 rfl).pI e166 hh169 rfl), (iw f82 (by decide) (by decide)), (by unfold XInv; rw [e172, (pI_e hh169), e173, e174, e175, e176, e178, e177, e179, e180, e181, e184, e185, e188, e189]; exact ⟨p192, p197, p202, (fun z => absurd z (by decide)), rfl, rfl, (by omega), (by omega), p207, p212⟩)⟩ (by decide) (by decide) dX11_sight_158
                          · have f213 : (1 : Int) ≤ v123 ∧ v123 ≤ (1 : Int) := r_nl f125 q127
                            refine g_iconst C dX11_sight_107 ?_
                            have p214 := (XInv_fx O F60 ta0 rfl P_XInv)
                            exact g_iret C hr rfl (iw (il (-1)) (by decide) (by decide)) ⟨O59, ((Fx.rf (wr := wr_k_X11_sight)).call F60 rfl), (iw (il (-1)) (by decide) (by decide)), p214⟩ (by decide) (by decide) dX11_sight_108
                      · have f215 : (10000 : Int) ≤ a6 ∧ a6 ≤ (2147483647 : Int) := r_gt f110 (il 9999) q112 (by decide) (by decide)
                        refine g_iconst C dX11_sight_88 ?_
                        have p216 := (XInv_fx O F60 ta0 rfl P_XInv)
                        exact g_iret C hr rfl (iw (il (-1)) (by decide) (by decide)) ⟨O59, ((Fx.rf (wr := wr_k_X11_sight)).call F60 rfl), (iw (il (-1)) (by decide) (by decide)), p216⟩ (by decide) (by decide) dX11_sight_89
          · have f217 : (1 : Int) ≤ a1 ∧ a1 ≤ (4 : Int) := r_nl f77 q84
            refine g_iload_n C rfl 2 rfl dX11_sight_37 ?_
            refine g_iconst C dX11_sight_38 ?_
            refine g_icmp_ne C (iw f217 (by decide) (by decide)) (iw (il 1) (by decide) (by decide)) 46 (by decide) dX11_sight_39 (fun q218 => ?_) (fun q219 => ?_)
            · have f220 : (2 : Int) ≤ a1 ∧ a1 ≤ (4 : Int) := r_nl f217 q218
              refine g_sipush C (by decide) dX11_sight_46 ?_
              refine g_istore C [(8, .inl 999), (7, .inl r55), (0, .inr (.inr a0)), (1, .inl a1), (2, .inl a2), (3, .inl a3), (4, .inl a4), (5, .inl a5), (6, .inl a6)] (by decide) rfl dX11_sight_49 ?_
              refine g_iload C 6 rfl dX11_sight_51 ?_
              refine g_if_lt C fa4 88 (by decide) dX11_sight_53 (fun q221 => ?_) (fun q222 => ?_)
              · have f223 : (-2147483648 : Int) ≤ a4 ∧ a4 ≤ (-1 : Int) := r_lt fa4 (il 0) q221 (by decide) (by decide)
                refine g_iconst C dX11_sight_88 ?_
                have p224 := (XInv_fx O F60 ta0 rfl P_XInv)
                exact g_iret C hr rfl (iw (il (-1)) (by decide) (by decide)) ⟨O59, ((Fx.rf (wr := wr_k_X11_sight)).call F60 rfl), (iw (il (-1)) (by decide) (by decide)), p224⟩ (by decide) (by decide) dX11_sight_89
              · have f225 : (0 : Int) ≤ a4 ∧ a4 ≤ (2147483647 : Int) := r_ge fa4 (il 0) q222 (by decide) (by decide)
                refine g_iload C 6 rfl dX11_sight_56 ?_
                refine g_iload C 0 rfl dX11_sight_58 ?_
                refine g_icmp_gt C (iw f225 (by decide) (by decide)) (iw (il 999) (by decide) (by decide)) 88 (by decide) dX11_sight_60 (fun q226 => ?_) (fun q227 => ?_)
                · have f228 : (1000 : Int) ≤ a4 ∧ a4 ≤ (2147483647 : Int) := r_gt f225 (il 999) q226 (by decide) (by decide)
                  refine g_iconst C dX11_sight_88 ?_
                  have p229 := (XInv_fx O F60 ta0 rfl P_XInv)
                  exact g_iret C hr rfl (iw (il (-1)) (by decide) (by decide)) ⟨O59, ((Fx.rf (wr := wr_k_X11_sight)).call F60 rfl), (iw (il (-1)) (by decide) (by decide)), p229⟩ (by decide) (by decide) dX11_sight_89
                · have f230 : (0 : Int) ≤ a4 ∧ a4 ≤ (999 : Int) := r_le f225 (il 999) q227 (by decide) (by decide)
                  refine g_iload C 7 rfl dX11_sight_63 ?_
                  refine g_if_lt C fa5 88 (by decide) dX11_sight_65 (fun q231 => ?_) (fun q232 => ?_)
                  · have f233 : (-2147483648 : Int) ≤ a5 ∧ a5 ≤ (-1 : Int) := r_lt fa5 (il 0) q231 (by decide) (by decide)
                    refine g_iconst C dX11_sight_88 ?_
                    have p234 := (XInv_fx O F60 ta0 rfl P_XInv)
                    exact g_iret C hr rfl (iw (il (-1)) (by decide) (by decide)) ⟨O59, ((Fx.rf (wr := wr_k_X11_sight)).call F60 rfl), (iw (il (-1)) (by decide) (by decide)), p234⟩ (by decide) (by decide) dX11_sight_89
                  · have f235 : (0 : Int) ≤ a5 ∧ a5 ≤ (2147483647 : Int) := r_ge fa5 (il 0) q232 (by decide) (by decide)
                    refine g_iload C 7 rfl dX11_sight_68 ?_
                    refine g_bipush C (by decide) dX11_sight_70 ?_
                    refine g_icmp_ge C (iw f235 (by decide) (by decide)) (iw (il 6) (by decide) (by decide)) 88 (by decide) dX11_sight_72 (fun q236 => ?_) (fun q237 => ?_)
                    · have f238 : (6 : Int) ≤ a5 ∧ a5 ≤ (2147483647 : Int) := r_ge f235 (il 6) q236 (by decide) (by decide)
                      refine g_iconst C dX11_sight_88 ?_
                      have p239 := (XInv_fx O F60 ta0 rfl P_XInv)
                      exact g_iret C hr rfl (iw (il (-1)) (by decide) (by decide)) ⟨O59, ((Fx.rf (wr := wr_k_X11_sight)).call F60 rfl), (iw (il (-1)) (by decide) (by decide)), p239⟩ (by decide) (by decide) dX11_sight_89
                    · have f240 : (0 : Int) ≤ a5 ∧ a5 ≤ (5 : Int) := r_lt f235 (il 6) q237 (by decide) (by decide)
                      refine g_iload C 8 rfl dX11_sight_75 ?_
                      refine g_if_lt C fa6 88 (by decide) dX11_sight_77 (fun q241 => ?_) (fun q242 => ?_)
                      · have f243 : (-2147483648 : Int) ≤ a6 ∧ a6 ≤ (-1 : Int) := r_lt fa6 (il 0) q241 (by decide) (by decide)
                        refine g_iconst C dX11_sight_88 ?_
                        have p244 := (XInv_fx O F60 ta0 rfl P_XInv)
                        exact g_iret C hr rfl (iw (il (-1)) (by decide) (by decide)) ⟨O59, ((Fx.rf (wr := wr_k_X11_sight)).call F60 rfl), (iw (il (-1)) (by decide) (by decide)), p244⟩ (by decide) (by decide) dX11_sight_89
                      · have f245 : (0 : Int) ≤ a6 ∧ a6 ≤ (2147483647 : Int) := r_ge fa6 (il 0) q242 (by decide) (by decide)
                        refine g_iload C 8 rfl dX11_sight_80 ?_
                        refine g_sipush C (by decide) dX11_sight_82 ?_
                        refine g_icmp_le C (iw f245 (by decide) (by decide)) (iw (il 9999) (by decide) (by decide)) 90 (by decide) dX11_sight_85 (fun q246 => ?_) (fun q247 => ?_)
                        · have f248 : (0 : Int) ≤ a6 ∧ a6 ≤ (9999 : Int) := r_le f245 (il 9999) q246 (by decide) (by decide)
                          refine g_iload_n C rfl 3 rfl dX11_sight_90 ?_
                          refine g_if_ne C (iw f220 (by decide) (by decide)) 109 (by decide) dX11_sight_91 (fun q249 => ?_) (fun q250 => ?_)
                          · refine g_new C 9 rfl rfl rfl inX8 tyX8 tyX8_ok kw_226 kw_553 kw_153 (by decide +kernel) (by decide) (by decide) dX11_sight_109 (fun n251 z252 z253 h255 hh254 => ?_)
                            have O256 := O59.pN z252 z253 hh254 (by decide) nn_9
                            refine g_dup C rfl dX11_sight_112 ?_
                            refine g_iload_n C rfl 3 rfl dX11_sight_113 ?_
                            refine g_iload C 1 rfl dX11_sight_114 ?_
                            refine g_iload C 6 rfl dX11_sight_116 ?_
                            refine g_iload C 7 rfl dX11_sight_118 ?_
                            refine g_iload C 8 rfl dX11_sight_120 ?_
                            refine g_aload_n C rfl 2 rfl dX11_sight_122 ?_
                            have e257 : Tg h255 a0 = 11 := ((pNT hh254 (pN_n hh254 z253 e78)).trans e78)
                            obtain ⟨v258, e259⟩ : ∃ z, Iv h255 a0 0 = z := ⟨_, rfl⟩
                            have f260 := ok_I O256 e257 rI_11_0 e259
                            refine gf_I C fk_LandSurvey_78 rfl e257 e259 dX11_sight_123 ?_
                            refine g_callV (st := [.inr (.inr n251)]) (gc_I C lk_LandSurvey_105 rfl (k_X8_init l D cy w z0 O256 (pN_T hh254) (iw f220 (by decide) (by decide)) f67 f230 f240 f248 f260) (tg_nz (pN_T hh254)) rfl ⟨by decide, by decide⟩ (Nat.le_of_ble_eq_true rfl) dX11_sight_126 ⟨(by decide), (by decide)⟩) (fun h262 K263 => ?_)
                            obtain ⟨O265, F266, p267, p268⟩ := K263
                            have e269 : Tg h262 n251 = 9 := (fxT F266 (pN_T hh254))
                            have F270 : Fx [] h56 h262 := fe_new z253 hh254 p267
                            refine g_astore C [(9, .inr (.inr n251)), (8, .inl 999), (7, .inl r55), (0, .inr (.inr a0)), (1, .inl a1), (2, .inl a2), (3, .inl a3), (4, .inl a4), (5, .inl a5), (6, .inl a6)] (by decide) rfl dX11_sight_129 ?_
                            refine g_aload_n C rfl 3 rfl dX11_sight_131 ?_
                            have e271 : Tg h262 a0 = 11 := (fxT F270 e78)
                            have e272 : Rv h262 a0 3 = v1 := ((fxR F270 e78 rfl).trans ((fxR F60 ta0 rfl).trans e2))
                            refine gf_R C fk_LandSurvey_22 rfl e271 e272 dX11_sight_132 ?_
                            refine g_aload_n C rfl 3 rfl dX11_sight_135 ?_
                            have e273 : Iv h262 a0 4 = v5 := ((fxI F270 e78 rfl).trans e79)
                            refine gf_I C fk_LandSurvey_102 rfl e271 e273 dX11_sight_136 ?_
                            refine g_aload C 0 rfl dX11_sight_139 ?_
                            have e274 : Tg h262 v1 = 38104 := (fxT F270 (fxT F60 t3))
                            have e275 : Tg h56 v1 = 38104 := (fxT F60 t3)
                            have e276 : Ln h262 v1 = 40 := ((fxL F270 e275).trans ((fxL F60 t3).trans l4))
                            refine g_aast (t := 4) C e274 rfl (by decide) rfl e269 rfl rfl e276 (ix f82 (by decide) (by decide)) dX11_sight_141 (fun h278 hh277 => ?_)
                            have O279 := O265.pR e274 hh277 (okR_o ((rE_arr ar_38104 _).trans rE_38104_0) e269)
                            have e280 : Iv h278 a0 4 = v5 := ((pRI hh277).trans e273)
                            have p281 := (SOK_fx O59 F270 e275 rfl rfl rfl (SOK_fx O F60 t3 rfl rfl rfl p38))
                            have e282 : Tg h278 n251 = 9 := ((pRT hh277).trans e269)
                            have p283 : SOK h278 v1 (v5 + 1) := SOK_set p281 hh277 (by omega) (nz_of O279 e282) (fun z => absurd p268 z)
                            refine g_aload_n C rfl 3 rfl dX11_sight_142 ?_
                            refine g_iconst C dX11_sight_143 ?_
                            have e284 : Tg h278 a0 = 11 := ((pRT hh277).trans e271)
                            refine gp_I C fk_LandSurvey_81 pk_LandSurvey_15 rfl e284 (iw (il 0) (by decide) (by decide)) (nar_z2 (iw (il 0) (by decide) (by decide))) dX11_sight_144 (fun h286 hh285 => ?_)
                            have O287 := O279.pI e284 hh285 rI_11_15 (iw (il 0) (by decide) (by decide)) nofun
                            refine g_aload_n C rfl 3 rfl dX11_sight_147 ?_
                            refine g_dup C rfl dX11_sight_148 ?_
                            have e288 : Tg h286 a0 = 11 := ((pIT hh285).trans e284)
                            have e289 : Iv h286 a0 4 = v5 := ((pI_j hh285 (by decide)).trans e280)
                            refine gf_I C fk_LandSurvey_102 rfl e288 e289 dX11_sight_149 ?_
                            refine g_dup_x1 C rfl rfl dX11_sight_152 ?_
                            refine g_iconst C dX11_sight_153 ?_
                            have f290 : (1 : Int) ≤ (v5 + 1) ∧ (v5 + 1) ≤ (40 : Int) := ia_add f82 (il 1) (by decide) (by decide)
                            refine g_iadd C dX11_sight_154 ?_
                            refine gp_I C fk_LandSurvey_102 pk_LandSurvey_4 rfl e288 (iw f290 (by decide) (by decide)) (nf_i _) dX11_sight_155 (fun h292 hh291 => ?_)
                            have O293 := O287.pI e288 hh291 rI_11_4 (iw f290 (by decide) (by decide)) nofun
                            have e294 : Rv h292 a0 3 = v1 := ((pIR hh291).trans ((pIR hh285).trans ((pR_n hh277 (ne_tag e271 e274 (by decide))).trans e272)))
                            have e295 : Rv h292 a0 8 = v8 := ((pIR hh291).trans ((pIR hh285).trans ((pR_n hh277 (ne_tag e271 e274 (by decide))).trans ((fxR F270 e78 rfl).trans ((fxR F60 ta0 rfl).trans e9)))))
                            have e296 : Iv h292 a0 9 = v12 := ((pI_j hh291 (by decide)).trans ((pI_j hh285 (by decide)).trans ((pRI hh277).trans ((fxI F270 e78 rfl).trans ((fxI F60 ta0 rfl).trans e13)))))
                            have e297 : Rv h292 a0 11 = v15 := ((pIR hh291).trans ((pIR hh285).trans ((pR_n hh277 (ne_tag e271 e274 (by decide))).trans ((fxR F270 e78 rfl).trans ((fxR F60 ta0 rfl).trans e16)))))
                            have e298 : Iv h292 a0 12 = v19 := ((pI_j hh291 (by decide)).trans ((pI_j hh285 (by decide)).trans ((pRI hh277).trans ((fxI F270 e78 rfl).trans ((fxI F60 ta0 rfl).trans e20)))))
                            have e299 : Rv h292 a0 14 = v25 := ((pIR hh291).trans ((pIR hh285).trans ((pR_n hh277 (ne_tag e271 e274 (by decide))).trans ((fxR F270 e78 rfl).trans ((fxR F60 ta0 rfl).trans e26)))))
                            have e300 : Iv h292 a0 15 = 0 := ((pI_j hh291 (by decide)).trans (pI_e hh285))
                            have e301 : Rv h292 a0 13 = v29 := ((pIR hh291).trans ((pIR hh285).trans ((pR_n hh277 (ne_tag e271 e274 (by decide))).trans ((fxR F270 e78 rfl).trans ((fxR F60 ta0 rfl).trans e30)))))
                            have e302 : Rv h292 a0 6 = v32 := ((pIR hh291).trans ((pIR hh285).trans ((pR_n hh277 (ne_tag e271 e274 (by decide))).trans ((fxR F270 e78 rfl).trans ((fxR F60 ta0 rfl).trans e33)))))
                            have e303 : Rv h292 a0 7 = v35 := ((pIR hh291).trans ((pIR hh285).trans ((pR_n hh277 (ne_tag e271 e274 (by decide))).trans ((fxR F270 e78 rfl).trans ((fxR F60 ta0 rfl).trans e36)))))
                            have e304 : Tg h56 v29 = 7 := (fxT F60 t31)
                            have e305 : Tg h262 v29 = 7 := (fxT F270 e304)
                            have e306 : Rv h292 v29 1 = v1 := ((pIR hh291).trans ((pIR hh285).trans ((pR_n hh277 (ne_tag e305 e274 (by decide))).trans ((fxR F270 e304 rfl).trans ((fxR F60 t31 rfl).trans p42)))))
                            have e307 : Rv h292 v29 2 = v8 := ((pIR hh291).trans ((pIR hh285).trans ((pR_n hh277 (ne_tag e305 e274 (by decide))).trans ((fxR F270 e304 rfl).trans ((fxR F60 t31 rfl).trans p43)))))
                            have e308 : Tg h278 v29 = 7 := ((pRT hh277).trans e305)
                            have e309 : Tg h286 v29 = 7 := ((pIT hh285).trans e308)
                            have e310 : Iv h292 v29 3 = v49 := ((pI_n hh291 (ne_tag e309 e288 (by decide))).trans ((pI_n hh285 (ne_tag e308 e284 (by decide))).trans ((pRI hh277).trans ((fxI F270 e304 rfl).trans ((fxI F60 t31 rfl).trans e50)))))
                            have e311 : Iv h292 v29 4 = v52 := ((pI_n hh291 (ne_tag e309 e288 (by decide))).trans ((pI_n hh285 (ne_tag e308 e284 (by decide))).trans ((pRI hh277).trans ((fxI F270 e304 rfl).trans ((fxI F60 t31 rfl).trans e53)))))
                            have e312 : Tg h278 v1 = 38104 := ((pRT hh277).trans e274)
                            have e313 : Tg h286 v1 = 38104 := ((pIT hh285).trans e312)
                            have p314 := (SOK_fx O287 ((Fx.rf (wr := [2204]) (h := h286)).pI e288 hh291 rfl) e313 rfl rfl rfl (SOK_fx O279 ((Fx.rf (wr := [2215]) (h := h278)).pI e284 hh285 rfl) e312 rfl rfl rfl p283))
                            have e315 : Tg h56 v8 = 39105 := (fxT F60 t10)
                            have e316 : Tg h262 v8 = 39105 := (fxT F270 e315)
                            have e317 : Tg h278 v8 = 39105 := ((pRT hh277).trans e316)
                            have e318 : Tg h286 v8 = 39105 := ((pIT hh285).trans e317)
                            have p319 := (BOK_fx O287 ((Fx.rf (wr := [2204]) (h := h286)).pI e288 hh291 rfl) e318 rfl rfl rfl rfl (BOK_fx O279 ((Fx.rf (wr := [2215]) (h := h278)).pI e284 hh285 rfl) e317 rfl rfl rfl rfl (BOK_fx O265 ((Fx.rf (wr := [7620800]) (h := h262)).pRa e274 ar_38104 hh277 rfl) e316 rfl rfl rfl rfl (BOK_fx O59 F270 e315 rfl rfl rfl rfl (BOK_fx O F60 t10 rfl rfl rfl rfl p39)))))
                            have e320 : Tg h56 v15 = 48106 := (fxT F60 t17)
                            have e321 : Tg h262 v15 = 48106 := (fxT F270 e320)
                            have e322 : Tg h278 v15 = 48106 := ((pRT hh277).trans e321)
                            have e323 : Tg h286 v15 = 48106 := ((pIT hh285).trans e322)
                            have p324 := (NN_fx ((Fx.rf (wr := [2204]) (h := h286)).pI e288 hh291 rfl) e323 ar_48106 rfl (NN_fx ((Fx.rf (wr := [2215]) (h := h278)).pI e284 hh285 rfl) e322 ar_48106 rfl (NN_fx ((Fx.rf (wr := [7620800]) (h := h262)).pRa e274 ar_38104 hh277 rfl) e321 ar_48106 rfl (NN_fx F270 e320 ar_48106 rfl (NN_fx F60 t17 ar_48106 rfl p40)))))
                            have e325 : Tg h56 v32 = 5 := (fxT F60 t34)
                            have e326 : Tg h262 v32 = 5 := (fxT F270 e325)
                            have e327 : Tg h278 v32 = 5 := ((pRT hh277).trans e326)
                            have e328 : Tg h286 v32 = 5 := ((pIT hh285).trans e327)
                            have p329 := (BkOk_fx O287 ((Fx.rf (wr := [2204]) (h := h286)).pI e288 hh291 rfl) e328 rfl rfl (BkOk_fx O279 ((Fx.rf (wr := [2215]) (h := h278)).pI e284 hh285 rfl) e327 rfl rfl (BkOk_fx O265 ((Fx.rf (wr := [7620800]) (h := h262)).pRa e274 ar_38104 hh277 rfl) e326 rfl rfl (BkOk_fx O59 F270 e325 rfl rfl (BkOk_fx O F60 t34 rfl rfl p46)))))
                            have e330 : Tg h56 v35 = 6 := (fxT F60 t37)
                            have e331 : Tg h262 v35 = 6 := (fxT F270 e330)
                            have e332 : Tg h278 v35 = 6 := ((pRT hh277).trans e331)
                            have e333 : Tg h286 v35 = 6 := ((pIT hh285).trans e332)
                            have p334 := (RulesOk_fx O287 ((Fx.rf (wr := [2204]) (h := h286)).pI e288 hh291 rfl) e333 rfl (RulesOk_fx O279 ((Fx.rf (wr := [2215]) (h := h278)).pI e284 hh285 rfl) e332 rfl (RulesOk_fx O265 ((Fx.rf (wr := [7620800]) (h := h262)).pRa e274 ar_38104 hh277 rfl) e331 rfl (RulesOk_fx O59 F270 e330 rfl (RulesOk_fx O F60 t37 rfl p47)))))
                            exact g_iret C hr rfl (iw f82 (by decide) (by decide)) ⟨O293, ((((((Fx.rf (wr := wr_k_X11_sight)).call F60 rfl).call F270 rfl).pRa e274 ar_38104 hh277 rfl).pI e284 hh285 rfl).pI e288 hh291 rfl), (iw f82 (by decide) (by decide)), (by unfold XInv; rw [e294, (pI_e hh291), e295, e296, e297, e298, e300, e299, e301, e302, e303, e306, e307, e310, e311]; exact ⟨p314, p319, p324, (fun z => absurd z (by decide)), rfl, rfl, (by omega), (by omega), p329, p334⟩)⟩ (by decide) (by decide) dX11_sight_158
                          · exact (no_eq f220 (il 0) q250 (by decide)).elim
                        · have f335 : (10000 : Int) ≤ a6 ∧ a6 ≤ (2147483647 : Int) := r_gt f245 (il 9999) q247 (by decide) (by decide)
                          refine g_iconst C dX11_sight_88 ?_
                          have p336 := (XInv_fx O F60 ta0 rfl P_XInv)
                          exact g_iret C hr rfl (iw (il (-1)) (by decide) (by decide)) ⟨O59, ((Fx.rf (wr := wr_k_X11_sight)).call F60 rfl), (iw (il (-1)) (by decide) (by decide)), p336⟩ (by decide) (by decide) dX11_sight_89
            · have f337 : (1 : Int) ≤ a1 ∧ a1 ≤ (1 : Int) := ii f217 (r_eq (il 1) q219) (by decide) (by decide)
              refine g_iconst C dX11_sight_42 ?_
              refine g_goto C 49 (by decide) dX11_sight_43 ?_
              refine g_istore C [(8, .inl 0), (7, .inl r55), (0, .inr (.inr a0)), (1, .inl a1), (2, .inl a2), (3, .inl a3), (4, .inl a4), (5, .inl a5), (6, .inl a6)] (by decide) rfl dX11_sight_49 ?_
              refine g_iload C 6 rfl dX11_sight_51 ?_
              refine g_if_lt C fa4 88 (by decide) dX11_sight_53 (fun q338 => ?_) (fun q339 => ?_)
              · have f340 : (-2147483648 : Int) ≤ a4 ∧ a4 ≤ (-1 : Int) := r_lt fa4 (il 0) q338 (by decide) (by decide)
                refine g_iconst C dX11_sight_88 ?_
                have p341 := (XInv_fx O F60 ta0 rfl P_XInv)
                exact g_iret C hr rfl (iw (il (-1)) (by decide) (by decide)) ⟨O59, ((Fx.rf (wr := wr_k_X11_sight)).call F60 rfl), (iw (il (-1)) (by decide) (by decide)), p341⟩ (by decide) (by decide) dX11_sight_89
              · have f342 : (0 : Int) ≤ a4 ∧ a4 ≤ (2147483647 : Int) := r_ge fa4 (il 0) q339 (by decide) (by decide)
                refine g_iload C 6 rfl dX11_sight_56 ?_
                refine g_iload C 0 rfl dX11_sight_58 ?_
                refine g_icmp_gt C (iw f342 (by decide) (by decide)) (iw (il 0) (by decide) (by decide)) 88 (by decide) dX11_sight_60 (fun q343 => ?_) (fun q344 => ?_)
                · have f345 : (1 : Int) ≤ a4 ∧ a4 ≤ (2147483647 : Int) := r_gt f342 (il 0) q343 (by decide) (by decide)
                  refine g_iconst C dX11_sight_88 ?_
                  have p346 := (XInv_fx O F60 ta0 rfl P_XInv)
                  exact g_iret C hr rfl (iw (il (-1)) (by decide) (by decide)) ⟨O59, ((Fx.rf (wr := wr_k_X11_sight)).call F60 rfl), (iw (il (-1)) (by decide) (by decide)), p346⟩ (by decide) (by decide) dX11_sight_89
                · have f347 : (0 : Int) ≤ a4 ∧ a4 ≤ (0 : Int) := r_le f342 (il 0) q344 (by decide) (by decide)
                  refine g_iload C 7 rfl dX11_sight_63 ?_
                  refine g_if_lt C fa5 88 (by decide) dX11_sight_65 (fun q348 => ?_) (fun q349 => ?_)
                  · have f350 : (-2147483648 : Int) ≤ a5 ∧ a5 ≤ (-1 : Int) := r_lt fa5 (il 0) q348 (by decide) (by decide)
                    refine g_iconst C dX11_sight_88 ?_
                    have p351 := (XInv_fx O F60 ta0 rfl P_XInv)
                    exact g_iret C hr rfl (iw (il (-1)) (by decide) (by decide)) ⟨O59, ((Fx.rf (wr := wr_k_X11_sight)).call F60 rfl), (iw (il (-1)) (by decide) (by decide)), p351⟩ (by decide) (by decide) dX11_sight_89
                  · have f352 : (0 : Int) ≤ a5 ∧ a5 ≤ (2147483647 : Int) := r_ge fa5 (il 0) q349 (by decide) (by decide)
                    refine g_iload C 7 rfl dX11_sight_68 ?_
                    refine g_bipush C (by decide) dX11_sight_70 ?_
                    refine g_icmp_ge C (iw f352 (by decide) (by decide)) (iw (il 6) (by decide) (by decide)) 88 (by decide) dX11_sight_72 (fun q353 => ?_) (fun q354 => ?_)
                    · have f355 : (6 : Int) ≤ a5 ∧ a5 ≤ (2147483647 : Int) := r_ge f352 (il 6) q353 (by decide) (by decide)
                      refine g_iconst C dX11_sight_88 ?_
                      have p356 := (XInv_fx O F60 ta0 rfl P_XInv)
                      exact g_iret C hr rfl (iw (il (-1)) (by decide) (by decide)) ⟨O59, ((Fx.rf (wr := wr_k_X11_sight)).call F60 rfl), (iw (il (-1)) (by decide) (by decide)), p356⟩ (by decide) (by decide) dX11_sight_89
                    · have f357 : (0 : Int) ≤ a5 ∧ a5 ≤ (5 : Int) := r_lt f352 (il 6) q354 (by decide) (by decide)
                      refine g_iload C 8 rfl dX11_sight_75 ?_
                      refine g_if_lt C fa6 88 (by decide) dX11_sight_77 (fun q358 => ?_) (fun q359 => ?_)
                      · have f360 : (-2147483648 : Int) ≤ a6 ∧ a6 ≤ (-1 : Int) := r_lt fa6 (il 0) q358 (by decide) (by decide)
                        refine g_iconst C dX11_sight_88 ?_
                        have p361 := (XInv_fx O F60 ta0 rfl P_XInv)
                        exact g_iret C hr rfl (iw (il (-1)) (by decide) (by decide)) ⟨O59, ((Fx.rf (wr := wr_k_X11_sight)).call F60 rfl), (iw (il (-1)) (by decide) (by decide)), p361⟩ (by decide) (by decide) dX11_sight_89
                      · have f362 : (0 : Int) ≤ a6 ∧ a6 ≤ (2147483647 : Int) := r_ge fa6 (il 0) q359 (by decide) (by decide)
                        refine g_iload C 8 rfl dX11_sight_80 ?_
                        refine g_sipush C (by decide) dX11_sight_82 ?_
                        refine g_icmp_le C (iw f362 (by decide) (by decide)) (iw (il 9999) (by decide) (by decide)) 90 (by decide) dX11_sight_85 (fun q363 => ?_) (fun q364 => ?_)
                        · have f365 : (0 : Int) ≤ a6 ∧ a6 ≤ (9999 : Int) := r_le f362 (il 9999) q363 (by decide) (by decide)
                          refine g_iload_n C rfl 3 rfl dX11_sight_90 ?_
                          refine g_if_ne C (iw f337 (by decide) (by decide)) 109 (by decide) dX11_sight_91 (fun q366 => ?_) (fun q367 => ?_)
                          · refine g_new C 9 rfl rfl rfl inX8 tyX8 tyX8_ok kw_226 kw_553 kw_153 (by decide +kernel) (by decide) (by decide) dX11_sight_109 (fun n368 z369 z370 h372 hh371 => ?_)
                            have O373 := O59.pN z369 z370 hh371 (by decide) nn_9
                            refine g_dup C rfl dX11_sight_112 ?_
                            refine g_iload_n C rfl 3 rfl dX11_sight_113 ?_
                            refine g_iload C 1 rfl dX11_sight_114 ?_
                            refine g_iload C 6 rfl dX11_sight_116 ?_
                            refine g_iload C 7 rfl dX11_sight_118 ?_
                            refine g_iload C 8 rfl dX11_sight_120 ?_
                            refine g_aload_n C rfl 2 rfl dX11_sight_122 ?_
                            have e374 : Tg h372 a0 = 11 := ((pNT hh371 (pN_n hh371 z370 e78)).trans e78)
                            obtain ⟨v375, e376⟩ : ∃ z, Iv h372 a0 0 = z := ⟨_, rfl⟩
                            have f377 := ok_I O373 e374 rI_11_0 e376
                            refine gf_I C fk_LandSurvey_78 rfl e374 e376 dX11_sight_123 ?_
                            refine g_callV (st := [.inr (.inr n368)]) (gc_I C lk_LandSurvey_105 rfl (k_X8_init l D cy w z0 O373 (pN_T hh371) (iw f337 (by decide) (by decide)) f67 (iw f347 (by decide) (by decide)) f357 f365 f377) (tg_nz (pN_T hh371)) rfl ⟨by decide, by decide⟩ (Nat.le_of_ble_eq_true rfl) dX11_sight_126 ⟨(by decide), (by decide)⟩) (fun h379 K380 => ?_)
                            obtain ⟨O382, F383, p384, p385⟩ := K380
                            have e386 : Tg h379 n368 = 9 := (fxT F383 (pN_T hh371))
                            have F387 : Fx [] h56 h379 := fe_new z370 hh371 p384
                            refine g_astore C [(9, .inr (.inr n368)), (8, .inl 0), (7, .inl r55), (0, .inr (.inr a0)), (1, .inl a1), (2, .inl a2), (3, .inl a3), (4, .inl a4), (5, .inl a5), (6, .inl a6)] (by decide) rfl dX11_sight_129 ?_
                            refine g_aload_n C rfl 3 rfl dX11_sight_131 ?_
                            have e388 : Tg h379 a0 = 11 := (fxT F387 e78)
                            have e389 : Rv h379 a0 3 = v1 := ((fxR F387 e78 rfl).trans ((fxR F60 ta0 rfl).trans e2))
                            refine gf_R C fk_LandSurvey_22 rfl e388 e389 dX11_sight_132 ?_
                            refine g_aload_n C rfl 3 rfl dX11_sight_135 ?_
                            have e390 : Iv h379 a0 4 = v5 := ((fxI F387 e78 rfl).trans e79)
                            refine gf_I C fk_LandSurvey_102 rfl e388 e390 dX11_sight_136 ?_
                            refine g_aload C 0 rfl dX11_sight_139 ?_
                            have e391 : Tg h379 v1 = 38104 := (fxT F387 (fxT F60 t3))
                            have e392 : Tg h56 v1 = 38104 := (fxT F60 t3)
                            have e393 : Ln h379 v1 = 40 := ((fxL F387 e392).trans ((fxL F60 t3).trans l4))
                            refine g_aast (t := 4) C e391 rfl (by decide) rfl e386 rfl rfl e393 (ix f82 (by decide) (by decide)) dX11_sight_141 (fun h395 hh394 => ?_)
                            have O396 := O382.pR e391 hh394 (okR_o ((rE_arr ar_38104 _).trans rE_38104_0) e386)
                            have e397 : Iv h395 a0 4 = v5 := ((pRI hh394).trans e390)
                            have p398 := (SOK_fx O59 F387 e392 rfl rfl rfl (SOK_fx O F60 t3 rfl rfl rfl p38))
                            have e399 : Tg h395 n368 = 9 := ((pRT hh394).trans e386)
                            have p400 : SOK h395 v1 (v5 + 1) := SOK_set p398 hh394 (by omega) (nz_of O396 e399) (fun z => absurd p385 z)
                            refine g_aload_n C rfl 3 rfl dX11_sight_142 ?_
                            refine g_iconst C dX11_sight_143 ?_
                            have e401 : Tg h395 a0 = 11 := ((pRT hh394).trans e388)
                            refine gp_I C fk_LandSurvey_81 pk_LandSurvey_15 rfl e401 (iw (il 0) (by decide) (by decide)) (nar_z2 (iw (il 0) (by decide) (by decide))) dX11_sight_144 (fun h403 hh402 => ?_)
                            have O404 := O396.pI e401 hh402 rI_11_15 (iw (il 0) (by decide) (by decide)) nofun
                            refine g_aload_n C rfl 3 rfl dX11_sight_147 ?_
                            refine g_dup C rfl dX11_sight_148 ?_
                            have e405 : Tg h403 a0 = 11 := ((pIT hh402).trans e401)
                            have e406 : Iv h403 a0 4 = v5 := ((pI_j hh402 (by decide)).trans e397)
                            refine gf_I C fk_LandSurvey_102 rfl e405 e406 dX11_sight_149 ?_
                            refine g_dup_x1 C rfl rfl dX11_sight_152 ?_
                            refine g_iconst C dX11_sight_153 ?_
                            have f407 : (1 : Int) ≤ (v5 + 1) ∧ (v5 + 1) ≤ (40 : Int) := ia_add f82 (il 1) (by decide) (by decide)
                            refine g_iadd C dX11_sight_154 ?_
                            refine gp_I C fk_LandSurvey_102 pk_LandSurvey_4 rfl e405 (iw f407 (by decide) (by decide)) (nf_i _) dX11_sight_155 (fun h409 hh408 => ?_)
                            have O410 := O404.pI e405 hh408 rI_11_4 (iw f407 (by decide) (by decide)) nofun
                            have e411 : Rv h409 a0 3 = v1 := ((pIR hh408).trans ((pIR hh402).trans ((pR_n hh394 (ne_tag e388 e391 (by decide))).trans e389)))
                            have e412 : Rv h409 a0 8 = v8 := ((pIR hh408).trans ((pIR hh402).trans ((pR_n hh394 (ne_tag e388 e391 (by decide))).trans ((fxR F387 e78 rfl).trans ((fxR F60 ta0 rfl).trans e9)))))
                            have e413 : Iv h409 a0 9 = v12 := ((pI_j hh408 (by decide)).trans ((pI_j hh402 (by decide)).trans ((pRI hh394).trans ((fxI F387 e78 rfl).trans ((fxI F60 ta0 rfl).trans e13)))))
                            have e414 : Rv h409 a0 11 = v15 := ((pIR hh408).trans ((pIR hh402).trans ((pR_n hh394 (ne_tag e388 e391 (by decide))).trans ((fxR F387 e78 rfl).trans ((fxR F60 ta0 rfl).trans e16)))))
                            have e415 : Iv h409 a0 12 = v19 := ((pI_j hh408 (by decide)).trans ((pI_j hh402 (by decide)).trans ((pRI hh394).trans ((fxI F387 e78 rfl).trans ((fxI F60 ta0 rfl).trans e20)))))
                            have e416 : Rv h409 a0 14 = v25 := ((pIR hh408).trans ((pIR hh402).trans ((pR_n hh394 (ne_tag e388 e391 (by decide))).trans ((fxR F387 e78 rfl).trans ((fxR F60 ta0 rfl).trans e26)))))
                            have e417 : Iv h409 a0 15 = 0 := ((pI_j hh408 (by decide)).trans (pI_e hh402))
                            have e418 : Rv h409 a0 13 = v29 := ((pIR hh408).trans ((pIR hh402).trans ((pR_n hh394 (ne_tag e388 e391 (by decide))).trans ((fxR F387 e78 rfl).trans ((fxR F60 ta0 rfl).trans e30)))))
                            have e419 : Rv h409 a0 6 = v32 := ((pIR hh408).trans ((pIR hh402).trans ((pR_n hh394 (ne_tag e388 e391 (by decide))).trans ((fxR F387 e78 rfl).trans ((fxR F60 ta0 rfl).trans e33)))))
                            have e420 : Rv h409 a0 7 = v35 := ((pIR hh408).trans ((pIR hh402).trans ((pR_n hh394 (ne_tag e388 e391 (by decide))).trans ((fxR F387 e78 rfl).trans ((fxR F60 ta0 rfl).trans e36)))))
                            have e421 : Tg h56 v29 = 7 := (fxT F60 t31)
                            have e422 : Tg h379 v29 = 7 := (fxT F387 e421)
                            have e423 : Rv h409 v29 1 = v1 := ((pIR hh408).trans ((pIR hh402).trans ((pR_n hh394 (ne_tag e422 e391 (by decide))).trans ((fxR F387 e421 rfl).trans ((fxR F60 t31 rfl).trans p42)))))
                            have e424 : Rv h409 v29 2 = v8 := ((pIR hh408).trans ((pIR hh402).trans ((pR_n hh394 (ne_tag e422 e391 (by decide))).trans ((fxR F387 e421 rfl).trans ((fxR F60 t31 rfl).trans p43)))))
                            have e425 : Tg h395 v29 = 7 := ((pRT hh394).trans e422)
                            have e426 : Tg h403 v29 = 7 := ((pIT hh402).trans e425)
                            have e427 : Iv h409 v29 3 = v49 := ((pI_n hh408 (ne_tag e426 e405 (by decide))).trans ((pI_n hh402 (ne_tag e425 e401 (by decide))).trans ((pRI hh394).trans ((fxI F387 e421 rfl).trans ((fxI F60 t31 rfl).trans e50)))))
                            have e428 : Iv h409 v29 4 = v52 := ((pI_n hh408 (ne_tag e426 e405 (by decide))).trans ((pI_n hh402 (ne_tag e425 e401 (by decide))).trans ((pRI hh394).trans ((fxI F387 e421 rfl).trans ((fxI F60 t31 rfl).trans e53)))))
                            have e429 : Tg h395 v1 = 38104 := ((pRT hh394).trans e391)
                            have e430 : Tg h403 v1 = 38104 := ((pIT hh402).trans e429)
                            have p431 := (SOK_fx O404 ((Fx.rf (wr := [2204]) (h := h403)).pI e405 hh408 rfl) e430 rfl rfl rfl (SOK_fx O396 ((Fx.rf (wr := [2215]) (h := h395)).pI e401 hh402 rfl) e429 rfl rfl rfl p400))
                            have e432 : Tg h56 v8 = 39105 := (fxT F60 t10)
                            have e433 : Tg h379 v8 = 39105 := (fxT F387 e432)
                            have e434 : Tg h395 v8 = 39105 := ((pRT hh394).trans e433)
                            have e435 : Tg h403 v8 = 39105 := ((pIT hh402).trans e434)
                            have p436 := (BOK_fx O404 ((Fx.rf (wr := [2204]) (h := h403)).pI e405 hh408 rfl) e435 rfl rfl rfl rfl (BOK_fx O396 ((Fx.rf (wr := [2215]) (h := h395)).pI e401 hh402 rfl) e434 rfl rfl rfl rfl (BOK_fx O382 ((Fx.rf (wr := [7620800]) (h := h379)).pRa e391 ar_38104 hh394 rfl) e433 rfl rfl rfl rfl (BOK_fx O59 F387 e432 rfl rfl rfl rfl (BOK_fx O F60 t10 rfl rfl rfl rfl p39)))))
                            have e437 : Tg h56 v15 = 48106 := (fxT F60 t17)
                            have e438 : Tg h379 v15 = 48106 := (fxT F387 e437)
                            have e439 : Tg h395 v15 = 48106 := ((pRT hh394).trans e438)
                            have e440 : Tg h403 v15 = 48106 := ((pIT hh402).trans e439)
                            have p441 := (NN_fx ((Fx.rf (wr := [2204]) (h := h403)).pI e405 hh408 rfl) e440 ar_48106 rfl (NN_fx ((Fx.rf (wr := [2215]) (h := h395)).pI e401 hh402 rfl) e439 ar_48106 rfl (NN_fx ((Fx.rf (wr := [7620800]) (h := h379)).pRa e391 ar_38104 hh394 rfl) e438 ar_48106 rfl (NN_fx F387 e437 ar_48106 rfl (NN_fx F60 t17 ar_48106 rfl p40)))))
                            have e442 : Tg h56 v32 = 5 := (fxT F60 t34)
                            have e443 : Tg h379 v32 = 5 := (fxT F387 e442)
                            have e444 : Tg h395 v32 = 5 := ((pRT hh394).trans e443)
                            have e445 : Tg h403 v32 = 5 := ((pIT hh402).trans e444)
                            have p446 := (BkOk_fx O404 ((Fx.rf (wr := [2204]) (h := h403)).pI e405 hh408 rfl) e445 rfl rfl (BkOk_fx O396 ((Fx.rf (wr := [2215]) (h := h395)).pI e401 hh402 rfl) e444 rfl rfl (BkOk_fx O382 ((Fx.rf (wr := [7620800]) (h := h379)).pRa e391 ar_38104 hh394 rfl) e443 rfl rfl (BkOk_fx O59 F387 e442 rfl rfl (BkOk_fx O F60 t34 rfl rfl p46)))))
                            have e447 : Tg h56 v35 = 6 := (fxT F60 t37)
                            have e448 : Tg h379 v35 = 6 := (fxT F387 e447)
                            have e449 : Tg h395 v35 = 6 := ((pRT hh394).trans e448)
                            have e450 : Tg h403 v35 = 6 := ((pIT hh402).trans e449)
                            have p451 := (RulesOk_fx O404 ((Fx.rf (wr := [2204]) (h := h403)).pI e405 hh408 rfl) e450 rfl (RulesOk_fx O396 ((Fx.rf (wr := [2215]) (h := h395)).pI e401 hh402 rfl) e449 rfl (RulesOk_fx O382 ((Fx.rf (wr := [7620800]) (h := h379)).pRa e391 ar_38104 hh394 rfl) e448 rfl (RulesOk_fx O59 F387 e447 rfl (RulesOk_fx O F60 t37 rfl p47)))))
                            exact g_iret C hr rfl (iw f82 (by decide) (by decide)) ⟨O410, ((((((Fx.rf (wr := wr_k_X11_sight)).call F60 rfl).call F387 rfl).pRa e391 ar_38104 hh394 rfl).pI e401 hh402 rfl).pI e405 hh408 rfl), (iw f82 (by decide) (by decide)), (by unfold XInv; rw [e411, (pI_e hh408), e412, e413, e414, e415, e417, e416, e418, e419, e420, e423, e424, e427, e428]; exact ⟨p431, p436, p441, (fun z => absurd z (by decide)), rfl, rfl, (by omega), (by omega), p446, p451⟩)⟩ (by decide) (by decide) dX11_sight_158
                          · exact (no_eq f337 (il 0) q367 (by decide)).elim
                        · have f452 : (10000 : Int) ≤ a6 ∧ a6 ≤ (2147483647 : Int) := r_gt f362 (il 9999) q364 (by decide) (by decide)
                          refine g_iconst C dX11_sight_88 ?_
                          have p453 := (XInv_fx O F60 ta0 rfl P_XInv)
                          exact g_iret C hr rfl (iw (il (-1)) (by decide) (by decide)) ⟨O59, ((Fx.rf (wr := wr_k_X11_sight)).call F60 rfl), (iw (il (-1)) (by decide) (by decide)), p453⟩ (by decide) (by decide) dX11_sight_89
        · have f454 : (40 : Int) ≤ v5 ∧ v5 ≤ (40 : Int) := r_ge f7 (il 40) q81 (by decide) (by decide)
          refine g_iconst C dX11_sight_31 ?_
          have p455 := (XInv_fx O F60 ta0 rfl P_XInv)
          exact g_iret C hr rfl (iw (il (-1)) (by decide) (by decide)) ⟨O59, ((Fx.rf (wr := wr_k_X11_sight)).call F60 rfl), (iw (il (-1)) (by decide) (by decide)), p455⟩ (by decide) (by decide) dX11_sight_32
def wr_k_X11_dip : List Nat := [1807, 1808, 1809, 1810, 2215]
set_option maxRecDepth 100000 in
set_option maxHeartbeats 4000000 in
theorem k_X11_dip (l : Launch) (D : va_G) (cy : Nat → ClassId) (w : Nat → Nat) (z0 : Nat) {h : Hp} {a0 : Nat} {a1 : Int} {a2 : Int} {a3 : Int} {a4 : Int}  (O : Okh h) (ta0 : Tg h a0 = 11) (fa1 : (-2147483648) ≤ a1 ∧ a1 ≤ 2147483647) (fa2 : (-2147483648) ≤ a2 ∧ a2 ≤ 2147483647) (fa3 : (-2147483648) ≤ a3 ∧ a3 ≤ 2147483647) (fa4 : (-2147483648) ≤ a4 ∧ a4 ≤ 2147483647) (P_XInv : XInv h a0) : MI l D cy w z0 yX11_dip cX11_dip 5 (some .boolean) 1 21 0 0 [.inr (.inr a0), .inl a1, .inl a2, .inl a3, .inl a4] h (fun v h1 => Okh h1 ∧ Fx wr_k_X11_dip h h1 ∧ (0 ≤ v ∧ v ≤ 1) ∧ (XInv h1 a0)) := by
  obtain ⟨v1, e2⟩ : ∃ z, Rv h a0 3 = z := ⟨_, rfl⟩
  have t3 := ok_R O ta0 rE_11_3 e2
  have l4 := ok_L O ta0 rE_11_3 e2
  obtain ⟨v5, e6⟩ : ∃ z, Iv h a0 4 = z := ⟨_, rfl⟩
  have f7 := ok_I O ta0 rI_11_4 e6
  obtain ⟨v8, e9⟩ : ∃ z, Rv h a0 8 = z := ⟨_, rfl⟩
  have t10 := ok_R O ta0 rE_11_8 e9
  have l11 := ok_L O ta0 rE_11_8 e9
  obtain ⟨v12, e13⟩ : ∃ z, Iv h a0 9 = z := ⟨_, rfl⟩
  have f14 := ok_I O ta0 rI_11_9 e13
  obtain ⟨v15, e16⟩ : ∃ z, Rv h a0 11 = z := ⟨_, rfl⟩
  have t17 := ok_R O ta0 rE_11_11 e16
  have l18 := ok_L O ta0 rE_11_11 e16
  obtain ⟨v19, e20⟩ : ∃ z, Iv h a0 12 = z := ⟨_, rfl⟩
  have f21 := ok_I O ta0 rI_11_12 e20
  obtain ⟨v22, e23⟩ : ∃ z, Iv h a0 15 = z := ⟨_, rfl⟩
  have f24 := ok_I O ta0 rI_11_15 e23
  obtain ⟨v25, e26⟩ : ∃ z, Rv h a0 14 = z := ⟨_, rfl⟩
  have t27 := ok_R O ta0 rE_11_14 e26
  have l28 := ok_L O ta0 rE_11_14 e26
  obtain ⟨v29, e30⟩ : ∃ z, Rv h a0 13 = z := ⟨_, rfl⟩
  have t31 := ok_R O ta0 rE_11_13 e30
  obtain ⟨v32, e33⟩ : ∃ z, Rv h a0 6 = z := ⟨_, rfl⟩
  have t34 := ok_R O ta0 rE_11_6 e33
  obtain ⟨v35, e36⟩ : ∃ z, Rv h a0 7 = z := ⟨_, rfl⟩
  have t37 := ok_R O ta0 rE_11_7 e36
  have p48 := P_XInv
  unfold XInv at p48
  rw [e2, e6, e9, e13, e16, e20, e23, e26, e30, e33, e36] at p48
  obtain ⟨p38, p39, p40, p41, p42, p43, p44, p45, p46, p47⟩ := p48
  obtain ⟨v49, e50⟩ : ∃ z, Iv h v29 3 = z := ⟨_, rfl⟩
  have f51 := ok_I O t31 rI_7_3 e50
  obtain ⟨v52, e53⟩ : ∃ z, Iv h v29 4 = z := ⟨_, rfl⟩
  have f54 := ok_I O t31 rI_7_4 e53
  rw [e50] at p44
  rw [e53] at p45
  refine hm_go (by decide +kernel) (Nat.le_of_ble_eq_true rfl) (fun p e s m below meth c C hr hn => ?_)
  refine g_aload_n C rfl 0 rfl dX11_dip_0 ?_
  refine g_iload_n C rfl 1 rfl dX11_dip_1 ?_
  refine g_callI (st := []) (gc_V C lk_LandSurvey_108 (k_X11_isSight l D cy w z0 O ta0 fa1) ta0 rfl rfl rfl ⟨by decide, by decide⟩ (Nat.le_of_ble_eq_true rfl) dX11_dip_2 ⟨(by decide), (by decide)⟩) (fun r55 h56 f58 K57 => ?_)
  obtain ⟨O59, F60, f61, p62⟩ := K57
  refine g_if_eq C (iw f61 (by decide) (by decide)) 21 (by decide) dX11_dip_5 (fun q63 => ?_) (fun q64 => ?_)
  · have f65 : (0 : Int) ≤ r55 ∧ r55 ≤ (0 : Int) := ii f61 (r_eq (il 0) q63) (by decide) (by decide)
    refine g_iconst C dX11_dip_21 ?_
    have p66 := (XInv_fx O F60 ta0 rfl P_XInv)
    exact g_iret C hr (nar_z2 (iw (il 0) (by decide) (by decide))).1 (iw (il 0) (by decide) (by decide)) ⟨O59, ((Fx.rf (wr := wr_k_X11_dip)).call F60 rfl), (iw (il 0) (by decide) (by decide)), p66⟩ (by decide) (by decide) dX11_dip_22
  · have f67 : (1 : Int) ≤ r55 ∧ r55 ≤ (1 : Int) := r_nl f61 q64
    refine g_aload_n C rfl 0 rfl dX11_dip_8 ?_
    have e68 : Tg h56 a0 = 11 := (fxT F60 ta0)
    have e69 : Rv h56 a0 3 = v1 := ((fxR F60 ta0 rfl).trans e2)
    refine gf_R C fk_LandSurvey_22 rfl e68 e69 dX11_dip_9 ?_
    refine g_iload_n C rfl 1 rfl dX11_dip_12 ?_
    have e70 : Tg h56 v1 = 38104 := (fxT F60 t3)
    have e71 : Ln h56 v1 = 40 := ((fxL F60 t3).trans l4)
    obtain ⟨v72, e73⟩ : ∃ z, Rv h56 v1 a1.toNat = z := ⟨_, rfl⟩
    refine g_aald (t := 4) C e70 rfl (by decide) rfl e71 (by omega) e73 dX11_dip_13 ?_
    have p74 := (SOK_fx O F60 t3 rfl rfl rfl p38)
    have q75 := nn_get p74.nn (by omega) e73
    have t76 := ok_Na O59 e70 ar_38104 rE_38104_0 e73 q75
    obtain ⟨v77, e78⟩ : ∃ z, Iv h56 v72 7 = z := ⟨_, rfl⟩
    have f79 := ok_I O59 t76 rI_9_7 e78
    refine gf_I C fk_LandSurvey_112 rfl t76 e78 dX11_dip_14 ?_
    refine g_iconst C dX11_dip_17 ?_
    refine g_icmp_eq C (iw f79 (by decide) (by decide)) (iw (il (-1)) (by decide) (by decide)) 23 (by decide) dX11_dip_18 (fun q80 => ?_) (fun q81 => ?_)
    · have f82 : (-1 : Int) ≤ v77 ∧ v77 ≤ (-1 : Int) := ii f79 (r_eq (il (-1)) q80) (by decide) (by decide)
      refine g_iload_n C rfl 2 rfl dX11_dip_23 ?_
      refine g_if_lt C fa2 56 (by decide) dX11_dip_24 (fun q83 => ?_) (fun q84 => ?_)
      · have f85 : (-2147483648 : Int) ≤ a2 ∧ a2 ≤ (-1 : Int) := r_lt fa2 (il 0) q83 (by decide) (by decide)
        refine g_iconst C dX11_dip_56 ?_
        have p86 := (XInv_fx O F60 ta0 rfl P_XInv)
        exact g_iret C hr (nar_z2 (iw (il 0) (by decide) (by decide))).1 (iw (il 0) (by decide) (by decide)) ⟨O59, ((Fx.rf (wr := wr_k_X11_dip)).call F60 rfl), (iw (il 0) (by decide) (by decide)), p86⟩ (by decide) (by decide) dX11_dip_57
      · have f87 : (0 : Int) ≤ a2 ∧ a2 ≤ (2147483647 : Int) := r_ge fa2 (il 0) q84 (by decide) (by decide)
        refine g_iload_n C rfl 2 rfl dX11_dip_27 ?_
        refine g_iconst C dX11_dip_28 ?_
        refine g_icmp_ge C (iw f87 (by decide) (by decide)) (iw (il 4) (by decide) (by decide)) 56 (by decide) dX11_dip_29 (fun q88 => ?_) (fun q89 => ?_)
        · have f90 : (4 : Int) ≤ a2 ∧ a2 ≤ (2147483647 : Int) := r_ge f87 (il 4) q88 (by decide) (by decide)
          refine g_iconst C dX11_dip_56 ?_
          have p91 := (XInv_fx O F60 ta0 rfl P_XInv)
          exact g_iret C hr (nar_z2 (iw (il 0) (by decide) (by decide))).1 (iw (il 0) (by decide) (by decide)) ⟨O59, ((Fx.rf (wr := wr_k_X11_dip)).call F60 rfl), (iw (il 0) (by decide) (by decide)), p91⟩ (by decide) (by decide) dX11_dip_57
        · have f92 : (0 : Int) ≤ a2 ∧ a2 ≤ (3 : Int) := r_lt f87 (il 4) q89 (by decide) (by decide)
          refine g_iload_n C rfl 3 rfl dX11_dip_32 ?_
          refine g_bipush C (by decide) dX11_dip_33 ?_
          refine g_icmp_lt C fa3 (iw (il (-99)) (by decide) (by decide)) 56 (by decide) dX11_dip_35 (fun q93 => ?_) (fun q94 => ?_)
          · have f95 : (-2147483648 : Int) ≤ a3 ∧ a3 ≤ (-100 : Int) := r_lt fa3 (il (-99)) q93 (by decide) (by decide)
            refine g_iconst C dX11_dip_56 ?_
            have p96 := (XInv_fx O F60 ta0 rfl P_XInv)
            exact g_iret C hr (nar_z2 (iw (il 0) (by decide) (by decide))).1 (iw (il 0) (by decide) (by decide)) ⟨O59, ((Fx.rf (wr := wr_k_X11_dip)).call F60 rfl), (iw (il 0) (by decide) (by decide)), p96⟩ (by decide) (by decide) dX11_dip_57
          · have f97 : (-99 : Int) ≤ a3 ∧ a3 ≤ (2147483647 : Int) := r_ge fa3 (il (-99)) q94 (by decide) (by decide)
            refine g_iload_n C rfl 3 rfl dX11_dip_38 ?_
            refine g_bipush C (by decide) dX11_dip_39 ?_
            refine g_icmp_gt C (iw f97 (by decide) (by decide)) (iw (il 99) (by decide) (by decide)) 56 (by decide) dX11_dip_41 (fun q98 => ?_) (fun q99 => ?_)
            · have f100 : (100 : Int) ≤ a3 ∧ a3 ≤ (2147483647 : Int) := r_gt f97 (il 99) q98 (by decide) (by decide)
              refine g_iconst C dX11_dip_56 ?_
              have p101 := (XInv_fx O F60 ta0 rfl P_XInv)
              exact g_iret C hr (nar_z2 (iw (il 0) (by decide) (by decide))).1 (iw (il 0) (by decide) (by decide)) ⟨O59, ((Fx.rf (wr := wr_k_X11_dip)).call F60 rfl), (iw (il 0) (by decide) (by decide)), p101⟩ (by decide) (by decide) dX11_dip_57
            · have f102 : (-99 : Int) ≤ a3 ∧ a3 ≤ (99 : Int) := r_le f97 (il 99) q99 (by decide) (by decide)
              refine g_iload C 4 rfl dX11_dip_44 ?_
              refine g_if_lt C fa4 56 (by decide) dX11_dip_46 (fun q103 => ?_) (fun q104 => ?_)
              · have f105 : (-2147483648 : Int) ≤ a4 ∧ a4 ≤ (-1 : Int) := r_lt fa4 (il 0) q103 (by decide) (by decide)
                refine g_iconst C dX11_dip_56 ?_
                have p106 := (XInv_fx O F60 ta0 rfl P_XInv)
                exact g_iret C hr (nar_z2 (iw (il 0) (by decide) (by decide))).1 (iw (il 0) (by decide) (by decide)) ⟨O59, ((Fx.rf (wr := wr_k_X11_dip)).call F60 rfl), (iw (il 0) (by decide) (by decide)), p106⟩ (by decide) (by decide) dX11_dip_57
              · have f107 : (0 : Int) ≤ a4 ∧ a4 ≤ (2147483647 : Int) := r_ge fa4 (il 0) q104 (by decide) (by decide)
                refine g_iload C 4 rfl dX11_dip_49 ?_
                refine g_bipush C (by decide) dX11_dip_51 ?_
                refine g_icmp_le C (iw f107 (by decide) (by decide)) (iw (il 99) (by decide) (by decide)) 58 (by decide) dX11_dip_53 (fun q108 => ?_) (fun q109 => ?_)
                · have f110 : (0 : Int) ≤ a4 ∧ a4 ≤ (99 : Int) := r_le f107 (il 99) q108 (by decide) (by decide)
                  refine g_aload_n C rfl 0 rfl dX11_dip_58 ?_
                  refine gf_R C fk_LandSurvey_22 rfl e68 e69 dX11_dip_59 ?_
                  refine g_iload_n C rfl 1 rfl dX11_dip_62 ?_
                  refine g_aald (t := 4) C e70 rfl (by decide) rfl e71 (by omega) e73 dX11_dip_63 ?_
                  refine g_iload_n C rfl 2 rfl dX11_dip_64 ?_
                  refine gp_I C fk_LandSurvey_112 pk_LandSurvey_Sight_7 rfl t76 (iw f92 (by decide) (by decide)) (nf_i _) dX11_dip_65 (fun h112 hh111 => ?_)
                  have O113 := O59.pI t76 hh111 rI_9_7 (iw f92 (by decide) (by decide)) nofun
                  have e114 : Rv h112 a0 3 = v1 := ((pIR hh111).trans e69)
                  have e115 : Iv h112 a0 4 = v5 := ((pI_n hh111 (ne_tag e68 t76 (by decide))).trans ((fxI F60 ta0 rfl).trans e6))
                  refine g_aload_n C rfl 0 rfl dX11_dip_68 ?_
                  have e116 : Tg h112 a0 = 11 := ((pIT hh111).trans e68)
                  refine gf_R C fk_LandSurvey_22 rfl e116 e114 dX11_dip_69 ?_
                  refine g_iload_n C rfl 1 rfl dX11_dip_72 ?_
                  have e117 : Tg h112 v1 = 38104 := ((pIT hh111).trans e70)
                  have e118 : Ln h112 v1 = 40 := ((pIL hh111).trans e71)
                  have e119 : Rv h112 v1 a1.toNat = v72 := ((pIR hh111).trans e73)
                  refine g_aald (t := 4) C e117 rfl (by decide) rfl e118 (by omega) e119 dX11_dip_73 ?_
                  have e120 : Tg h112 v72 = 9 := ((pIT hh111).trans t76)
                  refine g_aload_n C rfl 0 rfl dX11_dip_74 ?_
                  refine gf_R C fk_LandSurvey_22 rfl e116 e114 dX11_dip_75 ?_
                  refine g_iload_n C rfl 1 rfl dX11_dip_78 ?_
                  refine g_aald (t := 4) C e117 rfl (by decide) rfl e118 (by omega) e119 dX11_dip_79 ?_
                  obtain ⟨v121, e122⟩ : ∃ z, Iv h112 v72 1 = z := ⟨_, rfl⟩
                  have f123 := ok_I O113 e120 rI_9_1 e122
                  refine gf_I C fk_LandSurvey_115 rfl e120 e122 dX11_dip_80 ?_
                  refine g_iload_n C rfl 2 rfl dX11_dip_83 ?_
                  refine g_callI (st := [.inr (.inr v72)]) (gc_S C lk_LandSurvey_118 (k_X11_neighbour l D cy w z0 O113 f123 (iw f92 (by decide) (by decide))) rfl ⟨by decide, by decide⟩ (Nat.le_of_ble_eq_true rfl) dX11_dip_84 ⟨(by decide), (by decide)⟩) (fun r124 h125 f127 K126 => ?_)
                  obtain ⟨O128, F129, f130⟩ := K126
                  have e131 : Tg h125 v72 = 9 := (fxT F129 e120)
                  refine gp_I C fk_LandSurvey_121 pk_LandSurvey_Sight_8 rfl e131 (iw f130 (by decide) (by decide)) (nf_i _) dX11_dip_87 (fun h133 hh132 => ?_)
                  have O134 := O128.pI e131 hh132 rI_9_8 f130 nofun
                  have e135 : Rv h133 a0 3 = v1 := ((pIR hh132).trans ((fxR F129 e116 rfl).trans e114))
                  have e136 : Tg h125 a0 = 11 := (fxT F129 e116)
                  have e137 : Iv h133 a0 4 = v5 := ((pI_n hh132 (ne_tag e136 e131 (by decide))).trans ((fxI F129 e116 rfl).trans e115))
                  have p138 := (SOK_fx O113 F129 e117 rfl rfl rfl (SOK_p7 p74 hh111 (by omega)))
                  have e139 : Iv h125 v72 7 = a2 := ((fxI F129 e120 rfl).trans (pI_e hh111))
                  refine g_aload_n C rfl 0 rfl dX11_dip_90 ?_
                  have e140 : Tg h133 a0 = 11 := ((pIT hh132).trans e136)
                  refine gf_R C fk_LandSurvey_22 rfl e140 e135 dX11_dip_91 ?_
                  refine g_iload_n C rfl 1 rfl dX11_dip_94 ?_
                  have e141 : Tg h133 v1 = 38104 := ((pIT hh132).trans (fxT F129 e117))
                  have e142 : Ln h133 v1 = 40 := ((pIL hh132).trans ((fxL F129 e117).trans e118))
                  have e143 : Rv h133 v1 a1.toNat = v72 := ((pIR hh132).trans ((fxRa F129 e117 ar_38104 rfl).trans e119))
                  refine g_aald (t := 4) C e141 rfl (by decide) rfl e142 (by omega) e143 dX11_dip_95 ?_
                  have e144 : Tg h133 v72 = 9 := ((pIT hh132).trans e131)
                  refine g_iload_n C rfl 3 rfl dX11_dip_96 ?_
                  refine gp_I C fk_LandSurvey_124 pk_LandSurvey_Sight_9 rfl e144 (iw f102 (by decide) (by decide)) (nf_i _) dX11_dip_97 (fun h146 hh145 => ?_)
                  have O147 := O134.pI e144 hh145 rI_9_9 f102 nofun
                  refine g_aload_n C rfl 0 rfl dX11_dip_100 ?_
                  have e148 : Tg h146 a0 = 11 := ((pIT hh145).trans e140)
                  have e149 : Rv h146 a0 3 = v1 := ((pIR hh145).trans e135)
                  refine gf_R C fk_LandSurvey_22 rfl e148 e149 dX11_dip_101 ?_
                  refine g_iload_n C rfl 1 rfl dX11_dip_104 ?_
                  have e150 : Tg h146 v1 = 38104 := ((pIT hh145).trans e141)
                  have e151 : Ln h146 v1 = 40 := ((pIL hh145).trans e142)
                  have e152 : Rv h146 v1 a1.toNat = v72 := ((pIR hh145).trans e143)
                  refine g_aald (t := 4) C e150 rfl (by decide) rfl e151 (by omega) e152 dX11_dip_105 ?_
                  have e153 : Tg h146 v72 = 9 := ((pIT hh145).trans e144)
                  refine g_iload C 4 rfl dX11_dip_106 ?_
                  refine gp_I C fk_LandSurvey_127 pk_LandSurvey_Sight_10 rfl e153 (iw f110 (by decide) (by decide)) (nf_i _) dX11_dip_108 (fun h155 hh154 => ?_)
                  have O156 := O147.pI e153 hh154 rI_9_10 f110 nofun
                  refine g_aload_n C rfl 0 rfl dX11_dip_111 ?_
                  refine g_iconst C dX11_dip_112 ?_
                  have e157 : Tg h155 a0 = 11 := ((pIT hh154).trans e148)
                  refine gp_I C fk_LandSurvey_81 pk_LandSurvey_15 rfl e157 (iw (il 0) (by decide) (by decide)) (nar_z2 (iw (il 0) (by decide) (by decide))) dX11_dip_113 (fun h159 hh158 => ?_)
                  have O160 := O156.pI e157 hh158 rI_11_15 (iw (il 0) (by decide) (by decide)) nofun
                  refine g_iconst C dX11_dip_116 ?_
                  have e161 : Rv h159 a0 3 = v1 := ((pIR hh158).trans ((pIR hh154).trans e149))
                  have e162 : Iv h159 a0 4 = v5 := ((pI_j hh158 (by decide)).trans ((pI_n hh154 (ne_tag e148 e153 (by decide))).trans ((pI_n hh145 (ne_tag e140 e144 (by decide))).trans e137)))
                  have e163 : Rv h159 a0 8 = v8 := ((pIR hh158).trans ((pIR hh154).trans ((pIR hh145).trans ((pIR hh132).trans ((fxR F129 e116 rfl).trans ((pIR hh111).trans ((fxR F60 ta0 rfl).trans e9)))))))
                  have e164 : Iv h159 a0 9 = v12 := ((pI_j hh158 (by decide)).trans ((pI_n hh154 (ne_tag e148 e153 (by decide))).trans ((pI_n hh145 (ne_tag e140 e144 (by decide))).trans ((pI_n hh132 (ne_tag e136 e131 (by decide))).trans ((fxI F129 e116 rfl).trans ((pI_n hh111 (ne_tag e68 t76 (by decide))).trans ((fxI F60 ta0 rfl).trans e13)))))))
                  have e165 : Rv h159 a0 11 = v15 := ((pIR hh158).trans ((pIR hh154).trans ((pIR hh145).trans ((pIR hh132).trans ((fxR F129 e116 rfl).trans ((pIR hh111).trans ((fxR F60 ta0 rfl).trans e16)))))))
                  have e166 : Iv h159 a0 12 = v19 := ((pI_j hh158 (by decide)).trans ((pI_n hh154 (ne_tag e148 e153 (by decide))).trans ((pI_n hh145 (ne_tag e140 e144 (by decide))).trans ((pI_n hh132 (ne_tag e136 e131 (by decide))).trans ((fxI F129 e116 rfl).trans ((pI_n hh111 (ne_tag e68 t76 (by decide))).trans ((fxI F60 ta0 rfl).trans e20)))))))
                  have e167 : Rv h159 a0 14 = v25 := ((pIR hh158).trans ((pIR hh154).trans ((pIR hh145).trans ((pIR hh132).trans ((fxR F129 e116 rfl).trans ((pIR hh111).trans ((fxR F60 ta0 rfl).trans e26)))))))
                  have e168 : Rv h159 a0 13 = v29 := ((pIR hh158).trans ((pIR hh154).trans ((pIR hh145).trans ((pIR hh132).trans ((fxR F129 e116 rfl).trans ((pIR hh111).trans ((fxR F60 ta0 rfl).trans e30)))))))
                  have e169 : Rv h159 a0 6 = v32 := ((pIR hh158).trans ((pIR hh154).trans ((pIR hh145).trans ((pIR hh132).trans ((fxR F129 e116 rfl).trans ((pIR hh111).trans ((fxR F60 ta0 rfl).trans e33)))))))
                  have e170 : Rv h159 a0 7 = v35 := ((pIR hh158).trans ((pIR hh154).trans ((pIR hh145).trans ((pIR hh132).trans ((fxR F129 e116 rfl).trans ((pIR hh111).trans ((fxR F60 ta0 rfl).trans e36)))))))
                  have e171 : Tg h112 v29 = 7 := ((pIT hh111).trans (fxT F60 t31))
                  have e172 : Rv h159 v29 1 = v1 := ((pIR hh158).trans ((pIR hh154).trans ((pIR hh145).trans ((pIR hh132).trans ((fxR F129 e171 rfl).trans ((pIR hh111).trans ((fxR F60 t31 rfl).trans p42)))))))
                  have e173 : Rv h159 v29 2 = v8 := ((pIR hh158).trans ((pIR hh154).trans ((pIR hh145).trans ((pIR hh132).trans ((fxR F129 e171 rfl).trans ((pIR hh111).trans ((fxR F60 t31 rfl).trans p43)))))))
                  have e174 : Tg h56 v29 = 7 := (fxT F60 t31)
                  have e175 : Tg h125 v29 = 7 := (fxT F129 e171)
                  have e176 : Tg h133 v29 = 7 := ((pIT hh132).trans e175)
                  have e177 : Tg h146 v29 = 7 := ((pIT hh145).trans e176)
                  have e178 : Tg h155 v29 = 7 := ((pIT hh154).trans e177)
                  have e179 : Iv h159 v29 3 = v49 := ((pI_n hh158 (ne_tag e178 e157 (by decide))).trans ((pI_n hh154 (ne_tag e177 e153 (by decide))).trans ((pI_n hh145 (ne_tag e176 e144 (by decide))).trans ((pI_n hh132 (ne_tag e175 e131 (by decide))).trans ((fxI F129 e171 rfl).trans ((pI_n hh111 (ne_tag e174 t76 (by decide))).trans ((fxI F60 t31 rfl).trans e50)))))))
                  have e180 : Iv h159 v29 4 = v52 := ((pI_n hh158 (ne_tag e178 e157 (by decide))).trans ((pI_n hh154 (ne_tag e177 e153 (by decide))).trans ((pI_n hh145 (ne_tag e176 e144 (by decide))).trans ((pI_n hh132 (ne_tag e175 e131 (by decide))).trans ((fxI F129 e171 rfl).trans ((pI_n hh111 (ne_tag e174 t76 (by decide))).trans ((fxI F60 t31 rfl).trans e53)))))))
                  have e181 : Tg h155 v1 = 38104 := ((pIT hh154).trans e150)
                  have p182 := (SOK_fx O156 ((Fx.rf (wr := [2215]) (h := h155)).pI e157 hh158 rfl) e181 rfl rfl rfl (SOK_fx O147 ((Fx.rf (wr := [1810]) (h := h146)).pI e153 hh154 rfl) e150 rfl rfl rfl (SOK_fx O134 ((Fx.rf (wr := [1809]) (h := h133)).pI e144 hh145 rfl) e141 rfl rfl rfl (SOK_p8 p138 hh132 (by rw [e139]; omega)))))
                  have e183 : Tg h56 v8 = 39105 := (fxT F60 t10)
                  have e184 : Tg h112 v8 = 39105 := ((pIT hh111).trans e183)
                  have e185 : Tg h125 v8 = 39105 := (fxT F129 e184)
                  have e186 : Tg h133 v8 = 39105 := ((pIT hh132).trans e185)
                  have e187 : Tg h146 v8 = 39105 := ((pIT hh145).trans e186)
                  have e188 : Tg h155 v8 = 39105 := ((pIT hh154).trans e187)
                  have p189 := (BOK_fx O156 ((Fx.rf (wr := [2215]) (h := h155)).pI e157 hh158 rfl) e188 rfl rfl rfl rfl (BOK_fx O147 ((Fx.rf (wr := [1810]) (h := h146)).pI e153 hh154 rfl) e187 rfl rfl rfl rfl (BOK_fx O134 ((Fx.rf (wr := [1809]) (h := h133)).pI e144 hh145 rfl) e186 rfl rfl rfl rfl (BOK_fx O128 ((Fx.rf (wr := [1808]) (h := h125)).pI e131 hh132 rfl) e185 rfl rfl rfl rfl (BOK_fx O113 F129 e184 rfl rfl rfl rfl (BOK_fx O59 ((Fx.rf (wr := [1807]) (h := h56)).pI t76 hh111 rfl) e183 rfl rfl rfl rfl (BOK_fx O F60 t10 rfl rfl rfl rfl p39)))))))
                  have e190 : Tg h56 v15 = 48106 := (fxT F60 t17)
                  have e191 : Tg h112 v15 = 48106 := ((pIT hh111).trans e190)
                  have e192 : Tg h125 v15 = 48106 := (fxT F129 e191)
                  have e193 : Tg h133 v15 = 48106 := ((pIT hh132).trans e192)
                  have e194 : Tg h146 v15 = 48106 := ((pIT hh145).trans e193)
                  have e195 : Tg h155 v15 = 48106 := ((pIT hh154).trans e194)
                  have p196 := (NN_fx ((Fx.rf (wr := [2215]) (h := h155)).pI e157 hh158 rfl) e195 ar_48106 rfl (NN_fx ((Fx.rf (wr := [1810]) (h := h146)).pI e153 hh154 rfl) e194 ar_48106 rfl (NN_fx ((Fx.rf (wr := [1809]) (h := h133)).pI e144 hh145 rfl) e193 ar_48106 rfl (NN_fx ((Fx.rf (wr := [1808]) (h := h125)).pI e131 hh132 rfl) e192 ar_48106 rfl (NN_fx F129 e191 ar_48106 rfl (NN_fx ((Fx.rf (wr := [1807]) (h := h56)).pI t76 hh111 rfl) e190 ar_48106 rfl (NN_fx F60 t17 ar_48106 rfl p40)))))))
                  have e197 : Tg h56 v32 = 5 := (fxT F60 t34)
                  have e198 : Tg h112 v32 = 5 := ((pIT hh111).trans e197)
                  have e199 : Tg h125 v32 = 5 := (fxT F129 e198)
                  have e200 : Tg h133 v32 = 5 := ((pIT hh132).trans e199)
                  have e201 : Tg h146 v32 = 5 := ((pIT hh145).trans e200)
                  have e202 : Tg h155 v32 = 5 := ((pIT hh154).trans e201)
                  have p203 := (BkOk_fx O156 ((Fx.rf (wr := [2215]) (h := h155)).pI e157 hh158 rfl) e202 rfl rfl (BkOk_fx O147 ((Fx.rf (wr := [1810]) (h := h146)).pI e153 hh154 rfl) e201 rfl rfl (BkOk_fx O134 ((Fx.rf (wr := [1809]) (h := h133)).pI e144 hh145 rfl) e200 rfl rfl (BkOk_fx O128 ((Fx.rf (wr := [1808]) (h := h125)).pI e131 hh132 rfl) e199 rfl rfl (BkOk_fx O113 F129 e198 rfl rfl (BkOk_fx O59 ((Fx.rf (wr := [1807]) (h := h56)).pI t76 hh111 rfl) e197 rfl rfl (BkOk_fx O F60 t34 rfl rfl p46)))))))
                  have e204 : Tg h56 v35 = 6 := (fxT F60 t37)
                  have e205 : Tg h112 v35 = 6 := ((pIT hh111).trans e204)
                  have e206 : Tg h125 v35 = 6 := (fxT F129 e205)
                  have e207 : Tg h133 v35 = 6 := ((pIT hh132).trans e206)
                  have e208 : Tg h146 v35 = 6 := ((pIT hh145).trans e207)
                  have e209 : Tg h155 v35 = 6 := ((pIT hh154).trans e208)
                  have p210 := (RulesOk_fx O156 ((Fx.rf (wr := [2215]) (h := h155)).pI e157 hh158 rfl) e209 rfl (RulesOk_fx O147 ((Fx.rf (wr := [1810]) (h := h146)).pI e153 hh154 rfl) e208 rfl (RulesOk_fx O134 ((Fx.rf (wr := [1809]) (h := h133)).pI e144 hh145 rfl) e207 rfl (RulesOk_fx O128 ((Fx.rf (wr := [1808]) (h := h125)).pI e131 hh132 rfl) e206 rfl (RulesOk_fx O113 F129 e205 rfl (RulesOk_fx O59 ((Fx.rf (wr := [1807]) (h := h56)).pI t76 hh111 rfl) e204 rfl (RulesOk_fx O F60 t37 rfl p47)))))))
                  exact g_iret C hr (nar_z2 (iw (il 1) (by decide) (by decide))).1 (iw (il 1) (by decide) (by decide)) ⟨O160, ((((((((Fx.rf (wr := wr_k_X11_dip)).call F60 rfl).pI t76 hh111 rfl).call F129 rfl).pI e131 hh132 rfl).pI e144 hh145 rfl).pI e153 hh154 rfl).pI e157 hh158 rfl), (iw (il 1) (by decide) (by decide)), (by unfold XInv; rw [e161, e162, e163, e164, e165, e166, (pI_e hh158), e167, e168, e169, e170, e172, e173, e179, e180]; exact ⟨p182, p189, p196, (fun z => absurd z (by decide)), rfl, rfl, (by omega), (by omega), p203, p210⟩)⟩ (by decide) (by decide) dX11_dip_117
                · have f211 : (100 : Int) ≤ a4 ∧ a4 ≤ (2147483647 : Int) := r_gt f107 (il 99) q109 (by decide) (by decide)
                  refine g_iconst C dX11_dip_56 ?_
                  have p212 := (XInv_fx O F60 ta0 rfl P_XInv)
                  exact g_iret C hr (nar_z2 (iw (il 0) (by decide) (by decide))).1 (iw (il 0) (by decide) (by decide)) ⟨O59, ((Fx.rf (wr := wr_k_X11_dip)).call F60 rfl), (iw (il 0) (by decide) (by decide)), p212⟩ (by decide) (by decide) dX11_dip_57
    · have f213 : (0 : Int) ≤ v77 ∧ v77 ≤ (3 : Int) := r_nl f79 q81
      refine g_iconst C dX11_dip_21 ?_
      have p214 := (XInv_fx O F60 ta0 rfl P_XInv)
      exact g_iret C hr (nar_z2 (iw (il 0) (by decide) (by decide))).1 (iw (il 0) (by decide) (by decide)) ⟨O59, ((Fx.rf (wr := wr_k_X11_dip)).call F60 rfl), (iw (il 0) (by decide) (by decide)), p214⟩ (by decide) (by decide) dX11_dip_22
def wr_k_X11_fault : List Nat := [200, 201, 202, 203, 204, 205, 2209, 2215, 7821000]
set_option maxRecDepth 100000 in
set_option maxHeartbeats 4000000 in
theorem k_X11_fault (l : Launch) (D : va_G) (cy : Nat → ClassId) (w : Nat → Nat) (z0 : Nat) {h : Hp} {a0 : Nat} {a1 : Int} {a2 : Int} {a3 : Int} {a4 : Int} {a5 : Int} {a6 : Int} {a7 : Int}  (O : Okh h) (ta0 : Tg h a0 = 11) (fa1 : (-2147483648) ≤ a1 ∧ a1 ≤ 2147483647) (fa2 : (-2147483648) ≤ a2 ∧ a2 ≤ 2147483647) (fa3 : 0 ≤ a3 ∧ a3 ≤ 1) (fa4 : (-2147483648) ≤ a4 ∧ a4 ≤ 2147483647) (fa5 : (-2147483648) ≤ a5 ∧ a5 ≤ 2147483647) (fa6 : (-2147483648) ≤ a6 ∧ a6 ≤ 2147483647) (fa7 : (-2147483648) ≤ a7 ∧ a7 ≤ 2147483647) (P_XInv : XInv h a0) : MI l D cy w z0 yX11_fault cX11_fault 10 (some .int) 2 50 1 6 [.inr (.inr a0), .inl a1, .inl a2, .inl a3, .inl a4, .inl a5, .inl a6, .inl a7] h (fun v h1 => Okh h1 ∧ Fx wr_k_X11_fault h h1 ∧ ((-1) ≤ v ∧ v ≤ 3) ∧ (XInv h1 a0)) := by
  obtain ⟨v1, e2⟩ : ∃ z, Rv h a0 3 = z := ⟨_, rfl⟩
  have t3 := ok_R O ta0 rE_11_3 e2
  have l4 := ok_L O ta0 rE_11_3 e2
  obtain ⟨v5, e6⟩ : ∃ z, Iv h a0 4 = z := ⟨_, rfl⟩
  have f7 := ok_I O ta0 rI_11_4 e6
  obtain ⟨v8, e9⟩ : ∃ z, Rv h a0 8 = z := ⟨_, rfl⟩
  have t10 := ok_R O ta0 rE_11_8 e9
  have l11 := ok_L O ta0 rE_11_8 e9
  obtain ⟨v12, e13⟩ : ∃ z, Iv h a0 9 = z := ⟨_, rfl⟩
  have f14 := ok_I O ta0 rI_11_9 e13
  obtain ⟨v15, e16⟩ : ∃ z, Rv h a0 11 = z := ⟨_, rfl⟩
  have t17 := ok_R O ta0 rE_11_11 e16
  have l18 := ok_L O ta0 rE_11_11 e16
  obtain ⟨v19, e20⟩ : ∃ z, Iv h a0 12 = z := ⟨_, rfl⟩
  have f21 := ok_I O ta0 rI_11_12 e20
  obtain ⟨v22, e23⟩ : ∃ z, Iv h a0 15 = z := ⟨_, rfl⟩
  have f24 := ok_I O ta0 rI_11_15 e23
  obtain ⟨v25, e26⟩ : ∃ z, Rv h a0 14 = z := ⟨_, rfl⟩
  have t27 := ok_R O ta0 rE_11_14 e26
  have l28 := ok_L O ta0 rE_11_14 e26
  obtain ⟨v29, e30⟩ : ∃ z, Rv h a0 13 = z := ⟨_, rfl⟩
  have t31 := ok_R O ta0 rE_11_13 e30
  obtain ⟨v32, e33⟩ : ∃ z, Rv h a0 6 = z := ⟨_, rfl⟩
  have t34 := ok_R O ta0 rE_11_6 e33
  obtain ⟨v35, e36⟩ : ∃ z, Rv h a0 7 = z := ⟨_, rfl⟩
  have t37 := ok_R O ta0 rE_11_7 e36
  have p48 := P_XInv
  unfold XInv at p48
  rw [e2, e6, e9, e13, e16, e20, e23, e26, e30, e33, e36] at p48
  obtain ⟨p38, p39, p40, p41, p42, p43, p44, p45, p46, p47⟩ := p48
  obtain ⟨v49, e50⟩ : ∃ z, Iv h v29 3 = z := ⟨_, rfl⟩
  have f51 := ok_I O t31 rI_7_3 e50
  obtain ⟨v52, e53⟩ : ∃ z, Iv h v29 4 = z := ⟨_, rfl⟩
  have f54 := ok_I O t31 rI_7_4 e53
  rw [e50] at p44
  rw [e53] at p45
  refine hm_go (by decide +kernel) (Nat.le_of_ble_eq_true rfl) (fun p e s m below meth c C hr hn => ?_)
  refine g_iload_n C rfl 1 rfl dX11_fault_0 ?_
  refine g_iload_n C rfl 2 rfl dX11_fault_1 ?_
  refine g_callI (st := []) (gc_S C lk_LandSurvey_85 (k_X11_cellAt l D cy w z0 O fa1 fa2) rfl ⟨by decide, by decide⟩ (Nat.le_of_ble_eq_true rfl) dX11_fault_2 ⟨(by decide), (by decide)⟩) (fun r55 h56 f58 K57 => ?_)
  obtain ⟨O59, F60, f61, p62⟩ := K57
  refine g_istore C [(8, .inl r55), (0, .inr (.inr a0)), (1, .inl a1), (2, .inl a2), (3, .inl a3), (4, .inl a4), (5, .inl a5), (6, .inl a6), (7, .inl a7)] (by decide) rfl dX11_fault_5 ?_
  refine g_iload C 0 rfl dX11_fault_7 ?_
  refine g_iconst C dX11_fault_9 ?_
  refine g_icmp_eq C (iw f61 (by decide) (by decide)) (iw (il (-1)) (by decide) (by decide)) 34 (by decide) dX11_fault_10 (fun q63 => ?_) (fun q64 => ?_)
  · have f65 : (-1 : Int) ≤ r55 ∧ r55 ≤ (-1 : Int) := ii f61 (r_eq (il (-1)) q63) (by decide) (by decide)
    refine g_iconst C dX11_fault_34 ?_
    have p66 := (XInv_fx O F60 ta0 rfl P_XInv)
    exact g_iret C hr rfl (iw (il (-1)) (by decide) (by decide)) ⟨O59, ((Fx.rf (wr := wr_k_X11_fault)).call F60 rfl), (iw (il (-1)) (by decide) (by decide)), p66⟩ (by decide) (by decide) dX11_fault_35
  · have f67 : (0 : Int) ≤ r55 ∧ r55 ≤ (95 : Int) := r_nl f61 q64
    have f68 : (0 : Int) ≤ a1 ∧ a1 ≤ (11 : Int) := by omega
    have f69 : (0 : Int) ≤ a2 ∧ a2 ≤ (7 : Int) := by omega
    refine g_aload_n C rfl 1 rfl dX11_fault_13 ?_
    have e70 : Tg h56 a0 = 11 := (fxT F60 ta0)
    have e71 : Iv h56 a0 9 = v12 := ((fxI F60 ta0 rfl).trans e13)
    refine gf_I C fk_LandSurvey_157 rfl e70 e71 dX11_fault_14 ?_
    refine g_iconst C dX11_fault_17 ?_
    refine g_icmp_ge C (iw f14 (by decide) (by decide)) (iw (il 4) (by decide) (by decide)) 34 (by decide) dX11_fault_18 (fun q72 => ?_) (fun q73 => ?_)
    · have f74 : (4 : Int) ≤ v12 ∧ v12 ≤ (4 : Int) := r_ge f14 (il 4) q72 (by decide) (by decide)
      refine g_iconst C dX11_fault_34 ?_
      have p75 := (XInv_fx O F60 ta0 rfl P_XInv)
      exact g_iret C hr rfl (iw (il (-1)) (by decide) (by decide)) ⟨O59, ((Fx.rf (wr := wr_k_X11_fault)).call F60 rfl), (iw (il (-1)) (by decide) (by decide)), p75⟩ (by decide) (by decide) dX11_fault_35
    · have f76 : (0 : Int) ≤ v12 ∧ v12 ≤ (3 : Int) := r_lt f14 (il 4) q73 (by decide) (by decide)
      refine g_iload C 5 rfl dX11_fault_21 ?_
      refine g_iconst C dX11_fault_23 ?_
      refine g_icmp_lt C fa4 (iw (il 1) (by decide) (by decide)) 34 (by decide) dX11_fault_24 (fun q77 => ?_) (fun q78 => ?_)
      · have f79 : (-2147483648 : Int) ≤ a4 ∧ a4 ≤ (0 : Int) := r_lt fa4 (il 1) q77 (by decide) (by decide)
        refine g_iconst C dX11_fault_34 ?_
        have p80 := (XInv_fx O F60 ta0 rfl P_XInv)
        exact g_iret C hr rfl (iw (il (-1)) (by decide) (by decide)) ⟨O59, ((Fx.rf (wr := wr_k_X11_fault)).call F60 rfl), (iw (il (-1)) (by decide) (by decide)), p80⟩ (by decide) (by decide) dX11_fault_35
      · have f81 : (1 : Int) ≤ a4 ∧ a4 ≤ (2147483647 : Int) := r_ge fa4 (il 1) q78 (by decide) (by decide)
        refine g_iload C 5 rfl dX11_fault_27 ?_
        refine g_bipush C (by decide) dX11_fault_29 ?_
        refine g_icmp_le C (iw f81 (by decide) (by decide)) (iw (il 12) (by decide) (by decide)) 36 (by decide) dX11_fault_31 (fun q82 => ?_) (fun q83 => ?_)
        · have f84 : (1 : Int) ≤ a4 ∧ a4 ≤ (12 : Int) := r_le f81 (il 12) q82 (by decide) (by decide)
          refine g_iload C 6 rfl dX11_fault_36 ?_
          refine g_sipush C (by decide) dX11_fault_38 ?_
          refine g_icmp_lt C fa5 (iw (il (-300)) (by decide) (by decide)) 72 (by decide) dX11_fault_41 (fun q85 => ?_) (fun q86 => ?_)
          · have f87 : (-2147483648 : Int) ≤ a5 ∧ a5 ≤ (-301 : Int) := r_lt fa5 (il (-300)) q85 (by decide) (by decide)
            refine g_iconst C dX11_fault_72 ?_
            have p88 := (XInv_fx O F60 ta0 rfl P_XInv)
            exact g_iret C hr rfl (iw (il (-1)) (by decide) (by decide)) ⟨O59, ((Fx.rf (wr := wr_k_X11_fault)).call F60 rfl), (iw (il (-1)) (by decide) (by decide)), p88⟩ (by decide) (by decide) dX11_fault_73
          · have f89 : (-300 : Int) ≤ a5 ∧ a5 ≤ (2147483647 : Int) := r_ge fa5 (il (-300)) q86 (by decide) (by decide)
            refine g_iload C 7 rfl dX11_fault_44 ?_
            refine g_sipush C (by decide) dX11_fault_46 ?_
            refine g_icmp_gt C fa6 (iw (il 300) (by decide) (by decide)) 72 (by decide) dX11_fault_49 (fun q90 => ?_) (fun q91 => ?_)
            · have f92 : (301 : Int) ≤ a6 ∧ a6 ≤ (2147483647 : Int) := r_gt fa6 (il 300) q90 (by decide) (by decide)
              refine g_iconst C dX11_fault_72 ?_
              have p93 := (XInv_fx O F60 ta0 rfl P_XInv)
              exact g_iret C hr rfl (iw (il (-1)) (by decide) (by decide)) ⟨O59, ((Fx.rf (wr := wr_k_X11_fault)).call F60 rfl), (iw (il (-1)) (by decide) (by decide)), p93⟩ (by decide) (by decide) dX11_fault_73
            · have f94 : (-2147483648 : Int) ≤ a6 ∧ a6 ≤ (300 : Int) := r_le fa6 (il 300) q91 (by decide) (by decide)
              refine g_iload C 6 rfl dX11_fault_52 ?_
              refine g_iload C 7 rfl dX11_fault_54 ?_
              refine g_icmp_gt C (iw f89 (by decide) (by decide)) (iw f94 (by decide) (by decide)) 72 (by decide) dX11_fault_56 (fun q95 => ?_) (fun q96 => ?_)
              · refine g_iconst C dX11_fault_72 ?_
                have p97 := (XInv_fx O F60 ta0 rfl P_XInv)
                exact g_iret C hr rfl (iw (il (-1)) (by decide) (by decide)) ⟨O59, ((Fx.rf (wr := wr_k_X11_fault)).call F60 rfl), (iw (il (-1)) (by decide) (by decide)), p97⟩ (by decide) (by decide) dX11_fault_73
              · have f98 : (-300 : Int) ≤ a5 ∧ a5 ≤ (300 : Int) := r_le f89 f94 q96 (by decide) (by decide)
                have f99 : (-300 : Int) ≤ a6 ∧ a6 ≤ (300 : Int) := r_ge f94 f89 q96 (by decide) (by decide)
                refine g_iload C 8 rfl dX11_fault_59 ?_
                refine g_iconst C dX11_fault_61 ?_
                refine g_icmp_lt C fa7 (iw (il 1) (by decide) (by decide)) 72 (by decide) dX11_fault_62 (fun q100 => ?_) (fun q101 => ?_)
                · have f102 : (-2147483648 : Int) ≤ a7 ∧ a7 ≤ (0 : Int) := r_lt fa7 (il 1) q100 (by decide) (by decide)
                  refine g_iconst C dX11_fault_72 ?_
                  have p103 := (XInv_fx O F60 ta0 rfl P_XInv)
                  exact g_iret C hr rfl (iw (il (-1)) (by decide) (by decide)) ⟨O59, ((Fx.rf (wr := wr_k_X11_fault)).call F60 rfl), (iw (il (-1)) (by decide) (by decide)), p103⟩ (by decide) (by decide) dX11_fault_73
                · have f104 : (1 : Int) ≤ a7 ∧ a7 ≤ (2147483647 : Int) := r_ge fa7 (il 1) q101 (by decide) (by decide)
                  refine g_iload C 8 rfl dX11_fault_65 ?_
                  refine g_bipush C (by decide) dX11_fault_67 ?_
                  refine g_icmp_le C (iw f104 (by decide) (by decide)) (iw (il 99) (by decide) (by decide)) 74 (by decide) dX11_fault_69 (fun q105 => ?_) (fun q106 => ?_)
                  · have f107 : (1 : Int) ≤ a7 ∧ a7 ≤ (99 : Int) := r_le f104 (il 99) q105 (by decide) (by decide)
                    refine g_iload_n C rfl 4 rfl dX11_fault_74 ?_
                    refine g_if_eq C (iw fa3 (by decide) (by decide)) 103 (by decide) dX11_fault_75 (fun q108 => ?_) (fun q109 => ?_)
                    · have f110 : (0 : Int) ≤ a3 ∧ a3 ≤ (0 : Int) := ii fa3 (r_eq (il 0) q108) (by decide) (by decide)
                      refine g_iload_n C rfl 3 rfl dX11_fault_103 ?_
                      refine g_iconst C dX11_fault_104 ?_
                      have f111 : (1 : Int) ≤ (a2 + 1) ∧ (a2 + 1) ≤ (8 : Int) := ia_add f69 (il 1) (by decide) (by decide)
                      refine g_iadd C dX11_fault_105 ?_
                      refine g_bipush C (by decide) dX11_fault_106 ?_
                      refine g_icmp_ge C (iw f111 (by decide) (by decide)) (iw (il 8) (by decide) (by decide)) 124 (by decide) dX11_fault_108 (fun q112 => ?_) (fun q113 => ?_)
                      · have f114 : (8 : Int) ≤ (a2 + 1) ∧ (a2 + 1) ≤ (8 : Int) := r_ge f111 (il 8) q112 (by decide) (by decide)
                        have f115 : (7 : Int) ≤ a2 ∧ a2 ≤ (7 : Int) := (ii f69 (sh_a (c := 1) (l := 7) (u := 7) f114 (by decide) (by decide)) (by decide) (by decide))
                        refine g_iconst C dX11_fault_124 ?_
                        refine g_istore C [(9, .inl 0), (8, .inl r55), (0, .inr (.inr a0)), (1, .inl a1), (2, .inl a2), (3, .inl a3), (4, .inl a4), (5, .inl a5), (6, .inl a6), (7, .inl a7)] (by decide) rfl dX11_fault_125 ?_
                        refine g_iload C 0 rfl dX11_fault_127 ?_
                        refine g_if_ne C (iw (il 0) (by decide) (by decide)) 134 (by decide) dX11_fault_129 (fun q116 => ?_) (fun q117 => ?_)
                        · exact (no_ne (il 0) (il 0) q116 (by decide)).elim
                        · refine g_iconst C dX11_fault_132 ?_
                          have p118 := (XInv_fx O F60 ta0 rfl P_XInv)
                          exact g_iret C hr rfl (iw (il (-1)) (by decide) (by decide)) ⟨O59, ((Fx.rf (wr := wr_k_X11_fault)).call F60 rfl), (iw (il (-1)) (by decide) (by decide)), p118⟩ (by decide) (by decide) dX11_fault_133
                      · have f119 : (1 : Int) ≤ (a2 + 1) ∧ (a2 + 1) ≤ (7 : Int) := r_lt f111 (il 8) q113 (by decide) (by decide)
                        have f120 : (0 : Int) ≤ a2 ∧ a2 ≤ (6 : Int) := (ii f69 (sh_a (c := 1) (l := 0) (u := 6) f119 (by decide) (by decide)) (by decide) (by decide))
                        refine g_iload_n C rfl 2 rfl dX11_fault_111 ?_
                        refine g_iload C 5 rfl dX11_fault_112 ?_
                        have f121 : (1 : Int) ≤ (a1 + a4) ∧ (a1 + a4) ≤ (23 : Int) := ia_add f68 f84 (by decide) (by decide)
                        refine g_iadd C dX11_fault_114 ?_
                        refine g_bipush C (by decide) dX11_fault_115 ?_
                        refine g_icmp_gt C (iw f121 (by decide) (by decide)) (iw (il 12) (by decide) (by decide)) 124 (by decide) dX11_fault_117 (fun q122 => ?_) (fun q123 => ?_)
                        · have f124 : (13 : Int) ≤ (a1 + a4) ∧ (a1 + a4) ≤ (23 : Int) := r_gt f121 (il 12) q122 (by decide) (by decide)
                          refine g_iconst C dX11_fault_124 ?_
                          refine g_istore C [(9, .inl 0), (8, .inl r55), (0, .inr (.inr a0)), (1, .inl a1), (2, .inl a2), (3, .inl a3), (4, .inl a4), (5, .inl a5), (6, .inl a6), (7, .inl a7)] (by decide) rfl dX11_fault_125 ?_
                          refine g_iload C 0 rfl dX11_fault_127 ?_
                          refine g_if_ne C (iw (il 0) (by decide) (by decide)) 134 (by decide) dX11_fault_129 (fun q125 => ?_) (fun q126 => ?_)
                          · exact (no_ne (il 0) (il 0) q125 (by decide)).elim
                          · refine g_iconst C dX11_fault_132 ?_
                            have p127 := (XInv_fx O F60 ta0 rfl P_XInv)
                            exact g_iret C hr rfl (iw (il (-1)) (by decide) (by decide)) ⟨O59, ((Fx.rf (wr := wr_k_X11_fault)).call F60 rfl), (iw (il (-1)) (by decide) (by decide)), p127⟩ (by decide) (by decide) dX11_fault_133
                        · have f128 : (1 : Int) ≤ (a1 + a4) ∧ (a1 + a4) ≤ (12 : Int) := r_le f121 (il 12) q123 (by decide) (by decide)
                          refine g_iconst C dX11_fault_120 ?_
                          refine g_goto C 125 (by decide) dX11_fault_121 ?_
                          refine g_istore C [(9, .inl 1), (8, .inl r55), (0, .inr (.inr a0)), (1, .inl a1), (2, .inl a2), (3, .inl a3), (4, .inl a4), (5, .inl a5), (6, .inl a6), (7, .inl a7)] (by decide) rfl dX11_fault_125 ?_
                          refine g_iload C 0 rfl dX11_fault_127 ?_
                          refine g_if_ne C (iw (il 1) (by decide) (by decide)) 134 (by decide) dX11_fault_129 (fun q129 => ?_) (fun q130 => ?_)
                          · refine g_aload_n C rfl 2 rfl dX11_fault_134 ?_
                            have e131 : Rv h56 a0 8 = v8 := ((fxR F60 ta0 rfl).trans e9)
                            refine gf_R C fk_LandSurvey_49 rfl e70 e131 dX11_fault_135 ?_
                            refine g_aload_n C rfl 2 rfl dX11_fault_138 ?_
                            refine gf_I C fk_LandSurvey_157 rfl e70 e71 dX11_fault_139 ?_
                            refine g_new C 1 rfl rfl rfl inX0 tyX0 tyX0_ok kw_392 kw_914 kw_163 (by decide +kernel) (by decide) (by decide) dX11_fault_142 (fun n132 z133 z134 h136 hh135 => ?_)
                            have O137 := O59.pN z133 z134 hh135 (by decide) nn_1
                            refine g_dup C rfl dX11_fault_145 ?_
                            refine g_iload C 1 rfl dX11_fault_146 ?_
                            refine g_iload_n C rfl 5 rfl dX11_fault_148 ?_
                            refine g_iload C 6 rfl dX11_fault_149 ?_
                            refine g_iload C 7 rfl dX11_fault_151 ?_
                            refine g_iload C 8 rfl dX11_fault_153 ?_
                            refine g_iload C 9 rfl dX11_fault_155 ?_
                            refine g_callV (st := [.inr (.inr n132), .inl v12, .inr (.inr v8)]) (gc_I C lk_LandSurvey_160 rfl (k_X0_init l D cy w z0 O137 (pN_T hh135) f67 (iw f110 (by decide) (by decide)) (iw f84 (by decide) (by decide)) f98 f99 (iw f107 (by decide) (by decide))) (tg_nz (pN_T hh135)) rfl ⟨by decide, by decide⟩ (Nat.le_of_ble_eq_true rfl) dX11_fault_157 ⟨(by decide), (by decide)⟩) (fun h139 K140 => ?_)
                            obtain ⟨O142, F143, p144, p145, p146, p147⟩ := K140
                            have e148 : Tg h139 n132 = 1 := (fxT F143 (pN_T hh135))
                            have F149 : Fx [] h56 h139 := fe_new z134 hh135 p144
                            have e150 : Tg h139 v8 = 39105 := (fxT F149 (fxT F60 t10))
                            have e151 : Tg h56 v8 = 39105 := (fxT F60 t10)
                            have e152 : Ln h139 v8 = 4 := ((fxL F149 e151).trans ((fxL F60 t10).trans l11))
                            refine g_aast (t := 5) C e150 rfl (by decide) rfl e148 rfl rfl e152 (ix f76 (by decide) (by decide)) dX11_fault_160 (fun h154 hh153 => ?_)
                            have O155 := O142.pR e150 hh153 (okR_o ((rE_arr ar_39105 _).trans rE_39105_0) e148)
                            have e156 : Iv h154 a0 9 = v12 := ((pRI hh153).trans ((fxI F149 e70 rfl).trans e71))
                            have p157 := (BOK_fx O59 F149 e151 rfl rfl rfl rfl (BOK_fx O F60 t10 rfl rfl rfl rfl p39))
                            have e158 : Tg h154 n132 = 1 := ((pRT hh153).trans e148)
                            have p159 : BOK h154 v8 (v12 + 1) := BOK_set p157 hh153 (by omega) (nz_of O155 e158) (by unfold BreakOk; rw [p145, p146, p147]; constructor <;> omega)
                            refine g_aload_n C rfl 2 rfl dX11_fault_161 ?_
                            refine g_iconst C dX11_fault_162 ?_
                            have e160 : Tg h154 a0 = 11 := ((pRT hh153).trans (fxT F149 e70))
                            refine gp_I C fk_LandSurvey_81 pk_LandSurvey_15 rfl e160 (iw (il 0) (by decide) (by decide)) (nar_z2 (iw (il 0) (by decide) (by decide))) dX11_fault_163 (fun h162 hh161 => ?_)
                            have O163 := O155.pI e160 hh161 rI_11_15 (iw (il 0) (by decide) (by decide)) nofun
                            refine g_aload_n C rfl 2 rfl dX11_fault_166 ?_
                            refine g_dup C rfl dX11_fault_167 ?_
                            have e164 : Tg h162 a0 = 11 := ((pIT hh161).trans e160)
                            have e165 : Iv h162 a0 9 = v12 := ((pI_j hh161 (by decide)).trans e156)
                            refine gf_I C fk_LandSurvey_157 rfl e164 e165 dX11_fault_168 ?_
                            refine g_dup_x1 C rfl rfl dX11_fault_171 ?_
                            refine g_iconst C dX11_fault_172 ?_
                            have f166 : (1 : Int) ≤ (v12 + 1) ∧ (v12 + 1) ≤ (4 : Int) := ia_add f76 (il 1) (by decide) (by decide)
                            refine g_iadd C dX11_fault_173 ?_
                            refine gp_I C fk_LandSurvey_157 pk_LandSurvey_9 rfl e164 (iw f166 (by decide) (by decide)) (nf_i _) dX11_fault_174 (fun h168 hh167 => ?_)
                            have O169 := O163.pI e164 hh167 rI_11_9 (iw f166 (by decide) (by decide)) nofun
                            have e170 : Tg h139 a0 = 11 := (fxT F149 e70)
                            have e171 : Rv h168 a0 3 = v1 := ((pIR hh167).trans ((pIR hh161).trans ((pR_n hh153 (ne_tag e170 e150 (by decide))).trans ((fxR F149 e70 rfl).trans ((fxR F60 ta0 rfl).trans e2)))))
                            have e172 : Iv h168 a0 4 = v5 := ((pI_j hh167 (by decide)).trans ((pI_j hh161 (by decide)).trans ((pRI hh153).trans ((fxI F149 e70 rfl).trans ((fxI F60 ta0 rfl).trans e6)))))
                            have e173 : Rv h168 a0 8 = v8 := ((pIR hh167).trans ((pIR hh161).trans ((pR_n hh153 (ne_tag e170 e150 (by decide))).trans ((fxR F149 e70 rfl).trans e131))))
                            have e174 : Rv h168 a0 11 = v15 := ((pIR hh167).trans ((pIR hh161).trans ((pR_n hh153 (ne_tag e170 e150 (by decide))).trans ((fxR F149 e70 rfl).trans ((fxR F60 ta0 rfl).trans e16)))))
                            have e175 : Iv h168 a0 12 = v19 := ((pI_j hh167 (by decide)).trans ((pI_j hh161 (by decide)).trans ((pRI hh153).trans ((fxI F149 e70 rfl).trans ((fxI F60 ta0 rfl).trans e20)))))
                            have e176 : Rv h168 a0 14 = v25 := ((pIR hh167).trans ((pIR hh161).trans ((pR_n hh153 (ne_tag e170 e150 (by decide))).trans ((fxR F149 e70 rfl).trans ((fxR F60 ta0 rfl).trans e26)))))
                            have e177 : Iv h168 a0 15 = 0 := ((pI_j hh167 (by decide)).trans (pI_e hh161))
                            have e178 : Rv h168 a0 13 = v29 := ((pIR hh167).trans ((pIR hh161).trans ((pR_n hh153 (ne_tag e170 e150 (by decide))).trans ((fxR F149 e70 rfl).trans ((fxR F60 ta0 rfl).trans e30)))))
                            have e179 : Rv h168 a0 6 = v32 := ((pIR hh167).trans ((pIR hh161).trans ((pR_n hh153 (ne_tag e170 e150 (by decide))).trans ((fxR F149 e70 rfl).trans ((fxR F60 ta0 rfl).trans e33)))))
                            have e180 : Rv h168 a0 7 = v35 := ((pIR hh167).trans ((pIR hh161).trans ((pR_n hh153 (ne_tag e170 e150 (by decide))).trans ((fxR F149 e70 rfl).trans ((fxR F60 ta0 rfl).trans e36)))))
                            have e181 : Tg h56 v29 = 7 := (fxT F60 t31)
                            have e182 : Tg h139 v29 = 7 := (fxT F149 e181)
                            have e183 : Rv h168 v29 1 = v1 := ((pIR hh167).trans ((pIR hh161).trans ((pR_n hh153 (ne_tag e182 e150 (by decide))).trans ((fxR F149 e181 rfl).trans ((fxR F60 t31 rfl).trans p42)))))
                            have e184 : Rv h168 v29 2 = v8 := ((pIR hh167).trans ((pIR hh161).trans ((pR_n hh153 (ne_tag e182 e150 (by decide))).trans ((fxR F149 e181 rfl).trans ((fxR F60 t31 rfl).trans p43)))))
                            have e185 : Tg h154 v29 = 7 := ((pRT hh153).trans e182)
                            have e186 : Tg h162 v29 = 7 := ((pIT hh161).trans e185)
                            have e187 : Iv h168 v29 3 = v49 := ((pI_n hh167 (ne_tag e186 e164 (by decide))).trans ((pI_n hh161 (ne_tag e185 e160 (by decide))).trans ((pRI hh153).trans ((fxI F149 e181 rfl).trans ((fxI F60 t31 rfl).trans e50)))))
                            have e188 : Iv h168 v29 4 = v52 := ((pI_n hh167 (ne_tag e186 e164 (by decide))).trans ((pI_n hh161 (ne_tag e185 e160 (by decide))).trans ((pRI hh153).trans ((fxI F149 e181 rfl).trans ((fxI F60 t31 rfl).trans e53)))))
                            have e189 : Tg h56 v1 = 38104 := (fxT F60 t3)
                            have e190 : Tg h139 v1 = 38104 := (fxT F149 e189)
                            have e191 : Tg h154 v1 = 38104 := ((pRT hh153).trans e190)
                            have e192 : Tg h162 v1 = 38104 := ((pIT hh161).trans e191)
                            have p193 := (SOK_fx O163 ((Fx.rf (wr := [2209]) (h := h162)).pI e164 hh167 rfl) e192 rfl rfl rfl (SOK_fx O155 ((Fx.rf (wr := [2215]) (h := h154)).pI e160 hh161 rfl) e191 rfl rfl rfl (SOK_fx O142 ((Fx.rf (wr := [7821000]) (h := h139)).pRa e150 ar_39105 hh153 rfl) e190 rfl rfl rfl (SOK_fx O59 F149 e189 rfl rfl rfl (SOK_fx O F60 t3 rfl rfl rfl p38)))))
                            have e194 : Tg h154 v8 = 39105 := ((pRT hh153).trans e150)
                            have e195 : Tg h162 v8 = 39105 := ((pIT hh161).trans e194)
                            have p196 := (BOK_fx O163 ((Fx.rf (wr := [2209]) (h := h162)).pI e164 hh167 rfl) e195 rfl rfl rfl rfl (BOK_fx O155 ((Fx.rf (wr := [2215]) (h := h154)).pI e160 hh161 rfl) e194 rfl rfl rfl rfl p159))
                            have e197 : Tg h56 v15 = 48106 := (fxT F60 t17)
                            have e198 : Tg h139 v15 = 48106 := (fxT F149 e197)
                            have e199 : Tg h154 v15 = 48106 := ((pRT hh153).trans e198)
                            have e200 : Tg h162 v15 = 48106 := ((pIT hh161).trans e199)
                            have p201 := (NN_fx ((Fx.rf (wr := [2209]) (h := h162)).pI e164 hh167 rfl) e200 ar_48106 rfl (NN_fx ((Fx.rf (wr := [2215]) (h := h154)).pI e160 hh161 rfl) e199 ar_48106 rfl (NN_fx ((Fx.rf (wr := [7821000]) (h := h139)).pRa e150 ar_39105 hh153 rfl) e198 ar_48106 rfl (NN_fx F149 e197 ar_48106 rfl (NN_fx F60 t17 ar_48106 rfl p40)))))
                            have e202 : Tg h56 v32 = 5 := (fxT F60 t34)
                            have e203 : Tg h139 v32 = 5 := (fxT F149 e202)
                            have e204 : Tg h154 v32 = 5 := ((pRT hh153).trans e203)
                            have e205 : Tg h162 v32 = 5 := ((pIT hh161).trans e204)
                            have p206 := (BkOk_fx O163 ((Fx.rf (wr := [2209]) (h := h162)).pI e164 hh167 rfl) e205 rfl rfl (BkOk_fx O155 ((Fx.rf (wr := [2215]) (h := h154)).pI e160 hh161 rfl) e204 rfl rfl (BkOk_fx O142 ((Fx.rf (wr := [7821000]) (h := h139)).pRa e150 ar_39105 hh153 rfl) e203 rfl rfl (BkOk_fx O59 F149 e202 rfl rfl (BkOk_fx O F60 t34 rfl rfl p46)))))
                            have e207 : Tg h56 v35 = 6 := (fxT F60 t37)
                            have e208 : Tg h139 v35 = 6 := (fxT F149 e207)
                            have e209 : Tg h154 v35 = 6 := ((pRT hh153).trans e208)
                            have e210 : Tg h162 v35 = 6 := ((pIT hh161).trans e209)
                            have p211 := (RulesOk_fx O163 ((Fx.rf (wr := [2209]) (h := h162)).pI e164 hh167 rfl) e210 rfl (RulesOk_fx O155 ((Fx.rf (wr := [2215]) (h := h154)).pI e160 hh161 rfl) e209 rfl (RulesOk_fx O142 ((Fx.rf (wr := [7821000]) (h := h139)).pRa e150 ar_39105 hh153 rfl) e208 rfl (RulesOk_fx O59 F149 e207 rfl (RulesOk_fx O F60 t37 rfl p47)))))
                            exact g_iret C hr rfl (iw f76 (by decide) (by decide)) ⟨O169, ((((((Fx.rf (wr := wr_k_X11_fault)).call F60 rfl).call F149 rfl).pRa e150 ar_39105 hh153 rfl).pI e160 hh161 rfl).pI e164 hh167 rfl), (iw f76 (by decide) (by decide)), (by unfold XInv; rw [e171, e172, e173, (pI_e hh167), e174, e175, e177, e176, e178, e179, e180, e183, e184, e187, e188]; exact ⟨p193, p196, p201, (fun z => absurd z (by decide)), rfl, rfl, (by omega), (by omega), p206, p211⟩)⟩ (by decide) (by decide) dX11_fault_177
                          · exact (no_eq (il 1) (il 0) q130 (by decide)).elim
                    · have f212 : (1 : Int) ≤ a3 ∧ a3 ≤ (1 : Int) := r_nl fa3 q109
                      refine g_iload_n C rfl 2 rfl dX11_fault_78 ?_
                      refine g_iconst C dX11_fault_79 ?_
                      have f213 : (1 : Int) ≤ (a1 + 1) ∧ (a1 + 1) ≤ (12 : Int) := ia_add f68 (il 1) (by decide) (by decide)
                      refine g_iadd C dX11_fault_80 ?_
                      refine g_bipush C (by decide) dX11_fault_81 ?_
                      refine g_icmp_ge C (iw f213 (by decide) (by decide)) (iw (il 12) (by decide) (by decide)) 99 (by decide) dX11_fault_83 (fun q214 => ?_) (fun q215 => ?_)
                      · have f216 : (12 : Int) ≤ (a1 + 1) ∧ (a1 + 1) ≤ (12 : Int) := r_ge f213 (il 12) q214 (by decide) (by decide)
                        have f217 : (11 : Int) ≤ a1 ∧ a1 ≤ (11 : Int) := (ii f68 (sh_a (c := 1) (l := 11) (u := 11) f216 (by decide) (by decide)) (by decide) (by decide))
                        refine g_iconst C dX11_fault_99 ?_
                        refine g_goto C 125 (by decide) dX11_fault_100 ?_
                        refine g_istore C [(9, .inl 0), (8, .inl r55), (0, .inr (.inr a0)), (1, .inl a1), (2, .inl a2), (3, .inl a3), (4, .inl a4), (5, .inl a5), (6, .inl a6), (7, .inl a7)] (by decide) rfl dX11_fault_125 ?_
                        refine g_iload C 0 rfl dX11_fault_127 ?_
                        refine g_if_ne C (iw (il 0) (by decide) (by decide)) 134 (by decide) dX11_fault_129 (fun q218 => ?_) (fun q219 => ?_)
                        · exact (no_ne (il 0) (il 0) q218 (by decide)).elim
                        · refine g_iconst C dX11_fault_132 ?_
                          have p220 := (XInv_fx O F60 ta0 rfl P_XInv)
                          exact g_iret C hr rfl (iw (il (-1)) (by decide) (by decide)) ⟨O59, ((Fx.rf (wr := wr_k_X11_fault)).call F60 rfl), (iw (il (-1)) (by decide) (by decide)), p220⟩ (by decide) (by decide) dX11_fault_133
                      · have f221 : (1 : Int) ≤ (a1 + 1) ∧ (a1 + 1) ≤ (11 : Int) := r_lt f213 (il 12) q215 (by decide) (by decide)
                        have f222 : (0 : Int) ≤ a1 ∧ a1 ≤ (10 : Int) := (ii f68 (sh_a (c := 1) (l := 0) (u := 10) f221 (by decide) (by decide)) (by decide) (by decide))
                        refine g_iload_n C rfl 3 rfl dX11_fault_86 ?_
                        refine g_iload C 5 rfl dX11_fault_87 ?_
                        have f223 : (1 : Int) ≤ (a2 + a4) ∧ (a2 + a4) ≤ (19 : Int) := ia_add f69 f84 (by decide) (by decide)
                        refine g_iadd C dX11_fault_89 ?_
                        refine g_bipush C (by decide) dX11_fault_90 ?_
                        refine g_icmp_gt C (iw f223 (by decide) (by decide)) (iw (il 8) (by decide) (by decide)) 99 (by decide) dX11_fault_92 (fun q224 => ?_) (fun q225 => ?_)
                        · have f226 : (9 : Int) ≤ (a2 + a4) ∧ (a2 + a4) ≤ (19 : Int) := r_gt f223 (il 8) q224 (by decide) (by decide)
                          refine g_iconst C dX11_fault_99 ?_
                          refine g_goto C 125 (by decide) dX11_fault_100 ?_
                          refine g_istore C [(9, .inl 0), (8, .inl r55), (0, .inr (.inr a0)), (1, .inl a1), (2, .inl a2), (3, .inl a3), (4, .inl a4), (5, .inl a5), (6, .inl a6), (7, .inl a7)] (by decide) rfl dX11_fault_125 ?_
                          refine g_iload C 0 rfl dX11_fault_127 ?_
                          refine g_if_ne C (iw (il 0) (by decide) (by decide)) 134 (by decide) dX11_fault_129 (fun q227 => ?_) (fun q228 => ?_)
                          · exact (no_ne (il 0) (il 0) q227 (by decide)).elim
                          · refine g_iconst C dX11_fault_132 ?_
                            have p229 := (XInv_fx O F60 ta0 rfl P_XInv)
                            exact g_iret C hr rfl (iw (il (-1)) (by decide) (by decide)) ⟨O59, ((Fx.rf (wr := wr_k_X11_fault)).call F60 rfl), (iw (il (-1)) (by decide) (by decide)), p229⟩ (by decide) (by decide) dX11_fault_133
                        · have f230 : (1 : Int) ≤ (a2 + a4) ∧ (a2 + a4) ≤ (8 : Int) := r_le f223 (il 8) q225 (by decide) (by decide)
                          refine g_iconst C dX11_fault_95 ?_
                          refine g_goto C 125 (by decide) dX11_fault_96 ?_
                          refine g_istore C [(9, .inl 1), (8, .inl r55), (0, .inr (.inr a0)), (1, .inl a1), (2, .inl a2), (3, .inl a3), (4, .inl a4), (5, .inl a5), (6, .inl a6), (7, .inl a7)] (by decide) rfl dX11_fault_125 ?_
                          refine g_iload C 0 rfl dX11_fault_127 ?_
                          refine g_if_ne C (iw (il 1) (by decide) (by decide)) 134 (by decide) dX11_fault_129 (fun q231 => ?_) (fun q232 => ?_)
                          · refine g_aload_n C rfl 2 rfl dX11_fault_134 ?_
                            have e233 : Rv h56 a0 8 = v8 := ((fxR F60 ta0 rfl).trans e9)
                            refine gf_R C fk_LandSurvey_49 rfl e70 e233 dX11_fault_135 ?_
                            refine g_aload_n C rfl 2 rfl dX11_fault_138 ?_
                            refine gf_I C fk_LandSurvey_157 rfl e70 e71 dX11_fault_139 ?_
                            refine g_new C 1 rfl rfl rfl inX0 tyX0 tyX0_ok kw_392 kw_914 kw_163 (by decide +kernel) (by decide) (by decide) dX11_fault_142 (fun n234 z235 z236 h238 hh237 => ?_)
                            have O239 := O59.pN z235 z236 hh237 (by decide) nn_1
                            refine g_dup C rfl dX11_fault_145 ?_
                            refine g_iload C 1 rfl dX11_fault_146 ?_
                            refine g_iload_n C rfl 5 rfl dX11_fault_148 ?_
                            refine g_iload C 6 rfl dX11_fault_149 ?_
                            refine g_iload C 7 rfl dX11_fault_151 ?_
                            refine g_iload C 8 rfl dX11_fault_153 ?_
                            refine g_iload C 9 rfl dX11_fault_155 ?_
                            refine g_callV (st := [.inr (.inr n234), .inl v12, .inr (.inr v8)]) (gc_I C lk_LandSurvey_160 rfl (k_X0_init l D cy w z0 O239 (pN_T hh237) f67 (iw f212 (by decide) (by decide)) (iw f84 (by decide) (by decide)) f98 f99 (iw f107 (by decide) (by decide))) (tg_nz (pN_T hh237)) rfl ⟨by decide, by decide⟩ (Nat.le_of_ble_eq_true rfl) dX11_fault_157 ⟨(by decide), (by decide)⟩) (fun h241 K242 => ?_)
                            obtain ⟨O244, F245, p246, p247, p248, p249⟩ := K242
                            have e250 : Tg h241 n234 = 1 := (fxT F245 (pN_T hh237))
                            have F251 : Fx [] h56 h241 := fe_new z236 hh237 p246
                            have e252 : Tg h241 v8 = 39105 := (fxT F251 (fxT F60 t10))
                            have e253 : Tg h56 v8 = 39105 := (fxT F60 t10)
                            have e254 : Ln h241 v8 = 4 := ((fxL F251 e253).trans ((fxL F60 t10).trans l11))
                            refine g_aast (t := 5) C e252 rfl (by decide) rfl e250 rfl rfl e254 (ix f76 (by decide) (by decide)) dX11_fault_160 (fun h256 hh255 => ?_)
                            have O257 := O244.pR e252 hh255 (okR_o ((rE_arr ar_39105 _).trans rE_39105_0) e250)
                            have e258 : Iv h256 a0 9 = v12 := ((pRI hh255).trans ((fxI F251 e70 rfl).trans e71))
                            have p259 := (BOK_fx O59 F251 e253 rfl rfl rfl rfl (BOK_fx O F60 t10 rfl rfl rfl rfl p39))
                            have e260 : Tg h256 n234 = 1 := ((pRT hh255).trans e250)
                            have p261 : BOK h256 v8 (v12 + 1) := BOK_set p259 hh255 (by omega) (nz_of O257 e260) (by unfold BreakOk; rw [p247, p248, p249]; constructor <;> omega)
                            refine g_aload_n C rfl 2 rfl dX11_fault_161 ?_
                            refine g_iconst C dX11_fault_162 ?_
                            have e262 : Tg h256 a0 = 11 := ((pRT hh255).trans (fxT F251 e70))
                            refine gp_I C fk_LandSurvey_81 pk_LandSurvey_15 rfl e262 (iw (il 0) (by decide) (by decide)) (nar_z2 (iw (il 0) (by decide) (by decide))) dX11_fault_163 (fun h264 hh263 => ?_)
                            have O265 := O257.pI e262 hh263 rI_11_15 (iw (il 0) (by decide) (by decide)) nofun
                            refine g_aload_n C rfl 2 rfl dX11_fault_166 ?_
                            refine g_dup C rfl dX11_fault_167 ?_
                            have e266 : Tg h264 a0 = 11 := ((pIT hh263).trans e262)
                            have e267 : Iv h264 a0 9 = v12 := ((pI_j hh263 (by decide)).trans e258)
                            refine gf_I C fk_LandSurvey_157 rfl e266 e267 dX11_fault_168 ?_
                            refine g_dup_x1 C rfl rfl dX11_fault_171 ?_
                            refine g_iconst C dX11_fault_172 ?_
                            have f268 : (1 : Int) ≤ (v12 + 1) ∧ (v12 + 1) ≤ (4 : Int) := ia_add f76 (il 1) (by decide) (by decide)
                            refine g_iadd C dX11_fault_173 ?_
                            refine gp_I C fk_LandSurvey_157 pk_LandSurvey_9 rfl e266 (iw f268 (by decide) (by decide)) (nf_i _) dX11_fault_174 (fun h270 hh269 => ?_)
                            have O271 := O265.pI e266 hh269 rI_11_9 (iw f268 (by decide) (by decide)) nofun
                            have e272 : Tg h241 a0 = 11 := (fxT F251 e70)
                            have e273 : Rv h270 a0 3 = v1 := ((pIR hh269).trans ((pIR hh263).trans ((pR_n hh255 (ne_tag e272 e252 (by decide))).trans ((fxR F251 e70 rfl).trans ((fxR F60 ta0 rfl).trans e2)))))
                            have e274 : Iv h270 a0 4 = v5 := ((pI_j hh269 (by decide)).trans ((pI_j hh263 (by decide)).trans ((pRI hh255).trans ((fxI F251 e70 rfl).trans ((fxI F60 ta0 rfl).trans e6)))))
                            have e275 : Rv h270 a0 8 = v8 := ((pIR hh269).trans ((pIR hh263).trans ((pR_n hh255 (ne_tag e272 e252 (by decide))).trans ((fxR F251 e70 rfl).trans e233))))
                            have e276 : Rv h270 a0 11 = v15 := ((pIR hh269).trans ((pIR hh263).trans ((pR_n hh255 (ne_tag e272 e252 (by decide))).trans ((fxR F251 e70 rfl).trans ((fxR F60 ta0 rfl).trans e16)))))
                            have e277 : Iv h270 a0 12 = v19 := ((pI_j hh269 (by decide)).trans ((pI_j hh263 (by decide)).trans ((pRI hh255).trans ((fxI F251 e70 rfl).trans ((fxI F60 ta0 rfl).trans e20)))))
                            have e278 : Rv h270 a0 14 = v25 := ((pIR hh269).trans ((pIR hh263).trans ((pR_n hh255 (ne_tag e272 e252 (by decide))).trans ((fxR F251 e70 rfl).trans ((fxR F60 ta0 rfl).trans e26)))))
                            have e279 : Iv h270 a0 15 = 0 := ((pI_j hh269 (by decide)).trans (pI_e hh263))
                            have e280 : Rv h270 a0 13 = v29 := ((pIR hh269).trans ((pIR hh263).trans ((pR_n hh255 (ne_tag e272 e252 (by decide))).trans ((fxR F251 e70 rfl).trans ((fxR F60 ta0 rfl).trans e30)))))
                            have e281 : Rv h270 a0 6 = v32 := ((pIR hh269).trans ((pIR hh263).trans ((pR_n hh255 (ne_tag e272 e252 (by decide))).trans ((fxR F251 e70 rfl).trans ((fxR F60 ta0 rfl).trans e33)))))
                            have e282 : Rv h270 a0 7 = v35 := ((pIR hh269).trans ((pIR hh263).trans ((pR_n hh255 (ne_tag e272 e252 (by decide))).trans ((fxR F251 e70 rfl).trans ((fxR F60 ta0 rfl).trans e36)))))
                            have e283 : Tg h56 v29 = 7 := (fxT F60 t31)
                            have e284 : Tg h241 v29 = 7 := (fxT F251 e283)
                            have e285 : Rv h270 v29 1 = v1 := ((pIR hh269).trans ((pIR hh263).trans ((pR_n hh255 (ne_tag e284 e252 (by decide))).trans ((fxR F251 e283 rfl).trans ((fxR F60 t31 rfl).trans p42)))))
                            have e286 : Rv h270 v29 2 = v8 := ((pIR hh269).trans ((pIR hh263).trans ((pR_n hh255 (ne_tag e284 e252 (by decide))).trans ((fxR F251 e283 rfl).trans ((fxR F60 t31 rfl).trans p43)))))
                            have e287 : Tg h256 v29 = 7 := ((pRT hh255).trans e284)
                            have e288 : Tg h264 v29 = 7 := ((pIT hh263).trans e287)
                            have e289 : Iv h270 v29 3 = v49 := ((pI_n hh269 (ne_tag e288 e266 (by decide))).trans ((pI_n hh263 (ne_tag e287 e262 (by decide))).trans ((pRI hh255).trans ((fxI F251 e283 rfl).trans ((fxI F60 t31 rfl).trans e50)))))
                            have e290 : Iv h270 v29 4 = v52 := ((pI_n hh269 (ne_tag e288 e266 (by decide))).trans ((pI_n hh263 (ne_tag e287 e262 (by decide))).trans ((pRI hh255).trans ((fxI F251 e283 rfl).trans ((fxI F60 t31 rfl).trans e53)))))
                            have e291 : Tg h56 v1 = 38104 := (fxT F60 t3)
                            have e292 : Tg h241 v1 = 38104 := (fxT F251 e291)
                            have e293 : Tg h256 v1 = 38104 := ((pRT hh255).trans e292)
                            have e294 : Tg h264 v1 = 38104 := ((pIT hh263).trans e293)
                            have p295 := (SOK_fx O265 ((Fx.rf (wr := [2209]) (h := h264)).pI e266 hh269 rfl) e294 rfl rfl rfl (SOK_fx O257 ((Fx.rf (wr := [2215]) (h := h256)).pI e262 hh263 rfl) e293 rfl rfl rfl (SOK_fx O244 ((Fx.rf (wr := [7821000]) (h := h241)).pRa e252 ar_39105 hh255 rfl) e292 rfl rfl rfl (SOK_fx O59 F251 e291 rfl rfl rfl (SOK_fx O F60 t3 rfl rfl rfl p38)))))
                            have e296 : Tg h256 v8 = 39105 := ((pRT hh255).trans e252)
                            have e297 : Tg h264 v8 = 39105 := ((pIT hh263).trans e296)
                            have p298 := (BOK_fx O265 ((Fx.rf (wr := [2209]) (h := h264)).pI e266 hh269 rfl) e297 rfl rfl rfl rfl (BOK_fx O257 ((Fx.rf (wr := [2215]) (h := h256)).pI e262 hh263 rfl) e296 rfl rfl rfl rfl p261))
                            have e299 : Tg h56 v15 = 48106 := (fxT F60 t17)
                            have e300 : Tg h241 v15 = 48106 := (fxT F251 e299)
                            have e301 : Tg h256 v15 = 48106 := ((pRT hh255).trans e300)
                            have e302 : Tg h264 v15 = 48106 := ((pIT hh263).trans e301)
                            have p303 := (NN_fx ((Fx.rf (wr := [2209]) (h := h264)).pI e266 hh269 rfl) e302 ar_48106 rfl (NN_fx ((Fx.rf (wr := [2215]) (h := h256)).pI e262 hh263 rfl) e301 ar_48106 rfl (NN_fx ((Fx.rf (wr := [7821000]) (h := h241)).pRa e252 ar_39105 hh255 rfl) e300 ar_48106 rfl (NN_fx F251 e299 ar_48106 rfl (NN_fx F60 t17 ar_48106 rfl p40)))))
                            have e304 : Tg h56 v32 = 5 := (fxT F60 t34)
                            have e305 : Tg h241 v32 = 5 := (fxT F251 e304)
                            have e306 : Tg h256 v32 = 5 := ((pRT hh255).trans e305)
                            have e307 : Tg h264 v32 = 5 := ((pIT hh263).trans e306)
                            have p308 := (BkOk_fx O265 ((Fx.rf (wr := [2209]) (h := h264)).pI e266 hh269 rfl) e307 rfl rfl (BkOk_fx O257 ((Fx.rf (wr := [2215]) (h := h256)).pI e262 hh263 rfl) e306 rfl rfl (BkOk_fx O244 ((Fx.rf (wr := [7821000]) (h := h241)).pRa e252 ar_39105 hh255 rfl) e305 rfl rfl (BkOk_fx O59 F251 e304 rfl rfl (BkOk_fx O F60 t34 rfl rfl p46)))))
                            have e309 : Tg h56 v35 = 6 := (fxT F60 t37)
                            have e310 : Tg h241 v35 = 6 := (fxT F251 e309)
                            have e311 : Tg h256 v35 = 6 := ((pRT hh255).trans e310)
                            have e312 : Tg h264 v35 = 6 := ((pIT hh263).trans e311)
                            have p313 := (RulesOk_fx O265 ((Fx.rf (wr := [2209]) (h := h264)).pI e266 hh269 rfl) e312 rfl (RulesOk_fx O257 ((Fx.rf (wr := [2215]) (h := h256)).pI e262 hh263 rfl) e311 rfl (RulesOk_fx O244 ((Fx.rf (wr := [7821000]) (h := h241)).pRa e252 ar_39105 hh255 rfl) e310 rfl (RulesOk_fx O59 F251 e309 rfl (RulesOk_fx O F60 t37 rfl p47)))))
                            exact g_iret C hr rfl (iw f76 (by decide) (by decide)) ⟨O271, ((((((Fx.rf (wr := wr_k_X11_fault)).call F60 rfl).call F251 rfl).pRa e252 ar_39105 hh255 rfl).pI e262 hh263 rfl).pI e266 hh269 rfl), (iw f76 (by decide) (by decide)), (by unfold XInv; rw [e273, e274, e275, (pI_e hh269), e276, e277, e279, e278, e280, e281, e282, e285, e286, e289, e290]; exact ⟨p295, p298, p303, (fun z => absurd z (by decide)), rfl, rfl, (by omega), (by omega), p308, p313⟩)⟩ (by decide) (by decide) dX11_fault_177
                          · exact (no_eq (il 1) (il 0) q232 (by decide)).elim
                  · have f314 : (100 : Int) ≤ a7 ∧ a7 ≤ (2147483647 : Int) := r_gt f104 (il 99) q106 (by decide) (by decide)
                    refine g_iconst C dX11_fault_72 ?_
                    have p315 := (XInv_fx O F60 ta0 rfl P_XInv)
                    exact g_iret C hr rfl (iw (il (-1)) (by decide) (by decide)) ⟨O59, ((Fx.rf (wr := wr_k_X11_fault)).call F60 rfl), (iw (il (-1)) (by decide) (by decide)), p315⟩ (by decide) (by decide) dX11_fault_73
        · have f316 : (13 : Int) ≤ a4 ∧ a4 ≤ (2147483647 : Int) := r_gt f81 (il 12) q83 (by decide) (by decide)
          refine g_iconst C dX11_fault_34 ?_
          have p317 := (XInv_fx O F60 ta0 rfl P_XInv)
          exact g_iret C hr rfl (iw (il (-1)) (by decide) (by decide)) ⟨O59, ((Fx.rf (wr := wr_k_X11_fault)).call F60 rfl), (iw (il (-1)) (by decide) (by decide)), p317⟩ (by decide) (by decide) dX11_fault_35
def wr_k_X7_init : List Nat := [201600, 2420000, 3020000, 5620000, 8020000, 8620000, 8820000, 9020000, 9420000, 10020000]
set_option maxRecDepth 100000 in
set_option maxHeartbeats 4000000 in
theorem k_X7_init (l : Launch) (D : va_G) (cy : Nat → ClassId) (w : Nat → Nat) (z0 : Nat) {h : Hp} {a0 : Nat}  (O : Okh h) (ta0 : Tg h a0 = 1008) : MV l D cy w z0 yX7_init cX7_init 1 none 1 24 1 96 [.inr (.inr a0)] h (fun h1 => Okh h1 ∧ Fx wr_k_X7_init h h1 ∧ (¬ Rv h1 a0 0 = 0)) := by
  refine hm_go (by decide +kernel) (Nat.le_of_ble_eq_true rfl) (fun p e s m below meth c C hr hn => ?_)
  refine g_aload_n C rfl 0 rfl dX7_init_0 ?_
  refine g_oinit C (tg_nz ta0) kw_1268 kw_178 (by decide) (Nat.le_of_ble_eq_true rfl) dX7_init_1 ?_
  refine g_aload_n C rfl 0 rfl dX7_init_4 ?_
  refine g_bipush C (by decide) dX7_init_5 ?_
  refine g_newa (atype := .int) (t := 0) (ty := .int) (N := 96) C 44100 rfl (iw (il 96) (by decide) (by decide)) (by decide) rfl kw_224 rfl (fun _ => rfl) (by decide) (by decide) (by decide) (by decide) dX7_init_7 (fun n1 z2 z3 h5 hh4 => ?_)
  have O6 := O.pN z2 z3 hh4 (by decide) nn_44100
  have e7 : Tg h5 a0 = 1008 := ((pNT hh4 (pN_n hh4 z3 ta0)).trans ta0)
  refine gp_RF C fk_LandSurvey_Sheet_9 pk_LandSurvey_Sheet_0 rfl e7 hn rfl (nf_a _ _) dX7_init_9 (fun h9 hh8 => ?_)
  have O10 := O6.pR e7 hh8 (okR_l rE_1008_0 (pN_T hh4) (pN_L hh4))
  refine g_aload_n C rfl 0 rfl dX7_init_12 ?_
  have e11 : Tg h9 a0 = 1008 := ((pRT hh8).trans e7)
  refine gf_R C fk_LandSurvey_Sheet_9 rfl e11 (pR_e hh8) dX7_init_13 ?_
  refine g_iconst C dX7_init_16 ?_
  have e12 : Tg h9 n1 = 44100 := ((pRT hh8).trans (pN_T hh4))
  have e13 : Ln h9 n1 = 96 := ((pRL hh8).trans (pN_L hh4))
  refine g_callV (st := []) (gc_S C lk_LandSurvey_Sheet_15 (k_fill_44100 l D cy w z0 O10 e12 e13 (iw (il (-1)) (by decide) (by decide))) rfl ⟨by decide, by decide⟩ (Nat.le_of_ble_eq_true rfl) dX7_init_17 ⟨(by decide), (by decide)⟩) (fun h15 K16 => ?_)
  obtain ⟨O18, F19⟩ := K16
  have e20 : Rv h15 a0 0 = n1 := ((fxR F19 e11 rfl).trans (pR_e hh8))
  have e21 : Tg h15 n1 = 44100 := (fxT F19 e12)
  exact g_vret C hr ⟨O18, ((((Fx.rf (wr := wr_k_X7_init)).pN z3 hh4).pR e7 hh8 rfl).call F19 rfl), (by rw [e20]; exact nz_of O18 e21)⟩ (by decide) (by decide) dX7_init_20
def wr_k_X11_sheet : List Nat := [401, 402, 403, 404, 405, 406, 1403, 1404, 1405, 1412, 1813, 1814, 1815, 1816, 1817, 1818, 2003, 2207, 2212, 2215, 2216, 2217, 200400, 200407, 200408, 201600, 2020000, 2220000, 2420000, 3020000, 5620000, 7420000, 8020000, 8220400, 8420400, 8620000, 8820000, 9020000, 9220400, 9420000, 9621200, 9821400, 10020000]
set_option maxRecDepth 100000 in
set_option maxHeartbeats 4000000 in
theorem k_X11_sheet (l : Launch) (D : va_G) (cy : Nat → ClassId) (w : Nat → Nat) (z0 : Nat) {h : Hp} {a0 : Nat} {a1 : Int} {a2 : Int} {a3 : Int} {a4 : Int}  (O : Okh h) (ta0 : Tg h a0 = 11) (fa1 : (-2147483648) ≤ a1 ∧ a1 ≤ 2147483647) (fa2 : (-2147483648) ≤ a2 ∧ a2 ≤ 2147483647) (fa3 : (-2147483648) ≤ a3 ∧ a3 ≤ 2147483647) (fa4 : (-2147483648) ≤ a4 ∧ a4 ≤ 2147483647) (P_XInv : XInv h a0) : MI l D cy w z0 yX11_sheet cX11_sheet 11 (some .int) 11 300 50 3313 [.inr (.inr a0), .inl a1, .inl a2, .inl a3, .inl a4] h (fun v h1 => Okh h1 ∧ Fx wr_k_X11_sheet h h1 ∧ ((-1) ≤ v ∧ v ≤ 9) ∧ (XInv h1 a0)) := by
  obtain ⟨v1, e2⟩ : ∃ z, Rv h a0 3 = z := ⟨_, rfl⟩
  have t3 := ok_R O ta0 rE_11_3 e2
  have l4 := ok_L O ta0 rE_11_3 e2
  obtain ⟨v5, e6⟩ : ∃ z, Iv h a0 4 = z := ⟨_, rfl⟩
  have f7 := ok_I O ta0 rI_11_4 e6
  obtain ⟨v8, e9⟩ : ∃ z, Rv h a0 8 = z := ⟨_, rfl⟩
  have t10 := ok_R O ta0 rE_11_8 e9
  have l11 := ok_L O ta0 rE_11_8 e9
  obtain ⟨v12, e13⟩ : ∃ z, Iv h a0 9 = z := ⟨_, rfl⟩
  have f14 := ok_I O ta0 rI_11_9 e13
  obtain ⟨v15, e16⟩ : ∃ z, Rv h a0 11 = z := ⟨_, rfl⟩
  have t17 := ok_R O ta0 rE_11_11 e16
  have l18 := ok_L O ta0 rE_11_11 e16
  obtain ⟨v19, e20⟩ : ∃ z, Iv h a0 12 = z := ⟨_, rfl⟩
  have f21 := ok_I O ta0 rI_11_12 e20
  obtain ⟨v22, e23⟩ : ∃ z, Iv h a0 15 = z := ⟨_, rfl⟩
  have f24 := ok_I O ta0 rI_11_15 e23
  obtain ⟨v25, e26⟩ : ∃ z, Rv h a0 14 = z := ⟨_, rfl⟩
  have t27 := ok_R O ta0 rE_11_14 e26
  have l28 := ok_L O ta0 rE_11_14 e26
  obtain ⟨v29, e30⟩ : ∃ z, Rv h a0 13 = z := ⟨_, rfl⟩
  have t31 := ok_R O ta0 rE_11_13 e30
  obtain ⟨v32, e33⟩ : ∃ z, Rv h a0 6 = z := ⟨_, rfl⟩
  have t34 := ok_R O ta0 rE_11_6 e33
  obtain ⟨v35, e36⟩ : ∃ z, Rv h a0 7 = z := ⟨_, rfl⟩
  have t37 := ok_R O ta0 rE_11_7 e36
  have p48 := P_XInv
  unfold XInv at p48
  rw [e2, e6, e9, e13, e16, e20, e23, e26, e30, e33, e36] at p48
  obtain ⟨p38, p39, p40, p41, p42, p43, p44, p45, p46, p47⟩ := p48
  obtain ⟨v49, e50⟩ : ∃ z, Iv h v29 3 = z := ⟨_, rfl⟩
  have f51 := ok_I O t31 rI_7_3 e50
  obtain ⟨v52, e53⟩ : ∃ z, Iv h v29 4 = z := ⟨_, rfl⟩
  have f54 := ok_I O t31 rI_7_4 e53
  rw [e50] at p44
  rw [e53] at p45
  refine hm_go (by decide +kernel) (Nat.le_of_ble_eq_true rfl) (fun p e s m below meth c C hr hn => ?_)
  refine g_iload_n C rfl 1 rfl dX11_sheet_0 ?_
  refine g_iload_n C rfl 2 rfl dX11_sheet_1 ?_
  refine g_callI (st := []) (gc_S C lk_LandSurvey_85 (k_X11_cellAt l D cy w z0 O fa1 fa2) rfl ⟨by decide, by decide⟩ (Nat.le_of_ble_eq_true rfl) dX11_sheet_2 ⟨(by decide), (by decide)⟩) (fun r55 h56 f58 K57 => ?_)
  obtain ⟨O59, F60, f61, p62⟩ := K57
  refine g_istore C [(5, .inl r55), (0, .inr (.inr a0)), (1, .inl a1), (2, .inl a2), (3, .inl a3), (4, .inl a4)] (by decide) rfl dX11_sheet_5 ?_
  refine g_iload_n C rfl 4 rfl dX11_sheet_7 ?_
  refine g_iload C 5 rfl dX11_sheet_8 ?_
  refine g_callI (st := []) (gc_S C lk_LandSurvey_85 (k_X11_cellAt l D cy w z0 O59 fa3 fa4) rfl ⟨by decide, by decide⟩ (Nat.le_of_ble_eq_true rfl) dX11_sheet_10 ⟨(by decide), (by decide)⟩) (fun r63 h64 f66 K65 => ?_)
  obtain ⟨O67, F68, f69, p70⟩ := K65
  refine g_istore C [(6, .inl r63), (5, .inl r55), (0, .inr (.inr a0)), (1, .inl a1), (2, .inl a2), (3, .inl a3), (4, .inl a4)] (by decide) rfl dX11_sheet_13 ?_
  refine g_iload C 1 rfl dX11_sheet_15 ?_
  refine g_iconst C dX11_sheet_17 ?_
  refine g_icmp_eq C (iw f61 (by decide) (by decide)) (iw (il (-1)) (by decide) (by decide)) 38 (by decide) dX11_sheet_18 (fun q71 => ?_) (fun q72 => ?_)
  · have f73 : (-1 : Int) ≤ r55 ∧ r55 ≤ (-1 : Int) := ii f61 (r_eq (il (-1)) q71) (by decide) (by decide)
    refine g_iconst C dX11_sheet_38 ?_
    have e74 : Tg h56 a0 = 11 := (fxT F60 ta0)
    have p75 := (XInv_fx O59 F68 e74 rfl (XInv_fx O F60 ta0 rfl P_XInv))
    exact g_iret C hr rfl (iw (il (-1)) (by decide) (by decide)) ⟨O67, (((Fx.rf (wr := wr_k_X11_sheet)).call F60 rfl).call F68 rfl), (iw (il (-1)) (by decide) (by decide)), p75⟩ (by decide) (by decide) dX11_sheet_39
  · have f76 : (0 : Int) ≤ r55 ∧ r55 ≤ (95 : Int) := r_nl f61 q72
    refine g_iload C 0 rfl dX11_sheet_21 ?_
    refine g_iconst C dX11_sheet_23 ?_
    refine g_icmp_eq C (iw f69 (by decide) (by decide)) (iw (il (-1)) (by decide) (by decide)) 38 (by decide) dX11_sheet_24 (fun q77 => ?_) (fun q78 => ?_)
    · have f79 : (-1 : Int) ≤ r63 ∧ r63 ≤ (-1 : Int) := ii f69 (r_eq (il (-1)) q77) (by decide) (by decide)
      refine g_iconst C dX11_sheet_38 ?_
      have e80 : Tg h56 a0 = 11 := (fxT F60 ta0)
      have p81 := (XInv_fx O59 F68 e80 rfl (XInv_fx O F60 ta0 rfl P_XInv))
      exact g_iret C hr rfl (iw (il (-1)) (by decide) (by decide)) ⟨O67, (((Fx.rf (wr := wr_k_X11_sheet)).call F60 rfl).call F68 rfl), (iw (il (-1)) (by decide) (by decide)), p81⟩ (by decide) (by decide) dX11_sheet_39
    · have f82 : (0 : Int) ≤ r63 ∧ r63 ≤ (95 : Int) := r_nl f69 q78
      refine g_iload_n C rfl 3 rfl dX11_sheet_27 ?_
      refine g_iload_n C rfl 5 rfl dX11_sheet_28 ?_
      refine g_icmp_gt C fa1 fa3 38 (by decide) dX11_sheet_29 (fun q83 => ?_) (fun q84 => ?_)
      · have f85 : (-2147483648 : Int) ≤ a3 ∧ a3 ≤ (2147483646 : Int) := r_lt fa3 fa1 q83 (by decide) (by decide)
        have f86 : (-2147483647 : Int) ≤ a1 ∧ a1 ≤ (2147483647 : Int) := r_gt fa1 fa3 q83 (by decide) (by decide)
        refine g_iconst C dX11_sheet_38 ?_
        have e87 : Tg h56 a0 = 11 := (fxT F60 ta0)
        have p88 := (XInv_fx O59 F68 e87 rfl (XInv_fx O F60 ta0 rfl P_XInv))
        exact g_iret C hr rfl (iw (il (-1)) (by decide) (by decide)) ⟨O67, (((Fx.rf (wr := wr_k_X11_sheet)).call F60 rfl).call F68 rfl), (iw (il (-1)) (by decide) (by decide)), p88⟩ (by decide) (by decide) dX11_sheet_39
      · refine g_iload_n C rfl 4 rfl dX11_sheet_32 ?_
        refine g_iload C 6 rfl dX11_sheet_33 ?_
        refine g_icmp_le C fa2 fa4 40 (by decide) dX11_sheet_35 (fun q89 => ?_) (fun q90 => ?_)
        · refine g_aload_n C rfl 2 rfl dX11_sheet_40 ?_
          have e91 : Tg h64 a0 = 11 := (fxT F68 (fxT F60 ta0))
          have e92 : Tg h56 a0 = 11 := (fxT F60 ta0)
          have e93 : Iv h64 a0 12 = v19 := ((fxI F68 e92 rfl).trans ((fxI F60 ta0 rfl).trans e20))
          refine gf_I C fk_LandSurvey_305 rfl e91 e93 dX11_sheet_41 ?_
          refine g_bipush C (by decide) dX11_sheet_44 ?_
          refine g_icmp_ge C (iw f21 (by decide) (by decide)) (iw (il 10) (by decide) (by decide)) 56 (by decide) dX11_sheet_46 (fun q94 => ?_) (fun q95 => ?_)
          · have f96 : (10 : Int) ≤ v19 ∧ v19 ≤ (10 : Int) := r_ge f21 (il 10) q94 (by decide) (by decide)
            refine g_iconst C dX11_sheet_56 ?_
            have p97 := (XInv_fx O59 F68 e92 rfl (XInv_fx O F60 ta0 rfl P_XInv))
            exact g_iret C hr rfl (iw (il (-1)) (by decide) (by decide)) ⟨O67, (((Fx.rf (wr := wr_k_X11_sheet)).call F60 rfl).call F68 rfl), (iw (il (-1)) (by decide) (by decide)), p97⟩ (by decide) (by decide) dX11_sheet_57
          · have f98 : (0 : Int) ≤ v19 ∧ v19 ≤ (9 : Int) := r_lt f21 (il 10) q95 (by decide) (by decide)
            refine g_aload_n C rfl 2 rfl dX11_sheet_49 ?_
            have p99 := (XInv_fx O59 F68 e92 rfl (XInv_fx O F60 ta0 rfl P_XInv))
            refine g_callI (st := []) (gc_V C lk_LandSurvey_253 (k_X11_prepare l D cy w z0 O67 e91 p99) e91 rfl rfl rfl ⟨by decide, by decide⟩ (Nat.le_of_ble_eq_true rfl) dX11_sheet_50 ⟨(by decide), (by decide)⟩) (fun r100 h101 f103 K102 => ?_)
            obtain ⟨O104, F105, f106, p107, p108, p109⟩ := K102
            obtain ⟨v110, e111⟩ : ∃ z, Rv h101 a0 17 = z := ⟨_, rfl⟩
            have e112 : Tg h101 a0 = 11 := (fxT F105 e91)
            rw [e111] at p109
            have e113 : Rv h101 a0 3 = v1 := ((fxR F105 e91 rfl).trans ((fxR F68 e92 rfl).trans ((fxR F60 ta0 rfl).trans e2)))
            have e114 : Iv h101 a0 4 = v5 := ((fxI F105 e91 rfl).trans ((fxI F68 e92 rfl).trans ((fxI F60 ta0 rfl).trans e6)))
            have e115 : Rv h101 a0 8 = v8 := ((fxR F105 e91 rfl).trans ((fxR F68 e92 rfl).trans ((fxR F60 ta0 rfl).trans e9)))
            have e116 : Iv h101 a0 9 = v12 := ((fxI F105 e91 rfl).trans ((fxI F68 e92 rfl).trans ((fxI F60 ta0 rfl).trans e13)))
            have e117 : Rv h101 a0 11 = v15 := ((fxR F105 e91 rfl).trans ((fxR F68 e92 rfl).trans ((fxR F60 ta0 rfl).trans e16)))
            have e118 : Iv h101 a0 12 = v19 := ((fxI F105 e91 rfl).trans e93)
            have e119 : Rv h101 a0 14 = v25 := ((fxR F105 e91 rfl).trans ((fxR F68 e92 rfl).trans ((fxR F60 ta0 rfl).trans e26)))
            have e120 : Rv h101 a0 13 = v29 := ((fxR F105 e91 rfl).trans ((fxR F68 e92 rfl).trans ((fxR F60 ta0 rfl).trans e30)))
            have e121 : Rv h101 a0 6 = v32 := ((fxR F105 e91 rfl).trans ((fxR F68 e92 rfl).trans ((fxR F60 ta0 rfl).trans e33)))
            obtain ⟨v122, e123⟩ : ∃ z, Rv h101 a0 7 = z := ⟨_, rfl⟩
            have t124 := ok_R O104 e112 rE_11_7 e123
            have p135 := p107
            unfold XInv at p135
            rw [e113, e114, e115, e116, e117, e118, p108, e119, e120, e121, e123] at p135
            obtain ⟨p125, p126, p127, p128, p129, p130, p131, p132, p133, p134⟩ := p135
            have e136 : Tg h56 v29 = 7 := (fxT F60 t31)
            have e137 : Tg h64 v29 = 7 := (fxT F68 e136)
            obtain ⟨v138, e139⟩ : ∃ z, Iv h101 v29 3 = z := ⟨_, rfl⟩
            have e140 : Tg h101 v29 = 7 := (fxT F105 e137)
            have f141 := ok_I O104 e140 rI_7_3 e139
            obtain ⟨v142, e143⟩ : ∃ z, Iv h101 v29 4 = z := ⟨_, rfl⟩
            have f144 := ok_I O104 e140 rI_7_4 e143
            rw [e139] at p131
            rw [e143] at p132
            have p145 := p128 (by omega)
            refine g_if_ne C (iw f106 (by decide) (by decide)) 58 (by decide) dX11_sheet_53 (fun q146 => ?_) (fun q147 => ?_)
            · have f148 : (1 : Int) ≤ r100 ∧ r100 ≤ (1 : Int) := r_nl f106 q146
              have f149 : (0 : Int) ≤ a1 ∧ a1 ≤ (11 : Int) := by omega
              have f150 : (0 : Int) ≤ a2 ∧ a2 ≤ (7 : Int) := by omega
              have f151 : (0 : Int) ≤ a3 ∧ a3 ≤ (11 : Int) := by omega
              have f152 : (0 : Int) ≤ a4 ∧ a4 ≤ (7 : Int) := by omega
              refine g_new C 1008 rfl rfl rfl inX7 tyX7 tyX7_ok kw_394 kw_1264 kw_171 (by decide +kernel) (by decide) (by decide) dX11_sheet_58 (fun n153 z154 z155 h157 hh156 => ?_)
              have O158 := O104.pN z154 z155 hh156 (by decide) nn_1008
              refine g_dup C rfl dX11_sheet_61 ?_
              refine g_callV (st := [.inr (.inr n153)]) (gc_I C lk_LandSurvey_308 rfl (k_X7_init l D cy w z0 O158 (pN_T hh156)) (tg_nz (pN_T hh156)) rfl ⟨by decide, by decide⟩ (Nat.le_of_ble_eq_true rfl) dX11_sheet_62 ⟨(by decide), (by decide)⟩) (fun h160 K161 => ?_)
              obtain ⟨O163, F164, p165⟩ := K161
              have e166 : Tg h160 n153 = 1008 := (fxT F164 (pN_T hh156))
              refine g_rt (T0 := 1007) (T1 := 7) e166 rfl (fun h168 hh167 => ?_)
              have O169 := O163.rt1 (T0 := 8) (T1 := 1007) e166 hh167 nu_1008 tbI_8_1008 tbE_8_1008 (fun j hj => by
                  have z := List.elem_iff.mp (tbN_8 j hj)
                  simp only [List.mem_cons, List.not_mem_nil, or_false] at z
                  rcases z with rfl
                  · exact p165)
              have e170 : Ln h168 n153 = 0 := ((pTL hh167).trans ((fxL F164 (pN_T hh156)).trans (pN_L hh156)))
              have F171 : Fx [201600, 2420000, 3020000, 5620000, 8020000, 8620000, 8820000, 9020000, 9420000, 10020000] h101 h168 := ((((Fx.rf (wr := [201600, 2420000, 3020000, 5620000, 8020000, 8620000, 8820000, 9020000, 9420000, 10020000]) (h := h101)).pN z155 hh156).call F164 rfl).pT (nt_of (Fx.rf (wr := [201600, 2420000, 3020000, 5620000, 8020000, 8620000, 8820000, 9020000, 9420000, 10020000]) (h := h101)) z155) hh167)
              refine g_astore C [(7, .inr (.inr n153)), (6, .inl r63), (5, .inl r55), (0, .inr (.inr a0)), (1, .inl a1), (2, .inl a2), (3, .inl a3), (4, .inl a4)] (by decide) rfl dX11_sheet_65 ?_
              refine g_iload_n C rfl 5 rfl dX11_sheet_67 ?_
              refine g_istore C [(8, .inl a2), (7, .inr (.inr n153)), (6, .inl r63), (5, .inl r55), (0, .inr (.inr a0)), (1, .inl a1), (2, .inl a2), (3, .inl a3), (4, .inl a4)] (by decide) rfl dX11_sheet_68 ?_
              refine GW.sub [4, 5, 6, 7, 8, 3, 2, 1, 0] rfl ?_
              -- loop at 70
              have L174 : ∀ (μ : Nat) (x172 : Int) (h173 : Hp), (8 - x172).toNat = μ → Okh h173 → Fx [8820000] h168 h173 → ((0 : Int) ≤ x172 ∧ x172 ≤ (8 : Int)) → GW p l e (rmm 11 300 50 3313) s m (List.map toV [.inr (.inr a0), .inl a1, .inl a2, .inl a3, .inl a4]).toArray below meth c D cy z0 11 (MQ below (QI D cy z0 (fun v h1 => Okh h1 ∧ Fx wr_k_X11_sheet h h1 ∧ ((-1) ≤ v ∧ v ≤ 9) ∧ (XInv h1 a0))) (List.map toV [.inr (.inr a0), .inl a1, .inl a2, .inl a3, .inl a4]).toArray s 50 3313 (Aof z0)) 70 [(0, .inr (.inr a0)), (1, .inl a1), (2, .inl a2), (3, .inl a3), (4, .inl a4), (5, .inl r55), (6, .inl r63), (7, .inr (.inr n153)), (8, .inl x172)] [] h173 50 3313 := by
                intro μ
                induction μ using Nat.strongRecOn with
                | ind μ ih175 =>
                  intro x172 h173 hm176 O177 F178 f179
                  refine g_iload C 8 rfl dX11_sheet_70 ?_
                  refine g_iload C 4 rfl dX11_sheet_72 ?_
                  refine g_icmp_gt C (iw f179 (by decide) (by decide)) (iw f152 (by decide) (by decide)) 123 (by decide) dX11_sheet_74 (fun q180 => ?_) (fun q181 => ?_)
                  · have f182 : (1 : Int) ≤ x172 ∧ x172 ≤ (8 : Int) := r_gt f179 f152 q180 (by decide) (by decide)
                    refine g_aload_n C rfl 0 rfl dX11_sheet_123 ?_
                    have e183 : Tg h173 a0 = 11 := (fxT F178 (fxT F171 e112))
                    have e184 : Tg h168 a0 = 11 := (fxT F171 e112)
                    have e185 : Rv h173 a0 11 = v15 := ((fxR F178 e184 rfl).trans ((fxR F171 e112 rfl).trans e117))
                    refine gf_R C fk_LandSurvey_55 rfl e183 e185 dX11_sheet_124 ?_
                    refine g_aload_n C rfl 0 rfl dX11_sheet_127 ?_
                    have e186 : Iv h173 a0 12 = v19 := ((fxI F178 e184 rfl).trans ((fxI F171 e112 rfl).trans e118))
                    refine gf_I C fk_LandSurvey_305 rfl e183 e186 dX11_sheet_128 ?_
                    refine g_aload C 7 rfl dX11_sheet_131 ?_
                    have e187 : Tg h173 v15 = 48106 := (fxT F178 (fxT F171 (fxT F105 (fxT F68 (fxT F60 t17)))))
                    have e188 : Tg h56 v15 = 48106 := (fxT F60 t17)
                    have e189 : Tg h64 v15 = 48106 := (fxT F68 e188)
                    have e190 : Tg h101 v15 = 48106 := (fxT F105 e189)
                    have e191 : Tg h168 v15 = 48106 := (fxT F171 e190)
                    have e192 : Ln h173 v15 = 10 := ((fxL F178 e191).trans ((fxL F171 e190).trans ((fxL F105 e189).trans ((fxL F68 e188).trans ((fxL F60 t17).trans l18)))))
                    have e196 : Tg h173 n153 = 8 := (fxT F178 (pT_T hh167))
                    refine g_aast (t := 6) C e187 rfl (by decide) rfl e196 rfl rfl e192 (ix f98 (by decide) (by decide)) dX11_sheet_133 (fun h194 hh193 => ?_)
                    have O195 := O177.pR e187 hh193 (okR_o ((rE_arr ar_48106 _).trans rE_48106_0) e196)
                    have e197 : Iv h194 a0 12 = v19 := ((pRI hh193).trans e186)
                    have p198 := (NN_fx F178 e191 ar_48106 rfl (NN_fx F171 e190 ar_48106 rfl p127))
                    have e199 : Tg h194 n153 = 8 := ((pRT hh193).trans e196)
                    have p200 : NN h194 v15 (v19 + 1) := NN_set p198 hh193 (nz_of O195 e199) (by omega) (by omega)
                    refine g_aload_n C rfl 0 rfl dX11_sheet_134 ?_
                    refine g_dup C rfl dX11_sheet_135 ?_
                    have e201 : Tg h194 a0 = 11 := ((pRT hh193).trans e183)
                    refine gf_I C fk_LandSurvey_305 rfl e201 e197 dX11_sheet_136 ?_
                    refine g_dup_x1 C rfl rfl dX11_sheet_139 ?_
                    refine g_iconst C dX11_sheet_140 ?_
                    have f202 : (1 : Int) ≤ (v19 + 1) ∧ (v19 + 1) ≤ (10 : Int) := ia_add f98 (il 1) (by decide) (by decide)
                    refine g_iadd C dX11_sheet_141 ?_
                    refine gp_I C fk_LandSurvey_305 pk_LandSurvey_12 rfl e201 (iw f202 (by decide) (by decide)) (nf_i _) dX11_sheet_142 (fun h204 hh203 => ?_)
                    have O205 := O195.pI e201 hh203 rI_11_12 (iw f202 (by decide) (by decide)) nofun
                    have e206 : Rv h204 a0 3 = v1 := ((pIR hh203).trans ((pR_n hh193 (ne_tag e183 e187 (by decide))).trans ((fxR F178 e184 rfl).trans ((fxR F171 e112 rfl).trans e113))))
                    have e207 : Iv h204 a0 4 = v5 := ((pI_j hh203 (by decide)).trans ((pRI hh193).trans ((fxI F178 e184 rfl).trans ((fxI F171 e112 rfl).trans e114))))
                    have e208 : Rv h204 a0 8 = v8 := ((pIR hh203).trans ((pR_n hh193 (ne_tag e183 e187 (by decide))).trans ((fxR F178 e184 rfl).trans ((fxR F171 e112 rfl).trans e115))))
                    have e209 : Iv h204 a0 9 = v12 := ((pI_j hh203 (by decide)).trans ((pRI hh193).trans ((fxI F178 e184 rfl).trans ((fxI F171 e112 rfl).trans e116))))
                    have e210 : Rv h204 a0 11 = v15 := ((pIR hh203).trans ((pR_n hh193 (ne_tag e183 e187 (by decide))).trans e185))
                    have e211 : Rv h204 a0 14 = v25 := ((pIR hh203).trans ((pR_n hh193 (ne_tag e183 e187 (by decide))).trans ((fxR F178 e184 rfl).trans ((fxR F171 e112 rfl).trans e119))))
                    have e212 : Iv h204 a0 15 = 1 := ((pI_j hh203 (by decide)).trans ((pRI hh193).trans ((fxI F178 e184 rfl).trans ((fxI F171 e112 rfl).trans p108))))
                    have e213 : Rv h204 a0 13 = v29 := ((pIR hh203).trans ((pR_n hh193 (ne_tag e183 e187 (by decide))).trans ((fxR F178 e184 rfl).trans ((fxR F171 e112 rfl).trans e120))))
                    have e214 : Rv h204 a0 6 = v32 := ((pIR hh203).trans ((pR_n hh193 (ne_tag e183 e187 (by decide))).trans ((fxR F178 e184 rfl).trans ((fxR F171 e112 rfl).trans e121))))
                    have e215 : Rv h204 a0 7 = v122 := ((pIR hh203).trans ((pR_n hh193 (ne_tag e183 e187 (by decide))).trans ((fxR F178 e184 rfl).trans ((fxR F171 e112 rfl).trans e123))))
                    have e216 : Tg h101 v25 = 49107 := (fxT F105 (fxT F68 (fxT F60 t27)))
                    have e217 : Tg h168 v25 = 49107 := (fxT F171 e216)
                    have e218 : Tg h173 v25 = 49107 := (fxT F178 e217)
                    have e219 : Tg h194 v25 = 49107 := ((pRT hh193).trans e218)
                    have p220 := (NN_fx ((Fx.rf (wr := [2212]) (h := h194)).pI e201 hh203 rfl) e219 ar_49107 rfl (NN_fx ((Fx.rf (wr := [9621200]) (h := h173)).pRa e187 ar_48106 hh193 rfl) e218 ar_49107 rfl (NN_fx F178 e217 ar_49107 rfl (NN_fx F171 e216 ar_49107 rfl p145))))
                    have e221 : Tg h168 v29 = 7 := (fxT F171 e140)
                    have e222 : Tg h173 v29 = 7 := (fxT F178 e221)
                    have e223 : Rv h204 v29 1 = v1 := ((pIR hh203).trans ((pR_n hh193 (ne_tag e222 e187 (by decide))).trans ((fxR F178 e221 rfl).trans ((fxR F171 e140 rfl).trans p129))))
                    have e224 : Rv h204 v29 2 = v8 := ((pIR hh203).trans ((pR_n hh193 (ne_tag e222 e187 (by decide))).trans ((fxR F178 e221 rfl).trans ((fxR F171 e140 rfl).trans p130))))
                    have e225 : Tg h194 v29 = 7 := ((pRT hh193).trans e222)
                    have e226 : Iv h204 v29 3 = v138 := ((pI_n hh203 (ne_tag e225 e201 (by decide))).trans ((pRI hh193).trans ((fxI F178 e221 rfl).trans ((fxI F171 e140 rfl).trans e139))))
                    have e227 : Iv h204 v29 4 = v142 := ((pI_n hh203 (ne_tag e225 e201 (by decide))).trans ((pRI hh193).trans ((fxI F178 e221 rfl).trans ((fxI F171 e140 rfl).trans e143))))
                    have e228 : Tg h101 v1 = 38104 := (fxT F105 (fxT F68 (fxT F60 t3)))
                    have e229 : Tg h168 v1 = 38104 := (fxT F171 e228)
                    have e230 : Tg h173 v1 = 38104 := (fxT F178 e229)
                    have e231 : Tg h194 v1 = 38104 := ((pRT hh193).trans e230)
                    have p232 := (SOK_fx O195 ((Fx.rf (wr := [2212]) (h := h194)).pI e201 hh203 rfl) e231 rfl rfl rfl (SOK_fx O177 ((Fx.rf (wr := [9621200]) (h := h173)).pRa e187 ar_48106 hh193 rfl) e230 rfl rfl rfl (SOK_fx O169 F178 e229 rfl rfl rfl (SOK_fx O104 F171 e228 rfl rfl rfl p125))))
                    have e233 : Tg h101 v8 = 39105 := (fxT F105 (fxT F68 (fxT F60 t10)))
                    have e234 : Tg h168 v8 = 39105 := (fxT F171 e233)
                    have e235 : Tg h173 v8 = 39105 := (fxT F178 e234)
                    have e236 : Tg h194 v8 = 39105 := ((pRT hh193).trans e235)
                    have p237 := (BOK_fx O195 ((Fx.rf (wr := [2212]) (h := h194)).pI e201 hh203 rfl) e236 rfl rfl rfl rfl (BOK_fx O177 ((Fx.rf (wr := [9621200]) (h := h173)).pRa e187 ar_48106 hh193 rfl) e235 rfl rfl rfl rfl (BOK_fx O169 F178 e234 rfl rfl rfl rfl (BOK_fx O104 F171 e233 rfl rfl rfl rfl p126))))
                    have e238 : Tg h194 v15 = 48106 := ((pRT hh193).trans e187)
                    have p239 := (NN_fx ((Fx.rf (wr := [2212]) (h := h194)).pI e201 hh203 rfl) e238 ar_48106 rfl p200)
                    have e240 : Tg h101 v32 = 5 := (fxT F105 (fxT F68 (fxT F60 t34)))
                    have e241 : Tg h168 v32 = 5 := (fxT F171 e240)
                    have e242 : Tg h173 v32 = 5 := (fxT F178 e241)
                    have e243 : Tg h194 v32 = 5 := ((pRT hh193).trans e242)
                    have p244 := (BkOk_fx O195 ((Fx.rf (wr := [2212]) (h := h194)).pI e201 hh203 rfl) e243 rfl rfl (BkOk_fx O177 ((Fx.rf (wr := [9621200]) (h := h173)).pRa e187 ar_48106 hh193 rfl) e242 rfl rfl (BkOk_fx O169 F178 e241 rfl rfl (BkOk_fx O104 F171 e240 rfl rfl p133))))
                    have e245 : Tg h168 v122 = 6 := (fxT F171 t124)
                    have e246 : Tg h173 v122 = 6 := (fxT F178 e245)
                    have e247 : Tg h194 v122 = 6 := ((pRT hh193).trans e246)
                    have p248 := (RulesOk_fx O195 ((Fx.rf (wr := [2212]) (h := h194)).pI e201 hh203 rfl) e247 rfl (RulesOk_fx O177 ((Fx.rf (wr := [9621200]) (h := h173)).pRa e187 ar_48106 hh193 rfl) e246 rfl (RulesOk_fx O169 F178 e245 rfl (RulesOk_fx O104 F171 t124 rfl p134))))
                    exact g_iret C hr rfl (iw f98 (by decide) (by decide)) ⟨O205, ((((((((Fx.rf (wr := wr_k_X11_sheet)).call F60 rfl).call F68 rfl).call F105 rfl).call F171 rfl).call F178 rfl).pRa e187 ar_48106 hh193 rfl).pI e201 hh203 rfl), (iw f98 (by decide) (by decide)), (by unfold XInv; rw [e206, e207, e208, e209, e210, (pI_e hh203), e212, e211, e213, e214, e215, e223, e224, e226, e227]; exact ⟨p232, p237, p239, (fun _ => p220), rfl, rfl, (by omega), (by omega), p244, p248⟩)⟩ (by decide) (by decide) dX11_sheet_145
                  · have f249 : (0 : Int) ≤ x172 ∧ x172 ≤ (7 : Int) := r_le f179 f152 q181 (by decide) (by decide)
                    refine g_iload_n C rfl 1 rfl dX11_sheet_77 ?_
                    refine g_istore C [(9, .inl a1), (0, .inr (.inr a0)), (1, .inl a1), (2, .inl a2), (3, .inl a3), (4, .inl a4), (5, .inl r55), (6, .inl r63), (7, .inr (.inr n153)), (8, .inl x172)] (by decide) rfl dX11_sheet_78 ?_
                    refine GW.sub [1, 2, 3, 4, 5, 6, 7, 8, 9, 0] rfl ?_
                    -- loop at 80
                    have L252 : ∀ (μ : Nat) (x250 : Int) (h251 : Hp), (12 - x250).toNat = μ → Okh h251 → Fx [8820000] h173 h251 → ((0 : Int) ≤ x250 ∧ x250 ≤ (12 : Int)) → GW p l e (rmm 11 300 50 3313) s m (List.map toV [.inr (.inr a0), .inl a1, .inl a2, .inl a3, .inl a4]).toArray below meth c D cy z0 11 (MQ below (QI D cy z0 (fun v h1 => Okh h1 ∧ Fx wr_k_X11_sheet h h1 ∧ ((-1) ≤ v ∧ v ≤ 9) ∧ (XInv h1 a0))) (List.map toV [.inr (.inr a0), .inl a1, .inl a2, .inl a3, .inl a4]).toArray s 50 3313 (Aof z0)) 80 [(0, .inr (.inr a0)), (1, .inl a1), (2, .inl a2), (3, .inl a3), (4, .inl a4), (5, .inl r55), (6, .inl r63), (7, .inr (.inr n153)), (8, .inl x172), (9, .inl x250)] [] h251 50 3313 := by
                      intro μ
                      induction μ using Nat.strongRecOn with
                      | ind μ ih253 =>
                        intro x250 h251 hm254 O255 F256 f257
                        refine g_iload C 9 rfl dX11_sheet_80 ?_
                        refine g_iload_n C rfl 3 rfl dX11_sheet_82 ?_
                        refine g_icmp_gt C (iw f257 (by decide) (by decide)) (iw f151 (by decide) (by decide)) 117 (by decide) dX11_sheet_83 (fun q258 => ?_) (fun q259 => ?_)
                        · have f260 : (1 : Int) ≤ x250 ∧ x250 ≤ (12 : Int) := r_gt f257 f151 q258 (by decide) (by decide)
                          have f261 : (1 : Int) ≤ (x172 + 1) ∧ (x172 + 1) ≤ (8 : Int) := ia_add f249 (il 1) (by decide) (by decide)
                          refine g_iinc C [(8, .inl (x172 + 1)), (0, .inr (.inr a0)), (1, .inl a1), (2, .inl a2), (3, .inl a3), (4, .inl a4), (5, .inl r55), (6, .inl r63), (7, .inr (.inr n153)), (9, .inl x250)] 8 rfl (by decide) rfl dX11_sheet_117 ?_
                          refine g_goto C 70 (by decide) dX11_sheet_120 ?_
                          refine GW.sub [1, 2, 3, 4, 5, 6, 7, 8, 0] rfl ?_
                          exact ih175 _ (by omega) (x172 + 1) h251 rfl O255 (F178.call F256 rfl) (iw f261 (by decide) (by decide))
                        · have f262 : (0 : Int) ≤ x250 ∧ x250 ≤ (11 : Int) := r_le f257 f151 q259 (by decide) (by decide)
                          refine g_bipush C (by decide) dX11_sheet_86 ?_
                          refine g_iload C 8 rfl dX11_sheet_88 ?_
                          have f263 : (0 : Int) ≤ (12 * x172) ∧ (12 * x172) ≤ (84 : Int) := ia_mul (by decide) f249 (by decide) (by decide)
                          refine g_imul C dX11_sheet_90 ?_
                          refine g_iload C 9 rfl dX11_sheet_91 ?_
                          have f264 : (0 : Int) ≤ ((12 * x172) + x250) ∧ ((12 * x172) + x250) ≤ (95 : Int) := ia_add f263 f262 (by decide) (by decide)
                          refine g_iadd C dX11_sheet_93 ?_
                          refine g_istore C [(10, .inl ((12 * x172) + x250)), (0, .inr (.inr a0)), (1, .inl a1), (2, .inl a2), (3, .inl a3), (4, .inl a4), (5, .inl r55), (6, .inl r63), (7, .inr (.inr n153)), (8, .inl x172), (9, .inl x250)] (by decide) rfl dX11_sheet_94 ?_
                          refine g_aload C 8 rfl dX11_sheet_96 ?_
                          have e265 : Tg h251 n153 = 8 := (fxT F256 (fxT F178 (pT_T hh167)))
                          obtain ⟨v266, e267⟩ : ∃ z, Rv h251 n153 0 = z := ⟨_, rfl⟩
                          have t268 := ok_R O255 e265 rE_8_0 e267
                          have l269 := ok_L O255 e265 rE_8_0 e267
                          refine gf_R C fk_LandSurvey_309 rfl e265 e267 dX11_sheet_98 ?_
                          refine g_iload C 0 rfl dX11_sheet_101 ?_
                          refine g_aload_n C rfl 1 rfl dX11_sheet_103 ?_
                          refine g_iload C 0 rfl dX11_sheet_104 ?_
                          refine g_iconst C dX11_sheet_106 ?_
                          have e270 : Tg h251 a0 = 11 := (fxT F256 (fxT F178 (fxT F171 e112)))
                          have e271 : Tg h168 a0 = 11 := (fxT F171 e112)
                          have e272 : Tg h173 a0 = 11 := (fxT F178 e271)
                          have e273 : Iv h251 a0 15 = 1 := ((fxI F256 e272 rfl).trans ((fxI F178 e271 rfl).trans ((fxI F171 e112 rfl).trans p108)))
                          have p274 := (XInv_fx O177 F256 e272 rfl (XInv_fx O169 F178 e271 rfl (XInv_fx O104 F171 e112 rfl p107)))
                          refine g_callI (st := [.inl ((12 * x172) + x250), .inr (.inr v266)]) (gc_V C lk_LandSurvey_256 (k_X11_mayLieByAll l D cy w z0 O255 e270 f264 (iw (il 0) (by decide) (by decide)) e273 p274) e270 rfl rfl rfl ⟨by decide, by decide⟩ (Nat.le_of_ble_eq_true rfl) dX11_sheet_107 ⟨(by decide), (by decide)⟩) (fun r275 h276 f278 K277 => ?_)
                          obtain ⟨O279, F280, f281⟩ := K277
                          have e282 : Tg h276 v266 = 44100 := (fxT F280 t268)
                          have e283 : Ln h276 v266 = 96 := ((fxL F280 t268).trans l269)
                          refine g_iast C e282 rfl e283 (ix f264 (by decide) (by decide)) f281 dX11_sheet_110 (fun h285 hh284 => ?_)
                          have O286 := O279.pIa e282 ar_44100 hh284 rI_44100_0 f281 nofun
                          have f287 : (1 : Int) ≤ (x250 + 1) ∧ (x250 + 1) ≤ (12 : Int) := ia_add f262 (il 1) (by decide) (by decide)
                          refine g_iinc C [(9, .inl (x250 + 1)), (10, .inl ((12 * x172) + x250)), (0, .inr (.inr a0)), (1, .inl a1), (2, .inl a2), (3, .inl a3), (4, .inl a4), (5, .inl r55), (6, .inl r63), (7, .inr (.inr n153)), (8, .inl x172)] 10 rfl (by decide) rfl dX11_sheet_111 ?_
                          refine g_goto C 80 (by decide) dX11_sheet_114 ?_
                          refine GW.sub [2, 3, 4, 5, 6, 7, 8, 9, 10, 0] rfl ?_
                          exact ih253 _ (by omega) (x250 + 1) h285 rfl O286 ((F256.call F280 rfl).pIa e282 ar_44100 hh284 rfl) (iw f287 (by decide) (by decide))
                    exact L252 _ a1 h173 rfl O177 Fx.rf (iw f149 (by decide) (by decide))
              exact L174 _ a2 h168 rfl O169 Fx.rf (iw f150 (by decide) (by decide))
            · have f288 : (0 : Int) ≤ r100 ∧ r100 ≤ (0 : Int) := ii f106 (r_eq (il 0) q147) (by decide) (by decide)
              refine g_iconst C dX11_sheet_56 ?_
              exact g_iret C hr rfl (iw (il (-1)) (by decide) (by decide)) ⟨O104, ((((Fx.rf (wr := wr_k_X11_sheet)).call F60 rfl).call F68 rfl).call F105 rfl), (iw (il (-1)) (by decide) (by decide)), p107⟩ (by decide) (by decide) dX11_sheet_57
        · have f289 : (-2147483648 : Int) ≤ a4 ∧ a4 ≤ (2147483646 : Int) := r_lt fa4 fa2 q90 (by decide) (by decide)
          have f290 : (-2147483647 : Int) ≤ a2 ∧ a2 ≤ (2147483647 : Int) := r_gt fa2 fa4 q90 (by decide) (by decide)
          refine g_iconst C dX11_sheet_38 ?_
          have e291 : Tg h56 a0 = 11 := (fxT F60 ta0)
          have p292 := (XInv_fx O59 F68 e291 rfl (XInv_fx O F60 ta0 rfl P_XInv))
          exact g_iret C hr rfl (iw (il (-1)) (by decide) (by decide)) ⟨O67, (((Fx.rf (wr := wr_k_X11_sheet)).call F60 rfl).call F68 rfl), (iw (il (-1)) (by decide) (by decide)), p292⟩ (by decide) (by decide) dX11_sheet_39
def wr_k_X3_takeSigns : List Nat := [801, 3820600]
set_option maxRecDepth 100000 in
set_option maxHeartbeats 4000000 in
theorem k_X3_takeSigns (l : Launch) (D : va_G) (cy : Nat → ClassId) (w : Nat → Nat) (z0 : Nat) {h : Hp} {a0 : Nat} {a1 : Int}  (O : Okh h) (ta0 : Tg h a0 = 4) (fa1 : (-9223372036854775808) ≤ a1 ∧ a1 ≤ 9223372036854775807) : MV l D cy w z0 yX3_takeSigns cX3_takeSigns 6 none 0 0 0 0 [.inr (.inr a0), .inr (.inl a1)] h (fun h1 => Okh h1 ∧ Fx wr_k_X3_takeSigns h h1) := by
  refine hm_go (by decide +kernel) (Nat.le_of_ble_eq_true rfl) (fun p e s m below meth c C hr hn => ?_)
  refine g_bipush C (by decide) dX3_takeSigns_0 ?_
  refine g_istore_n C [(3, .inl 56), (0, .inr (.inr a0)), (1, .inr (.inl a1))] rfl (by decide) rfl dX3_takeSigns_2 ?_
  refine GW.sub [1, 2, 0] rfl ?_
  -- loop at 3
  have L3 : ∀ (μ : Nat) (x1 : Int) (h2 : Hp), (x1 - (-8)).toNat = μ → Okh h2 → Fx [801, 3820600] h h2 → ((-8 : Int) ≤ x1 ∧ x1 ≤ (56 : Int)) → GW p l e (rmm 0 0 0 0) s m (List.map toV [.inr (.inr a0), .inr (.inl a1)]).toArray below meth c D cy z0 6 (MQ below (QV D cy z0 (fun h1 => Okh h1 ∧ Fx wr_k_X3_takeSigns h h1)) (List.map toV [.inr (.inr a0), .inr (.inl a1)]).toArray s 0 0 (Aof z0)) 3 [(0, .inr (.inr a0)), (1, .inr (.inl a1)), (3, .inl x1)] [] h2 0 0 := by
    intro μ
    induction μ using Nat.strongRecOn with
    | ind μ ih4 =>
      intro x1 h2 hm5 O6 F7 f8
      refine g_iload_n C rfl 2 rfl dX3_takeSigns_3 ?_
      refine g_if_lt C (iw f8 (by decide) (by decide)) 88 (by decide) dX3_takeSigns_4 (fun q9 => ?_) (fun q10 => ?_)
      · have f11 : (-8 : Int) ≤ x1 ∧ x1 ≤ (-1 : Int) := r_lt f8 (il 0) q9 (by decide) (by decide)
        exact g_vret C hr ⟨O6, ((Fx.rf (wr := wr_k_X3_takeSigns)).call F7 rfl)⟩ (by decide) (by decide) dX3_takeSigns_88
      · have f12 : (0 : Int) ≤ x1 ∧ x1 ≤ (56 : Int) := r_ge f8 (il 0) q10 (by decide) (by decide)
        refine g_lload_n C rfl 1 rfl dX3_takeSigns_7 ?_
        refine g_iload_n C rfl 2 rfl dX3_takeSigns_8 ?_
        refine g_lushr C dX3_takeSigns_9 ?_
        have f13 : (-9223372036854775808 : Int) ≤ (lUshr a1 x1) ∧ (lUshr a1 x1) ≤ (9223372036854775807 : Int) := inL_of _
        refine g_l2i C dX3_takeSigns_10 ?_
        have f14 : (-2147483648 : Int) ≤ (l2w (lUshr a1 x1)) ∧ (l2w (lUshr a1 x1)) ≤ (2147483647 : Int) := inR_of _
        refine g_sipush C (by decide) dX3_takeSigns_11 ?_
        refine g_iand C dX3_takeSigns_14 ?_
        have f15 : (0 : Int) ≤ (bAnd (l2w (lUshr a1 x1)) 255) ∧ (bAnd (l2w (lUshr a1 x1)) 255) ≤ (255 : Int) := bAnd_255 _
        refine g_istore C [(4, .inl (bAnd (l2w (lUshr a1 x1)) 255)), (0, .inr (.inr a0)), (1, .inr (.inl a1)), (3, .inl x1)] (by decide) rfl dX3_takeSigns_15 ?_
        refine g_iload C 0 rfl dX3_takeSigns_17 ?_
        refine g_bipush C (by decide) dX3_takeSigns_19 ?_
        refine g_icmp_eq C (iw f15 (by decide) (by decide)) (iw (il 10) (by decide) (by decide)) 38 (by decide) dX3_takeSigns_21 (fun q16 => ?_) (fun q17 => ?_)
        · have f18 : (10 : Int) ≤ (bAnd (l2w (lUshr a1 x1)) 255) ∧ (bAnd (l2w (lUshr a1 x1)) 255) ≤ (10 : Int) := ii f15 (r_eq (il 10) q16) (by decide) (by decide)
          refine g_iconst C dX3_takeSigns_38 ?_
          refine g_goto C 43 (by decide) dX3_takeSigns_39 ?_
          refine g_istore C [(5, .inl 1), (4, .inl (bAnd (l2w (lUshr a1 x1)) 255)), (0, .inr (.inr a0)), (1, .inr (.inl a1)), (3, .inl x1)] (by decide) rfl dX3_takeSigns_43 ?_
          refine g_iload C 0 rfl dX3_takeSigns_45 ?_
          refine g_if_eq C (iw (il 1) (by decide) (by decide)) 82 (by decide) dX3_takeSigns_47 (fun q19 => ?_) (fun q20 => ?_)
          · exact (no_eq (il 1) (il 0) q19 (by decide)).elim
          · refine g_aload_n C rfl 2 rfl dX3_takeSigns_50 ?_
            have e21 : Tg h2 a0 = 4 := (fxT F7 ta0)
            obtain ⟨v22, e23⟩ : ∃ z, Iv h2 a0 1 = z := ⟨_, rfl⟩
            have f24 := ok_I O6 e21 rI_4_1 e23
            refine gf_I C fk_LandSurvey_Reader_19 rfl e21 e23 dX3_takeSigns_51 ?_
            refine g_sipush C (by decide) dX3_takeSigns_54 ?_
            refine g_icmp_ge C (iw f24 (by decide) (by decide)) (iw (il 1500) (by decide) (by decide)) 82 (by decide) dX3_takeSigns_57 (fun q25 => ?_) (fun q26 => ?_)
            · have f27 : (1500 : Int) ≤ v22 ∧ v22 ≤ (1500 : Int) := r_ge f24 (il 1500) q25 (by decide) (by decide)
              have f28 : (-8 : Int) ≤ (x1 + (-8)) ∧ (x1 + (-8)) ≤ (48 : Int) := ia_add f12 (il (-8)) (by decide) (by decide)
              refine g_iinc C [(3, .inl (x1 + (-8))), (5, .inl 1), (4, .inl (bAnd (l2w (lUshr a1 x1)) 255)), (0, .inr (.inr a0)), (1, .inr (.inl a1))] 4 rfl (by decide) rfl dX3_takeSigns_82 ?_
              refine g_goto C 3 (by decide) dX3_takeSigns_85 ?_
              refine GW.sub [3, 4, 0] rfl ?_
              exact ih4 _ (by omega) (x1 + (-8)) h2 rfl O6 F7 (iw f28 (by decide) (by decide))
            · have f29 : (0 : Int) ≤ v22 ∧ v22 ≤ (1499 : Int) := r_lt f24 (il 1500) q26 (by decide) (by decide)
              refine g_aload_n C rfl 2 rfl dX3_takeSigns_60 ?_
              obtain ⟨v30, e31⟩ : ∃ z, Rv h2 a0 0 = z := ⟨_, rfl⟩
              have t32 := ok_R O6 e21 rE_4_0 e31
              have l33 := ok_L O6 e21 rE_4_0 e31
              refine gf_R C fk_LandSurvey_Reader_9 rfl e21 e31 dX3_takeSigns_61 ?_
              refine g_aload_n C rfl 2 rfl dX3_takeSigns_64 ?_
              refine gf_I C fk_LandSurvey_Reader_19 rfl e21 e23 dX3_takeSigns_65 ?_
              refine g_iload C 1 rfl dX3_takeSigns_68 ?_
              refine g_i2c C dX3_takeSigns_70 ?_
              have f34 : (10 : Int) ≤ (iC (bAnd (l2w (lUshr a1 x1)) 255)) ∧ (iC (bAnd (l2w (lUshr a1 x1)) 255)) ≤ (10 : Int) := iC_in f18 (by decide) (by decide)
              refine g_cast C t32 rfl l33 (ix f29 (by decide) (by decide)) (iw f34 (by decide) (by decide)) dX3_takeSigns_71 (fun h36 hh35 => ?_)
              have O37 := O6.pIa t32 ar_19103 hh35 rI_19103_0 (iw f34 (by decide) (by decide)) nofun
              refine g_aload_n C rfl 2 rfl dX3_takeSigns_72 ?_
              refine g_dup C rfl dX3_takeSigns_73 ?_
              have e38 : Tg h36 a0 = 4 := ((pIT hh35).trans e21)
              have e39 : Iv h36 a0 1 = v22 := ((pI_n hh35 (ne_tag e21 t32 (by decide))).trans e23)
              refine gf_I C fk_LandSurvey_Reader_19 rfl e38 e39 dX3_takeSigns_74 ?_
              refine g_iconst C dX3_takeSigns_77 ?_
              have f40 : (1 : Int) ≤ (v22 + 1) ∧ (v22 + 1) ≤ (1500 : Int) := ia_add f29 (il 1) (by decide) (by decide)
              refine g_iadd C dX3_takeSigns_78 ?_
              refine gp_I C fk_LandSurvey_Reader_19 pk_LandSurvey_Reader_1 rfl e38 (iw f40 (by decide) (by decide)) (nf_i _) dX3_takeSigns_79 (fun h42 hh41 => ?_)
              have O43 := O37.pI e38 hh41 rI_4_1 (iw f40 (by decide) (by decide)) nofun
              have f44 : (-8 : Int) ≤ (x1 + (-8)) ∧ (x1 + (-8)) ≤ (48 : Int) := ia_add f12 (il (-8)) (by decide) (by decide)
              refine g_iinc C [(3, .inl (x1 + (-8))), (5, .inl 1), (4, .inl (bAnd (l2w (lUshr a1 x1)) 255)), (0, .inr (.inr a0)), (1, .inr (.inl a1))] 4 rfl (by decide) rfl dX3_takeSigns_82 ?_
              refine g_goto C 3 (by decide) dX3_takeSigns_85 ?_
              refine GW.sub [3, 4, 0] rfl ?_
              exact ih4 _ (by omega) (x1 + (-8)) h42 rfl O43 ((F7.pIa t32 ar_19103 hh35 rfl).pI e38 hh41 rfl) (iw f44 (by decide) (by decide))
        · refine g_iload C 0 rfl dX3_takeSigns_24 ?_
          refine g_bipush C (by decide) dX3_takeSigns_26 ?_
          refine g_icmp_lt C (iw f15 (by decide) (by decide)) (iw (il 32) (by decide) (by decide)) 42 (by decide) dX3_takeSigns_28 (fun q45 => ?_) (fun q46 => ?_)
          · have f47 : (0 : Int) ≤ (bAnd (l2w (lUshr a1 x1)) 255) ∧ (bAnd (l2w (lUshr a1 x1)) 255) ≤ (31 : Int) := r_lt f15 (il 32) q45 (by decide) (by decide)
            refine g_iconst C dX3_takeSigns_42 ?_
            refine g_istore C [(5, .inl 0), (4, .inl (bAnd (l2w (lUshr a1 x1)) 255)), (0, .inr (.inr a0)), (1, .inr (.inl a1)), (3, .inl x1)] (by decide) rfl dX3_takeSigns_43 ?_
            refine g_iload C 0 rfl dX3_takeSigns_45 ?_
            refine g_if_eq C (iw (il 0) (by decide) (by decide)) 82 (by decide) dX3_takeSigns_47 (fun q48 => ?_) (fun q49 => ?_)
            · have f50 : (-8 : Int) ≤ (x1 + (-8)) ∧ (x1 + (-8)) ≤ (48 : Int) := ia_add f12 (il (-8)) (by decide) (by decide)
              refine g_iinc C [(3, .inl (x1 + (-8))), (5, .inl 0), (4, .inl (bAnd (l2w (lUshr a1 x1)) 255)), (0, .inr (.inr a0)), (1, .inr (.inl a1))] 4 rfl (by decide) rfl dX3_takeSigns_82 ?_
              refine g_goto C 3 (by decide) dX3_takeSigns_85 ?_
              refine GW.sub [3, 4, 0] rfl ?_
              exact ih4 _ (by omega) (x1 + (-8)) h2 rfl O6 F7 (iw f50 (by decide) (by decide))
            · exact (no_ne (il 0) (il 0) q49 (by decide)).elim
          · have f51 : (32 : Int) ≤ (bAnd (l2w (lUshr a1 x1)) 255) ∧ (bAnd (l2w (lUshr a1 x1)) 255) ≤ (255 : Int) := r_ge f15 (il 32) q46 (by decide) (by decide)
            refine g_iload C 0 rfl dX3_takeSigns_31 ?_
            refine g_bipush C (by decide) dX3_takeSigns_33 ?_
            refine g_icmp_gt C (iw f51 (by decide) (by decide)) (iw (il 126) (by decide) (by decide)) 42 (by decide) dX3_takeSigns_35 (fun q52 => ?_) (fun q53 => ?_)
            · have f54 : (127 : Int) ≤ (bAnd (l2w (lUshr a1 x1)) 255) ∧ (bAnd (l2w (lUshr a1 x1)) 255) ≤ (255 : Int) := r_gt f51 (il 126) q52 (by decide) (by decide)
              refine g_iconst C dX3_takeSigns_42 ?_
              refine g_istore C [(5, .inl 0), (4, .inl (bAnd (l2w (lUshr a1 x1)) 255)), (0, .inr (.inr a0)), (1, .inr (.inl a1)), (3, .inl x1)] (by decide) rfl dX3_takeSigns_43 ?_
              refine g_iload C 0 rfl dX3_takeSigns_45 ?_
              refine g_if_eq C (iw (il 0) (by decide) (by decide)) 82 (by decide) dX3_takeSigns_47 (fun q55 => ?_) (fun q56 => ?_)
              · have f57 : (-8 : Int) ≤ (x1 + (-8)) ∧ (x1 + (-8)) ≤ (48 : Int) := ia_add f12 (il (-8)) (by decide) (by decide)
                refine g_iinc C [(3, .inl (x1 + (-8))), (5, .inl 0), (4, .inl (bAnd (l2w (lUshr a1 x1)) 255)), (0, .inr (.inr a0)), (1, .inr (.inl a1))] 4 rfl (by decide) rfl dX3_takeSigns_82 ?_
                refine g_goto C 3 (by decide) dX3_takeSigns_85 ?_
                refine GW.sub [3, 4, 0] rfl ?_
                exact ih4 _ (by omega) (x1 + (-8)) h2 rfl O6 F7 (iw f57 (by decide) (by decide))
              · exact (no_ne (il 0) (il 0) q56 (by decide)).elim
            · have f58 : (32 : Int) ≤ (bAnd (l2w (lUshr a1 x1)) 255) ∧ (bAnd (l2w (lUshr a1 x1)) 255) ≤ (126 : Int) := r_le f51 (il 126) q53 (by decide) (by decide)
              refine g_iconst C dX3_takeSigns_38 ?_
              refine g_goto C 43 (by decide) dX3_takeSigns_39 ?_
              refine g_istore C [(5, .inl 1), (4, .inl (bAnd (l2w (lUshr a1 x1)) 255)), (0, .inr (.inr a0)), (1, .inr (.inl a1)), (3, .inl x1)] (by decide) rfl dX3_takeSigns_43 ?_
              refine g_iload C 0 rfl dX3_takeSigns_45 ?_
              refine g_if_eq C (iw (il 1) (by decide) (by decide)) 82 (by decide) dX3_takeSigns_47 (fun q59 => ?_) (fun q60 => ?_)
              · exact (no_eq (il 1) (il 0) q59 (by decide)).elim
              · refine g_aload_n C rfl 2 rfl dX3_takeSigns_50 ?_
                have e61 : Tg h2 a0 = 4 := (fxT F7 ta0)
                obtain ⟨v62, e63⟩ : ∃ z, Iv h2 a0 1 = z := ⟨_, rfl⟩
                have f64 := ok_I O6 e61 rI_4_1 e63
                refine gf_I C fk_LandSurvey_Reader_19 rfl e61 e63 dX3_takeSigns_51 ?_
                refine g_sipush C (by decide) dX3_takeSigns_54 ?_
                refine g_icmp_ge C (iw f64 (by decide) (by decide)) (iw (il 1500) (by decide) (by decide)) 82 (by decide) dX3_takeSigns_57 (fun q65 => ?_) (fun q66 => ?_)
                · have f67 : (1500 : Int) ≤ v62 ∧ v62 ≤ (1500 : Int) := r_ge f64 (il 1500) q65 (by decide) (by decide)
                  have f68 : (-8 : Int) ≤ (x1 + (-8)) ∧ (x1 + (-8)) ≤ (48 : Int) := ia_add f12 (il (-8)) (by decide) (by decide)
                  refine g_iinc C [(3, .inl (x1 + (-8))), (5, .inl 1), (4, .inl (bAnd (l2w (lUshr a1 x1)) 255)), (0, .inr (.inr a0)), (1, .inr (.inl a1))] 4 rfl (by decide) rfl dX3_takeSigns_82 ?_
                  refine g_goto C 3 (by decide) dX3_takeSigns_85 ?_
                  refine GW.sub [3, 4, 0] rfl ?_
                  exact ih4 _ (by omega) (x1 + (-8)) h2 rfl O6 F7 (iw f68 (by decide) (by decide))
                · have f69 : (0 : Int) ≤ v62 ∧ v62 ≤ (1499 : Int) := r_lt f64 (il 1500) q66 (by decide) (by decide)
                  refine g_aload_n C rfl 2 rfl dX3_takeSigns_60 ?_
                  obtain ⟨v70, e71⟩ : ∃ z, Rv h2 a0 0 = z := ⟨_, rfl⟩
                  have t72 := ok_R O6 e61 rE_4_0 e71
                  have l73 := ok_L O6 e61 rE_4_0 e71
                  refine gf_R C fk_LandSurvey_Reader_9 rfl e61 e71 dX3_takeSigns_61 ?_
                  refine g_aload_n C rfl 2 rfl dX3_takeSigns_64 ?_
                  refine gf_I C fk_LandSurvey_Reader_19 rfl e61 e63 dX3_takeSigns_65 ?_
                  refine g_iload C 1 rfl dX3_takeSigns_68 ?_
                  refine g_i2c C dX3_takeSigns_70 ?_
                  have f74 : (32 : Int) ≤ (iC (bAnd (l2w (lUshr a1 x1)) 255)) ∧ (iC (bAnd (l2w (lUshr a1 x1)) 255)) ≤ (126 : Int) := iC_in f58 (by decide) (by decide)
                  refine g_cast C t72 rfl l73 (ix f69 (by decide) (by decide)) (iw f74 (by decide) (by decide)) dX3_takeSigns_71 (fun h76 hh75 => ?_)
                  have O77 := O6.pIa t72 ar_19103 hh75 rI_19103_0 (iw f74 (by decide) (by decide)) nofun
                  refine g_aload_n C rfl 2 rfl dX3_takeSigns_72 ?_
                  refine g_dup C rfl dX3_takeSigns_73 ?_
                  have e78 : Tg h76 a0 = 4 := ((pIT hh75).trans e61)
                  have e79 : Iv h76 a0 1 = v62 := ((pI_n hh75 (ne_tag e61 t72 (by decide))).trans e63)
                  refine gf_I C fk_LandSurvey_Reader_19 rfl e78 e79 dX3_takeSigns_74 ?_
                  refine g_iconst C dX3_takeSigns_77 ?_
                  have f80 : (1 : Int) ≤ (v62 + 1) ∧ (v62 + 1) ≤ (1500 : Int) := ia_add f69 (il 1) (by decide) (by decide)
                  refine g_iadd C dX3_takeSigns_78 ?_
                  refine gp_I C fk_LandSurvey_Reader_19 pk_LandSurvey_Reader_1 rfl e78 (iw f80 (by decide) (by decide)) (nf_i _) dX3_takeSigns_79 (fun h82 hh81 => ?_)
                  have O83 := O77.pI e78 hh81 rI_4_1 (iw f80 (by decide) (by decide)) nofun
                  have f84 : (-8 : Int) ≤ (x1 + (-8)) ∧ (x1 + (-8)) ≤ (48 : Int) := ia_add f12 (il (-8)) (by decide) (by decide)
                  refine g_iinc C [(3, .inl (x1 + (-8))), (5, .inl 1), (4, .inl (bAnd (l2w (lUshr a1 x1)) 255)), (0, .inr (.inr a0)), (1, .inr (.inl a1))] 4 rfl (by decide) rfl dX3_takeSigns_82 ?_
                  refine g_goto C 3 (by decide) dX3_takeSigns_85 ?_
                  refine GW.sub [3, 4, 0] rfl ?_
                  exact ih4 _ (by omega) (x1 + (-8)) h82 rfl O83 ((F7.pIa t72 ar_19103 hh75 rfl).pI e78 hh81 rfl) (iw f84 (by decide) (by decide))
  exact L3 _ 56 h rfl O Fx.rf (iw (il 56) (by decide) (by decide))
def wr_k_X11_feed : List Nat := [801, 3820600]
set_option maxRecDepth 100000 in
set_option maxHeartbeats 4000000 in
theorem k_X11_feed (l : Launch) (D : va_G) (cy : Nat → ClassId) (w : Nat → Nat) (z0 : Nat) {h : Hp} {a0 : Nat} {a1 : Int} {a2 : Int} {a3 : Int}  (O : Okh h) (ta0 : Tg h a0 = 11) (fa1 : (-9223372036854775808) ≤ a1 ∧ a1 ≤ 9223372036854775807) (fa2 : (-9223372036854775808) ≤ a2 ∧ a2 ≤ 9223372036854775807) (fa3 : (-9223372036854775808) ≤ a3 ∧ a3 ≤ 9223372036854775807) : MI l D cy w z0 yX11_feed cX11_feed 7 (some .int) 1 25 0 0 [.inr (.inr a0), .inr (.inl a1), .inr (.inl a2), .inr (.inl a3)] h (fun v h1 => Okh h1 ∧ Fx wr_k_X11_feed h h1 ∧ (0 ≤ v ∧ v ≤ 1500)) := by
  refine hm_go (by decide +kernel) (Nat.le_of_ble_eq_true rfl) (fun p e s m below meth c C hr hn => ?_)
  refine g_aload_n C rfl 0 rfl dX11_feed_0 ?_
  obtain ⟨v1, e2⟩ : ∃ z, Rv h a0 5 = z := ⟨_, rfl⟩
  have t3 := ok_R O ta0 rE_11_5 e2
  refine gf_R C fk_LandSurvey_29 rfl ta0 e2 dX11_feed_1 ?_
  refine g_lload_n C rfl 1 rfl dX11_feed_4 ?_
  refine g_callV (st := []) (gc_V C lk_LandSurvey_139 (k_X3_takeSigns l D cy w z0 O t3 fa1) t3 rfl rfl rfl ⟨by decide, by decide⟩ (Nat.le_of_ble_eq_true rfl) dX11_feed_5 ⟨(by decide), (by decide)⟩) (fun h5 K6 => ?_)
  obtain ⟨O8, F9⟩ := K6
  refine g_aload_n C rfl 0 rfl dX11_feed_8 ?_
  have e10 : Tg h5 a0 = 11 := (fxT F9 ta0)
  have e11 : Rv h5 a0 5 = v1 := ((fxR F9 ta0 rfl).trans e2)
  refine gf_R C fk_LandSurvey_29 rfl e10 e11 dX11_feed_9 ?_
  refine g_lload_n C rfl 2 rfl dX11_feed_12 ?_
  have e12 : Tg h5 v1 = 4 := (fxT F9 t3)
  refine g_callV (st := []) (gc_V C lk_LandSurvey_139 (k_X3_takeSigns l D cy w z0 O8 e12 fa2) e12 rfl rfl rfl ⟨by decide, by decide⟩ (Nat.le_of_ble_eq_true rfl) dX11_feed_13 ⟨(by decide), (by decide)⟩) (fun h14 K15 => ?_)
  obtain ⟨O17, F18⟩ := K15
  refine g_aload_n C rfl 0 rfl dX11_feed_16 ?_
  have e19 : Tg h14 a0 = 11 := (fxT F18 e10)
  have e20 : Rv h14 a0 5 = v1 := ((fxR F18 e10 rfl).trans e11)
  refine gf_R C fk_LandSurvey_29 rfl e19 e20 dX11_feed_17 ?_
  refine g_lload C 3 rfl dX11_feed_20 ?_
  have e21 : Tg h14 v1 = 4 := (fxT F18 e12)
  refine g_callV (st := []) (gc_V C lk_LandSurvey_139 (k_X3_takeSigns l D cy w z0 O17 e21 fa3) e21 rfl rfl rfl ⟨by decide, by decide⟩ (Nat.le_of_ble_eq_true rfl) dX11_feed_22 ⟨(by decide), (by decide)⟩) (fun h23 K24 => ?_)
  obtain ⟨O26, F27⟩ := K24
  refine g_aload_n C rfl 0 rfl dX11_feed_25 ?_
  have e28 : Tg h23 a0 = 11 := (fxT F27 e19)
  have e29 : Rv h23 a0 5 = v1 := ((fxR F27 e19 rfl).trans e20)
  refine gf_R C fk_LandSurvey_29 rfl e28 e29 dX11_feed_26 ?_
  have e30 : Tg h23 v1 = 4 := (fxT F27 e21)
  obtain ⟨v31, e32⟩ : ∃ z, Iv h23 v1 1 = z := ⟨_, rfl⟩
  have f33 := ok_I O26 e30 rI_4_1 e32
  refine gf_I C fk_LandSurvey_143 rfl e30 e32 dX11_feed_29 ?_
  exact g_iret C hr rfl (iw f33 (by decide) (by decide)) ⟨O26, ((((Fx.rf (wr := wr_k_X11_feed)).call F9 rfl).call F18 rfl).call F27 rfl), f33⟩ (by decide) (by decide) dX11_feed_32
