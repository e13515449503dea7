abbrev cX8_init : ByteArray := prog_10_method_1_code
def yX8_init : MethodName := ⟨RX8, "<init>", "(IIIIII)V"⟩
theorem okX8_init : yok yX8_init 6 := by decide +kernel
theorem kw_572 : Cond.fieldLink "LandSurvey$Sight" 15 "LandSurvey$Sight" "dipWhere" "I" ∈ uu := uu_in (i := 572) (by decide +kernel) (by decide +kernel)
theorem fk_LandSurvey_Sight_15 : fkI "LandSurvey$Sight" 15 8 7 RX8 TX8 19 := ⟨rfl, rfl, inX8, by decide, kw_572, by decide⟩
theorem kw_575 : Cond.fieldLink "LandSurvey$Sight" 18 "LandSurvey$Sight" "dipBeyond" "I" ∈ uu := uu_in (i := 575) (by decide +kernel) (by decide +kernel)
theorem fk_LandSurvey_Sight_18 : fkI "LandSurvey$Sight" 18 8 8 RX8 TX8 19 := ⟨rfl, rfl, inX8, by decide, kw_575, by decide⟩
theorem kw_582 : Cond.fieldLink "LandSurvey$Sight" 21 "LandSurvey$Sight" "remain" "I" ∈ uu := uu_in (i := 582) (by decide +kernel) (by decide +kernel)
theorem fk_LandSurvey_Sight_21 : fkI "LandSurvey$Sight" 21 8 11 RX8 TX8 19 := ⟨rfl, rfl, inX8, by decide, kw_582, by decide⟩
theorem kw_585 : Cond.fieldLink "LandSurvey$Sight" 24 "LandSurvey$Sight" "namedBy" "I" ∈ uu := uu_in (i := 585) (by decide +kernel) (by decide +kernel)
theorem fk_LandSurvey_Sight_24 : fkI "LandSurvey$Sight" 24 8 13 RX8 TX8 19 := ⟨rfl, rfl, inX8, by decide, kw_585, by decide⟩
theorem kw_587 : Cond.fieldLink "LandSurvey$Sight" 27 "LandSurvey$Sight" "rock" "I" ∈ uu := uu_in (i := 587) (by decide +kernel) (by decide +kernel)
theorem fk_LandSurvey_Sight_27 : fkI "LandSurvey$Sight" 27 8 14 RX8 TX8 19 := ⟨rfl, rfl, inX8, by decide, kw_587, by decide⟩
theorem kw_558 : Cond.fieldLink "LandSurvey$Sight" 30 "LandSurvey$Sight" "kind" "I" ∈ uu := uu_in (i := 558) (by decide +kernel) (by decide +kernel)
theorem fk_LandSurvey_Sight_30 : fkI "LandSurvey$Sight" 30 8 0 RX8 TX8 19 := ⟨rfl, rfl, inX8, by decide, kw_558, by decide⟩
theorem kw_560 : Cond.fieldLink "LandSurvey$Sight" 33 "LandSurvey$Sight" "cell" "I" ∈ uu := uu_in (i := 560) (by decide +kernel) (by decide +kernel)
theorem fk_LandSurvey_Sight_33 : fkI "LandSurvey$Sight" 33 8 1 RX8 TX8 19 := ⟨rfl, rfl, inX8, by decide, kw_560, by decide⟩
theorem kw_563 : Cond.fieldLink "LandSurvey$Sight" 36 "LandSurvey$Sight" "depth" "I" ∈ uu := uu_in (i := 563) (by decide +kernel) (by decide +kernel)
theorem fk_LandSurvey_Sight_36 : fkI "LandSurvey$Sight" 36 8 2 RX8 TX8 19 := ⟨rfl, rfl, inX8, by decide, kw_563, by decide⟩
theorem kw_565 : Cond.fieldLink "LandSurvey$Sight" 39 "LandSurvey$Sight" "hand" "I" ∈ uu := uu_in (i := 565) (by decide +kernel) (by decide +kernel)
theorem fk_LandSurvey_Sight_39 : fkI "LandSurvey$Sight" 39 8 3 RX8 TX8 19 := ⟨rfl, rfl, inX8, by decide, kw_565, by decide⟩
theorem kw_567 : Cond.fieldLink "LandSurvey$Sight" 42 "LandSurvey$Sight" "facts" "I" ∈ uu := uu_in (i := 567) (by decide +kernel) (by decide +kernel)
theorem fk_LandSurvey_Sight_42 : fkI "LandSurvey$Sight" 42 8 4 RX8 TX8 19 := ⟨rfl, rfl, inX8, by decide, kw_567, by decide⟩
theorem dX8_init_0 : decode cX8_init 0 = .ok (.aload_n 0, 1) := by decide +kernel
theorem dX8_init_1 : decode cX8_init 1 = .ok (.invokespecial 3, 3) := by decide +kernel
theorem kw_557 : Cond.methodLink "LandSurvey$Sight" 3 (⟨"java/lang/Object", "<init>", "()V"⟩ : MethodName) ∈ uu := uu_in (i := 557) (by decide +kernel) (by decide +kernel)
theorem dX8_init_4 : decode cX8_init 4 = .ok (.aload_n 0, 1) := by decide +kernel
theorem dX8_init_5 : decode cX8_init 5 = .ok (.iconst (-1), 1) := by decide +kernel
theorem dX8_init_6 : decode cX8_init 6 = .ok (.putfield 9, 3) := by decide +kernel
theorem dX8_init_9 : decode cX8_init 9 = .ok (.aload_n 0, 1) := by decide +kernel
theorem dX8_init_10 : decode cX8_init 10 = .ok (.iconst (-1), 1) := by decide +kernel
theorem dX8_init_11 : decode cX8_init 11 = .ok (.putfield 15, 3) := by decide +kernel
theorem pk_LandSurvey_Sight_7 : pk RX8 TX8 19 7 tyX8 false := ⟨tyX8_ok, nmX8, rfl⟩
theorem dX8_init_14 : decode cX8_init 14 = .ok (.aload_n 0, 1) := by decide +kernel
theorem dX8_init_15 : decode cX8_init 15 = .ok (.iconst (-1), 1) := by decide +kernel
theorem dX8_init_16 : decode cX8_init 16 = .ok (.putfield 18, 3) := by decide +kernel
theorem pk_LandSurvey_Sight_8 : pk RX8 TX8 19 8 tyX8 false := ⟨tyX8_ok, nmX8, rfl⟩
theorem dX8_init_19 : decode cX8_init 19 = .ok (.aload_n 0, 1) := by decide +kernel
theorem dX8_init_20 : decode cX8_init 20 = .ok (.iconst (-1), 1) := by decide +kernel
theorem dX8_init_21 : decode cX8_init 21 = .ok (.putfield 21, 3) := by decide +kernel
theorem dX8_init_24 : decode cX8_init 24 = .ok (.aload_n 0, 1) := by decide +kernel
theorem dX8_init_25 : decode cX8_init 25 = .ok (.iconst (-1), 1) := by decide +kernel
theorem dX8_init_26 : decode cX8_init 26 = .ok (.putfield 24, 3) := by decide +kernel
theorem dX8_init_29 : decode cX8_init 29 = .ok (.aload_n 0, 1) := by decide +kernel
theorem dX8_init_30 : decode cX8_init 30 = .ok (.iconst (-1), 1) := by decide +kernel
theorem dX8_init_31 : decode cX8_init 31 = .ok (.putfield 27, 3) := by decide +kernel
theorem dX8_init_34 : decode cX8_init 34 = .ok (.aload_n 0, 1) := by decide +kernel
theorem dX8_init_35 : decode cX8_init 35 = .ok (.iload_n 1, 1) := by decide +kernel
theorem dX8_init_36 : decode cX8_init 36 = .ok (.putfield 30, 3) := by decide +kernel
theorem pk_LandSurvey_Sight_0 : pk RX8 TX8 19 0 tyX8 true := ⟨tyX8_ok, nmX8, rfl⟩
theorem dX8_init_39 : decode cX8_init 39 = .ok (.aload_n 0, 1) := by decide +kernel
theorem dX8_init_40 : decode cX8_init 40 = .ok (.iload_n 2, 1) := by decide +kernel
theorem dX8_init_41 : decode cX8_init 41 = .ok (.putfield 33, 3) := by decide +kernel
theorem pk_LandSurvey_Sight_1 : pk RX8 TX8 19 1 tyX8 true := ⟨tyX8_ok, nmX8, rfl⟩
theorem dX8_init_44 : decode cX8_init 44 = .ok (.aload_n 0, 1) := by decide +kernel
theorem dX8_init_45 : decode cX8_init 45 = .ok (.iload_n 3, 1) := by decide +kernel
theorem dX8_init_46 : decode cX8_init 46 = .ok (.putfield 36, 3) := by decide +kernel
theorem pk_LandSurvey_Sight_2 : pk RX8 TX8 19 2 tyX8 true := ⟨tyX8_ok, nmX8, rfl⟩
theorem dX8_init_49 : decode cX8_init 49 = .ok (.aload_n 0, 1) := by decide +kernel
theorem dX8_init_50 : decode cX8_init 50 = .ok (.iload 4, 2) := by decide +kernel
theorem dX8_init_52 : decode cX8_init 52 = .ok (.putfield 39, 3) := by decide +kernel
theorem pk_LandSurvey_Sight_3 : pk RX8 TX8 19 3 tyX8 true := ⟨tyX8_ok, nmX8, rfl⟩
theorem dX8_init_55 : decode cX8_init 55 = .ok (.aload_n 0, 1) := by decide +kernel
theorem dX8_init_56 : decode cX8_init 56 = .ok (.iload 5, 2) := by decide +kernel
theorem dX8_init_58 : decode cX8_init 58 = .ok (.putfield 42, 3) := by decide +kernel
theorem pk_LandSurvey_Sight_4 : pk RX8 TX8 19 4 tyX8 true := ⟨tyX8_ok, nmX8, rfl⟩
theorem dX8_init_61 : decode cX8_init 61 = .ok (.aload_n 0, 1) := by decide +kernel
theorem dX8_init_62 : decode cX8_init 62 = .ok (.iload 6, 2) := by decide +kernel
theorem dX8_init_64 : decode cX8_init 64 = .ok (.putfield 45, 3) := by decide +kernel
theorem pk_LandSurvey_Sight_5 : pk RX8 TX8 19 5 tyX8 true := ⟨tyX8_ok, nmX8, rfl⟩
theorem dX8_init_67 : decode cX8_init 67 = .ok (.return_, 1) := by decide +kernel
abbrev cX0_init : ByteArray := prog_2_method_1_code
def yX0_init : MethodName := ⟨RX0, "<init>", "(IZIIII)V"⟩
theorem okX0_init : yok yX0_init 6 := by decide +kernel
theorem kw_919 : Cond.fieldLink "LandSurvey$Break" 7 "LandSurvey$Break" "cell" "I" ∈ uu := uu_in (i := 919) (by decide +kernel) (by decide +kernel)
theorem fk_LandSurvey_Break_7 : fkI "LandSurvey$Break" 7 0 0 RX0 TX0 6 := ⟨rfl, rfl, inX0, by decide, kw_919, by decide⟩
theorem kw_921 : Cond.fieldLink "LandSurvey$Break" 13 "LandSurvey$Break" "down" "Z" ∈ uu := uu_in (i := 921) (by decide +kernel) (by decide +kernel)
theorem fk_LandSurvey_Break_13 : fkI "LandSurvey$Break" 13 0 1 RX0 TX0 6 := ⟨rfl, rfl, inX0, by decide, kw_921, by decide⟩
theorem kw_923 : Cond.fieldLink "LandSurvey$Break" 17 "LandSurvey$Break" "sides" "I" ∈ uu := uu_in (i := 923) (by decide +kernel) (by decide +kernel)
theorem fk_LandSurvey_Break_17 : fkI "LandSurvey$Break" 17 0 2 RX0 TX0 6 := ⟨rfl, rfl, inX0, by decide, kw_923, by decide⟩
theorem kw_925 : Cond.fieldLink "LandSurvey$Break" 20 "LandSurvey$Break" "from" "I" ∈ uu := uu_in (i := 925) (by decide +kernel) (by decide +kernel)
theorem fk_LandSurvey_Break_20 : fkI "LandSurvey$Break" 20 0 3 RX0 TX0 6 := ⟨rfl, rfl, inX0, by decide, kw_925, by decide⟩
theorem kw_927 : Cond.fieldLink "LandSurvey$Break" 23 "LandSurvey$Break" "to" "I" ∈ uu := uu_in (i := 927) (by decide +kernel) (by decide +kernel)
theorem fk_LandSurvey_Break_23 : fkI "LandSurvey$Break" 23 0 4 RX0 TX0 6 := ⟨rfl, rfl, inX0, by decide, kw_927, by decide⟩
theorem kw_929 : Cond.fieldLink "LandSurvey$Break" 26 "LandSurvey$Break" "cost" "I" ∈ uu := uu_in (i := 929) (by decide +kernel) (by decide +kernel)
theorem fk_LandSurvey_Break_26 : fkI "LandSurvey$Break" 26 0 5 RX0 TX0 6 := ⟨rfl, rfl, inX0, by decide, kw_929, by decide⟩
theorem dX0_init_0 : decode cX0_init 0 = .ok (.aload_n 0, 1) := by decide +kernel
theorem dX0_init_1 : decode cX0_init 1 = .ok (.invokespecial 1, 3) := by decide +kernel
theorem kw_918 : Cond.methodLink "LandSurvey$Break" 1 (⟨"java/lang/Object", "<init>", "()V"⟩ : MethodName) ∈ uu := uu_in (i := 918) (by decide +kernel) (by decide +kernel)
theorem dX0_init_4 : decode cX0_init 4 = .ok (.aload_n 0, 1) := by decide +kernel
theorem dX0_init_5 : decode cX0_init 5 = .ok (.iload_n 1, 1) := by decide +kernel
theorem dX0_init_6 : decode cX0_init 6 = .ok (.putfield 7, 3) := by decide +kernel
theorem pk_LandSurvey_Break_0 : pk RX0 TX0 6 0 tyX0 true := ⟨tyX0_ok, nmX0, rfl⟩
theorem dX0_init_9 : decode cX0_init 9 = .ok (.aload_n 0, 1) := by decide +kernel
theorem dX0_init_10 : decode cX0_init 10 = .ok (.iload_n 2, 1) := by decide +kernel
theorem dX0_init_11 : decode cX0_init 11 = .ok (.putfield 13, 3) := by decide +kernel
theorem pk_LandSurvey_Break_1 : pk RX0 TX0 6 1 tyX0 true := ⟨tyX0_ok, nmX0, rfl⟩
theorem dX0_init_14 : decode cX0_init 14 = .ok (.aload_n 0, 1) := by decide +kernel
theorem dX0_init_15 : decode cX0_init 15 = .ok (.iload_n 3, 1) := by decide +kernel
theorem dX0_init_16 : decode cX0_init 16 = .ok (.putfield 17, 3) := by decide +kernel
theorem pk_LandSurvey_Break_2 : pk RX0 TX0 6 2 tyX0 true := ⟨tyX0_ok, nmX0, rfl⟩
theorem dX0_init_19 : decode cX0_init 19 = .ok (.aload_n 0, 1) := by decide +kernel
theorem dX0_init_20 : decode cX0_init 20 = .ok (.iload 4, 2) := by decide +kernel
theorem dX0_init_22 : decode cX0_init 22 = .ok (.putfield 20, 3) := by decide +kernel
theorem pk_LandSurvey_Break_3 : pk RX0 TX0 6 3 tyX0 true := ⟨tyX0_ok, nmX0, rfl⟩
theorem dX0_init_25 : decode cX0_init 25 = .ok (.aload_n 0, 1) := by decide +kernel
theorem dX0_init_26 : decode cX0_init 26 = .ok (.iload 5, 2) := by decide +kernel
theorem dX0_init_28 : decode cX0_init 28 = .ok (.putfield 23, 3) := by decide +kernel
theorem pk_LandSurvey_Break_4 : pk RX0 TX0 6 4 tyX0 true := ⟨tyX0_ok, nmX0, rfl⟩
theorem dX0_init_31 : decode cX0_init 31 = .ok (.aload_n 0, 1) := by decide +kernel
theorem dX0_init_32 : decode cX0_init 32 = .ok (.iload 6, 2) := by decide +kernel
theorem dX0_init_34 : decode cX0_init 34 = .ok (.putfield 26, 3) := by decide +kernel
theorem pk_LandSurvey_Break_5 : pk RX0 TX0 6 5 tyX0 true := ⟨tyX0_ok, nmX0, rfl⟩
theorem dX0_init_37 : decode cX0_init 37 = .ok (.return_, 1) := by decide +kernel
abbrev cX11_sight : ByteArray := prog_1_method_7_code
def yX11_sight : MethodName := ⟨RX11, "sight", "(IIIIII)I"⟩
theorem okX11_sight : yok yX11_sight 6 := by decide +kernel
theorem dX11_sight_0 : decode cX11_sight 0 = .ok (.iload_n 2, 1) := by decide +kernel
theorem dX11_sight_1 : decode cX11_sight 1 = .ok (.iload_n 3, 1) := by decide +kernel
theorem dX11_sight_2 : decode cX11_sight 2 = .ok (.invokestatic 85, 3) := by decide +kernel
theorem dX11_sight_5 : decode cX11_sight 5 = .ok (.istore 7, 2) := by decide +kernel
theorem dX11_sight_7 : decode cX11_sight 7 = .ok (.iload 7, 2) := by decide +kernel
theorem dX11_sight_9 : decode cX11_sight 9 = .ok (.iconst (-1), 1) := by decide +kernel
theorem dX11_sight_10 : decode cX11_sight 10 = .ok (.if_icmp .eq 21, 3) := by decide +kernel
theorem dX11_sight_31 : decode cX11_sight 31 = .ok (.iconst (-1), 1) := by decide +kernel
theorem dX11_sight_32 : decode cX11_sight 32 = .ok (.ireturn, 1) := by decide +kernel
theorem dX11_sight_13 : decode cX11_sight 13 = .ok (.iload_n 1, 1) := by decide +kernel
theorem dX11_sight_14 : decode cX11_sight 14 = .ok (.ifCond .lt 17, 3) := by decide +kernel
theorem dX11_sight_17 : decode cX11_sight 17 = .ok (.iload_n 1, 1) := by decide +kernel
theorem dX11_sight_18 : decode cX11_sight 18 = .ok (.iconst 4, 1) := by decide +kernel
theorem dX11_sight_19 : decode cX11_sight 19 = .ok (.if_icmp .gt 12, 3) := by decide +kernel
theorem dX11_sight_22 : decode cX11_sight 22 = .ok (.aload_n 0, 1) := by decide +kernel
theorem dX11_sight_23 : decode cX11_sight 23 = .ok (.getfield 102, 3) := by decide +kernel
theorem dX11_sight_26 : decode cX11_sight 26 = .ok (.bipush 40, 2) := by decide +kernel
theorem dX11_sight_28 : decode cX11_sight 28 = .ok (.if_icmp .lt 5, 3) := by decide +kernel
theorem dX11_sight_33 : decode cX11_sight 33 = .ok (.iload_n 1, 1) := by decide +kernel
theorem dX11_sight_34 : decode cX11_sight 34 = .ok (.ifCond .eq 8, 3) := by decide +kernel
theorem dX11_sight_42 : decode cX11_sight 42 = .ok (.iconst 0, 1) := by decide +kernel
theorem dX11_sight_43 : decode cX11_sight 43 = .ok (.goto 6, 3) := by decide +kernel
theorem dX11_sight_49 : decode cX11_sight 49 = .ok (.istore 8, 2) := by decide +kernel
theorem dX11_sight_51 : decode cX11_sight 51 = .ok (.iload 4, 2) := by decide +kernel
theorem dX11_sight_53 : decode cX11_sight 53 = .ok (.ifCond .lt 35, 3) := by decide +kernel
theorem dX11_sight_88 : decode cX11_sight 88 = .ok (.iconst (-1), 1) := by decide +kernel
theorem dX11_sight_89 : decode cX11_sight 89 = .ok (.ireturn, 1) := by decide +kernel
theorem dX11_sight_56 : decode cX11_sight 56 = .ok (.iload 4, 2) := by decide +kernel
theorem dX11_sight_58 : decode cX11_sight 58 = .ok (.iload 8, 2) := by decide +kernel
theorem dX11_sight_60 : decode cX11_sight 60 = .ok (.if_icmp .gt 28, 3) := by decide +kernel
theorem dX11_sight_63 : decode cX11_sight 63 = .ok (.iload 5, 2) := by decide +kernel
theorem dX11_sight_65 : decode cX11_sight 65 = .ok (.ifCond .lt 23, 3) := by decide +kernel
theorem dX11_sight_68 : decode cX11_sight 68 = .ok (.iload 5, 2) := by decide +kernel
theorem dX11_sight_70 : decode cX11_sight 70 = .ok (.bipush 6, 2) := by decide +kernel
theorem dX11_sight_72 : decode cX11_sight 72 = .ok (.if_icmp .ge 16, 3) := by decide +kernel
theorem dX11_sight_75 : decode cX11_sight 75 = .ok (.iload 6, 2) := by decide +kernel
theorem dX11_sight_77 : decode cX11_sight 77 = .ok (.ifCond .lt 11, 3) := by decide +kernel
theorem dX11_sight_80 : decode cX11_sight 80 = .ok (.iload 6, 2) := by decide +kernel
theorem dX11_sight_82 : decode cX11_sight 82 = .ok (.sipush 9999, 3) := by decide +kernel
theorem dX11_sight_85 : decode cX11_sight 85 = .ok (.if_icmp .le 5, 3) := by decide +kernel
theorem dX11_sight_90 : decode cX11_sight 90 = .ok (.iload_n 1, 1) := by decide +kernel
theorem dX11_sight_91 : decode cX11_sight 91 = .ok (.ifCond .ne 18, 3) := by decide +kernel
theorem dX11_sight_94 : decode cX11_sight 94 = .ok (.aload_n 0, 1) := by decide +kernel
theorem dX11_sight_95 : decode cX11_sight 95 = .ok (.getfield 16, 3) := by decide +kernel
theorem dX11_sight_98 : decode cX11_sight 98 = .ok (.getfield 92, 3) := by decide +kernel
theorem dX11_sight_101 : decode cX11_sight 101 = .ok (.iload 7, 2) := by decide +kernel
theorem dX11_sight_103 : decode cX11_sight 103 = .ok (.baload, 1) := by decide +kernel
theorem dX11_sight_104 : decode cX11_sight 104 = .ok (.ifCond .eq 5, 3) := by decide +kernel
theorem dX11_sight_109 : decode cX11_sight 109 = .ok (.new 20, 3) := by decide +kernel
theorem kw_226 : Cond.classLink "LandSurvey" 20 "LandSurvey$Sight" ∈ uu := uu_in (i := 226) (by decide +kernel) (by decide +kernel)
theorem kw_553 : Cond.instantiable "LandSurvey$Sight" 19 ∈ uu := uu_in (i := 553) (by decide +kernel) (by decide +kernel)
theorem dX11_sight_112 : decode cX11_sight 112 = .ok (.dup, 1) := by decide +kernel
theorem dX11_sight_113 : decode cX11_sight 113 = .ok (.iload_n 1, 1) := by decide +kernel
theorem dX11_sight_114 : decode cX11_sight 114 = .ok (.iload 7, 2) := by decide +kernel
theorem dX11_sight_116 : decode cX11_sight 116 = .ok (.iload 4, 2) := by decide +kernel
theorem dX11_sight_118 : decode cX11_sight 118 = .ok (.iload 5, 2) := by decide +kernel
theorem dX11_sight_120 : decode cX11_sight 120 = .ok (.iload 6, 2) := by decide +kernel
theorem dX11_sight_122 : decode cX11_sight 122 = .ok (.aload_n 0, 1) := by decide +kernel
theorem dX11_sight_123 : decode cX11_sight 123 = .ok (.getfield 78, 3) := by decide +kernel
theorem dX11_sight_126 : decode cX11_sight 126 = .ok (.invokespecial 105, 3) := by decide +kernel
theorem kw_556 : Cond.code yX8_init prog_10_method_1_code 7 none ∈ uu := uu_in (i := 556) (by decide +kernel) (by decide +kernel)
theorem kw_554 : Cond.methodLink "LandSurvey" 105 yX8_init ∈ uu := uu_in (i := 554) (by decide +kernel) (by decide +kernel)
theorem kw_555 : Cond.instanceMethod yX8_init ∈ uu := uu_in (i := 555) (by decide +kernel) (by decide +kernel)
theorem lk_LandSurvey_105 : lkI "LandSurvey" 105 yX8_init cX8_init 7 none 6 := ⟨kw_554, kw_555, kw_153, kw_556, okX8_init, rfl⟩
theorem dX11_sight_129 : decode cX11_sight 129 = .ok (.astore 9, 2) := by decide +kernel
theorem dX11_sight_131 : decode cX11_sight 131 = .ok (.aload_n 0, 1) := by decide +kernel
theorem dX11_sight_132 : decode cX11_sight 132 = .ok (.getfield 22, 3) := by decide +kernel
theorem dX11_sight_135 : decode cX11_sight 135 = .ok (.aload_n 0, 1) := by decide +kernel
theorem dX11_sight_136 : decode cX11_sight 136 = .ok (.getfield 102, 3) := by decide +kernel
theorem dX11_sight_139 : decode cX11_sight 139 = .ok (.aload 9, 2) := by decide +kernel
theorem dX11_sight_141 : decode cX11_sight 141 = .ok (.aastore, 1) := by decide +kernel
theorem dX11_sight_142 : decode cX11_sight 142 = .ok (.aload_n 0, 1) := by decide +kernel
theorem dX11_sight_143 : decode cX11_sight 143 = .ok (.iconst 0, 1) := by decide +kernel
theorem dX11_sight_144 : decode cX11_sight 144 = .ok (.putfield 81, 3) := by decide +kernel
theorem dX11_sight_147 : decode cX11_sight 147 = .ok (.aload_n 0, 1) := by decide +kernel
theorem dX11_sight_148 : decode cX11_sight 148 = .ok (.dup, 1) := by decide +kernel
theorem dX11_sight_149 : decode cX11_sight 149 = .ok (.getfield 102, 3) := by decide +kernel
theorem dX11_sight_152 : decode cX11_sight 152 = .ok (.dup_x1, 1) := by decide +kernel
theorem dX11_sight_153 : decode cX11_sight 153 = .ok (.iconst 1, 1) := by decide +kernel
theorem dX11_sight_154 : decode cX11_sight 154 = .ok (.iadd, 1) := by decide +kernel
theorem dX11_sight_155 : decode cX11_sight 155 = .ok (.putfield 102, 3) := by decide +kernel
theorem pk_LandSurvey_4 : pk RX11 TX11 19 4 tyX11 false := ⟨tyX11_ok, nmX11, rfl⟩
theorem dX11_sight_158 : decode cX11_sight 158 = .ok (.ireturn, 1) := by decide +kernel
theorem dX11_sight_107 : decode cX11_sight 107 = .ok (.iconst (-1), 1) := by decide +kernel
theorem dX11_sight_108 : decode cX11_sight 108 = .ok (.ireturn, 1) := by decide +kernel
theorem dX11_sight_37 : decode cX11_sight 37 = .ok (.iload_n 1, 1) := by decide +kernel
theorem dX11_sight_38 : decode cX11_sight 38 = .ok (.iconst 1, 1) := by decide +kernel
theorem dX11_sight_39 : decode cX11_sight 39 = .ok (.if_icmp .ne 7, 3) := by decide +kernel
theorem dX11_sight_46 : decode cX11_sight 46 = .ok (.sipush 999, 3) := by decide +kernel
abbrev cX11_dip : ByteArray := prog_1_method_8_code
def yX11_dip : MethodName := ⟨RX11, "dip", "(IIII)Z"⟩
theorem okX11_dip : yok yX11_dip 4 := by decide +kernel
theorem kw_573 : Cond.fieldLink "LandSurvey" 112 "LandSurvey$Sight" "dipWhere" "I" ∈ uu := uu_in (i := 573) (by decide +kernel) (by decide +kernel)
theorem fk_LandSurvey_112 : fkI "LandSurvey" 112 8 7 RX8 TX8 19 := ⟨rfl, rfl, inX8, by decide, kw_573, by decide⟩
theorem kw_576 : Cond.fieldLink "LandSurvey" 121 "LandSurvey$Sight" "dipBeyond" "I" ∈ uu := uu_in (i := 576) (by decide +kernel) (by decide +kernel)
theorem fk_LandSurvey_121 : fkI "LandSurvey" 121 8 8 RX8 TX8 19 := ⟨rfl, rfl, inX8, by decide, kw_576, by decide⟩
theorem kw_578 : Cond.fieldLink "LandSurvey" 124 "LandSurvey$Sight" "dipRise" "I" ∈ uu := uu_in (i := 578) (by decide +kernel) (by decide +kernel)
theorem fk_LandSurvey_124 : fkI "LandSurvey" 124 8 9 RX8 TX8 19 := ⟨rfl, rfl, inX8, by decide, kw_578, by decide⟩
theorem kw_580 : Cond.fieldLink "LandSurvey" 127 "LandSurvey$Sight" "dipSlack" "I" ∈ uu := uu_in (i := 580) (by decide +kernel) (by decide +kernel)
theorem fk_LandSurvey_127 : fkI "LandSurvey" 127 8 10 RX8 TX8 19 := ⟨rfl, rfl, inX8, by decide, kw_580, by decide⟩
theorem dX11_dip_0 : decode cX11_dip 0 = .ok (.aload_n 0, 1) := by decide +kernel
theorem dX11_dip_1 : decode cX11_dip 1 = .ok (.iload_n 1, 1) := by decide +kernel
theorem dX11_dip_2 : decode cX11_dip 2 = .ok (.invokevirtual 108, 3) := by decide +kernel
theorem dX11_dip_5 : decode cX11_dip 5 = .ok (.ifCond .eq 16, 3) := by decide +kernel
theorem dX11_dip_21 : decode cX11_dip 21 = .ok (.iconst 0, 1) := by decide +kernel
theorem dX11_dip_22 : decode cX11_dip 22 = .ok (.ireturn, 1) := by decide +kernel
theorem dX11_dip_8 : decode cX11_dip 8 = .ok (.aload_n 0, 1) := by decide +kernel
theorem dX11_dip_9 : decode cX11_dip 9 = .ok (.getfield 22, 3) := by decide +kernel
theorem dX11_dip_12 : decode cX11_dip 12 = .ok (.iload_n 1, 1) := by decide +kernel
theorem dX11_dip_13 : decode cX11_dip 13 = .ok (.aaload, 1) := by decide +kernel
theorem dX11_dip_14 : decode cX11_dip 14 = .ok (.getfield 112, 3) := by decide +kernel
theorem dX11_dip_17 : decode cX11_dip 17 = .ok (.iconst (-1), 1) := by decide +kernel
theorem dX11_dip_18 : decode cX11_dip 18 = .ok (.if_icmp .eq 5, 3) := by decide +kernel
theorem dX11_dip_23 : decode cX11_dip 23 = .ok (.iload_n 2, 1) := by decide +kernel
theorem dX11_dip_24 : decode cX11_dip 24 = .ok (.ifCond .lt 32, 3) := by decide +kernel
theorem dX11_dip_56 : decode cX11_dip 56 = .ok (.iconst 0, 1) := by decide +kernel
theorem dX11_dip_57 : decode cX11_dip 57 = .ok (.ireturn, 1) := by decide +kernel
theorem dX11_dip_27 : decode cX11_dip 27 = .ok (.iload_n 2, 1) := by decide +kernel
theorem dX11_dip_28 : decode cX11_dip 28 = .ok (.iconst 4, 1) := by decide +kernel
theorem dX11_dip_29 : decode cX11_dip 29 = .ok (.if_icmp .ge 27, 3) := by decide +kernel
theorem dX11_dip_32 : decode cX11_dip 32 = .ok (.iload_n 3, 1) := by decide +kernel
theorem dX11_dip_33 : decode cX11_dip 33 = .ok (.bipush (-99), 2) := by decide +kernel
theorem dX11_dip_35 : decode cX11_dip 35 = .ok (.if_icmp .lt 21, 3) := by decide +kernel
theorem dX11_dip_38 : decode cX11_dip 38 = .ok (.iload_n 3, 1) := by decide +kernel
theorem dX11_dip_39 : decode cX11_dip 39 = .ok (.bipush 99, 2) := by decide +kernel
theorem dX11_dip_41 : decode cX11_dip 41 = .ok (.if_icmp .gt 15, 3) := by decide +kernel
theorem dX11_dip_44 : decode cX11_dip 44 = .ok (.iload 4, 2) := by decide +kernel
theorem dX11_dip_46 : decode cX11_dip 46 = .ok (.ifCond .lt 10, 3) := by decide +kernel
theorem dX11_dip_49 : decode cX11_dip 49 = .ok (.iload 4, 2) := by decide +kernel
theorem dX11_dip_51 : decode cX11_dip 51 = .ok (.bipush 99, 2) := by decide +kernel
theorem dX11_dip_53 : decode cX11_dip 53 = .ok (.if_icmp .le 5, 3) := by decide +kernel
theorem dX11_dip_58 : decode cX11_dip 58 = .ok (.aload_n 0, 1) := by decide +kernel
theorem dX11_dip_59 : decode cX11_dip 59 = .ok (.getfield 22, 3) := by decide +kernel
theorem dX11_dip_62 : decode cX11_dip 62 = .ok (.iload_n 1, 1) := by decide +kernel
theorem dX11_dip_63 : decode cX11_dip 63 = .ok (.aaload, 1) := by decide +kernel
theorem dX11_dip_64 : decode cX11_dip 64 = .ok (.iload_n 2, 1) := by decide +kernel
theorem dX11_dip_65 : decode cX11_dip 65 = .ok (.putfield 112, 3) := by decide +kernel
theorem dX11_dip_68 : decode cX11_dip 68 = .ok (.aload_n 0, 1) := by decide +kernel
theorem dX11_dip_69 : decode cX11_dip 69 = .ok (.getfield 22, 3) := by decide +kernel
theorem dX11_dip_72 : decode cX11_dip 72 = .ok (.iload_n 1, 1) := by decide +kernel
theorem dX11_dip_73 : decode cX11_dip 73 = .ok (.aaload, 1) := by decide +kernel
theorem dX11_dip_74 : decode cX11_dip 74 = .ok (.aload_n 0, 1) := by decide +kernel
theorem dX11_dip_75 : decode cX11_dip 75 = .ok (.getfield 22, 3) := by decide +kernel
theorem dX11_dip_78 : decode cX11_dip 78 = .ok (.iload_n 1, 1) := by decide +kernel
theorem dX11_dip_79 : decode cX11_dip 79 = .ok (.aaload, 1) := by decide +kernel
theorem dX11_dip_80 : decode cX11_dip 80 = .ok (.getfield 115, 3) := by decide +kernel
theorem dX11_dip_83 : decode cX11_dip 83 = .ok (.iload_n 2, 1) := by decide +kernel
theorem dX11_dip_84 : decode cX11_dip 84 = .ok (.invokestatic 118, 3) := by decide +kernel
theorem dX11_dip_87 : decode cX11_dip 87 = .ok (.putfield 121, 3) := by decide +kernel
theorem dX11_dip_90 : decode cX11_dip 90 = .ok (.aload_n 0, 1) := by decide +kernel
theorem dX11_dip_91 : decode cX11_dip 91 = .ok (.getfield 22, 3) := by decide +kernel
theorem dX11_dip_94 : decode cX11_dip 94 = .ok (.iload_n 1, 1) := by decide +kernel
theorem dX11_dip_95 : decode cX11_dip 95 = .ok (.aaload, 1) := by decide +kernel
theorem dX11_dip_96 : decode cX11_dip 96 = .ok (.iload_n 3, 1) := by decide +kernel
theorem dX11_dip_97 : decode cX11_dip 97 = .ok (.putfield 124, 3) := by decide +kernel
theorem pk_LandSurvey_Sight_9 : pk RX8 TX8 19 9 tyX8 false := ⟨tyX8_ok, nmX8, rfl⟩
theorem dX11_dip_100 : decode cX11_dip 100 = .ok (.aload_n 0, 1) := by decide +kernel
theorem dX11_dip_101 : decode cX11_dip 101 = .ok (.getfield 22, 3) := by decide +kernel
theorem dX11_dip_104 : decode cX11_dip 104 = .ok (.iload_n 1, 1) := by decide +kernel
theorem dX11_dip_105 : decode cX11_dip 105 = .ok (.aaload, 1) := by decide +kernel
theorem dX11_dip_106 : decode cX11_dip 106 = .ok (.iload 4, 2) := by decide +kernel
theorem dX11_dip_108 : decode cX11_dip 108 = .ok (.putfield 127, 3) := by decide +kernel
theorem pk_LandSurvey_Sight_10 : pk RX8 TX8 19 10 tyX8 false := ⟨tyX8_ok, nmX8, rfl⟩
theorem dX11_dip_111 : decode cX11_dip 111 = .ok (.aload_n 0, 1) := by decide +kernel
theorem dX11_dip_112 : decode cX11_dip 112 = .ok (.iconst 0, 1) := by decide +kernel
theorem dX11_dip_113 : decode cX11_dip 113 = .ok (.putfield 81, 3) := by decide +kernel
theorem dX11_dip_116 : decode cX11_dip 116 = .ok (.iconst 1, 1) := by decide +kernel
theorem dX11_dip_117 : decode cX11_dip 117 = .ok (.ireturn, 1) := by decide +kernel
abbrev cX11_fault : ByteArray := prog_1_method_13_code
def yX11_fault : MethodName := ⟨RX11, "fault", "(IIZIIII)I"⟩
theorem okX11_fault : yok yX11_fault 7 := by decide +kernel
theorem dX11_fault_0 : decode cX11_fault 0 = .ok (.iload_n 1, 1) := by decide +kernel
theorem dX11_fault_1 : decode cX11_fault 1 = .ok (.iload_n 2, 1) := by decide +kernel
theorem dX11_fault_2 : decode cX11_fault 2 = .ok (.invokestatic 85, 3) := by decide +kernel
theorem dX11_fault_5 : decode cX11_fault 5 = .ok (.istore 8, 2) := by decide +kernel
theorem dX11_fault_7 : decode cX11_fault 7 = .ok (.iload 8, 2) := by decide +kernel
theorem dX11_fault_9 : decode cX11_fault 9 = .ok (.iconst (-1), 1) := by decide +kernel
theorem dX11_fault_10 : decode cX11_fault 10 = .ok (.if_icmp .eq 24, 3) := by decide +kernel
theorem dX11_fault_34 : decode cX11_fault 34 = .ok (.iconst (-1), 1) := by decide +kernel
theorem dX11_fault_35 : decode cX11_fault 35 = .ok (.ireturn, 1) := by decide +kernel
theorem dX11_fault_13 : decode cX11_fault 13 = .ok (.aload_n 0, 1) := by decide +kernel
theorem dX11_fault_14 : decode cX11_fault 14 = .ok (.getfield 157, 3) := by decide +kernel
theorem dX11_fault_17 : decode cX11_fault 17 = .ok (.iconst 4, 1) := by decide +kernel
theorem dX11_fault_18 : decode cX11_fault 18 = .ok (.if_icmp .ge 16, 3) := by decide +kernel
theorem dX11_fault_21 : decode cX11_fault 21 = .ok (.iload 4, 2) := by decide +kernel
theorem dX11_fault_23 : decode cX11_fault 23 = .ok (.iconst 1, 1) := by decide +kernel
theorem dX11_fault_24 : decode cX11_fault 24 = .ok (.if_icmp .lt 10, 3) := by decide +kernel
theorem dX11_fault_27 : decode cX11_fault 27 = .ok (.iload 4, 2) := by decide +kernel
theorem dX11_fault_29 : decode cX11_fault 29 = .ok (.bipush 12, 2) := by decide +kernel
theorem dX11_fault_31 : decode cX11_fault 31 = .ok (.if_icmp .le 5, 3) := by decide +kernel
theorem dX11_fault_36 : decode cX11_fault 36 = .ok (.iload 5, 2) := by decide +kernel
theorem dX11_fault_38 : decode cX11_fault 38 = .ok (.sipush (-300), 3) := by decide +kernel
theorem dX11_fault_41 : decode cX11_fault 41 = .ok (.if_icmp .lt 31, 3) := by decide +kernel
theorem dX11_fault_72 : decode cX11_fault 72 = .ok (.iconst (-1), 1) := by decide +kernel
theorem dX11_fault_73 : decode cX11_fault 73 = .ok (.ireturn, 1) := by decide +kernel
theorem dX11_fault_44 : decode cX11_fault 44 = .ok (.iload 6, 2) := by decide +kernel
theorem dX11_fault_46 : decode cX11_fault 46 = .ok (.sipush 300, 3) := by decide +kernel
theorem dX11_fault_49 : decode cX11_fault 49 = .ok (.if_icmp .gt 23, 3) := by decide +kernel
theorem dX11_fault_52 : decode cX11_fault 52 = .ok (.iload 5, 2) := by decide +kernel
theorem dX11_fault_54 : decode cX11_fault 54 = .ok (.iload 6, 2) := by decide +kernel
theorem dX11_fault_56 : decode cX11_fault 56 = .ok (.if_icmp .gt 16, 3) := by decide +kernel
theorem dX11_fault_59 : decode cX11_fault 59 = .ok (.iload 7, 2) := by decide +kernel
theorem dX11_fault_61 : decode cX11_fault 61 = .ok (.iconst 1, 1) := by decide +kernel
theorem dX11_fault_62 : decode cX11_fault 62 = .ok (.if_icmp .lt 10, 3) := by decide +kernel
theorem dX11_fault_65 : decode cX11_fault 65 = .ok (.iload 7, 2) := by decide +kernel
theorem dX11_fault_67 : decode cX11_fault 67 = .ok (.bipush 99, 2) := by decide +kernel
theorem dX11_fault_69 : decode cX11_fault 69 = .ok (.if_icmp .le 5, 3) := by decide +kernel
theorem dX11_fault_74 : decode cX11_fault 74 = .ok (.iload_n 3, 1) := by decide +kernel
theorem dX11_fault_75 : decode cX11_fault 75 = .ok (.ifCond .eq 28, 3) := by decide +kernel
theorem dX11_fault_103 : decode cX11_fault 103 = .ok (.iload_n 2, 1) := by decide +kernel
theorem dX11_fault_104 : decode cX11_fault 104 = .ok (.iconst 1, 1) := by decide +kernel
theorem dX11_fault_105 : decode cX11_fault 105 = .ok (.iadd, 1) := by decide +kernel
theorem dX11_fault_106 : decode cX11_fault 106 = .ok (.bipush 8, 2) := by decide +kernel
theorem dX11_fault_108 : decode cX11_fault 108 = .ok (.if_icmp .ge 16, 3) := by decide +kernel
theorem dX11_fault_124 : decode cX11_fault 124 = .ok (.iconst 0, 1) := by decide +kernel
theorem dX11_fault_125 : decode cX11_fault 125 = .ok (.istore 9, 2) := by decide +kernel
theorem dX11_fault_127 : decode cX11_fault 127 = .ok (.iload 9, 2) := by decide +kernel
theorem dX11_fault_129 : decode cX11_fault 129 = .ok (.ifCond .ne 5, 3) := by decide +kernel
theorem dX11_fault_132 : decode cX11_fault 132 = .ok (.iconst (-1), 1) := by decide +kernel
theorem dX11_fault_133 : decode cX11_fault 133 = .ok (.ireturn, 1) := by decide +kernel
theorem dX11_fault_111 : decode cX11_fault 111 = .ok (.iload_n 1, 1) := by decide +kernel
theorem dX11_fault_112 : decode cX11_fault 112 = .ok (.iload 4, 2) := by decide +kernel
theorem dX11_fault_114 : decode cX11_fault 114 = .ok (.iadd, 1) := by decide +kernel
theorem dX11_fault_115 : decode cX11_fault 115 = .ok (.bipush 12, 2) := by decide +kernel
theorem dX11_fault_117 : decode cX11_fault 117 = .ok (.if_icmp .gt 7, 3) := by decide +kernel
theorem dX11_fault_120 : decode cX11_fault 120 = .ok (.iconst 1, 1) := by decide +kernel
theorem dX11_fault_121 : decode cX11_fault 121 = .ok (.goto 4, 3) := by decide +kernel
theorem dX11_fault_134 : decode cX11_fault 134 = .ok (.aload_n 0, 1) := by decide +kernel
theorem dX11_fault_135 : decode cX11_fault 135 = .ok (.getfield 49, 3) := by decide +kernel
theorem kw_476 : Cond.fieldLink "LandSurvey" 49 "LandSurvey" "breaks" "[LLandSurvey$Break;" ∈ uu := uu_in (i := 476) (by decide +kernel) (by decide +kernel)
theorem fk_LandSurvey_49 : fkR "LandSurvey" 49 10 8 RX11 TX11 19 := ⟨rfl, rfl, inX11, by decide, kw_476, by decide⟩
theorem dX11_fault_138 : decode cX11_fault 138 = .ok (.aload_n 0, 1) := by decide +kernel
theorem dX11_fault_139 : decode cX11_fault 139 = .ok (.getfield 157, 3) := by decide +kernel
theorem dX11_fault_142 : decode cX11_fault 142 = .ok (.new 47, 3) := by decide +kernel
theorem kw_392 : Cond.classLink "LandSurvey" 47 "LandSurvey$Break" ∈ uu := uu_in (i := 392) (by decide +kernel) (by decide +kernel)
theorem kw_914 : Cond.instantiable "LandSurvey$Break" 6 ∈ uu := uu_in (i := 914) (by decide +kernel) (by decide +kernel)
theorem kw_163 : Cond.initialized "LandSurvey$Break" ∈ uu := uu_in (i := 163) (by decide +kernel) (by decide +kernel)
theorem dX11_fault_145 : decode cX11_fault 145 = .ok (.dup, 1) := by decide +kernel
theorem dX11_fault_146 : decode cX11_fault 146 = .ok (.iload 8, 2) := by decide +kernel
theorem dX11_fault_148 : decode cX11_fault 148 = .ok (.iload_n 3, 1) := by decide +kernel
theorem dX11_fault_149 : decode cX11_fault 149 = .ok (.iload 4, 2) := by decide +kernel
theorem dX11_fault_151 : decode cX11_fault 151 = .ok (.iload 5, 2) := by decide +kernel
theorem dX11_fault_153 : decode cX11_fault 153 = .ok (.iload 6, 2) := by decide +kernel
theorem dX11_fault_155 : decode cX11_fault 155 = .ok (.iload 7, 2) := by decide +kernel
theorem dX11_fault_157 : decode cX11_fault 157 = .ok (.invokespecial 160, 3) := by decide +kernel
theorem kw_917 : Cond.code yX0_init prog_2_method_1_code 7 none ∈ uu := uu_in (i := 917) (by decide +kernel) (by decide +kernel)
theorem kw_915 : Cond.methodLink "LandSurvey" 160 yX0_init ∈ uu := uu_in (i := 915) (by decide +kernel) (by decide +kernel)
theorem kw_916 : Cond.instanceMethod yX0_init ∈ uu := uu_in (i := 916) (by decide +kernel) (by decide +kernel)
theorem lk_LandSurvey_160 : lkI "LandSurvey" 160 yX0_init cX0_init 7 none 6 := ⟨kw_915, kw_916, kw_163, kw_917, okX0_init, rfl⟩
theorem dX11_fault_160 : decode cX11_fault 160 = .ok (.aastore, 1) := by decide +kernel
theorem dX11_fault_161 : decode cX11_fault 161 = .ok (.aload_n 0, 1) := by decide +kernel
theorem dX11_fault_162 : decode cX11_fault 162 = .ok (.iconst 0, 1) := by decide +kernel
theorem dX11_fault_163 : decode cX11_fault 163 = .ok (.putfield 81, 3) := by decide +kernel
theorem dX11_fault_166 : decode cX11_fault 166 = .ok (.aload_n 0, 1) := by decide +kernel
theorem dX11_fault_167 : decode cX11_fault 167 = .ok (.dup, 1) := by decide +kernel
theorem dX11_fault_168 : decode cX11_fault 168 = .ok (.getfield 157, 3) := by decide +kernel
theorem dX11_fault_171 : decode cX11_fault 171 = .ok (.dup_x1, 1) := by decide +kernel
theorem dX11_fault_172 : decode cX11_fault 172 = .ok (.iconst 1, 1) := by decide +kernel
theorem dX11_fault_173 : decode cX11_fault 173 = .ok (.iadd, 1) := by decide +kernel
theorem dX11_fault_174 : decode cX11_fault 174 = .ok (.putfield 157, 3) := by decide +kernel
theorem pk_LandSurvey_9 : pk RX11 TX11 19 9 tyX11 false := ⟨tyX11_ok, nmX11, rfl⟩
theorem dX11_fault_177 : decode cX11_fault 177 = .ok (.ireturn, 1) := by decide +kernel
theorem dX11_fault_78 : decode cX11_fault 78 = .ok (.iload_n 1, 1) := by decide +kernel
theorem dX11_fault_79 : decode cX11_fault 79 = .ok (.iconst 1, 1) := by decide +kernel
theorem dX11_fault_80 : decode cX11_fault 80 = .ok (.iadd, 1) := by decide +kernel
theorem dX11_fault_81 : decode cX11_fault 81 = .ok (.bipush 12, 2) := by decide +kernel
theorem dX11_fault_83 : decode cX11_fault 83 = .ok (.if_icmp .ge 16, 3) := by decide +kernel
theorem dX11_fault_99 : decode cX11_fault 99 = .ok (.iconst 0, 1) := by decide +kernel
theorem dX11_fault_100 : decode cX11_fault 100 = .ok (.goto 25, 3) := by decide +kernel
theorem dX11_fault_86 : decode cX11_fault 86 = .ok (.iload_n 2, 1) := by decide +kernel
theorem dX11_fault_87 : decode cX11_fault 87 = .ok (.iload 4, 2) := by decide +kernel
theorem dX11_fault_89 : decode cX11_fault 89 = .ok (.iadd, 1) := by decide +kernel
theorem dX11_fault_90 : decode cX11_fault 90 = .ok (.bipush 8, 2) := by decide +kernel
theorem dX11_fault_92 : decode cX11_fault 92 = .ok (.if_icmp .gt 7, 3) := by decide +kernel
theorem dX11_fault_95 : decode cX11_fault 95 = .ok (.iconst 1, 1) := by decide +kernel
theorem dX11_fault_96 : decode cX11_fault 96 = .ok (.goto 29, 3) := by decide +kernel
abbrev cX7_init : ByteArray := prog_9_method_1_code
def yX7_init : MethodName := ⟨RX7, "<init>", "()V"⟩
theorem okX7_init : yok yX7_init 0 := by decide +kernel
theorem kw_1270 : Cond.fieldLink "LandSurvey$Sheet" 9 "LandSurvey$Sheet" "bits" "[I" ∈ uu := uu_in (i := 1270) (by decide +kernel) (by decide +kernel)
theorem fk_LandSurvey_Sheet_9 : fkR "LandSurvey$Sheet" 9 7 0 RX7 TX7 1 := ⟨rfl, rfl, inX7, by decide, kw_1270, by decide⟩
theorem dX7_init_0 : decode cX7_init 0 = .ok (.aload_n 0, 1) := by decide +kernel
theorem dX7_init_1 : decode cX7_init 1 = .ok (.invokespecial 3, 3) := by decide +kernel
theorem kw_1268 : Cond.methodLink "LandSurvey$Sheet" 3 (⟨"java/lang/Object", "<init>", "()V"⟩ : MethodName) ∈ uu := uu_in (i := 1268) (by decide +kernel) (by decide +kernel)
theorem dX7_init_4 : decode cX7_init 4 = .ok (.aload_n 0, 1) := by decide +kernel
theorem dX7_init_5 : decode cX7_init 5 = .ok (.bipush 96, 2) := by decide +kernel
theorem dX7_init_7 : decode cX7_init 7 = .ok (.newarray .int, 2) := by decide +kernel
theorem dX7_init_9 : decode cX7_init 9 = .ok (.putfield 9, 3) := by decide +kernel
theorem pk_LandSurvey_Sheet_0 : pk RX7 TX7 1 0 tyX7 true := ⟨tyX7_ok, nmX7, rfl⟩
theorem dX7_init_12 : decode cX7_init 12 = .ok (.aload_n 0, 1) := by decide +kernel
theorem dX7_init_13 : decode cX7_init 13 = .ok (.getfield 9, 3) := by decide +kernel
theorem dX7_init_16 : decode cX7_init 16 = .ok (.iconst (-1), 1) := by decide +kernel
theorem dX7_init_17 : decode cX7_init 17 = .ok (.invokestatic 15, 3) := by decide +kernel
theorem kw_1269 : Cond.methodLink "LandSurvey$Sheet" 15 yJ7_fill_53178 ∈ uu := uu_in (i := 1269) (by decide +kernel) (by decide +kernel)
theorem lk_LandSurvey_Sheet_15 : lkS "LandSurvey$Sheet" 15 yJ7_fill_53178 cJ7_fill_53178 4 none 2 := ⟨kw_1269, kw_187, kw_146, kw_188, okJ7_fill_53178⟩
theorem dX7_init_20 : decode cX7_init 20 = .ok (.return_, 1) := by decide +kernel
abbrev cX11_sheet : ByteArray := prog_1_method_26_code
def yX11_sheet : MethodName := ⟨RX11, "sheet", "(IIII)I"⟩
theorem okX11_sheet : yok yX11_sheet 4 := by decide +kernel
theorem dX11_sheet_0 : decode cX11_sheet 0 = .ok (.iload_n 1, 1) := by decide +kernel
theorem dX11_sheet_1 : decode cX11_sheet 1 = .ok (.iload_n 2, 1) := by decide +kernel
theorem dX11_sheet_2 : decode cX11_sheet 2 = .ok (.invokestatic 85, 3) := by decide +kernel
theorem dX11_sheet_5 : decode cX11_sheet 5 = .ok (.istore 5, 2) := by decide +kernel
theorem dX11_sheet_7 : decode cX11_sheet 7 = .ok (.iload_n 3, 1) := by decide +kernel
theorem dX11_sheet_8 : decode cX11_sheet 8 = .ok (.iload 4, 2) := by decide +kernel
theorem dX11_sheet_10 : decode cX11_sheet 10 = .ok (.invokestatic 85, 3) := by decide +kernel
theorem dX11_sheet_13 : decode cX11_sheet 13 = .ok (.istore 6, 2) := by decide +kernel
theorem dX11_sheet_15 : decode cX11_sheet 15 = .ok (.iload 5, 2) := by decide +kernel
theorem dX11_sheet_17 : decode cX11_sheet 17 = .ok (.iconst (-1), 1) := by decide +kernel
theorem dX11_sheet_18 : decode cX11_sheet 18 = .ok (.if_icmp .eq 20, 3) := by decide +kernel
theorem dX11_sheet_38 : decode cX11_sheet 38 = .ok (.iconst (-1), 1) := by decide +kernel
theorem dX11_sheet_39 : decode cX11_sheet 39 = .ok (.ireturn, 1) := by decide +kernel
theorem dX11_sheet_21 : decode cX11_sheet 21 = .ok (.iload 6, 2) := by decide +kernel
theorem dX11_sheet_23 : decode cX11_sheet 23 = .ok (.iconst (-1), 1) := by decide +kernel
theorem dX11_sheet_24 : decode cX11_sheet 24 = .ok (.if_icmp .eq 14, 3) := by decide +kernel
theorem dX11_sheet_27 : decode cX11_sheet 27 = .ok (.iload_n 1, 1) := by decide +kernel
theorem dX11_sheet_28 : decode cX11_sheet 28 = .ok (.iload_n 3, 1) := by decide +kernel
theorem dX11_sheet_29 : decode cX11_sheet 29 = .ok (.if_icmp .gt 9, 3) := by decide +kernel
theorem dX11_sheet_32 : decode cX11_sheet 32 = .ok (.iload_n 2, 1) := by decide +kernel
theorem dX11_sheet_33 : decode cX11_sheet 33 = .ok (.iload 4, 2) := by decide +kernel
theorem dX11_sheet_35 : decode cX11_sheet 35 = .ok (.if_icmp .le 5, 3) := by decide +kernel
theorem dX11_sheet_40 : decode cX11_sheet 40 = .ok (.aload_n 0, 1) := by decide +kernel
theorem dX11_sheet_41 : decode cX11_sheet 41 = .ok (.getfield 305, 3) := by decide +kernel
theorem dX11_sheet_44 : decode cX11_sheet 44 = .ok (.bipush 10, 2) := by decide +kernel
theorem dX11_sheet_46 : decode cX11_sheet 46 = .ok (.if_icmp .ge 10, 3) := by decide +kernel
theorem dX11_sheet_56 : decode cX11_sheet 56 = .ok (.iconst (-1), 1) := by decide +kernel
theorem dX11_sheet_57 : decode cX11_sheet 57 = .ok (.ireturn, 1) := by decide +kernel
theorem dX11_sheet_49 : decode cX11_sheet 49 = .ok (.aload_n 0, 1) := by decide +kernel
theorem dX11_sheet_50 : decode cX11_sheet 50 = .ok (.invokevirtual 253, 3) := by decide +kernel
theorem dX11_sheet_53 : decode cX11_sheet 53 = .ok (.ifCond .ne 5, 3) := by decide +kernel
theorem dX11_sheet_58 : decode cX11_sheet 58 = .ok (.new 53, 3) := by decide +kernel
theorem kw_394 : Cond.classLink "LandSurvey" 53 "LandSurvey$Sheet" ∈ uu := uu_in (i := 394) (by decide +kernel) (by decide +kernel)
theorem kw_1264 : Cond.instantiable "LandSurvey$Sheet" 1 ∈ uu := uu_in (i := 1264) (by decide +kernel) (by decide +kernel)
theorem kw_171 : Cond.initialized "LandSurvey$Sheet" ∈ uu := uu_in (i := 171) (by decide +kernel) (by decide +kernel)
theorem dX11_sheet_61 : decode cX11_sheet 61 = .ok (.dup, 1) := by decide +kernel
theorem dX11_sheet_62 : decode cX11_sheet 62 = .ok (.invokespecial 308, 3) := by decide +kernel
theorem kw_1267 : Cond.code yX7_init prog_9_method_1_code 1 none ∈ uu := uu_in (i := 1267) (by decide +kernel) (by decide +kernel)
theorem kw_1265 : Cond.methodLink "LandSurvey" 308 yX7_init ∈ uu := uu_in (i := 1265) (by decide +kernel) (by decide +kernel)
theorem kw_1266 : Cond.instanceMethod yX7_init ∈ uu := uu_in (i := 1266) (by decide +kernel) (by decide +kernel)
theorem lk_LandSurvey_308 : lkI "LandSurvey" 308 yX7_init cX7_init 1 none 0 := ⟨kw_1265, kw_1266, kw_171, kw_1267, okX7_init, rfl⟩
theorem tbI_8_1008 : ∀ j, rI 8 j = rI 1008 j := tab_I (by decide +kernel)
theorem tbE_8_1008 : ∀ j, (rE 8 j).1 = (rE 1008 j).1 ∧ (rE 8 j).2.1 = (rE 1008 j).2.1 := tab_E (by decide +kernel)
theorem tbN_8 : ∀ j, (rE 8 j).2.2 = true → ([0] : List Nat).elem j = true := tab_N _ (by decide +kernel)
theorem dX11_sheet_65 : decode cX11_sheet 65 = .ok (.astore 7, 2) := by decide +kernel
theorem dX11_sheet_67 : decode cX11_sheet 67 = .ok (.iload_n 2, 1) := by decide +kernel
theorem dX11_sheet_68 : decode cX11_sheet 68 = .ok (.istore 8, 2) := by decide +kernel
theorem dX11_sheet_70 : decode cX11_sheet 70 = .ok (.iload 8, 2) := by decide +kernel
theorem dX11_sheet_72 : decode cX11_sheet 72 = .ok (.iload 4, 2) := by decide +kernel
theorem dX11_sheet_74 : decode cX11_sheet 74 = .ok (.if_icmp .gt 49, 3) := by decide +kernel
theorem dX11_sheet_123 : decode cX11_sheet 123 = .ok (.aload_n 0, 1) := by decide +kernel
theorem dX11_sheet_124 : decode cX11_sheet 124 = .ok (.getfield 55, 3) := by decide +kernel
theorem dX11_sheet_127 : decode cX11_sheet 127 = .ok (.aload_n 0, 1) := by decide +kernel
theorem dX11_sheet_128 : decode cX11_sheet 128 = .ok (.getfield 305, 3) := by decide +kernel
theorem dX11_sheet_131 : decode cX11_sheet 131 = .ok (.aload 7, 2) := by decide +kernel
theorem dX11_sheet_133 : decode cX11_sheet 133 = .ok (.aastore, 1) := by decide +kernel
theorem dX11_sheet_134 : decode cX11_sheet 134 = .ok (.aload_n 0, 1) := by decide +kernel
theorem dX11_sheet_135 : decode cX11_sheet 135 = .ok (.dup, 1) := by decide +kernel
theorem dX11_sheet_136 : decode cX11_sheet 136 = .ok (.getfield 305, 3) := by decide +kernel
theorem dX11_sheet_139 : decode cX11_sheet 139 = .ok (.dup_x1, 1) := by decide +kernel
theorem dX11_sheet_140 : decode cX11_sheet 140 = .ok (.iconst 1, 1) := by decide +kernel
theorem dX11_sheet_141 : decode cX11_sheet 141 = .ok (.iadd, 1) := by decide +kernel
theorem dX11_sheet_142 : decode cX11_sheet 142 = .ok (.putfield 305, 3) := by decide +kernel
theorem pk_LandSurvey_12 : pk RX11 TX11 19 12 tyX11 false := ⟨tyX11_ok, nmX11, rfl⟩
theorem dX11_sheet_145 : decode cX11_sheet 145 = .ok (.ireturn, 1) := by decide +kernel
theorem dX11_sheet_77 : decode cX11_sheet 77 = .ok (.iload_n 1, 1) := by decide +kernel
theorem dX11_sheet_78 : decode cX11_sheet 78 = .ok (.istore 9, 2) := by decide +kernel
theorem dX11_sheet_80 : decode cX11_sheet 80 = .ok (.iload 9, 2) := by decide +kernel
theorem dX11_sheet_82 : decode cX11_sheet 82 = .ok (.iload_n 3, 1) := by decide +kernel
theorem dX11_sheet_83 : decode cX11_sheet 83 = .ok (.if_icmp .gt 34, 3) := by decide +kernel
theorem dX11_sheet_117 : decode cX11_sheet 117 = .ok (.iinc 8 1, 3) := by decide +kernel
theorem dX11_sheet_120 : decode cX11_sheet 120 = .ok (.goto (-50), 3) := by decide +kernel
theorem dX11_sheet_86 : decode cX11_sheet 86 = .ok (.bipush 12, 2) := by decide +kernel
theorem dX11_sheet_88 : decode cX11_sheet 88 = .ok (.iload 8, 2) := by decide +kernel
theorem dX11_sheet_90 : decode cX11_sheet 90 = .ok (.imul, 1) := by decide +kernel
theorem dX11_sheet_91 : decode cX11_sheet 91 = .ok (.iload 9, 2) := by decide +kernel
theorem dX11_sheet_93 : decode cX11_sheet 93 = .ok (.iadd, 1) := by decide +kernel
theorem dX11_sheet_94 : decode cX11_sheet 94 = .ok (.istore 10, 2) := by decide +kernel
theorem dX11_sheet_96 : decode cX11_sheet 96 = .ok (.aload 7, 2) := by decide +kernel
theorem dX11_sheet_98 : decode cX11_sheet 98 = .ok (.getfield 309, 3) := by decide +kernel
theorem dX11_sheet_101 : decode cX11_sheet 101 = .ok (.iload 10, 2) := by decide +kernel
theorem dX11_sheet_103 : decode cX11_sheet 103 = .ok (.aload_n 0, 1) := by decide +kernel
theorem dX11_sheet_104 : decode cX11_sheet 104 = .ok (.iload 10, 2) := by decide +kernel
theorem dX11_sheet_106 : decode cX11_sheet 106 = .ok (.iconst 0, 1) := by decide +kernel
theorem dX11_sheet_107 : decode cX11_sheet 107 = .ok (.invokevirtual 256, 3) := by decide +kernel
theorem dX11_sheet_110 : decode cX11_sheet 110 = .ok (.iastore, 1) := by decide +kernel
theorem dX11_sheet_111 : decode cX11_sheet 111 = .ok (.iinc 9 1, 3) := by decide +kernel
theorem dX11_sheet_114 : decode cX11_sheet 114 = .ok (.goto (-34), 3) := by decide +kernel
abbrev cX3_takeSigns : ByteArray := prog_5_method_2_code
def yX3_takeSigns : MethodName := ⟨RX3, "takeSigns", "(J)V"⟩
theorem okX3_takeSigns : yok yX3_takeSigns 1 := by decide +kernel
theorem kw_235 : Cond.fieldLink "LandSurvey$Reader" 19 "LandSurvey$Reader" "length" "I" ∈ uu := uu_in (i := 235) (by decide +kernel) (by decide +kernel)
theorem fk_LandSurvey_Reader_19 : fkI "LandSurvey$Reader" 19 3 1 RX3 TX3 14 := ⟨rfl, rfl, inX3, by decide, kw_235, by decide⟩
theorem dX3_takeSigns_0 : decode cX3_takeSigns 0 = .ok (.bipush 56, 2) := by decide +kernel
theorem dX3_takeSigns_2 : decode cX3_takeSigns 2 = .ok (.istore_n 3, 1) := by decide +kernel
theorem dX3_takeSigns_3 : decode cX3_takeSigns 3 = .ok (.iload_n 3, 1) := by decide +kernel
theorem dX3_takeSigns_4 : decode cX3_takeSigns 4 = .ok (.ifCond .lt 84, 3) := by decide +kernel
theorem dX3_takeSigns_88 : decode cX3_takeSigns 88 = .ok (.return_, 1) := by decide +kernel
theorem dX3_takeSigns_7 : decode cX3_takeSigns 7 = .ok (.lload_n 1, 1) := by decide +kernel
theorem dX3_takeSigns_8 : decode cX3_takeSigns 8 = .ok (.iload_n 3, 1) := by decide +kernel
theorem dX3_takeSigns_9 : decode cX3_takeSigns 9 = .ok (.lushr, 1) := by decide +kernel
theorem dX3_takeSigns_10 : decode cX3_takeSigns 10 = .ok (.l2i, 1) := by decide +kernel
theorem dX3_takeSigns_11 : decode cX3_takeSigns 11 = .ok (.sipush 255, 3) := by decide +kernel
theorem dX3_takeSigns_14 : decode cX3_takeSigns 14 = .ok (.iand, 1) := by decide +kernel
theorem dX3_takeSigns_15 : decode cX3_takeSigns 15 = .ok (.istore 4, 2) := by decide +kernel
theorem dX3_takeSigns_17 : decode cX3_takeSigns 17 = .ok (.iload 4, 2) := by decide +kernel
theorem dX3_takeSigns_19 : decode cX3_takeSigns 19 = .ok (.bipush 10, 2) := by decide +kernel
theorem dX3_takeSigns_21 : decode cX3_takeSigns 21 = .ok (.if_icmp .eq 17, 3) := by decide +kernel
theorem dX3_takeSigns_38 : decode cX3_takeSigns 38 = .ok (.iconst 1, 1) := by decide +kernel
theorem dX3_takeSigns_39 : decode cX3_takeSigns 39 = .ok (.goto 4, 3) := by decide +kernel
theorem dX3_takeSigns_43 : decode cX3_takeSigns 43 = .ok (.istore 5, 2) := by decide +kernel
theorem dX3_takeSigns_45 : decode cX3_takeSigns 45 = .ok (.iload 5, 2) := by decide +kernel
theorem dX3_takeSigns_47 : decode cX3_takeSigns 47 = .ok (.ifCond .eq 35, 3) := by decide +kernel
theorem dX3_takeSigns_50 : decode cX3_takeSigns 50 = .ok (.aload_n 0, 1) := by decide +kernel
theorem dX3_takeSigns_51 : decode cX3_takeSigns 51 = .ok (.getfield 19, 3) := by decide +kernel
theorem dX3_takeSigns_54 : decode cX3_takeSigns 54 = .ok (.sipush 1500, 3) := by decide +kernel
theorem dX3_takeSigns_57 : decode cX3_takeSigns 57 = .ok (.if_icmp .ge 25, 3) := by decide +kernel
theorem dX3_takeSigns_82 : decode cX3_takeSigns 82 = .ok (.iinc 3 (-8), 3) := by decide +kernel
theorem dX3_takeSigns_85 : decode cX3_takeSigns 85 = .ok (.goto (-82), 3) := by decide +kernel
theorem dX3_takeSigns_60 : decode cX3_takeSigns 60 = .ok (.aload_n 0, 1) := by decide +kernel
theorem dX3_takeSigns_61 : decode cX3_takeSigns 61 = .ok (.getfield 9, 3) := by decide +kernel
theorem kw_234 : Cond.fieldLink "LandSurvey$Reader" 9 "LandSurvey$Reader" "tape" "[C" ∈ uu := uu_in (i := 234) (by decide +kernel) (by decide +kernel)
theorem fk_LandSurvey_Reader_9 : fkR "LandSurvey$Reader" 9 3 0 RX3 TX3 14 := ⟨rfl, rfl, inX3, by decide, kw_234, by decide⟩
theorem dX3_takeSigns_64 : decode cX3_takeSigns 64 = .ok (.aload_n 0, 1) := by decide +kernel
theorem dX3_takeSigns_65 : decode cX3_takeSigns 65 = .ok (.getfield 19, 3) := by decide +kernel
theorem dX3_takeSigns_68 : decode cX3_takeSigns 68 = .ok (.iload 4, 2) := by decide +kernel
theorem dX3_takeSigns_70 : decode cX3_takeSigns 70 = .ok (.i2c, 1) := by decide +kernel
theorem dX3_takeSigns_71 : decode cX3_takeSigns 71 = .ok (.castore, 1) := by decide +kernel
theorem dX3_takeSigns_72 : decode cX3_takeSigns 72 = .ok (.aload_n 0, 1) := by decide +kernel
theorem dX3_takeSigns_73 : decode cX3_takeSigns 73 = .ok (.dup, 1) := by decide +kernel
theorem dX3_takeSigns_74 : decode cX3_takeSigns 74 = .ok (.getfield 19, 3) := by decide +kernel
theorem dX3_takeSigns_77 : decode cX3_takeSigns 77 = .ok (.iconst 1, 1) := by decide +kernel
theorem dX3_takeSigns_78 : decode cX3_takeSigns 78 = .ok (.iadd, 1) := by decide +kernel
theorem dX3_takeSigns_79 : decode cX3_takeSigns 79 = .ok (.putfield 19, 3) := by decide +kernel
theorem pk_LandSurvey_Reader_1 : pk RX3 TX3 14 1 tyX3 false := ⟨tyX3_ok, nmX3, rfl⟩
theorem dX3_takeSigns_24 : decode cX3_takeSigns 24 = .ok (.iload 4, 2) := by decide +kernel
theorem dX3_takeSigns_26 : decode cX3_takeSigns 26 = .ok (.bipush 32, 2) := by decide +kernel
theorem dX3_takeSigns_28 : decode cX3_takeSigns 28 = .ok (.if_icmp .lt 14, 3) := by decide +kernel
theorem dX3_takeSigns_42 : decode cX3_takeSigns 42 = .ok (.iconst 0, 1) := by decide +kernel
theorem dX3_takeSigns_31 : decode cX3_takeSigns 31 = .ok (.iload 4, 2) := by decide +kernel
theorem dX3_takeSigns_33 : decode cX3_takeSigns 33 = .ok (.bipush 126, 2) := by decide +kernel
theorem dX3_takeSigns_35 : decode cX3_takeSigns 35 = .ok (.if_icmp .gt 7, 3) := by decide +kernel
abbrev cX11_feed : ByteArray := prog_1_method_11_code
def yX11_feed : MethodName := ⟨RX11, "feed", "(JJJ)I"⟩
theorem okX11_feed : yok yX11_feed 3 := by decide +kernel
theorem dX11_feed_0 : decode cX11_feed 0 = .ok (.aload_n 0, 1) := by decide +kernel
theorem dX11_feed_1 : decode cX11_feed 1 = .ok (.getfield 29, 3) := by decide +kernel
theorem dX11_feed_4 : decode cX11_feed 4 = .ok (.lload_n 1, 1) := by decide +kernel
theorem dX11_feed_5 : decode cX11_feed 5 = .ok (.invokevirtual 139, 3) := by decide +kernel
theorem kw_662 : Cond.code yX3_takeSigns prog_5_method_2_code 6 none ∈ uu := uu_in (i := 662) (by decide +kernel) (by decide +kernel)
theorem kw_147 : Cond.initialized "LandSurvey$Reader" ∈ uu := uu_in (i := 147) (by decide +kernel) (by decide +kernel)
theorem kw_659 : Cond.methodLink "LandSurvey" 139 yX3_takeSigns ∈ uu := uu_in (i := 659) (by decide +kernel) (by decide +kernel)
theorem kw_660 : Cond.instanceMethod yX3_takeSigns ∈ uu := uu_in (i := 660) (by decide +kernel) (by decide +kernel)
theorem kw_661 : Cond.selects "LandSurvey$Reader" yX3_takeSigns yX3_takeSigns ∈ uu := uu_in (i := 661) (by decide +kernel) (by decide +kernel)
theorem lk_LandSurvey_139 : lkV "LandSurvey" 139 yX3_takeSigns cX3_takeSigns 6 none 1 := ⟨kw_659, kw_660, kw_661, kw_147, kw_662, okX3_takeSigns⟩
theorem dX11_feed_8 : decode cX11_feed 8 = .ok (.aload_n 0, 1) := by decide +kernel
theorem dX11_feed_9 : decode cX11_feed 9 = .ok (.getfield 29, 3) := by decide +kernel
theorem dX11_feed_12 : decode cX11_feed 12 = .ok (.lload_n 3, 1) := by decide +kernel
theorem dX11_feed_13 : decode cX11_feed 13 = .ok (.invokevirtual 139, 3) := by decide +kernel
theorem dX11_feed_16 : decode cX11_feed 16 = .ok (.aload_n 0, 1) := by decide +kernel
theorem dX11_feed_17 : decode cX11_feed 17 = .ok (.getfield 29, 3) := by decide +kernel
theorem dX11_feed_20 : decode cX11_feed 20 = .ok (.lload 5, 2) := by decide +kernel
theorem dX11_feed_22 : decode cX11_feed 22 = .ok (.invokevirtual 139, 3) := by decide +kernel
theorem dX11_feed_25 : decode cX11_feed 25 = .ok (.aload_n 0, 1) := by decide +kernel
theorem dX11_feed_26 : decode cX11_feed 26 = .ok (.getfield 29, 3) := by decide +kernel
theorem dX11_feed_29 : decode cX11_feed 29 = .ok (.getfield 143, 3) := by decide +kernel
theorem dX11_feed_32 : decode cX11_feed 32 = .ok (.ireturn, 1) := by decide +kernel
def wr_k_X8_init : List Nat := [1800, 1801, 1802, 1803, 1804, 1805, 1806, 1807, 1808, 1811, 1813, 1814]
set_option maxRecDepth 100000 in
set_option maxHeartbeats 4000000 in
theorem k_X8_init (l : Launch) (D : va_G) (cy : Nat → ClassId) (w : Nat → Nat) (z0 : Nat)  {h : Hp} {a0 : Nat} {a1 : Int} {a2 : Int} {a3 : Int} {a4 : Int} {a5 : Int} {a6 : Int}  (O : Okh h) (ta0 : Tg h a0 = 9) (fa1 : 0 ≤ a1 ∧ a1 ≤ 4) (fa2 : 0 ≤ a2 ∧ a2 ≤ 95) (fa3 : 0 ≤ a3 ∧ a3 ≤ 999) (fa4 : 0 ≤ a4 ∧ a4 ≤ 5) (fa5 : 0 ≤ a5 ∧ a5 ≤ 9999) (fa6 : 0 ≤ a6 ∧ a6 ≤ 9999) : MV l D cy w z0 yX8_init cX8_init 7 none 1 24 0 0 [.inr (.inr a0), .inl a1, .inl a2, .inl a3, .inl a4, .inl a5, .inl a6] h (fun h1 => Okh h1 ∧ Fx wr_k_X8_init h h1 ∧ (Fe a0 h h1) ∧ (Iv h1 a0 8 = -1)) := by
  refine hm_go (by decide +kernel) (Nat.le_of_ble_eq_true rfl) (fun p e s m below meth c C hr hn => ?_)
  refine g_aload_n C rfl 0 rfl dX8_init_0 ?_
  refine g_oinit C (tg_nz ta0) kw_557 kw_178 (by decide) (Nat.le_of_ble_eq_true rfl) dX8_init_1 ?_
  refine g_aload_n C rfl 0 rfl dX8_init_4 ?_
  refine g_iconst C dX8_init_5 ?_
  refine gp_I C fk_LandSurvey_Sight_9 pk_LandSurvey_Sight_6 rfl ta0 (iw (il (-1)) (by decide) (by decide)) (nf_i _) dX8_init_6 (fun h2 hh1 => ?_)
  have O3 := O.pI ta0 hh1 rI_9_6 (iw (il (-1)) (by decide) (by decide)) nofun
  refine g_aload_n C rfl 0 rfl dX8_init_9 ?_
  refine g_iconst C dX8_init_10 ?_
  have e4 : Tg h2 a0 = 9 := ((pIT hh1).trans ta0)
  refine gp_I C fk_LandSurvey_Sight_15 pk_LandSurvey_Sight_7 rfl e4 (iw (il (-1)) (by decide) (by decide)) (nf_i _) dX8_init_11 (fun h6 hh5 => ?_)
  have O7 := O3.pI e4 hh5 rI_9_7 (iw (il (-1)) (by decide) (by decide)) nofun
  refine g_aload_n C rfl 0 rfl dX8_init_14 ?_
  refine g_iconst C dX8_init_15 ?_
  have e8 : Tg h6 a0 = 9 := ((pIT hh5).trans e4)
  refine gp_I C fk_LandSurvey_Sight_18 pk_LandSurvey_Sight_8 rfl e8 (iw (il (-1)) (by decide) (by decide)) (nf_i _) dX8_init_16 (fun h10 hh9 => ?_)
  have O11 := O7.pI e8 hh9 rI_9_8 (iw (il (-1)) (by decide) (by decide)) nofun
  refine g_aload_n C rfl 0 rfl dX8_init_19 ?_
  refine g_iconst C dX8_init_20 ?_
  have e12 : Tg h10 a0 = 9 := ((pIT hh9).trans e8)
  refine gp_I C fk_LandSurvey_Sight_21 pk_LandSurvey_Sight_11 rfl e12 (iw (il (-1)) (by decide) (by decide)) (nf_i _) dX8_init_21 (fun h14 hh13 => ?_)
  have O15 := O11.pI e12 hh13 rI_9_11 (iw (il (-1)) (by decide) (by decide)) nofun
  refine g_aload_n C rfl 0 rfl dX8_init_24 ?_
  refine g_iconst C dX8_init_25 ?_
  have e16 : Tg h14 a0 = 9 := ((pIT hh13).trans e12)
  refine gp_I C fk_LandSurvey_Sight_24 pk_LandSurvey_Sight_13 rfl e16 (iw (il (-1)) (by decide) (by decide)) (nf_i _) dX8_init_26 (fun h18 hh17 => ?_)
  have O19 := O15.pI e16 hh17 rI_9_13 (iw (il (-1)) (by decide) (by decide)) nofun
  refine g_aload_n C rfl 0 rfl dX8_init_29 ?_
  refine g_iconst C dX8_init_30 ?_
  have e20 : Tg h18 a0 = 9 := ((pIT hh17).trans e16)
  refine gp_I C fk_LandSurvey_Sight_27 pk_LandSurvey_Sight_14 rfl e20 (iw (il (-1)) (by decide) (by decide)) (nf_i _) dX8_init_31 (fun h22 hh21 => ?_)
  have O23 := O19.pI e20 hh21 rI_9_14 (iw (il (-1)) (by decide) (by decide)) nofun
  refine g_aload_n C rfl 0 rfl dX8_init_34 ?_
  refine g_iload_n C rfl 1 rfl dX8_init_35 ?_
  have e24 : Tg h22 a0 = 9 := ((pIT hh21).trans e20)
  refine gp_IF C fk_LandSurvey_Sight_30 pk_LandSurvey_Sight_0 rfl e24 hn rfl (iw fa1 (by decide) (by decide)) (nf_i _) dX8_init_36 (fun h26 hh25 => ?_)
  have O27 := O23.pI e24 hh25 rI_9_0 fa1 nofun
  refine g_aload_n C rfl 0 rfl dX8_init_39 ?_
  refine g_iload_n C rfl 2 rfl dX8_init_40 ?_
  have e28 : Tg h26 a0 = 9 := ((pIT hh25).trans e24)
  refine gp_IF C fk_LandSurvey_Sight_33 pk_LandSurvey_Sight_1 rfl e28 hn rfl (iw fa2 (by decide) (by decide)) (nf_i _) dX8_init_41 (fun h30 hh29 => ?_)
  have O31 := O27.pI e28 hh29 rI_9_1 fa2 nofun
  refine g_aload_n C rfl 0 rfl dX8_init_44 ?_
  refine g_iload_n C rfl 3 rfl dX8_init_45 ?_
  have e32 : Tg h30 a0 = 9 := ((pIT hh29).trans e28)
  refine gp_IF C fk_LandSurvey_Sight_36 pk_LandSurvey_Sight_2 rfl e32 hn rfl (iw fa3 (by decide) (by decide)) (nf_i _) dX8_init_46 (fun h34 hh33 => ?_)
  have O35 := O31.pI e32 hh33 rI_9_2 fa3 nofun
  refine g_aload_n C rfl 0 rfl dX8_init_49 ?_
  refine g_iload C 4 rfl dX8_init_50 ?_
  have e36 : Tg h34 a0 = 9 := ((pIT hh33).trans e32)
  refine gp_IF C fk_LandSurvey_Sight_39 pk_LandSurvey_Sight_3 rfl e36 hn rfl (iw fa4 (by decide) (by decide)) (nf_i _) dX8_init_52 (fun h38 hh37 => ?_)
  have O39 := O35.pI e36 hh37 rI_9_3 fa4 nofun
  refine g_aload_n C rfl 0 rfl dX8_init_55 ?_
  refine g_iload C 5 rfl dX8_init_56 ?_
  have e40 : Tg h38 a0 = 9 := ((pIT hh37).trans e36)
  refine gp_IF C fk_LandSurvey_Sight_42 pk_LandSurvey_Sight_4 rfl e40 hn rfl (iw fa5 (by decide) (by decide)) (nf_i _) dX8_init_58 (fun h42 hh41 => ?_)
  have O43 := O39.pI e40 hh41 rI_9_4 fa5 nofun
  refine g_aload_n C rfl 0 rfl dX8_init_61 ?_
  refine g_iload C 6 rfl dX8_init_62 ?_
  have e44 : Tg h42 a0 = 9 := ((pIT hh41).trans e40)
  refine gp_IF C fk_LandSurvey_Sight_45 pk_LandSurvey_Sight_5 rfl e44 hn rfl (iw fa6 (by decide) (by decide)) (nf_i _) dX8_init_64 (fun h46 hh45 => ?_)
  have O47 := O43.pI e44 hh45 rI_9_5 fa6 nofun
  have e48 : Iv h46 a0 8 = (-1) := ((pI_j hh45 (by decide)).trans ((pI_j hh41 (by decide)).trans ((pI_j hh37 (by decide)).trans ((pI_j hh33 (by decide)).trans ((pI_j hh29 (by decide)).trans ((pI_j hh25 (by decide)).trans ((pI_j hh21 (by decide)).trans ((pI_j hh17 (by decide)).trans ((pI_j hh13 (by decide)).trans (pI_e hh9))))))))))
  exact g_vret C hr ⟨O47, (((((((((((((Fx.rf (wr := wr_k_X8_init)).pI ta0 hh1 rfl).pI e4 hh5 rfl).pI e8 hh9 rfl).pI e12 hh13 rfl).pI e16 hh17 rfl).pI e20 hh21 rfl).pI e24 hh25 rfl).pI e28 hh29 rfl).pI e32 hh33 rfl).pI e36 hh37 rfl).pI e40 hh41 rfl).pI e44 hh45 rfl), ((((((((((((Fe.rf.pI hh1).pI hh5).pI hh9).pI hh13).pI hh17).pI hh21).pI hh25).pI hh29).pI hh33).pI hh37).pI hh41).pI hh45), e48⟩ (by decide) (by decide) dX8_init_67
def wr_k_X0_init : List Nat := [200, 201, 202, 203, 204, 205]
set_option maxRecDepth 100000 in
set_option maxHeartbeats 4000000 in
theorem k_X0_init (l : Launch) (D : va_G) (cy : Nat → ClassId) (w : Nat → Nat) (z0 : Nat)  {h : Hp} {a0 : Nat} {a1 : Int} {a2 : Int} {a3 : Int} {a4 : Int} {a5 : Int} {a6 : Int}  (O : Okh h) (ta0 : Tg h a0 = 1) (fa1 : 0 ≤ a1 ∧ a1 ≤ 95) (fa2 : 0 ≤ a2 ∧ a2 ≤ 1) (fa3 : 0 ≤ a3 ∧ a3 ≤ 12) (fa4 : (-300) ≤ a4 ∧ a4 ≤ 300) (fa5 : (-300) ≤ a5 ∧ a5 ≤ 300) (fa6 : 0 ≤ a6 ∧ a6 ≤ 99) : MV l D cy w z0 yX0_init cX0_init 7 none 1 24 0 0 [.inr (.inr a0), .inl a1, .inl a2, .inl a3, .inl a4, .inl a5, .inl a6] h (fun h1 => Okh h1 ∧ Fx wr_k_X0_init h h1 ∧ (Fe a0 h h1) ∧ (Iv h1 a0 0 = a1) ∧ (Iv h1 a0 1 = a2) ∧ (Iv h1 a0 2 = a3)) := by
  refine hm_go (by decide +kernel) (Nat.le_of_ble_eq_true rfl) (fun p e s m below meth c C hr hn => ?_)
  refine g_aload_n C rfl 0 rfl dX0_init_0 ?_
  refine g_oinit C (tg_nz ta0) kw_918 kw_178 (by decide) (Nat.le_of_ble_eq_true rfl) dX0_init_1 ?_
  refine g_aload_n C rfl 0 rfl dX0_init_4 ?_
  refine g_iload_n C rfl 1 rfl dX0_init_5 ?_
  refine gp_IF C fk_LandSurvey_Break_7 pk_LandSurvey_Break_0 rfl ta0 hn rfl (iw fa1 (by decide) (by decide)) (nf_i _) dX0_init_6 (fun h2 hh1 => ?_)
  have O3 := O.pI ta0 hh1 rI_1_0 fa1 nofun
  refine g_aload_n C rfl 0 rfl dX0_init_9 ?_
  refine g_iload_n C rfl 2 rfl dX0_init_10 ?_
  have e4 : Tg h2 a0 = 1 := ((pIT hh1).trans ta0)
  refine gp_IF C fk_LandSurvey_Break_13 pk_LandSurvey_Break_1 rfl e4 hn rfl (iw fa2 (by decide) (by decide)) (nar_z2 fa2) dX0_init_11 (fun h6 hh5 => ?_)
  have O7 := O3.pI e4 hh5 rI_1_1 fa2 nofun
  refine g_aload_n C rfl 0 rfl dX0_init_14 ?_
  refine g_iload_n C rfl 3 rfl dX0_init_15 ?_
  have e8 : Tg h6 a0 = 1 := ((pIT hh5).trans e4)
  refine gp_IF C fk_LandSurvey_Break_17 pk_LandSurvey_Break_2 rfl e8 hn rfl (iw fa3 (by decide) (by decide)) (nf_i _) dX0_init_16 (fun h10 hh9 => ?_)
  have O11 := O7.pI e8 hh9 rI_1_2 fa3 nofun
  refine g_aload_n C rfl 0 rfl dX0_init_19 ?_
  refine g_iload C 4 rfl dX0_init_20 ?_
  have e12 : Tg h10 a0 = 1 := ((pIT hh9).trans e8)
  refine gp_IF C fk_LandSurvey_Break_20 pk_LandSurvey_Break_3 rfl e12 hn rfl (iw fa4 (by decide) (by decide)) (nf_i _) dX0_init_22 (fun h14 hh13 => ?_)
  have O15 := O11.pI e12 hh13 rI_1_3 fa4 nofun
  refine g_aload_n C rfl 0 rfl dX0_init_25 ?_
  refine g_iload C 5 rfl dX0_init_26 ?_
  have e16 : Tg h14 a0 = 1 := ((pIT hh13).trans e12)
  refine gp_IF C fk_LandSurvey_Break_23 pk_LandSurvey_Break_4 rfl e16 hn rfl (iw fa5 (by decide) (by decide)) (nf_i _) dX0_init_28 (fun h18 hh17 => ?_)
  have O19 := O15.pI e16 hh17 rI_1_4 fa5 nofun
  refine g_aload_n C rfl 0 rfl dX0_init_31 ?_
  refine g_iload C 6 rfl dX0_init_32 ?_
  have e20 : Tg h18 a0 = 1 := ((pIT hh17).trans e16)
  refine gp_IF C fk_LandSurvey_Break_26 pk_LandSurvey_Break_5 rfl e20 hn rfl (iw fa6 (by decide) (by decide)) (nf_i _) dX0_init_34 (fun h22 hh21 => ?_)
  have O23 := O19.pI e20 hh21 rI_1_5 fa6 nofun
  have e24 : Iv h22 a0 0 = a1 := ((pI_j hh21 (by decide)).trans ((pI_j hh17 (by decide)).trans ((pI_j hh13 (by decide)).trans ((pI_j hh9 (by decide)).trans ((pI_j hh5 (by decide)).trans (pI_e hh1))))))
  have e25 : Iv h22 a0 1 = a2 := ((pI_j hh21 (by decide)).trans ((pI_j hh17 (by decide)).trans ((pI_j hh13 (by decide)).trans ((pI_j hh9 (by decide)).trans (pI_e hh5)))))
  have e26 : Iv h22 a0 2 = a3 := ((pI_j hh21 (by decide)).trans ((pI_j hh17 (by decide)).trans ((pI_j hh13 (by decide)).trans (pI_e hh9))))
  exact g_vret C hr ⟨O23, (((((((Fx.rf (wr := wr_k_X0_init)).pI ta0 hh1 rfl).pI e4 hh5 rfl).pI e8 hh9 rfl).pI e12 hh13 rfl).pI e16 hh17 rfl).pI e20 hh21 rfl), ((((((Fe.rf.pI hh1).pI hh5).pI hh9).pI hh13).pI hh17).pI hh21), e24, e25, e26⟩ (by decide) (by decide) dX0_init_37
def wr_k_X11_sight : List Nat := [1800, 1801, 1802, 1803, 1804, 1805, 1806, 1807, 1808, 1811, 1813, 1814, 2204, 2215, 7620800, 1000000009]
set_option maxRecDepth 100000 in
set_option maxHeartbeats 4000000 in
theorem k_X11_sight (l : Launch) (D : va_G) (cy : Nat → ClassId) (w : Nat → Nat) (z0 : Nat)  {h : Hp} {a0 : Nat} {a1 : Int} {a2 : Int} {a3 : Int} {a4 : Int} {a5 : Int} {a6 : Int}  (O : Okh h) (ta0 : Tg h a0 = 11) (fa1 : (-2147483648) ≤ a1 ∧ a1 ≤ 2147483647) (fa2 : (-2147483648) ≤ a2 ∧ a2 ≤ 2147483647) (fa3 : (-2147483648) ≤ a3 ∧ a3 ≤ 2147483647) (fa4 : (-2147483648) ≤ a4 ∧ a4 ≤ 2147483647) (fa5 : (-2147483648) ≤ a5 ∧ a5 ≤ 2147483647) (fa6 : (-2147483648) ≤ a6 ∧ a6 ≤ 2147483647) (P_XInv : XInv h a0) : MI l D cy w z0 yX11_sight cX11_sight 10 (some .int) 2 50 1 19 [.inr (.inr a0), .inl a1, .inl a2, .inl a3, .inl a4, .inl a5, .inl a6] h (fun v h1 => Okh h1 ∧ Fx wr_k_X11_sight h h1 ∧ ((-1) ≤ v ∧ v ≤ 39) ∧ (XInv h1 a0)) := by
  obtain ⟨v1, e2⟩ : ∃ z, Rv h a0 3 = z := ⟨_, rfl⟩
  have t3 := ok_R O ta0 rE_11_3 e2
  have l4 := ok_L O ta0 rE_11_3 e2
  obtain ⟨v5, e6⟩ : ∃ z, Iv h a0 4 = z := ⟨_, rfl⟩
  have f7 := ok_I O ta0 rI_11_4 e6
  obtain ⟨v8, e9⟩ : ∃ z, Rv h a0 8 = z := ⟨_, rfl⟩
  have t10 := ok_R O ta0 rE_11_8 e9
  have l11 := ok_L O ta0 rE_11_8 e9
  obtain ⟨v12, e13⟩ : ∃ z, Iv h a0 9 = z := ⟨_, rfl⟩
  have f14 := ok_I O ta0 rI_11_9 e13
  obtain ⟨v15, e16⟩ : ∃ z, Rv h a0 11 = z := ⟨_, rfl⟩
  have t17 := ok_R O ta0 rE_11_11 e16
  have l18 := ok_L O ta0 rE_11_11 e16
  obtain ⟨v19, e20⟩ : ∃ z, Iv h a0 12 = z := ⟨_, rfl⟩
  have f21 := ok_I O ta0 rI_11_12 e20
  obtain ⟨v22, e23⟩ : ∃ z, Iv h a0 15 = z := ⟨_, rfl⟩
  have f24 := ok_I O ta0 rI_11_15 e23
  obtain ⟨v25, e26⟩ : ∃ z, Rv h a0 14 = z := ⟨_, rfl⟩
  have t27 := ok_R O ta0 rE_11_14 e26
  have l28 := ok_L O ta0 rE_11_14 e26
  obtain ⟨v29, e30⟩ : ∃ z, Rv h a0 13 = z := ⟨_, rfl⟩
  have t31 := ok_R O ta0 rE_11_13 e30
  obtain ⟨v32, e33⟩ : ∃ z, Rv h a0 6 = z := ⟨_, rfl⟩
  have t34 := ok_R O ta0 rE_11_6 e33
  obtain ⟨v35, e36⟩ : ∃ z, Rv h a0 7 = z := ⟨_, rfl⟩
  have t37 := ok_R O ta0 rE_11_7 e36
  have p49 := P_XInv
  unfold XInv at p49
  rw [e2, e6, e9, e13, e16, e20, e23, e26, e30, e33, e36] at p49
  obtain ⟨p38, p39, p40, p41, p42, p43, p44, p45, p46, p47, p48⟩ := p49
  obtain ⟨v50, e51⟩ : ∃ z, Iv h v29 3 = z := ⟨_, rfl⟩
  have f52 := ok_I O t31 rI_7_3 e51
  obtain ⟨v53, e54⟩ : ∃ z, Iv h v29 4 = z := ⟨_, rfl⟩
  have f55 := ok_I O t31 rI_7_4 e54
  rw [e51] at p44
  rw [e54] at p45
  refine hm_go (by decide +kernel) (Nat.le_of_ble_eq_true rfl) (fun p e s m below meth c C hr hn => ?_)
  refine g_iload_n C rfl 2 rfl dX11_sight_0 ?_
  refine g_iload_n C rfl 3 rfl dX11_sight_1 ?_
  refine g_callI (st := []) (gc_S C lk_LandSurvey_85 (k_X11_cellAt l D cy w z0 O fa2 fa3) rfl ⟨by decide, by decide⟩ (Nat.le_of_ble_eq_true rfl) dX11_sight_2 ⟨(by decide), (by decide)⟩) (fun r56 h57 f59 K58 => ?_)
  obtain ⟨O60, F61, f62, p63⟩ := K58
  refine g_istore C [(7, .inl r56), (0, .inr (.inr a0)), (1, .inl a1), (2, .inl a2), (3, .inl a3), (4, .inl a4), (5, .inl a5), (6, .inl a6)] (by decide) rfl dX11_sight_5 ?_
  refine g_iload C 0 rfl dX11_sight_7 ?_
  refine g_iconst C dX11_sight_9 ?_
  refine g_icmp_eq C (iw f62 (by decide) (by decide)) (iw (il (-1)) (by decide) (by decide)) 31 (by decide) dX11_sight_10 (fun q64 => ?_) (fun q65 => ?_)
  · have f66 : (-1 : Int) ≤ r56 ∧ r56 ≤ (-1 : Int) := ii f62 (r_eq (il (-1)) q64) (by decide) (by decide)
    refine g_iconst C dX11_sight_31 ?_
    have p67 := (XInv_fx O F61 ta0 rfl P_XInv)
    exact g_iret C hr rfl (iw (il (-1)) (by decide) (by decide)) ⟨O60, ((Fx.rf (wr := wr_k_X11_sight)).call F61 rfl), (iw (il (-1)) (by decide) (by decide)), p67⟩ (by decide) (by decide) dX11_sight_32
  · have f68 : (0 : Int) ≤ r56 ∧ r56 ≤ (95 : Int) := r_nl f62 q65
    refine g_iload_n C rfl 2 rfl dX11_sight_13 ?_
    refine g_if_lt C fa1 31 (by decide) dX11_sight_14 (fun q69 => ?_) (fun q70 => ?_)
    · have f71 : (-2147483648 : Int) ≤ a1 ∧ a1 ≤ (-1 : Int) := r_lt fa1 (il 0) q69 (by decide) (by decide)
      refine g_iconst C dX11_sight_31 ?_
      have p72 := (XInv_fx O F61 ta0 rfl P_XInv)
      exact g_iret C hr rfl (iw (il (-1)) (by decide) (by decide)) ⟨O60, ((Fx.rf (wr := wr_k_X11_sight)).call F61 rfl), (iw (il (-1)) (by decide) (by decide)), p72⟩ (by decide) (by decide) dX11_sight_32
    · have f73 : (0 : Int) ≤ a1 ∧ a1 ≤ (2147483647 : Int) := r_ge fa1 (il 0) q70 (by decide) (by decide)
      refine g_iload_n C rfl 2 rfl dX11_sight_17 ?_
      refine g_iconst C dX11_sight_18 ?_
      refine g_icmp_gt C (iw f73 (by decide) (by decide)) (iw (il 4) (by decide) (by decide)) 31 (by decide) dX11_sight_19 (fun q74 => ?_) (fun q75 => ?_)
      · have f76 : (5 : Int) ≤ a1 ∧ a1 ≤ (2147483647 : Int) := r_gt f73 (il 4) q74 (by decide) (by decide)
        refine g_iconst C dX11_sight_31 ?_
        have p77 := (XInv_fx O F61 ta0 rfl P_XInv)
        exact g_iret C hr rfl (iw (il (-1)) (by decide) (by decide)) ⟨O60, ((Fx.rf (wr := wr_k_X11_sight)).call F61 rfl), (iw (il (-1)) (by decide) (by decide)), p77⟩ (by decide) (by decide) dX11_sight_32
      · have f78 : (0 : Int) ≤ a1 ∧ a1 ≤ (4 : Int) := r_le f73 (il 4) q75 (by decide) (by decide)
        refine g_aload_n C rfl 1 rfl dX11_sight_22 ?_
        have e79 : Tg h57 a0 = 11 := (fxT F61 ta0)
        have e80 : Iv h57 a0 4 = v5 := ((fxI F61 ta0 rfl).trans e6)
        refine gf_I C fk_LandSurvey_102 rfl e79 e80 dX11_sight_23 ?_
        refine g_bipush C (by decide) dX11_sight_26 ?_
        refine g_icmp_lt C (iw f7 (by decide) (by decide)) (iw (il 40) (by decide) (by decide)) 33 (by decide) dX11_sight_28 (fun q81 => ?_) (fun q82 => ?_)
        · have f83 : (0 : Int) ≤ v5 ∧ v5 ≤ (39 : Int) := r_lt f7 (il 40) q81 (by decide) (by decide)
          refine g_iload_n C rfl 2 rfl dX11_sight_33 ?_
          refine g_if_eq C (iw f78 (by decide) (by decide)) 42 (by decide) dX11_sight_34 (fun q84 => ?_) (fun q85 => ?_)
          · have f86 : (0 : Int) ≤ a1 ∧ a1 ≤ (0 : Int) := ii f78 (r_eq (il 0) q84) (by decide) (by decide)
            refine g_iconst C dX11_sight_42 ?_
            refine g_goto C 49 (by decide) dX11_sight_43 ?_
            refine g_istore C [(8, .inl 0), (7, .inl r56), (0, .inr (.inr a0)), (1, .inl a1), (2, .inl a2), (3, .inl a3), (4, .inl a4), (5, .inl a5), (6, .inl a6)] (by decide) rfl dX11_sight_49 ?_
            refine g_iload C 6 rfl dX11_sight_51 ?_
            refine g_if_lt C fa4 88 (by decide) dX11_sight_53 (fun q87 => ?_) (fun q88 => ?_)
            · have f89 : (-2147483648 : Int) ≤ a4 ∧ a4 ≤ (-1 : Int) := r_lt fa4 (il 0) q87 (by decide) (by decide)
              refine g_iconst C dX11_sight_88 ?_
              have p90 := (XInv_fx O F61 ta0 rfl P_XInv)
              exact g_iret C hr rfl (iw (il (-1)) (by decide) (by decide)) ⟨O60, ((Fx.rf (wr := wr_k_X11_sight)).call F61 rfl), (iw (il (-1)) (by decide) (by decide)), p90⟩ (by decide) (by decide) dX11_sight_89
            · have f91 : (0 : Int) ≤ a4 ∧ a4 ≤ (2147483647 : Int) := r_ge fa4 (il 0) q88 (by decide) (by decide)
              refine g_iload C 6 rfl dX11_sight_56 ?_
              refine g_iload C 0 rfl dX11_sight_58 ?_
              refine g_icmp_gt C (iw f91 (by decide) (by decide)) (iw (il 0) (by decide) (by decide)) 88 (by decide) dX11_sight_60 (fun q92 => ?_) (fun q93 => ?_)
              · have f94 : (1 : Int) ≤ a4 ∧ a4 ≤ (2147483647 : Int) := r_gt f91 (il 0) q92 (by decide) (by decide)
                refine g_iconst C dX11_sight_88 ?_
                have p95 := (XInv_fx O F61 ta0 rfl P_XInv)
                exact g_iret C hr rfl (iw (il (-1)) (by decide) (by decide)) ⟨O60, ((Fx.rf (wr := wr_k_X11_sight)).call F61 rfl), (iw (il (-1)) (by decide) (by decide)), p95⟩ (by decide) (by decide) dX11_sight_89
              · have f96 : (0 : Int) ≤ a4 ∧ a4 ≤ (0 : Int) := r_le f91 (il 0) q93 (by decide) (by decide)
                refine g_iload C 7 rfl dX11_sight_63 ?_
                refine g_if_lt C fa5 88 (by decide) dX11_sight_65 (fun q97 => ?_) (fun q98 => ?_)
                · have f99 : (-2147483648 : Int) ≤ a5 ∧ a5 ≤ (-1 : Int) := r_lt fa5 (il 0) q97 (by decide) (by decide)
                  refine g_iconst C dX11_sight_88 ?_
                  have p100 := (XInv_fx O F61 ta0 rfl P_XInv)
                  exact g_iret C hr rfl (iw (il (-1)) (by decide) (by decide)) ⟨O60, ((Fx.rf (wr := wr_k_X11_sight)).call F61 rfl), (iw (il (-1)) (by decide) (by decide)), p100⟩ (by decide) (by decide) dX11_sight_89
                · have f101 : (0 : Int) ≤ a5 ∧ a5 ≤ (2147483647 : Int) := r_ge fa5 (il 0) q98 (by decide) (by decide)
                  refine g_iload C 7 rfl dX11_sight_68 ?_
                  refine g_bipush C (by decide) dX11_sight_70 ?_
                  refine g_icmp_ge C (iw f101 (by decide) (by decide)) (iw (il 6) (by decide) (by decide)) 88 (by decide) dX11_sight_72 (fun q102 => ?_) (fun q103 => ?_)
                  · have f104 : (6 : Int) ≤ a5 ∧ a5 ≤ (2147483647 : Int) := r_ge f101 (il 6) q102 (by decide) (by decide)
                    refine g_iconst C dX11_sight_88 ?_
                    have p105 := (XInv_fx O F61 ta0 rfl P_XInv)
                    exact g_iret C hr rfl (iw (il (-1)) (by decide) (by decide)) ⟨O60, ((Fx.rf (wr := wr_k_X11_sight)).call F61 rfl), (iw (il (-1)) (by decide) (by decide)), p105⟩ (by decide) (by decide) dX11_sight_89
                  · have f106 : (0 : Int) ≤ a5 ∧ a5 ≤ (5 : Int) := r_lt f101 (il 6) q103 (by decide) (by decide)
                    refine g_iload C 8 rfl dX11_sight_75 ?_
                    refine g_if_lt C fa6 88 (by decide) dX11_sight_77 (fun q107 => ?_) (fun q108 => ?_)
                    · have f109 : (-2147483648 : Int) ≤ a6 ∧ a6 ≤ (-1 : Int) := r_lt fa6 (il 0) q107 (by decide) (by decide)
                      refine g_iconst C dX11_sight_88 ?_
                      have p110 := (XInv_fx O F61 ta0 rfl P_XInv)
                      exact g_iret C hr rfl (iw (il (-1)) (by decide) (by decide)) ⟨O60, ((Fx.rf (wr := wr_k_X11_sight)).call F61 rfl), (iw (il (-1)) (by decide) (by decide)), p110⟩ (by decide) (by decide) dX11_sight_89
                    · have f111 : (0 : Int) ≤ a6 ∧ a6 ≤ (2147483647 : Int) := r_ge fa6 (il 0) q108 (by decide) (by decide)
                      refine g_iload C 8 rfl dX11_sight_80 ?_
                      refine g_sipush C (by decide) dX11_sight_82 ?_
                      refine g_icmp_le C (iw f111 (by decide) (by decide)) (iw (il 9999) (by decide) (by decide)) 90 (by decide) dX11_sight_85 (fun q112 => ?_) (fun q113 => ?_)
                      · have f114 : (0 : Int) ≤ a6 ∧ a6 ≤ (9999 : Int) := r_le f111 (il 9999) q112 (by decide) (by decide)
                        refine g_iload_n C rfl 3 rfl dX11_sight_90 ?_
                        refine g_if_ne C (iw f86 (by decide) (by decide)) 109 (by decide) dX11_sight_91 (fun q115 => ?_) (fun q116 => ?_)
                        · exact (no_ne f86 (il 0) q115 (by decide)).elim
                        · refine g_aload_n C rfl 2 rfl dX11_sight_94 ?_
                          obtain ⟨v117, e118⟩ : ∃ z, Rv h57 a0 2 = z := ⟨_, rfl⟩
                          have t119 := ok_R O60 e79 rE_11_2 e118
                          refine gf_R C fk_LandSurvey_16 rfl e79 e118 dX11_sight_95 ?_
                          obtain ⟨v120, e121⟩ : ∃ z, Rv h57 v117 1 = z := ⟨_, rfl⟩
                          have t122 := ok_R O60 t119 rE_3_1 e121
                          have l123 := ok_L O60 t119 rE_3_1 e121
                          refine gf_R C fk_LandSurvey_92 rfl t119 e121 dX11_sight_98 ?_
                          refine g_iload C 1 rfl dX11_sight_101 ?_
                          obtain ⟨v124, e125⟩ : ∃ z, Iv h57 v120 r56.toNat = z := ⟨_, rfl⟩
                          have f126 := ok_Ia O60 t122 ar_13101 rI_13101_0 e125
                          refine g_zald C t122 rfl l123 (ix f68 (by decide) (by decide)) e125 dX11_sight_103 ?_
                          refine g_if_eq C (iw f126 (by decide) (by decide)) 109 (by decide) dX11_sight_104 (fun q127 => ?_) (fun q128 => ?_)
                          · have f129 : (0 : Int) ≤ v124 ∧ v124 ≤ (0 : Int) := ii f126 (r_eq (il 0) q127) (by decide) (by decide)
                            refine g_new C 9 rfl rfl rfl inX8 tyX8 tyX8_ok kw_226 kw_553 kw_153 (by decide +kernel) (by decide) (by decide) dX11_sight_109 (fun n130 z131 z132 h134 hh133 => ?_)
                            have O135 := O60.pN z131 z132 hh133 (by decide) nn_9
                            refine g_dup C rfl dX11_sight_112 ?_
                            refine g_iload_n C rfl 3 rfl dX11_sight_113 ?_
                            refine g_iload C 1 rfl dX11_sight_114 ?_
                            refine g_iload C 6 rfl dX11_sight_116 ?_
                            refine g_iload C 7 rfl dX11_sight_118 ?_
                            refine g_iload C 8 rfl dX11_sight_120 ?_
                            refine g_aload_n C rfl 2 rfl dX11_sight_122 ?_
                            have e136 : Tg h134 a0 = 11 := ((pNT hh133 (pN_n hh133 z132 e79)).trans e79)
                            obtain ⟨v137, e138⟩ : ∃ z, Iv h134 a0 0 = z := ⟨_, rfl⟩
                            have f139 := ok_I O135 e136 rI_11_0 e138
                            refine gf_I C fk_LandSurvey_78 rfl e136 e138 dX11_sight_123 ?_
                            refine g_callV (st := [.inr (.inr n130)]) (gc_I C lk_LandSurvey_105 rfl (k_X8_init l D cy w z0 O135 (pN_T hh133) (iw f86 (by decide) (by decide)) f68 (iw f96 (by decide) (by decide)) f106 f114 f139) (tg_nz (pN_T hh133)) rfl ⟨by decide, by decide⟩ (Nat.le_of_ble_eq_true rfl) dX11_sight_126 ⟨(by decide), (by decide)⟩) (fun h141 K142 => ?_)
                            obtain ⟨O144, F145, p146, p147⟩ := K142
                            have e148 : Tg h141 n130 = 9 := (fxT F145 (pN_T hh133))
                            have F149 : Fx [1000000009] h57 h141 := fe_new z132 hh133 p146 e148
                            refine g_astore C [(9, .inr (.inr n130)), (8, .inl 0), (7, .inl r56), (0, .inr (.inr a0)), (1, .inl a1), (2, .inl a2), (3, .inl a3), (4, .inl a4), (5, .inl a5), (6, .inl a6)] (by decide) rfl dX11_sight_129 ?_
                            refine g_aload_n C rfl 3 rfl dX11_sight_131 ?_
                            have e150 : Tg h141 a0 = 11 := (fxT F149 e79)
                            have e151 : Rv h141 a0 3 = v1 := ((fxR F149 e79 rfl).trans ((fxR F61 ta0 rfl).trans e2))
                            refine gf_R C fk_LandSurvey_22 rfl e150 e151 dX11_sight_132 ?_
                            refine g_aload_n C rfl 3 rfl dX11_sight_135 ?_
                            have e152 : Iv h141 a0 4 = v5 := ((fxI F149 e79 rfl).trans e80)
                            refine gf_I C fk_LandSurvey_102 rfl e150 e152 dX11_sight_136 ?_
                            refine g_aload C 0 rfl dX11_sight_139 ?_
                            have e153 : Tg h141 v1 = 38104 := (fxT F149 (fxT F61 t3))
                            have e154 : Tg h57 v1 = 38104 := (fxT F61 t3)
                            have e155 : Ln h141 v1 = 40 := ((fxL F149 e154).trans ((fxL F61 t3).trans l4))
                            refine g_aast (t := 4) C e153 rfl (by decide) rfl e148 rfl rfl e155 (ix f83 (by decide) (by decide)) dX11_sight_141 (fun h157 hh156 => ?_)
                            have O158 := O144.pR e153 hh156 (okR_o ((rE_arr ar_38104 _).trans rE_38104_0) e148)
                            have e159 : Iv h157 a0 4 = v5 := ((pRI hh156).trans e152)
                            have p160 := (SOK_fx O60 F149 e154 rfl rfl rfl (SOK_fx O F61 t3 rfl rfl rfl p38))
                            have e161 : Tg h157 n130 = 9 := ((pRT hh156).trans e148)
                            have p162 : SOK h157 v1 (v5 + 1) := SOK_set p160 hh156 (by omega) (nz_of O158 e161) (fun z => absurd p147 z)
                            refine g_aload_n C rfl 3 rfl dX11_sight_142 ?_
                            refine g_iconst C dX11_sight_143 ?_
                            have e163 : Tg h157 a0 = 11 := ((pRT hh156).trans e150)
                            refine gp_I C fk_LandSurvey_81 pk_LandSurvey_15 rfl e163 (iw (il 0) (by decide) (by decide)) (nar_z2 (iw (il 0) (by decide) (by decide))) dX11_sight_144 (fun h165 hh164 => ?_)
                            have O166 := O158.pI e163 hh164 rI_11_15 (iw (il 0) (by decide) (by decide)) nofun
                            refine g_aload_n C rfl 3 rfl dX11_sight_147 ?_
                            refine g_dup C rfl dX11_sight_148 ?_
                            have e167 : Tg h165 a0 = 11 := ((pIT hh164).trans e163)
                            have e168 : Iv h165 a0 4 = v5 := ((pI_j hh164 (by decide)).trans e159)
                            refine gf_I C fk_LandSurvey_102 rfl e167 e168 dX11_sight_149 ?_
                            refine g_dup_x1 C rfl rfl dX11_sight_152 ?_
                            refine g_iconst C dX11_sight_153 ?_
                            have f169 : (1 : Int) ≤ (v5 + 1) ∧ (v5 + 1) ≤ (40 : Int) := ia_add f83 (il 1) (by decide) (by decide)
                            refine g_iadd C dX11_sight_154 ?_
                            refine gp_I C fk_LandSurvey_102 pk_LandSurvey_4 rfl e167 (iw f169 (by decide) (by decide)) (nf_i _) dX11_sight_155 (fun h171 hh170 => ?_)
                            have O172 := O166.pI e167 hh170 rI_11_4 (iw f169 (by decide) (by decide)) nofun
                            have e173 : Rv h171 a0 3 = v1 := ((pIR hh170).trans ((pIR hh164).trans ((pR_n hh156 (ne_tag e150 e153 (by decide))).trans e151)))
                            have e174 : Rv h171 a0 8 = v8 := ((pIR hh170).trans ((pIR hh164).trans ((pR_n hh156 (ne_tag e150 e153 (by decide))).trans ((fxR F149 e79 rfl).trans ((fxR F61 ta0 rfl).trans e9)))))
                            have e175 : Iv h171 a0 9 = v12 := ((pI_j hh170 (by decide)).trans ((pI_j hh164 (by decide)).trans ((pRI hh156).trans ((fxI F149 e79 rfl).trans ((fxI F61 ta0 rfl).trans e13)))))
                            have e176 : Rv h171 a0 11 = v15 := ((pIR hh170).trans ((pIR hh164).trans ((pR_n hh156 (ne_tag e150 e153 (by decide))).trans ((fxR F149 e79 rfl).trans ((fxR F61 ta0 rfl).trans e16)))))
                            have e177 : Iv h171 a0 12 = v19 := ((pI_j hh170 (by decide)).trans ((pI_j hh164 (by decide)).trans ((pRI hh156).trans ((fxI F149 e79 rfl).trans ((fxI F61 ta0 rfl).trans e20)))))
                            have e178 : Rv h171 a0 14 = v25 := ((pIR hh170).trans ((pIR hh164).trans ((pR_n hh156 (ne_tag e150 e153 (by decide))).trans ((fxR F149 e79 rfl).trans ((fxR F61 ta0 rfl).trans e26)))))
                            have e179 : Iv h171 a0 15 = 0 := ((pI_j hh170 (by decide)).trans (pI_e hh164))
                            have e180 : Rv h171 a0 13 = v29 := ((pIR hh170).trans ((pIR hh164).trans ((pR_n hh156 (ne_tag e150 e153 (by decide))).trans ((fxR F149 e79 rfl).trans ((fxR F61 ta0 rfl).trans e30)))))
                            have e181 : Rv h171 a0 6 = v32 := ((pIR hh170).trans ((pIR hh164).trans ((pR_n hh156 (ne_tag e150 e153 (by decide))).trans ((fxR F149 e79 rfl).trans ((fxR F61 ta0 rfl).trans e33)))))
                            have e182 : Rv h171 a0 7 = v35 := ((pIR hh170).trans ((pIR hh164).trans ((pR_n hh156 (ne_tag e150 e153 (by decide))).trans ((fxR F149 e79 rfl).trans ((fxR F61 ta0 rfl).trans e36)))))
                            have e183 : Tg h57 v29 = 7 := (fxT F61 t31)
                            have e184 : Tg h141 v29 = 7 := (fxT F149 e183)
                            have e185 : Rv h171 v29 1 = v1 := ((pIR hh170).trans ((pIR hh164).trans ((pR_n hh156 (ne_tag e184 e153 (by decide))).trans ((fxR F149 e183 rfl).trans ((fxR F61 t31 rfl).trans p42)))))
                            have e186 : Rv h171 v29 2 = v8 := ((pIR hh170).trans ((pIR hh164).trans ((pR_n hh156 (ne_tag e184 e153 (by decide))).trans ((fxR F149 e183 rfl).trans ((fxR F61 t31 rfl).trans p43)))))
                            have e187 : Tg h157 v29 = 7 := ((pRT hh156).trans e184)
                            have e188 : Tg h165 v29 = 7 := ((pIT hh164).trans e187)
                            have e189 : Iv h171 v29 3 = v50 := ((pI_n hh170 (ne_tag e188 e167 (by decide))).trans ((pI_n hh164 (ne_tag e187 e163 (by decide))).trans ((pRI hh156).trans ((fxI F149 e183 rfl).trans ((fxI F61 t31 rfl).trans e51)))))
                            have e190 : Iv h171 v29 4 = v53 := ((pI_n hh170 (ne_tag e188 e167 (by decide))).trans ((pI_n hh164 (ne_tag e187 e163 (by decide))).trans ((pRI hh156).trans ((fxI F149 e183 rfl).trans ((fxI F61 t31 rfl).trans e54)))))
                            have e191 : Tg h157 v1 = 38104 := ((pRT hh156).trans e153)
                            have e192 : Tg h165 v1 = 38104 := ((pIT hh164).trans e191)
                            have p193 := (SOK_fx O166 ((Fx.rf (wr := [2204]) (h := h165)).pI e167 hh170 rfl) e192 rfl rfl rfl (SOK_fx O158 ((Fx.rf (wr := [2215]) (h := h157)).pI e163 hh164 rfl) e191 rfl rfl rfl p162))
                            have e194 : Tg h57 v8 = 39105 := (fxT F61 t10)
                            have e195 : Tg h141 v8 = 39105 := (fxT F149 e194)
                            have e196 : Tg h157 v8 = 39105 := ((pRT hh156).trans e195)
                            have e197 : Tg h165 v8 = 39105 := ((pIT hh164).trans e196)
                            have p198 := (BOK_fx O166 ((Fx.rf (wr := [2204]) (h := h165)).pI e167 hh170 rfl) e197 rfl rfl rfl rfl (BOK_fx O158 ((Fx.rf (wr := [2215]) (h := h157)).pI e163 hh164 rfl) e196 rfl rfl rfl rfl (BOK_fx O144 ((Fx.rf (wr := [7620800]) (h := h141)).pRa e153 ar_38104 hh156 rfl) e195 rfl rfl rfl rfl (BOK_fx O60 F149 e194 rfl rfl rfl rfl (BOK_fx O F61 t10 rfl rfl rfl rfl p39)))))
                            have e199 : Tg h57 v15 = 48106 := (fxT F61 t17)
                            have e200 : Tg h141 v15 = 48106 := (fxT F149 e199)
                            have e201 : Tg h157 v15 = 48106 := ((pRT hh156).trans e200)
                            have e202 : Tg h165 v15 = 48106 := ((pIT hh164).trans e201)
                            have p203 := (NN_fx ((Fx.rf (wr := [2204]) (h := h165)).pI e167 hh170 rfl) e202 ar_48106 rfl (NN_fx ((Fx.rf (wr := [2215]) (h := h157)).pI e163 hh164 rfl) e201 ar_48106 rfl (NN_fx ((Fx.rf (wr := [7620800]) (h := h141)).pRa e153 ar_38104 hh156 rfl) e200 ar_48106 rfl (NN_fx F149 e199 ar_48106 rfl (NN_fx F61 t17 ar_48106 rfl p40)))))
                            have e204 : Tg h57 v32 = 5 := (fxT F61 t34)
                            have e205 : Tg h141 v32 = 5 := (fxT F149 e204)
                            have e206 : Tg h157 v32 = 5 := ((pRT hh156).trans e205)
                            have e207 : Tg h165 v32 = 5 := ((pIT hh164).trans e206)
                            have p208 := (BkOk_fx O166 ((Fx.rf (wr := [2204]) (h := h165)).pI e167 hh170 rfl) e207 rfl rfl (BkOk_fx O158 ((Fx.rf (wr := [2215]) (h := h157)).pI e163 hh164 rfl) e206 rfl rfl (BkOk_fx O144 ((Fx.rf (wr := [7620800]) (h := h141)).pRa e153 ar_38104 hh156 rfl) e205 rfl rfl (BkOk_fx O60 F149 e204 rfl rfl (BkOk_fx O F61 t34 rfl rfl p46)))))
                            have e209 : Tg h57 v35 = 6 := (fxT F61 t37)
                            have e210 : Tg h141 v35 = 6 := (fxT F149 e209)
                            have e211 : Tg h157 v35 = 6 := ((pRT hh156).trans e210)
                            have e212 : Tg h165 v35 = 6 := ((pIT hh164).trans e211)
                            have p213 := (RulesOk_fx O166 ((Fx.rf (wr := [2204]) (h := h165)).pI e167 hh170 rfl) e212 rfl (RulesOk_fx O158 ((Fx.rf (wr := [2215]) (h := h157)).pI e163 hh164 rfl) e211 rfl (RulesOk_fx O144 ((Fx.rf (wr := [7620800]) (h := h141)).pRa e153 ar_38104 hh156 rfl) e210 rfl (RulesOk_fx O60 F149 e209 rfl (RulesOk_fx O F61 t37 rfl p47)))))
                            have p214 := (ND_fx ((Fx.rf (wr := [2204]) (h := h165)).pI e167 hh170 rfl) rfl rfl (ND_fx ((Fx.rf (wr := [2215]) (h := h157)).pI e163 hh164 rfl) rfl rfl (ND_fx ((Fx.rf (wr := [7620800]) (h := h141)).pRa e153 ar_38104 hh156 rfl) rfl rfl (ND_fx F149 rfl rfl (ND_fx F61 rfl rfl p48)))))
                            exact g_iret C hr rfl (iw f83 (by decide) (by decide)) ⟨O172, ((((((Fx.rf (wr := wr_k_X11_sight)).call F61 rfl).call F149 rfl).pRa e153 ar_38104 hh156 rfl).pI e163 hh164 rfl).pI e167 hh170 rfl), (iw f83 (by decide) (by decide)), (by unfold XInv; rw [e173, (pI_e hh170), e174, e175, e176, e177, e179, e178, e180, e181, e182, e185, e186, e189, e190]; exact ⟨p193, p198, p203, (fun z => absurd z (by decide)), rfl, rfl, (by omega), (by omega), p208, p213, p214⟩)⟩ (by decide) (by decide) dX11_sight_158
                          · have f215 : (1 : Int) ≤ v124 ∧ v124 ≤ (1 : Int) := r_nl f126 q128
                            refine g_iconst C dX11_sight_107 ?_
                            have p216 := (XInv_fx O F61 ta0 rfl P_XInv)
                            exact g_iret C hr rfl (iw (il (-1)) (by decide) (by decide)) ⟨O60, ((Fx.rf (wr := wr_k_X11_sight)).call F61 rfl), (iw (il (-1)) (by decide) (by decide)), p216⟩ (by decide) (by decide) dX11_sight_108
                      · have f217 : (10000 : Int) ≤ a6 ∧ a6 ≤ (2147483647 : Int) := r_gt f111 (il 9999) q113 (by decide) (by decide)
                        refine g_iconst C dX11_sight_88 ?_
                        have p218 := (XInv_fx O F61 ta0 rfl P_XInv)
                        exact g_iret C hr rfl (iw (il (-1)) (by decide) (by decide)) ⟨O60, ((Fx.rf (wr := wr_k_X11_sight)).call F61 rfl), (iw (il (-1)) (by decide) (by decide)), p218⟩ (by decide) (by decide) dX11_sight_89
          · have f219 : (1 : Int) ≤ a1 ∧ a1 ≤ (4 : Int) := r_nl f78 q85
            refine g_iload_n C rfl 2 rfl dX11_sight_37 ?_
            refine g_iconst C dX11_sight_38 ?_
            refine g_icmp_ne C (iw f219 (by decide) (by decide)) (iw (il 1) (by decide) (by decide)) 46 (by decide) dX11_sight_39 (fun q220 => ?_) (fun q221 => ?_)
            · have f222 : (2 : Int) ≤ a1 ∧ a1 ≤ (4 : Int) := r_nl f219 q220
              refine g_sipush C (by decide) dX11_sight_46 ?_
              refine g_istore C [(8, .inl 999), (7, .inl r56), (0, .inr (.inr a0)), (1, .inl a1), (2, .inl a2), (3, .inl a3), (4, .inl a4), (5, .inl a5), (6, .inl a6)] (by decide) rfl dX11_sight_49 ?_
              refine g_iload C 6 rfl dX11_sight_51 ?_
              refine g_if_lt C fa4 88 (by decide) dX11_sight_53 (fun q223 => ?_) (fun q224 => ?_)
              · have f225 : (-2147483648 : Int) ≤ a4 ∧ a4 ≤ (-1 : Int) := r_lt fa4 (il 0) q223 (by decide) (by decide)
                refine g_iconst C dX11_sight_88 ?_
                have p226 := (XInv_fx O F61 ta0 rfl P_XInv)
                exact g_iret C hr rfl (iw (il (-1)) (by decide) (by decide)) ⟨O60, ((Fx.rf (wr := wr_k_X11_sight)).call F61 rfl), (iw (il (-1)) (by decide) (by decide)), p226⟩ (by decide) (by decide) dX11_sight_89
              · have f227 : (0 : Int) ≤ a4 ∧ a4 ≤ (2147483647 : Int) := r_ge fa4 (il 0) q224 (by decide) (by decide)
                refine g_iload C 6 rfl dX11_sight_56 ?_
                refine g_iload C 0 rfl dX11_sight_58 ?_
                refine g_icmp_gt C (iw f227 (by decide) (by decide)) (iw (il 999) (by decide) (by decide)) 88 (by decide) dX11_sight_60 (fun q228 => ?_) (fun q229 => ?_)
                · have f230 : (1000 : Int) ≤ a4 ∧ a4 ≤ (2147483647 : Int) := r_gt f227 (il 999) q228 (by decide) (by decide)
                  refine g_iconst C dX11_sight_88 ?_
                  have p231 := (XInv_fx O F61 ta0 rfl P_XInv)
                  exact g_iret C hr rfl (iw (il (-1)) (by decide) (by decide)) ⟨O60, ((Fx.rf (wr := wr_k_X11_sight)).call F61 rfl), (iw (il (-1)) (by decide) (by decide)), p231⟩ (by decide) (by decide) dX11_sight_89
                · have f232 : (0 : Int) ≤ a4 ∧ a4 ≤ (999 : Int) := r_le f227 (il 999) q229 (by decide) (by decide)
                  refine g_iload C 7 rfl dX11_sight_63 ?_
                  refine g_if_lt C fa5 88 (by decide) dX11_sight_65 (fun q233 => ?_) (fun q234 => ?_)
                  · have f235 : (-2147483648 : Int) ≤ a5 ∧ a5 ≤ (-1 : Int) := r_lt fa5 (il 0) q233 (by decide) (by decide)
                    refine g_iconst C dX11_sight_88 ?_
                    have p236 := (XInv_fx O F61 ta0 rfl P_XInv)
                    exact g_iret C hr rfl (iw (il (-1)) (by decide) (by decide)) ⟨O60, ((Fx.rf (wr := wr_k_X11_sight)).call F61 rfl), (iw (il (-1)) (by decide) (by decide)), p236⟩ (by decide) (by decide) dX11_sight_89
                  · have f237 : (0 : Int) ≤ a5 ∧ a5 ≤ (2147483647 : Int) := r_ge fa5 (il 0) q234 (by decide) (by decide)
                    refine g_iload C 7 rfl dX11_sight_68 ?_
                    refine g_bipush C (by decide) dX11_sight_70 ?_
                    refine g_icmp_ge C (iw f237 (by decide) (by decide)) (iw (il 6) (by decide) (by decide)) 88 (by decide) dX11_sight_72 (fun q238 => ?_) (fun q239 => ?_)
                    · have f240 : (6 : Int) ≤ a5 ∧ a5 ≤ (2147483647 : Int) := r_ge f237 (il 6) q238 (by decide) (by decide)
                      refine g_iconst C dX11_sight_88 ?_
                      have p241 := (XInv_fx O F61 ta0 rfl P_XInv)
                      exact g_iret C hr rfl (iw (il (-1)) (by decide) (by decide)) ⟨O60, ((Fx.rf (wr := wr_k_X11_sight)).call F61 rfl), (iw (il (-1)) (by decide) (by decide)), p241⟩ (by decide) (by decide) dX11_sight_89
                    · have f242 : (0 : Int) ≤ a5 ∧ a5 ≤ (5 : Int) := r_lt f237 (il 6) q239 (by decide) (by decide)
                      refine g_iload C 8 rfl dX11_sight_75 ?_
                      refine g_if_lt C fa6 88 (by decide) dX11_sight_77 (fun q243 => ?_) (fun q244 => ?_)
                      · have f245 : (-2147483648 : Int) ≤ a6 ∧ a6 ≤ (-1 : Int) := r_lt fa6 (il 0) q243 (by decide) (by decide)
                        refine g_iconst C dX11_sight_88 ?_
                        have p246 := (XInv_fx O F61 ta0 rfl P_XInv)
                        exact g_iret C hr rfl (iw (il (-1)) (by decide) (by decide)) ⟨O60, ((Fx.rf (wr := wr_k_X11_sight)).call F61 rfl), (iw (il (-1)) (by decide) (by decide)), p246⟩ (by decide) (by decide) dX11_sight_89
                      · have f247 : (0 : Int) ≤ a6 ∧ a6 ≤ (2147483647 : Int) := r_ge fa6 (il 0) q244 (by decide) (by decide)
                        refine g_iload C 8 rfl dX11_sight_80 ?_
                        refine g_sipush C (by decide) dX11_sight_82 ?_
                        refine g_icmp_le C (iw f247 (by decide) (by decide)) (iw (il 9999) (by decide) (by decide)) 90 (by decide) dX11_sight_85 (fun q248 => ?_) (fun q249 => ?_)
                        · have f250 : (0 : Int) ≤ a6 ∧ a6 ≤ (9999 : Int) := r_le f247 (il 9999) q248 (by decide) (by decide)
                          refine g_iload_n C rfl 3 rfl dX11_sight_90 ?_
                          refine g_if_ne C (iw f222 (by decide) (by decide)) 109 (by decide) dX11_sight_91 (fun q251 => ?_) (fun q252 => ?_)
                          · refine g_new C 9 rfl rfl rfl inX8 tyX8 tyX8_ok kw_226 kw_553 kw_153 (by decide +kernel) (by decide) (by decide) dX11_sight_109 (fun n253 z254 z255 h257 hh256 => ?_)
                            have O258 := O60.pN z254 z255 hh256 (by decide) nn_9
                            refine g_dup C rfl dX11_sight_112 ?_
                            refine g_iload_n C rfl 3 rfl dX11_sight_113 ?_
                            refine g_iload C 1 rfl dX11_sight_114 ?_
                            refine g_iload C 6 rfl dX11_sight_116 ?_
                            refine g_iload C 7 rfl dX11_sight_118 ?_
                            refine g_iload C 8 rfl dX11_sight_120 ?_
                            refine g_aload_n C rfl 2 rfl dX11_sight_122 ?_
                            have e259 : Tg h257 a0 = 11 := ((pNT hh256 (pN_n hh256 z255 e79)).trans e79)
                            obtain ⟨v260, e261⟩ : ∃ z, Iv h257 a0 0 = z := ⟨_, rfl⟩
                            have f262 := ok_I O258 e259 rI_11_0 e261
                            refine gf_I C fk_LandSurvey_78 rfl e259 e261 dX11_sight_123 ?_
                            refine g_callV (st := [.inr (.inr n253)]) (gc_I C lk_LandSurvey_105 rfl (k_X8_init l D cy w z0 O258 (pN_T hh256) (iw f222 (by decide) (by decide)) f68 f232 f242 f250 f262) (tg_nz (pN_T hh256)) rfl ⟨by decide, by decide⟩ (Nat.le_of_ble_eq_true rfl) dX11_sight_126 ⟨(by decide), (by decide)⟩) (fun h264 K265 => ?_)
                            obtain ⟨O267, F268, p269, p270⟩ := K265
                            have e271 : Tg h264 n253 = 9 := (fxT F268 (pN_T hh256))
                            have F272 : Fx [1000000009] h57 h264 := fe_new z255 hh256 p269 e271
                            refine g_astore C [(9, .inr (.inr n253)), (8, .inl 999), (7, .inl r56), (0, .inr (.inr a0)), (1, .inl a1), (2, .inl a2), (3, .inl a3), (4, .inl a4), (5, .inl a5), (6, .inl a6)] (by decide) rfl dX11_sight_129 ?_
                            refine g_aload_n C rfl 3 rfl dX11_sight_131 ?_
                            have e273 : Tg h264 a0 = 11 := (fxT F272 e79)
                            have e274 : Rv h264 a0 3 = v1 := ((fxR F272 e79 rfl).trans ((fxR F61 ta0 rfl).trans e2))
                            refine gf_R C fk_LandSurvey_22 rfl e273 e274 dX11_sight_132 ?_
                            refine g_aload_n C rfl 3 rfl dX11_sight_135 ?_
                            have e275 : Iv h264 a0 4 = v5 := ((fxI F272 e79 rfl).trans e80)
                            refine gf_I C fk_LandSurvey_102 rfl e273 e275 dX11_sight_136 ?_
                            refine g_aload C 0 rfl dX11_sight_139 ?_
                            have e276 : Tg h264 v1 = 38104 := (fxT F272 (fxT F61 t3))
                            have e277 : Tg h57 v1 = 38104 := (fxT F61 t3)
                            have e278 : Ln h264 v1 = 40 := ((fxL F272 e277).trans ((fxL F61 t3).trans l4))
                            refine g_aast (t := 4) C e276 rfl (by decide) rfl e271 rfl rfl e278 (ix f83 (by decide) (by decide)) dX11_sight_141 (fun h280 hh279 => ?_)
                            have O281 := O267.pR e276 hh279 (okR_o ((rE_arr ar_38104 _).trans rE_38104_0) e271)
                            have e282 : Iv h280 a0 4 = v5 := ((pRI hh279).trans e275)
                            have p283 := (SOK_fx O60 F272 e277 rfl rfl rfl (SOK_fx O F61 t3 rfl rfl rfl p38))
                            have e284 : Tg h280 n253 = 9 := ((pRT hh279).trans e271)
                            have p285 : SOK h280 v1 (v5 + 1) := SOK_set p283 hh279 (by omega) (nz_of O281 e284) (fun z => absurd p270 z)
                            refine g_aload_n C rfl 3 rfl dX11_sight_142 ?_
                            refine g_iconst C dX11_sight_143 ?_
                            have e286 : Tg h280 a0 = 11 := ((pRT hh279).trans e273)
                            refine gp_I C fk_LandSurvey_81 pk_LandSurvey_15 rfl e286 (iw (il 0) (by decide) (by decide)) (nar_z2 (iw (il 0) (by decide) (by decide))) dX11_sight_144 (fun h288 hh287 => ?_)
                            have O289 := O281.pI e286 hh287 rI_11_15 (iw (il 0) (by decide) (by decide)) nofun
                            refine g_aload_n C rfl 3 rfl dX11_sight_147 ?_
                            refine g_dup C rfl dX11_sight_148 ?_
                            have e290 : Tg h288 a0 = 11 := ((pIT hh287).trans e286)
                            have e291 : Iv h288 a0 4 = v5 := ((pI_j hh287 (by decide)).trans e282)
                            refine gf_I C fk_LandSurvey_102 rfl e290 e291 dX11_sight_149 ?_
                            refine g_dup_x1 C rfl rfl dX11_sight_152 ?_
                            refine g_iconst C dX11_sight_153 ?_
                            have f292 : (1 : Int) ≤ (v5 + 1) ∧ (v5 + 1) ≤ (40 : Int) := ia_add f83 (il 1) (by decide) (by decide)
                            refine g_iadd C dX11_sight_154 ?_
                            refine gp_I C fk_LandSurvey_102 pk_LandSurvey_4 rfl e290 (iw f292 (by decide) (by decide)) (nf_i _) dX11_sight_155 (fun h294 hh293 => ?_)
                            have O295 := O289.pI e290 hh293 rI_11_4 (iw f292 (by decide) (by decide)) nofun
                            have e296 : Rv h294 a0 3 = v1 := ((pIR hh293).trans ((pIR hh287).trans ((pR_n hh279 (ne_tag e273 e276 (by decide))).trans e274)))
                            have e297 : Rv h294 a0 8 = v8 := ((pIR hh293).trans ((pIR hh287).trans ((pR_n hh279 (ne_tag e273 e276 (by decide))).trans ((fxR F272 e79 rfl).trans ((fxR F61 ta0 rfl).trans e9)))))
                            have e298 : Iv h294 a0 9 = v12 := ((pI_j hh293 (by decide)).trans ((pI_j hh287 (by decide)).trans ((pRI hh279).trans ((fxI F272 e79 rfl).trans ((fxI F61 ta0 rfl).trans e13)))))
                            have e299 : Rv h294 a0 11 = v15 := ((pIR hh293).trans ((pIR hh287).trans ((pR_n hh279 (ne_tag e273 e276 (by decide))).trans ((fxR F272 e79 rfl).trans ((fxR F61 ta0 rfl).trans e16)))))
                            have e300 : Iv h294 a0 12 = v19 := ((pI_j hh293 (by decide)).trans ((pI_j hh287 (by decide)).trans ((pRI hh279).trans ((fxI F272 e79 rfl).trans ((fxI F61 ta0 rfl).trans e20)))))
                            have e301 : Rv h294 a0 14 = v25 := ((pIR hh293).trans ((pIR hh287).trans ((pR_n hh279 (ne_tag e273 e276 (by decide))).trans ((fxR F272 e79 rfl).trans ((fxR F61 ta0 rfl).trans e26)))))
                            have e302 : Iv h294 a0 15 = 0 := ((pI_j hh293 (by decide)).trans (pI_e hh287))
                            have e303 : Rv h294 a0 13 = v29 := ((pIR hh293).trans ((pIR hh287).trans ((pR_n hh279 (ne_tag e273 e276 (by decide))).trans ((fxR F272 e79 rfl).trans ((fxR F61 ta0 rfl).trans e30)))))
                            have e304 : Rv h294 a0 6 = v32 := ((pIR hh293).trans ((pIR hh287).trans ((pR_n hh279 (ne_tag e273 e276 (by decide))).trans ((fxR F272 e79 rfl).trans ((fxR F61 ta0 rfl).trans e33)))))
                            have e305 : Rv h294 a0 7 = v35 := ((pIR hh293).trans ((pIR hh287).trans ((pR_n hh279 (ne_tag e273 e276 (by decide))).trans ((fxR F272 e79 rfl).trans ((fxR F61 ta0 rfl).trans e36)))))
                            have e306 : Tg h57 v29 = 7 := (fxT F61 t31)
                            have e307 : Tg h264 v29 = 7 := (fxT F272 e306)
                            have e308 : Rv h294 v29 1 = v1 := ((pIR hh293).trans ((pIR hh287).trans ((pR_n hh279 (ne_tag e307 e276 (by decide))).trans ((fxR F272 e306 rfl).trans ((fxR F61 t31 rfl).trans p42)))))
                            have e309 : Rv h294 v29 2 = v8 := ((pIR hh293).trans ((pIR hh287).trans ((pR_n hh279 (ne_tag e307 e276 (by decide))).trans ((fxR F272 e306 rfl).trans ((fxR F61 t31 rfl).trans p43)))))
                            have e310 : Tg h280 v29 = 7 := ((pRT hh279).trans e307)
                            have e311 : Tg h288 v29 = 7 := ((pIT hh287).trans e310)
                            have e312 : Iv h294 v29 3 = v50 := ((pI_n hh293 (ne_tag e311 e290 (by decide))).trans ((pI_n hh287 (ne_tag e310 e286 (by decide))).trans ((pRI hh279).trans ((fxI F272 e306 rfl).trans ((fxI F61 t31 rfl).trans e51)))))
                            have e313 : Iv h294 v29 4 = v53 := ((pI_n hh293 (ne_tag e311 e290 (by decide))).trans ((pI_n hh287 (ne_tag e310 e286 (by decide))).trans ((pRI hh279).trans ((fxI F272 e306 rfl).trans ((fxI F61 t31 rfl).trans e54)))))
                            have e314 : Tg h280 v1 = 38104 := ((pRT hh279).trans e276)
                            have e315 : Tg h288 v1 = 38104 := ((pIT hh287).trans e314)
                            have p316 := (SOK_fx O289 ((Fx.rf (wr := [2204]) (h := h288)).pI e290 hh293 rfl) e315 rfl rfl rfl (SOK_fx O281 ((Fx.rf (wr := [2215]) (h := h280)).pI e286 hh287 rfl) e314 rfl rfl rfl p285))
                            have e317 : Tg h57 v8 = 39105 := (fxT F61 t10)
                            have e318 : Tg h264 v8 = 39105 := (fxT F272 e317)
                            have e319 : Tg h280 v8 = 39105 := ((pRT hh279).trans e318)
                            have e320 : Tg h288 v8 = 39105 := ((pIT hh287).trans e319)
                            have p321 := (BOK_fx O289 ((Fx.rf (wr := [2204]) (h := h288)).pI e290 hh293 rfl) e320 rfl rfl rfl rfl (BOK_fx O281 ((Fx.rf (wr := [2215]) (h := h280)).pI e286 hh287 rfl) e319 rfl rfl rfl rfl (BOK_fx O267 ((Fx.rf (wr := [7620800]) (h := h264)).pRa e276 ar_38104 hh279 rfl) e318 rfl rfl rfl rfl (BOK_fx O60 F272 e317 rfl rfl rfl rfl (BOK_fx O F61 t10 rfl rfl rfl rfl p39)))))
                            have e322 : Tg h57 v15 = 48106 := (fxT F61 t17)
                            have e323 : Tg h264 v15 = 48106 := (fxT F272 e322)
                            have e324 : Tg h280 v15 = 48106 := ((pRT hh279).trans e323)
                            have e325 : Tg h288 v15 = 48106 := ((pIT hh287).trans e324)
                            have p326 := (NN_fx ((Fx.rf (wr := [2204]) (h := h288)).pI e290 hh293 rfl) e325 ar_48106 rfl (NN_fx ((Fx.rf (wr := [2215]) (h := h280)).pI e286 hh287 rfl) e324 ar_48106 rfl (NN_fx ((Fx.rf (wr := [7620800]) (h := h264)).pRa e276 ar_38104 hh279 rfl) e323 ar_48106 rfl (NN_fx F272 e322 ar_48106 rfl (NN_fx F61 t17 ar_48106 rfl p40)))))
                            have e327 : Tg h57 v32 = 5 := (fxT F61 t34)
                            have e328 : Tg h264 v32 = 5 := (fxT F272 e327)
                            have e329 : Tg h280 v32 = 5 := ((pRT hh279).trans e328)
                            have e330 : Tg h288 v32 = 5 := ((pIT hh287).trans e329)
                            have p331 := (BkOk_fx O289 ((Fx.rf (wr := [2204]) (h := h288)).pI e290 hh293 rfl) e330 rfl rfl (BkOk_fx O281 ((Fx.rf (wr := [2215]) (h := h280)).pI e286 hh287 rfl) e329 rfl rfl (BkOk_fx O267 ((Fx.rf (wr := [7620800]) (h := h264)).pRa e276 ar_38104 hh279 rfl) e328 rfl rfl (BkOk_fx O60 F272 e327 rfl rfl (BkOk_fx O F61 t34 rfl rfl p46)))))
                            have e332 : Tg h57 v35 = 6 := (fxT F61 t37)
                            have e333 : Tg h264 v35 = 6 := (fxT F272 e332)
                            have e334 : Tg h280 v35 = 6 := ((pRT hh279).trans e333)
                            have e335 : Tg h288 v35 = 6 := ((pIT hh287).trans e334)
                            have p336 := (RulesOk_fx O289 ((Fx.rf (wr := [2204]) (h := h288)).pI e290 hh293 rfl) e335 rfl (RulesOk_fx O281 ((Fx.rf (wr := [2215]) (h := h280)).pI e286 hh287 rfl) e334 rfl (RulesOk_fx O267 ((Fx.rf (wr := [7620800]) (h := h264)).pRa e276 ar_38104 hh279 rfl) e333 rfl (RulesOk_fx O60 F272 e332 rfl (RulesOk_fx O F61 t37 rfl p47)))))
                            have p337 := (ND_fx ((Fx.rf (wr := [2204]) (h := h288)).pI e290 hh293 rfl) rfl rfl (ND_fx ((Fx.rf (wr := [2215]) (h := h280)).pI e286 hh287 rfl) rfl rfl (ND_fx ((Fx.rf (wr := [7620800]) (h := h264)).pRa e276 ar_38104 hh279 rfl) rfl rfl (ND_fx F272 rfl rfl (ND_fx F61 rfl rfl p48)))))
                            exact g_iret C hr rfl (iw f83 (by decide) (by decide)) ⟨O295, ((((((Fx.rf (wr := wr_k_X11_sight)).call F61 rfl).call F272 rfl).pRa e276 ar_38104 hh279 rfl).pI e286 hh287 rfl).pI e290 hh293 rfl), (iw f83 (by decide) (by decide)), (by unfold XInv; rw [e296, (pI_e hh293), e297, e298, e299, e300, e302, e301, e303, e304, e305, e308, e309, e312, e313]; exact ⟨p316, p321, p326, (fun z => absurd z (by decide)), rfl, rfl, (by omega), (by omega), p331, p336, p337⟩)⟩ (by decide) (by decide) dX11_sight_158
                          · exact (no_eq f222 (il 0) q252 (by decide)).elim
                        · have f338 : (10000 : Int) ≤ a6 ∧ a6 ≤ (2147483647 : Int) := r_gt f247 (il 9999) q249 (by decide) (by decide)
                          refine g_iconst C dX11_sight_88 ?_
                          have p339 := (XInv_fx O F61 ta0 rfl P_XInv)
                          exact g_iret C hr rfl (iw (il (-1)) (by decide) (by decide)) ⟨O60, ((Fx.rf (wr := wr_k_X11_sight)).call F61 rfl), (iw (il (-1)) (by decide) (by decide)), p339⟩ (by decide) (by decide) dX11_sight_89
            · have f340 : (1 : Int) ≤ a1 ∧ a1 ≤ (1 : Int) := ii f219 (r_eq (il 1) q221) (by decide) (by decide)
              refine g_iconst C dX11_sight_42 ?_
              refine g_goto C 49 (by decide) dX11_sight_43 ?_
              refine g_istore C [(8, .inl 0), (7, .inl r56), (0, .inr (.inr a0)), (1, .inl a1), (2, .inl a2), (3, .inl a3), (4, .inl a4), (5, .inl a5), (6, .inl a6)] (by decide) rfl dX11_sight_49 ?_
              refine g_iload C 6 rfl dX11_sight_51 ?_
              refine g_if_lt C fa4 88 (by decide) dX11_sight_53 (fun q341 => ?_) (fun q342 => ?_)
              · have f343 : (-2147483648 : Int) ≤ a4 ∧ a4 ≤ (-1 : Int) := r_lt fa4 (il 0) q341 (by decide) (by decide)
                refine g_iconst C dX11_sight_88 ?_
                have p344 := (XInv_fx O F61 ta0 rfl P_XInv)
                exact g_iret C hr rfl (iw (il (-1)) (by decide) (by decide)) ⟨O60, ((Fx.rf (wr := wr_k_X11_sight)).call F61 rfl), (iw (il (-1)) (by decide) (by decide)), p344⟩ (by decide) (by decide) dX11_sight_89
              · have f345 : (0 : Int) ≤ a4 ∧ a4 ≤ (2147483647 : Int) := r_ge fa4 (il 0) q342 (by decide) (by decide)
                refine g_iload C 6 rfl dX11_sight_56 ?_
                refine g_iload C 0 rfl dX11_sight_58 ?_
                refine g_icmp_gt C (iw f345 (by decide) (by decide)) (iw (il 0) (by decide) (by decide)) 88 (by decide) dX11_sight_60 (fun q346 => ?_) (fun q347 => ?_)
                · have f348 : (1 : Int) ≤ a4 ∧ a4 ≤ (2147483647 : Int) := r_gt f345 (il 0) q346 (by decide) (by decide)
                  refine g_iconst C dX11_sight_88 ?_
                  have p349 := (XInv_fx O F61 ta0 rfl P_XInv)
                  exact g_iret C hr rfl (iw (il (-1)) (by decide) (by decide)) ⟨O60, ((Fx.rf (wr := wr_k_X11_sight)).call F61 rfl), (iw (il (-1)) (by decide) (by decide)), p349⟩ (by decide) (by decide) dX11_sight_89
                · have f350 : (0 : Int) ≤ a4 ∧ a4 ≤ (0 : Int) := r_le f345 (il 0) q347 (by decide) (by decide)
                  refine g_iload C 7 rfl dX11_sight_63 ?_
                  refine g_if_lt C fa5 88 (by decide) dX11_sight_65 (fun q351 => ?_) (fun q352 => ?_)
                  · have f353 : (-2147483648 : Int) ≤ a5 ∧ a5 ≤ (-1 : Int) := r_lt fa5 (il 0) q351 (by decide) (by decide)
                    refine g_iconst C dX11_sight_88 ?_
                    have p354 := (XInv_fx O F61 ta0 rfl P_XInv)
                    exact g_iret C hr rfl (iw (il (-1)) (by decide) (by decide)) ⟨O60, ((Fx.rf (wr := wr_k_X11_sight)).call F61 rfl), (iw (il (-1)) (by decide) (by decide)), p354⟩ (by decide) (by decide) dX11_sight_89
                  · have f355 : (0 : Int) ≤ a5 ∧ a5 ≤ (2147483647 : Int) := r_ge fa5 (il 0) q352 (by decide) (by decide)
                    refine g_iload C 7 rfl dX11_sight_68 ?_
                    refine g_bipush C (by decide) dX11_sight_70 ?_
                    refine g_icmp_ge C (iw f355 (by decide) (by decide)) (iw (il 6) (by decide) (by decide)) 88 (by decide) dX11_sight_72 (fun q356 => ?_) (fun q357 => ?_)
                    · have f358 : (6 : Int) ≤ a5 ∧ a5 ≤ (2147483647 : Int) := r_ge f355 (il 6) q356 (by decide) (by decide)
                      refine g_iconst C dX11_sight_88 ?_
                      have p359 := (XInv_fx O F61 ta0 rfl P_XInv)
                      exact g_iret C hr rfl (iw (il (-1)) (by decide) (by decide)) ⟨O60, ((Fx.rf (wr := wr_k_X11_sight)).call F61 rfl), (iw (il (-1)) (by decide) (by decide)), p359⟩ (by decide) (by decide) dX11_sight_89
                    · have f360 : (0 : Int) ≤ a5 ∧ a5 ≤ (5 : Int) := r_lt f355 (il 6) q357 (by decide) (by decide)
                      refine g_iload C 8 rfl dX11_sight_75 ?_
                      refine g_if_lt C fa6 88 (by decide) dX11_sight_77 (fun q361 => ?_) (fun q362 => ?_)
                      · have f363 : (-2147483648 : Int) ≤ a6 ∧ a6 ≤ (-1 : Int) := r_lt fa6 (il 0) q361 (by decide) (by decide)
                        refine g_iconst C dX11_sight_88 ?_
                        have p364 := (XInv_fx O F61 ta0 rfl P_XInv)
                        exact g_iret C hr rfl (iw (il (-1)) (by decide) (by decide)) ⟨O60, ((Fx.rf (wr := wr_k_X11_sight)).call F61 rfl), (iw (il (-1)) (by decide) (by decide)), p364⟩ (by decide) (by decide) dX11_sight_89
                      · have f365 : (0 : Int) ≤ a6 ∧ a6 ≤ (2147483647 : Int) := r_ge fa6 (il 0) q362 (by decide) (by decide)
                        refine g_iload C 8 rfl dX11_sight_80 ?_
                        refine g_sipush C (by decide) dX11_sight_82 ?_
                        refine g_icmp_le C (iw f365 (by decide) (by decide)) (iw (il 9999) (by decide) (by decide)) 90 (by decide) dX11_sight_85 (fun q366 => ?_) (fun q367 => ?_)
                        · have f368 : (0 : Int) ≤ a6 ∧ a6 ≤ (9999 : Int) := r_le f365 (il 9999) q366 (by decide) (by decide)
                          refine g_iload_n C rfl 3 rfl dX11_sight_90 ?_
                          refine g_if_ne C (iw f340 (by decide) (by decide)) 109 (by decide) dX11_sight_91 (fun q369 => ?_) (fun q370 => ?_)
                          · refine g_new C 9 rfl rfl rfl inX8 tyX8 tyX8_ok kw_226 kw_553 kw_153 (by decide +kernel) (by decide) (by decide) dX11_sight_109 (fun n371 z372 z373 h375 hh374 => ?_)
                            have O376 := O60.pN z372 z373 hh374 (by decide) nn_9
                            refine g_dup C rfl dX11_sight_112 ?_
                            refine g_iload_n C rfl 3 rfl dX11_sight_113 ?_
                            refine g_iload C 1 rfl dX11_sight_114 ?_
                            refine g_iload C 6 rfl dX11_sight_116 ?_
                            refine g_iload C 7 rfl dX11_sight_118 ?_
                            refine g_iload C 8 rfl dX11_sight_120 ?_
                            refine g_aload_n C rfl 2 rfl dX11_sight_122 ?_
                            have e377 : Tg h375 a0 = 11 := ((pNT hh374 (pN_n hh374 z373 e79)).trans e79)
                            obtain ⟨v378, e379⟩ : ∃ z, Iv h375 a0 0 = z := ⟨_, rfl⟩
                            have f380 := ok_I O376 e377 rI_11_0 e379
                            refine gf_I C fk_LandSurvey_78 rfl e377 e379 dX11_sight_123 ?_
                            refine g_callV (st := [.inr (.inr n371)]) (gc_I C lk_LandSurvey_105 rfl (k_X8_init l D cy w z0 O376 (pN_T hh374) (iw f340 (by decide) (by decide)) f68 (iw f350 (by decide) (by decide)) f360 f368 f380) (tg_nz (pN_T hh374)) rfl ⟨by decide, by decide⟩ (Nat.le_of_ble_eq_true rfl) dX11_sight_126 ⟨(by decide), (by decide)⟩) (fun h382 K383 => ?_)
                            obtain ⟨O385, F386, p387, p388⟩ := K383
                            have e389 : Tg h382 n371 = 9 := (fxT F386 (pN_T hh374))
                            have F390 : Fx [1000000009] h57 h382 := fe_new z373 hh374 p387 e389
                            refine g_astore C [(9, .inr (.inr n371)), (8, .inl 0), (7, .inl r56), (0, .inr (.inr a0)), (1, .inl a1), (2, .inl a2), (3, .inl a3), (4, .inl a4), (5, .inl a5), (6, .inl a6)] (by decide) rfl dX11_sight_129 ?_
                            refine g_aload_n C rfl 3 rfl dX11_sight_131 ?_
                            have e391 : Tg h382 a0 = 11 := (fxT F390 e79)
                            have e392 : Rv h382 a0 3 = v1 := ((fxR F390 e79 rfl).trans ((fxR F61 ta0 rfl).trans e2))
                            refine gf_R C fk_LandSurvey_22 rfl e391 e392 dX11_sight_132 ?_
                            refine g_aload_n C rfl 3 rfl dX11_sight_135 ?_
                            have e393 : Iv h382 a0 4 = v5 := ((fxI F390 e79 rfl).trans e80)
                            refine gf_I C fk_LandSurvey_102 rfl e391 e393 dX11_sight_136 ?_
                            refine g_aload C 0 rfl dX11_sight_139 ?_
                            have e394 : Tg h382 v1 = 38104 := (fxT F390 (fxT F61 t3))
                            have e395 : Tg h57 v1 = 38104 := (fxT F61 t3)
                            have e396 : Ln h382 v1 = 40 := ((fxL F390 e395).trans ((fxL F61 t3).trans l4))
                            refine g_aast (t := 4) C e394 rfl (by decide) rfl e389 rfl rfl e396 (ix f83 (by decide) (by decide)) dX11_sight_141 (fun h398 hh397 => ?_)
                            have O399 := O385.pR e394 hh397 (okR_o ((rE_arr ar_38104 _).trans rE_38104_0) e389)
                            have e400 : Iv h398 a0 4 = v5 := ((pRI hh397).trans e393)
                            have p401 := (SOK_fx O60 F390 e395 rfl rfl rfl (SOK_fx O F61 t3 rfl rfl rfl p38))
                            have e402 : Tg h398 n371 = 9 := ((pRT hh397).trans e389)
                            have p403 : SOK h398 v1 (v5 + 1) := SOK_set p401 hh397 (by omega) (nz_of O399 e402) (fun z => absurd p388 z)
                            refine g_aload_n C rfl 3 rfl dX11_sight_142 ?_
                            refine g_iconst C dX11_sight_143 ?_
                            have e404 : Tg h398 a0 = 11 := ((pRT hh397).trans e391)
                            refine gp_I C fk_LandSurvey_81 pk_LandSurvey_15 rfl e404 (iw (il 0) (by decide) (by decide)) (nar_z2 (iw (il 0) (by decide) (by decide))) dX11_sight_144 (fun h406 hh405 => ?_)
                            have O407 := O399.pI e404 hh405 rI_11_15 (iw (il 0) (by decide) (by decide)) nofun
                            refine g_aload_n C rfl 3 rfl dX11_sight_147 ?_
                            refine g_dup C rfl dX11_sight_148 ?_
                            have e408 : Tg h406 a0 = 11 := ((pIT hh405).trans e404)
                            have e409 : Iv h406 a0 4 = v5 := ((pI_j hh405 (by decide)).trans e400)
                            refine gf_I C fk_LandSurvey_102 rfl e408 e409 dX11_sight_149 ?_
                            refine g_dup_x1 C rfl rfl dX11_sight_152 ?_
                            refine g_iconst C dX11_sight_153 ?_
                            have f410 : (1 : Int) ≤ (v5 + 1) ∧ (v5 + 1) ≤ (40 : Int) := ia_add f83 (il 1) (by decide) (by decide)
                            refine g_iadd C dX11_sight_154 ?_
                            refine gp_I C fk_LandSurvey_102 pk_LandSurvey_4 rfl e408 (iw f410 (by decide) (by decide)) (nf_i _) dX11_sight_155 (fun h412 hh411 => ?_)
                            have O413 := O407.pI e408 hh411 rI_11_4 (iw f410 (by decide) (by decide)) nofun
                            have e414 : Rv h412 a0 3 = v1 := ((pIR hh411).trans ((pIR hh405).trans ((pR_n hh397 (ne_tag e391 e394 (by decide))).trans e392)))
                            have e415 : Rv h412 a0 8 = v8 := ((pIR hh411).trans ((pIR hh405).trans ((pR_n hh397 (ne_tag e391 e394 (by decide))).trans ((fxR F390 e79 rfl).trans ((fxR F61 ta0 rfl).trans e9)))))
                            have e416 : Iv h412 a0 9 = v12 := ((pI_j hh411 (by decide)).trans ((pI_j hh405 (by decide)).trans ((pRI hh397).trans ((fxI F390 e79 rfl).trans ((fxI F61 ta0 rfl).trans e13)))))
                            have e417 : Rv h412 a0 11 = v15 := ((pIR hh411).trans ((pIR hh405).trans ((pR_n hh397 (ne_tag e391 e394 (by decide))).trans ((fxR F390 e79 rfl).trans ((fxR F61 ta0 rfl).trans e16)))))
                            have e418 : Iv h412 a0 12 = v19 := ((pI_j hh411 (by decide)).trans ((pI_j hh405 (by decide)).trans ((pRI hh397).trans ((fxI F390 e79 rfl).trans ((fxI F61 ta0 rfl).trans e20)))))
                            have e419 : Rv h412 a0 14 = v25 := ((pIR hh411).trans ((pIR hh405).trans ((pR_n hh397 (ne_tag e391 e394 (by decide))).trans ((fxR F390 e79 rfl).trans ((fxR F61 ta0 rfl).trans e26)))))
                            have e420 : Iv h412 a0 15 = 0 := ((pI_j hh411 (by decide)).trans (pI_e hh405))
                            have e421 : Rv h412 a0 13 = v29 := ((pIR hh411).trans ((pIR hh405).trans ((pR_n hh397 (ne_tag e391 e394 (by decide))).trans ((fxR F390 e79 rfl).trans ((fxR F61 ta0 rfl).trans e30)))))
                            have e422 : Rv h412 a0 6 = v32 := ((pIR hh411).trans ((pIR hh405).trans ((pR_n hh397 (ne_tag e391 e394 (by decide))).trans ((fxR F390 e79 rfl).trans ((fxR F61 ta0 rfl).trans e33)))))
                            have e423 : Rv h412 a0 7 = v35 := ((pIR hh411).trans ((pIR hh405).trans ((pR_n hh397 (ne_tag e391 e394 (by decide))).trans ((fxR F390 e79 rfl).trans ((fxR F61 ta0 rfl).trans e36)))))
                            have e424 : Tg h57 v29 = 7 := (fxT F61 t31)
                            have e425 : Tg h382 v29 = 7 := (fxT F390 e424)
                            have e426 : Rv h412 v29 1 = v1 := ((pIR hh411).trans ((pIR hh405).trans ((pR_n hh397 (ne_tag e425 e394 (by decide))).trans ((fxR F390 e424 rfl).trans ((fxR F61 t31 rfl).trans p42)))))
                            have e427 : Rv h412 v29 2 = v8 := ((pIR hh411).trans ((pIR hh405).trans ((pR_n hh397 (ne_tag e425 e394 (by decide))).trans ((fxR F390 e424 rfl).trans ((fxR F61 t31 rfl).trans p43)))))
                            have e428 : Tg h398 v29 = 7 := ((pRT hh397).trans e425)
                            have e429 : Tg h406 v29 = 7 := ((pIT hh405).trans e428)
                            have e430 : Iv h412 v29 3 = v50 := ((pI_n hh411 (ne_tag e429 e408 (by decide))).trans ((pI_n hh405 (ne_tag e428 e404 (by decide))).trans ((pRI hh397).trans ((fxI F390 e424 rfl).trans ((fxI F61 t31 rfl).trans e51)))))
                            have e431 : Iv h412 v29 4 = v53 := ((pI_n hh411 (ne_tag e429 e408 (by decide))).trans ((pI_n hh405 (ne_tag e428 e404 (by decide))).trans ((pRI hh397).trans ((fxI F390 e424 rfl).trans ((fxI F61 t31 rfl).trans e54)))))
                            have e432 : Tg h398 v1 = 38104 := ((pRT hh397).trans e394)
                            have e433 : Tg h406 v1 = 38104 := ((pIT hh405).trans e432)
                            have p434 := (SOK_fx O407 ((Fx.rf (wr := [2204]) (h := h406)).pI e408 hh411 rfl) e433 rfl rfl rfl (SOK_fx O399 ((Fx.rf (wr := [2215]) (h := h398)).pI e404 hh405 rfl) e432 rfl rfl rfl p403))
                            have e435 : Tg h57 v8 = 39105 := (fxT F61 t10)
                            have e436 : Tg h382 v8 = 39105 := (fxT F390 e435)
                            have e437 : Tg h398 v8 = 39105 := ((pRT hh397).trans e436)
                            have e438 : Tg h406 v8 = 39105 := ((pIT hh405).trans e437)
                            have p439 := (BOK_fx O407 ((Fx.rf (wr := [2204]) (h := h406)).pI e408 hh411 rfl) e438 rfl rfl rfl rfl (BOK_fx O399 ((Fx.rf (wr := [2215]) (h := h398)).pI e404 hh405 rfl) e437 rfl rfl rfl rfl (BOK_fx O385 ((Fx.rf (wr := [7620800]) (h := h382)).pRa e394 ar_38104 hh397 rfl) e436 rfl rfl rfl rfl (BOK_fx O60 F390 e435 rfl rfl rfl rfl (BOK_fx O F61 t10 rfl rfl rfl rfl p39)))))
                            have e440 : Tg h57 v15 = 48106 := (fxT F61 t17)
                            have e441 : Tg h382 v15 = 48106 := (fxT F390 e440)
                            have e442 : Tg h398 v15 = 48106 := ((pRT hh397).trans e441)
                            have e443 : Tg h406 v15 = 48106 := ((pIT hh405).trans e442)
                            have p444 := (NN_fx ((Fx.rf (wr := [2204]) (h := h406)).pI e408 hh411 rfl) e443 ar_48106 rfl (NN_fx ((Fx.rf (wr := [2215]) (h := h398)).pI e404 hh405 rfl) e442 ar_48106 rfl (NN_fx ((Fx.rf (wr := [7620800]) (h := h382)).pRa e394 ar_38104 hh397 rfl) e441 ar_48106 rfl (NN_fx F390 e440 ar_48106 rfl (NN_fx F61 t17 ar_48106 rfl p40)))))
                            have e445 : Tg h57 v32 = 5 := (fxT F61 t34)
                            have e446 : Tg h382 v32 = 5 := (fxT F390 e445)
                            have e447 : Tg h398 v32 = 5 := ((pRT hh397).trans e446)
                            have e448 : Tg h406 v32 = 5 := ((pIT hh405).trans e447)
                            have p449 := (BkOk_fx O407 ((Fx.rf (wr := [2204]) (h := h406)).pI e408 hh411 rfl) e448 rfl rfl (BkOk_fx O399 ((Fx.rf (wr := [2215]) (h := h398)).pI e404 hh405 rfl) e447 rfl rfl (BkOk_fx O385 ((Fx.rf (wr := [7620800]) (h := h382)).pRa e394 ar_38104 hh397 rfl) e446 rfl rfl (BkOk_fx O60 F390 e445 rfl rfl (BkOk_fx O F61 t34 rfl rfl p46)))))
                            have e450 : Tg h57 v35 = 6 := (fxT F61 t37)
                            have e451 : Tg h382 v35 = 6 := (fxT F390 e450)
                            have e452 : Tg h398 v35 = 6 := ((pRT hh397).trans e451)
                            have e453 : Tg h406 v35 = 6 := ((pIT hh405).trans e452)
                            have p454 := (RulesOk_fx O407 ((Fx.rf (wr := [2204]) (h := h406)).pI e408 hh411 rfl) e453 rfl (RulesOk_fx O399 ((Fx.rf (wr := [2215]) (h := h398)).pI e404 hh405 rfl) e452 rfl (RulesOk_fx O385 ((Fx.rf (wr := [7620800]) (h := h382)).pRa e394 ar_38104 hh397 rfl) e451 rfl (RulesOk_fx O60 F390 e450 rfl (RulesOk_fx O F61 t37 rfl p47)))))
                            have p455 := (ND_fx ((Fx.rf (wr := [2204]) (h := h406)).pI e408 hh411 rfl) rfl rfl (ND_fx ((Fx.rf (wr := [2215]) (h := h398)).pI e404 hh405 rfl) rfl rfl (ND_fx ((Fx.rf (wr := [7620800]) (h := h382)).pRa e394 ar_38104 hh397 rfl) rfl rfl (ND_fx F390 rfl rfl (ND_fx F61 rfl rfl p48)))))
                            exact g_iret C hr rfl (iw f83 (by decide) (by decide)) ⟨O413, ((((((Fx.rf (wr := wr_k_X11_sight)).call F61 rfl).call F390 rfl).pRa e394 ar_38104 hh397 rfl).pI e404 hh405 rfl).pI e408 hh411 rfl), (iw f83 (by decide) (by decide)), (by unfold XInv; rw [e414, (pI_e hh411), e415, e416, e417, e418, e420, e419, e421, e422, e423, e426, e427, e430, e431]; exact ⟨p434, p439, p444, (fun z => absurd z (by decide)), rfl, rfl, (by omega), (by omega), p449, p454, p455⟩)⟩ (by decide) (by decide) dX11_sight_158
                          · exact (no_eq f340 (il 0) q370 (by decide)).elim
                        · have f456 : (10000 : Int) ≤ a6 ∧ a6 ≤ (2147483647 : Int) := r_gt f365 (il 9999) q367 (by decide) (by decide)
                          refine g_iconst C dX11_sight_88 ?_
                          have p457 := (XInv_fx O F61 ta0 rfl P_XInv)
                          exact g_iret C hr rfl (iw (il (-1)) (by decide) (by decide)) ⟨O60, ((Fx.rf (wr := wr_k_X11_sight)).call F61 rfl), (iw (il (-1)) (by decide) (by decide)), p457⟩ (by decide) (by decide) dX11_sight_89
        · have f458 : (40 : Int) ≤ v5 ∧ v5 ≤ (40 : Int) := r_ge f7 (il 40) q82 (by decide) (by decide)
          refine g_iconst C dX11_sight_31 ?_
          have p459 := (XInv_fx O F61 ta0 rfl P_XInv)
          exact g_iret C hr rfl (iw (il (-1)) (by decide) (by decide)) ⟨O60, ((Fx.rf (wr := wr_k_X11_sight)).call F61 rfl), (iw (il (-1)) (by decide) (by decide)), p459⟩ (by decide) (by decide) dX11_sight_32
def wr_k_X11_dip : List Nat := [1807, 1808, 1809, 1810, 2215]
set_option maxRecDepth 100000 in
set_option maxHeartbeats 4000000 in
theorem k_X11_dip (l : Launch) (D : va_G) (cy : Nat → ClassId) (w : Nat → Nat) (z0 : Nat)  {h : Hp} {a0 : Nat} {a1 : Int} {a2 : Int} {a3 : Int} {a4 : Int}  (O : Okh h) (ta0 : Tg h a0 = 11) (fa1 : (-2147483648) ≤ a1 ∧ a1 ≤ 2147483647) (fa2 : (-2147483648) ≤ a2 ∧ a2 ≤ 2147483647) (fa3 : (-2147483648) ≤ a3 ∧ a3 ≤ 2147483647) (fa4 : (-2147483648) ≤ a4 ∧ a4 ≤ 2147483647) (P_XInv : XInv h a0) : MI l D cy w z0 yX11_dip cX11_dip 5 (some .boolean) 1 21 0 0 [.inr (.inr a0), .inl a1, .inl a2, .inl a3, .inl a4] h (fun v h1 => Okh h1 ∧ Fx wr_k_X11_dip h h1 ∧ (0 ≤ v ∧ v ≤ 1) ∧ (XInv h1 a0)) := by
  obtain ⟨v1, e2⟩ : ∃ z, Rv h a0 3 = z := ⟨_, rfl⟩
  have t3 := ok_R O ta0 rE_11_3 e2
  have l4 := ok_L O ta0 rE_11_3 e2
  obtain ⟨v5, e6⟩ : ∃ z, Iv h a0 4 = z := ⟨_, rfl⟩
  have f7 := ok_I O ta0 rI_11_4 e6
  obtain ⟨v8, e9⟩ : ∃ z, Rv h a0 8 = z := ⟨_, rfl⟩
  have t10 := ok_R O ta0 rE_11_8 e9
  have l11 := ok_L O ta0 rE_11_8 e9
  obtain ⟨v12, e13⟩ : ∃ z, Iv h a0 9 = z := ⟨_, rfl⟩
  have f14 := ok_I O ta0 rI_11_9 e13
  obtain ⟨v15, e16⟩ : ∃ z, Rv h a0 11 = z := ⟨_, rfl⟩
  have t17 := ok_R O ta0 rE_11_11 e16
  have l18 := ok_L O ta0 rE_11_11 e16
  obtain ⟨v19, e20⟩ : ∃ z, Iv h a0 12 = z := ⟨_, rfl⟩
  have f21 := ok_I O ta0 rI_11_12 e20
  obtain ⟨v22, e23⟩ : ∃ z, Iv h a0 15 = z := ⟨_, rfl⟩
  have f24 := ok_I O ta0 rI_11_15 e23
  obtain ⟨v25, e26⟩ : ∃ z, Rv h a0 14 = z := ⟨_, rfl⟩
  have t27 := ok_R O ta0 rE_11_14 e26
  have l28 := ok_L O ta0 rE_11_14 e26
  obtain ⟨v29, e30⟩ : ∃ z, Rv h a0 13 = z := ⟨_, rfl⟩
  have t31 := ok_R O ta0 rE_11_13 e30
  obtain ⟨v32, e33⟩ : ∃ z, Rv h a0 6 = z := ⟨_, rfl⟩
  have t34 := ok_R O ta0 rE_11_6 e33
  obtain ⟨v35, e36⟩ : ∃ z, Rv h a0 7 = z := ⟨_, rfl⟩
  have t37 := ok_R O ta0 rE_11_7 e36
  have p49 := P_XInv
  unfold XInv at p49
  rw [e2, e6, e9, e13, e16, e20, e23, e26, e30, e33, e36] at p49
  obtain ⟨p38, p39, p40, p41, p42, p43, p44, p45, p46, p47, p48⟩ := p49
  obtain ⟨v50, e51⟩ : ∃ z, Iv h v29 3 = z := ⟨_, rfl⟩
  have f52 := ok_I O t31 rI_7_3 e51
  obtain ⟨v53, e54⟩ : ∃ z, Iv h v29 4 = z := ⟨_, rfl⟩
  have f55 := ok_I O t31 rI_7_4 e54
  rw [e51] at p44
  rw [e54] at p45
  refine hm_go (by decide +kernel) (Nat.le_of_ble_eq_true rfl) (fun p e s m below meth c C hr hn => ?_)
  refine g_aload_n C rfl 0 rfl dX11_dip_0 ?_
  refine g_iload_n C rfl 1 rfl dX11_dip_1 ?_
  refine g_callI (st := []) (gc_V C lk_LandSurvey_108 (k_X11_isSight l D cy w z0 O ta0 fa1) ta0 rfl rfl rfl ⟨by decide, by decide⟩ (Nat.le_of_ble_eq_true rfl) dX11_dip_2 ⟨(by decide), (by decide)⟩) (fun r56 h57 f59 K58 => ?_)
  obtain ⟨O60, F61, f62, p63⟩ := K58
  refine g_if_eq C (iw f62 (by decide) (by decide)) 21 (by decide) dX11_dip_5 (fun q64 => ?_) (fun q65 => ?_)
  · have f66 : (0 : Int) ≤ r56 ∧ r56 ≤ (0 : Int) := ii f62 (r_eq (il 0) q64) (by decide) (by decide)
    refine g_iconst C dX11_dip_21 ?_
    have p67 := (XInv_fx O F61 ta0 rfl P_XInv)
    exact g_iret C hr (nar_z2 (iw (il 0) (by decide) (by decide))).1 (iw (il 0) (by decide) (by decide)) ⟨O60, ((Fx.rf (wr := wr_k_X11_dip)).call F61 rfl), (iw (il 0) (by decide) (by decide)), p67⟩ (by decide) (by decide) dX11_dip_22
  · have f68 : (1 : Int) ≤ r56 ∧ r56 ≤ (1 : Int) := r_nl f62 q65
    refine g_aload_n C rfl 0 rfl dX11_dip_8 ?_
    have e69 : Tg h57 a0 = 11 := (fxT F61 ta0)
    have e70 : Rv h57 a0 3 = v1 := ((fxR F61 ta0 rfl).trans e2)
    refine gf_R C fk_LandSurvey_22 rfl e69 e70 dX11_dip_9 ?_
    refine g_iload_n C rfl 1 rfl dX11_dip_12 ?_
    have e71 : Tg h57 v1 = 38104 := (fxT F61 t3)
    have e72 : Ln h57 v1 = 40 := ((fxL F61 t3).trans l4)
    obtain ⟨v73, e74⟩ : ∃ z, Rv h57 v1 a1.toNat = z := ⟨_, rfl⟩
    refine g_aald (t := 4) C e71 rfl (by decide) rfl e72 (by omega) e74 dX11_dip_13 ?_
    have p75 := (SOK_fx O F61 t3 rfl rfl rfl p38)
    have q76 := nn_get p75.nn (by omega) e74
    have t77 := ok_Na O60 e71 ar_38104 rE_38104_0 e74 q76
    obtain ⟨v78, e79⟩ : ∃ z, Iv h57 v73 7 = z := ⟨_, rfl⟩
    have f80 := ok_I O60 t77 rI_9_7 e79
    refine gf_I C fk_LandSurvey_112 rfl t77 e79 dX11_dip_14 ?_
    refine g_iconst C dX11_dip_17 ?_
    refine g_icmp_eq C (iw f80 (by decide) (by decide)) (iw (il (-1)) (by decide) (by decide)) 23 (by decide) dX11_dip_18 (fun q81 => ?_) (fun q82 => ?_)
    · have f83 : (-1 : Int) ≤ v78 ∧ v78 ≤ (-1 : Int) := ii f80 (r_eq (il (-1)) q81) (by decide) (by decide)
      refine g_iload_n C rfl 2 rfl dX11_dip_23 ?_
      refine g_if_lt C fa2 56 (by decide) dX11_dip_24 (fun q84 => ?_) (fun q85 => ?_)
      · have f86 : (-2147483648 : Int) ≤ a2 ∧ a2 ≤ (-1 : Int) := r_lt fa2 (il 0) q84 (by decide) (by decide)
        refine g_iconst C dX11_dip_56 ?_
        have p87 := (XInv_fx O F61 ta0 rfl P_XInv)
        exact g_iret C hr (nar_z2 (iw (il 0) (by decide) (by decide))).1 (iw (il 0) (by decide) (by decide)) ⟨O60, ((Fx.rf (wr := wr_k_X11_dip)).call F61 rfl), (iw (il 0) (by decide) (by decide)), p87⟩ (by decide) (by decide) dX11_dip_57
      · have f88 : (0 : Int) ≤ a2 ∧ a2 ≤ (2147483647 : Int) := r_ge fa2 (il 0) q85 (by decide) (by decide)
        refine g_iload_n C rfl 2 rfl dX11_dip_27 ?_
        refine g_iconst C dX11_dip_28 ?_
        refine g_icmp_ge C (iw f88 (by decide) (by decide)) (iw (il 4) (by decide) (by decide)) 56 (by decide) dX11_dip_29 (fun q89 => ?_) (fun q90 => ?_)
        · have f91 : (4 : Int) ≤ a2 ∧ a2 ≤ (2147483647 : Int) := r_ge f88 (il 4) q89 (by decide) (by decide)
          refine g_iconst C dX11_dip_56 ?_
          have p92 := (XInv_fx O F61 ta0 rfl P_XInv)
          exact g_iret C hr (nar_z2 (iw (il 0) (by decide) (by decide))).1 (iw (il 0) (by decide) (by decide)) ⟨O60, ((Fx.rf (wr := wr_k_X11_dip)).call F61 rfl), (iw (il 0) (by decide) (by decide)), p92⟩ (by decide) (by decide) dX11_dip_57
        · have f93 : (0 : Int) ≤ a2 ∧ a2 ≤ (3 : Int) := r_lt f88 (il 4) q90 (by decide) (by decide)
          refine g_iload_n C rfl 3 rfl dX11_dip_32 ?_
          refine g_bipush C (by decide) dX11_dip_33 ?_
          refine g_icmp_lt C fa3 (iw (il (-99)) (by decide) (by decide)) 56 (by decide) dX11_dip_35 (fun q94 => ?_) (fun q95 => ?_)
          · have f96 : (-2147483648 : Int) ≤ a3 ∧ a3 ≤ (-100 : Int) := r_lt fa3 (il (-99)) q94 (by decide) (by decide)
            refine g_iconst C dX11_dip_56 ?_
            have p97 := (XInv_fx O F61 ta0 rfl P_XInv)
            exact g_iret C hr (nar_z2 (iw (il 0) (by decide) (by decide))).1 (iw (il 0) (by decide) (by decide)) ⟨O60, ((Fx.rf (wr := wr_k_X11_dip)).call F61 rfl), (iw (il 0) (by decide) (by decide)), p97⟩ (by decide) (by decide) dX11_dip_57
          · have f98 : (-99 : Int) ≤ a3 ∧ a3 ≤ (2147483647 : Int) := r_ge fa3 (il (-99)) q95 (by decide) (by decide)
            refine g_iload_n C rfl 3 rfl dX11_dip_38 ?_
            refine g_bipush C (by decide) dX11_dip_39 ?_
            refine g_icmp_gt C (iw f98 (by decide) (by decide)) (iw (il 99) (by decide) (by decide)) 56 (by decide) dX11_dip_41 (fun q99 => ?_) (fun q100 => ?_)
            · have f101 : (100 : Int) ≤ a3 ∧ a3 ≤ (2147483647 : Int) := r_gt f98 (il 99) q99 (by decide) (by decide)
              refine g_iconst C dX11_dip_56 ?_
              have p102 := (XInv_fx O F61 ta0 rfl P_XInv)
              exact g_iret C hr (nar_z2 (iw (il 0) (by decide) (by decide))).1 (iw (il 0) (by decide) (by decide)) ⟨O60, ((Fx.rf (wr := wr_k_X11_dip)).call F61 rfl), (iw (il 0) (by decide) (by decide)), p102⟩ (by decide) (by decide) dX11_dip_57
            · have f103 : (-99 : Int) ≤ a3 ∧ a3 ≤ (99 : Int) := r_le f98 (il 99) q100 (by decide) (by decide)
              refine g_iload C 4 rfl dX11_dip_44 ?_
              refine g_if_lt C fa4 56 (by decide) dX11_dip_46 (fun q104 => ?_) (fun q105 => ?_)
              · have f106 : (-2147483648 : Int) ≤ a4 ∧ a4 ≤ (-1 : Int) := r_lt fa4 (il 0) q104 (by decide) (by decide)
                refine g_iconst C dX11_dip_56 ?_
                have p107 := (XInv_fx O F61 ta0 rfl P_XInv)
                exact g_iret C hr (nar_z2 (iw (il 0) (by decide) (by decide))).1 (iw (il 0) (by decide) (by decide)) ⟨O60, ((Fx.rf (wr := wr_k_X11_dip)).call F61 rfl), (iw (il 0) (by decide) (by decide)), p107⟩ (by decide) (by decide) dX11_dip_57
              · have f108 : (0 : Int) ≤ a4 ∧ a4 ≤ (2147483647 : Int) := r_ge fa4 (il 0) q105 (by decide) (by decide)
                refine g_iload C 4 rfl dX11_dip_49 ?_
                refine g_bipush C (by decide) dX11_dip_51 ?_
                refine g_icmp_le C (iw f108 (by decide) (by decide)) (iw (il 99) (by decide) (by decide)) 58 (by decide) dX11_dip_53 (fun q109 => ?_) (fun q110 => ?_)
                · have f111 : (0 : Int) ≤ a4 ∧ a4 ≤ (99 : Int) := r_le f108 (il 99) q109 (by decide) (by decide)
                  refine g_aload_n C rfl 0 rfl dX11_dip_58 ?_
                  refine gf_R C fk_LandSurvey_22 rfl e69 e70 dX11_dip_59 ?_
                  refine g_iload_n C rfl 1 rfl dX11_dip_62 ?_
                  refine g_aald (t := 4) C e71 rfl (by decide) rfl e72 (by omega) e74 dX11_dip_63 ?_
                  refine g_iload_n C rfl 2 rfl dX11_dip_64 ?_
                  refine gp_I C fk_LandSurvey_112 pk_LandSurvey_Sight_7 rfl t77 (iw f93 (by decide) (by decide)) (nf_i _) dX11_dip_65 (fun h113 hh112 => ?_)
                  have O114 := O60.pI t77 hh112 rI_9_7 (iw f93 (by decide) (by decide)) nofun
                  have e115 : Rv h113 a0 3 = v1 := ((pIR hh112).trans e70)
                  have e116 : Iv h113 a0 4 = v5 := ((pI_n hh112 (ne_tag e69 t77 (by decide))).trans ((fxI F61 ta0 rfl).trans e6))
                  refine g_aload_n C rfl 0 rfl dX11_dip_68 ?_
                  have e117 : Tg h113 a0 = 11 := ((pIT hh112).trans e69)
                  refine gf_R C fk_LandSurvey_22 rfl e117 e115 dX11_dip_69 ?_
                  refine g_iload_n C rfl 1 rfl dX11_dip_72 ?_
                  have e118 : Tg h113 v1 = 38104 := ((pIT hh112).trans e71)
                  have e119 : Ln h113 v1 = 40 := ((pIL hh112).trans e72)
                  have e120 : Rv h113 v1 a1.toNat = v73 := ((pIR hh112).trans e74)
                  refine g_aald (t := 4) C e118 rfl (by decide) rfl e119 (by omega) e120 dX11_dip_73 ?_
                  have e121 : Tg h113 v73 = 9 := ((pIT hh112).trans t77)
                  refine g_aload_n C rfl 0 rfl dX11_dip_74 ?_
                  refine gf_R C fk_LandSurvey_22 rfl e117 e115 dX11_dip_75 ?_
                  refine g_iload_n C rfl 1 rfl dX11_dip_78 ?_
                  refine g_aald (t := 4) C e118 rfl (by decide) rfl e119 (by omega) e120 dX11_dip_79 ?_
                  obtain ⟨v122, e123⟩ : ∃ z, Iv h113 v73 1 = z := ⟨_, rfl⟩
                  have f124 := ok_I O114 e121 rI_9_1 e123
                  refine gf_I C fk_LandSurvey_115 rfl e121 e123 dX11_dip_80 ?_
                  refine g_iload_n C rfl 2 rfl dX11_dip_83 ?_
                  refine g_callI (st := [.inr (.inr v73)]) (gc_S C lk_LandSurvey_118 (k_X11_neighbour l D cy w z0 O114 f124 (iw f93 (by decide) (by decide))) rfl ⟨by decide, by decide⟩ (Nat.le_of_ble_eq_true rfl) dX11_dip_84 ⟨(by decide), (by decide)⟩) (fun r125 h126 f128 K127 => ?_)
                  obtain ⟨O129, F130, f131⟩ := K127
                  have e132 : Tg h126 v73 = 9 := (fxT F130 e121)
                  refine gp_I C fk_LandSurvey_121 pk_LandSurvey_Sight_8 rfl e132 (iw f131 (by decide) (by decide)) (nf_i _) dX11_dip_87 (fun h134 hh133 => ?_)
                  have O135 := O129.pI e132 hh133 rI_9_8 f131 nofun
                  have e136 : Rv h134 a0 3 = v1 := ((pIR hh133).trans ((fxR F130 e117 rfl).trans e115))
                  have e137 : Tg h126 a0 = 11 := (fxT F130 e117)
                  have e138 : Iv h134 a0 4 = v5 := ((pI_n hh133 (ne_tag e137 e132 (by decide))).trans ((fxI F130 e117 rfl).trans e116))
                  have p139 := (SOK_fx O114 F130 e118 rfl rfl rfl (SOK_p7 p75 hh112 (by omega)))
                  have e140 : Iv h126 v73 7 = a2 := ((fxI F130 e121 rfl).trans (pI_e hh112))
                  refine g_aload_n C rfl 0 rfl dX11_dip_90 ?_
                  have e141 : Tg h134 a0 = 11 := ((pIT hh133).trans e137)
                  refine gf_R C fk_LandSurvey_22 rfl e141 e136 dX11_dip_91 ?_
                  refine g_iload_n C rfl 1 rfl dX11_dip_94 ?_
                  have e142 : Tg h134 v1 = 38104 := ((pIT hh133).trans (fxT F130 e118))
                  have e143 : Ln h134 v1 = 40 := ((pIL hh133).trans ((fxL F130 e118).trans e119))
                  have e144 : Rv h134 v1 a1.toNat = v73 := ((pIR hh133).trans ((fxRa F130 e118 ar_38104 rfl).trans e120))
                  refine g_aald (t := 4) C e142 rfl (by decide) rfl e143 (by omega) e144 dX11_dip_95 ?_
                  have e145 : Tg h134 v73 = 9 := ((pIT hh133).trans e132)
                  refine g_iload_n C rfl 3 rfl dX11_dip_96 ?_
                  refine gp_I C fk_LandSurvey_124 pk_LandSurvey_Sight_9 rfl e145 (iw f103 (by decide) (by decide)) (nf_i _) dX11_dip_97 (fun h147 hh146 => ?_)
                  have O148 := O135.pI e145 hh146 rI_9_9 f103 nofun
                  refine g_aload_n C rfl 0 rfl dX11_dip_100 ?_
                  have e149 : Tg h147 a0 = 11 := ((pIT hh146).trans e141)
                  have e150 : Rv h147 a0 3 = v1 := ((pIR hh146).trans e136)
                  refine gf_R C fk_LandSurvey_22 rfl e149 e150 dX11_dip_101 ?_
                  refine g_iload_n C rfl 1 rfl dX11_dip_104 ?_
                  have e151 : Tg h147 v1 = 38104 := ((pIT hh146).trans e142)
                  have e152 : Ln h147 v1 = 40 := ((pIL hh146).trans e143)
                  have e153 : Rv h147 v1 a1.toNat = v73 := ((pIR hh146).trans e144)
                  refine g_aald (t := 4) C e151 rfl (by decide) rfl e152 (by omega) e153 dX11_dip_105 ?_
                  have e154 : Tg h147 v73 = 9 := ((pIT hh146).trans e145)
                  refine g_iload C 4 rfl dX11_dip_106 ?_
                  refine gp_I C fk_LandSurvey_127 pk_LandSurvey_Sight_10 rfl e154 (iw f111 (by decide) (by decide)) (nf_i _) dX11_dip_108 (fun h156 hh155 => ?_)
                  have O157 := O148.pI e154 hh155 rI_9_10 f111 nofun
                  refine g_aload_n C rfl 0 rfl dX11_dip_111 ?_
                  refine g_iconst C dX11_dip_112 ?_
                  have e158 : Tg h156 a0 = 11 := ((pIT hh155).trans e149)
                  refine gp_I C fk_LandSurvey_81 pk_LandSurvey_15 rfl e158 (iw (il 0) (by decide) (by decide)) (nar_z2 (iw (il 0) (by decide) (by decide))) dX11_dip_113 (fun h160 hh159 => ?_)
                  have O161 := O157.pI e158 hh159 rI_11_15 (iw (il 0) (by decide) (by decide)) nofun
                  refine g_iconst C dX11_dip_116 ?_
                  have e162 : Rv h160 a0 3 = v1 := ((pIR hh159).trans ((pIR hh155).trans e150))
                  have e163 : Iv h160 a0 4 = v5 := ((pI_j hh159 (by decide)).trans ((pI_n hh155 (ne_tag e149 e154 (by decide))).trans ((pI_n hh146 (ne_tag e141 e145 (by decide))).trans e138)))
                  have e164 : Rv h160 a0 8 = v8 := ((pIR hh159).trans ((pIR hh155).trans ((pIR hh146).trans ((pIR hh133).trans ((fxR F130 e117 rfl).trans ((pIR hh112).trans ((fxR F61 ta0 rfl).trans e9)))))))
                  have e165 : Iv h160 a0 9 = v12 := ((pI_j hh159 (by decide)).trans ((pI_n hh155 (ne_tag e149 e154 (by decide))).trans ((pI_n hh146 (ne_tag e141 e145 (by decide))).trans ((pI_n hh133 (ne_tag e137 e132 (by decide))).trans ((fxI F130 e117 rfl).trans ((pI_n hh112 (ne_tag e69 t77 (by decide))).trans ((fxI F61 ta0 rfl).trans e13)))))))
                  have e166 : Rv h160 a0 11 = v15 := ((pIR hh159).trans ((pIR hh155).trans ((pIR hh146).trans ((pIR hh133).trans ((fxR F130 e117 rfl).trans ((pIR hh112).trans ((fxR F61 ta0 rfl).trans e16)))))))
                  have e167 : Iv h160 a0 12 = v19 := ((pI_j hh159 (by decide)).trans ((pI_n hh155 (ne_tag e149 e154 (by decide))).trans ((pI_n hh146 (ne_tag e141 e145 (by decide))).trans ((pI_n hh133 (ne_tag e137 e132 (by decide))).trans ((fxI F130 e117 rfl).trans ((pI_n hh112 (ne_tag e69 t77 (by decide))).trans ((fxI F61 ta0 rfl).trans e20)))))))
                  have e168 : Rv h160 a0 14 = v25 := ((pIR hh159).trans ((pIR hh155).trans ((pIR hh146).trans ((pIR hh133).trans ((fxR F130 e117 rfl).trans ((pIR hh112).trans ((fxR F61 ta0 rfl).trans e26)))))))
                  have e169 : Rv h160 a0 13 = v29 := ((pIR hh159).trans ((pIR hh155).trans ((pIR hh146).trans ((pIR hh133).trans ((fxR F130 e117 rfl).trans ((pIR hh112).trans ((fxR F61 ta0 rfl).trans e30)))))))
                  have e170 : Rv h160 a0 6 = v32 := ((pIR hh159).trans ((pIR hh155).trans ((pIR hh146).trans ((pIR hh133).trans ((fxR F130 e117 rfl).trans ((pIR hh112).trans ((fxR F61 ta0 rfl).trans e33)))))))
                  have e171 : Rv h160 a0 7 = v35 := ((pIR hh159).trans ((pIR hh155).trans ((pIR hh146).trans ((pIR hh133).trans ((fxR F130 e117 rfl).trans ((pIR hh112).trans ((fxR F61 ta0 rfl).trans e36)))))))
                  have e172 : Tg h113 v29 = 7 := ((pIT hh112).trans (fxT F61 t31))
                  have e173 : Rv h160 v29 1 = v1 := ((pIR hh159).trans ((pIR hh155).trans ((pIR hh146).trans ((pIR hh133).trans ((fxR F130 e172 rfl).trans ((pIR hh112).trans ((fxR F61 t31 rfl).trans p42)))))))
                  have e174 : Rv h160 v29 2 = v8 := ((pIR hh159).trans ((pIR hh155).trans ((pIR hh146).trans ((pIR hh133).trans ((fxR F130 e172 rfl).trans ((pIR hh112).trans ((fxR F61 t31 rfl).trans p43)))))))
                  have e175 : Tg h57 v29 = 7 := (fxT F61 t31)
                  have e176 : Tg h126 v29 = 7 := (fxT F130 e172)
                  have e177 : Tg h134 v29 = 7 := ((pIT hh133).trans e176)
                  have e178 : Tg h147 v29 = 7 := ((pIT hh146).trans e177)
                  have e179 : Tg h156 v29 = 7 := ((pIT hh155).trans e178)
                  have e180 : Iv h160 v29 3 = v50 := ((pI_n hh159 (ne_tag e179 e158 (by decide))).trans ((pI_n hh155 (ne_tag e178 e154 (by decide))).trans ((pI_n hh146 (ne_tag e177 e145 (by decide))).trans ((pI_n hh133 (ne_tag e176 e132 (by decide))).trans ((fxI F130 e172 rfl).trans ((pI_n hh112 (ne_tag e175 t77 (by decide))).trans ((fxI F61 t31 rfl).trans e51)))))))
                  have e181 : Iv h160 v29 4 = v53 := ((pI_n hh159 (ne_tag e179 e158 (by decide))).trans ((pI_n hh155 (ne_tag e178 e154 (by decide))).trans ((pI_n hh146 (ne_tag e177 e145 (by decide))).trans ((pI_n hh133 (ne_tag e176 e132 (by decide))).trans ((fxI F130 e172 rfl).trans ((pI_n hh112 (ne_tag e175 t77 (by decide))).trans ((fxI F61 t31 rfl).trans e54)))))))
                  have e182 : Tg h156 v1 = 38104 := ((pIT hh155).trans e151)
                  have p183 := (SOK_fx O157 ((Fx.rf (wr := [2215]) (h := h156)).pI e158 hh159 rfl) e182 rfl rfl rfl (SOK_fx O148 ((Fx.rf (wr := [1810]) (h := h147)).pI e154 hh155 rfl) e151 rfl rfl rfl (SOK_fx O135 ((Fx.rf (wr := [1809]) (h := h134)).pI e145 hh146 rfl) e142 rfl rfl rfl (SOK_p8 p139 hh133 (by rw [e140]; omega)))))
                  have e184 : Tg h57 v8 = 39105 := (fxT F61 t10)
                  have e185 : Tg h113 v8 = 39105 := ((pIT hh112).trans e184)
                  have e186 : Tg h126 v8 = 39105 := (fxT F130 e185)
                  have e187 : Tg h134 v8 = 39105 := ((pIT hh133).trans e186)
                  have e188 : Tg h147 v8 = 39105 := ((pIT hh146).trans e187)
                  have e189 : Tg h156 v8 = 39105 := ((pIT hh155).trans e188)
                  have p190 := (BOK_fx O157 ((Fx.rf (wr := [2215]) (h := h156)).pI e158 hh159 rfl) e189 rfl rfl rfl rfl (BOK_fx O148 ((Fx.rf (wr := [1810]) (h := h147)).pI e154 hh155 rfl) e188 rfl rfl rfl rfl (BOK_fx O135 ((Fx.rf (wr := [1809]) (h := h134)).pI e145 hh146 rfl) e187 rfl rfl rfl rfl (BOK_fx O129 ((Fx.rf (wr := [1808]) (h := h126)).pI e132 hh133 rfl) e186 rfl rfl rfl rfl (BOK_fx O114 F130 e185 rfl rfl rfl rfl (BOK_fx O60 ((Fx.rf (wr := [1807]) (h := h57)).pI t77 hh112 rfl) e184 rfl rfl rfl rfl (BOK_fx O F61 t10 rfl rfl rfl rfl p39)))))))
                  have e191 : Tg h57 v15 = 48106 := (fxT F61 t17)
                  have e192 : Tg h113 v15 = 48106 := ((pIT hh112).trans e191)
                  have e193 : Tg h126 v15 = 48106 := (fxT F130 e192)
                  have e194 : Tg h134 v15 = 48106 := ((pIT hh133).trans e193)
                  have e195 : Tg h147 v15 = 48106 := ((pIT hh146).trans e194)
                  have e196 : Tg h156 v15 = 48106 := ((pIT hh155).trans e195)
                  have p197 := (NN_fx ((Fx.rf (wr := [2215]) (h := h156)).pI e158 hh159 rfl) e196 ar_48106 rfl (NN_fx ((Fx.rf (wr := [1810]) (h := h147)).pI e154 hh155 rfl) e195 ar_48106 rfl (NN_fx ((Fx.rf (wr := [1809]) (h := h134)).pI e145 hh146 rfl) e194 ar_48106 rfl (NN_fx ((Fx.rf (wr := [1808]) (h := h126)).pI e132 hh133 rfl) e193 ar_48106 rfl (NN_fx F130 e192 ar_48106 rfl (NN_fx ((Fx.rf (wr := [1807]) (h := h57)).pI t77 hh112 rfl) e191 ar_48106 rfl (NN_fx F61 t17 ar_48106 rfl p40)))))))
                  have e198 : Tg h57 v32 = 5 := (fxT F61 t34)
                  have e199 : Tg h113 v32 = 5 := ((pIT hh112).trans e198)
                  have e200 : Tg h126 v32 = 5 := (fxT F130 e199)
                  have e201 : Tg h134 v32 = 5 := ((pIT hh133).trans e200)
                  have e202 : Tg h147 v32 = 5 := ((pIT hh146).trans e201)
                  have e203 : Tg h156 v32 = 5 := ((pIT hh155).trans e202)
                  have p204 := (BkOk_fx O157 ((Fx.rf (wr := [2215]) (h := h156)).pI e158 hh159 rfl) e203 rfl rfl (BkOk_fx O148 ((Fx.rf (wr := [1810]) (h := h147)).pI e154 hh155 rfl) e202 rfl rfl (BkOk_fx O135 ((Fx.rf (wr := [1809]) (h := h134)).pI e145 hh146 rfl) e201 rfl rfl (BkOk_fx O129 ((Fx.rf (wr := [1808]) (h := h126)).pI e132 hh133 rfl) e200 rfl rfl (BkOk_fx O114 F130 e199 rfl rfl (BkOk_fx O60 ((Fx.rf (wr := [1807]) (h := h57)).pI t77 hh112 rfl) e198 rfl rfl (BkOk_fx O F61 t34 rfl rfl p46)))))))
                  have e205 : Tg h57 v35 = 6 := (fxT F61 t37)
                  have e206 : Tg h113 v35 = 6 := ((pIT hh112).trans e205)
                  have e207 : Tg h126 v35 = 6 := (fxT F130 e206)
                  have e208 : Tg h134 v35 = 6 := ((pIT hh133).trans e207)
                  have e209 : Tg h147 v35 = 6 := ((pIT hh146).trans e208)
                  have e210 : Tg h156 v35 = 6 := ((pIT hh155).trans e209)
                  have p211 := (RulesOk_fx O157 ((Fx.rf (wr := [2215]) (h := h156)).pI e158 hh159 rfl) e210 rfl (RulesOk_fx O148 ((Fx.rf (wr := [1810]) (h := h147)).pI e154 hh155 rfl) e209 rfl (RulesOk_fx O135 ((Fx.rf (wr := [1809]) (h := h134)).pI e145 hh146 rfl) e208 rfl (RulesOk_fx O129 ((Fx.rf (wr := [1808]) (h := h126)).pI e132 hh133 rfl) e207 rfl (RulesOk_fx O114 F130 e206 rfl (RulesOk_fx O60 ((Fx.rf (wr := [1807]) (h := h57)).pI t77 hh112 rfl) e205 rfl (RulesOk_fx O F61 t37 rfl p47)))))))
                  have p212 := (ND_fx ((Fx.rf (wr := [2215]) (h := h156)).pI e158 hh159 rfl) rfl rfl (ND_fx ((Fx.rf (wr := [1810]) (h := h147)).pI e154 hh155 rfl) rfl rfl (ND_fx ((Fx.rf (wr := [1809]) (h := h134)).pI e145 hh146 rfl) rfl rfl (ND_fx ((Fx.rf (wr := [1808]) (h := h126)).pI e132 hh133 rfl) rfl rfl (ND_fx F130 rfl rfl (ND_fx ((Fx.rf (wr := [1807]) (h := h57)).pI t77 hh112 rfl) rfl rfl (ND_fx F61 rfl rfl p48)))))))
                  exact g_iret C hr (nar_z2 (iw (il 1) (by decide) (by decide))).1 (iw (il 1) (by decide) (by decide)) ⟨O161, ((((((((Fx.rf (wr := wr_k_X11_dip)).call F61 rfl).pI t77 hh112 rfl).call F130 rfl).pI e132 hh133 rfl).pI e145 hh146 rfl).pI e154 hh155 rfl).pI e158 hh159 rfl), (iw (il 1) (by decide) (by decide)), (by unfold XInv; rw [e162, e163, e164, e165, e166, e167, (pI_e hh159), e168, e169, e170, e171, e173, e174, e180, e181]; exact ⟨p183, p190, p197, (fun z => absurd z (by decide)), rfl, rfl, (by omega), (by omega), p204, p211, p212⟩)⟩ (by decide) (by decide) dX11_dip_117
                · have f213 : (100 : Int) ≤ a4 ∧ a4 ≤ (2147483647 : Int) := r_gt f108 (il 99) q110 (by decide) (by decide)
                  refine g_iconst C dX11_dip_56 ?_
                  have p214 := (XInv_fx O F61 ta0 rfl P_XInv)
                  exact g_iret C hr (nar_z2 (iw (il 0) (by decide) (by decide))).1 (iw (il 0) (by decide) (by decide)) ⟨O60, ((Fx.rf (wr := wr_k_X11_dip)).call F61 rfl), (iw (il 0) (by decide) (by decide)), p214⟩ (by decide) (by decide) dX11_dip_57
    · have f215 : (0 : Int) ≤ v78 ∧ v78 ≤ (3 : Int) := r_nl f80 q82
      refine g_iconst C dX11_dip_21 ?_
      have p216 := (XInv_fx O F61 ta0 rfl P_XInv)
      exact g_iret C hr (nar_z2 (iw (il 0) (by decide) (by decide))).1 (iw (il 0) (by decide) (by decide)) ⟨O60, ((Fx.rf (wr := wr_k_X11_dip)).call F61 rfl), (iw (il 0) (by decide) (by decide)), p216⟩ (by decide) (by decide) dX11_dip_22
def wr_k_X11_fault : List Nat := [200, 201, 202, 203, 204, 205, 2209, 2215, 7821000, 1000000001]
set_option maxRecDepth 100000 in
set_option maxHeartbeats 4000000 in
theorem k_X11_fault (l : Launch) (D : va_G) (cy : Nat → ClassId) (w : Nat → Nat) (z0 : Nat)  {h : Hp} {a0 : Nat} {a1 : Int} {a2 : Int} {a3 : Int} {a4 : Int} {a5 : Int} {a6 : Int} {a7 : Int}  (O : Okh h) (ta0 : Tg h a0 = 11) (fa1 : (-2147483648) ≤ a1 ∧ a1 ≤ 2147483647) (fa2 : (-2147483648) ≤ a2 ∧ a2 ≤ 2147483647) (fa3 : 0 ≤ a3 ∧ a3 ≤ 1) (fa4 : (-2147483648) ≤ a4 ∧ a4 ≤ 2147483647) (fa5 : (-2147483648) ≤ a5 ∧ a5 ≤ 2147483647) (fa6 : (-2147483648) ≤ a6 ∧ a6 ≤ 2147483647) (fa7 : (-2147483648) ≤ a7 ∧ a7 ≤ 2147483647) (P_XInv : XInv h a0) : MI l D cy w z0 yX11_fault cX11_fault 10 (some .int) 2 50 1 6 [.inr (.inr a0), .inl a1, .inl a2, .inl a3, .inl a4, .inl a5, .inl a6, .inl a7] h (fun v h1 => Okh h1 ∧ Fx wr_k_X11_fault h h1 ∧ ((-1) ≤ v ∧ v ≤ 3) ∧ (XInv h1 a0)) := by
  obtain ⟨v1, e2⟩ : ∃ z, Rv h a0 3 = z := ⟨_, rfl⟩
  have t3 := ok_R O ta0 rE_11_3 e2
  have l4 := ok_L O ta0 rE_11_3 e2
  obtain ⟨v5, e6⟩ : ∃ z, Iv h a0 4 = z := ⟨_, rfl⟩
  have f7 := ok_I O ta0 rI_11_4 e6
  obtain ⟨v8, e9⟩ : ∃ z, Rv h a0 8 = z := ⟨_, rfl⟩
  have t10 := ok_R O ta0 rE_11_8 e9
  have l11 := ok_L O ta0 rE_11_8 e9
  obtain ⟨v12, e13⟩ : ∃ z, Iv h a0 9 = z := ⟨_, rfl⟩
  have f14 := ok_I O ta0 rI_11_9 e13
  obtain ⟨v15, e16⟩ : ∃ z, Rv h a0 11 = z := ⟨_, rfl⟩
  have t17 := ok_R O ta0 rE_11_11 e16
  have l18 := ok_L O ta0 rE_11_11 e16
  obtain ⟨v19, e20⟩ : ∃ z, Iv h a0 12 = z := ⟨_, rfl⟩
  have f21 := ok_I O ta0 rI_11_12 e20
  obtain ⟨v22, e23⟩ : ∃ z, Iv h a0 15 = z := ⟨_, rfl⟩
  have f24 := ok_I O ta0 rI_11_15 e23
  obtain ⟨v25, e26⟩ : ∃ z, Rv h a0 14 = z := ⟨_, rfl⟩
  have t27 := ok_R O ta0 rE_11_14 e26
  have l28 := ok_L O ta0 rE_11_14 e26
  obtain ⟨v29, e30⟩ : ∃ z, Rv h a0 13 = z := ⟨_, rfl⟩
  have t31 := ok_R O ta0 rE_11_13 e30
  obtain ⟨v32, e33⟩ : ∃ z, Rv h a0 6 = z := ⟨_, rfl⟩
  have t34 := ok_R O ta0 rE_11_6 e33
  obtain ⟨v35, e36⟩ : ∃ z, Rv h a0 7 = z := ⟨_, rfl⟩
  have t37 := ok_R O ta0 rE_11_7 e36
  have p49 := P_XInv
  unfold XInv at p49
  rw [e2, e6, e9, e13, e16, e20, e23, e26, e30, e33, e36] at p49
  obtain ⟨p38, p39, p40, p41, p42, p43, p44, p45, p46, p47, p48⟩ := p49
  obtain ⟨v50, e51⟩ : ∃ z, Iv h v29 3 = z := ⟨_, rfl⟩
  have f52 := ok_I O t31 rI_7_3 e51
  obtain ⟨v53, e54⟩ : ∃ z, Iv h v29 4 = z := ⟨_, rfl⟩
  have f55 := ok_I O t31 rI_7_4 e54
  rw [e51] at p44
  rw [e54] at p45
  refine hm_go (by decide +kernel) (Nat.le_of_ble_eq_true rfl) (fun p e s m below meth c C hr hn => ?_)
  refine g_iload_n C rfl 1 rfl dX11_fault_0 ?_
  refine g_iload_n C rfl 2 rfl dX11_fault_1 ?_
  refine g_callI (st := []) (gc_S C lk_LandSurvey_85 (k_X11_cellAt l D cy w z0 O fa1 fa2) rfl ⟨by decide, by decide⟩ (Nat.le_of_ble_eq_true rfl) dX11_fault_2 ⟨(by decide), (by decide)⟩) (fun r56 h57 f59 K58 => ?_)
  obtain ⟨O60, F61, f62, p63⟩ := K58
  refine g_istore C [(8, .inl r56), (0, .inr (.inr a0)), (1, .inl a1), (2, .inl a2), (3, .inl a3), (4, .inl a4), (5, .inl a5), (6, .inl a6), (7, .inl a7)] (by decide) rfl dX11_fault_5 ?_
  refine g_iload C 0 rfl dX11_fault_7 ?_
  refine g_iconst C dX11_fault_9 ?_
  refine g_icmp_eq C (iw f62 (by decide) (by decide)) (iw (il (-1)) (by decide) (by decide)) 34 (by decide) dX11_fault_10 (fun q64 => ?_) (fun q65 => ?_)
  · have f66 : (-1 : Int) ≤ r56 ∧ r56 ≤ (-1 : Int) := ii f62 (r_eq (il (-1)) q64) (by decide) (by decide)
    refine g_iconst C dX11_fault_34 ?_
    have p67 := (XInv_fx O F61 ta0 rfl P_XInv)
    exact g_iret C hr rfl (iw (il (-1)) (by decide) (by decide)) ⟨O60, ((Fx.rf (wr := wr_k_X11_fault)).call F61 rfl), (iw (il (-1)) (by decide) (by decide)), p67⟩ (by decide) (by decide) dX11_fault_35
  · have f68 : (0 : Int) ≤ r56 ∧ r56 ≤ (95 : Int) := r_nl f62 q65
    have f69 : (0 : Int) ≤ a1 ∧ a1 ≤ (11 : Int) := by omega
    have f70 : (0 : Int) ≤ a2 ∧ a2 ≤ (7 : Int) := by omega
    refine g_aload_n C rfl 1 rfl dX11_fault_13 ?_
    have e71 : Tg h57 a0 = 11 := (fxT F61 ta0)
    have e72 : Iv h57 a0 9 = v12 := ((fxI F61 ta0 rfl).trans e13)
    refine gf_I C fk_LandSurvey_157 rfl e71 e72 dX11_fault_14 ?_
    refine g_iconst C dX11_fault_17 ?_
    refine g_icmp_ge C (iw f14 (by decide) (by decide)) (iw (il 4) (by decide) (by decide)) 34 (by decide) dX11_fault_18 (fun q73 => ?_) (fun q74 => ?_)
    · have f75 : (4 : Int) ≤ v12 ∧ v12 ≤ (4 : Int) := r_ge f14 (il 4) q73 (by decide) (by decide)
      refine g_iconst C dX11_fault_34 ?_
      have p76 := (XInv_fx O F61 ta0 rfl P_XInv)
      exact g_iret C hr rfl (iw (il (-1)) (by decide) (by decide)) ⟨O60, ((Fx.rf (wr := wr_k_X11_fault)).call F61 rfl), (iw (il (-1)) (by decide) (by decide)), p76⟩ (by decide) (by decide) dX11_fault_35
    · have f77 : (0 : Int) ≤ v12 ∧ v12 ≤ (3 : Int) := r_lt f14 (il 4) q74 (by decide) (by decide)
      refine g_iload C 5 rfl dX11_fault_21 ?_
      refine g_iconst C dX11_fault_23 ?_
      refine g_icmp_lt C fa4 (iw (il 1) (by decide) (by decide)) 34 (by decide) dX11_fault_24 (fun q78 => ?_) (fun q79 => ?_)
      · have f80 : (-2147483648 : Int) ≤ a4 ∧ a4 ≤ (0 : Int) := r_lt fa4 (il 1) q78 (by decide) (by decide)
        refine g_iconst C dX11_fault_34 ?_
        have p81 := (XInv_fx O F61 ta0 rfl P_XInv)
        exact g_iret C hr rfl (iw (il (-1)) (by decide) (by decide)) ⟨O60, ((Fx.rf (wr := wr_k_X11_fault)).call F61 rfl), (iw (il (-1)) (by decide) (by decide)), p81⟩ (by decide) (by decide) dX11_fault_35
      · have f82 : (1 : Int) ≤ a4 ∧ a4 ≤ (2147483647 : Int) := r_ge fa4 (il 1) q79 (by decide) (by decide)
        refine g_iload C 5 rfl dX11_fault_27 ?_
        refine g_bipush C (by decide) dX11_fault_29 ?_
        refine g_icmp_le C (iw f82 (by decide) (by decide)) (iw (il 12) (by decide) (by decide)) 36 (by decide) dX11_fault_31 (fun q83 => ?_) (fun q84 => ?_)
        · have f85 : (1 : Int) ≤ a4 ∧ a4 ≤ (12 : Int) := r_le f82 (il 12) q83 (by decide) (by decide)
          refine g_iload C 6 rfl dX11_fault_36 ?_
          refine g_sipush C (by decide) dX11_fault_38 ?_
          refine g_icmp_lt C fa5 (iw (il (-300)) (by decide) (by decide)) 72 (by decide) dX11_fault_41 (fun q86 => ?_) (fun q87 => ?_)
          · have f88 : (-2147483648 : Int) ≤ a5 ∧ a5 ≤ (-301 : Int) := r_lt fa5 (il (-300)) q86 (by decide) (by decide)
            refine g_iconst C dX11_fault_72 ?_
            have p89 := (XInv_fx O F61 ta0 rfl P_XInv)
            exact g_iret C hr rfl (iw (il (-1)) (by decide) (by decide)) ⟨O60, ((Fx.rf (wr := wr_k_X11_fault)).call F61 rfl), (iw (il (-1)) (by decide) (by decide)), p89⟩ (by decide) (by decide) dX11_fault_73
          · have f90 : (-300 : Int) ≤ a5 ∧ a5 ≤ (2147483647 : Int) := r_ge fa5 (il (-300)) q87 (by decide) (by decide)
            refine g_iload C 7 rfl dX11_fault_44 ?_
            refine g_sipush C (by decide) dX11_fault_46 ?_
            refine g_icmp_gt C fa6 (iw (il 300) (by decide) (by decide)) 72 (by decide) dX11_fault_49 (fun q91 => ?_) (fun q92 => ?_)
            · have f93 : (301 : Int) ≤ a6 ∧ a6 ≤ (2147483647 : Int) := r_gt fa6 (il 300) q91 (by decide) (by decide)
              refine g_iconst C dX11_fault_72 ?_
              have p94 := (XInv_fx O F61 ta0 rfl P_XInv)
              exact g_iret C hr rfl (iw (il (-1)) (by decide) (by decide)) ⟨O60, ((Fx.rf (wr := wr_k_X11_fault)).call F61 rfl), (iw (il (-1)) (by decide) (by decide)), p94⟩ (by decide) (by decide) dX11_fault_73
            · have f95 : (-2147483648 : Int) ≤ a6 ∧ a6 ≤ (300 : Int) := r_le fa6 (il 300) q92 (by decide) (by decide)
              refine g_iload C 6 rfl dX11_fault_52 ?_
              refine g_iload C 7 rfl dX11_fault_54 ?_
              refine g_icmp_gt C (iw f90 (by decide) (by decide)) (iw f95 (by decide) (by decide)) 72 (by decide) dX11_fault_56 (fun q96 => ?_) (fun q97 => ?_)
              · refine g_iconst C dX11_fault_72 ?_
                have p98 := (XInv_fx O F61 ta0 rfl P_XInv)
                exact g_iret C hr rfl (iw (il (-1)) (by decide) (by decide)) ⟨O60, ((Fx.rf (wr := wr_k_X11_fault)).call F61 rfl), (iw (il (-1)) (by decide) (by decide)), p98⟩ (by decide) (by decide) dX11_fault_73
              · have f99 : (-300 : Int) ≤ a5 ∧ a5 ≤ (300 : Int) := r_le f90 f95 q97 (by decide) (by decide)
                have f100 : (-300 : Int) ≤ a6 ∧ a6 ≤ (300 : Int) := r_ge f95 f90 q97 (by decide) (by decide)
                refine g_iload C 8 rfl dX11_fault_59 ?_
                refine g_iconst C dX11_fault_61 ?_
                refine g_icmp_lt C fa7 (iw (il 1) (by decide) (by decide)) 72 (by decide) dX11_fault_62 (fun q101 => ?_) (fun q102 => ?_)
                · have f103 : (-2147483648 : Int) ≤ a7 ∧ a7 ≤ (0 : Int) := r_lt fa7 (il 1) q101 (by decide) (by decide)
                  refine g_iconst C dX11_fault_72 ?_
                  have p104 := (XInv_fx O F61 ta0 rfl P_XInv)
                  exact g_iret C hr rfl (iw (il (-1)) (by decide) (by decide)) ⟨O60, ((Fx.rf (wr := wr_k_X11_fault)).call F61 rfl), (iw (il (-1)) (by decide) (by decide)), p104⟩ (by decide) (by decide) dX11_fault_73
                · have f105 : (1 : Int) ≤ a7 ∧ a7 ≤ (2147483647 : Int) := r_ge fa7 (il 1) q102 (by decide) (by decide)
                  refine g_iload C 8 rfl dX11_fault_65 ?_
                  refine g_bipush C (by decide) dX11_fault_67 ?_
                  refine g_icmp_le C (iw f105 (by decide) (by decide)) (iw (il 99) (by decide) (by decide)) 74 (by decide) dX11_fault_69 (fun q106 => ?_) (fun q107 => ?_)
                  · have f108 : (1 : Int) ≤ a7 ∧ a7 ≤ (99 : Int) := r_le f105 (il 99) q106 (by decide) (by decide)
                    refine g_iload_n C rfl 4 rfl dX11_fault_74 ?_
                    refine g_if_eq C (iw fa3 (by decide) (by decide)) 103 (by decide) dX11_fault_75 (fun q109 => ?_) (fun q110 => ?_)
                    · have f111 : (0 : Int) ≤ a3 ∧ a3 ≤ (0 : Int) := ii fa3 (r_eq (il 0) q109) (by decide) (by decide)
                      refine g_iload_n C rfl 3 rfl dX11_fault_103 ?_
                      refine g_iconst C dX11_fault_104 ?_
                      have f112 : (1 : Int) ≤ (a2 + 1) ∧ (a2 + 1) ≤ (8 : Int) := ia_add f70 (il 1) (by decide) (by decide)
                      refine g_iadd C dX11_fault_105 ?_
                      refine g_bipush C (by decide) dX11_fault_106 ?_
                      refine g_icmp_ge C (iw f112 (by decide) (by decide)) (iw (il 8) (by decide) (by decide)) 124 (by decide) dX11_fault_108 (fun q113 => ?_) (fun q114 => ?_)
                      · have f115 : (8 : Int) ≤ (a2 + 1) ∧ (a2 + 1) ≤ (8 : Int) := r_ge f112 (il 8) q113 (by decide) (by decide)
                        have f116 : (7 : Int) ≤ a2 ∧ a2 ≤ (7 : Int) := (ii f70 (sh_a (c := 1) (l := 7) (u := 7) f115 (by decide) (by decide)) (by decide) (by decide))
                        refine g_iconst C dX11_fault_124 ?_
                        refine g_istore C [(9, .inl 0), (8, .inl r56), (0, .inr (.inr a0)), (1, .inl a1), (2, .inl a2), (3, .inl a3), (4, .inl a4), (5, .inl a5), (6, .inl a6), (7, .inl a7)] (by decide) rfl dX11_fault_125 ?_
                        refine g_iload C 0 rfl dX11_fault_127 ?_
                        refine g_if_ne C (iw (il 0) (by decide) (by decide)) 134 (by decide) dX11_fault_129 (fun q117 => ?_) (fun q118 => ?_)
                        · exact (no_ne (il 0) (il 0) q117 (by decide)).elim
                        · refine g_iconst C dX11_fault_132 ?_
                          have p119 := (XInv_fx O F61 ta0 rfl P_XInv)
                          exact g_iret C hr rfl (iw (il (-1)) (by decide) (by decide)) ⟨O60, ((Fx.rf (wr := wr_k_X11_fault)).call F61 rfl), (iw (il (-1)) (by decide) (by decide)), p119⟩ (by decide) (by decide) dX11_fault_133
                      · have f120 : (1 : Int) ≤ (a2 + 1) ∧ (a2 + 1) ≤ (7 : Int) := r_lt f112 (il 8) q114 (by decide) (by decide)
                        have f121 : (0 : Int) ≤ a2 ∧ a2 ≤ (6 : Int) := (ii f70 (sh_a (c := 1) (l := 0) (u := 6) f120 (by decide) (by decide)) (by decide) (by decide))
                        refine g_iload_n C rfl 2 rfl dX11_fault_111 ?_
                        refine g_iload C 5 rfl dX11_fault_112 ?_
                        have f122 : (1 : Int) ≤ (a1 + a4) ∧ (a1 + a4) ≤ (23 : Int) := ia_add f69 f85 (by decide) (by decide)
                        refine g_iadd C dX11_fault_114 ?_
                        refine g_bipush C (by decide) dX11_fault_115 ?_
                        refine g_icmp_gt C (iw f122 (by decide) (by decide)) (iw (il 12) (by decide) (by decide)) 124 (by decide) dX11_fault_117 (fun q123 => ?_) (fun q124 => ?_)
                        · have f125 : (13 : Int) ≤ (a1 + a4) ∧ (a1 + a4) ≤ (23 : Int) := r_gt f122 (il 12) q123 (by decide) (by decide)
                          refine g_iconst C dX11_fault_124 ?_
                          refine g_istore C [(9, .inl 0), (8, .inl r56), (0, .inr (.inr a0)), (1, .inl a1), (2, .inl a2), (3, .inl a3), (4, .inl a4), (5, .inl a5), (6, .inl a6), (7, .inl a7)] (by decide) rfl dX11_fault_125 ?_
                          refine g_iload C 0 rfl dX11_fault_127 ?_
                          refine g_if_ne C (iw (il 0) (by decide) (by decide)) 134 (by decide) dX11_fault_129 (fun q126 => ?_) (fun q127 => ?_)
                          · exact (no_ne (il 0) (il 0) q126 (by decide)).elim
                          · refine g_iconst C dX11_fault_132 ?_
                            have p128 := (XInv_fx O F61 ta0 rfl P_XInv)
                            exact g_iret C hr rfl (iw (il (-1)) (by decide) (by decide)) ⟨O60, ((Fx.rf (wr := wr_k_X11_fault)).call F61 rfl), (iw (il (-1)) (by decide) (by decide)), p128⟩ (by decide) (by decide) dX11_fault_133
                        · have f129 : (1 : Int) ≤ (a1 + a4) ∧ (a1 + a4) ≤ (12 : Int) := r_le f122 (il 12) q124 (by decide) (by decide)
                          refine g_iconst C dX11_fault_120 ?_
                          refine g_goto C 125 (by decide) dX11_fault_121 ?_
                          refine g_istore C [(9, .inl 1), (8, .inl r56), (0, .inr (.inr a0)), (1, .inl a1), (2, .inl a2), (3, .inl a3), (4, .inl a4), (5, .inl a5), (6, .inl a6), (7, .inl a7)] (by decide) rfl dX11_fault_125 ?_
                          refine g_iload C 0 rfl dX11_fault_127 ?_
                          refine g_if_ne C (iw (il 1) (by decide) (by decide)) 134 (by decide) dX11_fault_129 (fun q130 => ?_) (fun q131 => ?_)
                          · refine g_aload_n C rfl 2 rfl dX11_fault_134 ?_
                            have e132 : Rv h57 a0 8 = v8 := ((fxR F61 ta0 rfl).trans e9)
                            refine gf_R C fk_LandSurvey_49 rfl e71 e132 dX11_fault_135 ?_
                            refine g_aload_n C rfl 2 rfl dX11_fault_138 ?_
                            refine gf_I C fk_LandSurvey_157 rfl e71 e72 dX11_fault_139 ?_
                            refine g_new C 1 rfl rfl rfl inX0 tyX0 tyX0_ok kw_392 kw_914 kw_163 (by decide +kernel) (by decide) (by decide) dX11_fault_142 (fun n133 z134 z135 h137 hh136 => ?_)
                            have O138 := O60.pN z134 z135 hh136 (by decide) nn_1
                            refine g_dup C rfl dX11_fault_145 ?_
                            refine g_iload C 1 rfl dX11_fault_146 ?_
                            refine g_iload_n C rfl 5 rfl dX11_fault_148 ?_
                            refine g_iload C 6 rfl dX11_fault_149 ?_
                            refine g_iload C 7 rfl dX11_fault_151 ?_
                            refine g_iload C 8 rfl dX11_fault_153 ?_
                            refine g_iload C 9 rfl dX11_fault_155 ?_
                            refine g_callV (st := [.inr (.inr n133), .inl v12, .inr (.inr v8)]) (gc_I C lk_LandSurvey_160 rfl (k_X0_init l D cy w z0 O138 (pN_T hh136) f68 (iw f111 (by decide) (by decide)) (iw f85 (by decide) (by decide)) f99 f100 (iw f108 (by decide) (by decide))) (tg_nz (pN_T hh136)) rfl ⟨by decide, by decide⟩ (Nat.le_of_ble_eq_true rfl) dX11_fault_157 ⟨(by decide), (by decide)⟩) (fun h140 K141 => ?_)
                            obtain ⟨O143, F144, p145, p146, p147, p148⟩ := K141
                            have e149 : Tg h140 n133 = 1 := (fxT F144 (pN_T hh136))
                            have F150 : Fx [1000000001] h57 h140 := fe_new z135 hh136 p145 e149
                            have e151 : Tg h140 v8 = 39105 := (fxT F150 (fxT F61 t10))
                            have e152 : Tg h57 v8 = 39105 := (fxT F61 t10)
                            have e153 : Ln h140 v8 = 4 := ((fxL F150 e152).trans ((fxL F61 t10).trans l11))
                            refine g_aast (t := 5) C e151 rfl (by decide) rfl e149 rfl rfl e153 (ix f77 (by decide) (by decide)) dX11_fault_160 (fun h155 hh154 => ?_)
                            have O156 := O143.pR e151 hh154 (okR_o ((rE_arr ar_39105 _).trans rE_39105_0) e149)
                            have e157 : Iv h155 a0 9 = v12 := ((pRI hh154).trans ((fxI F150 e71 rfl).trans e72))
                            have p158 := (BOK_fx O60 F150 e152 rfl rfl rfl rfl (BOK_fx O F61 t10 rfl rfl rfl rfl p39))
                            have e159 : Tg h155 n133 = 1 := ((pRT hh154).trans e149)
                            have p160 : BOK h155 v8 (v12 + 1) := BOK_set p158 hh154 (by omega) (nz_of O156 e159) (by unfold BreakOk; rw [p146, p147, p148]; constructor <;> omega)
                            refine g_aload_n C rfl 2 rfl dX11_fault_161 ?_
                            refine g_iconst C dX11_fault_162 ?_
                            have e161 : Tg h155 a0 = 11 := ((pRT hh154).trans (fxT F150 e71))
                            refine gp_I C fk_LandSurvey_81 pk_LandSurvey_15 rfl e161 (iw (il 0) (by decide) (by decide)) (nar_z2 (iw (il 0) (by decide) (by decide))) dX11_fault_163 (fun h163 hh162 => ?_)
                            have O164 := O156.pI e161 hh162 rI_11_15 (iw (il 0) (by decide) (by decide)) nofun
                            refine g_aload_n C rfl 2 rfl dX11_fault_166 ?_
                            refine g_dup C rfl dX11_fault_167 ?_
                            have e165 : Tg h163 a0 = 11 := ((pIT hh162).trans e161)
                            have e166 : Iv h163 a0 9 = v12 := ((pI_j hh162 (by decide)).trans e157)
                            refine gf_I C fk_LandSurvey_157 rfl e165 e166 dX11_fault_168 ?_
                            refine g_dup_x1 C rfl rfl dX11_fault_171 ?_
                            refine g_iconst C dX11_fault_172 ?_
                            have f167 : (1 : Int) ≤ (v12 + 1) ∧ (v12 + 1) ≤ (4 : Int) := ia_add f77 (il 1) (by decide) (by decide)
                            refine g_iadd C dX11_fault_173 ?_
                            refine gp_I C fk_LandSurvey_157 pk_LandSurvey_9 rfl e165 (iw f167 (by decide) (by decide)) (nf_i _) dX11_fault_174 (fun h169 hh168 => ?_)
                            have O170 := O164.pI e165 hh168 rI_11_9 (iw f167 (by decide) (by decide)) nofun
                            have e171 : Tg h140 a0 = 11 := (fxT F150 e71)
                            have e172 : Rv h169 a0 3 = v1 := ((pIR hh168).trans ((pIR hh162).trans ((pR_n hh154 (ne_tag e171 e151 (by decide))).trans ((fxR F150 e71 rfl).trans ((fxR F61 ta0 rfl).trans e2)))))
                            have e173 : Iv h169 a0 4 = v5 := ((pI_j hh168 (by decide)).trans ((pI_j hh162 (by decide)).trans ((pRI hh154).trans ((fxI F150 e71 rfl).trans ((fxI F61 ta0 rfl).trans e6)))))
                            have e174 : Rv h169 a0 8 = v8 := ((pIR hh168).trans ((pIR hh162).trans ((pR_n hh154 (ne_tag e171 e151 (by decide))).trans ((fxR F150 e71 rfl).trans e132))))
                            have e175 : Rv h169 a0 11 = v15 := ((pIR hh168).trans ((pIR hh162).trans ((pR_n hh154 (ne_tag e171 e151 (by decide))).trans ((fxR F150 e71 rfl).trans ((fxR F61 ta0 rfl).trans e16)))))
                            have e176 : Iv h169 a0 12 = v19 := ((pI_j hh168 (by decide)).trans ((pI_j hh162 (by decide)).trans ((pRI hh154).trans ((fxI F150 e71 rfl).trans ((fxI F61 ta0 rfl).trans e20)))))
                            have e177 : Rv h169 a0 14 = v25 := ((pIR hh168).trans ((pIR hh162).trans ((pR_n hh154 (ne_tag e171 e151 (by decide))).trans ((fxR F150 e71 rfl).trans ((fxR F61 ta0 rfl).trans e26)))))
                            have e178 : Iv h169 a0 15 = 0 := ((pI_j hh168 (by decide)).trans (pI_e hh162))
                            have e179 : Rv h169 a0 13 = v29 := ((pIR hh168).trans ((pIR hh162).trans ((pR_n hh154 (ne_tag e171 e151 (by decide))).trans ((fxR F150 e71 rfl).trans ((fxR F61 ta0 rfl).trans e30)))))
                            have e180 : Rv h169 a0 6 = v32 := ((pIR hh168).trans ((pIR hh162).trans ((pR_n hh154 (ne_tag e171 e151 (by decide))).trans ((fxR F150 e71 rfl).trans ((fxR F61 ta0 rfl).trans e33)))))
                            have e181 : Rv h169 a0 7 = v35 := ((pIR hh168).trans ((pIR hh162).trans ((pR_n hh154 (ne_tag e171 e151 (by decide))).trans ((fxR F150 e71 rfl).trans ((fxR F61 ta0 rfl).trans e36)))))
                            have e182 : Tg h57 v29 = 7 := (fxT F61 t31)
                            have e183 : Tg h140 v29 = 7 := (fxT F150 e182)
                            have e184 : Rv h169 v29 1 = v1 := ((pIR hh168).trans ((pIR hh162).trans ((pR_n hh154 (ne_tag e183 e151 (by decide))).trans ((fxR F150 e182 rfl).trans ((fxR F61 t31 rfl).trans p42)))))
                            have e185 : Rv h169 v29 2 = v8 := ((pIR hh168).trans ((pIR hh162).trans ((pR_n hh154 (ne_tag e183 e151 (by decide))).trans ((fxR F150 e182 rfl).trans ((fxR F61 t31 rfl).trans p43)))))
                            have e186 : Tg h155 v29 = 7 := ((pRT hh154).trans e183)
                            have e187 : Tg h163 v29 = 7 := ((pIT hh162).trans e186)
                            have e188 : Iv h169 v29 3 = v50 := ((pI_n hh168 (ne_tag e187 e165 (by decide))).trans ((pI_n hh162 (ne_tag e186 e161 (by decide))).trans ((pRI hh154).trans ((fxI F150 e182 rfl).trans ((fxI F61 t31 rfl).trans e51)))))
                            have e189 : Iv h169 v29 4 = v53 := ((pI_n hh168 (ne_tag e187 e165 (by decide))).trans ((pI_n hh162 (ne_tag e186 e161 (by decide))).trans ((pRI hh154).trans ((fxI F150 e182 rfl).trans ((fxI F61 t31 rfl).trans e54)))))
                            have e190 : Tg h57 v1 = 38104 := (fxT F61 t3)
                            have e191 : Tg h140 v1 = 38104 := (fxT F150 e190)
                            have e192 : Tg h155 v1 = 38104 := ((pRT hh154).trans e191)
                            have e193 : Tg h163 v1 = 38104 := ((pIT hh162).trans e192)
                            have p194 := (SOK_fx O164 ((Fx.rf (wr := [2209]) (h := h163)).pI e165 hh168 rfl) e193 rfl rfl rfl (SOK_fx O156 ((Fx.rf (wr := [2215]) (h := h155)).pI e161 hh162 rfl) e192 rfl rfl rfl (SOK_fx O143 ((Fx.rf (wr := [7821000]) (h := h140)).pRa e151 ar_39105 hh154 rfl) e191 rfl rfl rfl (SOK_fx O60 F150 e190 rfl rfl rfl (SOK_fx O F61 t3 rfl rfl rfl p38)))))
                            have e195 : Tg h155 v8 = 39105 := ((pRT hh154).trans e151)
                            have e196 : Tg h163 v8 = 39105 := ((pIT hh162).trans e195)
                            have p197 := (BOK_fx O164 ((Fx.rf (wr := [2209]) (h := h163)).pI e165 hh168 rfl) e196 rfl rfl rfl rfl (BOK_fx O156 ((Fx.rf (wr := [2215]) (h := h155)).pI e161 hh162 rfl) e195 rfl rfl rfl rfl p160))
                            have e198 : Tg h57 v15 = 48106 := (fxT F61 t17)
                            have e199 : Tg h140 v15 = 48106 := (fxT F150 e198)
                            have e200 : Tg h155 v15 = 48106 := ((pRT hh154).trans e199)
                            have e201 : Tg h163 v15 = 48106 := ((pIT hh162).trans e200)
                            have p202 := (NN_fx ((Fx.rf (wr := [2209]) (h := h163)).pI e165 hh168 rfl) e201 ar_48106 rfl (NN_fx ((Fx.rf (wr := [2215]) (h := h155)).pI e161 hh162 rfl) e200 ar_48106 rfl (NN_fx ((Fx.rf (wr := [7821000]) (h := h140)).pRa e151 ar_39105 hh154 rfl) e199 ar_48106 rfl (NN_fx F150 e198 ar_48106 rfl (NN_fx F61 t17 ar_48106 rfl p40)))))
                            have e203 : Tg h57 v32 = 5 := (fxT F61 t34)
                            have e204 : Tg h140 v32 = 5 := (fxT F150 e203)
                            have e205 : Tg h155 v32 = 5 := ((pRT hh154).trans e204)
                            have e206 : Tg h163 v32 = 5 := ((pIT hh162).trans e205)
                            have p207 := (BkOk_fx O164 ((Fx.rf (wr := [2209]) (h := h163)).pI e165 hh168 rfl) e206 rfl rfl (BkOk_fx O156 ((Fx.rf (wr := [2215]) (h := h155)).pI e161 hh162 rfl) e205 rfl rfl (BkOk_fx O143 ((Fx.rf (wr := [7821000]) (h := h140)).pRa e151 ar_39105 hh154 rfl) e204 rfl rfl (BkOk_fx O60 F150 e203 rfl rfl (BkOk_fx O F61 t34 rfl rfl p46)))))
                            have e208 : Tg h57 v35 = 6 := (fxT F61 t37)
                            have e209 : Tg h140 v35 = 6 := (fxT F150 e208)
                            have e210 : Tg h155 v35 = 6 := ((pRT hh154).trans e209)
                            have e211 : Tg h163 v35 = 6 := ((pIT hh162).trans e210)
                            have p212 := (RulesOk_fx O164 ((Fx.rf (wr := [2209]) (h := h163)).pI e165 hh168 rfl) e211 rfl (RulesOk_fx O156 ((Fx.rf (wr := [2215]) (h := h155)).pI e161 hh162 rfl) e210 rfl (RulesOk_fx O143 ((Fx.rf (wr := [7821000]) (h := h140)).pRa e151 ar_39105 hh154 rfl) e209 rfl (RulesOk_fx O60 F150 e208 rfl (RulesOk_fx O F61 t37 rfl p47)))))
                            have p213 := (ND_fx ((Fx.rf (wr := [2209]) (h := h163)).pI e165 hh168 rfl) rfl rfl (ND_fx ((Fx.rf (wr := [2215]) (h := h155)).pI e161 hh162 rfl) rfl rfl (ND_fx ((Fx.rf (wr := [7821000]) (h := h140)).pRa e151 ar_39105 hh154 rfl) rfl rfl (ND_fx F150 rfl rfl (ND_fx F61 rfl rfl p48)))))
                            exact g_iret C hr rfl (iw f77 (by decide) (by decide)) ⟨O170, ((((((Fx.rf (wr := wr_k_X11_fault)).call F61 rfl).call F150 rfl).pRa e151 ar_39105 hh154 rfl).pI e161 hh162 rfl).pI e165 hh168 rfl), (iw f77 (by decide) (by decide)), (by unfold XInv; rw [e172, e173, e174, (pI_e hh168), e175, e176, e178, e177, e179, e180, e181, e184, e185, e188, e189]; exact ⟨p194, p197, p202, (fun z => absurd z (by decide)), rfl, rfl, (by omega), (by omega), p207, p212, p213⟩)⟩ (by decide) (by decide) dX11_fault_177
                          · exact (no_eq (il 1) (il 0) q131 (by decide)).elim
                    · have f214 : (1 : Int) ≤ a3 ∧ a3 ≤ (1 : Int) := r_nl fa3 q110
                      refine g_iload_n C rfl 2 rfl dX11_fault_78 ?_
                      refine g_iconst C dX11_fault_79 ?_
                      have f215 : (1 : Int) ≤ (a1 + 1) ∧ (a1 + 1) ≤ (12 : Int) := ia_add f69 (il 1) (by decide) (by decide)
                      refine g_iadd C dX11_fault_80 ?_
                      refine g_bipush C (by decide) dX11_fault_81 ?_
                      refine g_icmp_ge C (iw f215 (by decide) (by decide)) (iw (il 12) (by decide) (by decide)) 99 (by decide) dX11_fault_83 (fun q216 => ?_) (fun q217 => ?_)
                      · have f218 : (12 : Int) ≤ (a1 + 1) ∧ (a1 + 1) ≤ (12 : Int) := r_ge f215 (il 12) q216 (by decide) (by decide)
                        have f219 : (11 : Int) ≤ a1 ∧ a1 ≤ (11 : Int) := (ii f69 (sh_a (c := 1) (l := 11) (u := 11) f218 (by decide) (by decide)) (by decide) (by decide))
                        refine g_iconst C dX11_fault_99 ?_
                        refine g_goto C 125 (by decide) dX11_fault_100 ?_
                        refine g_istore C [(9, .inl 0), (8, .inl r56), (0, .inr (.inr a0)), (1, .inl a1), (2, .inl a2), (3, .inl a3), (4, .inl a4), (5, .inl a5), (6, .inl a6), (7, .inl a7)] (by decide) rfl dX11_fault_125 ?_
                        refine g_iload C 0 rfl dX11_fault_127 ?_
                        refine g_if_ne C (iw (il 0) (by decide) (by decide)) 134 (by decide) dX11_fault_129 (fun q220 => ?_) (fun q221 => ?_)
                        · exact (no_ne (il 0) (il 0) q220 (by decide)).elim
                        · refine g_iconst C dX11_fault_132 ?_
                          have p222 := (XInv_fx O F61 ta0 rfl P_XInv)
                          exact g_iret C hr rfl (iw (il (-1)) (by decide) (by decide)) ⟨O60, ((Fx.rf (wr := wr_k_X11_fault)).call F61 rfl), (iw (il (-1)) (by decide) (by decide)), p222⟩ (by decide) (by decide) dX11_fault_133
                      · have f223 : (1 : Int) ≤ (a1 + 1) ∧ (a1 + 1) ≤ (11 : Int) := r_lt f215 (il 12) q217 (by decide) (by decide)
                        have f224 : (0 : Int) ≤ a1 ∧ a1 ≤ (10 : Int) := (ii f69 (sh_a (c := 1) (l := 0) (u := 10) f223 (by decide) (by decide)) (by decide) (by decide))
                        refine g_iload_n C rfl 3 rfl dX11_fault_86 ?_
                        refine g_iload C 5 rfl dX11_fault_87 ?_
                        have f225 : (1 : Int) ≤ (a2 + a4) ∧ (a2 + a4) ≤ (19 : Int) := ia_add f70 f85 (by decide) (by decide)
                        refine g_iadd C dX11_fault_89 ?_
                        refine g_bipush C (by decide) dX11_fault_90 ?_
                        refine g_icmp_gt C (iw f225 (by decide) (by decide)) (iw (il 8) (by decide) (by decide)) 99 (by decide) dX11_fault_92 (fun q226 => ?_) (fun q227 => ?_)
                        · have f228 : (9 : Int) ≤ (a2 + a4) ∧ (a2 + a4) ≤ (19 : Int) := r_gt f225 (il 8) q226 (by decide) (by decide)
                          refine g_iconst C dX11_fault_99 ?_
                          refine g_goto C 125 (by decide) dX11_fault_100 ?_
                          refine g_istore C [(9, .inl 0), (8, .inl r56), (0, .inr (.inr a0)), (1, .inl a1), (2, .inl a2), (3, .inl a3), (4, .inl a4), (5, .inl a5), (6, .inl a6), (7, .inl a7)] (by decide) rfl dX11_fault_125 ?_
                          refine g_iload C 0 rfl dX11_fault_127 ?_
                          refine g_if_ne C (iw (il 0) (by decide) (by decide)) 134 (by decide) dX11_fault_129 (fun q229 => ?_) (fun q230 => ?_)
                          · exact (no_ne (il 0) (il 0) q229 (by decide)).elim
                          · refine g_iconst C dX11_fault_132 ?_
                            have p231 := (XInv_fx O F61 ta0 rfl P_XInv)
                            exact g_iret C hr rfl (iw (il (-1)) (by decide) (by decide)) ⟨O60, ((Fx.rf (wr := wr_k_X11_fault)).call F61 rfl), (iw (il (-1)) (by decide) (by decide)), p231⟩ (by decide) (by decide) dX11_fault_133
                        · have f232 : (1 : Int) ≤ (a2 + a4) ∧ (a2 + a4) ≤ (8 : Int) := r_le f225 (il 8) q227 (by decide) (by decide)
                          refine g_iconst C dX11_fault_95 ?_
                          refine g_goto C 125 (by decide) dX11_fault_96 ?_
                          refine g_istore C [(9, .inl 1), (8, .inl r56), (0, .inr (.inr a0)), (1, .inl a1), (2, .inl a2), (3, .inl a3), (4, .inl a4), (5, .inl a5), (6, .inl a6), (7, .inl a7)] (by decide) rfl dX11_fault_125 ?_
                          refine g_iload C 0 rfl dX11_fault_127 ?_
                          refine g_if_ne C (iw (il 1) (by decide) (by decide)) 134 (by decide) dX11_fault_129 (fun q233 => ?_) (fun q234 => ?_)
                          · refine g_aload_n C rfl 2 rfl dX11_fault_134 ?_
                            have e235 : Rv h57 a0 8 = v8 := ((fxR F61 ta0 rfl).trans e9)
                            refine gf_R C fk_LandSurvey_49 rfl e71 e235 dX11_fault_135 ?_
                            refine g_aload_n C rfl 2 rfl dX11_fault_138 ?_
                            refine gf_I C fk_LandSurvey_157 rfl e71 e72 dX11_fault_139 ?_
                            refine g_new C 1 rfl rfl rfl inX0 tyX0 tyX0_ok kw_392 kw_914 kw_163 (by decide +kernel) (by decide) (by decide) dX11_fault_142 (fun n236 z237 z238 h240 hh239 => ?_)
                            have O241 := O60.pN z237 z238 hh239 (by decide) nn_1
                            refine g_dup C rfl dX11_fault_145 ?_
                            refine g_iload C 1 rfl dX11_fault_146 ?_
                            refine g_iload_n C rfl 5 rfl dX11_fault_148 ?_
                            refine g_iload C 6 rfl dX11_fault_149 ?_
                            refine g_iload C 7 rfl dX11_fault_151 ?_
                            refine g_iload C 8 rfl dX11_fault_153 ?_
                            refine g_iload C 9 rfl dX11_fault_155 ?_
                            refine g_callV (st := [.inr (.inr n236), .inl v12, .inr (.inr v8)]) (gc_I C lk_LandSurvey_160 rfl (k_X0_init l D cy w z0 O241 (pN_T hh239) f68 (iw f214 (by decide) (by decide)) (iw f85 (by decide) (by decide)) f99 f100 (iw f108 (by decide) (by decide))) (tg_nz (pN_T hh239)) rfl ⟨by decide, by decide⟩ (Nat.le_of_ble_eq_true rfl) dX11_fault_157 ⟨(by decide), (by decide)⟩) (fun h243 K244 => ?_)
                            obtain ⟨O246, F247, p248, p249, p250, p251⟩ := K244
                            have e252 : Tg h243 n236 = 1 := (fxT F247 (pN_T hh239))
                            have F253 : Fx [1000000001] h57 h243 := fe_new z238 hh239 p248 e252
                            have e254 : Tg h243 v8 = 39105 := (fxT F253 (fxT F61 t10))
                            have e255 : Tg h57 v8 = 39105 := (fxT F61 t10)
                            have e256 : Ln h243 v8 = 4 := ((fxL F253 e255).trans ((fxL F61 t10).trans l11))
                            refine g_aast (t := 5) C e254 rfl (by decide) rfl e252 rfl rfl e256 (ix f77 (by decide) (by decide)) dX11_fault_160 (fun h258 hh257 => ?_)
                            have O259 := O246.pR e254 hh257 (okR_o ((rE_arr ar_39105 _).trans rE_39105_0) e252)
                            have e260 : Iv h258 a0 9 = v12 := ((pRI hh257).trans ((fxI F253 e71 rfl).trans e72))
                            have p261 := (BOK_fx O60 F253 e255 rfl rfl rfl rfl (BOK_fx O F61 t10 rfl rfl rfl rfl p39))
                            have e262 : Tg h258 n236 = 1 := ((pRT hh257).trans e252)
                            have p263 : BOK h258 v8 (v12 + 1) := BOK_set p261 hh257 (by omega) (nz_of O259 e262) (by unfold BreakOk; rw [p249, p250, p251]; constructor <;> omega)
                            refine g_aload_n C rfl 2 rfl dX11_fault_161 ?_
                            refine g_iconst C dX11_fault_162 ?_
                            have e264 : Tg h258 a0 = 11 := ((pRT hh257).trans (fxT F253 e71))
                            refine gp_I C fk_LandSurvey_81 pk_LandSurvey_15 rfl e264 (iw (il 0) (by decide) (by decide)) (nar_z2 (iw (il 0) (by decide) (by decide))) dX11_fault_163 (fun h266 hh265 => ?_)
                            have O267 := O259.pI e264 hh265 rI_11_15 (iw (il 0) (by decide) (by decide)) nofun
                            refine g_aload_n C rfl 2 rfl dX11_fault_166 ?_
                            refine g_dup C rfl dX11_fault_167 ?_
                            have e268 : Tg h266 a0 = 11 := ((pIT hh265).trans e264)
                            have e269 : Iv h266 a0 9 = v12 := ((pI_j hh265 (by decide)).trans e260)
                            refine gf_I C fk_LandSurvey_157 rfl e268 e269 dX11_fault_168 ?_
                            refine g_dup_x1 C rfl rfl dX11_fault_171 ?_
                            refine g_iconst C dX11_fault_172 ?_
                            have f270 : (1 : Int) ≤ (v12 + 1) ∧ (v12 + 1) ≤ (4 : Int) := ia_add f77 (il 1) (by decide) (by decide)
                            refine g_iadd C dX11_fault_173 ?_
                            refine gp_I C fk_LandSurvey_157 pk_LandSurvey_9 rfl e268 (iw f270 (by decide) (by decide)) (nf_i _) dX11_fault_174 (fun h272 hh271 => ?_)
                            have O273 := O267.pI e268 hh271 rI_11_9 (iw f270 (by decide) (by decide)) nofun
                            have e274 : Tg h243 a0 = 11 := (fxT F253 e71)
                            have e275 : Rv h272 a0 3 = v1 := ((pIR hh271).trans ((pIR hh265).trans ((pR_n hh257 (ne_tag e274 e254 (by decide))).trans ((fxR F253 e71 rfl).trans ((fxR F61 ta0 rfl).trans e2)))))
                            have e276 : Iv h272 a0 4 = v5 := ((pI_j hh271 (by decide)).trans ((pI_j hh265 (by decide)).trans ((pRI hh257).trans ((fxI F253 e71 rfl).trans ((fxI F61 ta0 rfl).trans e6)))))
                            have e277 : Rv h272 a0 8 = v8 := ((pIR hh271).trans ((pIR hh265).trans ((pR_n hh257 (ne_tag e274 e254 (by decide))).trans ((fxR F253 e71 rfl).trans e235))))
                            have e278 : Rv h272 a0 11 = v15 := ((pIR hh271).trans ((pIR hh265).trans ((pR_n hh257 (ne_tag e274 e254 (by decide))).trans ((fxR F253 e71 rfl).trans ((fxR F61 ta0 rfl).trans e16)))))
                            have e279 : Iv h272 a0 12 = v19 := ((pI_j hh271 (by decide)).trans ((pI_j hh265 (by decide)).trans ((pRI hh257).trans ((fxI F253 e71 rfl).trans ((fxI F61 ta0 rfl).trans e20)))))
                            have e280 : Rv h272 a0 14 = v25 := ((pIR hh271).trans ((pIR hh265).trans ((pR_n hh257 (ne_tag e274 e254 (by decide))).trans ((fxR F253 e71 rfl).trans ((fxR F61 ta0 rfl).trans e26)))))
                            have e281 : Iv h272 a0 15 = 0 := ((pI_j hh271 (by decide)).trans (pI_e hh265))
                            have e282 : Rv h272 a0 13 = v29 := ((pIR hh271).trans ((pIR hh265).trans ((pR_n hh257 (ne_tag e274 e254 (by decide))).trans ((fxR F253 e71 rfl).trans ((fxR F61 ta0 rfl).trans e30)))))
                            have e283 : Rv h272 a0 6 = v32 := ((pIR hh271).trans ((pIR hh265).trans ((pR_n hh257 (ne_tag e274 e254 (by decide))).trans ((fxR F253 e71 rfl).trans ((fxR F61 ta0 rfl).trans e33)))))
                            have e284 : Rv h272 a0 7 = v35 := ((pIR hh271).trans ((pIR hh265).trans ((pR_n hh257 (ne_tag e274 e254 (by decide))).trans ((fxR F253 e71 rfl).trans ((fxR F61 ta0 rfl).trans e36)))))
                            have e285 : Tg h57 v29 = 7 := (fxT F61 t31)
                            have e286 : Tg h243 v29 = 7 := (fxT F253 e285)
                            have e287 : Rv h272 v29 1 = v1 := ((pIR hh271).trans ((pIR hh265).trans ((pR_n hh257 (ne_tag e286 e254 (by decide))).trans ((fxR F253 e285 rfl).trans ((fxR F61 t31 rfl).trans p42)))))
                            have e288 : Rv h272 v29 2 = v8 := ((pIR hh271).trans ((pIR hh265).trans ((pR_n hh257 (ne_tag e286 e254 (by decide))).trans ((fxR F253 e285 rfl).trans ((fxR F61 t31 rfl).trans p43)))))
                            have e289 : Tg h258 v29 = 7 := ((pRT hh257).trans e286)
                            have e290 : Tg h266 v29 = 7 := ((pIT hh265).trans e289)
                            have e291 : Iv h272 v29 3 = v50 := ((pI_n hh271 (ne_tag e290 e268 (by decide))).trans ((pI_n hh265 (ne_tag e289 e264 (by decide))).trans ((pRI hh257).trans ((fxI F253 e285 rfl).trans ((fxI F61 t31 rfl).trans e51)))))
                            have e292 : Iv h272 v29 4 = v53 := ((pI_n hh271 (ne_tag e290 e268 (by decide))).trans ((pI_n hh265 (ne_tag e289 e264 (by decide))).trans ((pRI hh257).trans ((fxI F253 e285 rfl).trans ((fxI F61 t31 rfl).trans e54)))))
                            have e293 : Tg h57 v1 = 38104 := (fxT F61 t3)
                            have e294 : Tg h243 v1 = 38104 := (fxT F253 e293)
                            have e295 : Tg h258 v1 = 38104 := ((pRT hh257).trans e294)
                            have e296 : Tg h266 v1 = 38104 := ((pIT hh265).trans e295)
                            have p297 := (SOK_fx O267 ((Fx.rf (wr := [2209]) (h := h266)).pI e268 hh271 rfl) e296 rfl rfl rfl (SOK_fx O259 ((Fx.rf (wr := [2215]) (h := h258)).pI e264 hh265 rfl) e295 rfl rfl rfl (SOK_fx O246 ((Fx.rf (wr := [7821000]) (h := h243)).pRa e254 ar_39105 hh257 rfl) e294 rfl rfl rfl (SOK_fx O60 F253 e293 rfl rfl rfl (SOK_fx O F61 t3 rfl rfl rfl p38)))))
                            have e298 : Tg h258 v8 = 39105 := ((pRT hh257).trans e254)
                            have e299 : Tg h266 v8 = 39105 := ((pIT hh265).trans e298)
                            have p300 := (BOK_fx O267 ((Fx.rf (wr := [2209]) (h := h266)).pI e268 hh271 rfl) e299 rfl rfl rfl rfl (BOK_fx O259 ((Fx.rf (wr := [2215]) (h := h258)).pI e264 hh265 rfl) e298 rfl rfl rfl rfl p263))
                            have e301 : Tg h57 v15 = 48106 := (fxT F61 t17)
                            have e302 : Tg h243 v15 = 48106 := (fxT F253 e301)
                            have e303 : Tg h258 v15 = 48106 := ((pRT hh257).trans e302)
                            have e304 : Tg h266 v15 = 48106 := ((pIT hh265).trans e303)
                            have p305 := (NN_fx ((Fx.rf (wr := [2209]) (h := h266)).pI e268 hh271 rfl) e304 ar_48106 rfl (NN_fx ((Fx.rf (wr := [2215]) (h := h258)).pI e264 hh265 rfl) e303 ar_48106 rfl (NN_fx ((Fx.rf (wr := [7821000]) (h := h243)).pRa e254 ar_39105 hh257 rfl) e302 ar_48106 rfl (NN_fx F253 e301 ar_48106 rfl (NN_fx F61 t17 ar_48106 rfl p40)))))
                            have e306 : Tg h57 v32 = 5 := (fxT F61 t34)
                            have e307 : Tg h243 v32 = 5 := (fxT F253 e306)
                            have e308 : Tg h258 v32 = 5 := ((pRT hh257).trans e307)
                            have e309 : Tg h266 v32 = 5 := ((pIT hh265).trans e308)
                            have p310 := (BkOk_fx O267 ((Fx.rf (wr := [2209]) (h := h266)).pI e268 hh271 rfl) e309 rfl rfl (BkOk_fx O259 ((Fx.rf (wr := [2215]) (h := h258)).pI e264 hh265 rfl) e308 rfl rfl (BkOk_fx O246 ((Fx.rf (wr := [7821000]) (h := h243)).pRa e254 ar_39105 hh257 rfl) e307 rfl rfl (BkOk_fx O60 F253 e306 rfl rfl (BkOk_fx O F61 t34 rfl rfl p46)))))
                            have e311 : Tg h57 v35 = 6 := (fxT F61 t37)
                            have e312 : Tg h243 v35 = 6 := (fxT F253 e311)
                            have e313 : Tg h258 v35 = 6 := ((pRT hh257).trans e312)
                            have e314 : Tg h266 v35 = 6 := ((pIT hh265).trans e313)
                            have p315 := (RulesOk_fx O267 ((Fx.rf (wr := [2209]) (h := h266)).pI e268 hh271 rfl) e314 rfl (RulesOk_fx O259 ((Fx.rf (wr := [2215]) (h := h258)).pI e264 hh265 rfl) e313 rfl (RulesOk_fx O246 ((Fx.rf (wr := [7821000]) (h := h243)).pRa e254 ar_39105 hh257 rfl) e312 rfl (RulesOk_fx O60 F253 e311 rfl (RulesOk_fx O F61 t37 rfl p47)))))
                            have p316 := (ND_fx ((Fx.rf (wr := [2209]) (h := h266)).pI e268 hh271 rfl) rfl rfl (ND_fx ((Fx.rf (wr := [2215]) (h := h258)).pI e264 hh265 rfl) rfl rfl (ND_fx ((Fx.rf (wr := [7821000]) (h := h243)).pRa e254 ar_39105 hh257 rfl) rfl rfl (ND_fx F253 rfl rfl (ND_fx F61 rfl rfl p48)))))
                            exact g_iret C hr rfl (iw f77 (by decide) (by decide)) ⟨O273, ((((((Fx.rf (wr := wr_k_X11_fault)).call F61 rfl).call F253 rfl).pRa e254 ar_39105 hh257 rfl).pI e264 hh265 rfl).pI e268 hh271 rfl), (iw f77 (by decide) (by decide)), (by unfold XInv; rw [e275, e276, e277, (pI_e hh271), e278, e279, e281, e280, e282, e283, e284, e287, e288, e291, e292]; exact ⟨p297, p300, p305, (fun z => absurd z (by decide)), rfl, rfl, (by omega), (by omega), p310, p315, p316⟩)⟩ (by decide) (by decide) dX11_fault_177
                          · exact (no_eq (il 1) (il 0) q234 (by decide)).elim
                  · have f317 : (100 : Int) ≤ a7 ∧ a7 ≤ (2147483647 : Int) := r_gt f105 (il 99) q107 (by decide) (by decide)
                    refine g_iconst C dX11_fault_72 ?_
                    have p318 := (XInv_fx O F61 ta0 rfl P_XInv)
                    exact g_iret C hr rfl (iw (il (-1)) (by decide) (by decide)) ⟨O60, ((Fx.rf (wr := wr_k_X11_fault)).call F61 rfl), (iw (il (-1)) (by decide) (by decide)), p318⟩ (by decide) (by decide) dX11_fault_73
        · have f319 : (13 : Int) ≤ a4 ∧ a4 ≤ (2147483647 : Int) := r_gt f82 (il 12) q84 (by decide) (by decide)
          refine g_iconst C dX11_fault_34 ?_
          have p320 := (XInv_fx O F61 ta0 rfl P_XInv)
          exact g_iret C hr rfl (iw (il (-1)) (by decide) (by decide)) ⟨O60, ((Fx.rf (wr := wr_k_X11_fault)).call F61 rfl), (iw (il (-1)) (by decide) (by decide)), p320⟩ (by decide) (by decide) dX11_fault_35
def wr_k_X7_init : List Nat := [201600, 8820000, 1000044100]
set_option maxRecDepth 100000 in
set_option maxHeartbeats 4000000 in
theorem k_X7_init (l : Launch) (D : va_G) (cy : Nat → ClassId) (w : Nat → Nat) (z0 : Nat)  {h : Hp} {a0 : Nat}  (O : Okh h) (ta0 : Tg h a0 = 1008) : MV l D cy w z0 yX7_init cX7_init 1 none 1 24 1 96 [.inr (.inr a0)] h (fun h1 => Okh h1 ∧ Fx wr_k_X7_init h h1 ∧ (¬ Rv h1 a0 0 = 0)) := by
  refine hm_go (by decide +kernel) (Nat.le_of_ble_eq_true rfl) (fun p e s m below meth c C hr hn => ?_)
  refine g_aload_n C rfl 0 rfl dX7_init_0 ?_
  refine g_oinit C (tg_nz ta0) kw_1268 kw_178 (by decide) (Nat.le_of_ble_eq_true rfl) dX7_init_1 ?_
  refine g_aload_n C rfl 0 rfl dX7_init_4 ?_
  refine g_bipush C (by decide) dX7_init_5 ?_
  refine g_newa (atype := .int) (t := 0) (ty := .int) (N := 96) C 44100 rfl (iw (il 96) (by decide) (by decide)) (by decide) rfl kw_224 rfl (fun _ => rfl) (by decide) (by decide) (by decide) (by decide) dX7_init_7 (fun n1 z2 z3 h5 hh4 => ?_)
  have O6 := O.pN z2 z3 hh4 (by decide) nn_44100
  have e7 : Tg h5 a0 = 1008 := ((pNT hh4 (pN_n hh4 z3 ta0)).trans ta0)
  refine gp_RF C fk_LandSurvey_Sheet_9 pk_LandSurvey_Sheet_0 rfl e7 hn rfl (nf_a _ _) dX7_init_9 (fun h9 hh8 => ?_)
  have O10 := O6.pR e7 hh8 (okR_l rE_1008_0 (pN_T hh4) (pN_L hh4))
  refine g_aload_n C rfl 0 rfl dX7_init_12 ?_
  have e11 : Tg h9 a0 = 1008 := ((pRT hh8).trans e7)
  refine gf_R C fk_LandSurvey_Sheet_9 rfl e11 (pR_e hh8) dX7_init_13 ?_
  refine g_iconst C dX7_init_16 ?_
  have e12 : Tg h9 n1 = 44100 := ((pRT hh8).trans (pN_T hh4))
  have e13 : Ln h9 n1 = 96 := ((pRL hh8).trans (pN_L hh4))
  refine g_callV (st := []) (gc_S C lk_LandSurvey_Sheet_15 (k_fill_44100 l D cy w z0 O10 e12 e13 (iw (il (-1)) (by decide) (by decide))) rfl ⟨by decide, by decide⟩ (Nat.le_of_ble_eq_true rfl) dX7_init_17 ⟨(by decide), (by decide)⟩) (fun h15 K16 => ?_)
  obtain ⟨O18, F19⟩ := K16
  have e20 : Rv h15 a0 0 = n1 := ((fxR F19 e11 rfl).trans (pR_e hh8))
  have e21 : Tg h15 n1 = 44100 := (fxT F19 e12)
  exact g_vret C hr ⟨O18, ((((Fx.rf (wr := wr_k_X7_init)).pN z3 hh4 rfl).pR e7 hh8 rfl).call F19 rfl), (by rw [e20]; exact nz_of O18 e21)⟩ (by decide) (by decide) dX7_init_20
def wr_k_X11_sheet : List Nat := [401, 402, 403, 404, 405, 406, 1403, 1404, 1405, 1412, 1813, 1814, 1815, 1816, 1817, 1818, 2003, 2207, 2212, 2215, 2216, 2217, 200400, 200407, 200408, 201600, 2020000, 2220000, 7420000, 8020000, 8220400, 8420400, 8620000, 8820000, 9020000, 9220400, 9420000, 9621200, 9821400, 10020000, 1000000002, 1000000008, 1000001002, 1000001008, 1000010100, 1000011100, 1000044100]
set_option maxRecDepth 100000 in
set_option maxHeartbeats 4000000 in
theorem k_X11_sheet (l : Launch) (D : va_G) (cy : Nat → ClassId) (w : Nat → Nat) (z0 : Nat)  {h : Hp} {a0 : Nat} {a1 : Int} {a2 : Int} {a3 : Int} {a4 : Int}  (O : Okh h) (ta0 : Tg h a0 = 11) (fa1 : (-2147483648) ≤ a1 ∧ a1 ≤ 2147483647) (fa2 : (-2147483648) ≤ a2 ∧ a2 ≤ 2147483647) (fa3 : (-2147483648) ≤ a3 ∧ a3 ≤ 2147483647) (fa4 : (-2147483648) ≤ a4 ∧ a4 ≤ 2147483647) (P_XInv : XInv h a0) : MI l D cy w z0 yX11_sheet cX11_sheet 11 (some .int) 11 300 50 3313 [.inr (.inr a0), .inl a1, .inl a2, .inl a3, .inl a4] h (fun v h1 => Okh h1 ∧ Fx wr_k_X11_sheet h h1 ∧ ((-1) ≤ v ∧ v ≤ 9) ∧ (XInv h1 a0)) := by
  obtain ⟨v1, e2⟩ : ∃ z, Rv h a0 3 = z := ⟨_, rfl⟩
  have t3 := ok_R O ta0 rE_11_3 e2
  have l4 := ok_L O ta0 rE_11_3 e2
  obtain ⟨v5, e6⟩ : ∃ z, Iv h a0 4 = z := ⟨_, rfl⟩
  have f7 := ok_I O ta0 rI_11_4 e6
  obtain ⟨v8, e9⟩ : ∃ z, Rv h a0 8 = z := ⟨_, rfl⟩
  have t10 := ok_R O ta0 rE_11_8 e9
  have l11 := ok_L O ta0 rE_11_8 e9
  obtain ⟨v12, e13⟩ : ∃ z, Iv h a0 9 = z := ⟨_, rfl⟩
  have f14 := ok_I O ta0 rI_11_9 e13
  obtain ⟨v15, e16⟩ : ∃ z, Rv h a0 11 = z := ⟨_, rfl⟩
  have t17 := ok_R O ta0 rE_11_11 e16
  have l18 := ok_L O ta0 rE_11_11 e16
  obtain ⟨v19, e20⟩ : ∃ z, Iv h a0 12 = z := ⟨_, rfl⟩
  have f21 := ok_I O ta0 rI_11_12 e20
  obtain ⟨v22, e23⟩ : ∃ z, Iv h a0 15 = z := ⟨_, rfl⟩
  have f24 := ok_I O ta0 rI_11_15 e23
  obtain ⟨v25, e26⟩ : ∃ z, Rv h a0 14 = z := ⟨_, rfl⟩
  have t27 := ok_R O ta0 rE_11_14 e26
  have l28 := ok_L O ta0 rE_11_14 e26
  obtain ⟨v29, e30⟩ : ∃ z, Rv h a0 13 = z := ⟨_, rfl⟩
  have t31 := ok_R O ta0 rE_11_13 e30
  obtain ⟨v32, e33⟩ : ∃ z, Rv h a0 6 = z := ⟨_, rfl⟩
  have t34 := ok_R O ta0 rE_11_6 e33
  obtain ⟨v35, e36⟩ : ∃ z, Rv h a0 7 = z := ⟨_, rfl⟩
  have t37 := ok_R O ta0 rE_11_7 e36
  have p49 := P_XInv
  unfold XInv at p49
  rw [e2, e6, e9, e13, e16, e20, e23, e26, e30, e33, e36] at p49
  obtain ⟨p38, p39, p40, p41, p42, p43, p44, p45, p46, p47, p48⟩ := p49
  obtain ⟨v50, e51⟩ : ∃ z, Iv h v29 3 = z := ⟨_, rfl⟩
  have f52 := ok_I O t31 rI_7_3 e51
  obtain ⟨v53, e54⟩ : ∃ z, Iv h v29 4 = z := ⟨_, rfl⟩
  have f55 := ok_I O t31 rI_7_4 e54
  rw [e51] at p44
  rw [e54] at p45
  refine hm_go (by decide +kernel) (Nat.le_of_ble_eq_true rfl) (fun p e s m below meth c C hr hn => ?_)
  refine g_iload_n C rfl 1 rfl dX11_sheet_0 ?_
  refine g_iload_n C rfl 2 rfl dX11_sheet_1 ?_
  refine g_callI (st := []) (gc_S C lk_LandSurvey_85 (k_X11_cellAt l D cy w z0 O fa1 fa2) rfl ⟨by decide, by decide⟩ (Nat.le_of_ble_eq_true rfl) dX11_sheet_2 ⟨(by decide), (by decide)⟩) (fun r56 h57 f59 K58 => ?_)
  obtain ⟨O60, F61, f62, p63⟩ := K58
  refine g_istore C [(5, .inl r56), (0, .inr (.inr a0)), (1, .inl a1), (2, .inl a2), (3, .inl a3), (4, .inl a4)] (by decide) rfl dX11_sheet_5 ?_
  refine g_iload_n C rfl 4 rfl dX11_sheet_7 ?_
  refine g_iload C 5 rfl dX11_sheet_8 ?_
  refine g_callI (st := []) (gc_S C lk_LandSurvey_85 (k_X11_cellAt l D cy w z0 O60 fa3 fa4) rfl ⟨by decide, by decide⟩ (Nat.le_of_ble_eq_true rfl) dX11_sheet_10 ⟨(by decide), (by decide)⟩) (fun r64 h65 f67 K66 => ?_)
  obtain ⟨O68, F69, f70, p71⟩ := K66
  refine g_istore C [(6, .inl r64), (5, .inl r56), (0, .inr (.inr a0)), (1, .inl a1), (2, .inl a2), (3, .inl a3), (4, .inl a4)] (by decide) rfl dX11_sheet_13 ?_
  refine g_iload C 1 rfl dX11_sheet_15 ?_
  refine g_iconst C dX11_sheet_17 ?_
  refine g_icmp_eq C (iw f62 (by decide) (by decide)) (iw (il (-1)) (by decide) (by decide)) 38 (by decide) dX11_sheet_18 (fun q72 => ?_) (fun q73 => ?_)
  · have f74 : (-1 : Int) ≤ r56 ∧ r56 ≤ (-1 : Int) := ii f62 (r_eq (il (-1)) q72) (by decide) (by decide)
    refine g_iconst C dX11_sheet_38 ?_
    have e75 : Tg h57 a0 = 11 := (fxT F61 ta0)
    have p76 := (XInv_fx O60 F69 e75 rfl (XInv_fx O F61 ta0 rfl P_XInv))
    exact g_iret C hr rfl (iw (il (-1)) (by decide) (by decide)) ⟨O68, (((Fx.rf (wr := wr_k_X11_sheet)).call F61 rfl).call F69 rfl), (iw (il (-1)) (by decide) (by decide)), p76⟩ (by decide) (by decide) dX11_sheet_39
  · have f77 : (0 : Int) ≤ r56 ∧ r56 ≤ (95 : Int) := r_nl f62 q73
    refine g_iload C 0 rfl dX11_sheet_21 ?_
    refine g_iconst C dX11_sheet_23 ?_
    refine g_icmp_eq C (iw f70 (by decide) (by decide)) (iw (il (-1)) (by decide) (by decide)) 38 (by decide) dX11_sheet_24 (fun q78 => ?_) (fun q79 => ?_)
    · have f80 : (-1 : Int) ≤ r64 ∧ r64 ≤ (-1 : Int) := ii f70 (r_eq (il (-1)) q78) (by decide) (by decide)
      refine g_iconst C dX11_sheet_38 ?_
      have e81 : Tg h57 a0 = 11 := (fxT F61 ta0)
      have p82 := (XInv_fx O60 F69 e81 rfl (XInv_fx O F61 ta0 rfl P_XInv))
      exact g_iret C hr rfl (iw (il (-1)) (by decide) (by decide)) ⟨O68, (((Fx.rf (wr := wr_k_X11_sheet)).call F61 rfl).call F69 rfl), (iw (il (-1)) (by decide) (by decide)), p82⟩ (by decide) (by decide) dX11_sheet_39
    · have f83 : (0 : Int) ≤ r64 ∧ r64 ≤ (95 : Int) := r_nl f70 q79
      refine g_iload_n C rfl 3 rfl dX11_sheet_27 ?_
      refine g_iload_n C rfl 5 rfl dX11_sheet_28 ?_
      refine g_icmp_gt C fa1 fa3 38 (by decide) dX11_sheet_29 (fun q84 => ?_) (fun q85 => ?_)
      · have f86 : (-2147483648 : Int) ≤ a3 ∧ a3 ≤ (2147483646 : Int) := r_lt fa3 fa1 q84 (by decide) (by decide)
        have f87 : (-2147483647 : Int) ≤ a1 ∧ a1 ≤ (2147483647 : Int) := r_gt fa1 fa3 q84 (by decide) (by decide)
        refine g_iconst C dX11_sheet_38 ?_
        have e88 : Tg h57 a0 = 11 := (fxT F61 ta0)
        have p89 := (XInv_fx O60 F69 e88 rfl (XInv_fx O F61 ta0 rfl P_XInv))
        exact g_iret C hr rfl (iw (il (-1)) (by decide) (by decide)) ⟨O68, (((Fx.rf (wr := wr_k_X11_sheet)).call F61 rfl).call F69 rfl), (iw (il (-1)) (by decide) (by decide)), p89⟩ (by decide) (by decide) dX11_sheet_39
      · refine g_iload_n C rfl 4 rfl dX11_sheet_32 ?_
        refine g_iload C 6 rfl dX11_sheet_33 ?_
        refine g_icmp_le C fa2 fa4 40 (by decide) dX11_sheet_35 (fun q90 => ?_) (fun q91 => ?_)
        · refine g_aload_n C rfl 2 rfl dX11_sheet_40 ?_
          have e92 : Tg h65 a0 = 11 := (fxT F69 (fxT F61 ta0))
          have e93 : Tg h57 a0 = 11 := (fxT F61 ta0)
          have e94 : Iv h65 a0 12 = v19 := ((fxI F69 e93 rfl).trans ((fxI F61 ta0 rfl).trans e20))
          refine gf_I C fk_LandSurvey_305 rfl e92 e94 dX11_sheet_41 ?_
          refine g_bipush C (by decide) dX11_sheet_44 ?_
          refine g_icmp_ge C (iw f21 (by decide) (by decide)) (iw (il 10) (by decide) (by decide)) 56 (by decide) dX11_sheet_46 (fun q95 => ?_) (fun q96 => ?_)
          · have f97 : (10 : Int) ≤ v19 ∧ v19 ≤ (10 : Int) := r_ge f21 (il 10) q95 (by decide) (by decide)
            refine g_iconst C dX11_sheet_56 ?_
            have p98 := (XInv_fx O60 F69 e93 rfl (XInv_fx O F61 ta0 rfl P_XInv))
            exact g_iret C hr rfl (iw (il (-1)) (by decide) (by decide)) ⟨O68, (((Fx.rf (wr := wr_k_X11_sheet)).call F61 rfl).call F69 rfl), (iw (il (-1)) (by decide) (by decide)), p98⟩ (by decide) (by decide) dX11_sheet_57
          · have f99 : (0 : Int) ≤ v19 ∧ v19 ≤ (9 : Int) := r_lt f21 (il 10) q96 (by decide) (by decide)
            refine g_aload_n C rfl 2 rfl dX11_sheet_49 ?_
            have p100 := (XInv_fx O60 F69 e93 rfl (XInv_fx O F61 ta0 rfl P_XInv))
            refine g_callI (st := []) (gc_V C lk_LandSurvey_253 (k_X11_prepare l D cy w z0 O68 e92 p100) e92 rfl rfl rfl ⟨by decide, by decide⟩ (Nat.le_of_ble_eq_true rfl) dX11_sheet_50 ⟨(by decide), (by decide)⟩) (fun r101 h102 f104 K103 => ?_)
            obtain ⟨O105, F106, f107, p108, p109, p110⟩ := K103
            obtain ⟨v111, e112⟩ : ∃ z, Rv h102 a0 17 = z := ⟨_, rfl⟩
            have e113 : Tg h102 a0 = 11 := (fxT F106 e92)
            rw [e112] at p110
            have e114 : Rv h102 a0 3 = v1 := ((fxR F106 e92 rfl).trans ((fxR F69 e93 rfl).trans ((fxR F61 ta0 rfl).trans e2)))
            have e115 : Iv h102 a0 4 = v5 := ((fxI F106 e92 rfl).trans ((fxI F69 e93 rfl).trans ((fxI F61 ta0 rfl).trans e6)))
            have e116 : Rv h102 a0 8 = v8 := ((fxR F106 e92 rfl).trans ((fxR F69 e93 rfl).trans ((fxR F61 ta0 rfl).trans e9)))
            have e117 : Iv h102 a0 9 = v12 := ((fxI F106 e92 rfl).trans ((fxI F69 e93 rfl).trans ((fxI F61 ta0 rfl).trans e13)))
            have e118 : Rv h102 a0 11 = v15 := ((fxR F106 e92 rfl).trans ((fxR F69 e93 rfl).trans ((fxR F61 ta0 rfl).trans e16)))
            have e119 : Iv h102 a0 12 = v19 := ((fxI F106 e92 rfl).trans e94)
            have e120 : Rv h102 a0 14 = v25 := ((fxR F106 e92 rfl).trans ((fxR F69 e93 rfl).trans ((fxR F61 ta0 rfl).trans e26)))
            have e121 : Rv h102 a0 13 = v29 := ((fxR F106 e92 rfl).trans ((fxR F69 e93 rfl).trans ((fxR F61 ta0 rfl).trans e30)))
            have e122 : Rv h102 a0 6 = v32 := ((fxR F106 e92 rfl).trans ((fxR F69 e93 rfl).trans ((fxR F61 ta0 rfl).trans e33)))
            obtain ⟨v123, e124⟩ : ∃ z, Rv h102 a0 7 = z := ⟨_, rfl⟩
            have t125 := ok_R O105 e113 rE_11_7 e124
            have p137 := p108
            unfold XInv at p137
            rw [e114, e115, e116, e117, e118, e119, p109, e120, e121, e122, e124] at p137
            obtain ⟨p126, p127, p128, p129, p130, p131, p132, p133, p134, p135, p136⟩ := p137
            have e138 : Tg h57 v29 = 7 := (fxT F61 t31)
            have e139 : Tg h65 v29 = 7 := (fxT F69 e138)
            obtain ⟨v140, e141⟩ : ∃ z, Iv h102 v29 3 = z := ⟨_, rfl⟩
            have e142 : Tg h102 v29 = 7 := (fxT F106 e139)
            have f143 := ok_I O105 e142 rI_7_3 e141
            obtain ⟨v144, e145⟩ : ∃ z, Iv h102 v29 4 = z := ⟨_, rfl⟩
            have f146 := ok_I O105 e142 rI_7_4 e145
            rw [e141] at p132
            rw [e145] at p133
            have p147 := p129 (by omega)
            refine g_if_ne C (iw f107 (by decide) (by decide)) 58 (by decide) dX11_sheet_53 (fun q148 => ?_) (fun q149 => ?_)
            · have f150 : (1 : Int) ≤ r101 ∧ r101 ≤ (1 : Int) := r_nl f107 q148
              have f151 : (0 : Int) ≤ a1 ∧ a1 ≤ (11 : Int) := by omega
              have f152 : (0 : Int) ≤ a2 ∧ a2 ≤ (7 : Int) := by omega
              have f153 : (0 : Int) ≤ a3 ∧ a3 ≤ (11 : Int) := by omega
              have f154 : (0 : Int) ≤ a4 ∧ a4 ≤ (7 : Int) := by omega
              refine g_new C 1008 rfl rfl rfl inX7 tyX7 tyX7_ok kw_394 kw_1264 kw_171 (by decide +kernel) (by decide) (by decide) dX11_sheet_58 (fun n155 z156 z157 h159 hh158 => ?_)
              have O160 := O105.pN z156 z157 hh158 (by decide) nn_1008
              refine g_dup C rfl dX11_sheet_61 ?_
              refine g_callV (st := [.inr (.inr n155)]) (gc_I C lk_LandSurvey_308 rfl (k_X7_init l D cy w z0 O160 (pN_T hh158)) (tg_nz (pN_T hh158)) rfl ⟨by decide, by decide⟩ (Nat.le_of_ble_eq_true rfl) dX11_sheet_62 ⟨(by decide), (by decide)⟩) (fun h162 K163 => ?_)
              obtain ⟨O165, F166, p167⟩ := K163
              have e168 : Tg h162 n155 = 1008 := (fxT F166 (pN_T hh158))
              refine g_rt (T0 := 1007) (T1 := 7) e168 rfl (fun h170 hh169 => ?_)
              have O171 := O165.rt1 (T0 := 8) (T1 := 1007) e168 hh169 nu_1008 tbI_8_1008 tbE_8_1008 (fun j hj => by
                  have z := List.elem_iff.mp (tbN_8 j hj)
                  simp only [List.mem_cons, List.not_mem_nil, or_false] at z
                  rcases z with rfl
                  · exact p167)
              have e172 : Ln h170 n155 = 0 := ((pTL hh169).trans ((fxL F166 (pN_T hh158)).trans (pN_L hh158)))
              have F173 : Fx [201600, 8820000, 1000000008, 1000001008, 1000044100] h102 h170 := ((((Fx.rf (wr := [201600, 8820000, 1000000008, 1000001008, 1000044100]) (h := h102)).pN z157 hh158 rfl).call F166 rfl).pT (nt_of (Fx.rf (wr := [201600, 8820000, 1000000008, 1000001008, 1000044100]) (h := h102)) z157) hh169 rfl)
              refine g_astore C [(7, .inr (.inr n155)), (6, .inl r64), (5, .inl r56), (0, .inr (.inr a0)), (1, .inl a1), (2, .inl a2), (3, .inl a3), (4, .inl a4)] (by decide) rfl dX11_sheet_65 ?_
              refine g_iload_n C rfl 5 rfl dX11_sheet_67 ?_
              refine g_istore C [(8, .inl a2), (7, .inr (.inr n155)), (6, .inl r64), (5, .inl r56), (0, .inr (.inr a0)), (1, .inl a1), (2, .inl a2), (3, .inl a3), (4, .inl a4)] (by decide) rfl dX11_sheet_68 ?_
              refine GW.sub [4, 5, 6, 7, 8, 3, 2, 1, 0] rfl ?_
              -- loop at 70
              have L176 : ∀ (μ : Nat) (x174 : Int) (h175 : Hp), (8 - x174).toNat = μ → Okh h175 → Fx [8820000] h170 h175 → ((0 : Int) ≤ x174 ∧ x174 ≤ (8 : Int)) → GW p l e (rmm 11 300 50 3313) s m (List.map toV [.inr (.inr a0), .inl a1, .inl a2, .inl a3, .inl a4]).toArray below meth c D cy z0 11 (MQ below (QI D cy z0 (fun v h1 => Okh h1 ∧ Fx wr_k_X11_sheet h h1 ∧ ((-1) ≤ v ∧ v ≤ 9) ∧ (XInv h1 a0))) (List.map toV [.inr (.inr a0), .inl a1, .inl a2, .inl a3, .inl a4]).toArray s 50 3313 (Aof z0)) 70 [(0, .inr (.inr a0)), (1, .inl a1), (2, .inl a2), (3, .inl a3), (4, .inl a4), (5, .inl r56), (6, .inl r64), (7, .inr (.inr n155)), (8, .inl x174)] [] h175 50 3313 := by
                intro μ
                induction μ using Nat.strongRecOn with
                | ind μ ih177 =>
                  intro x174 h175 hm178 O179 F180 f181
                  refine g_iload C 8 rfl dX11_sheet_70 ?_
                  refine g_iload C 4 rfl dX11_sheet_72 ?_
                  refine g_icmp_gt C (iw f181 (by decide) (by decide)) (iw f154 (by decide) (by decide)) 123 (by decide) dX11_sheet_74 (fun q182 => ?_) (fun q183 => ?_)
                  · have f184 : (1 : Int) ≤ x174 ∧ x174 ≤ (8 : Int) := r_gt f181 f154 q182 (by decide) (by decide)
                    refine g_aload_n C rfl 0 rfl dX11_sheet_123 ?_
                    have e185 : Tg h175 a0 = 11 := (fxT F180 (fxT F173 e113))
                    have e186 : Tg h170 a0 = 11 := (fxT F173 e113)
                    have e187 : Rv h175 a0 11 = v15 := ((fxR F180 e186 rfl).trans ((fxR F173 e113 rfl).trans e118))
                    refine gf_R C fk_LandSurvey_55 rfl e185 e187 dX11_sheet_124 ?_
                    refine g_aload_n C rfl 0 rfl dX11_sheet_127 ?_
                    have e188 : Iv h175 a0 12 = v19 := ((fxI F180 e186 rfl).trans ((fxI F173 e113 rfl).trans e119))
                    refine gf_I C fk_LandSurvey_305 rfl e185 e188 dX11_sheet_128 ?_
                    refine g_aload C 7 rfl dX11_sheet_131 ?_
                    have e189 : Tg h175 v15 = 48106 := (fxT F180 (fxT F173 (fxT F106 (fxT F69 (fxT F61 t17)))))
                    have e190 : Tg h57 v15 = 48106 := (fxT F61 t17)
                    have e191 : Tg h65 v15 = 48106 := (fxT F69 e190)
                    have e192 : Tg h102 v15 = 48106 := (fxT F106 e191)
                    have e193 : Tg h170 v15 = 48106 := (fxT F173 e192)
                    have e194 : Ln h175 v15 = 10 := ((fxL F180 e193).trans ((fxL F173 e192).trans ((fxL F106 e191).trans ((fxL F69 e190).trans ((fxL F61 t17).trans l18)))))
                    have e198 : Tg h175 n155 = 8 := (fxT F180 (pT_T hh169))
                    refine g_aast (t := 6) C e189 rfl (by decide) rfl e198 rfl rfl e194 (ix f99 (by decide) (by decide)) dX11_sheet_133 (fun h196 hh195 => ?_)
                    have O197 := O179.pR e189 hh195 (okR_o ((rE_arr ar_48106 _).trans rE_48106_0) e198)
                    have e199 : Iv h196 a0 12 = v19 := ((pRI hh195).trans e188)
                    have p200 := (NN_fx F180 e193 ar_48106 rfl (NN_fx F173 e192 ar_48106 rfl p128))
                    have e201 : Tg h196 n155 = 8 := ((pRT hh195).trans e198)
                    have p202 : NN h196 v15 (v19 + 1) := NN_set p200 hh195 (nz_of O197 e201) (by omega) (by omega)
                    refine g_aload_n C rfl 0 rfl dX11_sheet_134 ?_
                    refine g_dup C rfl dX11_sheet_135 ?_
                    have e203 : Tg h196 a0 = 11 := ((pRT hh195).trans e185)
                    refine gf_I C fk_LandSurvey_305 rfl e203 e199 dX11_sheet_136 ?_
                    refine g_dup_x1 C rfl rfl dX11_sheet_139 ?_
                    refine g_iconst C dX11_sheet_140 ?_
                    have f204 : (1 : Int) ≤ (v19 + 1) ∧ (v19 + 1) ≤ (10 : Int) := ia_add f99 (il 1) (by decide) (by decide)
                    refine g_iadd C dX11_sheet_141 ?_
                    refine gp_I C fk_LandSurvey_305 pk_LandSurvey_12 rfl e203 (iw f204 (by decide) (by decide)) (nf_i _) dX11_sheet_142 (fun h206 hh205 => ?_)
                    have O207 := O197.pI e203 hh205 rI_11_12 (iw f204 (by decide) (by decide)) nofun
                    have e208 : Rv h206 a0 3 = v1 := ((pIR hh205).trans ((pR_n hh195 (ne_tag e185 e189 (by decide))).trans ((fxR F180 e186 rfl).trans ((fxR F173 e113 rfl).trans e114))))
                    have e209 : Iv h206 a0 4 = v5 := ((pI_j hh205 (by decide)).trans ((pRI hh195).trans ((fxI F180 e186 rfl).trans ((fxI F173 e113 rfl).trans e115))))
                    have e210 : Rv h206 a0 8 = v8 := ((pIR hh205).trans ((pR_n hh195 (ne_tag e185 e189 (by decide))).trans ((fxR F180 e186 rfl).trans ((fxR F173 e113 rfl).trans e116))))
                    have e211 : Iv h206 a0 9 = v12 := ((pI_j hh205 (by decide)).trans ((pRI hh195).trans ((fxI F180 e186 rfl).trans ((fxI F173 e113 rfl).trans e117))))
                    have e212 : Rv h206 a0 11 = v15 := ((pIR hh205).trans ((pR_n hh195 (ne_tag e185 e189 (by decide))).trans e187))
                    have e213 : Rv h206 a0 14 = v25 := ((pIR hh205).trans ((pR_n hh195 (ne_tag e185 e189 (by decide))).trans ((fxR F180 e186 rfl).trans ((fxR F173 e113 rfl).trans e120))))
                    have e214 : Iv h206 a0 15 = 1 := ((pI_j hh205 (by decide)).trans ((pRI hh195).trans ((fxI F180 e186 rfl).trans ((fxI F173 e113 rfl).trans p109))))
                    have e215 : Rv h206 a0 13 = v29 := ((pIR hh205).trans ((pR_n hh195 (ne_tag e185 e189 (by decide))).trans ((fxR F180 e186 rfl).trans ((fxR F173 e113 rfl).trans e121))))
                    have e216 : Rv h206 a0 6 = v32 := ((pIR hh205).trans ((pR_n hh195 (ne_tag e185 e189 (by decide))).trans ((fxR F180 e186 rfl).trans ((fxR F173 e113 rfl).trans e122))))
                    have e217 : Rv h206 a0 7 = v123 := ((pIR hh205).trans ((pR_n hh195 (ne_tag e185 e189 (by decide))).trans ((fxR F180 e186 rfl).trans ((fxR F173 e113 rfl).trans e124))))
                    have e218 : Tg h102 v25 = 49107 := (fxT F106 (fxT F69 (fxT F61 t27)))
                    have e219 : Tg h170 v25 = 49107 := (fxT F173 e218)
                    have e220 : Tg h175 v25 = 49107 := (fxT F180 e219)
                    have e221 : Tg h196 v25 = 49107 := ((pRT hh195).trans e220)
                    have p222 := (NN_fx ((Fx.rf (wr := [2212]) (h := h196)).pI e203 hh205 rfl) e221 ar_49107 rfl (NN_fx ((Fx.rf (wr := [9621200]) (h := h175)).pRa e189 ar_48106 hh195 rfl) e220 ar_49107 rfl (NN_fx F180 e219 ar_49107 rfl (NN_fx F173 e218 ar_49107 rfl p147))))
                    have e223 : Tg h170 v29 = 7 := (fxT F173 e142)
                    have e224 : Tg h175 v29 = 7 := (fxT F180 e223)
                    have e225 : Rv h206 v29 1 = v1 := ((pIR hh205).trans ((pR_n hh195 (ne_tag e224 e189 (by decide))).trans ((fxR F180 e223 rfl).trans ((fxR F173 e142 rfl).trans p130))))
                    have e226 : Rv h206 v29 2 = v8 := ((pIR hh205).trans ((pR_n hh195 (ne_tag e224 e189 (by decide))).trans ((fxR F180 e223 rfl).trans ((fxR F173 e142 rfl).trans p131))))
                    have e227 : Tg h196 v29 = 7 := ((pRT hh195).trans e224)
                    have e228 : Iv h206 v29 3 = v140 := ((pI_n hh205 (ne_tag e227 e203 (by decide))).trans ((pRI hh195).trans ((fxI F180 e223 rfl).trans ((fxI F173 e142 rfl).trans e141))))
                    have e229 : Iv h206 v29 4 = v144 := ((pI_n hh205 (ne_tag e227 e203 (by decide))).trans ((pRI hh195).trans ((fxI F180 e223 rfl).trans ((fxI F173 e142 rfl).trans e145))))
                    have e230 : Tg h102 v1 = 38104 := (fxT F106 (fxT F69 (fxT F61 t3)))
                    have e231 : Tg h170 v1 = 38104 := (fxT F173 e230)
                    have e232 : Tg h175 v1 = 38104 := (fxT F180 e231)
                    have e233 : Tg h196 v1 = 38104 := ((pRT hh195).trans e232)
                    have p234 := (SOK_fx O197 ((Fx.rf (wr := [2212]) (h := h196)).pI e203 hh205 rfl) e233 rfl rfl rfl (SOK_fx O179 ((Fx.rf (wr := [9621200]) (h := h175)).pRa e189 ar_48106 hh195 rfl) e232 rfl rfl rfl (SOK_fx O171 F180 e231 rfl rfl rfl (SOK_fx O105 F173 e230 rfl rfl rfl p126))))
                    have e235 : Tg h102 v8 = 39105 := (fxT F106 (fxT F69 (fxT F61 t10)))
                    have e236 : Tg h170 v8 = 39105 := (fxT F173 e235)
                    have e237 : Tg h175 v8 = 39105 := (fxT F180 e236)
                    have e238 : Tg h196 v8 = 39105 := ((pRT hh195).trans e237)
                    have p239 := (BOK_fx O197 ((Fx.rf (wr := [2212]) (h := h196)).pI e203 hh205 rfl) e238 rfl rfl rfl rfl (BOK_fx O179 ((Fx.rf (wr := [9621200]) (h := h175)).pRa e189 ar_48106 hh195 rfl) e237 rfl rfl rfl rfl (BOK_fx O171 F180 e236 rfl rfl rfl rfl (BOK_fx O105 F173 e235 rfl rfl rfl rfl p127))))
                    have e240 : Tg h196 v15 = 48106 := ((pRT hh195).trans e189)
                    have p241 := (NN_fx ((Fx.rf (wr := [2212]) (h := h196)).pI e203 hh205 rfl) e240 ar_48106 rfl p202)
                    have e242 : Tg h102 v32 = 5 := (fxT F106 (fxT F69 (fxT F61 t34)))
                    have e243 : Tg h170 v32 = 5 := (fxT F173 e242)
                    have e244 : Tg h175 v32 = 5 := (fxT F180 e243)
                    have e245 : Tg h196 v32 = 5 := ((pRT hh195).trans e244)
                    have p246 := (BkOk_fx O197 ((Fx.rf (wr := [2212]) (h := h196)).pI e203 hh205 rfl) e245 rfl rfl (BkOk_fx O179 ((Fx.rf (wr := [9621200]) (h := h175)).pRa e189 ar_48106 hh195 rfl) e244 rfl rfl (BkOk_fx O171 F180 e243 rfl rfl (BkOk_fx O105 F173 e242 rfl rfl p134))))
                    have e247 : Tg h170 v123 = 6 := (fxT F173 t125)
                    have e248 : Tg h175 v123 = 6 := (fxT F180 e247)
                    have e249 : Tg h196 v123 = 6 := ((pRT hh195).trans e248)
                    have p250 := (RulesOk_fx O197 ((Fx.rf (wr := [2212]) (h := h196)).pI e203 hh205 rfl) e249 rfl (RulesOk_fx O179 ((Fx.rf (wr := [9621200]) (h := h175)).pRa e189 ar_48106 hh195 rfl) e248 rfl (RulesOk_fx O171 F180 e247 rfl (RulesOk_fx O105 F173 t125 rfl p135))))
                    have p251 := (ND_fx ((Fx.rf (wr := [2212]) (h := h196)).pI e203 hh205 rfl) rfl rfl (ND_fx ((Fx.rf (wr := [9621200]) (h := h175)).pRa e189 ar_48106 hh195 rfl) rfl rfl (ND_fx F180 rfl rfl (ND_fx F173 rfl rfl p136))))
                    exact g_iret C hr rfl (iw f99 (by decide) (by decide)) ⟨O207, ((((((((Fx.rf (wr := wr_k_X11_sheet)).call F61 rfl).call F69 rfl).call F106 rfl).call F173 rfl).call F180 rfl).pRa e189 ar_48106 hh195 rfl).pI e203 hh205 rfl), (iw f99 (by decide) (by decide)), (by unfold XInv; rw [e208, e209, e210, e211, e212, (pI_e hh205), e214, e213, e215, e216, e217, e225, e226, e228, e229]; exact ⟨p234, p239, p241, (fun _ => p222), rfl, rfl, (by omega), (by omega), p246, p250, p251⟩)⟩ (by decide) (by decide) dX11_sheet_145
                  · have f252 : (0 : Int) ≤ x174 ∧ x174 ≤ (7 : Int) := r_le f181 f154 q183 (by decide) (by decide)
                    refine g_iload_n C rfl 1 rfl dX11_sheet_77 ?_
                    refine g_istore C [(9, .inl a1), (0, .inr (.inr a0)), (1, .inl a1), (2, .inl a2), (3, .inl a3), (4, .inl a4), (5, .inl r56), (6, .inl r64), (7, .inr (.inr n155)), (8, .inl x174)] (by decide) rfl dX11_sheet_78 ?_
                    refine GW.sub [1, 2, 3, 4, 5, 6, 7, 8, 9, 0] rfl ?_
                    -- loop at 80
                    have L255 : ∀ (μ : Nat) (x253 : Int) (h254 : Hp), (12 - x253).toNat = μ → Okh h254 → Fx [8820000] h175 h254 → ((0 : Int) ≤ x253 ∧ x253 ≤ (12 : Int)) → GW p l e (rmm 11 300 50 3313) s m (List.map toV [.inr (.inr a0), .inl a1, .inl a2, .inl a3, .inl a4]).toArray below meth c D cy z0 11 (MQ below (QI D cy z0 (fun v h1 => Okh h1 ∧ Fx wr_k_X11_sheet h h1 ∧ ((-1) ≤ v ∧ v ≤ 9) ∧ (XInv h1 a0))) (List.map toV [.inr (.inr a0), .inl a1, .inl a2, .inl a3, .inl a4]).toArray s 50 3313 (Aof z0)) 80 [(0, .inr (.inr a0)), (1, .inl a1), (2, .inl a2), (3, .inl a3), (4, .inl a4), (5, .inl r56), (6, .inl r64), (7, .inr (.inr n155)), (8, .inl x174), (9, .inl x253)] [] h254 50 3313 := by
                      intro μ
                      induction μ using Nat.strongRecOn with
                      | ind μ ih256 =>
                        intro x253 h254 hm257 O258 F259 f260
                        refine g_iload C 9 rfl dX11_sheet_80 ?_
                        refine g_iload_n C rfl 3 rfl dX11_sheet_82 ?_
                        refine g_icmp_gt C (iw f260 (by decide) (by decide)) (iw f153 (by decide) (by decide)) 117 (by decide) dX11_sheet_83 (fun q261 => ?_) (fun q262 => ?_)
                        · have f263 : (1 : Int) ≤ x253 ∧ x253 ≤ (12 : Int) := r_gt f260 f153 q261 (by decide) (by decide)
                          have f264 : (1 : Int) ≤ (x174 + 1) ∧ (x174 + 1) ≤ (8 : Int) := ia_add f252 (il 1) (by decide) (by decide)
                          refine g_iinc C [(8, .inl (x174 + 1)), (0, .inr (.inr a0)), (1, .inl a1), (2, .inl a2), (3, .inl a3), (4, .inl a4), (5, .inl r56), (6, .inl r64), (7, .inr (.inr n155)), (9, .inl x253)] 8 rfl (by decide) rfl dX11_sheet_117 ?_
                          refine g_goto C 70 (by decide) dX11_sheet_120 ?_
                          refine GW.sub [1, 2, 3, 4, 5, 6, 7, 8, 0] rfl ?_
                          exact ih177 _ (by omega) (x174 + 1) h254 rfl O258 (F180.call F259 rfl) (iw f264 (by decide) (by decide))
                        · have f265 : (0 : Int) ≤ x253 ∧ x253 ≤ (11 : Int) := r_le f260 f153 q262 (by decide) (by decide)
                          refine g_bipush C (by decide) dX11_sheet_86 ?_
                          refine g_iload C 8 rfl dX11_sheet_88 ?_
                          have f266 : (0 : Int) ≤ (12 * x174) ∧ (12 * x174) ≤ (84 : Int) := ia_mul (by decide) f252 (by decide) (by decide)
                          refine g_imul C dX11_sheet_90 ?_
                          refine g_iload C 9 rfl dX11_sheet_91 ?_
                          have f267 : (0 : Int) ≤ ((12 * x174) + x253) ∧ ((12 * x174) + x253) ≤ (95 : Int) := ia_add f266 f265 (by decide) (by decide)
                          refine g_iadd C dX11_sheet_93 ?_
                          refine g_istore C [(10, .inl ((12 * x174) + x253)), (0, .inr (.inr a0)), (1, .inl a1), (2, .inl a2), (3, .inl a3), (4, .inl a4), (5, .inl r56), (6, .inl r64), (7, .inr (.inr n155)), (8, .inl x174), (9, .inl x253)] (by decide) rfl dX11_sheet_94 ?_
                          refine g_aload C 8 rfl dX11_sheet_96 ?_
                          have e268 : Tg h254 n155 = 8 := (fxT F259 (fxT F180 (pT_T hh169)))
                          obtain ⟨v269, e270⟩ : ∃ z, Rv h254 n155 0 = z := ⟨_, rfl⟩
                          have t271 := ok_R O258 e268 rE_8_0 e270
                          have l272 := ok_L O258 e268 rE_8_0 e270
                          refine gf_R C fk_LandSurvey_309 rfl e268 e270 dX11_sheet_98 ?_
                          refine g_iload C 0 rfl dX11_sheet_101 ?_
                          refine g_aload_n C rfl 1 rfl dX11_sheet_103 ?_
                          refine g_iload C 0 rfl dX11_sheet_104 ?_
                          refine g_iconst C dX11_sheet_106 ?_
                          have e273 : Tg h254 a0 = 11 := (fxT F259 (fxT F180 (fxT F173 e113)))
                          have e274 : Tg h170 a0 = 11 := (fxT F173 e113)
                          have e275 : Tg h175 a0 = 11 := (fxT F180 e274)
                          have e276 : Iv h254 a0 15 = 1 := ((fxI F259 e275 rfl).trans ((fxI F180 e274 rfl).trans ((fxI F173 e113 rfl).trans p109)))
                          have p277 := (XInv_fx O179 F259 e275 rfl (XInv_fx O171 F180 e274 rfl (XInv_fx O105 F173 e113 rfl p108)))
                          refine g_callI (st := [.inl ((12 * x174) + x253), .inr (.inr v269)]) (gc_V C lk_LandSurvey_256 (k_X11_mayLieByAll l D cy w z0 O258 e273 f267 (iw (il 0) (by decide) (by decide)) e276 p277) e273 rfl rfl rfl ⟨by decide, by decide⟩ (Nat.le_of_ble_eq_true rfl) dX11_sheet_107 ⟨(by decide), (by decide)⟩) (fun r278 h279 f281 K280 => ?_)
                          obtain ⟨O282, F283, f284⟩ := K280
                          have e285 : Tg h279 v269 = 44100 := (fxT F283 t271)
                          have e286 : Ln h279 v269 = 96 := ((fxL F283 t271).trans l272)
                          refine g_iast C e285 rfl e286 (ix f267 (by decide) (by decide)) f284 dX11_sheet_110 (fun h288 hh287 => ?_)
                          have O289 := O282.pIa e285 ar_44100 hh287 rI_44100_0 f284 nofun
                          have f290 : (1 : Int) ≤ (x253 + 1) ∧ (x253 + 1) ≤ (12 : Int) := ia_add f265 (il 1) (by decide) (by decide)
                          refine g_iinc C [(9, .inl (x253 + 1)), (10, .inl ((12 * x174) + x253)), (0, .inr (.inr a0)), (1, .inl a1), (2, .inl a2), (3, .inl a3), (4, .inl a4), (5, .inl r56), (6, .inl r64), (7, .inr (.inr n155)), (8, .inl x174)] 10 rfl (by decide) rfl dX11_sheet_111 ?_
                          refine g_goto C 80 (by decide) dX11_sheet_114 ?_
                          refine GW.sub [2, 3, 4, 5, 6, 7, 8, 9, 10, 0] rfl ?_
                          exact ih256 _ (by omega) (x253 + 1) h288 rfl O289 ((F259.call F283 rfl).pIa e285 ar_44100 hh287 rfl) (iw f290 (by decide) (by decide))
                    exact L255 _ a1 h175 rfl O179 Fx.rf (iw f151 (by decide) (by decide))
              exact L176 _ a2 h170 rfl O171 Fx.rf (iw f152 (by decide) (by decide))
            · have f291 : (0 : Int) ≤ r101 ∧ r101 ≤ (0 : Int) := ii f107 (r_eq (il 0) q149) (by decide) (by decide)
              refine g_iconst C dX11_sheet_56 ?_
              exact g_iret C hr rfl (iw (il (-1)) (by decide) (by decide)) ⟨O105, ((((Fx.rf (wr := wr_k_X11_sheet)).call F61 rfl).call F69 rfl).call F106 rfl), (iw (il (-1)) (by decide) (by decide)), p108⟩ (by decide) (by decide) dX11_sheet_57
        · have f292 : (-2147483648 : Int) ≤ a4 ∧ a4 ≤ (2147483646 : Int) := r_lt fa4 fa2 q91 (by decide) (by decide)
          have f293 : (-2147483647 : Int) ≤ a2 ∧ a2 ≤ (2147483647 : Int) := r_gt fa2 fa4 q91 (by decide) (by decide)
          refine g_iconst C dX11_sheet_38 ?_
          have e294 : Tg h57 a0 = 11 := (fxT F61 ta0)
          have p295 := (XInv_fx O60 F69 e294 rfl (XInv_fx O F61 ta0 rfl P_XInv))
          exact g_iret C hr rfl (iw (il (-1)) (by decide) (by decide)) ⟨O68, (((Fx.rf (wr := wr_k_X11_sheet)).call F61 rfl).call F69 rfl), (iw (il (-1)) (by decide) (by decide)), p295⟩ (by decide) (by decide) dX11_sheet_39
def wr_k_X3_takeSigns : List Nat := [801, 3820600]
set_option maxRecDepth 100000 in
set_option maxHeartbeats 4000000 in
theorem k_X3_takeSigns (l : Launch) (D : va_G) (cy : Nat → ClassId) (w : Nat → Nat) (z0 : Nat)  {h : Hp} {a0 : Nat} {a1 : Int}  (O : Okh h) (ta0 : Tg h a0 = 4) (fa1 : (-9223372036854775808) ≤ a1 ∧ a1 ≤ 9223372036854775807) : MV l D cy w z0 yX3_takeSigns cX3_takeSigns 6 none 0 0 0 0 [.inr (.inr a0), .inr (.inl a1)] h (fun h1 => Okh h1 ∧ Fx wr_k_X3_takeSigns h h1) := by
  refine hm_go (by decide +kernel) (Nat.le_of_ble_eq_true rfl) (fun p e s m below meth c C hr hn => ?_)
  refine g_bipush C (by decide) dX3_takeSigns_0 ?_
  refine g_istore_n C [(3, .inl 56), (0, .inr (.inr a0)), (1, .inr (.inl a1))] rfl (by decide) rfl dX3_takeSigns_2 ?_
  refine GW.sub [1, 2, 0] rfl ?_
  -- loop at 3
  have L3 : ∀ (μ : Nat) (x1 : Int) (h2 : Hp), (x1 - (-8)).toNat = μ → Okh h2 → Fx [801, 3820600] h h2 → ((-8 : Int) ≤ x1 ∧ x1 ≤ (56 : Int)) → GW p l e (rmm 0 0 0 0) s m (List.map toV [.inr (.inr a0), .inr (.inl a1)]).toArray below meth c D cy z0 6 (MQ below (QV D cy z0 (fun h1 => Okh h1 ∧ Fx wr_k_X3_takeSigns h h1)) (List.map toV [.inr (.inr a0), .inr (.inl a1)]).toArray s 0 0 (Aof z0)) 3 [(0, .inr (.inr a0)), (1, .inr (.inl a1)), (3, .inl x1)] [] h2 0 0 := by
    intro μ
    induction μ using Nat.strongRecOn with
    | ind μ ih4 =>
      intro x1 h2 hm5 O6 F7 f8
      refine g_iload_n C rfl 2 rfl dX3_takeSigns_3 ?_
      refine g_if_lt C (iw f8 (by decide) (by decide)) 88 (by decide) dX3_takeSigns_4 (fun q9 => ?_) (fun q10 => ?_)
      · have f11 : (-8 : Int) ≤ x1 ∧ x1 ≤ (-1 : Int) := r_lt f8 (il 0) q9 (by decide) (by decide)
        exact g_vret C hr ⟨O6, ((Fx.rf (wr := wr_k_X3_takeSigns)).call F7 rfl)⟩ (by decide) (by decide) dX3_takeSigns_88
      · have f12 : (0 : Int) ≤ x1 ∧ x1 ≤ (56 : Int) := r_ge f8 (il 0) q10 (by decide) (by decide)
        refine g_lload_n C rfl 1 rfl dX3_takeSigns_7 ?_
        refine g_iload_n C rfl 2 rfl dX3_takeSigns_8 ?_
        refine g_lushr C dX3_takeSigns_9 ?_
        have f13 : (-9223372036854775808 : Int) ≤ (lUshr a1 x1) ∧ (lUshr a1 x1) ≤ (9223372036854775807 : Int) := inL_of _
        refine g_l2i C dX3_takeSigns_10 ?_
        have f14 : (-2147483648 : Int) ≤ (l2w (lUshr a1 x1)) ∧ (l2w (lUshr a1 x1)) ≤ (2147483647 : Int) := inR_of _
        refine g_sipush C (by decide) dX3_takeSigns_11 ?_
        refine g_iand C dX3_takeSigns_14 ?_
        have f15 : (0 : Int) ≤ (bAnd (l2w (lUshr a1 x1)) 255) ∧ (bAnd (l2w (lUshr a1 x1)) 255) ≤ (255 : Int) := bAnd_255 _
        refine g_istore C [(4, .inl (bAnd (l2w (lUshr a1 x1)) 255)), (0, .inr (.inr a0)), (1, .inr (.inl a1)), (3, .inl x1)] (by decide) rfl dX3_takeSigns_15 ?_
        refine g_iload C 0 rfl dX3_takeSigns_17 ?_
        refine g_bipush C (by decide) dX3_takeSigns_19 ?_
        refine g_icmp_eq C (iw f15 (by decide) (by decide)) (iw (il 10) (by decide) (by decide)) 38 (by decide) dX3_takeSigns_21 (fun q16 => ?_) (fun q17 => ?_)
        · have f18 : (10 : Int) ≤ (bAnd (l2w (lUshr a1 x1)) 255) ∧ (bAnd (l2w (lUshr a1 x1)) 255) ≤ (10 : Int) := ii f15 (r_eq (il 10) q16) (by decide) (by decide)
          refine g_iconst C dX3_takeSigns_38 ?_
          refine g_goto C 43 (by decide) dX3_takeSigns_39 ?_
          refine g_istore C [(5, .inl 1), (4, .inl (bAnd (l2w (lUshr a1 x1)) 255)), (0, .inr (.inr a0)), (1, .inr (.inl a1)), (3, .inl x1)] (by decide) rfl dX3_takeSigns_43 ?_
          refine g_iload C 0 rfl dX3_takeSigns_45 ?_
          refine g_if_eq C (iw (il 1) (by decide) (by decide)) 82 (by decide) dX3_takeSigns_47 (fun q19 => ?_) (fun q20 => ?_)
          · exact (no_eq (il 1) (il 0) q19 (by decide)).elim
          · refine g_aload_n C rfl 2 rfl dX3_takeSigns_50 ?_
            have e21 : Tg h2 a0 = 4 := (fxT F7 ta0)
            obtain ⟨v22, e23⟩ : ∃ z, Iv h2 a0 1 = z := ⟨_, rfl⟩
            have f24 := ok_I O6 e21 rI_4_1 e23
            refine gf_I C fk_LandSurvey_Reader_19 rfl e21 e23 dX3_takeSigns_51 ?_
            refine g_sipush C (by decide) dX3_takeSigns_54 ?_
            refine g_icmp_ge C (iw f24 (by decide) (by decide)) (iw (il 1500) (by decide) (by decide)) 82 (by decide) dX3_takeSigns_57 (fun q25 => ?_) (fun q26 => ?_)
            · have f27 : (1500 : Int) ≤ v22 ∧ v22 ≤ (1500 : Int) := r_ge f24 (il 1500) q25 (by decide) (by decide)
              have f28 : (-8 : Int) ≤ (x1 + (-8)) ∧ (x1 + (-8)) ≤ (48 : Int) := ia_add f12 (il (-8)) (by decide) (by decide)
              refine g_iinc C [(3, .inl (x1 + (-8))), (5, .inl 1), (4, .inl (bAnd (l2w (lUshr a1 x1)) 255)), (0, .inr (.inr a0)), (1, .inr (.inl a1))] 4 rfl (by decide) rfl dX3_takeSigns_82 ?_
              refine g_goto C 3 (by decide) dX3_takeSigns_85 ?_
              refine GW.sub [3, 4, 0] rfl ?_
              exact ih4 _ (by omega) (x1 + (-8)) h2 rfl O6 F7 (iw f28 (by decide) (by decide))
            · have f29 : (0 : Int) ≤ v22 ∧ v22 ≤ (1499 : Int) := r_lt f24 (il 1500) q26 (by decide) (by decide)
              refine g_aload_n C rfl 2 rfl dX3_takeSigns_60 ?_
              obtain ⟨v30, e31⟩ : ∃ z, Rv h2 a0 0 = z := ⟨_, rfl⟩
              have t32 := ok_R O6 e21 rE_4_0 e31
              have l33 := ok_L O6 e21 rE_4_0 e31
              refine gf_R C fk_LandSurvey_Reader_9 rfl e21 e31 dX3_takeSigns_61 ?_
              refine g_aload_n C rfl 2 rfl dX3_takeSigns_64 ?_
              refine gf_I C fk_LandSurvey_Reader_19 rfl e21 e23 dX3_takeSigns_65 ?_
              refine g_iload C 1 rfl dX3_takeSigns_68 ?_
              refine g_i2c C dX3_takeSigns_70 ?_
              have f34 : (10 : Int) ≤ (iC (bAnd (l2w (lUshr a1 x1)) 255)) ∧ (iC (bAnd (l2w (lUshr a1 x1)) 255)) ≤ (10 : Int) := iC_in f18 (by decide) (by decide)
              refine g_cast C t32 rfl l33 (ix f29 (by decide) (by decide)) (iw f34 (by decide) (by decide)) dX3_takeSigns_71 (fun h36 hh35 => ?_)
              have O37 := O6.pIa t32 ar_19103 hh35 rI_19103_0 (iw f34 (by decide) (by decide)) nofun
              refine g_aload_n C rfl 2 rfl dX3_takeSigns_72 ?_
              refine g_dup C rfl dX3_takeSigns_73 ?_
              have e38 : Tg h36 a0 = 4 := ((pIT hh35).trans e21)
              have e39 : Iv h36 a0 1 = v22 := ((pI_n hh35 (ne_tag e21 t32 (by decide))).trans e23)
              refine gf_I C fk_LandSurvey_Reader_19 rfl e38 e39 dX3_takeSigns_74 ?_
              refine g_iconst C dX3_takeSigns_77 ?_
              have f40 : (1 : Int) ≤ (v22 + 1) ∧ (v22 + 1) ≤ (1500 : Int) := ia_add f29 (il 1) (by decide) (by decide)
              refine g_iadd C dX3_takeSigns_78 ?_
              refine gp_I C fk_LandSurvey_Reader_19 pk_LandSurvey_Reader_1 rfl e38 (iw f40 (by decide) (by decide)) (nf_i _) dX3_takeSigns_79 (fun h42 hh41 => ?_)
              have O43 := O37.pI e38 hh41 rI_4_1 (iw f40 (by decide) (by decide)) nofun
              have f44 : (-8 : Int) ≤ (x1 + (-8)) ∧ (x1 + (-8)) ≤ (48 : Int) := ia_add f12 (il (-8)) (by decide) (by decide)
              refine g_iinc C [(3, .inl (x1 + (-8))), (5, .inl 1), (4, .inl (bAnd (l2w (lUshr a1 x1)) 255)), (0, .inr (.inr a0)), (1, .inr (.inl a1))] 4 rfl (by decide) rfl dX3_takeSigns_82 ?_
              refine g_goto C 3 (by decide) dX3_takeSigns_85 ?_
              refine GW.sub [3, 4, 0] rfl ?_
              exact ih4 _ (by omega) (x1 + (-8)) h42 rfl O43 ((F7.pIa t32 ar_19103 hh35 rfl).pI e38 hh41 rfl) (iw f44 (by decide) (by decide))
        · refine g_iload C 0 rfl dX3_takeSigns_24 ?_
          refine g_bipush C (by decide) dX3_takeSigns_26 ?_
          refine g_icmp_lt C (iw f15 (by decide) (by decide)) (iw (il 32) (by decide) (by decide)) 42 (by decide) dX3_takeSigns_28 (fun q45 => ?_) (fun q46 => ?_)
          · have f47 : (0 : Int) ≤ (bAnd (l2w (lUshr a1 x1)) 255) ∧ (bAnd (l2w (lUshr a1 x1)) 255) ≤ (31 : Int) := r_lt f15 (il 32) q45 (by decide) (by decide)
            refine g_iconst C dX3_takeSigns_42 ?_
            refine g_istore C [(5, .inl 0), (4, .inl (bAnd (l2w (lUshr a1 x1)) 255)), (0, .inr (.inr a0)), (1, .inr (.inl a1)), (3, .inl x1)] (by decide) rfl dX3_takeSigns_43 ?_
            refine g_iload C 0 rfl dX3_takeSigns_45 ?_
            refine g_if_eq C (iw (il 0) (by decide) (by decide)) 82 (by decide) dX3_takeSigns_47 (fun q48 => ?_) (fun q49 => ?_)
            · have f50 : (-8 : Int) ≤ (x1 + (-8)) ∧ (x1 + (-8)) ≤ (48 : Int) := ia_add f12 (il (-8)) (by decide) (by decide)
              refine g_iinc C [(3, .inl (x1 + (-8))), (5, .inl 0), (4, .inl (bAnd (l2w (lUshr a1 x1)) 255)), (0, .inr (.inr a0)), (1, .inr (.inl a1))] 4 rfl (by decide) rfl dX3_takeSigns_82 ?_
              refine g_goto C 3 (by decide) dX3_takeSigns_85 ?_
              refine GW.sub [3, 4, 0] rfl ?_
              exact ih4 _ (by omega) (x1 + (-8)) h2 rfl O6 F7 (iw f50 (by decide) (by decide))
            · exact (no_ne (il 0) (il 0) q49 (by decide)).elim
          · have f51 : (32 : Int) ≤ (bAnd (l2w (lUshr a1 x1)) 255) ∧ (bAnd (l2w (lUshr a1 x1)) 255) ≤ (255 : Int) := r_ge f15 (il 32) q46 (by decide) (by decide)
            refine g_iload C 0 rfl dX3_takeSigns_31 ?_
            refine g_bipush C (by decide) dX3_takeSigns_33 ?_
            refine g_icmp_gt C (iw f51 (by decide) (by decide)) (iw (il 126) (by decide) (by decide)) 42 (by decide) dX3_takeSigns_35 (fun q52 => ?_) (fun q53 => ?_)
            · have f54 : (127 : Int) ≤ (bAnd (l2w (lUshr a1 x1)) 255) ∧ (bAnd (l2w (lUshr a1 x1)) 255) ≤ (255 : Int) := r_gt f51 (il 126) q52 (by decide) (by decide)
              refine g_iconst C dX3_takeSigns_42 ?_
              refine g_istore C [(5, .inl 0), (4, .inl (bAnd (l2w (lUshr a1 x1)) 255)), (0, .inr (.inr a0)), (1, .inr (.inl a1)), (3, .inl x1)] (by decide) rfl dX3_takeSigns_43 ?_
              refine g_iload C 0 rfl dX3_takeSigns_45 ?_
              refine g_if_eq C (iw (il 0) (by decide) (by decide)) 82 (by decide) dX3_takeSigns_47 (fun q55 => ?_) (fun q56 => ?_)
              · have f57 : (-8 : Int) ≤ (x1 + (-8)) ∧ (x1 + (-8)) ≤ (48 : Int) := ia_add f12 (il (-8)) (by decide) (by decide)
                refine g_iinc C [(3, .inl (x1 + (-8))), (5, .inl 0), (4, .inl (bAnd (l2w (lUshr a1 x1)) 255)), (0, .inr (.inr a0)), (1, .inr (.inl a1))] 4 rfl (by decide) rfl dX3_takeSigns_82 ?_
                refine g_goto C 3 (by decide) dX3_takeSigns_85 ?_
                refine GW.sub [3, 4, 0] rfl ?_
                exact ih4 _ (by omega) (x1 + (-8)) h2 rfl O6 F7 (iw f57 (by decide) (by decide))
              · exact (no_ne (il 0) (il 0) q56 (by decide)).elim
            · have f58 : (32 : Int) ≤ (bAnd (l2w (lUshr a1 x1)) 255) ∧ (bAnd (l2w (lUshr a1 x1)) 255) ≤ (126 : Int) := r_le f51 (il 126) q53 (by decide) (by decide)
              refine g_iconst C dX3_takeSigns_38 ?_
              refine g_goto C 43 (by decide) dX3_takeSigns_39 ?_
              refine g_istore C [(5, .inl 1), (4, .inl (bAnd (l2w (lUshr a1 x1)) 255)), (0, .inr (.inr a0)), (1, .inr (.inl a1)), (3, .inl x1)] (by decide) rfl dX3_takeSigns_43 ?_
              refine g_iload C 0 rfl dX3_takeSigns_45 ?_
              refine g_if_eq C (iw (il 1) (by decide) (by decide)) 82 (by decide) dX3_takeSigns_47 (fun q59 => ?_) (fun q60 => ?_)
              · exact (no_eq (il 1) (il 0) q59 (by decide)).elim
              · refine g_aload_n C rfl 2 rfl dX3_takeSigns_50 ?_
                have e61 : Tg h2 a0 = 4 := (fxT F7 ta0)
                obtain ⟨v62, e63⟩ : ∃ z, Iv h2 a0 1 = z := ⟨_, rfl⟩
                have f64 := ok_I O6 e61 rI_4_1 e63
                refine gf_I C fk_LandSurvey_Reader_19 rfl e61 e63 dX3_takeSigns_51 ?_
                refine g_sipush C (by decide) dX3_takeSigns_54 ?_
                refine g_icmp_ge C (iw f64 (by decide) (by decide)) (iw (il 1500) (by decide) (by decide)) 82 (by decide) dX3_takeSigns_57 (fun q65 => ?_) (fun q66 => ?_)
                · have f67 : (1500 : Int) ≤ v62 ∧ v62 ≤ (1500 : Int) := r_ge f64 (il 1500) q65 (by decide) (by decide)
                  have f68 : (-8 : Int) ≤ (x1 + (-8)) ∧ (x1 + (-8)) ≤ (48 : Int) := ia_add f12 (il (-8)) (by decide) (by decide)
                  refine g_iinc C [(3, .inl (x1 + (-8))), (5, .inl 1), (4, .inl (bAnd (l2w (lUshr a1 x1)) 255)), (0, .inr (.inr a0)), (1, .inr (.inl a1))] 4 rfl (by decide) rfl dX3_takeSigns_82 ?_
                  refine g_goto C 3 (by decide) dX3_takeSigns_85 ?_
                  refine GW.sub [3, 4, 0] rfl ?_
                  exact ih4 _ (by omega) (x1 + (-8)) h2 rfl O6 F7 (iw f68 (by decide) (by decide))
                · have f69 : (0 : Int) ≤ v62 ∧ v62 ≤ (1499 : Int) := r_lt f64 (il 1500) q66 (by decide) (by decide)
                  refine g_aload_n C rfl 2 rfl dX3_takeSigns_60 ?_
                  obtain ⟨v70, e71⟩ : ∃ z, Rv h2 a0 0 = z := ⟨_, rfl⟩
                  have t72 := ok_R O6 e61 rE_4_0 e71
                  have l73 := ok_L O6 e61 rE_4_0 e71
                  refine gf_R C fk_LandSurvey_Reader_9 rfl e61 e71 dX3_takeSigns_61 ?_
                  refine g_aload_n C rfl 2 rfl dX3_takeSigns_64 ?_
                  refine gf_I C fk_LandSurvey_Reader_19 rfl e61 e63 dX3_takeSigns_65 ?_
                  refine g_iload C 1 rfl dX3_takeSigns_68 ?_
                  refine g_i2c C dX3_takeSigns_70 ?_
                  have f74 : (32 : Int) ≤ (iC (bAnd (l2w (lUshr a1 x1)) 255)) ∧ (iC (bAnd (l2w (lUshr a1 x1)) 255)) ≤ (126 : Int) := iC_in f58 (by decide) (by decide)
                  refine g_cast C t72 rfl l73 (ix f69 (by decide) (by decide)) (iw f74 (by decide) (by decide)) dX3_takeSigns_71 (fun h76 hh75 => ?_)
                  have O77 := O6.pIa t72 ar_19103 hh75 rI_19103_0 (iw f74 (by decide) (by decide)) nofun
                  refine g_aload_n C rfl 2 rfl dX3_takeSigns_72 ?_
                  refine g_dup C rfl dX3_takeSigns_73 ?_
                  have e78 : Tg h76 a0 = 4 := ((pIT hh75).trans e61)
                  have e79 : Iv h76 a0 1 = v62 := ((pI_n hh75 (ne_tag e61 t72 (by decide))).trans e63)
                  refine gf_I C fk_LandSurvey_Reader_19 rfl e78 e79 dX3_takeSigns_74 ?_
                  refine g_iconst C dX3_takeSigns_77 ?_
                  have f80 : (1 : Int) ≤ (v62 + 1) ∧ (v62 + 1) ≤ (1500 : Int) := ia_add f69 (il 1) (by decide) (by decide)
                  refine g_iadd C dX3_takeSigns_78 ?_
                  refine gp_I C fk_LandSurvey_Reader_19 pk_LandSurvey_Reader_1 rfl e78 (iw f80 (by decide) (by decide)) (nf_i _) dX3_takeSigns_79 (fun h82 hh81 => ?_)
                  have O83 := O77.pI e78 hh81 rI_4_1 (iw f80 (by decide) (by decide)) nofun
                  have f84 : (-8 : Int) ≤ (x1 + (-8)) ∧ (x1 + (-8)) ≤ (48 : Int) := ia_add f12 (il (-8)) (by decide) (by decide)
                  refine g_iinc C [(3, .inl (x1 + (-8))), (5, .inl 1), (4, .inl (bAnd (l2w (lUshr a1 x1)) 255)), (0, .inr (.inr a0)), (1, .inr (.inl a1))] 4 rfl (by decide) rfl dX3_takeSigns_82 ?_
                  refine g_goto C 3 (by decide) dX3_takeSigns_85 ?_
                  refine GW.sub [3, 4, 0] rfl ?_
                  exact ih4 _ (by omega) (x1 + (-8)) h82 rfl O83 ((F7.pIa t72 ar_19103 hh75 rfl).pI e78 hh81 rfl) (iw f84 (by decide) (by decide))
  exact L3 _ 56 h rfl O Fx.rf (iw (il 56) (by decide) (by decide))
def wr_k_X11_feed : List Nat := [801, 3820600]
set_option maxRecDepth 100000 in
set_option maxHeartbeats 4000000 in
theorem k_X11_feed (l : Launch) (D : va_G) (cy : Nat → ClassId) (w : Nat → Nat) (z0 : Nat)  {h : Hp} {a0 : Nat} {a1 : Int} {a2 : Int} {a3 : Int}  (O : Okh h) (ta0 : Tg h a0 = 11) (fa1 : (-9223372036854775808) ≤ a1 ∧ a1 ≤ 9223372036854775807) (fa2 : (-9223372036854775808) ≤ a2 ∧ a2 ≤ 9223372036854775807) (fa3 : (-9223372036854775808) ≤ a3 ∧ a3 ≤ 9223372036854775807) : MI l D cy w z0 yX11_feed cX11_feed 7 (some .int) 1 25 0 0 [.inr (.inr a0), .inr (.inl a1), .inr (.inl a2), .inr (.inl a3)] h (fun v h1 => Okh h1 ∧ Fx wr_k_X11_feed h h1 ∧ (0 ≤ v ∧ v ≤ 1500)) := by
  refine hm_go (by decide +kernel) (Nat.le_of_ble_eq_true rfl) (fun p e s m below meth c C hr hn => ?_)
  refine g_aload_n C rfl 0 rfl dX11_feed_0 ?_
  obtain ⟨v1, e2⟩ : ∃ z, Rv h a0 5 = z := ⟨_, rfl⟩
  have t3 := ok_R O ta0 rE_11_5 e2
  refine gf_R C fk_LandSurvey_29 rfl ta0 e2 dX11_feed_1 ?_
  refine g_lload_n C rfl 1 rfl dX11_feed_4 ?_
  refine g_callV (st := []) (gc_V C lk_LandSurvey_139 (k_X3_takeSigns l D cy w z0 O t3 fa1) t3 rfl rfl rfl ⟨by decide, by decide⟩ (Nat.le_of_ble_eq_true rfl) dX11_feed_5 ⟨(by decide), (by decide)⟩) (fun h5 K6 => ?_)
  obtain ⟨O8, F9⟩ := K6
  refine g_aload_n C rfl 0 rfl dX11_feed_8 ?_
  have e10 : Tg h5 a0 = 11 := (fxT F9 ta0)
  have e11 : Rv h5 a0 5 = v1 := ((fxR F9 ta0 rfl).trans e2)
  refine gf_R C fk_LandSurvey_29 rfl e10 e11 dX11_feed_9 ?_
  refine g_lload_n C rfl 2 rfl dX11_feed_12 ?_
  have e12 : Tg h5 v1 = 4 := (fxT F9 t3)
  refine g_callV (st := []) (gc_V C lk_LandSurvey_139 (k_X3_takeSigns l D cy w z0 O8 e12 fa2) e12 rfl rfl rfl ⟨by decide, by decide⟩ (Nat.le_of_ble_eq_true rfl) dX11_feed_13 ⟨(by decide), (by decide)⟩) (fun h14 K15 => ?_)
  obtain ⟨O17, F18⟩ := K15
  refine g_aload_n C rfl 0 rfl dX11_feed_16 ?_
  have e19 : Tg h14 a0 = 11 := (fxT F18 e10)
  have e20 : Rv h14 a0 5 = v1 := ((fxR F18 e10 rfl).trans e11)
  refine gf_R C fk_LandSurvey_29 rfl e19 e20 dX11_feed_17 ?_
  refine g_lload C 3 rfl dX11_feed_20 ?_
  have e21 : Tg h14 v1 = 4 := (fxT F18 e12)
  refine g_callV (st := []) (gc_V C lk_LandSurvey_139 (k_X3_takeSigns l D cy w z0 O17 e21 fa3) e21 rfl rfl rfl ⟨by decide, by decide⟩ (Nat.le_of_ble_eq_true rfl) dX11_feed_22 ⟨(by decide), (by decide)⟩) (fun h23 K24 => ?_)
  obtain ⟨O26, F27⟩ := K24
  refine g_aload_n C rfl 0 rfl dX11_feed_25 ?_
  have e28 : Tg h23 a0 = 11 := (fxT F27 e19)
  have e29 : Rv h23 a0 5 = v1 := ((fxR F27 e19 rfl).trans e20)
  refine gf_R C fk_LandSurvey_29 rfl e28 e29 dX11_feed_26 ?_
  have e30 : Tg h23 v1 = 4 := (fxT F27 e21)
  obtain ⟨v31, e32⟩ : ∃ z, Iv h23 v1 1 = z := ⟨_, rfl⟩
  have f33 := ok_I O26 e30 rI_4_1 e32
  refine gf_I C fk_LandSurvey_143 rfl e30 e32 dX11_feed_29 ?_
  exact g_iret C hr rfl (iw f33 (by decide) (by decide)) ⟨O26, ((((Fx.rf (wr := wr_k_X11_feed)).call F9 rfl).call F18 rfl).call F27 rfl), f33⟩ (by decide) (by decide) dX11_feed_32
