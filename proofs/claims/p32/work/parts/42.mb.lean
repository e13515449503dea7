abbrev cX12_viewDay : ByteArray := prog_14_method_40_code
def yX12_viewDay : MethodName := ⟨RX12, "viewDay", "()I"⟩
theorem okX12_viewDay : yok yX12_viewDay 0 := by decide +kernel
theorem dX12_viewDay_0 : decode cX12_viewDay 0 = .ok (.aload_n 0, 1) := by decide +kernel
theorem dX12_viewDay_1 : decode cX12_viewDay 1 = .ok (.getfield 287, 3) := by decide +kernel
theorem dX12_viewDay_4 : decode cX12_viewDay 4 = .ok (.ifCond .ge 10, 3) := by decide +kernel
theorem dX12_viewDay_14 : decode cX12_viewDay 14 = .ok (.aload_n 0, 1) := by decide +kernel
theorem dX12_viewDay_15 : decode cX12_viewDay 15 = .ok (.getfield 287, 3) := by decide +kernel
theorem dX12_viewDay_18 : decode cX12_viewDay 18 = .ok (.ireturn, 1) := by decide +kernel
theorem dX12_viewDay_7 : decode cX12_viewDay 7 = .ok (.aload_n 0, 1) := by decide +kernel
theorem dX12_viewDay_8 : decode cX12_viewDay 8 = .ok (.getfield 342, 3) := by decide +kernel
theorem dX12_viewDay_11 : decode cX12_viewDay 11 = .ok (.goto 7, 3) := by decide +kernel
abbrev cX12_bookNow : ByteArray := prog_14_method_49_code
def yX12_bookNow : MethodName := ⟨RX12, "bookNow", "()I"⟩
theorem okX12_bookNow : yok yX12_bookNow 0 := by decide +kernel
theorem dX12_bookNow_0 : decode cX12_bookNow 0 = .ok (.iconst (-1), 1) := by decide +kernel
theorem dX12_bookNow_1 : decode cX12_bookNow 1 = .ok (.istore_n 1, 1) := by decide +kernel
theorem dX12_bookNow_2 : decode cX12_bookNow 2 = .ok (.iconst 0, 1) := by decide +kernel
theorem dX12_bookNow_3 : decode cX12_bookNow 3 = .ok (.istore_n 2, 1) := by decide +kernel
theorem dX12_bookNow_4 : decode cX12_bookNow 4 = .ok (.iload_n 2, 1) := by decide +kernel
theorem dX12_bookNow_5 : decode cX12_bookNow 5 = .ok (.aload_n 0, 1) := by decide +kernel
theorem dX12_bookNow_6 : decode cX12_bookNow 6 = .ok (.getfield 339, 3) := by decide +kernel
theorem kw_1516 : Cond.fieldLink "LandSurveyModel" 339 "LandSurveyModel" "books" "I" ∈ uu := uu_in (i := 1516) (by decide +kernel) (by decide +kernel)
theorem fk_LandSurveyModel_339 : fkI "LandSurveyModel" 339 11 10 RX12 TX12 87 := ⟨rfl, rfl, inX12, by decide, kw_1516, by decide⟩
theorem dX12_bookNow_9 : decode cX12_bookNow 9 = .ok (.if_icmp .ge 28, 3) := by decide +kernel
theorem dX12_bookNow_37 : decode cX12_bookNow 37 = .ok (.iload_n 1, 1) := by decide +kernel
theorem dX12_bookNow_38 : decode cX12_bookNow 38 = .ok (.ireturn, 1) := by decide +kernel
theorem dX12_bookNow_12 : decode cX12_bookNow 12 = .ok (.aload_n 0, 1) := by decide +kernel
theorem dX12_bookNow_13 : decode cX12_bookNow 13 = .ok (.getfield 97, 3) := by decide +kernel
theorem kw_1517 : Cond.fieldLink "LandSurveyModel" 97 "LandSurveyModel" "bookOn" "[I" ∈ uu := uu_in (i := 1517) (by decide +kernel) (by decide +kernel)
theorem fk_LandSurveyModel_97 : fkR "LandSurveyModel" 97 11 11 RX12 TX12 87 := ⟨rfl, rfl, inX12, by decide, kw_1517, by decide⟩
theorem dX12_bookNow_16 : decode cX12_bookNow 16 = .ok (.iload_n 2, 1) := by decide +kernel
theorem dX12_bookNow_17 : decode cX12_bookNow 17 = .ok (.iaload, 1) := by decide +kernel
theorem dX12_bookNow_18 : decode cX12_bookNow 18 = .ok (.aload_n 0, 1) := by decide +kernel
theorem dX12_bookNow_19 : decode cX12_bookNow 19 = .ok (.invokevirtual 429, 3) := by decide +kernel
theorem kw_1957 : Cond.code yX12_viewDay prog_14_method_40_code 1 (some .int) ∈ uu := uu_in (i := 1957) (by decide +kernel) (by decide +kernel)
theorem kw_1954 : Cond.methodLink "LandSurveyModel" 429 yX12_viewDay ∈ uu := uu_in (i := 1954) (by decide +kernel) (by decide +kernel)
theorem kw_1956 : Cond.instanceMethod yX12_viewDay ∈ uu := uu_in (i := 1956) (by decide +kernel) (by decide +kernel)
theorem kw_92 : Cond.selects "LandSurveyModel" yX12_viewDay yX12_viewDay ∈ uu := uu_in (i := 92) (by decide +kernel) (by decide +kernel)
theorem lk_LandSurveyModel_429 : lkV "LandSurveyModel" 429 yX12_viewDay cX12_viewDay 1 (some .int) 0 := ⟨kw_1954, kw_1956, kw_92, kw_152, kw_1957, okX12_viewDay⟩
theorem dX12_bookNow_22 : decode cX12_bookNow 22 = .ok (.if_icmp .gt 7, 3) := by decide +kernel
theorem dX12_bookNow_29 : decode cX12_bookNow 29 = .ok (.iload_n 1, 1) := by decide +kernel
theorem dX12_bookNow_30 : decode cX12_bookNow 30 = .ok (.istore_n 1, 1) := by decide +kernel
theorem dX12_bookNow_31 : decode cX12_bookNow 31 = .ok (.iinc 2 1, 3) := by decide +kernel
theorem dX12_bookNow_34 : decode cX12_bookNow 34 = .ok (.goto (-30), 3) := by decide +kernel
theorem dX12_bookNow_25 : decode cX12_bookNow 25 = .ok (.iload_n 2, 1) := by decide +kernel
theorem dX12_bookNow_26 : decode cX12_bookNow 26 = .ok (.goto 4, 3) := by decide +kernel
abbrev cX12_rocksNow : ByteArray := prog_14_method_50_code
def yX12_rocksNow : MethodName := ⟨RX12, "rocksNow", "()I"⟩
theorem okX12_rocksNow : yok yX12_rocksNow 0 := by decide +kernel
theorem dX12_rocksNow_0 : decode cX12_rocksNow 0 = .ok (.aload_n 0, 1) := by decide +kernel
theorem dX12_rocksNow_1 : decode cX12_rocksNow 1 = .ok (.invokevirtual 432, 3) := by decide +kernel
theorem kw_1953 : Cond.code yX12_bookNow prog_14_method_49_code 3 (some .int) ∈ uu := uu_in (i := 1953) (by decide +kernel) (by decide +kernel)
theorem kw_1950 : Cond.methodLink "LandSurveyModel" 432 yX12_bookNow ∈ uu := uu_in (i := 1950) (by decide +kernel) (by decide +kernel)
theorem kw_1952 : Cond.instanceMethod yX12_bookNow ∈ uu := uu_in (i := 1952) (by decide +kernel) (by decide +kernel)
theorem kw_91 : Cond.selects "LandSurveyModel" yX12_bookNow yX12_bookNow ∈ uu := uu_in (i := 91) (by decide +kernel) (by decide +kernel)
theorem lk_LandSurveyModel_432 : lkV "LandSurveyModel" 432 yX12_bookNow cX12_bookNow 3 (some .int) 0 := ⟨kw_1950, kw_1952, kw_91, kw_152, kw_1953, okX12_bookNow⟩
theorem dX12_rocksNow_4 : decode cX12_rocksNow 4 = .ok (.istore_n 1, 1) := by decide +kernel
theorem dX12_rocksNow_5 : decode cX12_rocksNow 5 = .ok (.iload_n 1, 1) := by decide +kernel
theorem dX12_rocksNow_6 : decode cX12_rocksNow 6 = .ok (.ifCond .ge 7, 3) := by decide +kernel
theorem dX12_rocksNow_13 : decode cX12_rocksNow 13 = .ok (.aload_n 0, 1) := by decide +kernel
theorem dX12_rocksNow_14 : decode cX12_rocksNow 14 = .ok (.getfield 100, 3) := by decide +kernel
theorem kw_1518 : Cond.fieldLink "LandSurveyModel" 100 "LandSurveyModel" "rocks" "[I" ∈ uu := uu_in (i := 1518) (by decide +kernel) (by decide +kernel)
theorem fk_LandSurveyModel_100 : fkR "LandSurveyModel" 100 11 12 RX12 TX12 87 := ⟨rfl, rfl, inX12, by decide, kw_1518, by decide⟩
theorem dX12_rocksNow_17 : decode cX12_rocksNow 17 = .ok (.iload_n 1, 1) := by decide +kernel
theorem dX12_rocksNow_18 : decode cX12_rocksNow 18 = .ok (.iaload, 1) := by decide +kernel
theorem dX12_rocksNow_19 : decode cX12_rocksNow 19 = .ok (.ireturn, 1) := by decide +kernel
theorem dX12_rocksNow_9 : decode cX12_rocksNow 9 = .ok (.iconst 0, 1) := by decide +kernel
theorem dX12_rocksNow_10 : decode cX12_rocksNow 10 = .ok (.goto 9, 3) := by decide +kernel
abbrev cX12_both : ByteArray := prog_14_method_35_code
def yX12_both : MethodName := ⟨RX12, "both", "(III)I"⟩
theorem okX12_both : yok yX12_both 3 := by decide +kernel
theorem dX12_both_0 : decode cX12_both 0 = .ok (.iload_n 0, 1) := by decide +kernel
theorem dX12_both_1 : decode cX12_both 1 = .ok (.tableswitch 79 4 8 #[35, 39, 43, 54, 65], 35) := by decide +kernel
theorem dX12_both_36 : decode cX12_both 36 = .ok (.iload_n 1, 1) := by decide +kernel
theorem dX12_both_37 : decode cX12_both 37 = .ok (.iload_n 2, 1) := by decide +kernel
theorem dX12_both_38 : decode cX12_both 38 = .ok (.iadd, 1) := by decide +kernel
theorem dX12_both_39 : decode cX12_both 39 = .ok (.ireturn, 1) := by decide +kernel
theorem dX12_both_40 : decode cX12_both 40 = .ok (.iload_n 1, 1) := by decide +kernel
theorem dX12_both_41 : decode cX12_both 41 = .ok (.iload_n 2, 1) := by decide +kernel
theorem dX12_both_42 : decode cX12_both 42 = .ok (.isub, 1) := by decide +kernel
theorem dX12_both_43 : decode cX12_both 43 = .ok (.ireturn, 1) := by decide +kernel
theorem dX12_both_44 : decode cX12_both 44 = .ok (.iload_n 1, 1) := by decide +kernel
theorem dX12_both_45 : decode cX12_both 45 = .ok (.iload_n 2, 1) := by decide +kernel
theorem dX12_both_46 : decode cX12_both 46 = .ok (.if_icmp .ge 7, 3) := by decide +kernel
theorem dX12_both_53 : decode cX12_both 53 = .ok (.iconst 0, 1) := by decide +kernel
theorem dX12_both_54 : decode cX12_both 54 = .ok (.ireturn, 1) := by decide +kernel
theorem dX12_both_49 : decode cX12_both 49 = .ok (.iconst 1, 1) := by decide +kernel
theorem dX12_both_50 : decode cX12_both 50 = .ok (.goto 4, 3) := by decide +kernel
theorem dX12_both_55 : decode cX12_both 55 = .ok (.iload_n 1, 1) := by decide +kernel
theorem dX12_both_56 : decode cX12_both 56 = .ok (.iload_n 2, 1) := by decide +kernel
theorem dX12_both_57 : decode cX12_both 57 = .ok (.if_icmp .ne 7, 3) := by decide +kernel
theorem dX12_both_64 : decode cX12_both 64 = .ok (.iconst 0, 1) := by decide +kernel
theorem dX12_both_65 : decode cX12_both 65 = .ok (.ireturn, 1) := by decide +kernel
theorem dX12_both_60 : decode cX12_both 60 = .ok (.iconst 1, 1) := by decide +kernel
theorem dX12_both_61 : decode cX12_both 61 = .ok (.goto 4, 3) := by decide +kernel
theorem dX12_both_66 : decode cX12_both 66 = .ok (.iload_n 1, 1) := by decide +kernel
theorem dX12_both_67 : decode cX12_both 67 = .ok (.ifCond .eq 11, 3) := by decide +kernel
theorem dX12_both_78 : decode cX12_both 78 = .ok (.iconst 0, 1) := by decide +kernel
theorem dX12_both_79 : decode cX12_both 79 = .ok (.ireturn, 1) := by decide +kernel
theorem dX12_both_70 : decode cX12_both 70 = .ok (.iload_n 2, 1) := by decide +kernel
theorem dX12_both_71 : decode cX12_both 71 = .ok (.ifCond .eq 7, 3) := by decide +kernel
theorem dX12_both_74 : decode cX12_both 74 = .ok (.iconst 1, 1) := by decide +kernel
theorem dX12_both_75 : decode cX12_both 75 = .ok (.goto 4, 3) := by decide +kernel
theorem dX12_both_80 : decode cX12_both 80 = .ok (.iload_n 1, 1) := by decide +kernel
theorem dX12_both_81 : decode cX12_both 81 = .ok (.ifCond .ne 7, 3) := by decide +kernel
theorem dX12_both_88 : decode cX12_both 88 = .ok (.iconst 1, 1) := by decide +kernel
theorem dX12_both_89 : decode cX12_both 89 = .ok (.goto 4, 3) := by decide +kernel
theorem dX12_both_93 : decode cX12_both 93 = .ok (.ireturn, 1) := by decide +kernel
theorem dX12_both_84 : decode cX12_both 84 = .ok (.iload_n 2, 1) := by decide +kernel
theorem dX12_both_85 : decode cX12_both 85 = .ok (.ifCond .eq 7, 3) := by decide +kernel
theorem dX12_both_92 : decode cX12_both 92 = .ok (.iconst 0, 1) := by decide +kernel
abbrev cX12_tellsSight : ByteArray := prog_14_method_51_code
def yX12_tellsSight : MethodName := ⟨RX12, "tellsSight", "(I)V"⟩
theorem okX12_tellsSight : yok yX12_tellsSight 1 := by decide +kernel
theorem dX12_tellsSight_0 : decode cX12_tellsSight 0 = .ok (.aload_n 0, 1) := by decide +kernel
theorem dX12_tellsSight_1 : decode cX12_tellsSight 1 = .ok (.getfield 155, 3) := by decide +kernel
theorem kw_1537 : Cond.fieldLink "LandSurveyModel" 155 "LandSurveyModel" "known" "[I" ∈ uu := uu_in (i := 1537) (by decide +kernel) (by decide +kernel)
theorem fk_LandSurveyModel_155 : fkR "LandSurveyModel" 155 11 31 RX12 TX12 87 := ⟨rfl, rfl, inX12, by decide, kw_1537, by decide⟩
theorem dX12_tellsSight_4 : decode cX12_tellsSight 4 = .ok (.iconst 0, 1) := by decide +kernel
theorem dX12_tellsSight_5 : decode cX12_tellsSight 5 = .ok (.aload_n 0, 1) := by decide +kernel
theorem dX12_tellsSight_6 : decode cX12_tellsSight 6 = .ok (.getfield 185, 3) := by decide +kernel
theorem dX12_tellsSight_9 : decode cX12_tellsSight 9 = .ok (.iload_n 1, 1) := by decide +kernel
theorem dX12_tellsSight_10 : decode cX12_tellsSight 10 = .ok (.iaload, 1) := by decide +kernel
theorem dX12_tellsSight_11 : decode cX12_tellsSight 11 = .ok (.sipush 1000, 3) := by decide +kernel
theorem dX12_tellsSight_14 : decode cX12_tellsSight 14 = .ok (.idiv, 1) := by decide +kernel
theorem dX12_tellsSight_15 : decode cX12_tellsSight 15 = .ok (.iastore, 1) := by decide +kernel
theorem dX12_tellsSight_16 : decode cX12_tellsSight 16 = .ok (.aload_n 0, 1) := by decide +kernel
theorem dX12_tellsSight_17 : decode cX12_tellsSight 17 = .ok (.getfield 155, 3) := by decide +kernel
theorem dX12_tellsSight_20 : decode cX12_tellsSight 20 = .ok (.iconst 1, 1) := by decide +kernel
theorem dX12_tellsSight_21 : decode cX12_tellsSight 21 = .ok (.aload_n 0, 1) := by decide +kernel
theorem dX12_tellsSight_22 : decode cX12_tellsSight 22 = .ok (.getfield 185, 3) := by decide +kernel
theorem dX12_tellsSight_25 : decode cX12_tellsSight 25 = .ok (.iload_n 1, 1) := by decide +kernel
theorem dX12_tellsSight_26 : decode cX12_tellsSight 26 = .ok (.iaload, 1) := by decide +kernel
theorem dX12_tellsSight_27 : decode cX12_tellsSight 27 = .ok (.bipush 100, 2) := by decide +kernel
theorem dX12_tellsSight_29 : decode cX12_tellsSight 29 = .ok (.idiv, 1) := by decide +kernel
theorem dX12_tellsSight_30 : decode cX12_tellsSight 30 = .ok (.bipush 10, 2) := by decide +kernel
theorem dX12_tellsSight_32 : decode cX12_tellsSight 32 = .ok (.irem, 1) := by decide +kernel
theorem dX12_tellsSight_33 : decode cX12_tellsSight 33 = .ok (.iastore, 1) := by decide +kernel
theorem dX12_tellsSight_34 : decode cX12_tellsSight 34 = .ok (.aload_n 0, 1) := by decide +kernel
theorem dX12_tellsSight_35 : decode cX12_tellsSight 35 = .ok (.getfield 155, 3) := by decide +kernel
theorem dX12_tellsSight_38 : decode cX12_tellsSight 38 = .ok (.iconst 2, 1) := by decide +kernel
theorem dX12_tellsSight_39 : decode cX12_tellsSight 39 = .ok (.aload_n 0, 1) := by decide +kernel
theorem dX12_tellsSight_40 : decode cX12_tellsSight 40 = .ok (.getfield 185, 3) := by decide +kernel
theorem dX12_tellsSight_43 : decode cX12_tellsSight 43 = .ok (.iload_n 1, 1) := by decide +kernel
theorem dX12_tellsSight_44 : decode cX12_tellsSight 44 = .ok (.iaload, 1) := by decide +kernel
theorem dX12_tellsSight_45 : decode cX12_tellsSight 45 = .ok (.bipush 10, 2) := by decide +kernel
theorem dX12_tellsSight_47 : decode cX12_tellsSight 47 = .ok (.idiv, 1) := by decide +kernel
theorem dX12_tellsSight_48 : decode cX12_tellsSight 48 = .ok (.bipush 10, 2) := by decide +kernel
theorem dX12_tellsSight_50 : decode cX12_tellsSight 50 = .ok (.irem, 1) := by decide +kernel
theorem dX12_tellsSight_51 : decode cX12_tellsSight 51 = .ok (.iastore, 1) := by decide +kernel
theorem dX12_tellsSight_52 : decode cX12_tellsSight 52 = .ok (.aload_n 0, 1) := by decide +kernel
theorem dX12_tellsSight_53 : decode cX12_tellsSight 53 = .ok (.getfield 155, 3) := by decide +kernel
theorem dX12_tellsSight_56 : decode cX12_tellsSight 56 = .ok (.iconst 3, 1) := by decide +kernel
theorem dX12_tellsSight_57 : decode cX12_tellsSight 57 = .ok (.aload_n 0, 1) := by decide +kernel
theorem dX12_tellsSight_58 : decode cX12_tellsSight 58 = .ok (.getfield 185, 3) := by decide +kernel
theorem dX12_tellsSight_61 : decode cX12_tellsSight 61 = .ok (.iload_n 1, 1) := by decide +kernel
theorem dX12_tellsSight_62 : decode cX12_tellsSight 62 = .ok (.iaload, 1) := by decide +kernel
theorem dX12_tellsSight_63 : decode cX12_tellsSight 63 = .ok (.bipush 10, 2) := by decide +kernel
theorem dX12_tellsSight_65 : decode cX12_tellsSight 65 = .ok (.irem, 1) := by decide +kernel
theorem dX12_tellsSight_66 : decode cX12_tellsSight 66 = .ok (.iastore, 1) := by decide +kernel
theorem dX12_tellsSight_67 : decode cX12_tellsSight 67 = .ok (.aload_n 0, 1) := by decide +kernel
theorem dX12_tellsSight_68 : decode cX12_tellsSight 68 = .ok (.getfield 155, 3) := by decide +kernel
theorem dX12_tellsSight_71 : decode cX12_tellsSight 71 = .ok (.iconst 4, 1) := by decide +kernel
theorem dX12_tellsSight_72 : decode cX12_tellsSight 72 = .ok (.aload_n 0, 1) := by decide +kernel
theorem dX12_tellsSight_73 : decode cX12_tellsSight 73 = .ok (.getfield 173, 3) := by decide +kernel
theorem dX12_tellsSight_76 : decode cX12_tellsSight 76 = .ok (.iload_n 1, 1) := by decide +kernel
theorem dX12_tellsSight_77 : decode cX12_tellsSight 77 = .ok (.iaload, 1) := by decide +kernel
theorem dX12_tellsSight_78 : decode cX12_tellsSight 78 = .ok (.iastore, 1) := by decide +kernel
theorem dX12_tellsSight_79 : decode cX12_tellsSight 79 = .ok (.aload_n 0, 1) := by decide +kernel
theorem dX12_tellsSight_80 : decode cX12_tellsSight 80 = .ok (.getfield 155, 3) := by decide +kernel
theorem dX12_tellsSight_83 : decode cX12_tellsSight 83 = .ok (.iconst 5, 1) := by decide +kernel
theorem dX12_tellsSight_84 : decode cX12_tellsSight 84 = .ok (.aload_n 0, 1) := by decide +kernel
theorem dX12_tellsSight_85 : decode cX12_tellsSight 85 = .ok (.getfield 182, 3) := by decide +kernel
theorem dX12_tellsSight_88 : decode cX12_tellsSight 88 = .ok (.iload_n 1, 1) := by decide +kernel
theorem dX12_tellsSight_89 : decode cX12_tellsSight 89 = .ok (.iaload, 1) := by decide +kernel
theorem dX12_tellsSight_90 : decode cX12_tellsSight 90 = .ok (.iastore, 1) := by decide +kernel
theorem dX12_tellsSight_91 : decode cX12_tellsSight 91 = .ok (.aload_n 0, 1) := by decide +kernel
theorem dX12_tellsSight_92 : decode cX12_tellsSight 92 = .ok (.getfield 155, 3) := by decide +kernel
theorem dX12_tellsSight_95 : decode cX12_tellsSight 95 = .ok (.bipush 6, 2) := by decide +kernel
theorem dX12_tellsSight_97 : decode cX12_tellsSight 97 = .ok (.aload_n 0, 1) := by decide +kernel
theorem dX12_tellsSight_98 : decode cX12_tellsSight 98 = .ok (.getfield 179, 3) := by decide +kernel
theorem dX12_tellsSight_101 : decode cX12_tellsSight 101 = .ok (.iload_n 1, 1) := by decide +kernel
theorem dX12_tellsSight_102 : decode cX12_tellsSight 102 = .ok (.iaload, 1) := by decide +kernel
theorem dX12_tellsSight_103 : decode cX12_tellsSight 103 = .ok (.iastore, 1) := by decide +kernel
theorem dX12_tellsSight_104 : decode cX12_tellsSight 104 = .ok (.aload_n 0, 1) := by decide +kernel
theorem dX12_tellsSight_105 : decode cX12_tellsSight 105 = .ok (.getfield 155, 3) := by decide +kernel
theorem dX12_tellsSight_108 : decode cX12_tellsSight 108 = .ok (.bipush 7, 2) := by decide +kernel
theorem dX12_tellsSight_110 : decode cX12_tellsSight 110 = .ok (.aload_n 0, 1) := by decide +kernel
theorem dX12_tellsSight_111 : decode cX12_tellsSight 111 = .ok (.getfield 161, 3) := by decide +kernel
theorem dX12_tellsSight_114 : decode cX12_tellsSight 114 = .ok (.aload_n 0, 1) := by decide +kernel
theorem dX12_tellsSight_115 : decode cX12_tellsSight 115 = .ok (.getfield 176, 3) := by decide +kernel
theorem dX12_tellsSight_118 : decode cX12_tellsSight 118 = .ok (.iload_n 1, 1) := by decide +kernel
theorem dX12_tellsSight_119 : decode cX12_tellsSight 119 = .ok (.iaload, 1) := by decide +kernel
theorem dX12_tellsSight_120 : decode cX12_tellsSight 120 = .ok (.iaload, 1) := by decide +kernel
theorem dX12_tellsSight_121 : decode cX12_tellsSight 121 = .ok (.iastore, 1) := by decide +kernel
theorem dX12_tellsSight_122 : decode cX12_tellsSight 122 = .ok (.bipush 8, 2) := by decide +kernel
theorem dX12_tellsSight_124 : decode cX12_tellsSight 124 = .ok (.istore_n 2, 1) := by decide +kernel
theorem dX12_tellsSight_125 : decode cX12_tellsSight 125 = .ok (.iload_n 2, 1) := by decide +kernel
theorem dX12_tellsSight_126 : decode cX12_tellsSight 126 = .ok (.bipush 12, 2) := by decide +kernel
theorem dX12_tellsSight_128 : decode cX12_tellsSight 128 = .ok (.if_icmp .ge 16, 3) := by decide +kernel
theorem dX12_tellsSight_144 : decode cX12_tellsSight 144 = .ok (.return_, 1) := by decide +kernel
theorem dX12_tellsSight_131 : decode cX12_tellsSight 131 = .ok (.aload_n 0, 1) := by decide +kernel
theorem dX12_tellsSight_132 : decode cX12_tellsSight 132 = .ok (.getfield 155, 3) := by decide +kernel
theorem dX12_tellsSight_135 : decode cX12_tellsSight 135 = .ok (.iload_n 2, 1) := by decide +kernel
theorem dX12_tellsSight_136 : decode cX12_tellsSight 136 = .ok (.iconst 0, 1) := by decide +kernel
theorem dX12_tellsSight_137 : decode cX12_tellsSight 137 = .ok (.iastore, 1) := by decide +kernel
theorem dX12_tellsSight_138 : decode cX12_tellsSight 138 = .ok (.iinc 2 1, 3) := by decide +kernel
theorem dX12_tellsSight_141 : decode cX12_tellsSight 141 = .ok (.goto (-16), 3) := by decide +kernel
abbrev cX12_worth : ByteArray := prog_14_method_34_code
def yX12_worth : MethodName := ⟨RX12, "worth", "(I)I"⟩
theorem okX12_worth : yok yX12_worth 1 := by decide +kernel
theorem dX12_worth_0 : decode cX12_worth 0 = .ok (.iconst 0, 1) := by decide +kernel
theorem dX12_worth_1 : decode cX12_worth 1 = .ok (.istore_n 2, 1) := by decide +kernel
theorem dX12_worth_2 : decode cX12_worth 2 = .ok (.iload_n 1, 1) := by decide +kernel
theorem dX12_worth_3 : decode cX12_worth 3 = .ok (.istore_n 3, 1) := by decide +kernel
theorem dX12_worth_4 : decode cX12_worth 4 = .ok (.aload_n 0, 1) := by decide +kernel
theorem dX12_worth_5 : decode cX12_worth 5 = .ok (.getfield 149, 3) := by decide +kernel
theorem kw_1535 : Cond.fieldLink "LandSurveyModel" 149 "LandSurveyModel" "op" "[I" ∈ uu := uu_in (i := 1535) (by decide +kernel) (by decide +kernel)
theorem fk_LandSurveyModel_149 : fkR "LandSurveyModel" 149 11 29 RX12 TX12 87 := ⟨rfl, rfl, inX12, by decide, kw_1535, by decide⟩
theorem dX12_worth_8 : decode cX12_worth 8 = .ok (.iload_n 3, 1) := by decide +kernel
theorem dX12_worth_9 : decode cX12_worth 9 = .ok (.iaload, 1) := by decide +kernel
theorem dX12_worth_10 : decode cX12_worth 10 = .ok (.ifCond .eq 130, 3) := by decide +kernel
theorem dX12_worth_140 : decode cX12_worth 140 = .ok (.aload_n 0, 1) := by decide +kernel
theorem dX12_worth_141 : decode cX12_worth 141 = .ok (.getfield 158, 3) := by decide +kernel
theorem kw_1538 : Cond.fieldLink "LandSurveyModel" 158 "LandSurveyModel" "pile" "[I" ∈ uu := uu_in (i := 1538) (by decide +kernel) (by decide +kernel)
theorem fk_LandSurveyModel_158 : fkR "LandSurveyModel" 158 11 32 RX12 TX12 87 := ⟨rfl, rfl, inX12, by decide, kw_1538, by decide⟩
theorem dX12_worth_144 : decode cX12_worth 144 = .ok (.iconst 0, 1) := by decide +kernel
theorem dX12_worth_145 : decode cX12_worth 145 = .ok (.iaload, 1) := by decide +kernel
theorem dX12_worth_146 : decode cX12_worth 146 = .ok (.ireturn, 1) := by decide +kernel
theorem dX12_worth_13 : decode cX12_worth 13 = .ok (.aload_n 0, 1) := by decide +kernel
theorem dX12_worth_14 : decode cX12_worth 14 = .ok (.getfield 149, 3) := by decide +kernel
theorem dX12_worth_17 : decode cX12_worth 17 = .ok (.iload_n 3, 1) := by decide +kernel
theorem dX12_worth_18 : decode cX12_worth 18 = .ok (.iaload, 1) := by decide +kernel
theorem dX12_worth_19 : decode cX12_worth 19 = .ok (.istore 4, 2) := by decide +kernel
theorem dX12_worth_21 : decode cX12_worth 21 = .ok (.iload 4, 2) := by decide +kernel
theorem dX12_worth_23 : decode cX12_worth 23 = .ok (.iconst 1, 1) := by decide +kernel
theorem dX12_worth_24 : decode cX12_worth 24 = .ok (.if_icmp .eq 9, 3) := by decide +kernel
theorem dX12_worth_33 : decode cX12_worth 33 = .ok (.aload_n 0, 1) := by decide +kernel
theorem dX12_worth_34 : decode cX12_worth 34 = .ok (.getfield 158, 3) := by decide +kernel
theorem dX12_worth_37 : decode cX12_worth 37 = .ok (.iload_n 2, 1) := by decide +kernel
theorem dX12_worth_38 : decode cX12_worth 38 = .ok (.iload 4, 2) := by decide +kernel
theorem dX12_worth_40 : decode cX12_worth 40 = .ok (.iconst 1, 1) := by decide +kernel
theorem dX12_worth_41 : decode cX12_worth 41 = .ok (.if_icmp .ne 12, 3) := by decide +kernel
theorem dX12_worth_44 : decode cX12_worth 44 = .ok (.aload_n 0, 1) := by decide +kernel
theorem dX12_worth_45 : decode cX12_worth 45 = .ok (.getfield 152, 3) := by decide +kernel
theorem kw_1536 : Cond.fieldLink "LandSurveyModel" 152 "LandSurveyModel" "one" "[I" ∈ uu := uu_in (i := 1536) (by decide +kernel) (by decide +kernel)
theorem fk_LandSurveyModel_152 : fkR "LandSurveyModel" 152 11 30 RX12 TX12 87 := ⟨rfl, rfl, inX12, by decide, kw_1536, by decide⟩
theorem dX12_worth_48 : decode cX12_worth 48 = .ok (.iload_n 3, 1) := by decide +kernel
theorem dX12_worth_49 : decode cX12_worth 49 = .ok (.iaload, 1) := by decide +kernel
theorem dX12_worth_50 : decode cX12_worth 50 = .ok (.goto 14, 3) := by decide +kernel
theorem dX12_worth_64 : decode cX12_worth 64 = .ok (.iastore, 1) := by decide +kernel
theorem dX12_worth_65 : decode cX12_worth 65 = .ok (.iinc 2 1, 3) := by decide +kernel
theorem dX12_worth_68 : decode cX12_worth 68 = .ok (.goto 66, 3) := by decide +kernel
theorem dX12_worth_134 : decode cX12_worth 134 = .ok (.iinc 3 1, 3) := by decide +kernel
theorem dX12_worth_137 : decode cX12_worth 137 = .ok (.goto (-133), 3) := by decide +kernel
theorem dX12_worth_27 : decode cX12_worth 27 = .ok (.iload 4, 2) := by decide +kernel
theorem dX12_worth_29 : decode cX12_worth 29 = .ok (.iconst 2, 1) := by decide +kernel
theorem dX12_worth_30 : decode cX12_worth 30 = .ok (.if_icmp .ne 41, 3) := by decide +kernel
theorem dX12_worth_71 : decode cX12_worth 71 = .ok (.iload 4, 2) := by decide +kernel
theorem dX12_worth_73 : decode cX12_worth 73 = .ok (.iconst 3, 1) := by decide +kernel
theorem dX12_worth_74 : decode cX12_worth 74 = .ok (.if_icmp .ne 30, 3) := by decide +kernel
theorem dX12_worth_104 : decode cX12_worth 104 = .ok (.iinc 2 (-1), 3) := by decide +kernel
theorem dX12_worth_107 : decode cX12_worth 107 = .ok (.aload_n 0, 1) := by decide +kernel
theorem dX12_worth_108 : decode cX12_worth 108 = .ok (.getfield 158, 3) := by decide +kernel
theorem dX12_worth_111 : decode cX12_worth 111 = .ok (.iload_n 2, 1) := by decide +kernel
theorem dX12_worth_112 : decode cX12_worth 112 = .ok (.iconst 1, 1) := by decide +kernel
theorem dX12_worth_113 : decode cX12_worth 113 = .ok (.isub, 1) := by decide +kernel
theorem dX12_worth_114 : decode cX12_worth 114 = .ok (.iload 4, 2) := by decide +kernel
theorem dX12_worth_116 : decode cX12_worth 116 = .ok (.aload_n 0, 1) := by decide +kernel
theorem dX12_worth_117 : decode cX12_worth 117 = .ok (.getfield 158, 3) := by decide +kernel
theorem dX12_worth_120 : decode cX12_worth 120 = .ok (.iload_n 2, 1) := by decide +kernel
theorem dX12_worth_121 : decode cX12_worth 121 = .ok (.iconst 1, 1) := by decide +kernel
theorem dX12_worth_122 : decode cX12_worth 122 = .ok (.isub, 1) := by decide +kernel
theorem dX12_worth_123 : decode cX12_worth 123 = .ok (.iaload, 1) := by decide +kernel
theorem dX12_worth_124 : decode cX12_worth 124 = .ok (.aload_n 0, 1) := by decide +kernel
theorem dX12_worth_125 : decode cX12_worth 125 = .ok (.getfield 158, 3) := by decide +kernel
theorem dX12_worth_128 : decode cX12_worth 128 = .ok (.iload_n 2, 1) := by decide +kernel
theorem dX12_worth_129 : decode cX12_worth 129 = .ok (.iaload, 1) := by decide +kernel
theorem dX12_worth_130 : decode cX12_worth 130 = .ok (.invokestatic 411, 3) := by decide +kernel
theorem kw_1988 : Cond.code yX12_both prog_14_method_35_code 3 (some .int) ∈ uu := uu_in (i := 1988) (by decide +kernel) (by decide +kernel)
theorem kw_1986 : Cond.methodLink "LandSurveyModel" 411 yX12_both ∈ uu := uu_in (i := 1986) (by decide +kernel) (by decide +kernel)
theorem kw_1987 : Cond.static yX12_both ∈ uu := uu_in (i := 1987) (by decide +kernel) (by decide +kernel)
theorem lk_LandSurveyModel_411 : lkS "LandSurveyModel" 411 yX12_both cX12_both 3 (some .int) 3 := ⟨kw_1986, kw_1987, kw_152, kw_1988, okX12_both⟩
theorem dX12_worth_133 : decode cX12_worth 133 = .ok (.iastore, 1) := by decide +kernel
theorem dX12_worth_77 : decode cX12_worth 77 = .ok (.aload_n 0, 1) := by decide +kernel
theorem dX12_worth_78 : decode cX12_worth 78 = .ok (.getfield 158, 3) := by decide +kernel
theorem dX12_worth_81 : decode cX12_worth 81 = .ok (.iload_n 2, 1) := by decide +kernel
theorem dX12_worth_82 : decode cX12_worth 82 = .ok (.iconst 1, 1) := by decide +kernel
theorem dX12_worth_83 : decode cX12_worth 83 = .ok (.isub, 1) := by decide +kernel
theorem dX12_worth_84 : decode cX12_worth 84 = .ok (.aload_n 0, 1) := by decide +kernel
theorem dX12_worth_85 : decode cX12_worth 85 = .ok (.getfield 158, 3) := by decide +kernel
theorem dX12_worth_88 : decode cX12_worth 88 = .ok (.iload_n 2, 1) := by decide +kernel
theorem dX12_worth_89 : decode cX12_worth 89 = .ok (.iconst 1, 1) := by decide +kernel
theorem dX12_worth_90 : decode cX12_worth 90 = .ok (.isub, 1) := by decide +kernel
theorem dX12_worth_91 : decode cX12_worth 91 = .ok (.iaload, 1) := by decide +kernel
theorem dX12_worth_92 : decode cX12_worth 92 = .ok (.ifCond .ne 7, 3) := by decide +kernel
theorem dX12_worth_99 : decode cX12_worth 99 = .ok (.iconst 0, 1) := by decide +kernel
theorem dX12_worth_100 : decode cX12_worth 100 = .ok (.iastore, 1) := by decide +kernel
theorem dX12_worth_101 : decode cX12_worth 101 = .ok (.goto 33, 3) := by decide +kernel
theorem dX12_worth_95 : decode cX12_worth 95 = .ok (.iconst 1, 1) := by decide +kernel
theorem dX12_worth_96 : decode cX12_worth 96 = .ok (.goto 4, 3) := by decide +kernel
theorem dX12_worth_53 : decode cX12_worth 53 = .ok (.aload_n 0, 1) := by decide +kernel
theorem dX12_worth_54 : decode cX12_worth 54 = .ok (.getfield 155, 3) := by decide +kernel
theorem dX12_worth_57 : decode cX12_worth 57 = .ok (.aload_n 0, 1) := by decide +kernel
theorem dX12_worth_58 : decode cX12_worth 58 = .ok (.getfield 152, 3) := by decide +kernel
theorem dX12_worth_61 : decode cX12_worth 61 = .ok (.iload_n 3, 1) := by decide +kernel
theorem dX12_worth_62 : decode cX12_worth 62 = .ok (.iaload, 1) := by decide +kernel
theorem dX12_worth_63 : decode cX12_worth 63 = .ok (.iaload, 1) := by decide +kernel
abbrev cX12_lineOf : ByteArray := prog_14_method_52_code
def yX12_lineOf : MethodName := ⟨RX12, "lineOf", "(I)I"⟩
theorem okX12_lineOf : yok yX12_lineOf 1 := by decide +kernel
theorem dX12_lineOf_0 : decode cX12_lineOf 0 = .ok (.aload_n 0, 1) := by decide +kernel
theorem dX12_lineOf_1 : decode cX12_lineOf 1 = .ok (.invokevirtual 432, 3) := by decide +kernel
theorem dX12_lineOf_4 : decode cX12_lineOf 4 = .ok (.istore_n 2, 1) := by decide +kernel
theorem dX12_lineOf_5 : decode cX12_lineOf 5 = .ok (.iconst 0, 1) := by decide +kernel
theorem dX12_lineOf_6 : decode cX12_lineOf 6 = .ok (.istore_n 3, 1) := by decide +kernel
theorem dX12_lineOf_7 : decode cX12_lineOf 7 = .ok (.iload_n 2, 1) := by decide +kernel
theorem dX12_lineOf_8 : decode cX12_lineOf 8 = .ok (.ifCond .lt 54, 3) := by decide +kernel
theorem dX12_lineOf_62 : decode cX12_lineOf 62 = .ok (.iconst (-1), 1) := by decide +kernel
theorem dX12_lineOf_63 : decode cX12_lineOf 63 = .ok (.ireturn, 1) := by decide +kernel
theorem dX12_lineOf_11 : decode cX12_lineOf 11 = .ok (.iload_n 3, 1) := by decide +kernel
theorem dX12_lineOf_12 : decode cX12_lineOf 12 = .ok (.aload_n 0, 1) := by decide +kernel
theorem dX12_lineOf_13 : decode cX12_lineOf 13 = .ok (.getfield 137, 3) := by decide +kernel
theorem kw_1530 : Cond.fieldLink "LandSurveyModel" 137 "LandSurveyModel" "lines" "[I" ∈ uu := uu_in (i := 1530) (by decide +kernel) (by decide +kernel)
theorem fk_LandSurveyModel_137 : fkR "LandSurveyModel" 137 11 24 RX12 TX12 87 := ⟨rfl, rfl, inX12, by decide, kw_1530, by decide⟩
theorem dX12_lineOf_16 : decode cX12_lineOf 16 = .ok (.iload_n 2, 1) := by decide +kernel
theorem dX12_lineOf_17 : decode cX12_lineOf 17 = .ok (.iaload, 1) := by decide +kernel
theorem dX12_lineOf_18 : decode cX12_lineOf 18 = .ok (.if_icmp .ge 44, 3) := by decide +kernel
theorem dX12_lineOf_21 : decode cX12_lineOf 21 = .ok (.aload_n 0, 1) := by decide +kernel
theorem dX12_lineOf_22 : decode cX12_lineOf 22 = .ok (.getfield 140, 3) := by decide +kernel
theorem kw_1531 : Cond.fieldLink "LandSurveyModel" 140 "LandSurveyModel" "lineKind" "[I" ∈ uu := uu_in (i := 1531) (by decide +kernel) (by decide +kernel)
theorem fk_LandSurveyModel_140 : fkR "LandSurveyModel" 140 11 25 RX12 TX12 87 := ⟨rfl, rfl, inX12, by decide, kw_1531, by decide⟩
theorem dX12_lineOf_25 : decode cX12_lineOf 25 = .ok (.bipush 24, 2) := by decide +kernel
theorem dX12_lineOf_27 : decode cX12_lineOf 27 = .ok (.iload_n 2, 1) := by decide +kernel
theorem dX12_lineOf_28 : decode cX12_lineOf 28 = .ok (.imul, 1) := by decide +kernel
theorem dX12_lineOf_29 : decode cX12_lineOf 29 = .ok (.iload_n 3, 1) := by decide +kernel
theorem dX12_lineOf_30 : decode cX12_lineOf 30 = .ok (.iadd, 1) := by decide +kernel
theorem dX12_lineOf_31 : decode cX12_lineOf 31 = .ok (.iaload, 1) := by decide +kernel
theorem dX12_lineOf_32 : decode cX12_lineOf 32 = .ok (.iload_n 1, 1) := by decide +kernel
theorem dX12_lineOf_33 : decode cX12_lineOf 33 = .ok (.if_icmp .ne 23, 3) := by decide +kernel
theorem dX12_lineOf_56 : decode cX12_lineOf 56 = .ok (.iinc 3 1, 3) := by decide +kernel
theorem dX12_lineOf_59 : decode cX12_lineOf 59 = .ok (.goto (-52), 3) := by decide +kernel
theorem dX12_lineOf_36 : decode cX12_lineOf 36 = .ok (.aload_n 0, 1) := by decide +kernel
theorem dX12_lineOf_37 : decode cX12_lineOf 37 = .ok (.aload_n 0, 1) := by decide +kernel
theorem dX12_lineOf_38 : decode cX12_lineOf 38 = .ok (.getfield 146, 3) := by decide +kernel
theorem kw_1533 : Cond.fieldLink "LandSurveyModel" 146 "LandSurveyModel" "lineAt" "[I" ∈ uu := uu_in (i := 1533) (by decide +kernel) (by decide +kernel)
theorem fk_LandSurveyModel_146 : fkR "LandSurveyModel" 146 11 27 RX12 TX12 87 := ⟨rfl, rfl, inX12, by decide, kw_1533, by decide⟩
theorem dX12_lineOf_41 : decode cX12_lineOf 41 = .ok (.bipush 24, 2) := by decide +kernel
theorem dX12_lineOf_43 : decode cX12_lineOf 43 = .ok (.iload_n 2, 1) := by decide +kernel
theorem dX12_lineOf_44 : decode cX12_lineOf 44 = .ok (.imul, 1) := by decide +kernel
theorem dX12_lineOf_45 : decode cX12_lineOf 45 = .ok (.iload_n 3, 1) := by decide +kernel
theorem dX12_lineOf_46 : decode cX12_lineOf 46 = .ok (.iadd, 1) := by decide +kernel
theorem dX12_lineOf_47 : decode cX12_lineOf 47 = .ok (.iaload, 1) := by decide +kernel
theorem dX12_lineOf_48 : decode cX12_lineOf 48 = .ok (.invokevirtual 435, 3) := by decide +kernel
theorem kw_1985 : Cond.code yX12_worth prog_14_method_34_code 5 (some .int) ∈ uu := uu_in (i := 1985) (by decide +kernel) (by decide +kernel)
theorem kw_1982 : Cond.methodLink "LandSurveyModel" 435 yX12_worth ∈ uu := uu_in (i := 1982) (by decide +kernel) (by decide +kernel)
theorem kw_1984 : Cond.instanceMethod yX12_worth ∈ uu := uu_in (i := 1984) (by decide +kernel) (by decide +kernel)
theorem kw_99 : Cond.selects "LandSurveyModel" yX12_worth yX12_worth ∈ uu := uu_in (i := 99) (by decide +kernel) (by decide +kernel)
theorem lk_LandSurveyModel_435 : lkV "LandSurveyModel" 435 yX12_worth cX12_worth 5 (some .int) 1 := ⟨kw_1982, kw_1984, kw_99, kw_152, kw_1985, okX12_worth⟩
theorem dX12_lineOf_51 : decode cX12_lineOf 51 = .ok (.ifCond .eq 5, 3) := by decide +kernel
theorem dX12_lineOf_54 : decode cX12_lineOf 54 = .ok (.iload_n 3, 1) := by decide +kernel
theorem dX12_lineOf_55 : decode cX12_lineOf 55 = .ok (.ireturn, 1) := by decide +kernel
abbrev cX12_namedBy : ByteArray := prog_14_method_53_code
def yX12_namedBy : MethodName := ⟨RX12, "namedBy", "(I)I"⟩
theorem okX12_namedBy : yok yX12_namedBy 1 := by decide +kernel
theorem dX12_namedBy_0 : decode cX12_namedBy 0 = .ok (.aload_n 0, 1) := by decide +kernel
theorem dX12_namedBy_1 : decode cX12_namedBy 1 = .ok (.iload_n 1, 1) := by decide +kernel
theorem dX12_namedBy_2 : decode cX12_namedBy 2 = .ok (.invokevirtual 438, 3) := by decide +kernel
theorem kw_1977 : Cond.code yX12_tellsSight prog_14_method_51_code 3 none ∈ uu := uu_in (i := 1977) (by decide +kernel) (by decide +kernel)
theorem kw_1974 : Cond.methodLink "LandSurveyModel" 438 yX12_tellsSight ∈ uu := uu_in (i := 1974) (by decide +kernel) (by decide +kernel)
theorem kw_1976 : Cond.instanceMethod yX12_tellsSight ∈ uu := uu_in (i := 1976) (by decide +kernel) (by decide +kernel)
theorem kw_97 : Cond.selects "LandSurveyModel" yX12_tellsSight yX12_tellsSight ∈ uu := uu_in (i := 97) (by decide +kernel) (by decide +kernel)
theorem lk_LandSurveyModel_438 : lkV "LandSurveyModel" 438 yX12_tellsSight cX12_tellsSight 3 none 1 := ⟨kw_1974, kw_1976, kw_97, kw_152, kw_1977, okX12_tellsSight⟩
theorem dX12_namedBy_5 : decode cX12_namedBy 5 = .ok (.aload_n 0, 1) := by decide +kernel
theorem dX12_namedBy_6 : decode cX12_namedBy 6 = .ok (.iconst 1, 1) := by decide +kernel
theorem dX12_namedBy_7 : decode cX12_namedBy 7 = .ok (.invokevirtual 441, 3) := by decide +kernel
theorem kw_1981 : Cond.code yX12_lineOf prog_14_method_52_code 4 (some .int) ∈ uu := uu_in (i := 1981) (by decide +kernel) (by decide +kernel)
theorem kw_1978 : Cond.methodLink "LandSurveyModel" 441 yX12_lineOf ∈ uu := uu_in (i := 1978) (by decide +kernel) (by decide +kernel)
theorem kw_1980 : Cond.instanceMethod yX12_lineOf ∈ uu := uu_in (i := 1980) (by decide +kernel) (by decide +kernel)
theorem kw_98 : Cond.selects "LandSurveyModel" yX12_lineOf yX12_lineOf ∈ uu := uu_in (i := 98) (by decide +kernel) (by decide +kernel)
theorem lk_LandSurveyModel_441 : lkV "LandSurveyModel" 441 yX12_lineOf cX12_lineOf 4 (some .int) 1 := ⟨kw_1978, kw_1980, kw_98, kw_152, kw_1981, okX12_lineOf⟩
theorem dX12_namedBy_10 : decode cX12_namedBy 10 = .ok (.ireturn, 1) := by decide +kernel
abbrev cX12_rockOf : ByteArray := prog_14_method_54_code
def yX12_rockOf : MethodName := ⟨RX12, "rockOf", "(I)I"⟩
theorem okX12_rockOf : yok yX12_rockOf 1 := by decide +kernel
theorem dX12_rockOf_0 : decode cX12_rockOf 0 = .ok (.aload_n 0, 1) := by decide +kernel
theorem dX12_rockOf_1 : decode cX12_rockOf 1 = .ok (.iload_n 1, 1) := by decide +kernel
theorem dX12_rockOf_2 : decode cX12_rockOf 2 = .ok (.invokevirtual 444, 3) := by decide +kernel
theorem kw_1973 : Cond.code yX12_namedBy prog_14_method_53_code 2 (some .int) ∈ uu := uu_in (i := 1973) (by decide +kernel) (by decide +kernel)
theorem kw_1970 : Cond.methodLink "LandSurveyModel" 444 yX12_namedBy ∈ uu := uu_in (i := 1970) (by decide +kernel) (by decide +kernel)
theorem kw_1972 : Cond.instanceMethod yX12_namedBy ∈ uu := uu_in (i := 1972) (by decide +kernel) (by decide +kernel)
theorem kw_96 : Cond.selects "LandSurveyModel" yX12_namedBy yX12_namedBy ∈ uu := uu_in (i := 96) (by decide +kernel) (by decide +kernel)
theorem lk_LandSurveyModel_444 : lkV "LandSurveyModel" 444 yX12_namedBy cX12_namedBy 2 (some .int) 1 := ⟨kw_1970, kw_1972, kw_96, kw_152, kw_1973, okX12_namedBy⟩
theorem dX12_rockOf_5 : decode cX12_rockOf 5 = .ok (.istore_n 2, 1) := by decide +kernel
theorem dX12_rockOf_6 : decode cX12_rockOf 6 = .ok (.iload_n 2, 1) := by decide +kernel
theorem dX12_rockOf_7 : decode cX12_rockOf 7 = .ok (.ifCond .ge 7, 3) := by decide +kernel
theorem dX12_rockOf_14 : decode cX12_rockOf 14 = .ok (.aload_n 0, 1) := by decide +kernel
theorem dX12_rockOf_15 : decode cX12_rockOf 15 = .ok (.getfield 143, 3) := by decide +kernel
theorem kw_1532 : Cond.fieldLink "LandSurveyModel" 143 "LandSurveyModel" "lineN" "[I" ∈ uu := uu_in (i := 1532) (by decide +kernel) (by decide +kernel)
theorem fk_LandSurveyModel_143 : fkR "LandSurveyModel" 143 11 26 RX12 TX12 87 := ⟨rfl, rfl, inX12, by decide, kw_1532, by decide⟩
theorem dX12_rockOf_18 : decode cX12_rockOf 18 = .ok (.bipush 24, 2) := by decide +kernel
theorem dX12_rockOf_20 : decode cX12_rockOf 20 = .ok (.aload_n 0, 1) := by decide +kernel
theorem dX12_rockOf_21 : decode cX12_rockOf 21 = .ok (.invokevirtual 432, 3) := by decide +kernel
theorem dX12_rockOf_24 : decode cX12_rockOf 24 = .ok (.imul, 1) := by decide +kernel
theorem dX12_rockOf_25 : decode cX12_rockOf 25 = .ok (.iload_n 2, 1) := by decide +kernel
theorem dX12_rockOf_26 : decode cX12_rockOf 26 = .ok (.iadd, 1) := by decide +kernel
theorem dX12_rockOf_27 : decode cX12_rockOf 27 = .ok (.iaload, 1) := by decide +kernel
theorem dX12_rockOf_28 : decode cX12_rockOf 28 = .ok (.ireturn, 1) := by decide +kernel
theorem dX12_rockOf_10 : decode cX12_rockOf 10 = .ok (.iconst (-1), 1) := by decide +kernel
theorem dX12_rockOf_11 : decode cX12_rockOf 11 = .ok (.goto 17, 3) := by decide +kernel
abbrev cX12_worthOf : ByteArray := prog_14_method_55_code
def yX12_worthOf : MethodName := ⟨RX12, "worthOf", "(I)I"⟩
theorem okX12_worthOf : yok yX12_worthOf 1 := by decide +kernel
theorem dX12_worthOf_0 : decode cX12_worthOf 0 = .ok (.aload_n 0, 1) := by decide +kernel
theorem dX12_worthOf_1 : decode cX12_worthOf 1 = .ok (.iload_n 1, 1) := by decide +kernel
theorem dX12_worthOf_2 : decode cX12_worthOf 2 = .ok (.invokevirtual 438, 3) := by decide +kernel
theorem dX12_worthOf_5 : decode cX12_worthOf 5 = .ok (.aload_n 0, 1) := by decide +kernel
theorem dX12_worthOf_6 : decode cX12_worthOf 6 = .ok (.iconst 2, 1) := by decide +kernel
theorem dX12_worthOf_7 : decode cX12_worthOf 7 = .ok (.invokevirtual 441, 3) := by decide +kernel
theorem dX12_worthOf_10 : decode cX12_worthOf 10 = .ok (.istore_n 2, 1) := by decide +kernel
theorem dX12_worthOf_11 : decode cX12_worthOf 11 = .ok (.iload_n 2, 1) := by decide +kernel
theorem dX12_worthOf_12 : decode cX12_worthOf 12 = .ok (.ifCond .ge 8, 3) := by decide +kernel
theorem dX12_worthOf_20 : decode cX12_worthOf 20 = .ok (.aload_n 0, 1) := by decide +kernel
theorem dX12_worthOf_21 : decode cX12_worthOf 21 = .ok (.getfield 143, 3) := by decide +kernel
theorem dX12_worthOf_24 : decode cX12_worthOf 24 = .ok (.bipush 24, 2) := by decide +kernel
theorem dX12_worthOf_26 : decode cX12_worthOf 26 = .ok (.aload_n 0, 1) := by decide +kernel
theorem dX12_worthOf_27 : decode cX12_worthOf 27 = .ok (.invokevirtual 432, 3) := by decide +kernel
theorem dX12_worthOf_30 : decode cX12_worthOf 30 = .ok (.imul, 1) := by decide +kernel
theorem dX12_worthOf_31 : decode cX12_worthOf 31 = .ok (.iload_n 2, 1) := by decide +kernel
theorem dX12_worthOf_32 : decode cX12_worthOf 32 = .ok (.iadd, 1) := by decide +kernel
theorem dX12_worthOf_33 : decode cX12_worthOf 33 = .ok (.iaload, 1) := by decide +kernel
theorem dX12_worthOf_34 : decode cX12_worthOf 34 = .ok (.ireturn, 1) := by decide +kernel
theorem dX12_worthOf_15 : decode cX12_worthOf 15 = .ok (.bipush 10, 2) := by decide +kernel
theorem dX12_worthOf_17 : decode cX12_worthOf 17 = .ok (.goto 17, 3) := by decide +kernel
abbrev cX12_isInView : ByteArray := prog_14_method_56_code
def yX12_isInView : MethodName := ⟨RX12, "isInView", "(I)Z"⟩
theorem okX12_isInView : yok yX12_isInView 1 := by decide +kernel
theorem dX12_isInView_0 : decode cX12_isInView 0 = .ok (.aload_n 0, 1) := by decide +kernel
theorem dX12_isInView_1 : decode cX12_isInView 1 = .ok (.getfield 188, 3) := by decide +kernel
theorem dX12_isInView_4 : decode cX12_isInView 4 = .ok (.iload_n 1, 1) := by decide +kernel
theorem dX12_isInView_5 : decode cX12_isInView 5 = .ok (.iaload, 1) := by decide +kernel
theorem dX12_isInView_6 : decode cX12_isInView 6 = .ok (.aload_n 0, 1) := by decide +kernel
theorem dX12_isInView_7 : decode cX12_isInView 7 = .ok (.invokevirtual 429, 3) := by decide +kernel
theorem dX12_isInView_10 : decode cX12_isInView 10 = .ok (.if_icmp .gt 29, 3) := by decide +kernel
theorem dX12_isInView_39 : decode cX12_isInView 39 = .ok (.iconst 0, 1) := by decide +kernel
theorem dX12_isInView_40 : decode cX12_isInView 40 = .ok (.ireturn, 1) := by decide +kernel
theorem dX12_isInView_13 : decode cX12_isInView 13 = .ok (.aload_n 0, 1) := by decide +kernel
theorem dX12_isInView_14 : decode cX12_isInView 14 = .ok (.getfield 191, 3) := by decide +kernel
theorem dX12_isInView_17 : decode cX12_isInView 17 = .ok (.iload_n 1, 1) := by decide +kernel
theorem dX12_isInView_18 : decode cX12_isInView 18 = .ok (.iaload, 1) := by decide +kernel
theorem dX12_isInView_19 : decode cX12_isInView 19 = .ok (.ifCond .lt 16, 3) := by decide +kernel
theorem dX12_isInView_35 : decode cX12_isInView 35 = .ok (.iconst 1, 1) := by decide +kernel
theorem dX12_isInView_36 : decode cX12_isInView 36 = .ok (.goto 4, 3) := by decide +kernel
theorem dX12_isInView_22 : decode cX12_isInView 22 = .ok (.aload_n 0, 1) := by decide +kernel
theorem dX12_isInView_23 : decode cX12_isInView 23 = .ok (.getfield 191, 3) := by decide +kernel
theorem dX12_isInView_26 : decode cX12_isInView 26 = .ok (.iload_n 1, 1) := by decide +kernel
theorem dX12_isInView_27 : decode cX12_isInView 27 = .ok (.iaload, 1) := by decide +kernel
theorem dX12_isInView_28 : decode cX12_isInView 28 = .ok (.aload_n 0, 1) := by decide +kernel
theorem dX12_isInView_29 : decode cX12_isInView 29 = .ok (.invokevirtual 429, 3) := by decide +kernel
theorem dX12_isInView_32 : decode cX12_isInView 32 = .ok (.if_icmp .le 7, 3) := by decide +kernel
abbrev cX12_says : ByteArray := prog_14_method_57_code
def yX12_says : MethodName := ⟨RX12, "says", "(I)Z"⟩
theorem okX12_says : yok yX12_says 1 := by decide +kernel
theorem dX12_says_0 : decode cX12_says 0 = .ok (.aload_n 0, 1) := by decide +kernel
theorem dX12_says_1 : decode cX12_says 1 = .ok (.iload_n 1, 1) := by decide +kernel
theorem dX12_says_2 : decode cX12_says 2 = .ok (.invokevirtual 447, 3) := by decide +kernel
theorem kw_1965 : Cond.code yX12_isInView prog_14_method_56_code 2 (some .boolean) ∈ uu := uu_in (i := 1965) (by decide +kernel) (by decide +kernel)
theorem kw_1962 : Cond.methodLink "LandSurveyModel" 447 yX12_isInView ∈ uu := uu_in (i := 1962) (by decide +kernel) (by decide +kernel)
theorem kw_1964 : Cond.instanceMethod yX12_isInView ∈ uu := uu_in (i := 1964) (by decide +kernel) (by decide +kernel)
theorem kw_94 : Cond.selects "LandSurveyModel" yX12_isInView yX12_isInView ∈ uu := uu_in (i := 94) (by decide +kernel) (by decide +kernel)
theorem lk_LandSurveyModel_447 : lkV "LandSurveyModel" 447 yX12_isInView cX12_isInView 2 (some .boolean) 1 := ⟨kw_1962, kw_1964, kw_94, kw_152, kw_1965, okX12_isInView⟩
theorem dX12_says_5 : decode cX12_says 5 = .ok (.ifCond .eq 15, 3) := by decide +kernel
theorem dX12_says_20 : decode cX12_says 20 = .ok (.iconst 0, 1) := by decide +kernel
theorem dX12_says_21 : decode cX12_says 21 = .ok (.ireturn, 1) := by decide +kernel
theorem dX12_says_8 : decode cX12_says 8 = .ok (.aload_n 0, 1) := by decide +kernel
theorem dX12_says_9 : decode cX12_says 9 = .ok (.iload_n 1, 1) := by decide +kernel
theorem dX12_says_10 : decode cX12_says 10 = .ok (.invokevirtual 450, 3) := by decide +kernel
theorem kw_1969 : Cond.code yX12_rockOf prog_14_method_54_code 3 (some .int) ∈ uu := uu_in (i := 1969) (by decide +kernel) (by decide +kernel)
theorem kw_1966 : Cond.methodLink "LandSurveyModel" 450 yX12_rockOf ∈ uu := uu_in (i := 1966) (by decide +kernel) (by decide +kernel)
theorem kw_1968 : Cond.instanceMethod yX12_rockOf ∈ uu := uu_in (i := 1968) (by decide +kernel) (by decide +kernel)
theorem kw_95 : Cond.selects "LandSurveyModel" yX12_rockOf yX12_rockOf ∈ uu := uu_in (i := 95) (by decide +kernel) (by decide +kernel)
theorem lk_LandSurveyModel_450 : lkV "LandSurveyModel" 450 yX12_rockOf cX12_rockOf 3 (some .int) 1 := ⟨kw_1966, kw_1968, kw_95, kw_152, kw_1969, okX12_rockOf⟩
theorem dX12_says_13 : decode cX12_says 13 = .ok (.ifCond .lt 7, 3) := by decide +kernel
theorem dX12_says_16 : decode cX12_says 16 = .ok (.iconst 1, 1) := by decide +kernel
theorem dX12_says_17 : decode cX12_says 17 = .ok (.goto 4, 3) := by decide +kernel
abbrev cX12_quarrels : ByteArray := prog_14_method_58_code
def yX12_quarrels : MethodName := ⟨RX12, "quarrels", "(I)Z"⟩
theorem okX12_quarrels : yok yX12_quarrels 1 := by decide +kernel
theorem dX12_quarrels_0 : decode cX12_quarrels 0 = .ok (.aload_n 0, 1) := by decide +kernel
theorem dX12_quarrels_1 : decode cX12_quarrels 1 = .ok (.iload_n 1, 1) := by decide +kernel
theorem dX12_quarrels_2 : decode cX12_quarrels 2 = .ok (.invokevirtual 450, 3) := by decide +kernel
theorem dX12_quarrels_5 : decode cX12_quarrels 5 = .ok (.istore_n 2, 1) := by decide +kernel
theorem dX12_quarrels_6 : decode cX12_quarrels 6 = .ok (.aload_n 0, 1) := by decide +kernel
theorem dX12_quarrels_7 : decode cX12_quarrels 7 = .ok (.invokevirtual 432, 3) := by decide +kernel
theorem dX12_quarrels_10 : decode cX12_quarrels 10 = .ok (.istore_n 3, 1) := by decide +kernel
theorem dX12_quarrels_11 : decode cX12_quarrels 11 = .ok (.iload_n 2, 1) := by decide +kernel
theorem dX12_quarrels_12 : decode cX12_quarrels 12 = .ok (.ifCond .lt 40, 3) := by decide +kernel
theorem dX12_quarrels_52 : decode cX12_quarrels 52 = .ok (.iconst 0, 1) := by decide +kernel
theorem dX12_quarrels_53 : decode cX12_quarrels 53 = .ok (.ireturn, 1) := by decide +kernel
theorem dX12_quarrels_15 : decode cX12_quarrels 15 = .ok (.aload_n 0, 1) := by decide +kernel
theorem dX12_quarrels_16 : decode cX12_quarrels 16 = .ok (.getfield 203, 3) := by decide +kernel
theorem dX12_quarrels_19 : decode cX12_quarrels 19 = .ok (.iload_n 1, 1) := by decide +kernel
theorem dX12_quarrels_20 : decode cX12_quarrels 20 = .ok (.iaload, 1) := by decide +kernel
theorem dX12_quarrels_21 : decode cX12_quarrels 21 = .ok (.ifCond .lt 31, 3) := by decide +kernel
theorem dX12_quarrels_24 : decode cX12_quarrels 24 = .ok (.aload_n 0, 1) := by decide +kernel
theorem dX12_quarrels_25 : decode cX12_quarrels 25 = .ok (.getfield 206, 3) := by decide +kernel
theorem dX12_quarrels_28 : decode cX12_quarrels 28 = .ok (.iload_n 1, 1) := by decide +kernel
theorem dX12_quarrels_29 : decode cX12_quarrels 29 = .ok (.baload, 1) := by decide +kernel
theorem dX12_quarrels_30 : decode cX12_quarrels 30 = .ok (.ifCond .ne 22, 3) := by decide +kernel
theorem dX12_quarrels_33 : decode cX12_quarrels 33 = .ok (.aload_n 0, 1) := by decide +kernel
theorem dX12_quarrels_34 : decode cX12_quarrels 34 = .ok (.getfield 131, 3) := by decide +kernel
theorem kw_1528 : Cond.fieldLink "LandSurveyModel" 131 "LandSurveyModel" "remainFrom" "[I" ∈ uu := uu_in (i := 1528) (by decide +kernel) (by decide +kernel)
theorem fk_LandSurveyModel_131 : fkR "LandSurveyModel" 131 11 22 RX12 TX12 87 := ⟨rfl, rfl, inX12, by decide, kw_1528, by decide⟩
theorem dX12_quarrels_37 : decode cX12_quarrels 37 = .ok (.bipush 10, 2) := by decide +kernel
theorem dX12_quarrels_39 : decode cX12_quarrels 39 = .ok (.iload_n 3, 1) := by decide +kernel
theorem dX12_quarrels_40 : decode cX12_quarrels 40 = .ok (.imul, 1) := by decide +kernel
theorem dX12_quarrels_41 : decode cX12_quarrels 41 = .ok (.aload_n 0, 1) := by decide +kernel
theorem dX12_quarrels_42 : decode cX12_quarrels 42 = .ok (.getfield 203, 3) := by decide +kernel
theorem dX12_quarrels_45 : decode cX12_quarrels 45 = .ok (.iload_n 1, 1) := by decide +kernel
theorem dX12_quarrels_46 : decode cX12_quarrels 46 = .ok (.iaload, 1) := by decide +kernel
theorem dX12_quarrels_47 : decode cX12_quarrels 47 = .ok (.iadd, 1) := by decide +kernel
theorem dX12_quarrels_48 : decode cX12_quarrels 48 = .ok (.iaload, 1) := by decide +kernel
theorem dX12_quarrels_49 : decode cX12_quarrels 49 = .ok (.ifCond .ge 5, 3) := by decide +kernel
theorem dX12_quarrels_54 : decode cX12_quarrels 54 = .ok (.iload_n 2, 1) := by decide +kernel
theorem dX12_quarrels_55 : decode cX12_quarrels 55 = .ok (.aload_n 0, 1) := by decide +kernel
theorem dX12_quarrels_56 : decode cX12_quarrels 56 = .ok (.getfield 131, 3) := by decide +kernel
theorem dX12_quarrels_59 : decode cX12_quarrels 59 = .ok (.bipush 10, 2) := by decide +kernel
theorem dX12_quarrels_61 : decode cX12_quarrels 61 = .ok (.iload_n 3, 1) := by decide +kernel
theorem dX12_quarrels_62 : decode cX12_quarrels 62 = .ok (.imul, 1) := by decide +kernel
theorem dX12_quarrels_63 : decode cX12_quarrels 63 = .ok (.aload_n 0, 1) := by decide +kernel
theorem dX12_quarrels_64 : decode cX12_quarrels 64 = .ok (.getfield 203, 3) := by decide +kernel
theorem dX12_quarrels_67 : decode cX12_quarrels 67 = .ok (.iload_n 1, 1) := by decide +kernel
theorem dX12_quarrels_68 : decode cX12_quarrels 68 = .ok (.iaload, 1) := by decide +kernel
theorem dX12_quarrels_69 : decode cX12_quarrels 69 = .ok (.iadd, 1) := by decide +kernel
theorem dX12_quarrels_70 : decode cX12_quarrels 70 = .ok (.iaload, 1) := by decide +kernel
theorem dX12_quarrels_71 : decode cX12_quarrels 71 = .ok (.aload_n 0, 1) := by decide +kernel
theorem dX12_quarrels_72 : decode cX12_quarrels 72 = .ok (.getfield 134, 3) := by decide +kernel
theorem kw_1529 : Cond.fieldLink "LandSurveyModel" 134 "LandSurveyModel" "remainTo" "[I" ∈ uu := uu_in (i := 1529) (by decide +kernel) (by decide +kernel)
theorem fk_LandSurveyModel_134 : fkR "LandSurveyModel" 134 11 23 RX12 TX12 87 := ⟨rfl, rfl, inX12, by decide, kw_1529, by decide⟩
theorem dX12_quarrels_75 : decode cX12_quarrels 75 = .ok (.bipush 10, 2) := by decide +kernel
theorem dX12_quarrels_77 : decode cX12_quarrels 77 = .ok (.iload_n 3, 1) := by decide +kernel
theorem dX12_quarrels_78 : decode cX12_quarrels 78 = .ok (.imul, 1) := by decide +kernel
theorem dX12_quarrels_79 : decode cX12_quarrels 79 = .ok (.aload_n 0, 1) := by decide +kernel
theorem dX12_quarrels_80 : decode cX12_quarrels 80 = .ok (.getfield 203, 3) := by decide +kernel
theorem dX12_quarrels_83 : decode cX12_quarrels 83 = .ok (.iload_n 1, 1) := by decide +kernel
theorem dX12_quarrels_84 : decode cX12_quarrels 84 = .ok (.iaload, 1) := by decide +kernel
theorem dX12_quarrels_85 : decode cX12_quarrels 85 = .ok (.iadd, 1) := by decide +kernel
theorem dX12_quarrels_86 : decode cX12_quarrels 86 = .ok (.iaload, 1) := by decide +kernel
theorem dX12_quarrels_87 : decode cX12_quarrels 87 = .ok (.invokestatic 415, 3) := by decide +kernel
theorem dX12_quarrels_90 : decode cX12_quarrels 90 = .ok (.ifCond .ne 7, 3) := by decide +kernel
theorem dX12_quarrels_97 : decode cX12_quarrels 97 = .ok (.iconst 0, 1) := by decide +kernel
theorem dX12_quarrels_98 : decode cX12_quarrels 98 = .ok (.ireturn, 1) := by decide +kernel
theorem dX12_quarrels_93 : decode cX12_quarrels 93 = .ok (.iconst 1, 1) := by decide +kernel
theorem dX12_quarrels_94 : decode cX12_quarrels 94 = .ok (.goto 4, 3) := by decide +kernel
abbrev cX12_thinOf : ByteArray := prog_14_method_59_code
def yX12_thinOf : MethodName := ⟨RX12, "thinOf", "(I)I"⟩
theorem okX12_thinOf : yok yX12_thinOf 1 := by decide +kernel
theorem dX12_thinOf_0 : decode cX12_thinOf 0 = .ok (.aload_n 0, 1) := by decide +kernel
theorem dX12_thinOf_1 : decode cX12_thinOf 1 = .ok (.getfield 106, 3) := by decide +kernel
theorem kw_1520 : Cond.fieldLink "LandSurveyModel" 106 "LandSurveyModel" "thin" "[I" ∈ uu := uu_in (i := 1520) (by decide +kernel) (by decide +kernel)
theorem fk_LandSurveyModel_106 : fkR "LandSurveyModel" 106 11 14 RX12 TX12 87 := ⟨rfl, rfl, inX12, by decide, kw_1520, by decide⟩
theorem dX12_thinOf_4 : decode cX12_thinOf 4 = .ok (.bipush 10, 2) := by decide +kernel
theorem dX12_thinOf_6 : decode cX12_thinOf 6 = .ok (.aload_n 0, 1) := by decide +kernel
theorem dX12_thinOf_7 : decode cX12_thinOf 7 = .ok (.invokevirtual 432, 3) := by decide +kernel
theorem dX12_thinOf_10 : decode cX12_thinOf 10 = .ok (.imul, 1) := by decide +kernel
theorem dX12_thinOf_11 : decode cX12_thinOf 11 = .ok (.iload_n 1, 1) := by decide +kernel
theorem dX12_thinOf_12 : decode cX12_thinOf 12 = .ok (.iadd, 1) := by decide +kernel
theorem dX12_thinOf_13 : decode cX12_thinOf 13 = .ok (.iaload, 1) := by decide +kernel
theorem dX12_thinOf_14 : decode cX12_thinOf 14 = .ok (.ireturn, 1) := by decide +kernel
abbrev cX12_thickOf : ByteArray := prog_14_method_60_code
def yX12_thickOf : MethodName := ⟨RX12, "thickOf", "(I)I"⟩
theorem okX12_thickOf : yok yX12_thickOf 1 := by decide +kernel
theorem dX12_thickOf_0 : decode cX12_thickOf 0 = .ok (.aload_n 0, 1) := by decide +kernel
theorem dX12_thickOf_1 : decode cX12_thickOf 1 = .ok (.getfield 109, 3) := by decide +kernel
theorem kw_1521 : Cond.fieldLink "LandSurveyModel" 109 "LandSurveyModel" "thick" "[I" ∈ uu := uu_in (i := 1521) (by decide +kernel) (by decide +kernel)
theorem fk_LandSurveyModel_109 : fkR "LandSurveyModel" 109 11 15 RX12 TX12 87 := ⟨rfl, rfl, inX12, by decide, kw_1521, by decide⟩
theorem dX12_thickOf_4 : decode cX12_thickOf 4 = .ok (.bipush 10, 2) := by decide +kernel
theorem dX12_thickOf_6 : decode cX12_thickOf 6 = .ok (.aload_n 0, 1) := by decide +kernel
theorem dX12_thickOf_7 : decode cX12_thickOf 7 = .ok (.invokevirtual 432, 3) := by decide +kernel
theorem dX12_thickOf_10 : decode cX12_thickOf 10 = .ok (.imul, 1) := by decide +kernel
theorem dX12_thickOf_11 : decode cX12_thickOf 11 = .ok (.iload_n 1, 1) := by decide +kernel
theorem dX12_thickOf_12 : decode cX12_thickOf 12 = .ok (.iadd, 1) := by decide +kernel
theorem dX12_thickOf_13 : decode cX12_thickOf 13 = .ok (.iaload, 1) := by decide +kernel
theorem dX12_thickOf_14 : decode cX12_thickOf 14 = .ok (.ireturn, 1) := by decide +kernel
abbrev cX12_isBelow : ByteArray := prog_14_method_61_code
def yX12_isBelow : MethodName := ⟨RX12, "isBelow", "(III)Z"⟩
theorem okX12_isBelow : yok yX12_isBelow 3 := by decide +kernel
theorem dX12_isBelow_0 : decode cX12_isBelow 0 = .ok (.aload_n 0, 1) := by decide +kernel
theorem dX12_isBelow_1 : decode cX12_isBelow 1 = .ok (.getfield 167, 3) := by decide +kernel
theorem dX12_isBelow_4 : decode cX12_isBelow 4 = .ok (.iload_n 3, 1) := by decide +kernel
theorem dX12_isBelow_5 : decode cX12_isBelow 5 = .ok (.baload, 1) := by decide +kernel
theorem dX12_isBelow_6 : decode cX12_isBelow 6 = .ok (.ifCond .eq 16, 3) := by decide +kernel
theorem dX12_isBelow_22 : decode cX12_isBelow 22 = .ok (.iload_n 1, 1) := by decide +kernel
theorem dX12_isBelow_23 : decode cX12_isBelow 23 = .ok (.iload_n 2, 1) := by decide +kernel
theorem dX12_isBelow_24 : decode cX12_isBelow 24 = .ok (.if_icmp .le 7, 3) := by decide +kernel
theorem dX12_isBelow_31 : decode cX12_isBelow 31 = .ok (.iconst 0, 1) := by decide +kernel
theorem dX12_isBelow_32 : decode cX12_isBelow 32 = .ok (.ireturn, 1) := by decide +kernel
theorem dX12_isBelow_27 : decode cX12_isBelow 27 = .ok (.iconst 1, 1) := by decide +kernel
theorem dX12_isBelow_28 : decode cX12_isBelow 28 = .ok (.goto 4, 3) := by decide +kernel
theorem dX12_isBelow_9 : decode cX12_isBelow 9 = .ok (.iload_n 1, 1) := by decide +kernel
theorem dX12_isBelow_10 : decode cX12_isBelow 10 = .ok (.iload_n 2, 1) := by decide +kernel
theorem dX12_isBelow_11 : decode cX12_isBelow 11 = .ok (.if_icmp .ge 7, 3) := by decide +kernel
theorem dX12_isBelow_18 : decode cX12_isBelow 18 = .ok (.iconst 0, 1) := by decide +kernel
theorem dX12_isBelow_19 : decode cX12_isBelow 19 = .ok (.goto 13, 3) := by decide +kernel
theorem dX12_isBelow_14 : decode cX12_isBelow 14 = .ok (.iconst 1, 1) := by decide +kernel
theorem dX12_isBelow_15 : decode cX12_isBelow 15 = .ok (.goto 17, 3) := by decide +kernel
abbrev cX12_underLow : ByteArray := prog_14_method_62_code
def yX12_underLow : MethodName := ⟨RX12, "underLow", "(II)I"⟩
theorem okX12_underLow : yok yX12_underLow 2 := by decide +kernel
theorem dX12_underLow_0 : decode cX12_underLow 0 = .ok (.iconst 0, 1) := by decide +kernel
theorem dX12_underLow_1 : decode cX12_underLow 1 = .ok (.istore_n 3, 1) := by decide +kernel
theorem dX12_underLow_2 : decode cX12_underLow 2 = .ok (.iconst 0, 1) := by decide +kernel
theorem dX12_underLow_3 : decode cX12_underLow 3 = .ok (.istore 4, 2) := by decide +kernel
theorem dX12_underLow_5 : decode cX12_underLow 5 = .ok (.iload 4, 2) := by decide +kernel
theorem dX12_underLow_7 : decode cX12_underLow 7 = .ok (.aload_n 0, 1) := by decide +kernel
theorem dX12_underLow_8 : decode cX12_underLow 8 = .ok (.invokevirtual 453, 3) := by decide +kernel
theorem kw_1996 : Cond.code yX12_rocksNow prog_14_method_50_code 2 (some .int) ∈ uu := uu_in (i := 1996) (by decide +kernel) (by decide +kernel)
theorem kw_1993 : Cond.methodLink "LandSurveyModel" 453 yX12_rocksNow ∈ uu := uu_in (i := 1993) (by decide +kernel) (by decide +kernel)
theorem kw_1995 : Cond.instanceMethod yX12_rocksNow ∈ uu := uu_in (i := 1995) (by decide +kernel) (by decide +kernel)
theorem kw_101 : Cond.selects "LandSurveyModel" yX12_rocksNow yX12_rocksNow ∈ uu := uu_in (i := 101) (by decide +kernel) (by decide +kernel)
theorem lk_LandSurveyModel_453 : lkV "LandSurveyModel" 453 yX12_rocksNow cX12_rocksNow 2 (some .int) 0 := ⟨kw_1993, kw_1995, kw_101, kw_152, kw_1996, okX12_rocksNow⟩
theorem dX12_underLow_11 : decode cX12_underLow 11 = .ok (.if_icmp .ge 33, 3) := by decide +kernel
theorem dX12_underLow_44 : decode cX12_underLow 44 = .ok (.iload_n 3, 1) := by decide +kernel
theorem dX12_underLow_45 : decode cX12_underLow 45 = .ok (.ireturn, 1) := by decide +kernel
theorem dX12_underLow_14 : decode cX12_underLow 14 = .ok (.iload_n 3, 1) := by decide +kernel
theorem dX12_underLow_15 : decode cX12_underLow 15 = .ok (.aload_n 0, 1) := by decide +kernel
theorem dX12_underLow_16 : decode cX12_underLow 16 = .ok (.iload 4, 2) := by decide +kernel
theorem dX12_underLow_18 : decode cX12_underLow 18 = .ok (.iload_n 1, 1) := by decide +kernel
theorem dX12_underLow_19 : decode cX12_underLow 19 = .ok (.iload_n 2, 1) := by decide +kernel
theorem dX12_underLow_20 : decode cX12_underLow 20 = .ok (.invokevirtual 456, 3) := by decide +kernel
theorem kw_2000 : Cond.code yX12_isBelow prog_14_method_61_code 4 (some .boolean) ∈ uu := uu_in (i := 2000) (by decide +kernel) (by decide +kernel)
theorem kw_1997 : Cond.methodLink "LandSurveyModel" 456 yX12_isBelow ∈ uu := uu_in (i := 1997) (by decide +kernel) (by decide +kernel)
theorem kw_1999 : Cond.instanceMethod yX12_isBelow ∈ uu := uu_in (i := 1999) (by decide +kernel) (by decide +kernel)
theorem kw_102 : Cond.selects "LandSurveyModel" yX12_isBelow yX12_isBelow ∈ uu := uu_in (i := 102) (by decide +kernel) (by decide +kernel)
theorem lk_LandSurveyModel_456 : lkV "LandSurveyModel" 456 yX12_isBelow cX12_isBelow 4 (some .boolean) 3 := ⟨kw_1997, kw_1999, kw_102, kw_152, kw_2000, okX12_isBelow⟩
theorem dX12_underLow_23 : decode cX12_underLow 23 = .ok (.ifCond .eq 12, 3) := by decide +kernel
theorem dX12_underLow_35 : decode cX12_underLow 35 = .ok (.iconst 0, 1) := by decide +kernel
theorem dX12_underLow_36 : decode cX12_underLow 36 = .ok (.iadd, 1) := by decide +kernel
theorem dX12_underLow_37 : decode cX12_underLow 37 = .ok (.istore_n 3, 1) := by decide +kernel
theorem dX12_underLow_38 : decode cX12_underLow 38 = .ok (.iinc 4 1, 3) := by decide +kernel
theorem dX12_underLow_41 : decode cX12_underLow 41 = .ok (.goto (-36), 3) := by decide +kernel
theorem dX12_underLow_26 : decode cX12_underLow 26 = .ok (.aload_n 0, 1) := by decide +kernel
theorem dX12_underLow_27 : decode cX12_underLow 27 = .ok (.iload 4, 2) := by decide +kernel
theorem dX12_underLow_29 : decode cX12_underLow 29 = .ok (.invokevirtual 459, 3) := by decide +kernel
theorem kw_2012 : Cond.code yX12_thinOf prog_14_method_59_code 2 (some .int) ∈ uu := uu_in (i := 2012) (by decide +kernel) (by decide +kernel)
theorem kw_2009 : Cond.methodLink "LandSurveyModel" 459 yX12_thinOf ∈ uu := uu_in (i := 2009) (by decide +kernel) (by decide +kernel)
theorem kw_2011 : Cond.instanceMethod yX12_thinOf ∈ uu := uu_in (i := 2011) (by decide +kernel) (by decide +kernel)
theorem kw_105 : Cond.selects "LandSurveyModel" yX12_thinOf yX12_thinOf ∈ uu := uu_in (i := 105) (by decide +kernel) (by decide +kernel)
theorem lk_LandSurveyModel_459 : lkV "LandSurveyModel" 459 yX12_thinOf cX12_thinOf 2 (some .int) 1 := ⟨kw_2009, kw_2011, kw_105, kw_152, kw_2012, okX12_thinOf⟩
theorem dX12_underLow_32 : decode cX12_underLow 32 = .ok (.goto 4, 3) := by decide +kernel
abbrev cX12_underHigh : ByteArray := prog_14_method_63_code
def yX12_underHigh : MethodName := ⟨RX12, "underHigh", "(II)I"⟩
theorem okX12_underHigh : yok yX12_underHigh 2 := by decide +kernel
theorem dX12_underHigh_0 : decode cX12_underHigh 0 = .ok (.iconst 0, 1) := by decide +kernel
theorem dX12_underHigh_1 : decode cX12_underHigh 1 = .ok (.istore_n 3, 1) := by decide +kernel
theorem dX12_underHigh_2 : decode cX12_underHigh 2 = .ok (.iconst 0, 1) := by decide +kernel
theorem dX12_underHigh_3 : decode cX12_underHigh 3 = .ok (.istore 4, 2) := by decide +kernel
theorem dX12_underHigh_5 : decode cX12_underHigh 5 = .ok (.iload 4, 2) := by decide +kernel
theorem dX12_underHigh_7 : decode cX12_underHigh 7 = .ok (.aload_n 0, 1) := by decide +kernel
theorem dX12_underHigh_8 : decode cX12_underHigh 8 = .ok (.invokevirtual 453, 3) := by decide +kernel
theorem dX12_underHigh_11 : decode cX12_underHigh 11 = .ok (.if_icmp .ge 33, 3) := by decide +kernel
theorem dX12_underHigh_44 : decode cX12_underHigh 44 = .ok (.iload_n 3, 1) := by decide +kernel
theorem dX12_underHigh_45 : decode cX12_underHigh 45 = .ok (.ireturn, 1) := by decide +kernel
theorem dX12_underHigh_14 : decode cX12_underHigh 14 = .ok (.iload_n 3, 1) := by decide +kernel
theorem dX12_underHigh_15 : decode cX12_underHigh 15 = .ok (.aload_n 0, 1) := by decide +kernel
theorem dX12_underHigh_16 : decode cX12_underHigh 16 = .ok (.iload 4, 2) := by decide +kernel
theorem dX12_underHigh_18 : decode cX12_underHigh 18 = .ok (.iload_n 1, 1) := by decide +kernel
theorem dX12_underHigh_19 : decode cX12_underHigh 19 = .ok (.iload_n 2, 1) := by decide +kernel
theorem dX12_underHigh_20 : decode cX12_underHigh 20 = .ok (.invokevirtual 456, 3) := by decide +kernel
theorem dX12_underHigh_23 : decode cX12_underHigh 23 = .ok (.ifCond .eq 12, 3) := by decide +kernel
theorem dX12_underHigh_35 : decode cX12_underHigh 35 = .ok (.iconst 0, 1) := by decide +kernel
theorem dX12_underHigh_36 : decode cX12_underHigh 36 = .ok (.iadd, 1) := by decide +kernel
theorem dX12_underHigh_37 : decode cX12_underHigh 37 = .ok (.istore_n 3, 1) := by decide +kernel
theorem dX12_underHigh_38 : decode cX12_underHigh 38 = .ok (.iinc 4 1, 3) := by decide +kernel
theorem dX12_underHigh_41 : decode cX12_underHigh 41 = .ok (.goto (-36), 3) := by decide +kernel
theorem dX12_underHigh_26 : decode cX12_underHigh 26 = .ok (.aload_n 0, 1) := by decide +kernel
theorem dX12_underHigh_27 : decode cX12_underHigh 27 = .ok (.iload 4, 2) := by decide +kernel
theorem dX12_underHigh_29 : decode cX12_underHigh 29 = .ok (.invokevirtual 462, 3) := by decide +kernel
theorem kw_2004 : Cond.code yX12_thickOf prog_14_method_60_code 2 (some .int) ∈ uu := uu_in (i := 2004) (by decide +kernel) (by decide +kernel)
theorem kw_2001 : Cond.methodLink "LandSurveyModel" 462 yX12_thickOf ∈ uu := uu_in (i := 2001) (by decide +kernel) (by decide +kernel)
theorem kw_2003 : Cond.instanceMethod yX12_thickOf ∈ uu := uu_in (i := 2003) (by decide +kernel) (by decide +kernel)
theorem kw_103 : Cond.selects "LandSurveyModel" yX12_thickOf yX12_thickOf ∈ uu := uu_in (i := 103) (by decide +kernel) (by decide +kernel)
theorem lk_LandSurveyModel_462 : lkV "LandSurveyModel" 462 yX12_thickOf cX12_thickOf 2 (some .int) 1 := ⟨kw_2001, kw_2003, kw_103, kw_152, kw_2004, okX12_thickOf⟩
theorem dX12_underHigh_32 : decode cX12_underHigh 32 = .ok (.goto 4, 3) := by decide +kernel
abbrev cX12_findSaid : ByteArray := prog_14_method_64_code
def yX12_findSaid : MethodName := ⟨RX12, "findSaid", "()V"⟩
theorem okX12_findSaid : yok yX12_findSaid 0 := by decide +kernel
theorem dX12_findSaid_0 : decode cX12_findSaid 0 = .ok (.aload_n 0, 1) := by decide +kernel
theorem dX12_findSaid_1 : decode cX12_findSaid 1 = .ok (.invokevirtual 432, 3) := by decide +kernel
theorem dX12_findSaid_4 : decode cX12_findSaid 4 = .ok (.istore_n 1, 1) := by decide +kernel
theorem dX12_findSaid_5 : decode cX12_findSaid 5 = .ok (.iconst 0, 1) := by decide +kernel
theorem dX12_findSaid_6 : decode cX12_findSaid 6 = .ok (.istore_n 2, 1) := by decide +kernel
theorem dX12_findSaid_7 : decode cX12_findSaid 7 = .ok (.iload_n 2, 1) := by decide +kernel
theorem dX12_findSaid_8 : decode cX12_findSaid 8 = .ok (.aload_n 0, 1) := by decide +kernel
theorem dX12_findSaid_9 : decode cX12_findSaid 9 = .ok (.getfield 423, 3) := by decide +kernel
theorem dX12_findSaid_12 : decode cX12_findSaid 12 = .ok (.if_icmp .ge 136, 3) := by decide +kernel
theorem dX12_findSaid_148 : decode cX12_findSaid 148 = .ok (.return_, 1) := by decide +kernel
theorem dX12_findSaid_15 : decode cX12_findSaid 15 = .ok (.aload_n 0, 1) := by decide +kernel
theorem dX12_findSaid_16 : decode cX12_findSaid 16 = .ok (.getfield 209, 3) := by decide +kernel
theorem dX12_findSaid_19 : decode cX12_findSaid 19 = .ok (.iload_n 2, 1) := by decide +kernel
theorem dX12_findSaid_20 : decode cX12_findSaid 20 = .ok (.aload_n 0, 1) := by decide +kernel
theorem dX12_findSaid_21 : decode cX12_findSaid 21 = .ok (.iload_n 2, 1) := by decide +kernel
theorem dX12_findSaid_22 : decode cX12_findSaid 22 = .ok (.invokevirtual 465, 3) := by decide +kernel
theorem kw_1961 : Cond.code yX12_says prog_14_method_57_code 2 (some .boolean) ∈ uu := uu_in (i := 1961) (by decide +kernel) (by decide +kernel)
theorem kw_1958 : Cond.methodLink "LandSurveyModel" 465 yX12_says ∈ uu := uu_in (i := 1958) (by decide +kernel) (by decide +kernel)
theorem kw_1960 : Cond.instanceMethod yX12_says ∈ uu := uu_in (i := 1960) (by decide +kernel) (by decide +kernel)
theorem kw_93 : Cond.selects "LandSurveyModel" yX12_says yX12_says ∈ uu := uu_in (i := 93) (by decide +kernel) (by decide +kernel)
theorem lk_LandSurveyModel_465 : lkV "LandSurveyModel" 465 yX12_says cX12_says 2 (some .boolean) 1 := ⟨kw_1958, kw_1960, kw_93, kw_152, kw_1961, okX12_says⟩
theorem dX12_findSaid_25 : decode cX12_findSaid 25 = .ok (.bastore, 1) := by decide +kernel
theorem dX12_findSaid_26 : decode cX12_findSaid 26 = .ok (.aload_n 0, 1) := by decide +kernel
theorem dX12_findSaid_27 : decode cX12_findSaid 27 = .ok (.getfield 209, 3) := by decide +kernel
theorem dX12_findSaid_30 : decode cX12_findSaid 30 = .ok (.iload_n 2, 1) := by decide +kernel
theorem dX12_findSaid_31 : decode cX12_findSaid 31 = .ok (.baload, 1) := by decide +kernel
theorem dX12_findSaid_32 : decode cX12_findSaid 32 = .ok (.ifCond .eq 110, 3) := by decide +kernel
theorem dX12_findSaid_142 : decode cX12_findSaid 142 = .ok (.iinc 2 1, 3) := by decide +kernel
theorem dX12_findSaid_145 : decode cX12_findSaid 145 = .ok (.goto (-138), 3) := by decide +kernel
theorem dX12_findSaid_35 : decode cX12_findSaid 35 = .ok (.aload_n 0, 1) := by decide +kernel
theorem dX12_findSaid_36 : decode cX12_findSaid 36 = .ok (.iload_n 2, 1) := by decide +kernel
theorem dX12_findSaid_37 : decode cX12_findSaid 37 = .ok (.invokevirtual 450, 3) := by decide +kernel
theorem dX12_findSaid_40 : decode cX12_findSaid 40 = .ok (.istore_n 3, 1) := by decide +kernel
theorem dX12_findSaid_41 : decode cX12_findSaid 41 = .ok (.aload_n 0, 1) := by decide +kernel
theorem dX12_findSaid_42 : decode cX12_findSaid 42 = .ok (.getfield 176, 3) := by decide +kernel
theorem dX12_findSaid_45 : decode cX12_findSaid 45 = .ok (.iload_n 2, 1) := by decide +kernel
theorem dX12_findSaid_46 : decode cX12_findSaid 46 = .ok (.iaload, 1) := by decide +kernel
theorem dX12_findSaid_47 : decode cX12_findSaid 47 = .ok (.istore 4, 2) := by decide +kernel
theorem dX12_findSaid_49 : decode cX12_findSaid 49 = .ok (.aload_n 0, 1) := by decide +kernel
theorem dX12_findSaid_50 : decode cX12_findSaid 50 = .ok (.getfield 161, 3) := by decide +kernel
theorem dX12_findSaid_53 : decode cX12_findSaid 53 = .ok (.iload 4, 2) := by decide +kernel
theorem dX12_findSaid_55 : decode cX12_findSaid 55 = .ok (.iaload, 1) := by decide +kernel
theorem dX12_findSaid_56 : decode cX12_findSaid 56 = .ok (.aload_n 0, 1) := by decide +kernel
theorem dX12_findSaid_57 : decode cX12_findSaid 57 = .ok (.getfield 179, 3) := by decide +kernel
theorem dX12_findSaid_60 : decode cX12_findSaid 60 = .ok (.iload_n 2, 1) := by decide +kernel
theorem dX12_findSaid_61 : decode cX12_findSaid 61 = .ok (.iaload, 1) := by decide +kernel
theorem dX12_findSaid_62 : decode cX12_findSaid 62 = .ok (.isub, 1) := by decide +kernel
theorem dX12_findSaid_63 : decode cX12_findSaid 63 = .ok (.istore 5, 2) := by decide +kernel
theorem dX12_findSaid_65 : decode cX12_findSaid 65 = .ok (.aload_n 0, 1) := by decide +kernel
theorem dX12_findSaid_66 : decode cX12_findSaid 66 = .ok (.getfield 173, 3) := by decide +kernel
theorem dX12_findSaid_69 : decode cX12_findSaid 69 = .ok (.iload_n 2, 1) := by decide +kernel
theorem dX12_findSaid_70 : decode cX12_findSaid 70 = .ok (.iaload, 1) := by decide +kernel
theorem dX12_findSaid_71 : decode cX12_findSaid 71 = .ok (.iconst 1, 1) := by decide +kernel
theorem dX12_findSaid_72 : decode cX12_findSaid 72 = .ok (.if_icmp .ne 12, 3) := by decide +kernel
theorem dX12_findSaid_84 : decode cX12_findSaid 84 = .ok (.iconst 0, 1) := by decide +kernel
theorem dX12_findSaid_85 : decode cX12_findSaid 85 = .ok (.istore 6, 2) := by decide +kernel
theorem dX12_findSaid_87 : decode cX12_findSaid 87 = .ok (.aload_n 0, 1) := by decide +kernel
theorem dX12_findSaid_88 : decode cX12_findSaid 88 = .ok (.getfield 212, 3) := by decide +kernel
theorem kw_1560 : Cond.fieldLink "LandSurveyModel" 212 "LandSurveyModel" "saysLow" "[I" ∈ uu := uu_in (i := 1560) (by decide +kernel) (by decide +kernel)
theorem fk_LandSurveyModel_212 : fkR "LandSurveyModel" 212 11 54 RX12 TX12 87 := ⟨rfl, rfl, inX12, by decide, kw_1560, by decide⟩
theorem dX12_findSaid_91 : decode cX12_findSaid 91 = .ok (.iload_n 2, 1) := by decide +kernel
theorem dX12_findSaid_92 : decode cX12_findSaid 92 = .ok (.iload 5, 2) := by decide +kernel
theorem dX12_findSaid_94 : decode cX12_findSaid 94 = .ok (.aload_n 0, 1) := by decide +kernel
theorem dX12_findSaid_95 : decode cX12_findSaid 95 = .ok (.iload_n 3, 1) := by decide +kernel
theorem dX12_findSaid_96 : decode cX12_findSaid 96 = .ok (.iload 4, 2) := by decide +kernel
theorem dX12_findSaid_98 : decode cX12_findSaid 98 = .ok (.invokevirtual 468, 3) := by decide +kernel
theorem kw_1992 : Cond.code yX12_underHigh prog_14_method_63_code 5 (some .int) ∈ uu := uu_in (i := 1992) (by decide +kernel) (by decide +kernel)
theorem kw_1989 : Cond.methodLink "LandSurveyModel" 468 yX12_underHigh ∈ uu := uu_in (i := 1989) (by decide +kernel) (by decide +kernel)
theorem kw_1991 : Cond.instanceMethod yX12_underHigh ∈ uu := uu_in (i := 1991) (by decide +kernel) (by decide +kernel)
theorem kw_100 : Cond.selects "LandSurveyModel" yX12_underHigh yX12_underHigh ∈ uu := uu_in (i := 100) (by decide +kernel) (by decide +kernel)
theorem lk_LandSurveyModel_468 : lkV "LandSurveyModel" 468 yX12_underHigh cX12_underHigh 5 (some .int) 2 := ⟨kw_1989, kw_1991, kw_100, kw_152, kw_1992, okX12_underHigh⟩
theorem dX12_findSaid_101 : decode cX12_findSaid 101 = .ok (.isub, 1) := by decide +kernel
theorem dX12_findSaid_102 : decode cX12_findSaid 102 = .ok (.aload_n 0, 1) := by decide +kernel
theorem dX12_findSaid_103 : decode cX12_findSaid 103 = .ok (.iload_n 3, 1) := by decide +kernel
theorem dX12_findSaid_104 : decode cX12_findSaid 104 = .ok (.invokevirtual 462, 3) := by decide +kernel
theorem dX12_findSaid_107 : decode cX12_findSaid 107 = .ok (.isub, 1) := by decide +kernel
theorem dX12_findSaid_108 : decode cX12_findSaid 108 = .ok (.iload 6, 2) := by decide +kernel
theorem dX12_findSaid_110 : decode cX12_findSaid 110 = .ok (.isub, 1) := by decide +kernel
theorem dX12_findSaid_111 : decode cX12_findSaid 111 = .ok (.iastore, 1) := by decide +kernel
theorem dX12_findSaid_112 : decode cX12_findSaid 112 = .ok (.aload_n 0, 1) := by decide +kernel
theorem dX12_findSaid_113 : decode cX12_findSaid 113 = .ok (.getfield 215, 3) := by decide +kernel
theorem kw_1561 : Cond.fieldLink "LandSurveyModel" 215 "LandSurveyModel" "saysHigh" "[I" ∈ uu := uu_in (i := 1561) (by decide +kernel) (by decide +kernel)
theorem fk_LandSurveyModel_215 : fkR "LandSurveyModel" 215 11 55 RX12 TX12 87 := ⟨rfl, rfl, inX12, by decide, kw_1561, by decide⟩
theorem dX12_findSaid_116 : decode cX12_findSaid 116 = .ok (.iload_n 2, 1) := by decide +kernel
theorem dX12_findSaid_117 : decode cX12_findSaid 117 = .ok (.iload 5, 2) := by decide +kernel
theorem dX12_findSaid_119 : decode cX12_findSaid 119 = .ok (.aload_n 0, 1) := by decide +kernel
theorem dX12_findSaid_120 : decode cX12_findSaid 120 = .ok (.iload_n 3, 1) := by decide +kernel
theorem dX12_findSaid_121 : decode cX12_findSaid 121 = .ok (.iload 4, 2) := by decide +kernel
theorem dX12_findSaid_123 : decode cX12_findSaid 123 = .ok (.invokevirtual 471, 3) := by decide +kernel
theorem kw_2008 : Cond.code yX12_underLow prog_14_method_62_code 5 (some .int) ∈ uu := uu_in (i := 2008) (by decide +kernel) (by decide +kernel)
theorem kw_2005 : Cond.methodLink "LandSurveyModel" 471 yX12_underLow ∈ uu := uu_in (i := 2005) (by decide +kernel) (by decide +kernel)
theorem kw_2007 : Cond.instanceMethod yX12_underLow ∈ uu := uu_in (i := 2007) (by decide +kernel) (by decide +kernel)
theorem kw_104 : Cond.selects "LandSurveyModel" yX12_underLow yX12_underLow ∈ uu := uu_in (i := 104) (by decide +kernel) (by decide +kernel)
theorem lk_LandSurveyModel_471 : lkV "LandSurveyModel" 471 yX12_underLow cX12_underLow 5 (some .int) 2 := ⟨kw_2005, kw_2007, kw_104, kw_152, kw_2008, okX12_underLow⟩
theorem dX12_findSaid_126 : decode cX12_findSaid 126 = .ok (.isub, 1) := by decide +kernel
theorem dX12_findSaid_127 : decode cX12_findSaid 127 = .ok (.iload 6, 2) := by decide +kernel
theorem dX12_findSaid_129 : decode cX12_findSaid 129 = .ok (.iadd, 1) := by decide +kernel
theorem dX12_findSaid_130 : decode cX12_findSaid 130 = .ok (.iastore, 1) := by decide +kernel
theorem dX12_findSaid_131 : decode cX12_findSaid 131 = .ok (.aload_n 0, 1) := by decide +kernel
theorem dX12_findSaid_132 : decode cX12_findSaid 132 = .ok (.getfield 218, 3) := by decide +kernel
theorem kw_1562 : Cond.fieldLink "LandSurveyModel" 218 "LandSurveyModel" "worths" "[I" ∈ uu := uu_in (i := 1562) (by decide +kernel) (by decide +kernel)
theorem fk_LandSurveyModel_218 : fkR "LandSurveyModel" 218 11 56 RX12 TX12 87 := ⟨rfl, rfl, inX12, by decide, kw_1562, by decide⟩
theorem dX12_findSaid_135 : decode cX12_findSaid 135 = .ok (.iload_n 2, 1) := by decide +kernel
theorem dX12_findSaid_136 : decode cX12_findSaid 136 = .ok (.aload_n 0, 1) := by decide +kernel
theorem dX12_findSaid_137 : decode cX12_findSaid 137 = .ok (.iload_n 2, 1) := by decide +kernel
theorem dX12_findSaid_138 : decode cX12_findSaid 138 = .ok (.invokevirtual 474, 3) := by decide +kernel
theorem kw_2016 : Cond.code yX12_worthOf prog_14_method_55_code 3 (some .int) ∈ uu := uu_in (i := 2016) (by decide +kernel) (by decide +kernel)
theorem kw_2013 : Cond.methodLink "LandSurveyModel" 474 yX12_worthOf ∈ uu := uu_in (i := 2013) (by decide +kernel) (by decide +kernel)
theorem kw_2015 : Cond.instanceMethod yX12_worthOf ∈ uu := uu_in (i := 2015) (by decide +kernel) (by decide +kernel)
theorem kw_106 : Cond.selects "LandSurveyModel" yX12_worthOf yX12_worthOf ∈ uu := uu_in (i := 106) (by decide +kernel) (by decide +kernel)
theorem lk_LandSurveyModel_474 : lkV "LandSurveyModel" 474 yX12_worthOf cX12_worthOf 3 (some .int) 1 := ⟨kw_2013, kw_2015, kw_106, kw_152, kw_2016, okX12_worthOf⟩
theorem dX12_findSaid_141 : decode cX12_findSaid 141 = .ok (.iastore, 1) := by decide +kernel
theorem dX12_findSaid_75 : decode cX12_findSaid 75 = .ok (.aload_n 0, 1) := by decide +kernel
theorem dX12_findSaid_76 : decode cX12_findSaid 76 = .ok (.getfield 128, 3) := by decide +kernel
theorem kw_1527 : Cond.fieldLink "LandSurveyModel" 128 "LandSurveyModel" "drift" "[I" ∈ uu := uu_in (i := 1527) (by decide +kernel) (by decide +kernel)
theorem fk_LandSurveyModel_128 : fkR "LandSurveyModel" 128 11 21 RX12 TX12 87 := ⟨rfl, rfl, inX12, by decide, kw_1527, by decide⟩
theorem dX12_findSaid_79 : decode cX12_findSaid 79 = .ok (.iload_n 1, 1) := by decide +kernel
theorem dX12_findSaid_80 : decode cX12_findSaid 80 = .ok (.iaload, 1) := by decide +kernel
theorem dX12_findSaid_81 : decode cX12_findSaid 81 = .ok (.goto 4, 3) := by decide +kernel
def wr_k_X12_viewDay : List Nat := []
set_option maxRecDepth 100000 in
set_option maxHeartbeats 4000000 in
theorem k_X12_viewDay (l : Launch) (D : va_G) (cy : Nat → ClassId) (w : Nat → Nat) (z0 : Nat)  {h : Hp} {a0 : Nat}  (O : Okh h) (ta0 : Tg h a0 = 12) : MI l D cy w z0 yX12_viewDay cX12_viewDay 1 (some .int) 0 0 0 0 [.inr (.inr a0)] h (fun v h1 => Okh h1 ∧ Fx wr_k_X12_viewDay h h1 ∧ (0 ≤ v ∧ v ≤ 9999) ∧ (v = VDf (Iv h a0 34) (Iv h a0 33))) := by
  refine hm_go (by decide +kernel) (Nat.le_of_ble_eq_true rfl) (fun p e s m below meth c C hr hn => ?_)
  obtain ⟨v1, e2⟩ : ∃ z, Iv h a0 34 = z := ⟨_, rfl⟩
  have f3 := ok_I O ta0 rI_12_34 e2
  obtain ⟨v4, e5⟩ : ∃ z, Iv h a0 33 = z := ⟨_, rfl⟩
  have f6 := ok_I O ta0 rI_12_33 e5
  refine g_aload_n C rfl 0 rfl dX12_viewDay_0 ?_
  refine gf_I C fk_LandSurveyModel_287 rfl ta0 e2 dX12_viewDay_1 ?_
  refine g_if_ge C (iw f3 (by decide) (by decide)) 14 (by decide) dX12_viewDay_4 (fun q7 => ?_) (fun q8 => ?_)
  · have f9 : (0 : Int) ≤ v1 ∧ v1 ≤ (9999 : Int) := r_ge f3 (il 0) q7 (by decide) (by decide)
    refine g_aload_n C rfl 0 rfl dX12_viewDay_14 ?_
    refine gf_I C fk_LandSurveyModel_287 rfl ta0 e2 dX12_viewDay_15 ?_
    exact g_iret C hr rfl (iw f9 (by decide) (by decide)) ⟨O, Fx.rf, f9, (by unfold VDf; rw [e2, e5]; split <;> omega)⟩ (by decide) (by decide) dX12_viewDay_18
  · have f10 : (-1 : Int) ≤ v1 ∧ v1 ≤ (-1 : Int) := r_lt f3 (il 0) q8 (by decide) (by decide)
    refine g_aload_n C rfl 0 rfl dX12_viewDay_7 ?_
    refine gf_I C fk_LandSurveyModel_342 rfl ta0 e5 dX12_viewDay_8 ?_
    refine g_goto C 18 (by decide) dX12_viewDay_11 ?_
    exact g_iret C hr rfl (iw f6 (by decide) (by decide)) ⟨O, Fx.rf, f6, (by unfold VDf; rw [e2, e5]; split <;> omega)⟩ (by decide) (by decide) dX12_viewDay_18
def wr_k_X12_bookNow : List Nat := []
set_option maxRecDepth 100000 in
set_option maxHeartbeats 4000000 in
theorem k_X12_bookNow (l : Launch) (D : va_G) (cy : Nat → ClassId) (w : Nat → Nat) (z0 : Nat)  {h : Hp} {a0 : Nat}  (O : Okh h) (ta0 : Tg h a0 = 12) : MI l D cy w z0 yX12_bookNow cX12_bookNow 3 (some .int) 1 20 0 0 [.inr (.inr a0)] h (fun v h1 => Okh h1 ∧ Fx wr_k_X12_bookNow h h1 ∧ ((-1) ≤ v ∧ v ≤ 7) ∧ (v = BNow h a0)) := by
  refine hm_go (by decide +kernel) (Nat.le_of_ble_eq_true rfl) (fun p e s m below meth c C hr hn => ?_)
  obtain ⟨v1, e2⟩ : ∃ z, Iv h a0 34 = z := ⟨_, rfl⟩
  have f3 := ok_I O ta0 rI_12_34 e2
  obtain ⟨v4, e5⟩ : ∃ z, Iv h a0 33 = z := ⟨_, rfl⟩
  have f6 := ok_I O ta0 rI_12_33 e5
  obtain ⟨v7, e8⟩ : ∃ z, Iv h a0 10 = z := ⟨_, rfl⟩
  have f9 := ok_I O ta0 rI_12_10 e8
  obtain ⟨v10, e11⟩ : ∃ z, Rv h a0 11 = z := ⟨_, rfl⟩
  have t12 := ok_R O ta0 rE_12_11 e11
  have l13 := ok_L O ta0 rE_12_11 e11
  refine g_iconst C dX12_bookNow_0 ?_
  refine g_istore_n C [(1, .inl (-1)), (0, .inr (.inr a0))] rfl (by decide) rfl dX12_bookNow_1 ?_
  refine g_iconst C dX12_bookNow_2 ?_
  refine g_istore_n C [(2, .inl 0), (1, .inl (-1)), (0, .inr (.inr a0))] rfl (by decide) rfl dX12_bookNow_3 ?_
  refine GW.sub [2, 1, 0] rfl ?_
  -- loop at 4
  have L17 : ∀ (μ : Nat) (x14 : Int) (x15 : Int) (h16 : Hp), (8 - x15).toNat = μ → Okh h16 → Fx [] h h16 → ((-1 : Int) ≤ x14 ∧ x14 ≤ (7 : Int)) → ((0 : Int) ≤ x15 ∧ x15 ≤ (8 : Int)) → (x14 = bkF (Iv h (Rv h a0 11)) (VDf (Iv h a0 34) (Iv h a0 33)) x15.toNat) → (x15 ≤ Iv h a0 10) → GW p l e (rmm 1 20 0 0) s m (List.map toV [.inr (.inr a0)]).toArray below meth c D cy z0 3 (MQ below (QI D cy z0 (fun v h1 => Okh h1 ∧ Fx wr_k_X12_bookNow h h1 ∧ ((-1) ≤ v ∧ v ≤ 7) ∧ (v = BNow h a0))) (List.map toV [.inr (.inr a0)]).toArray s 0 0 (Aof z0)) 4 [(0, .inr (.inr a0)), (1, .inl x14), (2, .inl x15)] [] h16 0 0 := by
    intro μ
    induction μ using Nat.strongRecOn with
    | ind μ ih18 =>
      intro x14 x15 h16 hm19 O20 F21 f22 f23 p24 p25
      have hbl := p25; rw [e8] at hbl
      refine g_iload_n C rfl 2 rfl dX12_bookNow_4 ?_
      refine g_aload_n C rfl 0 rfl dX12_bookNow_5 ?_
      have e26 : Tg h16 a0 = 12 := (fxT F21 ta0)
      have e27 : Iv h16 a0 10 = v7 := ((fxI F21 ta0 rfl).trans e8)
      refine gf_I C fk_LandSurveyModel_339 rfl e26 e27 dX12_bookNow_6 ?_
      refine g_icmp_ge C (iw f23 (by decide) (by decide)) (iw f9 (by decide) (by decide)) 37 (by decide) dX12_bookNow_9 (fun q28 => ?_) (fun q29 => ?_)
      · refine g_iload_n C rfl 1 rfl dX12_bookNow_37 ?_
        exact g_iret C hr rfl (iw f22 (by decide) (by decide)) ⟨O20, ((Fx.rf (wr := wr_k_X12_bookNow)).call F21 rfl), f22, (by unfold BNow; rw [e8, show v7.toNat = x15.toNat by omega]; exact p24)⟩ (by decide) (by decide) dX12_bookNow_38
      · have f30 : (0 : Int) ≤ x15 ∧ x15 ≤ (7 : Int) := r_lt f23 f9 q29 (by decide) (by decide)
        have f31 : (1 : Int) ≤ v7 ∧ v7 ≤ (8 : Int) := r_gt f9 f23 q29 (by decide) (by decide)
        refine g_aload_n C rfl 0 rfl dX12_bookNow_12 ?_
        have e32 : Rv h16 a0 11 = v10 := ((fxR F21 ta0 rfl).trans e11)
        refine gf_R C fk_LandSurveyModel_97 rfl e26 e32 dX12_bookNow_13 ?_
        refine g_iload_n C rfl 2 rfl dX12_bookNow_16 ?_
        have e33 : Tg h16 v10 = 111100 := (fxT F21 t12)
        have e34 : Ln h16 v10 = 9 := ((fxL F21 t12).trans l13)
        obtain ⟨v35, e36⟩ : ∃ z, Iv h16 v10 x15.toNat = z := ⟨_, rfl⟩
        have f37 := ok_Ia O20 e33 ar_111100 rI_111100_0 e36
        refine g_iald C e33 rfl e34 (ix f30 (by decide) (by decide)) e36 dX12_bookNow_17 ?_
        refine g_aload_n C rfl 0 rfl dX12_bookNow_18 ?_
        refine g_callI (st := [.inl v35]) (gc_V C lk_LandSurveyModel_429 (k_X12_viewDay l D cy w z0 O20 e26) e26 rfl rfl rfl ⟨by decide, by decide⟩ (Nat.le_of_ble_eq_true rfl) dX12_bookNow_19 ⟨(by decide), (by decide)⟩) (fun r38 h39 f41 K40 => ?_)
        obtain ⟨O42, F43, f44, p45⟩ := K40
        have e46 : Iv h16 a0 34 = v1 := ((fxI F21 ta0 rfl).trans e2)
        have e47 : Iv h16 a0 33 = v4 := ((fxI F21 ta0 rfl).trans e5)
        rw [e46, e47] at p45
        refine g_icmp_gt C (iw f37 (by decide) (by decide)) (iw f44 (by decide) (by decide)) 29 (by decide) dX12_bookNow_22 (fun q48 => ?_) (fun q49 => ?_)
        · have f50 : (0 : Int) ≤ r38 ∧ r38 ≤ (9998 : Int) := r_lt f44 f37 q48 (by decide) (by decide)
          have f51 : (1 : Int) ≤ v35 ∧ v35 ≤ (9999 : Int) := r_gt f37 f44 q48 (by decide) (by decide)
          refine g_iload_n C rfl 1 rfl dX12_bookNow_29 ?_
          refine g_istore_n C [(1, .inl x14), (0, .inr (.inr a0)), (2, .inl x15)] rfl (by decide) rfl dX12_bookNow_30 ?_
          have f52 : (1 : Int) ≤ (x15 + 1) ∧ (x15 + 1) ≤ (8 : Int) := ia_add f30 (il 1) (by decide) (by decide)
          refine g_iinc C [(2, .inl (x15 + 1)), (1, .inl x14), (0, .inr (.inr a0))] 2 rfl (by decide) rfl dX12_bookNow_31 ?_
          refine g_goto C 4 (by decide) dX12_bookNow_34 ?_
          refine GW.sub [2, 1, 0] rfl ?_
          have e53 : Rv h39 a0 11 = v10 := ((fxR F43 e26 rfl).trans e32)
          have e54 : Iv h39 v10 x15.toNat = v35 := ((fxIa F43 e33 ar_111100 rfl).trans e36)
          have E55 : Iv h39 (Rv h39 a0 11) = Iv h (Rv h a0 11) := mAI (j := 11) O (((Fx.rf (wr := []) (h := h)).call F21 rfl).call F43 rfl) ta0 rE_12_11 ar_111100 rfl rfl
          have q56 : Iv h (Rv h a0 11) x15.toNat = v35 := by rw [← E55, e53]; exact e54
          exact ih18 _ (by omega) x14 (x15 + 1) h39 rfl O42 (F21.call F43 rfl) f22 (iw f52 (by decide) (by decide)) (bkF_no (by omega) (by rw [q56, e2, e5]; omega) p24) (by rw [e8]; omega)
        · refine g_iload_n C rfl 2 rfl dX12_bookNow_25 ?_
          refine g_goto C 30 (by decide) dX12_bookNow_26 ?_
          refine g_istore_n C [(1, .inl x15), (0, .inr (.inr a0)), (2, .inl x15)] rfl (by decide) rfl dX12_bookNow_30 ?_
          have f57 : (1 : Int) ≤ (x15 + 1) ∧ (x15 + 1) ≤ (8 : Int) := ia_add f30 (il 1) (by decide) (by decide)
          refine g_iinc C [(2, .inl (x15 + 1)), (1, .inl x15), (0, .inr (.inr a0))] 2 rfl (by decide) rfl dX12_bookNow_31 ?_
          refine g_goto C 4 (by decide) dX12_bookNow_34 ?_
          refine GW.sub [2, 1, 0] rfl ?_
          have e58 : Rv h39 a0 11 = v10 := ((fxR F43 e26 rfl).trans e32)
          have e59 : Iv h39 v10 x15.toNat = v35 := ((fxIa F43 e33 ar_111100 rfl).trans e36)
          have E60 : Iv h39 (Rv h39 a0 11) = Iv h (Rv h a0 11) := mAI (j := 11) O (((Fx.rf (wr := []) (h := h)).call F21 rfl).call F43 rfl) ta0 rE_12_11 ar_111100 rfl rfl
          have q61 : Iv h (Rv h a0 11) x15.toNat = v35 := by rw [← E60, e58]; exact e59
          exact ih18 _ (by omega) x15 (x15 + 1) h39 rfl O42 (F21.call F43 rfl) (iw f30 (by decide) (by decide)) (iw f57 (by decide) (by decide)) (bkF_yes (by omega) (by rw [q61, e2, e5]; omega)) (by rw [e8]; omega)
  exact L17 _ (-1) 0 h rfl O Fx.rf (iw (il (-1)) (by decide) (by decide)) (iw (il 0) (by decide) (by decide)) (by rfl) (by rw [e8]; omega)
def wr_k_X12_rocksNow : List Nat := []
set_option maxRecDepth 100000 in
set_option maxHeartbeats 4000000 in
theorem k_X12_rocksNow (l : Launch) (D : va_G) (cy : Nat → ClassId) (w : Nat → Nat) (z0 : Nat)  {h : Hp} {a0 : Nat}  (O : Okh h) (ta0 : Tg h a0 = 12) : MI l D cy w z0 yX12_rocksNow cX12_rocksNow 2 (some .int) 2 42 0 0 [.inr (.inr a0)] h (fun v h1 => Okh h1 ∧ Fx wr_k_X12_rocksNow h h1 ∧ (0 ≤ v ∧ v ≤ 10) ∧ (v = 0 ∨ 0 ≤ BNow h a0)) := by
  refine hm_go (by decide +kernel) (Nat.le_of_ble_eq_true rfl) (fun p e s m below meth c C hr hn => ?_)
  obtain ⟨v1, e2⟩ : ∃ z, BNow h a0 = z := ⟨_, rfl⟩
  have f3 : (-1 : Int) ≤ v1 ∧ v1 ≤ (7 : Int) := BNow_rng O ta0 e2
  refine g_aload_n C rfl 0 rfl dX12_rocksNow_0 ?_
  refine g_callI (st := []) (gc_V C lk_LandSurveyModel_432 (k_X12_bookNow l D cy w z0 O ta0) ta0 rfl rfl rfl ⟨by decide, by decide⟩ (Nat.le_of_ble_eq_true rfl) dX12_rocksNow_1 ⟨(by decide), (by decide)⟩) (fun r4 h5 f7 K6 => ?_)
  obtain ⟨O8, F9, f10, p11⟩ := K6
  rw [e2] at p11
  have f12 : (-1 : Int) ≤ r4 ∧ r4 ≤ (7 : Int) := by omega
  refine g_istore_n C [(1, .inl r4), (0, .inr (.inr a0))] rfl (by decide) rfl dX12_rocksNow_4 ?_
  refine g_iload_n C rfl 0 rfl dX12_rocksNow_5 ?_
  refine g_if_ge C (iw f12 (by decide) (by decide)) 13 (by decide) dX12_rocksNow_6 (fun q13 => ?_) (fun q14 => ?_)
  · have f15 : (0 : Int) ≤ r4 ∧ r4 ≤ (7 : Int) := r_ge f12 (il 0) q13 (by decide) (by decide)
    refine g_aload_n C rfl 1 rfl dX12_rocksNow_13 ?_
    have e16 : Tg h5 a0 = 12 := (fxT F9 ta0)
    obtain ⟨v17, e18⟩ : ∃ z, Rv h5 a0 12 = z := ⟨_, rfl⟩
    have t19 := ok_R O8 e16 rE_12_12 e18
    have l20 := ok_L O8 e16 rE_12_12 e18
    refine gf_R C fk_LandSurveyModel_100 rfl e16 e18 dX12_rocksNow_14 ?_
    refine g_iload_n C rfl 0 rfl dX12_rocksNow_17 ?_
    obtain ⟨v21, e22⟩ : ∃ z, Iv h5 v17 r4.toNat = z := ⟨_, rfl⟩
    have f23 := ok_Ia O8 t19 ar_112100 rI_112100_0 e22
    refine g_iald C t19 rfl l20 (ix f15 (by decide) (by decide)) e22 dX12_rocksNow_18 ?_
    exact g_iret C hr rfl (iw f23 (by decide) (by decide)) ⟨O8, ((Fx.rf (wr := wr_k_X12_rocksNow)).call F9 rfl), f23, (by rw [e2]; omega)⟩ (by decide) (by decide) dX12_rocksNow_19
  · have f24 : (-1 : Int) ≤ r4 ∧ r4 ≤ (-1 : Int) := r_lt f12 (il 0) q14 (by decide) (by decide)
    refine g_iconst C dX12_rocksNow_9 ?_
    refine g_goto C 19 (by decide) dX12_rocksNow_10 ?_
    exact g_iret C hr rfl (iw (il 0) (by decide) (by decide)) ⟨O8, ((Fx.rf (wr := wr_k_X12_rocksNow)).call F9 rfl), (iw (il 0) (by decide) (by decide)), (by rw [e2]; omega)⟩ (by decide) (by decide) dX12_rocksNow_19
def wr_k_X12_both : List Nat := []
set_option maxRecDepth 100000 in
set_option maxHeartbeats 4000000 in
theorem k_X12_both (l : Launch) (D : va_G) (cy : Nat → ClassId) (w : Nat → Nat) (z0 : Nat)  {h : Hp} {a0 : Int} {a1 : Int} {a2 : Int}  (O : Okh h) (fa0 : (-2147483648) ≤ a0 ∧ a0 ≤ 2147483647) (fa1 : (-2147483648) ≤ a1 ∧ a1 ≤ 2147483647) (fa2 : (-2147483648) ≤ a2 ∧ a2 ≤ 2147483647) : MI l D cy w z0 yX12_both cX12_both 3 (some .int) 0 0 0 0 [.inl a0, .inl a1, .inl a2] h (fun v h1 => Okh h1 ∧ Fx wr_k_X12_both h h1 ∧ ((-2147483648) ≤ v ∧ v ≤ 2147483647) ∧ (v = bothF a0 a1 a2)) := by
  refine hm_go (by decide +kernel) (Nat.le_of_ble_eq_true rfl) (fun p e s m below meth c C hr hn => ?_)
  refine g_iload_n C rfl 0 rfl dX12_both_0 ?_
  rcases Classical.em (a0 = 4) with q1 | q2
  · refine g_tin (kv := 4) C q1 (by decide) 36 (by decide) (by decide) rfl (by decide) dX12_both_1 ?_
    have f3 : (4 : Int) ≤ a0 ∧ a0 ≤ (4 : Int) := ii fa0 (r_eq (il 4) q1) (by decide) (by decide)
    refine g_iload_n C rfl 1 rfl dX12_both_36 ?_
    refine g_iload_n C rfl 2 rfl dX12_both_37 ?_
    have f4 : (-2147483648 : Int) ≤ (w32 (a1 + a2)) ∧ (w32 (a1 + a2)) ≤ (2147483647 : Int) := w32_inR _
    refine g_iaddW C dX12_both_38 ?_
    exact g_iret C hr rfl f4 ⟨O, Fx.rf, f4, (by unfold bothF; (repeat (first | rw [if_pos (by omega)] | rw [if_neg (by omega)])))⟩ (by decide) (by decide) dX12_both_39
  · rcases Classical.em (a0 = 5) with q5 | q6
    · refine g_tin (kv := 5) C q5 (by decide) 40 (by decide) (by decide) rfl (by decide) dX12_both_1 ?_
      have f7 : (5 : Int) ≤ a0 ∧ a0 ≤ (5 : Int) := ii fa0 (r_eq (il 5) q5) (by decide) (by decide)
      refine g_iload_n C rfl 1 rfl dX12_both_40 ?_
      refine g_iload_n C rfl 2 rfl dX12_both_41 ?_
      have f8 : (-2147483648 : Int) ≤ (w32 (a1 - a2)) ∧ (w32 (a1 - a2)) ≤ (2147483647 : Int) := w32_inR _
      refine g_isubW C dX12_both_42 ?_
      exact g_iret C hr rfl f8 ⟨O, Fx.rf, f8, (by unfold bothF; (repeat (first | rw [if_pos (by omega)] | rw [if_neg (by omega)])))⟩ (by decide) (by decide) dX12_both_43
    · rcases Classical.em (a0 = 6) with q9 | q10
      · refine g_tin (kv := 6) C q9 (by decide) 44 (by decide) (by decide) rfl (by decide) dX12_both_1 ?_
        have f11 : (6 : Int) ≤ a0 ∧ a0 ≤ (6 : Int) := ii fa0 (r_eq (il 6) q9) (by decide) (by decide)
        refine g_iload_n C rfl 1 rfl dX12_both_44 ?_
        refine g_iload_n C rfl 2 rfl dX12_both_45 ?_
        refine g_icmp_ge C fa1 fa2 53 (by decide) dX12_both_46 (fun q12 => ?_) (fun q13 => ?_)
        · refine g_iconst C dX12_both_53 ?_
          exact g_iret C hr rfl (iw (il 0) (by decide) (by decide)) ⟨O, Fx.rf, (iw (il 0) (by decide) (by decide)), (by unfold bothF; (repeat (first | rw [if_pos (by omega)] | rw [if_neg (by omega)])))⟩ (by decide) (by decide) dX12_both_54
        · have f14 : (-2147483648 : Int) ≤ a1 ∧ a1 ≤ (2147483646 : Int) := r_lt fa1 fa2 q13 (by decide) (by decide)
          have f15 : (-2147483647 : Int) ≤ a2 ∧ a2 ≤ (2147483647 : Int) := r_gt fa2 fa1 q13 (by decide) (by decide)
          refine g_iconst C dX12_both_49 ?_
          refine g_goto C 54 (by decide) dX12_both_50 ?_
          exact g_iret C hr rfl (iw (il 1) (by decide) (by decide)) ⟨O, Fx.rf, (iw (il 1) (by decide) (by decide)), (by unfold bothF; (repeat (first | rw [if_pos (by omega)] | rw [if_neg (by omega)])))⟩ (by decide) (by decide) dX12_both_54
      · rcases Classical.em (a0 = 7) with q16 | q17
        · refine g_tin (kv := 7) C q16 (by decide) 55 (by decide) (by decide) rfl (by decide) dX12_both_1 ?_
          have f18 : (7 : Int) ≤ a0 ∧ a0 ≤ (7 : Int) := ii fa0 (r_eq (il 7) q16) (by decide) (by decide)
          refine g_iload_n C rfl 1 rfl dX12_both_55 ?_
          refine g_iload_n C rfl 2 rfl dX12_both_56 ?_
          refine g_icmp_ne C fa1 fa2 64 (by decide) dX12_both_57 (fun q19 => ?_) (fun q20 => ?_)
          · refine g_iconst C dX12_both_64 ?_
            exact g_iret C hr rfl (iw (il 0) (by decide) (by decide)) ⟨O, Fx.rf, (iw (il 0) (by decide) (by decide)), (by unfold bothF; (repeat (first | rw [if_pos (by omega)] | rw [if_neg (by omega)])))⟩ (by decide) (by decide) dX12_both_65
          · refine g_iconst C dX12_both_60 ?_
            refine g_goto C 65 (by decide) dX12_both_61 ?_
            exact g_iret C hr rfl (iw (il 1) (by decide) (by decide)) ⟨O, Fx.rf, (iw (il 1) (by decide) (by decide)), (by unfold bothF; (repeat (first | rw [if_pos (by omega)] | rw [if_neg (by omega)])))⟩ (by decide) (by decide) dX12_both_65
        · rcases Classical.em (a0 = 8) with q21 | q22
          · refine g_tin (kv := 8) C q21 (by decide) 66 (by decide) (by decide) rfl (by decide) dX12_both_1 ?_
            have f23 : (8 : Int) ≤ a0 ∧ a0 ≤ (8 : Int) := ii fa0 (r_eq (il 8) q21) (by decide) (by decide)
            refine g_iload_n C rfl 1 rfl dX12_both_66 ?_
            refine g_if_eq C fa1 78 (by decide) dX12_both_67 (fun q24 => ?_) (fun q25 => ?_)
            · have f26 : (0 : Int) ≤ a1 ∧ a1 ≤ (0 : Int) := ii fa1 (r_eq (il 0) q24) (by decide) (by decide)
              refine g_iconst C dX12_both_78 ?_
              exact g_iret C hr rfl (iw (il 0) (by decide) (by decide)) ⟨O, Fx.rf, (iw (il 0) (by decide) (by decide)), (by unfold bothF; (repeat (first | rw [if_pos (by omega)] | rw [if_neg (by omega)])))⟩ (by decide) (by decide) dX12_both_79
            · refine g_iload_n C rfl 2 rfl dX12_both_70 ?_
              refine g_if_eq C fa2 78 (by decide) dX12_both_71 (fun q27 => ?_) (fun q28 => ?_)
              · have f29 : (0 : Int) ≤ a2 ∧ a2 ≤ (0 : Int) := ii fa2 (r_eq (il 0) q27) (by decide) (by decide)
                refine g_iconst C dX12_both_78 ?_
                exact g_iret C hr rfl (iw (il 0) (by decide) (by decide)) ⟨O, Fx.rf, (iw (il 0) (by decide) (by decide)), (by unfold bothF; (repeat (first | rw [if_pos (by omega)] | rw [if_neg (by omega)])))⟩ (by decide) (by decide) dX12_both_79
              · refine g_iconst C dX12_both_74 ?_
                refine g_goto C 79 (by decide) dX12_both_75 ?_
                exact g_iret C hr rfl (iw (il 1) (by decide) (by decide)) ⟨O, Fx.rf, (iw (il 1) (by decide) (by decide)), (by unfold bothF; (repeat (first | rw [if_pos (by omega)] | rw [if_neg (by omega)])))⟩ (by decide) (by decide) dX12_both_79
          · refine g_tout C fa0 80 (by omega) (by decide) dX12_both_1 ?_
            refine g_iload_n C rfl 1 rfl dX12_both_80 ?_
            refine g_if_ne C fa1 88 (by decide) dX12_both_81 (fun q30 => ?_) (fun q31 => ?_)
            · refine g_iconst C dX12_both_88 ?_
              refine g_goto C 93 (by decide) dX12_both_89 ?_
              exact g_iret C hr rfl (iw (il 1) (by decide) (by decide)) ⟨O, Fx.rf, (iw (il 1) (by decide) (by decide)), (by unfold bothF; (repeat (first | rw [if_pos (by omega)] | rw [if_neg (by omega)])))⟩ (by decide) (by decide) dX12_both_93
            · have f32 : (0 : Int) ≤ a1 ∧ a1 ≤ (0 : Int) := ii fa1 (r_eq (il 0) q31) (by decide) (by decide)
              refine g_iload_n C rfl 2 rfl dX12_both_84 ?_
              refine g_if_eq C fa2 92 (by decide) dX12_both_85 (fun q33 => ?_) (fun q34 => ?_)
              · have f35 : (0 : Int) ≤ a2 ∧ a2 ≤ (0 : Int) := ii fa2 (r_eq (il 0) q33) (by decide) (by decide)
                refine g_iconst C dX12_both_92 ?_
                exact g_iret C hr rfl (iw (il 0) (by decide) (by decide)) ⟨O, Fx.rf, (iw (il 0) (by decide) (by decide)), (by unfold bothF; (repeat (first | rw [if_pos (by omega)] | rw [if_neg (by omega)])))⟩ (by decide) (by decide) dX12_both_93
              · refine g_iconst C dX12_both_88 ?_
                refine g_goto C 93 (by decide) dX12_both_89 ?_
                exact g_iret C hr rfl (iw (il 1) (by decide) (by decide)) ⟨O, Fx.rf, (iw (il 1) (by decide) (by decide)), (by unfold bothF; (repeat (first | rw [if_pos (by omega)] | rw [if_neg (by omega)])))⟩ (by decide) (by decide) dX12_both_93
def wr_k_X12_tellsSight : List Nat := [26220000]
set_option maxRecDepth 100000 in
set_option maxHeartbeats 4000000 in
theorem k_X12_tellsSight (l : Launch) (D : va_G) (cy : Nat → ClassId) (w : Nat → Nat) (z0 : Nat)  {h : Hp} {a0 : Nat} {a1 : Int}  (O : Okh h) (ta0 : Tg h a0 = 12) (fa1 : 0 ≤ a1 ∧ a1 ≤ 39) : MV l D cy w z0 yX12_tellsSight cX12_tellsSight 3 none 0 0 0 0 [.inr (.inr a0), .inl a1] h (fun h1 => Okh h1 ∧ Fx wr_k_X12_tellsSight h h1 ∧ (∀ k : Nat, k ≤ 11 → Iv h1 (Rv h1 a0 31) k = knF h a0 a1 k)) := by
  refine hm_go (by decide +kernel) (Nat.le_of_ble_eq_true rfl) (fun p e s m below meth c C hr hn => ?_)
  obtain ⟨v1, e2⟩ : ∃ z, Rv h a0 31 = z := ⟨_, rfl⟩
  have t3 := ok_R O ta0 rE_12_31 e2
  have l4 := ok_L O ta0 rE_12_31 e2
  obtain ⟨v5, e6⟩ : ∃ z, Rv h a0 45 = z := ⟨_, rfl⟩
  have t7 := ok_R O ta0 rE_12_45 e6
  have l8 := ok_L O ta0 rE_12_45 e6
  obtain ⟨v9, e10⟩ : ∃ z, Iv h v5 a1.toNat = z := ⟨_, rfl⟩
  have f11 := ok_Ia O t7 ar_145100 rI_145100_0 e10
  obtain ⟨v12, e13⟩ : ∃ z, Rv h a0 41 = z := ⟨_, rfl⟩
  have t14 := ok_R O ta0 rE_12_41 e13
  have l15 := ok_L O ta0 rE_12_41 e13
  obtain ⟨v16, e17⟩ : ∃ z, Iv h v12 a1.toNat = z := ⟨_, rfl⟩
  have f18 := ok_Ia O t14 ar_141100 rI_141100_0 e17
  obtain ⟨v19, e20⟩ : ∃ z, Rv h a0 44 = z := ⟨_, rfl⟩
  have t21 := ok_R O ta0 rE_12_44 e20
  have l22 := ok_L O ta0 rE_12_44 e20
  obtain ⟨v23, e24⟩ : ∃ z, Iv h v19 a1.toNat = z := ⟨_, rfl⟩
  have f25 := ok_Ia O t21 ar_144100 rI_144100_0 e24
  obtain ⟨v26, e27⟩ : ∃ z, Rv h a0 43 = z := ⟨_, rfl⟩
  have t28 := ok_R O ta0 rE_12_43 e27
  have l29 := ok_L O ta0 rE_12_43 e27
  obtain ⟨v30, e31⟩ : ∃ z, Iv h v26 a1.toNat = z := ⟨_, rfl⟩
  have f32 := ok_Ia O t28 ar_143100 rI_143100_0 e31
  obtain ⟨v33, e34⟩ : ∃ z, Rv h a0 42 = z := ⟨_, rfl⟩
  have t35 := ok_R O ta0 rE_12_42 e34
  have l36 := ok_L O ta0 rE_12_42 e34
  obtain ⟨v37, e38⟩ : ∃ z, Iv h v33 a1.toNat = z := ⟨_, rfl⟩
  have f39 := ok_Ia O t35 ar_142100 rI_142100_0 e38
  obtain ⟨v40, e41⟩ : ∃ z, Rv h a0 36 = z := ⟨_, rfl⟩
  have t42 := ok_R O ta0 rE_12_36 e41
  have l43 := ok_L O ta0 rE_12_36 e41
  obtain ⟨v44, e45⟩ : ∃ z, Iv h v40 v37.toNat = z := ⟨_, rfl⟩
  have f46 := ok_Ia O t42 ar_136100 rI_136100_0 e45
  refine g_aload_n C rfl 0 rfl dX12_tellsSight_0 ?_
  refine gf_R C fk_LandSurveyModel_155 rfl ta0 e2 dX12_tellsSight_1 ?_
  refine g_iconst C dX12_tellsSight_4 ?_
  refine g_aload_n C rfl 0 rfl dX12_tellsSight_5 ?_
  refine gf_R C fk_LandSurveyModel_185 rfl ta0 e6 dX12_tellsSight_6 ?_
  refine g_iload_n C rfl 1 rfl dX12_tellsSight_9 ?_
  refine g_iald C t7 rfl l8 (ix fa1 (by decide) (by decide)) e10 dX12_tellsSight_10 ?_
  refine g_sipush C (by decide) dX12_tellsSight_11 ?_
  refine g_idivE (k := 1000) C (iw f11 (by decide) (by decide)) (by decide) (by decide) dX12_tellsSight_14 ?_
  have f47 : (0 : Int) ≤ (v9 / 1000) ∧ (v9 / 1000) ≤ (9 : Int) := iv_div (by decide) f11 (by decide) (by decide)
  refine g_iast C t3 rfl l4 (ix (il 0) (by decide) (by decide)) (iw f47 (by decide) (by decide)) dX12_tellsSight_15 (fun h49 hh48 => ?_)
  have O50 := O.pIa t3 ar_131100 hh48 rI_131100_0 (iw f47 (by decide) (by decide)) nofun
  refine g_aload_n C rfl 0 rfl dX12_tellsSight_16 ?_
  have e51 : Tg h49 a0 = 12 := ((pIT hh48).trans ta0)
  have e52 : Rv h49 a0 31 = v1 := ((pIR hh48).trans e2)
  refine gf_R C fk_LandSurveyModel_155 rfl e51 e52 dX12_tellsSight_17 ?_
  refine g_iconst C dX12_tellsSight_20 ?_
  refine g_aload_n C rfl 0 rfl dX12_tellsSight_21 ?_
  have e53 : Rv h49 a0 45 = v5 := ((pIR hh48).trans e6)
  refine gf_R C fk_LandSurveyModel_185 rfl e51 e53 dX12_tellsSight_22 ?_
  refine g_iload_n C rfl 1 rfl dX12_tellsSight_25 ?_
  have e54 : Tg h49 v5 = 145100 := ((pIT hh48).trans t7)
  have e55 : Ln h49 v5 = 40 := ((pIL hh48).trans l8)
  have e56 : Iv h49 v5 a1.toNat = v9 := ((pI_n hh48 (ne_tag t7 t3 (by decide))).trans e10)
  refine g_iald C e54 rfl e55 (ix fa1 (by decide) (by decide)) e56 dX12_tellsSight_26 ?_
  refine g_bipush C (by decide) dX12_tellsSight_27 ?_
  refine g_idivE (k := 100) C (iw f11 (by decide) (by decide)) (by decide) (by decide) dX12_tellsSight_29 ?_
  have f57 : (0 : Int) ≤ (v9 / 100) ∧ (v9 / 100) ≤ (99 : Int) := iv_div (by decide) f11 (by decide) (by decide)
  refine g_bipush C (by decide) dX12_tellsSight_30 ?_
  refine g_iremE (k := 10) C (iw f57 (by decide) (by decide)) (by decide) (by decide) dX12_tellsSight_32 ?_
  have f58 : (0 : Int) ≤ ((v9 / 100) % 10) ∧ ((v9 / 100) % 10) ≤ (9 : Int) := iv_rem (by decide) (by decide)
  have e59 : Tg h49 v1 = 131100 := ((pIT hh48).trans t3)
  have e60 : Ln h49 v1 = 12 := ((pIL hh48).trans l4)
  refine g_iast C e59 rfl e60 (ix (il 1) (by decide) (by decide)) (iw f58 (by decide) (by decide)) dX12_tellsSight_33 (fun h62 hh61 => ?_)
  have O63 := O50.pIa e59 ar_131100 hh61 rI_131100_0 (iw f58 (by decide) (by decide)) nofun
  refine g_aload_n C rfl 0 rfl dX12_tellsSight_34 ?_
  have e64 : Tg h62 a0 = 12 := ((pIT hh61).trans e51)
  have e65 : Rv h62 a0 31 = v1 := ((pIR hh61).trans e52)
  refine gf_R C fk_LandSurveyModel_155 rfl e64 e65 dX12_tellsSight_35 ?_
  refine g_iconst C dX12_tellsSight_38 ?_
  refine g_aload_n C rfl 0 rfl dX12_tellsSight_39 ?_
  have e66 : Rv h62 a0 45 = v5 := ((pIR hh61).trans e53)
  refine gf_R C fk_LandSurveyModel_185 rfl e64 e66 dX12_tellsSight_40 ?_
  refine g_iload_n C rfl 1 rfl dX12_tellsSight_43 ?_
  have e67 : Tg h62 v5 = 145100 := ((pIT hh61).trans e54)
  have e68 : Ln h62 v5 = 40 := ((pIL hh61).trans e55)
  have e69 : Iv h62 v5 a1.toNat = v9 := ((pI_n hh61 (ne_tag e54 e59 (by decide))).trans e56)
  refine g_iald C e67 rfl e68 (ix fa1 (by decide) (by decide)) e69 dX12_tellsSight_44 ?_
  refine g_bipush C (by decide) dX12_tellsSight_45 ?_
  refine g_idivE (k := 10) C (iw f11 (by decide) (by decide)) (by decide) (by decide) dX12_tellsSight_47 ?_
  have f70 : (0 : Int) ≤ (v9 / 10) ∧ (v9 / 10) ≤ (999 : Int) := iv_div (by decide) f11 (by decide) (by decide)
  refine g_bipush C (by decide) dX12_tellsSight_48 ?_
  refine g_iremE (k := 10) C (iw f70 (by decide) (by decide)) (by decide) (by decide) dX12_tellsSight_50 ?_
  have f71 : (0 : Int) ≤ ((v9 / 10) % 10) ∧ ((v9 / 10) % 10) ≤ (9 : Int) := iv_rem (by decide) (by decide)
  have e72 : Tg h62 v1 = 131100 := ((pIT hh61).trans e59)
  have e73 : Ln h62 v1 = 12 := ((pIL hh61).trans e60)
  refine g_iast C e72 rfl e73 (ix (il 2) (by decide) (by decide)) (iw f71 (by decide) (by decide)) dX12_tellsSight_51 (fun h75 hh74 => ?_)
  have O76 := O63.pIa e72 ar_131100 hh74 rI_131100_0 (iw f71 (by decide) (by decide)) nofun
  refine g_aload_n C rfl 0 rfl dX12_tellsSight_52 ?_
  have e77 : Tg h75 a0 = 12 := ((pIT hh74).trans e64)
  have e78 : Rv h75 a0 31 = v1 := ((pIR hh74).trans e65)
  refine gf_R C fk_LandSurveyModel_155 rfl e77 e78 dX12_tellsSight_53 ?_
  refine g_iconst C dX12_tellsSight_56 ?_
  refine g_aload_n C rfl 0 rfl dX12_tellsSight_57 ?_
  have e79 : Rv h75 a0 45 = v5 := ((pIR hh74).trans e66)
  refine gf_R C fk_LandSurveyModel_185 rfl e77 e79 dX12_tellsSight_58 ?_
  refine g_iload_n C rfl 1 rfl dX12_tellsSight_61 ?_
  have e80 : Tg h75 v5 = 145100 := ((pIT hh74).trans e67)
  have e81 : Ln h75 v5 = 40 := ((pIL hh74).trans e68)
  have e82 : Iv h75 v5 a1.toNat = v9 := ((pI_n hh74 (ne_tag e67 e72 (by decide))).trans e69)
  refine g_iald C e80 rfl e81 (ix fa1 (by decide) (by decide)) e82 dX12_tellsSight_62 ?_
  refine g_bipush C (by decide) dX12_tellsSight_63 ?_
  refine g_iremE (k := 10) C (iw f11 (by decide) (by decide)) (by decide) (by decide) dX12_tellsSight_65 ?_
  have f83 : (0 : Int) ≤ (v9 % 10) ∧ (v9 % 10) ≤ (9 : Int) := iv_rem (by decide) (by decide)
  have e84 : Tg h75 v1 = 131100 := ((pIT hh74).trans e72)
  have e85 : Ln h75 v1 = 12 := ((pIL hh74).trans e73)
  refine g_iast C e84 rfl e85 (ix (il 3) (by decide) (by decide)) (iw f83 (by decide) (by decide)) dX12_tellsSight_66 (fun h87 hh86 => ?_)
  have O88 := O76.pIa e84 ar_131100 hh86 rI_131100_0 (iw f83 (by decide) (by decide)) nofun
  refine g_aload_n C rfl 0 rfl dX12_tellsSight_67 ?_
  have e89 : Tg h87 a0 = 12 := ((pIT hh86).trans e77)
  have e90 : Rv h87 a0 31 = v1 := ((pIR hh86).trans e78)
  refine gf_R C fk_LandSurveyModel_155 rfl e89 e90 dX12_tellsSight_68 ?_
  refine g_iconst C dX12_tellsSight_71 ?_
  refine g_aload_n C rfl 0 rfl dX12_tellsSight_72 ?_
  have e91 : Rv h87 a0 41 = v12 := ((pIR hh86).trans ((pIR hh74).trans ((pIR hh61).trans ((pIR hh48).trans e13))))
  refine gf_R C fk_LandSurveyModel_173 rfl e89 e91 dX12_tellsSight_73 ?_
  refine g_iload_n C rfl 1 rfl dX12_tellsSight_76 ?_
  have e92 : Tg h87 v12 = 141100 := ((pIT hh86).trans ((pIT hh74).trans ((pIT hh61).trans ((pIT hh48).trans t14))))
  have e93 : Ln h87 v12 = 40 := ((pIL hh86).trans ((pIL hh74).trans ((pIL hh61).trans ((pIL hh48).trans l15))))
  have e94 : Tg h49 v12 = 141100 := ((pIT hh48).trans t14)
  have e95 : Tg h62 v12 = 141100 := ((pIT hh61).trans e94)
  have e96 : Tg h75 v12 = 141100 := ((pIT hh74).trans e95)
  have e97 : Iv h87 v12 a1.toNat = v16 := ((pI_n hh86 (ne_tag e96 e84 (by decide))).trans ((pI_n hh74 (ne_tag e95 e72 (by decide))).trans ((pI_n hh61 (ne_tag e94 e59 (by decide))).trans ((pI_n hh48 (ne_tag t14 t3 (by decide))).trans e17))))
  refine g_iald C e92 rfl e93 (ix fa1 (by decide) (by decide)) e97 dX12_tellsSight_77 ?_
  have e98 : Tg h87 v1 = 131100 := ((pIT hh86).trans e84)
  have e99 : Ln h87 v1 = 12 := ((pIL hh86).trans e85)
  refine g_iast C e98 rfl e99 (ix (il 4) (by decide) (by decide)) (iw f18 (by decide) (by decide)) dX12_tellsSight_78 (fun h101 hh100 => ?_)
  have O102 := O88.pIa e98 ar_131100 hh100 rI_131100_0 (iw f18 (by decide) (by decide)) nofun
  refine g_aload_n C rfl 0 rfl dX12_tellsSight_79 ?_
  have e103 : Tg h101 a0 = 12 := ((pIT hh100).trans e89)
  have e104 : Rv h101 a0 31 = v1 := ((pIR hh100).trans e90)
  refine gf_R C fk_LandSurveyModel_155 rfl e103 e104 dX12_tellsSight_80 ?_
  refine g_iconst C dX12_tellsSight_83 ?_
  refine g_aload_n C rfl 0 rfl dX12_tellsSight_84 ?_
  have e105 : Rv h101 a0 44 = v19 := ((pIR hh100).trans ((pIR hh86).trans ((pIR hh74).trans ((pIR hh61).trans ((pIR hh48).trans e20)))))
  refine gf_R C fk_LandSurveyModel_182 rfl e103 e105 dX12_tellsSight_85 ?_
  refine g_iload_n C rfl 1 rfl dX12_tellsSight_88 ?_
  have e106 : Tg h101 v19 = 144100 := ((pIT hh100).trans ((pIT hh86).trans ((pIT hh74).trans ((pIT hh61).trans ((pIT hh48).trans t21)))))
  have e107 : Ln h101 v19 = 40 := ((pIL hh100).trans ((pIL hh86).trans ((pIL hh74).trans ((pIL hh61).trans ((pIL hh48).trans l22)))))
  have e108 : Tg h49 v19 = 144100 := ((pIT hh48).trans t21)
  have e109 : Tg h62 v19 = 144100 := ((pIT hh61).trans e108)
  have e110 : Tg h75 v19 = 144100 := ((pIT hh74).trans e109)
  have e111 : Tg h87 v19 = 144100 := ((pIT hh86).trans e110)
  have e112 : Iv h101 v19 a1.toNat = v23 := ((pI_n hh100 (ne_tag e111 e98 (by decide))).trans ((pI_n hh86 (ne_tag e110 e84 (by decide))).trans ((pI_n hh74 (ne_tag e109 e72 (by decide))).trans ((pI_n hh61 (ne_tag e108 e59 (by decide))).trans ((pI_n hh48 (ne_tag t21 t3 (by decide))).trans e24)))))
  refine g_iald C e106 rfl e107 (ix fa1 (by decide) (by decide)) e112 dX12_tellsSight_89 ?_
  have e113 : Tg h101 v1 = 131100 := ((pIT hh100).trans e98)
  have e114 : Ln h101 v1 = 12 := ((pIL hh100).trans e99)
  refine g_iast C e113 rfl e114 (ix (il 5) (by decide) (by decide)) (iw f25 (by decide) (by decide)) dX12_tellsSight_90 (fun h116 hh115 => ?_)
  have O117 := O102.pIa e113 ar_131100 hh115 rI_131100_0 (iw f25 (by decide) (by decide)) nofun
  refine g_aload_n C rfl 0 rfl dX12_tellsSight_91 ?_
  have e118 : Tg h116 a0 = 12 := ((pIT hh115).trans e103)
  have e119 : Rv h116 a0 31 = v1 := ((pIR hh115).trans e104)
  refine gf_R C fk_LandSurveyModel_155 rfl e118 e119 dX12_tellsSight_92 ?_
  refine g_bipush C (by decide) dX12_tellsSight_95 ?_
  refine g_aload_n C rfl 0 rfl dX12_tellsSight_97 ?_
  have e120 : Rv h116 a0 43 = v26 := ((pIR hh115).trans ((pIR hh100).trans ((pIR hh86).trans ((pIR hh74).trans ((pIR hh61).trans ((pIR hh48).trans e27))))))
  refine gf_R C fk_LandSurveyModel_179 rfl e118 e120 dX12_tellsSight_98 ?_
  refine g_iload_n C rfl 1 rfl dX12_tellsSight_101 ?_
  have e121 : Tg h116 v26 = 143100 := ((pIT hh115).trans ((pIT hh100).trans ((pIT hh86).trans ((pIT hh74).trans ((pIT hh61).trans ((pIT hh48).trans t28))))))
  have e122 : Ln h116 v26 = 40 := ((pIL hh115).trans ((pIL hh100).trans ((pIL hh86).trans ((pIL hh74).trans ((pIL hh61).trans ((pIL hh48).trans l29))))))
  have e123 : Tg h49 v26 = 143100 := ((pIT hh48).trans t28)
  have e124 : Tg h62 v26 = 143100 := ((pIT hh61).trans e123)
  have e125 : Tg h75 v26 = 143100 := ((pIT hh74).trans e124)
  have e126 : Tg h87 v26 = 143100 := ((pIT hh86).trans e125)
  have e127 : Tg h101 v26 = 143100 := ((pIT hh100).trans e126)
  have e128 : Iv h116 v26 a1.toNat = v30 := ((pI_n hh115 (ne_tag e127 e113 (by decide))).trans ((pI_n hh100 (ne_tag e126 e98 (by decide))).trans ((pI_n hh86 (ne_tag e125 e84 (by decide))).trans ((pI_n hh74 (ne_tag e124 e72 (by decide))).trans ((pI_n hh61 (ne_tag e123 e59 (by decide))).trans ((pI_n hh48 (ne_tag t28 t3 (by decide))).trans e31))))))
  refine g_iald C e121 rfl e122 (ix fa1 (by decide) (by decide)) e128 dX12_tellsSight_102 ?_
  have e129 : Tg h116 v1 = 131100 := ((pIT hh115).trans e113)
  have e130 : Ln h116 v1 = 12 := ((pIL hh115).trans e114)
  refine g_iast C e129 rfl e130 (ix (il 6) (by decide) (by decide)) (iw f32 (by decide) (by decide)) dX12_tellsSight_103 (fun h132 hh131 => ?_)
  have O133 := O117.pIa e129 ar_131100 hh131 rI_131100_0 (iw f32 (by decide) (by decide)) nofun
  refine g_aload_n C rfl 0 rfl dX12_tellsSight_104 ?_
  have e134 : Tg h132 a0 = 12 := ((pIT hh131).trans e118)
  have e135 : Rv h132 a0 31 = v1 := ((pIR hh131).trans e119)
  refine gf_R C fk_LandSurveyModel_155 rfl e134 e135 dX12_tellsSight_105 ?_
  refine g_bipush C (by decide) dX12_tellsSight_108 ?_
  refine g_aload_n C rfl 0 rfl dX12_tellsSight_110 ?_
  have e136 : Rv h132 a0 36 = v40 := ((pIR hh131).trans ((pIR hh115).trans ((pIR hh100).trans ((pIR hh86).trans ((pIR hh74).trans ((pIR hh61).trans ((pIR hh48).trans e41)))))))
  refine gf_R C fk_LandSurveyModel_161 rfl e134 e136 dX12_tellsSight_111 ?_
  refine g_aload_n C rfl 0 rfl dX12_tellsSight_114 ?_
  have e137 : Rv h132 a0 42 = v33 := ((pIR hh131).trans ((pIR hh115).trans ((pIR hh100).trans ((pIR hh86).trans ((pIR hh74).trans ((pIR hh61).trans ((pIR hh48).trans e34)))))))
  refine gf_R C fk_LandSurveyModel_176 rfl e134 e137 dX12_tellsSight_115 ?_
  refine g_iload_n C rfl 1 rfl dX12_tellsSight_118 ?_
  have e138 : Tg h132 v33 = 142100 := ((pIT hh131).trans ((pIT hh115).trans ((pIT hh100).trans ((pIT hh86).trans ((pIT hh74).trans ((pIT hh61).trans ((pIT hh48).trans t35)))))))
  have e139 : Ln h132 v33 = 40 := ((pIL hh131).trans ((pIL hh115).trans ((pIL hh100).trans ((pIL hh86).trans ((pIL hh74).trans ((pIL hh61).trans ((pIL hh48).trans l36)))))))
  have e140 : Tg h49 v33 = 142100 := ((pIT hh48).trans t35)
  have e141 : Tg h62 v33 = 142100 := ((pIT hh61).trans e140)
  have e142 : Tg h75 v33 = 142100 := ((pIT hh74).trans e141)
  have e143 : Tg h87 v33 = 142100 := ((pIT hh86).trans e142)
  have e144 : Tg h101 v33 = 142100 := ((pIT hh100).trans e143)
  have e145 : Tg h116 v33 = 142100 := ((pIT hh115).trans e144)
  have e146 : Iv h132 v33 a1.toNat = v37 := ((pI_n hh131 (ne_tag e145 e129 (by decide))).trans ((pI_n hh115 (ne_tag e144 e113 (by decide))).trans ((pI_n hh100 (ne_tag e143 e98 (by decide))).trans ((pI_n hh86 (ne_tag e142 e84 (by decide))).trans ((pI_n hh74 (ne_tag e141 e72 (by decide))).trans ((pI_n hh61 (ne_tag e140 e59 (by decide))).trans ((pI_n hh48 (ne_tag t35 t3 (by decide))).trans e38)))))))
  refine g_iald C e138 rfl e139 (ix fa1 (by decide) (by decide)) e146 dX12_tellsSight_119 ?_
  have e147 : Tg h132 v40 = 136100 := ((pIT hh131).trans ((pIT hh115).trans ((pIT hh100).trans ((pIT hh86).trans ((pIT hh74).trans ((pIT hh61).trans ((pIT hh48).trans t42)))))))
  have e148 : Ln h132 v40 = 96 := ((pIL hh131).trans ((pIL hh115).trans ((pIL hh100).trans ((pIL hh86).trans ((pIL hh74).trans ((pIL hh61).trans ((pIL hh48).trans l43)))))))
  have e149 : Tg h49 v40 = 136100 := ((pIT hh48).trans t42)
  have e150 : Tg h62 v40 = 136100 := ((pIT hh61).trans e149)
  have e151 : Tg h75 v40 = 136100 := ((pIT hh74).trans e150)
  have e152 : Tg h87 v40 = 136100 := ((pIT hh86).trans e151)
  have e153 : Tg h101 v40 = 136100 := ((pIT hh100).trans e152)
  have e154 : Tg h116 v40 = 136100 := ((pIT hh115).trans e153)
  have e155 : Iv h132 v40 v37.toNat = v44 := ((pI_n hh131 (ne_tag e154 e129 (by decide))).trans ((pI_n hh115 (ne_tag e153 e113 (by decide))).trans ((pI_n hh100 (ne_tag e152 e98 (by decide))).trans ((pI_n hh86 (ne_tag e151 e84 (by decide))).trans ((pI_n hh74 (ne_tag e150 e72 (by decide))).trans ((pI_n hh61 (ne_tag e149 e59 (by decide))).trans ((pI_n hh48 (ne_tag t42 t3 (by decide))).trans e45)))))))
  refine g_iald C e147 rfl e148 (ix f39 (by decide) (by decide)) e155 dX12_tellsSight_120 ?_
  have e156 : Tg h132 v1 = 131100 := ((pIT hh131).trans e129)
  have e157 : Ln h132 v1 = 12 := ((pIL hh131).trans e130)
  refine g_iast C e156 rfl e157 (ix (il 7) (by decide) (by decide)) (iw f46 (by decide) (by decide)) dX12_tellsSight_121 (fun h159 hh158 => ?_)
  have O160 := O133.pIa e156 ar_131100 hh158 rI_131100_0 (iw f46 (by decide) (by decide)) nofun
  refine g_bipush C (by decide) dX12_tellsSight_122 ?_
  refine g_istore_n C [(2, .inl 8), (0, .inr (.inr a0)), (1, .inl a1)] rfl (by decide) rfl dX12_tellsSight_124 ?_
  refine GW.sub [1, 2, 0] rfl ?_
  -- loop at 125
  have L163 : ∀ (μ : Nat) (x161 : Int) (h162 : Hp), (12 - x161).toNat = μ → Okh h162 → Fx [26220000] h159 h162 → ((8 : Int) ≤ x161 ∧ x161 ≤ (12 : Int)) → (∀ k : Nat, (k : Int) < x161 → Iv h162 (Rv h162 a0 31) k = knF h a0 a1 k) → GW p l e (rmm 0 0 0 0) s m (List.map toV [.inr (.inr a0), .inl a1]).toArray below meth c D cy z0 3 (MQ below (QV D cy z0 (fun h1 => Okh h1 ∧ Fx wr_k_X12_tellsSight h h1 ∧ (∀ k : Nat, k ≤ 11 → Iv h1 (Rv h1 a0 31) k = knF h a0 a1 k))) (List.map toV [.inr (.inr a0), .inl a1]).toArray s 0 0 (Aof z0)) 125 [(0, .inr (.inr a0)), (1, .inl a1), (2, .inl x161)] [] h162 0 0 := by
    intro μ
    induction μ using Nat.strongRecOn with
    | ind μ ih164 =>
      intro x161 h162 hm165 O166 F167 f168 p169
      refine g_iload_n C rfl 2 rfl dX12_tellsSight_125 ?_
      refine g_bipush C (by decide) dX12_tellsSight_126 ?_
      refine g_icmp_ge C (iw f168 (by decide) (by decide)) (iw (il 12) (by decide) (by decide)) 144 (by decide) dX12_tellsSight_128 (fun q170 => ?_) (fun q171 => ?_)
      · have f172 : (12 : Int) ≤ x161 ∧ x161 ≤ (12 : Int) := r_ge f168 (il 12) q170 (by decide) (by decide)
        exact g_vret C hr ⟨O166, ((((((((((Fx.rf (wr := wr_k_X12_tellsSight)).pIa t3 ar_131100 hh48 rfl).pIa e59 ar_131100 hh61 rfl).pIa e72 ar_131100 hh74 rfl).pIa e84 ar_131100 hh86 rfl).pIa e98 ar_131100 hh100 rfl).pIa e113 ar_131100 hh115 rfl).pIa e129 ar_131100 hh131 rfl).pIa e156 ar_131100 hh158 rfl).call F167 rfl), (fun k hk => p169 k (by omega))⟩ (by decide) (by decide) dX12_tellsSight_144
      · have f173 : (8 : Int) ≤ x161 ∧ x161 ≤ (11 : Int) := r_lt f168 (il 12) q171 (by decide) (by decide)
        refine g_aload_n C rfl 0 rfl dX12_tellsSight_131 ?_
        have e174 : Tg h162 a0 = 12 := (fxT F167 ((pIT hh158).trans e134))
        have e175 : Tg h159 a0 = 12 := ((pIT hh158).trans e134)
        have e176 : Rv h162 a0 31 = v1 := ((fxR F167 e175 rfl).trans ((pIR hh158).trans e135))
        refine gf_R C fk_LandSurveyModel_155 rfl e174 e176 dX12_tellsSight_132 ?_
        refine g_iload_n C rfl 2 rfl dX12_tellsSight_135 ?_
        refine g_iconst C dX12_tellsSight_136 ?_
        have e177 : Tg h162 v1 = 131100 := (fxT F167 ((pIT hh158).trans e156))
        have e178 : Tg h159 v1 = 131100 := ((pIT hh158).trans e156)
        have e179 : Ln h162 v1 = 12 := ((fxL F167 e178).trans ((pIL hh158).trans e157))
        refine g_iast C e177 rfl e179 (ix f173 (by decide) (by decide)) (iw (il 0) (by decide) (by decide)) dX12_tellsSight_137 (fun h181 hh180 => ?_)
        have O182 := O166.pIa e177 ar_131100 hh180 rI_131100_0 (iw (il 0) (by decide) (by decide)) nofun
        have f183 : (9 : Int) ≤ (x161 + 1) ∧ (x161 + 1) ≤ (12 : Int) := ia_add f173 (il 1) (by decide) (by decide)
        refine g_iinc C [(2, .inl (x161 + 1)), (0, .inr (.inr a0)), (1, .inl a1)] 2 rfl (by decide) rfl dX12_tellsSight_138 ?_
        refine g_goto C 125 (by decide) dX12_tellsSight_141 ?_
        refine GW.sub [1, 2, 0] rfl ?_
        have e184 : Rv h181 a0 31 = v1 := ((pIR hh180).trans e176)
        exact ih164 _ (by omega) (x161 + 1) h181 rfl O182 (F167.pIa e177 ar_131100 hh180 rfl) (iw f183 (by decide) (by decide)) (fun k hk => by rw [e184]; by_cases e : k = x161.toNat; (subst e; rw [pI_e hh180, knF_hi (by omega)]); (rw [pI_j hh180 e, ← e176]; exact p169 k (by omega)))
  have e185 : Rv h159 a0 31 = v1 := ((pIR hh158).trans e135)
  have e186 : Iv h159 v1 ((0 : Int).toNat) = (v9 / 1000) := ((pI_j hh158 (by decide)).trans ((pI_j hh131 (by decide)).trans ((pI_j hh115 (by decide)).trans ((pI_j hh100 (by decide)).trans ((pI_j hh86 (by decide)).trans ((pI_j hh74 (by decide)).trans ((pI_j hh61 (by decide)).trans (pI_e hh48))))))))
  have e187 : Iv h159 v1 ((1 : Int).toNat) = ((v9 / 100) % 10) := ((pI_j hh158 (by decide)).trans ((pI_j hh131 (by decide)).trans ((pI_j hh115 (by decide)).trans ((pI_j hh100 (by decide)).trans ((pI_j hh86 (by decide)).trans ((pI_j hh74 (by decide)).trans (pI_e hh61)))))))
  have e188 : Iv h159 v1 ((2 : Int).toNat) = ((v9 / 10) % 10) := ((pI_j hh158 (by decide)).trans ((pI_j hh131 (by decide)).trans ((pI_j hh115 (by decide)).trans ((pI_j hh100 (by decide)).trans ((pI_j hh86 (by decide)).trans (pI_e hh74))))))
  have e189 : Iv h159 v1 ((3 : Int).toNat) = (v9 % 10) := ((pI_j hh158 (by decide)).trans ((pI_j hh131 (by decide)).trans ((pI_j hh115 (by decide)).trans ((pI_j hh100 (by decide)).trans (pI_e hh86)))))
  have e190 : Iv h159 v1 ((4 : Int).toNat) = v16 := ((pI_j hh158 (by decide)).trans ((pI_j hh131 (by decide)).trans ((pI_j hh115 (by decide)).trans (pI_e hh100))))
  have e191 : Iv h159 v1 ((5 : Int).toNat) = v23 := ((pI_j hh158 (by decide)).trans ((pI_j hh131 (by decide)).trans (pI_e hh115)))
  have e192 : Iv h159 v1 ((6 : Int).toNat) = v30 := ((pI_j hh158 (by decide)).trans (pI_e hh131))
  have p193 : ∀ k : Nat, (k : Int) < 8 → Iv h159 (Rv h159 a0 31) k = knF h a0 a1 k := by
    intro k hk
    rw [e185]
    rcases (show k = 0 ∨ k = 1 ∨ k = 2 ∨ k = 3 ∨ k = 4 ∨ k = 5 ∨ k = 6 ∨ k = 7 by omega) with rfl | rfl | rfl | rfl | rfl | rfl | rfl | rfl
    · exact (e186 : Iv h159 v1 0 = (v9 / 1000)).trans (by show _ = Iv h (Rv h a0 45) a1.toNat / 1000; rw [e6, e10])
    · exact (e187 : Iv h159 v1 1 = ((v9 / 100) % 10)).trans (by show _ = Iv h (Rv h a0 45) a1.toNat / 100 % 10; rw [e6, e10])
    · exact (e188 : Iv h159 v1 2 = ((v9 / 10) % 10)).trans (by show _ = Iv h (Rv h a0 45) a1.toNat / 10 % 10; rw [e6, e10])
    · exact (e189 : Iv h159 v1 3 = (v9 % 10)).trans (by show _ = Iv h (Rv h a0 45) a1.toNat % 10; rw [e6, e10])
    · exact (e190 : Iv h159 v1 4 = v16).trans (by show _ = Iv h (Rv h a0 41) a1.toNat ; rw [e13, e17])
    · exact (e191 : Iv h159 v1 5 = v23).trans (by show _ = Iv h (Rv h a0 44) a1.toNat ; rw [e20, e24])
    · exact (e192 : Iv h159 v1 6 = v30).trans (by show _ = Iv h (Rv h a0 43) a1.toNat ; rw [e27, e31])
    · exact ((pI_e hh158) : Iv h159 v1 7 = v44).trans (by show _ = Iv h (Rv h a0 36) (Iv h (Rv h a0 42) a1.toNat).toNat; rw [e41, e34, e38, e45])
  exact L163 _ 8 h159 rfl O160 Fx.rf (iw (il 8) (by decide) (by decide)) p193
def wr_k_X12_worth : List Nat := [26420000]
set_option maxRecDepth 100000 in
set_option maxHeartbeats 4000000 in
theorem k_X12_worth (l : Launch) (D : va_G) (cy : Nat → ClassId) (w : Nat → Nat) (z0 : Nat)  {h : Hp} {a0 : Nat} {a1 : Int}  (O : Okh h) (ta0 : Tg h a0 = 12) (fa1 : (-12800) ≤ a1 ∧ a1 ≤ 14400) (P_lk : LOk (Iv h (Rv h a0 29)) (Iv h (Rv h a0 30)) a1) : MI l D cy w z0 yX12_worth cX12_worth 5 (some .int) 1 22 0 0 [.inr (.inr a0), .inl a1] h (fun v h1 => Okh h1 ∧ Fx wr_k_X12_worth h h1 ∧ ((-2147483648) ≤ v ∧ v ≤ 2147483647) ∧ (v = wv (Iv h (Rv h a0 29)) (Iv h (Rv h a0 30)) (Iv h (Rv h a0 31)) a1)) := by
  refine hm_go (by decide +kernel) (Nat.le_of_ble_eq_true rfl) (fun p e s m below meth c C hr hn => ?_)
  obtain ⟨v1, e2⟩ : ∃ z, Rv h a0 29 = z := ⟨_, rfl⟩
  have t3 := ok_R O ta0 rE_12_29 e2
  have l4 := ok_L O ta0 rE_12_29 e2
  obtain ⟨v5, e6⟩ : ∃ z, Rv h a0 30 = z := ⟨_, rfl⟩
  have t7 := ok_R O ta0 rE_12_30 e6
  have l8 := ok_L O ta0 rE_12_30 e6
  obtain ⟨v9, e10⟩ : ∃ z, Rv h a0 31 = z := ⟨_, rfl⟩
  have t11 := ok_R O ta0 rE_12_31 e10
  have l12 := ok_L O ta0 rE_12_31 e10
  obtain ⟨v13, e14⟩ : ∃ z, Rv h a0 32 = z := ⟨_, rfl⟩
  have t15 := ok_R O ta0 rE_12_32 e14
  have l16 := ok_L O ta0 rE_12_32 e14
  have hlk : 0 ≤ a1 ∧ a1 < 12800 := by obtain ⟨n, z1, z2, z3, -, -⟩ := P_lk; omega
  have f17 : (0 : Int) ≤ a1 ∧ a1 ≤ (12799 : Int) := by omega
  refine g_iconst C dX12_worth_0 ?_
  refine g_istore_n C [(2, .inl 0), (0, .inr (.inr a0)), (1, .inl a1)] rfl (by decide) rfl dX12_worth_1 ?_
  refine g_iload_n C rfl 2 rfl dX12_worth_2 ?_
  refine g_istore_n C [(3, .inl a1), (2, .inl 0), (0, .inr (.inr a0)), (1, .inl a1)] rfl (by decide) rfl dX12_worth_3 ?_
  refine GW.sub [2, 3, 1, 0] rfl ?_
  -- loop at 4
  have L21 : ∀ (μ : Nat) (x18 : Int) (x19 : Int) (h20 : Hp), (14400 - x19).toNat = μ → Okh h20 → Fx [26420000] h h20 → ((0 : Int) ≤ x18 ∧ x18 ≤ (1599 : Int)) → ((0 : Int) ≤ x19 ∧ x19 ≤ (14399 : Int)) → (WInv (Iv h (Rv h a0 29)) (Iv h (Rv h a0 30)) (Iv h (Rv h a0 31)) (Iv h20 (Rv h20 a0 32)) (wv (Iv h (Rv h a0 29)) (Iv h (Rv h a0 30)) (Iv h (Rv h a0 31)) a1) a1 x19 x18) → GW p l e (rmm 1 22 0 0) s m (List.map toV [.inr (.inr a0), .inl a1]).toArray below meth c D cy z0 5 (MQ below (QI D cy z0 (fun v h1 => Okh h1 ∧ Fx wr_k_X12_worth h h1 ∧ ((-2147483648) ≤ v ∧ v ≤ 2147483647) ∧ (v = wv (Iv h (Rv h a0 29)) (Iv h (Rv h a0 30)) (Iv h (Rv h a0 31)) a1))) (List.map toV [.inr (.inr a0), .inl a1]).toArray s 0 0 (Aof z0)) 4 [(0, .inr (.inr a0)), (1, .inl a1), (2, .inl x18), (3, .inl x19)] [] h20 0 0 := by
    intro μ
    induction μ using Nat.strongRecOn with
    | ind μ ih22 =>
      intro x18 x19 h20 hm23 O24 F25 f26 f27 p28
      have e29 : Rv h20 a0 32 = v13 := ((fxR F25 ta0 rfl).trans e14)
      rw [e29] at p28
      have hrg := WInv.rng p28
      refine g_aload_n C rfl 0 rfl dX12_worth_4 ?_
      have e30 : Tg h20 a0 = 12 := (fxT F25 ta0)
      have e31 : Rv h20 a0 29 = v1 := ((fxR F25 ta0 rfl).trans e2)
      refine gf_R C fk_LandSurveyModel_149 rfl e30 e31 dX12_worth_5 ?_
      refine g_iload_n C rfl 3 rfl dX12_worth_8 ?_
      have e32 : Tg h20 v1 = 129100 := (fxT F25 t3)
      have e33 : Ln h20 v1 = 14400 := ((fxL F25 t3).trans l4)
      obtain ⟨v34, e35⟩ : ∃ z, Iv h20 v1 x19.toNat = z := ⟨_, rfl⟩
      have f36 := ok_Ia O24 e32 ar_129100 rI_129100_0 e35
      refine g_iald C e32 rfl e33 (ix f27 (by decide) (by decide)) e35 dX12_worth_9 ?_
      have E37 : Iv h20 (Rv h20 a0 29) = Iv h (Rv h a0 29) := mAI (j := 29) O ((Fx.rf (wr := [26420000]) (h := h)).call F25 rfl) ta0 rE_12_29 ar_129100 rfl rfl
      have q38 : Iv h (Rv h a0 29) x19.toNat = v34 := by rw [← E37, e31]; exact e35
      have e39 : Rv h20 a0 30 = v5 := ((fxR F25 ta0 rfl).trans e6)
      obtain ⟨v40, e41⟩ : ∃ z, Iv h20 v5 x19.toNat = z := ⟨_, rfl⟩
      have e42 : Tg h20 v5 = 130100 := (fxT F25 t7)
      have f43 := ok_Ia O24 e42 ar_130100 rI_130100_0 e41
      have E44 : Iv h20 (Rv h20 a0 30) = Iv h (Rv h a0 30) := mAI (j := 30) O ((Fx.rf (wr := [26420000]) (h := h)).call F25 rfl) ta0 rE_12_30 ar_130100 rfl rfl
      have q45 : Iv h (Rv h a0 30) x19.toNat = v40 := by rw [← E44, e39]; exact e41
      refine g_if_eq C (iw f36 (by decide) (by decide)) 140 (by decide) dX12_worth_10 (fun q46 => ?_) (fun q47 => ?_)
      · have f48 : (0 : Int) ≤ v34 ∧ v34 ≤ (0 : Int) := ii f36 (r_eq (il 0) q46) (by decide) (by decide)
        refine g_aload_n C rfl 0 rfl dX12_worth_140 ?_
        refine gf_R C fk_LandSurveyModel_158 rfl e30 e29 dX12_worth_141 ?_
        refine g_iconst C dX12_worth_144 ?_
        have e49 : Tg h20 v13 = 132100 := (fxT F25 t15)
        have e50 : Ln h20 v13 = 1600 := ((fxL F25 t15).trans l16)
        obtain ⟨v51, e52⟩ : ∃ z, Iv h20 v13 ((0 : Int).toNat) = z := ⟨_, rfl⟩
        have f53 := ok_Ia O24 e49 ar_132100 rI_132100_0 e52
        refine g_iald C e49 rfl e50 (ix (il 0) (by decide) (by decide)) e52 dX12_worth_145 ?_
        exact g_iret C hr rfl f53 ⟨O24, ((Fx.rf (wr := wr_k_X12_worth)).call F25 rfl), f53, (Eq.trans (Eq.symm e52) (WInv.exit p28 (q38.trans (by omega))))⟩ (by decide) (by decide) dX12_worth_146
      · have f54 : (1 : Int) ≤ v34 ∧ v34 ≤ (9 : Int) := r_nl f36 q47
        have z55 := WInv.ask p28 q38 (by omega)
        rw [q45] at z55
        obtain ⟨z56, z57, z58, z59, z60⟩ := z55
        refine g_aload_n C rfl 0 rfl dX12_worth_13 ?_
        refine gf_R C fk_LandSurveyModel_149 rfl e30 e31 dX12_worth_14 ?_
        refine g_iload_n C rfl 3 rfl dX12_worth_17 ?_
        refine g_iald C e32 rfl e33 (ix f27 (by decide) (by decide)) e35 dX12_worth_18 ?_
        refine g_istore C [(4, .inl v34), (0, .inr (.inr a0)), (1, .inl a1), (2, .inl x18), (3, .inl x19)] (by decide) rfl dX12_worth_19 ?_
        refine g_iload C 0 rfl dX12_worth_21 ?_
        refine g_iconst C dX12_worth_23 ?_
        refine g_icmp_eq C (iw f54 (by decide) (by decide)) (iw (il 1) (by decide) (by decide)) 33 (by decide) dX12_worth_24 (fun q61 => ?_) (fun q62 => ?_)
        · have f63 : (1 : Int) ≤ v34 ∧ v34 ≤ (1 : Int) := ii f54 (r_eq (il 1) q61) (by decide) (by decide)
          refine g_aload_n C rfl 1 rfl dX12_worth_33 ?_
          refine gf_R C fk_LandSurveyModel_158 rfl e30 e29 dX12_worth_34 ?_
          refine g_iload_n C rfl 3 rfl dX12_worth_37 ?_
          refine g_iload C 0 rfl dX12_worth_38 ?_
          refine g_iconst C dX12_worth_40 ?_
          refine g_icmp_ne C (iw f63 (by decide) (by decide)) (iw (il 1) (by decide) (by decide)) 53 (by decide) dX12_worth_41 (fun q64 => ?_) (fun q65 => ?_)
          · exact (no_ne f63 (il 1) q64 (by decide)).elim
          · refine g_aload_n C rfl 1 rfl dX12_worth_44 ?_
            refine gf_R C fk_LandSurveyModel_152 rfl e30 e39 dX12_worth_45 ?_
            refine g_iload_n C rfl 4 rfl dX12_worth_48 ?_
            have e66 : Ln h20 v5 = 14400 := ((fxL F25 t7).trans l8)
            refine g_iald C e42 rfl e66 (ix f27 (by decide) (by decide)) e41 dX12_worth_49 ?_
            refine g_goto C 64 (by decide) dX12_worth_50 ?_
            have e67 : Tg h20 v13 = 132100 := (fxT F25 t15)
            have e68 : Ln h20 v13 = 1600 := ((fxL F25 t15).trans l16)
            refine g_iast C e67 rfl e68 (ix f26 (by decide) (by decide)) f43 dX12_worth_64 (fun h70 hh69 => ?_)
            have O71 := O24.pIa e67 ar_132100 hh69 rI_132100_0 f43 nofun
            have f72 : (1 : Int) ≤ (x18 + 1) ∧ (x18 + 1) ≤ (1600 : Int) := ia_add f26 (il 1) (by decide) (by decide)
            refine g_iinc C [(2, .inl (x18 + 1)), (4, .inl v34), (0, .inr (.inr a0)), (1, .inl a1), (3, .inl x19)] 3 rfl (by decide) rfl dX12_worth_65 ?_
            refine g_goto C 134 (by decide) dX12_worth_68 ?_
            have f73 : (1 : Int) ≤ (x19 + 1) ∧ (x19 + 1) ≤ (14400 : Int) := ia_add f27 (il 1) (by decide) (by decide)
            refine g_iinc C [(3, .inl (x19 + 1)), (2, .inl (x18 + 1)), (4, .inl v34), (0, .inr (.inr a0)), (1, .inl a1)] 4 rfl (by decide) rfl dX12_worth_134 ?_
            refine g_goto C 4 (by decide) dX12_worth_137 ?_
            refine GW.sub [3, 4, 1, 0] rfl ?_
            have e74 : Rv h70 a0 32 = v13 := ((pIR hh69).trans e29)
            exact ih22 _ (by omega) (x18 + 1) (x19 + 1) h70 rfl O71 (F25.pIa e67 ar_132100 hh69 rfl) (by omega) (by omega) (by rw [e74]; exact WInv.push p28 (Or.inl ⟨q38.trans (by omega), by rw [q45]⟩) (pI_e hh69) (fun k hk => pI_j hh69 (by omega)))
        · have f75 : (2 : Int) ≤ v34 ∧ v34 ≤ (9 : Int) := r_nl f54 q62
          refine g_iload C 0 rfl dX12_worth_27 ?_
          refine g_iconst C dX12_worth_29 ?_
          refine g_icmp_ne C (iw f75 (by decide) (by decide)) (iw (il 2) (by decide) (by decide)) 71 (by decide) dX12_worth_30 (fun q76 => ?_) (fun q77 => ?_)
          · have f78 : (3 : Int) ≤ v34 ∧ v34 ≤ (9 : Int) := r_nl f75 q76
            refine g_iload C 0 rfl dX12_worth_71 ?_
            refine g_iconst C dX12_worth_73 ?_
            refine g_icmp_ne C (iw f78 (by decide) (by decide)) (iw (il 3) (by decide) (by decide)) 104 (by decide) dX12_worth_74 (fun q79 => ?_) (fun q80 => ?_)
            · have f81 : (4 : Int) ≤ v34 ∧ v34 ≤ (9 : Int) := r_nl f78 q79
              have f82 : (-1 : Int) ≤ (x18 + (-1)) ∧ (x18 + (-1)) ≤ (1598 : Int) := ia_add f26 (il (-1)) (by decide) (by decide)
              refine g_iinc C [(2, .inl (x18 + (-1))), (4, .inl v34), (0, .inr (.inr a0)), (1, .inl a1), (3, .inl x19)] 3 rfl (by decide) rfl dX12_worth_104 ?_
              refine g_aload_n C rfl 2 rfl dX12_worth_107 ?_
              refine gf_R C fk_LandSurveyModel_158 rfl e30 e29 dX12_worth_108 ?_
              refine g_iload_n C rfl 0 rfl dX12_worth_111 ?_
              refine g_iconst C dX12_worth_112 ?_
              have f83 : (-2 : Int) ≤ ((x18 + (-1)) - 1) ∧ ((x18 + (-1)) - 1) ≤ (1597 : Int) := ia_sub f82 (il 1) (by decide) (by decide)
              refine g_isub C dX12_worth_113 ?_
              refine g_iload C 1 rfl dX12_worth_114 ?_
              refine g_aload_n C rfl 2 rfl dX12_worth_116 ?_
              refine gf_R C fk_LandSurveyModel_158 rfl e30 e29 dX12_worth_117 ?_
              refine g_iload_n C rfl 0 rfl dX12_worth_120 ?_
              refine g_iconst C dX12_worth_121 ?_
              refine g_isub C dX12_worth_122 ?_
              have e84 : Tg h20 v13 = 132100 := (fxT F25 t15)
              have e85 : Ln h20 v13 = 1600 := ((fxL F25 t15).trans l16)
              obtain ⟨v86, e87⟩ : ∃ z, Iv h20 v13 (((x18 + (-1)) - 1).toNat) = z := ⟨_, rfl⟩
              have f88 := ok_Ia O24 e84 ar_132100 rI_132100_0 e87
              refine g_iald C e84 rfl e85 (by omega) e87 dX12_worth_123 ?_
              refine g_aload_n C rfl 2 rfl dX12_worth_124 ?_
              refine gf_R C fk_LandSurveyModel_158 rfl e30 e29 dX12_worth_125 ?_
              refine g_iload_n C rfl 0 rfl dX12_worth_128 ?_
              obtain ⟨v89, e90⟩ : ∃ z, Iv h20 v13 ((x18 + (-1)).toNat) = z := ⟨_, rfl⟩
              have f91 := ok_Ia O24 e84 ar_132100 rI_132100_0 e90
              refine g_iald C e84 rfl e85 (by omega) e90 dX12_worth_129 ?_
              refine g_callI (st := [.inl ((x18 + (-1)) - 1), .inr (.inr v13)]) (gc_S C lk_LandSurveyModel_411 (k_X12_both l D cy w z0 O24 (iw f81 (by decide) (by decide)) f88 f91) rfl ⟨by decide, by decide⟩ (Nat.le_of_ble_eq_true rfl) dX12_worth_130 ⟨(by decide), (by decide)⟩) (fun r92 h93 f95 K94 => ?_)
              obtain ⟨O96, F97, f98, p99⟩ := K94
              have e100 : Tg h93 v13 = 132100 := (fxT F97 e84)
              have e101 : Ln h93 v13 = 1600 := ((fxL F97 e84).trans e85)
              refine g_iast C e100 rfl e101 (by omega) f98 dX12_worth_133 (fun h103 hh102 => ?_)
              have O104 := O96.pIa e100 ar_132100 hh102 rI_132100_0 f98 nofun
              have f105 : (1 : Int) ≤ (x19 + 1) ∧ (x19 + 1) ≤ (14400 : Int) := ia_add f27 (il 1) (by decide) (by decide)
              refine g_iinc C [(3, .inl (x19 + 1)), (2, .inl (x18 + (-1))), (4, .inl v34), (0, .inr (.inr a0)), (1, .inl a1)] 4 rfl (by decide) rfl dX12_worth_134 ?_
              refine g_goto C 4 (by decide) dX12_worth_137 ?_
              refine GW.sub [3, 4, 1, 0] rfl ?_
              have e106 : Rv h103 a0 32 = v13 := ((pIR hh102).trans ((fxR F97 e30 rfl).trans e29))
              exact ih22 _ (by omega) (x18 + (-1)) (x19 + 1) h103 rfl O104 ((F25.call F97 rfl).pIa e100 ar_132100 hh102 rfl) (by omega) (by omega) (by rw [e106, show (x18 + (-1) : Int) = x18 - 1 by omega]; exact WInv.bin (x := r92) p28 (by rw [q38]; omega) (by rw [q38]; omega) (by rw [q38]; omega) (by rw [q38]; omega) (by rw [q38, show (x18 - 2).toNat = ((x18 + (-1)) - 1).toNat by omega, e87, show (x18 - 1).toNat = (x18 + (-1)).toNat by omega, e90]; exact p99) (by rw [show (x18 - 2).toNat = ((x18 + (-1)) - 1).toNat by omega]; exact pI_e hh102) (fun k hk => (pI_j hh102 (by omega)).trans (fxIa (T := 132099) F97 e84 ar_132100 rfl)))
            · have f107 : (3 : Int) ≤ v34 ∧ v34 ≤ (3 : Int) := ii f78 (r_eq (il 3) q80) (by decide) (by decide)
              refine g_aload_n C rfl 1 rfl dX12_worth_77 ?_
              refine gf_R C fk_LandSurveyModel_158 rfl e30 e29 dX12_worth_78 ?_
              refine g_iload_n C rfl 3 rfl dX12_worth_81 ?_
              refine g_iconst C dX12_worth_82 ?_
              have f108 : (-1 : Int) ≤ (x18 - 1) ∧ (x18 - 1) ≤ (1598 : Int) := ia_sub f26 (il 1) (by decide) (by decide)
              refine g_isub C dX12_worth_83 ?_
              refine g_aload_n C rfl 1 rfl dX12_worth_84 ?_
              refine gf_R C fk_LandSurveyModel_158 rfl e30 e29 dX12_worth_85 ?_
              refine g_iload_n C rfl 3 rfl dX12_worth_88 ?_
              refine g_iconst C dX12_worth_89 ?_
              refine g_isub C dX12_worth_90 ?_
              have e109 : Tg h20 v13 = 132100 := (fxT F25 t15)
              have e110 : Ln h20 v13 = 1600 := ((fxL F25 t15).trans l16)
              obtain ⟨v111, e112⟩ : ∃ z, Iv h20 v13 ((x18 - 1).toNat) = z := ⟨_, rfl⟩
              have f113 := ok_Ia O24 e109 ar_132100 rI_132100_0 e112
              refine g_iald C e109 rfl e110 (by omega) e112 dX12_worth_91 ?_
              refine g_if_ne C f113 99 (by decide) dX12_worth_92 (fun q114 => ?_) (fun q115 => ?_)
              · refine g_iconst C dX12_worth_99 ?_
                refine g_iast C e109 rfl e110 (by omega) (iw (il 0) (by decide) (by decide)) dX12_worth_100 (fun h117 hh116 => ?_)
                have O118 := O24.pIa e109 ar_132100 hh116 rI_132100_0 (iw (il 0) (by decide) (by decide)) nofun
                refine g_goto C 134 (by decide) dX12_worth_101 ?_
                have f119 : (1 : Int) ≤ (x19 + 1) ∧ (x19 + 1) ≤ (14400 : Int) := ia_add f27 (il 1) (by decide) (by decide)
                refine g_iinc C [(3, .inl (x19 + 1)), (4, .inl v34), (0, .inr (.inr a0)), (1, .inl a1), (2, .inl x18)] 4 rfl (by decide) rfl dX12_worth_134 ?_
                refine g_goto C 4 (by decide) dX12_worth_137 ?_
                refine GW.sub [2, 3, 4, 0] rfl ?_
                have e120 : Rv h117 a0 32 = v13 := ((pIR hh116).trans e29)
                exact ih22 _ (by omega) x18 (x19 + 1) h117 rfl O118 (F25.pIa e109 ar_132100 hh116 rfl) f26 (by omega) (by rw [e120]; exact WInv.neg p28 (q38.trans (by omega)) (by rw [e112]; unfold notF; split <;> omega) (pI_e hh116) (fun k hk => pI_j hh116 (by omega)))
              · have f121 : (0 : Int) ≤ v111 ∧ v111 ≤ (0 : Int) := ii f113 (r_eq (il 0) q115) (by decide) (by decide)
                refine g_iconst C dX12_worth_95 ?_
                refine g_goto C 100 (by decide) dX12_worth_96 ?_
                refine g_iast C e109 rfl e110 (by omega) (iw (il 1) (by decide) (by decide)) dX12_worth_100 (fun h123 hh122 => ?_)
                have O124 := O24.pIa e109 ar_132100 hh122 rI_132100_0 (iw (il 1) (by decide) (by decide)) nofun
                refine g_goto C 134 (by decide) dX12_worth_101 ?_
                have f125 : (1 : Int) ≤ (x19 + 1) ∧ (x19 + 1) ≤ (14400 : Int) := ia_add f27 (il 1) (by decide) (by decide)
                refine g_iinc C [(3, .inl (x19 + 1)), (4, .inl v34), (0, .inr (.inr a0)), (1, .inl a1), (2, .inl x18)] 4 rfl (by decide) rfl dX12_worth_134 ?_
                refine g_goto C 4 (by decide) dX12_worth_137 ?_
                refine GW.sub [2, 3, 4, 0] rfl ?_
                have e126 : Rv h123 a0 32 = v13 := ((pIR hh122).trans e29)
                exact ih22 _ (by omega) x18 (x19 + 1) h123 rfl O124 (F25.pIa e109 ar_132100 hh122 rfl) f26 (by omega) (by rw [e126]; exact WInv.neg p28 (q38.trans (by omega)) (by rw [e112]; unfold notF; split <;> omega) (pI_e hh122) (fun k hk => pI_j hh122 (by omega)))
          · have f127 : (2 : Int) ≤ v34 ∧ v34 ≤ (2 : Int) := ii f75 (r_eq (il 2) q77) (by decide) (by decide)
            refine g_aload_n C rfl 1 rfl dX12_worth_33 ?_
            refine gf_R C fk_LandSurveyModel_158 rfl e30 e29 dX12_worth_34 ?_
            refine g_iload_n C rfl 3 rfl dX12_worth_37 ?_
            refine g_iload C 0 rfl dX12_worth_38 ?_
            refine g_iconst C dX12_worth_40 ?_
            refine g_icmp_ne C (iw f127 (by decide) (by decide)) (iw (il 1) (by decide) (by decide)) 53 (by decide) dX12_worth_41 (fun q128 => ?_) (fun q129 => ?_)
            · refine g_aload_n C rfl 1 rfl dX12_worth_53 ?_
              have e130 : Rv h20 a0 31 = v9 := ((fxR F25 ta0 rfl).trans e10)
              refine gf_R C fk_LandSurveyModel_155 rfl e30 e130 dX12_worth_54 ?_
              refine g_aload_n C rfl 1 rfl dX12_worth_57 ?_
              refine gf_R C fk_LandSurveyModel_152 rfl e30 e39 dX12_worth_58 ?_
              refine g_iload_n C rfl 4 rfl dX12_worth_61 ?_
              have e131 : Ln h20 v5 = 14400 := ((fxL F25 t7).trans l8)
              refine g_iald C e42 rfl e131 (ix f27 (by decide) (by decide)) e41 dX12_worth_62 ?_
              have e132 : Tg h20 v9 = 131100 := (fxT F25 t11)
              have e133 : Ln h20 v9 = 12 := ((fxL F25 t11).trans l12)
              obtain ⟨v134, e135⟩ : ∃ z, Iv h20 v9 v40.toNat = z := ⟨_, rfl⟩
              have f136 := ok_Ia O24 e132 ar_131100 rI_131100_0 e135
              refine g_iald C e132 rfl e133 (by omega) e135 dX12_worth_63 ?_
              have e137 : Tg h20 v13 = 132100 := (fxT F25 t15)
              have e138 : Ln h20 v13 = 1600 := ((fxL F25 t15).trans l16)
              refine g_iast C e137 rfl e138 (ix f26 (by decide) (by decide)) f136 dX12_worth_64 (fun h140 hh139 => ?_)
              have O141 := O24.pIa e137 ar_132100 hh139 rI_132100_0 f136 nofun
              have f142 : (1 : Int) ≤ (x18 + 1) ∧ (x18 + 1) ≤ (1600 : Int) := ia_add f26 (il 1) (by decide) (by decide)
              refine g_iinc C [(2, .inl (x18 + 1)), (4, .inl v34), (0, .inr (.inr a0)), (1, .inl a1), (3, .inl x19)] 3 rfl (by decide) rfl dX12_worth_65 ?_
              refine g_goto C 134 (by decide) dX12_worth_68 ?_
              have f143 : (1 : Int) ≤ (x19 + 1) ∧ (x19 + 1) ≤ (14400 : Int) := ia_add f27 (il 1) (by decide) (by decide)
              refine g_iinc C [(3, .inl (x19 + 1)), (2, .inl (x18 + 1)), (4, .inl v34), (0, .inr (.inr a0)), (1, .inl a1)] 4 rfl (by decide) rfl dX12_worth_134 ?_
              refine g_goto C 4 (by decide) dX12_worth_137 ?_
              refine GW.sub [3, 4, 1, 0] rfl ?_
              have e144 : Rv h140 a0 32 = v13 := ((pIR hh139).trans e29)
              have E145 : Iv h20 (Rv h20 a0 31) = Iv h (Rv h a0 31) := mAI (j := 31) O ((Fx.rf (wr := [26420000]) (h := h)).call F25 rfl) ta0 rE_12_31 ar_131100 rfl rfl
              exact ih22 _ (by omega) (x18 + 1) (x19 + 1) h140 rfl O141 (F25.pIa e137 ar_132100 hh139 rfl) (by omega) (by omega) (by rw [e144]; exact WInv.push p28 (Or.inr ⟨q38.trans (by omega), by rw [q45, ← E145, e130, e135]⟩) (pI_e hh139) (fun k hk => pI_j hh139 (by omega)))
            · exact (no_eq f127 (il 1) q129 (by decide)).elim
  exact L21 _ 0 a1 h rfl O Fx.rf (iw (il 0) (by decide) (by decide)) (iw f17 (by decide) (by decide)) (WInv.start P_lk)
def wr_k_X12_lineOf : List Nat := [26420000]
set_option maxRecDepth 100000 in
set_option maxHeartbeats 4000000 in
theorem k_X12_lineOf (l : Launch) (D : va_G) (cy : Nat → ClassId) (w : Nat → Nat) (z0 : Nat)  {h : Hp} {a0 : Nat} {a1 : Int}  (O : Okh h) (ta0 : Tg h a0 = 12) (fa1 : 0 ≤ a1 ∧ a1 ≤ 3) (P_MInv : MInv h a0) : MI l D cy w z0 yX12_lineOf cX12_lineOf 4 (some .int) 2 46 0 0 [.inr (.inr a0), .inl a1] h (fun v h1 => Okh h1 ∧ Fx wr_k_X12_lineOf h h1 ∧ ((-1) ≤ v ∧ v ≤ 23) ∧ (v = LO h a0 a1 (Iv h (Rv h a0 31)))) := by
  refine hm_go (by decide +kernel) (Nat.le_of_ble_eq_true rfl) (fun p e s m below meth c C hr hn => ?_)
  obtain ⟨v1, e2⟩ : ∃ z, Rv h a0 24 = z := ⟨_, rfl⟩
  have t3 := ok_R O ta0 rE_12_24 e2
  have l4 := ok_L O ta0 rE_12_24 e2
  obtain ⟨v5, e6⟩ : ∃ z, Rv h a0 25 = z := ⟨_, rfl⟩
  have t7 := ok_R O ta0 rE_12_25 e6
  have l8 := ok_L O ta0 rE_12_25 e6
  obtain ⟨v9, e10⟩ : ∃ z, Rv h a0 27 = z := ⟨_, rfl⟩
  have t11 := ok_R O ta0 rE_12_27 e10
  have l12 := ok_L O ta0 rE_12_27 e10
  obtain ⟨v13, e14⟩ : ∃ z, Rv h a0 29 = z := ⟨_, rfl⟩
  have t15 := ok_R O ta0 rE_12_29 e14
  have l16 := ok_L O ta0 rE_12_29 e14
  obtain ⟨v17, e18⟩ : ∃ z, Rv h a0 30 = z := ⟨_, rfl⟩
  have t19 := ok_R O ta0 rE_12_30 e18
  have l20 := ok_L O ta0 rE_12_30 e18
  obtain ⟨v21, e22⟩ : ∃ z, Rv h a0 31 = z := ⟨_, rfl⟩
  have t23 := ok_R O ta0 rE_12_31 e22
  have l24 := ok_L O ta0 rE_12_31 e22
  obtain ⟨v25, e26⟩ : ∃ z, BNow h a0 = z := ⟨_, rfl⟩
  have f27 : (-1 : Int) ≤ v25 ∧ v25 ≤ (7 : Int) := BNow_rng O ta0 e26
  refine g_aload_n C rfl 0 rfl dX12_lineOf_0 ?_
  refine g_callI (st := []) (gc_V C lk_LandSurveyModel_432 (k_X12_bookNow l D cy w z0 O ta0) ta0 rfl rfl rfl ⟨by decide, by decide⟩ (Nat.le_of_ble_eq_true rfl) dX12_lineOf_1 ⟨(by decide), (by decide)⟩) (fun r28 h29 f31 K30 => ?_)
  obtain ⟨O32, F33, f34, p35⟩ := K30
  rw [e26] at p35
  have f36 : (-1 : Int) ≤ r28 ∧ r28 ≤ (7 : Int) := by omega
  refine g_istore_n C [(2, .inl r28), (0, .inr (.inr a0)), (1, .inl a1)] rfl (by decide) rfl dX12_lineOf_4 ?_
  refine g_iconst C dX12_lineOf_5 ?_
  refine g_istore_n C [(3, .inl 0), (2, .inl r28), (0, .inr (.inr a0)), (1, .inl a1)] rfl (by decide) rfl dX12_lineOf_6 ?_
  refine GW.sub [2, 3, 1, 0] rfl ?_
  -- loop at 7
  have L39 : ∀ (μ : Nat) (x37 : Int) (h38 : Hp), (24 - x37).toNat = μ → Okh h38 → Fx [26420000] h29 h38 → ((0 : Int) ≤ x37 ∧ x37 ≤ (24 : Int)) → (0 ≤ r28 → lnF (Iv h (Rv h a0 25)) (Iv h (Rv h a0 27)) a1 (wv (Iv h (Rv h a0 29)) (Iv h (Rv h a0 30)) (Iv h (Rv h a0 31))) r28 (Iv h (Rv h a0 24) r28.toNat - x37).toNat x37 = LO h a0 a1 (Iv h (Rv h a0 31))) → GW p l e (rmm 2 46 0 0) s m (List.map toV [.inr (.inr a0), .inl a1]).toArray below meth c D cy z0 4 (MQ below (QI D cy z0 (fun v h1 => Okh h1 ∧ Fx wr_k_X12_lineOf h h1 ∧ ((-1) ≤ v ∧ v ≤ 23) ∧ (v = LO h a0 a1 (Iv h (Rv h a0 31))))) (List.map toV [.inr (.inr a0), .inl a1]).toArray s 0 0 (Aof z0)) 7 [(0, .inr (.inr a0)), (1, .inl a1), (2, .inl r28), (3, .inl x37)] [] h38 0 0 := by
    intro μ
    induction μ using Nat.strongRecOn with
    | ind μ ih40 =>
      intro x37 h38 hm41 O42 F43 f44 p45
      refine g_iload_n C rfl 2 rfl dX12_lineOf_7 ?_
      refine g_if_lt C (iw f36 (by decide) (by decide)) 62 (by decide) dX12_lineOf_8 (fun q46 => ?_) (fun q47 => ?_)
      · have f48 : (-1 : Int) ≤ r28 ∧ r28 ≤ (-1 : Int) := r_lt f36 (il 0) q46 (by decide) (by decide)
        refine g_iconst C dX12_lineOf_62 ?_
        exact g_iret C hr rfl (iw (il (-1)) (by decide) (by decide)) ⟨O42, (((Fx.rf (wr := wr_k_X12_lineOf)).call F33 rfl).call F43 rfl), (iw (il (-1)) (by decide) (by decide)), (by unfold LO; rw [e26, if_pos (by omega)])⟩ (by decide) (by decide) dX12_lineOf_63
      · have f49 : (0 : Int) ≤ r28 ∧ r28 ≤ (7 : Int) := r_ge f36 (il 0) q47 (by decide) (by decide)
        refine g_iload_n C rfl 3 rfl dX12_lineOf_11 ?_
        refine g_aload_n C rfl 0 rfl dX12_lineOf_12 ?_
        have e50 : Tg h38 a0 = 12 := (fxT F43 (fxT F33 ta0))
        have e51 : Tg h29 a0 = 12 := (fxT F33 ta0)
        have e52 : Rv h38 a0 24 = v1 := ((fxR F43 e51 rfl).trans ((fxR F33 ta0 rfl).trans e2))
        refine gf_R C fk_LandSurveyModel_137 rfl e50 e52 dX12_lineOf_13 ?_
        refine g_iload_n C rfl 2 rfl dX12_lineOf_16 ?_
        have e53 : Tg h38 v1 = 124100 := (fxT F43 (fxT F33 t3))
        have e54 : Tg h29 v1 = 124100 := (fxT F33 t3)
        have e55 : Ln h38 v1 = 9 := ((fxL F43 e54).trans ((fxL F33 t3).trans l4))
        obtain ⟨v56, e57⟩ : ∃ z, Iv h38 v1 r28.toNat = z := ⟨_, rfl⟩
        have f58 := ok_Ia O42 e53 ar_124100 rI_124100_0 e57
        refine g_iald C e53 rfl e55 (ix f49 (by decide) (by decide)) e57 dX12_lineOf_17 ?_
        have E59 : Iv h38 (Rv h38 a0 24) = Iv h (Rv h a0 24) := mAI (j := 24) O (((Fx.rf (wr := [26420000]) (h := h)).call F33 rfl).call F43 rfl) ta0 rE_12_24 ar_124100 rfl rfl
        have q60 : Iv h (Rv h a0 24) r28.toNat = v56 := by rw [← E59, e52]; exact e57
        have p61 := p45 (by omega)
        rw [q60] at p61
        refine g_icmp_ge C (iw f44 (by decide) (by decide)) (iw f58 (by decide) (by decide)) 62 (by decide) dX12_lineOf_18 (fun q62 => ?_) (fun q63 => ?_)
        · refine g_iconst C dX12_lineOf_62 ?_
          exact g_iret C hr rfl (iw (il (-1)) (by decide) (by decide)) ⟨O42, (((Fx.rf (wr := wr_k_X12_lineOf)).call F33 rfl).call F43 rfl), (iw (il (-1)) (by decide) (by decide)), (by have z := p61; rw [show (v56 - x37).toNat = 0 by omega] at z; exact z)⟩ (by decide) (by decide) dX12_lineOf_63
        · have f64 : (0 : Int) ≤ x37 ∧ x37 ≤ (23 : Int) := r_lt f44 f58 q63 (by decide) (by decide)
          have f65 : (1 : Int) ≤ v56 ∧ v56 ≤ (24 : Int) := r_gt f58 f44 q63 (by decide) (by decide)
          refine g_aload_n C rfl 0 rfl dX12_lineOf_21 ?_
          have e66 : Rv h38 a0 25 = v5 := ((fxR F43 e51 rfl).trans ((fxR F33 ta0 rfl).trans e6))
          refine gf_R C fk_LandSurveyModel_140 rfl e50 e66 dX12_lineOf_22 ?_
          refine g_bipush C (by decide) dX12_lineOf_25 ?_
          refine g_iload_n C rfl 2 rfl dX12_lineOf_27 ?_
          have f67 : (0 : Int) ≤ (24 * r28) ∧ (24 * r28) ≤ (168 : Int) := ia_mul (by decide) f49 (by decide) (by decide)
          refine g_imul C dX12_lineOf_28 ?_
          refine g_iload_n C rfl 3 rfl dX12_lineOf_29 ?_
          have f68 : (0 : Int) ≤ ((24 * r28) + x37) ∧ ((24 * r28) + x37) ≤ (191 : Int) := ia_add f67 f64 (by decide) (by decide)
          refine g_iadd C dX12_lineOf_30 ?_
          have e69 : Tg h38 v5 = 125100 := (fxT F43 (fxT F33 t7))
          have e70 : Tg h29 v5 = 125100 := (fxT F33 t7)
          have e71 : Ln h38 v5 = 216 := ((fxL F43 e70).trans ((fxL F33 t7).trans l8))
          obtain ⟨v72, e73⟩ : ∃ z, Iv h38 v5 (((24 * r28) + x37).toNat) = z := ⟨_, rfl⟩
          have f74 := ok_Ia O42 e69 ar_125100 rI_125100_0 e73
          refine g_iald C e69 rfl e71 (ix f68 (by decide) (by decide)) e73 dX12_lineOf_31 ?_
          refine g_iload_n C rfl 1 rfl dX12_lineOf_32 ?_
          have E75 : Iv h38 (Rv h38 a0 25) = Iv h (Rv h a0 25) := mAI (j := 25) O (((Fx.rf (wr := [26420000]) (h := h)).call F33 rfl).call F43 rfl) ta0 rE_12_25 ar_125100 rfl rfl
          have q76 : Iv h (Rv h a0 25) (((24 * r28) + x37).toNat) = v72 := by rw [← E75, e66]; exact e73
          refine g_icmp_ne C (iw f74 (by decide) (by decide)) (iw fa1 (by decide) (by decide)) 56 (by decide) dX12_lineOf_33 (fun q77 => ?_) (fun q78 => ?_)
          · have f79 : (1 : Int) ≤ (x37 + 1) ∧ (x37 + 1) ≤ (24 : Int) := ia_add f64 (il 1) (by decide) (by decide)
            refine g_iinc C [(3, .inl (x37 + 1)), (0, .inr (.inr a0)), (1, .inl a1), (2, .inl r28)] 3 rfl (by decide) rfl dX12_lineOf_56 ?_
            refine g_goto C 7 (by decide) dX12_lineOf_59 ?_
            refine GW.sub [1, 2, 3, 0] rfl ?_
            exact ih40 _ (by omega) (x37 + 1) h38 rfl O42 F43 (iw f79 (by decide) (by decide)) (fun hb => by rw [q60, show (v56 - (x37 + 1)).toNat = (v56 - x37).toNat - 1 by omega, ← lnF_miss (by omega) (fun z => by have y := (Eq.symm q76).trans z.1; omega)]; exact p61)
          · refine g_aload_n C rfl 0 rfl dX12_lineOf_36 ?_
            refine g_aload_n C rfl 0 rfl dX12_lineOf_37 ?_
            have e80 : Rv h38 a0 27 = v9 := ((fxR F43 e51 rfl).trans ((fxR F33 ta0 rfl).trans e10))
            refine gf_R C fk_LandSurveyModel_146 rfl e50 e80 dX12_lineOf_38 ?_
            refine g_bipush C (by decide) dX12_lineOf_41 ?_
            refine g_iload_n C rfl 2 rfl dX12_lineOf_43 ?_
            refine g_imul C dX12_lineOf_44 ?_
            refine g_iload_n C rfl 3 rfl dX12_lineOf_45 ?_
            refine g_iadd C dX12_lineOf_46 ?_
            have e81 : Tg h38 v9 = 127100 := (fxT F43 (fxT F33 t11))
            have e82 : Tg h29 v9 = 127100 := (fxT F33 t11)
            have e83 : Ln h38 v9 = 216 := ((fxL F43 e82).trans ((fxL F33 t11).trans l12))
            obtain ⟨v84, e85⟩ : ∃ z, Iv h38 v9 (((24 * r28) + x37).toNat) = z := ⟨_, rfl⟩
            have f86 := ok_Ia O42 e81 ar_127100 rI_127100_0 e85
            refine g_iald C e81 rfl e83 (ix f68 (by decide) (by decide)) e85 dX12_lineOf_47 ?_
            have E87 : Iv h38 (Rv h38 a0 27) = Iv h (Rv h a0 27) := mAI (j := 27) O (((Fx.rf (wr := [26420000]) (h := h)).call F33 rfl).call F43 rfl) ta0 rE_12_27 ar_127100 rfl rfl
            have q88 : Iv h (Rv h a0 27) (((24 * r28) + x37).toNat) = v84 := by rw [← E87, e80]; exact e85
            have E89 : Iv h38 (Rv h38 a0 29) = Iv h (Rv h a0 29) := mAI (j := 29) O (((Fx.rf (wr := [26420000]) (h := h)).call F33 rfl).call F43 rfl) ta0 rE_12_29 ar_129100 rfl rfl
            have E90 : Iv h38 (Rv h38 a0 30) = Iv h (Rv h a0 30) := mAI (j := 30) O (((Fx.rf (wr := [26420000]) (h := h)).call F33 rfl).call F43 rfl) ta0 rE_12_30 ar_130100 rfl rfl
            have E91 : Iv h38 (Rv h38 a0 31) = Iv h (Rv h a0 31) := mAI (j := 31) O (((Fx.rf (wr := [26420000]) (h := h)).call F33 rfl).call F43 rfl) ta0 rE_12_31 ar_131100 rfl rfl
            have p92 := ((BNow_fx O32 F43 e51 rfl).trans ((BNow_fx O F33 ta0 rfl).trans e26))
            have p93 := (MInv_fx O32 F43 e51 rfl (MInv_fx O F33 ta0 rfl P_MInv))
            refine g_callI (st := []) (gc_V C lk_LandSurveyModel_435 (k_X12_worth l D cy w z0 O42 e50 f86 (by have z := (MInv.book O42 e50 p93 p92 (by omega)) x37.toNat (by rw [e52, show v25.toNat = r28.toNat by omega, e57]; omega); rw [e80, show 24 * v25.toNat + x37.toNat = ((24 * r28) + x37).toNat by omega, e85] at z; exact LOb.lk (by omega) z.1)) e50 rfl rfl rfl ⟨by decide, by decide⟩ (Nat.le_of_ble_eq_true rfl) dX12_lineOf_48 ⟨(by decide), (by decide)⟩) (fun r94 h95 f97 K96 => ?_)
            obtain ⟨O98, F99, f100, p101⟩ := K96
            refine g_if_eq C f100 56 (by decide) dX12_lineOf_51 (fun q102 => ?_) (fun q103 => ?_)
            · have f104 : (0 : Int) ≤ r94 ∧ r94 ≤ (0 : Int) := ii f100 (r_eq (il 0) q102) (by decide) (by decide)
              have f105 : (1 : Int) ≤ (x37 + 1) ∧ (x37 + 1) ≤ (24 : Int) := ia_add f64 (il 1) (by decide) (by decide)
              refine g_iinc C [(3, .inl (x37 + 1)), (0, .inr (.inr a0)), (1, .inl a1), (2, .inl r28)] 3 rfl (by decide) rfl dX12_lineOf_56 ?_
              refine g_goto C 7 (by decide) dX12_lineOf_59 ?_
              refine GW.sub [1, 2, 3, 0] rfl ?_
              have e106 : Rv h95 a0 24 = v1 := ((fxR F99 e50 rfl).trans e52)
              have e107 : Iv h95 v1 r28.toNat = v56 := ((fxIa F99 e53 ar_124100 rfl).trans e57)
              exact ih40 _ (by omega) (x37 + 1) h95 rfl O98 (F43.call F99 rfl) (iw f105 (by decide) (by decide)) (fun hb => by rw [q60, show (v56 - (x37 + 1)).toNat = (v56 - x37).toNat - 1 by omega, ← lnF_miss (by omega) (fun z => z.2 (by rw [q88, ← E89, ← E90, ← E91, ← p101]; omega))]; exact p61)
            · refine g_iload_n C rfl 3 rfl dX12_lineOf_54 ?_
              exact g_iret C hr rfl (iw f64 (by decide) (by decide)) ⟨O98, ((((Fx.rf (wr := wr_k_X12_lineOf)).call F33 rfl).call F43 rfl).call F99 rfl), (iw f64 (by decide) (by decide)), (Eq.trans (Eq.symm (lnF_hit (by omega) (q76.trans (by omega)) (fun zz => by have y : ¬ r94 = 0 := (by omega); exact y (p101.trans (by rw [← zz, q88, E89, E90, E91]))))) p61)⟩ (by decide) (by decide) dX12_lineOf_55
  exact L39 _ 0 h29 rfl O32 Fx.rf (iw (il 0) (by decide) (by decide)) (fun hb => by unfold LO; rw [e26, if_neg (by omega), Int.sub_zero, show r28 = v25 by omega])
def wr_k_X12_namedBy : List Nat := [26220000, 26420000]
set_option maxRecDepth 100000 in
set_option maxHeartbeats 4000000 in
theorem k_X12_namedBy (l : Launch) (D : va_G) (cy : Nat → ClassId) (w : Nat → Nat) (z0 : Nat)  {h : Hp} {a0 : Nat} {a1 : Int}  (O : Okh h) (ta0 : Tg h a0 = 12) (fa1 : 0 ≤ a1 ∧ a1 ≤ 39) (P_MInv : MInv h a0) : MI l D cy w z0 yX12_namedBy cX12_namedBy 2 (some .int) 3 69 0 0 [.inr (.inr a0), .inl a1] h (fun v h1 => Okh h1 ∧ Fx wr_k_X12_namedBy h h1 ∧ ((-1) ≤ v ∧ v ≤ 23) ∧ (v = NB h a0 a1)) := by
  refine hm_go (by decide +kernel) (Nat.le_of_ble_eq_true rfl) (fun p e s m below meth c C hr hn => ?_)
  refine g_aload_n C rfl 0 rfl dX12_namedBy_0 ?_
  refine g_iload_n C rfl 1 rfl dX12_namedBy_1 ?_
  refine g_callV (st := []) (gc_V C lk_LandSurveyModel_438 (k_X12_tellsSight l D cy w z0 O ta0 fa1) ta0 rfl rfl rfl ⟨by decide, by decide⟩ (Nat.le_of_ble_eq_true rfl) dX12_namedBy_2 ⟨(by decide), (by decide)⟩) (fun h2 K3 => ?_)
  obtain ⟨O5, F6, p7⟩ := K3
  refine g_aload_n C rfl 0 rfl dX12_namedBy_5 ?_
  refine g_iconst C dX12_namedBy_6 ?_
  have e8 : Tg h2 a0 = 12 := (fxT F6 ta0)
  have p9 := (MInv_fx O F6 ta0 rfl P_MInv)
  refine g_callI (st := []) (gc_V C lk_LandSurveyModel_441 (k_X12_lineOf l D cy w z0 O5 e8 (iw (il 1) (by decide) (by decide)) p9) e8 rfl rfl rfl ⟨by decide, by decide⟩ (Nat.le_of_ble_eq_true rfl) dX12_namedBy_7 ⟨(by decide), (by decide)⟩) (fun r10 h11 f13 K12 => ?_)
  obtain ⟨O14, F15, f16, p17⟩ := K12
  obtain ⟨v18, e19⟩ : ∃ z, BNow h2 a0 = z := ⟨_, rfl⟩
  have f20 : (-1 : Int) ≤ v18 ∧ v18 ≤ (7 : Int) := BNow_rng O5 e8 e19
  have z21 := LO_spec O5 e8 (Eq.symm p17)
  rw [e19] at z21
  exact g_iret C hr rfl (iw f16 (by decide) (by decide)) ⟨O14, (((Fx.rf (wr := wr_k_X12_namedBy)).call F6 rfl).call F15 rfl), f16, (p17.trans ((LO_kn p7).trans (LO_fx O ((Fx.rf (wr := wr_k_X12_namedBy) (h := h)).call F6 rfl) ta0 rfl)))⟩ (by decide) (by decide) dX12_namedBy_10
def wr_k_X12_rockOf : List Nat := [26220000, 26420000]
set_option maxRecDepth 100000 in
set_option maxHeartbeats 4000000 in
theorem k_X12_rockOf (l : Launch) (D : va_G) (cy : Nat → ClassId) (w : Nat → Nat) (z0 : Nat)  {h : Hp} {a0 : Nat} {a1 : Int}  (O : Okh h) (ta0 : Tg h a0 = 12) (fa1 : 0 ≤ a1 ∧ a1 ≤ 39) (P_MInv : MInv h a0) : MI l D cy w z0 yX12_rockOf cX12_rockOf 3 (some .int) 4 90 0 0 [.inr (.inr a0), .inl a1] h (fun v h1 => Okh h1 ∧ Fx wr_k_X12_rockOf h h1 ∧ ((-1) ≤ v ∧ v ≤ 9) ∧ (v = RK h a0 a1) ∧ (v = -1 ∨ 0 ≤ BNow h a0)) := by
  refine hm_go (by decide +kernel) (Nat.le_of_ble_eq_true rfl) (fun p e s m below meth c C hr hn => ?_)
  obtain ⟨v1, e2⟩ : ∃ z, Rv h a0 24 = z := ⟨_, rfl⟩
  have t3 := ok_R O ta0 rE_12_24 e2
  have l4 := ok_L O ta0 rE_12_24 e2
  obtain ⟨v5, e6⟩ : ∃ z, Rv h a0 25 = z := ⟨_, rfl⟩
  have t7 := ok_R O ta0 rE_12_25 e6
  have l8 := ok_L O ta0 rE_12_25 e6
  obtain ⟨v9, e10⟩ : ∃ z, Rv h a0 26 = z := ⟨_, rfl⟩
  have t11 := ok_R O ta0 rE_12_26 e10
  have l12 := ok_L O ta0 rE_12_26 e10
  obtain ⟨v13, e14⟩ : ∃ z, BNow h a0 = z := ⟨_, rfl⟩
  have f15 : (-1 : Int) ≤ v13 ∧ v13 ≤ (7 : Int) := BNow_rng O ta0 e14
  refine g_aload_n C rfl 0 rfl dX12_rockOf_0 ?_
  refine g_iload_n C rfl 1 rfl dX12_rockOf_1 ?_
  refine g_callI (st := []) (gc_V C lk_LandSurveyModel_444 (k_X12_namedBy l D cy w z0 O ta0 fa1 P_MInv) ta0 rfl rfl rfl ⟨by decide, by decide⟩ (Nat.le_of_ble_eq_true rfl) dX12_rockOf_2 ⟨(by decide), (by decide)⟩) (fun r16 h17 f19 K18 => ?_)
  obtain ⟨O20, F21, f22, p23⟩ := K18
  have z24 := LO_spec (kind := 1) O ta0 (Eq.symm p23)
  rw [e14] at z24
  refine g_istore_n C [(2, .inl r16), (0, .inr (.inr a0)), (1, .inl a1)] rfl (by decide) rfl dX12_rockOf_5 ?_
  refine g_iload_n C rfl 0 rfl dX12_rockOf_6 ?_
  refine g_if_ge C (iw f22 (by decide) (by decide)) 14 (by decide) dX12_rockOf_7 (fun q25 => ?_) (fun q26 => ?_)
  · have f27 : (0 : Int) ≤ r16 ∧ r16 ≤ (23 : Int) := r_ge f22 (il 0) q25 (by decide) (by decide)
    refine g_aload_n C rfl 1 rfl dX12_rockOf_14 ?_
    have e28 : Tg h17 a0 = 12 := (fxT F21 ta0)
    have e29 : Rv h17 a0 26 = v9 := ((fxR F21 ta0 rfl).trans e10)
    refine gf_R C fk_LandSurveyModel_143 rfl e28 e29 dX12_rockOf_15 ?_
    refine g_bipush C (by decide) dX12_rockOf_18 ?_
    refine g_aload_n C rfl 1 rfl dX12_rockOf_20 ?_
    refine g_callI (st := [.inl 24, .inr (.inr v9)]) (gc_V C lk_LandSurveyModel_432 (k_X12_bookNow l D cy w z0 O20 e28) e28 rfl rfl rfl ⟨by decide, by decide⟩ (Nat.le_of_ble_eq_true rfl) dX12_rockOf_21 ⟨(by decide), (by decide)⟩) (fun r30 h31 f33 K32 => ?_)
    obtain ⟨O34, F35, f36, p37⟩ := K32
    have p38 := ((BNow_fx O F21 ta0 rfl).trans e14)
    rw [p38] at p37
    have f39 : (-1 : Int) ≤ r30 ∧ r30 ≤ (7 : Int) := by omega
    have f40 : (-24 : Int) ≤ (24 * r30) ∧ (24 * r30) ≤ (168 : Int) := ia_mul (by decide) f39 (by decide) (by decide)
    refine g_imul C dX12_rockOf_24 ?_
    refine g_iload_n C rfl 0 rfl dX12_rockOf_25 ?_
    have f41 : (-24 : Int) ≤ ((24 * r30) + r16) ∧ ((24 * r30) + r16) ≤ (191 : Int) := ia_add f40 f27 (by decide) (by decide)
    refine g_iadd C dX12_rockOf_26 ?_
    have e42 : Tg h31 v9 = 126100 := (fxT F35 (fxT F21 t11))
    have e43 : Tg h17 v9 = 126100 := (fxT F21 t11)
    have e44 : Ln h31 v9 = 216 := ((fxL F35 e43).trans ((fxL F21 t11).trans l12))
    obtain ⟨v45, e46⟩ : ∃ z, Iv h31 v9 (((24 * r30) + r16).toNat) = z := ⟨_, rfl⟩
    have f47 := ok_Ia O34 e42 ar_126100 rI_126100_0 e46
    refine g_iald C e42 rfl e44 (by omega) e46 dX12_rockOf_27 ?_
    have e48 : Rv h31 a0 26 = v9 := ((fxR F35 e28 rfl).trans e29)
    have E49 : Iv h31 (Rv h31 a0 26) = Iv h (Rv h a0 26) := mAI (j := 26) O (((Fx.rf (wr := [26220000, 26420000]) (h := h)).call F21 rfl).call F35 rfl) ta0 rE_12_26 ar_126100 rfl rfl
    have q50 : Iv h (Rv h a0 26) (((24 * r30) + r16).toNat) = v45 := by rw [← E49, e48]; exact e46
    have p51 := ((BNow_fx O20 F35 e28 rfl).trans p38)
    have p52 := (MInv_fx O20 F35 e28 rfl (MInv_fx O F21 ta0 rfl P_MInv))
    have e53 : Rv h31 a0 24 = v1 := ((fxR F35 e28 rfl).trans ((fxR F21 ta0 rfl).trans e2))
    have e54 : Rv h31 a0 25 = v5 := ((fxR F35 e28 rfl).trans ((fxR F21 ta0 rfl).trans e6))
    have E55 : Iv h31 (Rv h31 a0 24) = Iv h (Rv h a0 24) := mAI (j := 24) O (((Fx.rf (wr := [26220000, 26420000]) (h := h)).call F21 rfl).call F35 rfl) ta0 rE_12_24 ar_124100 rfl rfl
    have E56 : Iv h31 (Rv h31 a0 25) = Iv h (Rv h a0 25) := mAI (j := 25) O (((Fx.rf (wr := [26220000, 26420000]) (h := h)).call F21 rfl).call F35 rfl) ta0 rE_12_25 ar_125100 rfl rfl
    have e58 : Tg h31 a0 = 12 := (fxT F35 e28)
    have z57 := (MInv.book O34 e58 p52 p51 (by omega)) r16.toNat (by rw [E55, show v13.toNat = v13.toNat by omega]; omega)
    rw [E56, show 24 * v13.toNat + r16.toNat = (24 * v13 + r16).toNat by omega] at z57
    have y59 := z57.2 (by omega)
    rw [e48, show (24 * v13 + r16).toNat = ((24 * r30) + r16).toNat by omega, e46] at y59
    exact g_iret C hr rfl (iw f47 (by decide) (by decide)) ⟨O34, (((Fx.rf (wr := wr_k_X12_rockOf)).call F21 rfl).call F35 rfl), ⟨by omega, by omega⟩, (by unfold RK; rw [← p23, if_neg (by omega), e14, show (24 * v13 + r16).toNat = ((24 * r30) + r16).toNat by omega, q50]), (by rw [e14]; omega)⟩ (by decide) (by decide) dX12_rockOf_28
  · have f60 : (-1 : Int) ≤ r16 ∧ r16 ≤ (-1 : Int) := r_lt f22 (il 0) q26 (by decide) (by decide)
    refine g_iconst C dX12_rockOf_10 ?_
    refine g_goto C 28 (by decide) dX12_rockOf_11 ?_
    exact g_iret C hr rfl (iw (il (-1)) (by decide) (by decide)) ⟨O20, ((Fx.rf (wr := wr_k_X12_rockOf)).call F21 rfl), (iw (il (-1)) (by decide) (by decide)), (by unfold RK; rw [← p23, if_pos (by omega)]), (by rw [e14]; omega)⟩ (by decide) (by decide) dX12_rockOf_28
def wr_k_X12_worthOf : List Nat := [26220000, 26420000]
set_option maxRecDepth 100000 in
set_option maxHeartbeats 4000000 in
theorem k_X12_worthOf (l : Launch) (D : va_G) (cy : Nat → ClassId) (w : Nat → Nat) (z0 : Nat)  {h : Hp} {a0 : Nat} {a1 : Int}  (O : Okh h) (ta0 : Tg h a0 = 12) (fa1 : 0 ≤ a1 ∧ a1 ≤ 39) (P_MInv : MInv h a0) : MI l D cy w z0 yX12_worthOf cX12_worthOf 3 (some .int) 3 69 0 0 [.inr (.inr a0), .inl a1] h (fun v h1 => Okh h1 ∧ Fx wr_k_X12_worthOf h h1 ∧ (0 ≤ v ∧ v ≤ 99)) := by
  refine hm_go (by decide +kernel) (Nat.le_of_ble_eq_true rfl) (fun p e s m below meth c C hr hn => ?_)
  refine g_aload_n C rfl 0 rfl dX12_worthOf_0 ?_
  refine g_iload_n C rfl 1 rfl dX12_worthOf_1 ?_
  refine g_callV (st := []) (gc_V C lk_LandSurveyModel_438 (k_X12_tellsSight l D cy w z0 O ta0 fa1) ta0 rfl rfl rfl ⟨by decide, by decide⟩ (Nat.le_of_ble_eq_true rfl) dX12_worthOf_2 ⟨(by decide), (by decide)⟩) (fun h2 K3 => ?_)
  obtain ⟨O5, F6, p7⟩ := K3
  refine g_aload_n C rfl 0 rfl dX12_worthOf_5 ?_
  refine g_iconst C dX12_worthOf_6 ?_
  have e8 : Tg h2 a0 = 12 := (fxT F6 ta0)
  have p9 := (MInv_fx O F6 ta0 rfl P_MInv)
  refine g_callI (st := []) (gc_V C lk_LandSurveyModel_441 (k_X12_lineOf l D cy w z0 O5 e8 (iw (il 2) (by decide) (by decide)) p9) e8 rfl rfl rfl ⟨by decide, by decide⟩ (Nat.le_of_ble_eq_true rfl) dX12_worthOf_7 ⟨(by decide), (by decide)⟩) (fun r10 h11 f13 K12 => ?_)
  obtain ⟨O14, F15, f16, p17⟩ := K12
  obtain ⟨v18, e19⟩ : ∃ z, BNow h2 a0 = z := ⟨_, rfl⟩
  have f20 : (-1 : Int) ≤ v18 ∧ v18 ≤ (7 : Int) := BNow_rng O5 e8 e19
  have z21 := LO_spec O5 e8 (Eq.symm p17)
  rw [e19] at z21
  refine g_istore_n C [(2, .inl r10), (0, .inr (.inr a0)), (1, .inl a1)] rfl (by decide) rfl dX12_worthOf_10 ?_
  refine g_iload_n C rfl 0 rfl dX12_worthOf_11 ?_
  refine g_if_ge C (iw f16 (by decide) (by decide)) 20 (by decide) dX12_worthOf_12 (fun q22 => ?_) (fun q23 => ?_)
  · have f24 : (0 : Int) ≤ r10 ∧ r10 ≤ (23 : Int) := r_ge f16 (il 0) q22 (by decide) (by decide)
    refine g_aload_n C rfl 1 rfl dX12_worthOf_20 ?_
    have e25 : Tg h11 a0 = 12 := (fxT F15 e8)
    obtain ⟨v26, e27⟩ : ∃ z, Rv h11 a0 26 = z := ⟨_, rfl⟩
    have t28 := ok_R O14 e25 rE_12_26 e27
    have l29 := ok_L O14 e25 rE_12_26 e27
    refine gf_R C fk_LandSurveyModel_143 rfl e25 e27 dX12_worthOf_21 ?_
    refine g_bipush C (by decide) dX12_worthOf_24 ?_
    refine g_aload_n C rfl 1 rfl dX12_worthOf_26 ?_
    refine g_callI (st := [.inl 24, .inr (.inr v26)]) (gc_V C lk_LandSurveyModel_432 (k_X12_bookNow l D cy w z0 O14 e25) e25 rfl rfl rfl ⟨by decide, by decide⟩ (Nat.le_of_ble_eq_true rfl) dX12_worthOf_27 ⟨(by decide), (by decide)⟩) (fun r30 h31 f33 K32 => ?_)
    obtain ⟨O34, F35, f36, p37⟩ := K32
    have p38 := ((BNow_fx O5 F15 e8 rfl).trans e19)
    rw [p38] at p37
    have f39 : (-1 : Int) ≤ r30 ∧ r30 ≤ (7 : Int) := by omega
    have f40 : (-24 : Int) ≤ (24 * r30) ∧ (24 * r30) ≤ (168 : Int) := ia_mul (by decide) f39 (by decide) (by decide)
    refine g_imul C dX12_worthOf_30 ?_
    refine g_iload_n C rfl 0 rfl dX12_worthOf_31 ?_
    have f41 : (-24 : Int) ≤ ((24 * r30) + r10) ∧ ((24 * r30) + r10) ≤ (191 : Int) := ia_add f40 f24 (by decide) (by decide)
    refine g_iadd C dX12_worthOf_32 ?_
    have e42 : Tg h31 v26 = 126100 := (fxT F35 t28)
    have e43 : Ln h31 v26 = 216 := ((fxL F35 t28).trans l29)
    obtain ⟨v44, e45⟩ : ∃ z, Iv h31 v26 (((24 * r30) + r10).toNat) = z := ⟨_, rfl⟩
    have f46 := ok_Ia O34 e42 ar_126100 rI_126100_0 e45
    refine g_iald C e42 rfl e43 (by omega) e45 dX12_worthOf_33 ?_
    exact g_iret C hr rfl (iw f46 (by decide) (by decide)) ⟨O34, ((((Fx.rf (wr := wr_k_X12_worthOf)).call F6 rfl).call F15 rfl).call F35 rfl), f46⟩ (by decide) (by decide) dX12_worthOf_34
  · have f47 : (-1 : Int) ≤ r10 ∧ r10 ≤ (-1 : Int) := r_lt f16 (il 0) q23 (by decide) (by decide)
    refine g_bipush C (by decide) dX12_worthOf_15 ?_
    refine g_goto C 34 (by decide) dX12_worthOf_17 ?_
    exact g_iret C hr rfl (iw (il 10) (by decide) (by decide)) ⟨O14, (((Fx.rf (wr := wr_k_X12_worthOf)).call F6 rfl).call F15 rfl), (iw (il 10) (by decide) (by decide))⟩ (by decide) (by decide) dX12_worthOf_34
def wr_k_X12_isInView : List Nat := []
set_option maxRecDepth 100000 in
set_option maxHeartbeats 4000000 in
theorem k_X12_isInView (l : Launch) (D : va_G) (cy : Nat → ClassId) (w : Nat → Nat) (z0 : Nat)  {h : Hp} {a0 : Nat} {a1 : Int}  (O : Okh h) (ta0 : Tg h a0 = 12) (fa1 : 0 ≤ a1 ∧ a1 ≤ 39) : MI l D cy w z0 yX12_isInView cX12_isInView 2 (some .boolean) 1 20 0 0 [.inr (.inr a0), .inl a1] h (fun v h1 => Okh h1 ∧ Fx wr_k_X12_isInView h h1 ∧ (0 ≤ v ∧ v ≤ 1)) := by
  refine hm_go (by decide +kernel) (Nat.le_of_ble_eq_true rfl) (fun p e s m below meth c C hr hn => ?_)
  refine g_aload_n C rfl 0 rfl dX12_isInView_0 ?_
  obtain ⟨v1, e2⟩ : ∃ z, Rv h a0 46 = z := ⟨_, rfl⟩
  have t3 := ok_R O ta0 rE_12_46 e2
  have l4 := ok_L O ta0 rE_12_46 e2
  refine gf_R C fk_LandSurveyModel_188 rfl ta0 e2 dX12_isInView_1 ?_
  refine g_iload_n C rfl 1 rfl dX12_isInView_4 ?_
  obtain ⟨v5, e6⟩ : ∃ z, Iv h v1 a1.toNat = z := ⟨_, rfl⟩
  have f7 := ok_Ia O t3 ar_146100 rI_146100_0 e6
  refine g_iald C t3 rfl l4 (ix fa1 (by decide) (by decide)) e6 dX12_isInView_5 ?_
  refine g_aload_n C rfl 0 rfl dX12_isInView_6 ?_
  refine g_callI (st := [.inl v5]) (gc_V C lk_LandSurveyModel_429 (k_X12_viewDay l D cy w z0 O ta0) ta0 rfl rfl rfl ⟨by decide, by decide⟩ (Nat.le_of_ble_eq_true rfl) dX12_isInView_7 ⟨(by decide), (by decide)⟩) (fun r8 h9 f11 K10 => ?_)
  obtain ⟨O12, F13, f14, p15⟩ := K10
  obtain ⟨v16, e17⟩ : ∃ z, Iv h a0 34 = z := ⟨_, rfl⟩
  have f18 := ok_I O ta0 rI_12_34 e17
  obtain ⟨v19, e20⟩ : ∃ z, Iv h a0 33 = z := ⟨_, rfl⟩
  have f21 := ok_I O ta0 rI_12_33 e20
  rw [e17, e20] at p15
  refine g_icmp_gt C (iw f7 (by decide) (by decide)) (iw f14 (by decide) (by decide)) 39 (by decide) dX12_isInView_10 (fun q22 => ?_) (fun q23 => ?_)
  · have f24 : (0 : Int) ≤ r8 ∧ r8 ≤ (9998 : Int) := r_lt f14 f7 q22 (by decide) (by decide)
    have f25 : (1 : Int) ≤ v5 ∧ v5 ≤ (9999 : Int) := r_gt f7 f14 q22 (by decide) (by decide)
    refine g_iconst C dX12_isInView_39 ?_
    exact g_iret C hr (nar_z2 (iw (il 0) (by decide) (by decide))).1 (iw (il 0) (by decide) (by decide)) ⟨O12, ((Fx.rf (wr := wr_k_X12_isInView)).call F13 rfl), (iw (il 0) (by decide) (by decide))⟩ (by decide) (by decide) dX12_isInView_40
  · refine g_aload_n C rfl 0 rfl dX12_isInView_13 ?_
    have e26 : Tg h9 a0 = 12 := (fxT F13 ta0)
    obtain ⟨v27, e28⟩ : ∃ z, Rv h9 a0 47 = z := ⟨_, rfl⟩
    have t29 := ok_R O12 e26 rE_12_47 e28
    have l30 := ok_L O12 e26 rE_12_47 e28
    refine gf_R C fk_LandSurveyModel_191 rfl e26 e28 dX12_isInView_14 ?_
    refine g_iload_n C rfl 1 rfl dX12_isInView_17 ?_
    obtain ⟨v31, e32⟩ : ∃ z, Iv h9 v27 a1.toNat = z := ⟨_, rfl⟩
    have f33 := ok_Ia O12 t29 ar_147100 rI_147100_0 e32
    refine g_iald C t29 rfl l30 (ix fa1 (by decide) (by decide)) e32 dX12_isInView_18 ?_
    refine g_if_lt C (iw f33 (by decide) (by decide)) 35 (by decide) dX12_isInView_19 (fun q34 => ?_) (fun q35 => ?_)
    · have f36 : (-1 : Int) ≤ v31 ∧ v31 ≤ (-1 : Int) := r_lt f33 (il 0) q34 (by decide) (by decide)
      refine g_iconst C dX12_isInView_35 ?_
      refine g_goto C 40 (by decide) dX12_isInView_36 ?_
      exact g_iret C hr (nar_z2 (iw (il 1) (by decide) (by decide))).1 (iw (il 1) (by decide) (by decide)) ⟨O12, ((Fx.rf (wr := wr_k_X12_isInView)).call F13 rfl), (iw (il 1) (by decide) (by decide))⟩ (by decide) (by decide) dX12_isInView_40
    · have f37 : (0 : Int) ≤ v31 ∧ v31 ≤ (9999 : Int) := r_ge f33 (il 0) q35 (by decide) (by decide)
      refine g_aload_n C rfl 0 rfl dX12_isInView_22 ?_
      refine gf_R C fk_LandSurveyModel_191 rfl e26 e28 dX12_isInView_23 ?_
      refine g_iload_n C rfl 1 rfl dX12_isInView_26 ?_
      refine g_iald C t29 rfl l30 (ix fa1 (by decide) (by decide)) e32 dX12_isInView_27 ?_
      refine g_aload_n C rfl 0 rfl dX12_isInView_28 ?_
      refine g_callI (st := [.inl v31]) (gc_V C lk_LandSurveyModel_429 (k_X12_viewDay l D cy w z0 O12 e26) e26 rfl rfl rfl ⟨by decide, by decide⟩ (Nat.le_of_ble_eq_true rfl) dX12_isInView_29 ⟨(by decide), (by decide)⟩) (fun r38 h39 f41 K40 => ?_)
      obtain ⟨O42, F43, f44, p45⟩ := K40
      have e46 : Iv h9 a0 34 = v16 := ((fxI F13 ta0 rfl).trans e17)
      have e47 : Iv h9 a0 33 = v19 := ((fxI F13 ta0 rfl).trans e20)
      rw [e46, e47] at p45
      refine g_icmp_le C (iw f37 (by decide) (by decide)) (iw f44 (by decide) (by decide)) 39 (by decide) dX12_isInView_32 (fun q48 => ?_) (fun q49 => ?_)
      · refine g_iconst C dX12_isInView_39 ?_
        exact g_iret C hr (nar_z2 (iw (il 0) (by decide) (by decide))).1 (iw (il 0) (by decide) (by decide)) ⟨O42, (((Fx.rf (wr := wr_k_X12_isInView)).call F13 rfl).call F43 rfl), (iw (il 0) (by decide) (by decide))⟩ (by decide) (by decide) dX12_isInView_40
      · have f50 : (0 : Int) ≤ r38 ∧ r38 ≤ (9998 : Int) := r_lt f44 f37 q49 (by decide) (by decide)
        have f51 : (1 : Int) ≤ v31 ∧ v31 ≤ (9999 : Int) := r_gt f37 f44 q49 (by decide) (by decide)
        refine g_iconst C dX12_isInView_35 ?_
        refine g_goto C 40 (by decide) dX12_isInView_36 ?_
        exact g_iret C hr (nar_z2 (iw (il 1) (by decide) (by decide))).1 (iw (il 1) (by decide) (by decide)) ⟨O42, (((Fx.rf (wr := wr_k_X12_isInView)).call F13 rfl).call F43 rfl), (iw (il 1) (by decide) (by decide))⟩ (by decide) (by decide) dX12_isInView_40
def wr_k_X12_says : List Nat := [26220000, 26420000]
set_option maxRecDepth 100000 in
set_option maxHeartbeats 4000000 in
theorem k_X12_says (l : Launch) (D : va_G) (cy : Nat → ClassId) (w : Nat → Nat) (z0 : Nat)  {h : Hp} {a0 : Nat} {a1 : Int}  (O : Okh h) (ta0 : Tg h a0 = 12) (fa1 : 0 ≤ a1 ∧ a1 ≤ 39) (P_MInv : MInv h a0) : MI l D cy w z0 yX12_says cX12_says 2 (some .boolean) 5 112 0 0 [.inr (.inr a0), .inl a1] h (fun v h1 => Okh h1 ∧ Fx wr_k_X12_says h h1 ∧ (0 ≤ v ∧ v ≤ 1) ∧ (v = 1 → 0 ≤ RK h a0 a1)) := by
  refine hm_go (by decide +kernel) (Nat.le_of_ble_eq_true rfl) (fun p e s m below meth c C hr hn => ?_)
  obtain ⟨v1, e2⟩ : ∃ z, RK h a0 a1 = z := ⟨_, rfl⟩
  refine g_aload_n C rfl 0 rfl dX12_says_0 ?_
  refine g_iload_n C rfl 1 rfl dX12_says_1 ?_
  refine g_callI (st := []) (gc_V C lk_LandSurveyModel_447 (k_X12_isInView l D cy w z0 O ta0 fa1) ta0 rfl rfl rfl ⟨by decide, by decide⟩ (Nat.le_of_ble_eq_true rfl) dX12_says_2 ⟨(by decide), (by decide)⟩) (fun r3 h4 f6 K5 => ?_)
  obtain ⟨O7, F8, f9⟩ := K5
  refine g_if_eq C (iw f9 (by decide) (by decide)) 20 (by decide) dX12_says_5 (fun q10 => ?_) (fun q11 => ?_)
  · have f12 : (0 : Int) ≤ r3 ∧ r3 ≤ (0 : Int) := ii f9 (r_eq (il 0) q10) (by decide) (by decide)
    refine g_iconst C dX12_says_20 ?_
    exact g_iret C hr (nar_z2 (iw (il 0) (by decide) (by decide))).1 (iw (il 0) (by decide) (by decide)) ⟨O7, ((Fx.rf (wr := wr_k_X12_says)).call F8 rfl), (iw (il 0) (by decide) (by decide)), (by rw [e2]; omega)⟩ (by decide) (by decide) dX12_says_21
  · have f13 : (1 : Int) ≤ r3 ∧ r3 ≤ (1 : Int) := r_nl f9 q11
    refine g_aload_n C rfl 0 rfl dX12_says_8 ?_
    refine g_iload_n C rfl 1 rfl dX12_says_9 ?_
    have e14 : Tg h4 a0 = 12 := (fxT F8 ta0)
    have p15 := (MInv_fx O F8 ta0 rfl P_MInv)
    refine g_callI (st := []) (gc_V C lk_LandSurveyModel_450 (k_X12_rockOf l D cy w z0 O7 e14 fa1 p15) e14 rfl rfl rfl ⟨by decide, by decide⟩ (Nat.le_of_ble_eq_true rfl) dX12_says_10 ⟨(by decide), (by decide)⟩) (fun r16 h17 f19 K18 => ?_)
    obtain ⟨O20, F21, f22, p23, p24⟩ := K18
    have p25 := ((RK_fx O F8 ta0 rfl).trans e2)
    rw [p25] at p23
    obtain ⟨v26, e27⟩ : ∃ z, BNow h4 a0 = z := ⟨_, rfl⟩
    have f28 : (-1 : Int) ≤ v26 ∧ v26 ≤ (7 : Int) := BNow_rng O7 e14 e27
    rw [e27] at p24
    refine g_if_lt C (iw f22 (by decide) (by decide)) 20 (by decide) dX12_says_13 (fun q29 => ?_) (fun q30 => ?_)
    · have f31 : (-1 : Int) ≤ r16 ∧ r16 ≤ (-1 : Int) := r_lt f22 (il 0) q29 (by decide) (by decide)
      refine g_iconst C dX12_says_20 ?_
      exact g_iret C hr (nar_z2 (iw (il 0) (by decide) (by decide))).1 (iw (il 0) (by decide) (by decide)) ⟨O20, (((Fx.rf (wr := wr_k_X12_says)).call F8 rfl).call F21 rfl), (iw (il 0) (by decide) (by decide)), (by rw [e2]; omega)⟩ (by decide) (by decide) dX12_says_21
    · have f32 : (0 : Int) ≤ r16 ∧ r16 ≤ (9 : Int) := r_ge f22 (il 0) q30 (by decide) (by decide)
      refine g_iconst C dX12_says_16 ?_
      refine g_goto C 21 (by decide) dX12_says_17 ?_
      exact g_iret C hr (nar_z2 (iw (il 1) (by decide) (by decide))).1 (iw (il 1) (by decide) (by decide)) ⟨O20, (((Fx.rf (wr := wr_k_X12_says)).call F8 rfl).call F21 rfl), (iw (il 1) (by decide) (by decide)), (by rw [e2]; omega)⟩ (by decide) (by decide) dX12_says_21
def wr_k_X12_quarrels : List Nat := [26220000, 26420000]
set_option maxRecDepth 100000 in
set_option maxHeartbeats 4000000 in
theorem k_X12_quarrels (l : Launch) (D : va_G) (cy : Nat → ClassId) (w : Nat → Nat) (z0 : Nat)  {h : Hp} {a0 : Nat} {a1 : Int}  (O : Okh h) (ta0 : Tg h a0 = 12) (fa1 : 0 ≤ a1 ∧ a1 ≤ 39) (P_MInv : MInv h a0) : MI l D cy w z0 yX12_quarrels cX12_quarrels 4 (some .boolean) 5 112 0 0 [.inr (.inr a0), .inl a1] h (fun v h1 => Okh h1 ∧ Fx wr_k_X12_quarrels h h1 ∧ (0 ≤ v ∧ v ≤ 1)) := by
  refine hm_go (by decide +kernel) (Nat.le_of_ble_eq_true rfl) (fun p e s m below meth c C hr hn => ?_)
  refine g_aload_n C rfl 0 rfl dX12_quarrels_0 ?_
  refine g_iload_n C rfl 1 rfl dX12_quarrels_1 ?_
  refine g_callI (st := []) (gc_V C lk_LandSurveyModel_450 (k_X12_rockOf l D cy w z0 O ta0 fa1 P_MInv) ta0 rfl rfl rfl ⟨by decide, by decide⟩ (Nat.le_of_ble_eq_true rfl) dX12_quarrels_2 ⟨(by decide), (by decide)⟩) (fun r1 h2 f4 K3 => ?_)
  obtain ⟨O5, F6, f7, p8, p9⟩ := K3
  obtain ⟨v10, e11⟩ : ∃ z, RK h a0 a1 = z := ⟨_, rfl⟩
  rw [e11] at p8
  obtain ⟨v12, e13⟩ : ∃ z, BNow h a0 = z := ⟨_, rfl⟩
  have f14 : (-1 : Int) ≤ v12 ∧ v12 ≤ (7 : Int) := BNow_rng O ta0 e13
  rw [e13] at p9
  refine g_istore_n C [(2, .inl r1), (0, .inr (.inr a0)), (1, .inl a1)] rfl (by decide) rfl dX12_quarrels_5 ?_
  refine g_aload_n C rfl 1 rfl dX12_quarrels_6 ?_
  have e15 : Tg h2 a0 = 12 := (fxT F6 ta0)
  refine g_callI (st := []) (gc_V C lk_LandSurveyModel_432 (k_X12_bookNow l D cy w z0 O5 e15) e15 rfl rfl rfl ⟨by decide, by decide⟩ (Nat.le_of_ble_eq_true rfl) dX12_quarrels_7 ⟨(by decide), (by decide)⟩) (fun r16 h17 f19 K18 => ?_)
  obtain ⟨O20, F21, f22, p23⟩ := K18
  have p24 := ((BNow_fx O F6 ta0 rfl).trans e13)
  rw [p24] at p23
  have f25 : (-1 : Int) ≤ r16 ∧ r16 ≤ (7 : Int) := by omega
  refine g_istore_n C [(3, .inl r16), (2, .inl r1), (0, .inr (.inr a0)), (1, .inl a1)] rfl (by decide) rfl dX12_quarrels_10 ?_
  refine g_iload_n C rfl 1 rfl dX12_quarrels_11 ?_
  refine g_if_lt C (iw f7 (by decide) (by decide)) 52 (by decide) dX12_quarrels_12 (fun q26 => ?_) (fun q27 => ?_)
  · have f28 : (-1 : Int) ≤ r1 ∧ r1 ≤ (-1 : Int) := r_lt f7 (il 0) q26 (by decide) (by decide)
    refine g_iconst C dX12_quarrels_52 ?_
    exact g_iret C hr (nar_z2 (iw (il 0) (by decide) (by decide))).1 (iw (il 0) (by decide) (by decide)) ⟨O20, (((Fx.rf (wr := wr_k_X12_quarrels)).call F6 rfl).call F21 rfl), (iw (il 0) (by decide) (by decide))⟩ (by decide) (by decide) dX12_quarrels_53
  · have f29 : (0 : Int) ≤ r1 ∧ r1 ≤ (9 : Int) := r_ge f7 (il 0) q27 (by decide) (by decide)
    refine g_aload_n C rfl 2 rfl dX12_quarrels_15 ?_
    have e30 : Tg h17 a0 = 12 := (fxT F21 e15)
    obtain ⟨v31, e32⟩ : ∃ z, Rv h17 a0 51 = z := ⟨_, rfl⟩
    have t33 := ok_R O20 e30 rE_12_51 e32
    have l34 := ok_L O20 e30 rE_12_51 e32
    refine gf_R C fk_LandSurveyModel_203 rfl e30 e32 dX12_quarrels_16 ?_
    refine g_iload_n C rfl 3 rfl dX12_quarrels_19 ?_
    obtain ⟨v35, e36⟩ : ∃ z, Iv h17 v31 a1.toNat = z := ⟨_, rfl⟩
    have f37 := ok_Ia O20 t33 ar_151100 rI_151100_0 e36
    refine g_iald C t33 rfl l34 (ix fa1 (by decide) (by decide)) e36 dX12_quarrels_20 ?_
    refine g_if_lt C (iw f37 (by decide) (by decide)) 52 (by decide) dX12_quarrels_21 (fun q38 => ?_) (fun q39 => ?_)
    · have f40 : (-1 : Int) ≤ v35 ∧ v35 ≤ (-1 : Int) := r_lt f37 (il 0) q38 (by decide) (by decide)
      refine g_iconst C dX12_quarrels_52 ?_
      exact g_iret C hr (nar_z2 (iw (il 0) (by decide) (by decide))).1 (iw (il 0) (by decide) (by decide)) ⟨O20, (((Fx.rf (wr := wr_k_X12_quarrels)).call F6 rfl).call F21 rfl), (iw (il 0) (by decide) (by decide))⟩ (by decide) (by decide) dX12_quarrels_53
    · have f41 : (0 : Int) ≤ v35 ∧ v35 ≤ (9 : Int) := r_ge f37 (il 0) q39 (by decide) (by decide)
      refine g_aload_n C rfl 2 rfl dX12_quarrels_24 ?_
      obtain ⟨v42, e43⟩ : ∃ z, Rv h17 a0 52 = z := ⟨_, rfl⟩
      have t44 := ok_R O20 e30 rE_12_52 e43
      have l45 := ok_L O20 e30 rE_12_52 e43
      refine gf_R C fk_LandSurveyModel_206 rfl e30 e43 dX12_quarrels_25 ?_
      refine g_iload_n C rfl 3 rfl dX12_quarrels_28 ?_
      obtain ⟨v46, e47⟩ : ∃ z, Iv h17 v42 a1.toNat = z := ⟨_, rfl⟩
      have f48 := ok_Ia O20 t44 ar_152101 rI_152101_0 e47
      refine g_zald C t44 rfl l45 (ix fa1 (by decide) (by decide)) e47 dX12_quarrels_29 ?_
      refine g_if_ne C (iw f48 (by decide) (by decide)) 52 (by decide) dX12_quarrels_30 (fun q49 => ?_) (fun q50 => ?_)
      · have f51 : (1 : Int) ≤ v46 ∧ v46 ≤ (1 : Int) := r_nl f48 q49
        refine g_iconst C dX12_quarrels_52 ?_
        exact g_iret C hr (nar_z2 (iw (il 0) (by decide) (by decide))).1 (iw (il 0) (by decide) (by decide)) ⟨O20, (((Fx.rf (wr := wr_k_X12_quarrels)).call F6 rfl).call F21 rfl), (iw (il 0) (by decide) (by decide))⟩ (by decide) (by decide) dX12_quarrels_53
      · have f52 : (0 : Int) ≤ v46 ∧ v46 ≤ (0 : Int) := ii f48 (r_eq (il 0) q50) (by decide) (by decide)
        refine g_aload_n C rfl 2 rfl dX12_quarrels_33 ?_
        obtain ⟨v53, e54⟩ : ∃ z, Rv h17 a0 22 = z := ⟨_, rfl⟩
        have t55 := ok_R O20 e30 rE_12_22 e54
        have l56 := ok_L O20 e30 rE_12_22 e54
        refine gf_R C fk_LandSurveyModel_131 rfl e30 e54 dX12_quarrels_34 ?_
        refine g_bipush C (by decide) dX12_quarrels_37 ?_
        refine g_iload_n C rfl 0 rfl dX12_quarrels_39 ?_
        have f57 : (-10 : Int) ≤ (10 * r16) ∧ (10 * r16) ≤ (70 : Int) := ia_mul (by decide) f25 (by decide) (by decide)
        refine g_imul C dX12_quarrels_40 ?_
        refine g_aload_n C rfl 2 rfl dX12_quarrels_41 ?_
        refine gf_R C fk_LandSurveyModel_203 rfl e30 e32 dX12_quarrels_42 ?_
        refine g_iload_n C rfl 3 rfl dX12_quarrels_45 ?_
        refine g_iald C t33 rfl l34 (ix fa1 (by decide) (by decide)) e36 dX12_quarrels_46 ?_
        have f58 : (-10 : Int) ≤ ((10 * r16) + v35) ∧ ((10 * r16) + v35) ≤ (79 : Int) := ia_add f57 f41 (by decide) (by decide)
        refine g_iadd C dX12_quarrels_47 ?_
        obtain ⟨v59, e60⟩ : ∃ z, Iv h17 v53 (((10 * r16) + v35).toNat) = z := ⟨_, rfl⟩
        have f61 := ok_Ia O20 t55 ar_122100 rI_122100_0 e60
        refine g_iald C t55 rfl l56 (by omega) e60 dX12_quarrels_48 ?_
        refine g_if_ge C (iw f61 (by decide) (by decide)) 54 (by decide) dX12_quarrels_49 (fun q62 => ?_) (fun q63 => ?_)
        · have f64 : (0 : Int) ≤ v59 ∧ v59 ≤ (9 : Int) := r_ge f61 (il 0) q62 (by decide) (by decide)
          refine g_iload_n C rfl 1 rfl dX12_quarrels_54 ?_
          refine g_aload_n C rfl 2 rfl dX12_quarrels_55 ?_
          refine gf_R C fk_LandSurveyModel_131 rfl e30 e54 dX12_quarrels_56 ?_
          refine g_bipush C (by decide) dX12_quarrels_59 ?_
          refine g_iload_n C rfl 0 rfl dX12_quarrels_61 ?_
          refine g_imul C dX12_quarrels_62 ?_
          refine g_aload_n C rfl 2 rfl dX12_quarrels_63 ?_
          refine gf_R C fk_LandSurveyModel_203 rfl e30 e32 dX12_quarrels_64 ?_
          refine g_iload_n C rfl 3 rfl dX12_quarrels_67 ?_
          refine g_iald C t33 rfl l34 (ix fa1 (by decide) (by decide)) e36 dX12_quarrels_68 ?_
          refine g_iadd C dX12_quarrels_69 ?_
          refine g_iald C t55 rfl l56 (by omega) e60 dX12_quarrels_70 ?_
          refine g_aload_n C rfl 2 rfl dX12_quarrels_71 ?_
          obtain ⟨v65, e66⟩ : ∃ z, Rv h17 a0 23 = z := ⟨_, rfl⟩
          have t67 := ok_R O20 e30 rE_12_23 e66
          have l68 := ok_L O20 e30 rE_12_23 e66
          refine gf_R C fk_LandSurveyModel_134 rfl e30 e66 dX12_quarrels_72 ?_
          refine g_bipush C (by decide) dX12_quarrels_75 ?_
          refine g_iload_n C rfl 0 rfl dX12_quarrels_77 ?_
          refine g_imul C dX12_quarrels_78 ?_
          refine g_aload_n C rfl 2 rfl dX12_quarrels_79 ?_
          refine gf_R C fk_LandSurveyModel_203 rfl e30 e32 dX12_quarrels_80 ?_
          refine g_iload_n C rfl 3 rfl dX12_quarrels_83 ?_
          refine g_iald C t33 rfl l34 (ix fa1 (by decide) (by decide)) e36 dX12_quarrels_84 ?_
          refine g_iadd C dX12_quarrels_85 ?_
          obtain ⟨v69, e70⟩ : ∃ z, Iv h17 v65 (((10 * r16) + v35).toNat) = z := ⟨_, rfl⟩
          have f71 := ok_Ia O20 t67 ar_123100 rI_123100_0 e70
          refine g_iald C t67 rfl l68 (by omega) e70 dX12_quarrels_86 ?_
          refine g_callI (st := []) (gc_S C lk_LandSurveyModel_415 (k_X12_within l D cy w z0 O20 (iw f29 (by decide) (by decide)) (iw f64 (by decide) (by decide)) (iw f71 (by decide) (by decide))) rfl ⟨by decide, by decide⟩ (Nat.le_of_ble_eq_true rfl) dX12_quarrels_87 ⟨(by decide), (by decide)⟩) (fun r72 h73 f75 K74 => ?_)
          obtain ⟨O76, F77, f78, p79⟩ := K74
          refine g_if_ne C (iw f78 (by decide) (by decide)) 97 (by decide) dX12_quarrels_90 (fun q80 => ?_) (fun q81 => ?_)
          · have f82 : (1 : Int) ≤ r72 ∧ r72 ≤ (1 : Int) := r_nl f78 q80
            refine g_iconst C dX12_quarrels_97 ?_
            exact g_iret C hr (nar_z2 (iw (il 0) (by decide) (by decide))).1 (iw (il 0) (by decide) (by decide)) ⟨O76, ((((Fx.rf (wr := wr_k_X12_quarrels)).call F6 rfl).call F21 rfl).call F77 rfl), (iw (il 0) (by decide) (by decide))⟩ (by decide) (by decide) dX12_quarrels_98
          · have f83 : (0 : Int) ≤ r72 ∧ r72 ≤ (0 : Int) := ii f78 (r_eq (il 0) q81) (by decide) (by decide)
            refine g_iconst C dX12_quarrels_93 ?_
            refine g_goto C 98 (by decide) dX12_quarrels_94 ?_
            exact g_iret C hr (nar_z2 (iw (il 1) (by decide) (by decide))).1 (iw (il 1) (by decide) (by decide)) ⟨O76, ((((Fx.rf (wr := wr_k_X12_quarrels)).call F6 rfl).call F21 rfl).call F77 rfl), (iw (il 1) (by decide) (by decide))⟩ (by decide) (by decide) dX12_quarrels_98
        · have f84 : (-1 : Int) ≤ v59 ∧ v59 ≤ (-1 : Int) := r_lt f61 (il 0) q63 (by decide) (by decide)
          refine g_iconst C dX12_quarrels_52 ?_
          exact g_iret C hr (nar_z2 (iw (il 0) (by decide) (by decide))).1 (iw (il 0) (by decide) (by decide)) ⟨O20, (((Fx.rf (wr := wr_k_X12_quarrels)).call F6 rfl).call F21 rfl), (iw (il 0) (by decide) (by decide))⟩ (by decide) (by decide) dX12_quarrels_53
def wr_k_X12_thinOf : List Nat := []
set_option maxRecDepth 100000 in
set_option maxHeartbeats 4000000 in
theorem k_X12_thinOf (l : Launch) (D : va_G) (cy : Nat → ClassId) (w : Nat → Nat) (z0 : Nat)  {h : Hp} {a0 : Nat} {a1 : Int}  (O : Okh h) (ta0 : Tg h a0 = 12) (fa1 : 0 ≤ a1 ∧ a1 ≤ 9) (P_bn : 0 ≤ BNow h a0) : MI l D cy w z0 yX12_thinOf cX12_thinOf 2 (some .int) 2 42 0 0 [.inr (.inr a0), .inl a1] h (fun v h1 => Okh h1 ∧ Fx wr_k_X12_thinOf h h1 ∧ (0 ≤ v ∧ v ≤ 200)) := by
  obtain ⟨v1, e2⟩ : ∃ z, BNow h a0 = z := ⟨_, rfl⟩
  have f3 : (-1 : Int) ≤ v1 ∧ v1 ≤ (7 : Int) := BNow_rng O ta0 e2
  rw [e2] at P_bn
  have f4 : (0 : Int) ≤ v1 ∧ v1 ≤ (7 : Int) := by omega
  refine hm_go (by decide +kernel) (Nat.le_of_ble_eq_true rfl) (fun p e s m below meth c C hr hn => ?_)
  refine g_aload_n C rfl 0 rfl dX12_thinOf_0 ?_
  obtain ⟨v5, e6⟩ : ∃ z, Rv h a0 14 = z := ⟨_, rfl⟩
  have t7 := ok_R O ta0 rE_12_14 e6
  have l8 := ok_L O ta0 rE_12_14 e6
  refine gf_R C fk_LandSurveyModel_106 rfl ta0 e6 dX12_thinOf_1 ?_
  refine g_bipush C (by decide) dX12_thinOf_4 ?_
  refine g_aload_n C rfl 0 rfl dX12_thinOf_6 ?_
  refine g_callI (st := [.inl 10, .inr (.inr v5)]) (gc_V C lk_LandSurveyModel_432 (k_X12_bookNow l D cy w z0 O ta0) ta0 rfl rfl rfl ⟨by decide, by decide⟩ (Nat.le_of_ble_eq_true rfl) dX12_thinOf_7 ⟨(by decide), (by decide)⟩) (fun r9 h10 f12 K11 => ?_)
  obtain ⟨O13, F14, f15, p16⟩ := K11
  rw [e2] at p16
  have f17 : (0 : Int) ≤ r9 ∧ r9 ≤ (7 : Int) := by omega
  have f18 : (0 : Int) ≤ (10 * r9) ∧ (10 * r9) ≤ (70 : Int) := ia_mul (by decide) f17 (by decide) (by decide)
  refine g_imul C dX12_thinOf_10 ?_
  refine g_iload_n C rfl 1 rfl dX12_thinOf_11 ?_
  have f19 : (0 : Int) ≤ ((10 * r9) + a1) ∧ ((10 * r9) + a1) ≤ (79 : Int) := ia_add f18 fa1 (by decide) (by decide)
  refine g_iadd C dX12_thinOf_12 ?_
  have e20 : Tg h10 v5 = 114100 := (fxT F14 t7)
  have e21 : Ln h10 v5 = 90 := ((fxL F14 t7).trans l8)
  obtain ⟨v22, e23⟩ : ∃ z, Iv h10 v5 (((10 * r9) + a1).toNat) = z := ⟨_, rfl⟩
  have f24 := ok_Ia O13 e20 ar_114100 rI_114100_0 e23
  refine g_iald C e20 rfl e21 (ix f19 (by decide) (by decide)) e23 dX12_thinOf_13 ?_
  exact g_iret C hr rfl (iw f24 (by decide) (by decide)) ⟨O13, ((Fx.rf (wr := wr_k_X12_thinOf)).call F14 rfl), f24⟩ (by decide) (by decide) dX12_thinOf_14
def wr_k_X12_thickOf : List Nat := []
set_option maxRecDepth 100000 in
set_option maxHeartbeats 4000000 in
theorem k_X12_thickOf (l : Launch) (D : va_G) (cy : Nat → ClassId) (w : Nat → Nat) (z0 : Nat)  {h : Hp} {a0 : Nat} {a1 : Int}  (O : Okh h) (ta0 : Tg h a0 = 12) (fa1 : 0 ≤ a1 ∧ a1 ≤ 9) (P_bn : 0 ≤ BNow h a0) : MI l D cy w z0 yX12_thickOf cX12_thickOf 2 (some .int) 2 42 0 0 [.inr (.inr a0), .inl a1] h (fun v h1 => Okh h1 ∧ Fx wr_k_X12_thickOf h h1 ∧ (0 ≤ v ∧ v ≤ 200)) := by
  obtain ⟨v1, e2⟩ : ∃ z, BNow h a0 = z := ⟨_, rfl⟩
  have f3 : (-1 : Int) ≤ v1 ∧ v1 ≤ (7 : Int) := BNow_rng O ta0 e2
  rw [e2] at P_bn
  have f4 : (0 : Int) ≤ v1 ∧ v1 ≤ (7 : Int) := by omega
  refine hm_go (by decide +kernel) (Nat.le_of_ble_eq_true rfl) (fun p e s m below meth c C hr hn => ?_)
  refine g_aload_n C rfl 0 rfl dX12_thickOf_0 ?_
  obtain ⟨v5, e6⟩ : ∃ z, Rv h a0 15 = z := ⟨_, rfl⟩
  have t7 := ok_R O ta0 rE_12_15 e6
  have l8 := ok_L O ta0 rE_12_15 e6
  refine gf_R C fk_LandSurveyModel_109 rfl ta0 e6 dX12_thickOf_1 ?_
  refine g_bipush C (by decide) dX12_thickOf_4 ?_
  refine g_aload_n C rfl 0 rfl dX12_thickOf_6 ?_
  refine g_callI (st := [.inl 10, .inr (.inr v5)]) (gc_V C lk_LandSurveyModel_432 (k_X12_bookNow l D cy w z0 O ta0) ta0 rfl rfl rfl ⟨by decide, by decide⟩ (Nat.le_of_ble_eq_true rfl) dX12_thickOf_7 ⟨(by decide), (by decide)⟩) (fun r9 h10 f12 K11 => ?_)
  obtain ⟨O13, F14, f15, p16⟩ := K11
  rw [e2] at p16
  have f17 : (0 : Int) ≤ r9 ∧ r9 ≤ (7 : Int) := by omega
  have f18 : (0 : Int) ≤ (10 * r9) ∧ (10 * r9) ≤ (70 : Int) := ia_mul (by decide) f17 (by decide) (by decide)
  refine g_imul C dX12_thickOf_10 ?_
  refine g_iload_n C rfl 1 rfl dX12_thickOf_11 ?_
  have f19 : (0 : Int) ≤ ((10 * r9) + a1) ∧ ((10 * r9) + a1) ≤ (79 : Int) := ia_add f18 fa1 (by decide) (by decide)
  refine g_iadd C dX12_thickOf_12 ?_
  have e20 : Tg h10 v5 = 115100 := (fxT F14 t7)
  have e21 : Ln h10 v5 = 90 := ((fxL F14 t7).trans l8)
  obtain ⟨v22, e23⟩ : ∃ z, Iv h10 v5 (((10 * r9) + a1).toNat) = z := ⟨_, rfl⟩
  have f24 := ok_Ia O13 e20 ar_115100 rI_115100_0 e23
  refine g_iald C e20 rfl e21 (ix f19 (by decide) (by decide)) e23 dX12_thickOf_13 ?_
  exact g_iret C hr rfl (iw f24 (by decide) (by decide)) ⟨O13, ((Fx.rf (wr := wr_k_X12_thickOf)).call F14 rfl), f24⟩ (by decide) (by decide) dX12_thickOf_14
def wr_k_X12_isBelow : List Nat := []
set_option maxRecDepth 100000 in
set_option maxHeartbeats 4000000 in
theorem k_X12_isBelow (l : Launch) (D : va_G) (cy : Nat → ClassId) (w : Nat → Nat) (z0 : Nat)  {h : Hp} {a0 : Nat} {a1 : Int} {a2 : Int} {a3 : Int}  (O : Okh h) (ta0 : Tg h a0 = 12) (fa1 : (-2147483648) ≤ a1 ∧ a1 ≤ 2147483647) (fa2 : (-2147483648) ≤ a2 ∧ a2 ≤ 2147483647) (fa3 : 0 ≤ a3 ∧ a3 ≤ 95) : MI l D cy w z0 yX12_isBelow cX12_isBelow 4 (some .boolean) 0 0 0 0 [.inr (.inr a0), .inl a1, .inl a2, .inl a3] h (fun v h1 => Okh h1 ∧ Fx wr_k_X12_isBelow h h1 ∧ (0 ≤ v ∧ v ≤ 1)) := by
  refine hm_go (by decide +kernel) (Nat.le_of_ble_eq_true rfl) (fun p e s m below meth c C hr hn => ?_)
  refine g_aload_n C rfl 0 rfl dX12_isBelow_0 ?_
  obtain ⟨v1, e2⟩ : ∃ z, Rv h a0 38 = z := ⟨_, rfl⟩
  have t3 := ok_R O ta0 rE_12_38 e2
  have l4 := ok_L O ta0 rE_12_38 e2
  refine gf_R C fk_LandSurveyModel_167 rfl ta0 e2 dX12_isBelow_1 ?_
  refine g_iload_n C rfl 3 rfl dX12_isBelow_4 ?_
  obtain ⟨v5, e6⟩ : ∃ z, Iv h v1 a3.toNat = z := ⟨_, rfl⟩
  have f7 := ok_Ia O t3 ar_138101 rI_138101_0 e6
  refine g_zald C t3 rfl l4 (ix fa3 (by decide) (by decide)) e6 dX12_isBelow_5 ?_
  refine g_if_eq C (iw f7 (by decide) (by decide)) 22 (by decide) dX12_isBelow_6 (fun q8 => ?_) (fun q9 => ?_)
  · have f10 : (0 : Int) ≤ v5 ∧ v5 ≤ (0 : Int) := ii f7 (r_eq (il 0) q8) (by decide) (by decide)
    refine g_iload_n C rfl 1 rfl dX12_isBelow_22 ?_
    refine g_iload_n C rfl 2 rfl dX12_isBelow_23 ?_
    refine g_icmp_le C fa1 fa2 31 (by decide) dX12_isBelow_24 (fun q11 => ?_) (fun q12 => ?_)
    · refine g_iconst C dX12_isBelow_31 ?_
      exact g_iret C hr (nar_z2 (iw (il 0) (by decide) (by decide))).1 (iw (il 0) (by decide) (by decide)) ⟨O, Fx.rf, (iw (il 0) (by decide) (by decide))⟩ (by decide) (by decide) dX12_isBelow_32
    · have f13 : (-2147483648 : Int) ≤ a2 ∧ a2 ≤ (2147483646 : Int) := r_lt fa2 fa1 q12 (by decide) (by decide)
      have f14 : (-2147483647 : Int) ≤ a1 ∧ a1 ≤ (2147483647 : Int) := r_gt fa1 fa2 q12 (by decide) (by decide)
      refine g_iconst C dX12_isBelow_27 ?_
      refine g_goto C 32 (by decide) dX12_isBelow_28 ?_
      exact g_iret C hr (nar_z2 (iw (il 1) (by decide) (by decide))).1 (iw (il 1) (by decide) (by decide)) ⟨O, Fx.rf, (iw (il 1) (by decide) (by decide))⟩ (by decide) (by decide) dX12_isBelow_32
  · have f15 : (1 : Int) ≤ v5 ∧ v5 ≤ (1 : Int) := r_nl f7 q9
    refine g_iload_n C rfl 1 rfl dX12_isBelow_9 ?_
    refine g_iload_n C rfl 2 rfl dX12_isBelow_10 ?_
    refine g_icmp_ge C fa1 fa2 18 (by decide) dX12_isBelow_11 (fun q16 => ?_) (fun q17 => ?_)
    · refine g_iconst C dX12_isBelow_18 ?_
      refine g_goto C 32 (by decide) dX12_isBelow_19 ?_
      exact g_iret C hr (nar_z2 (iw (il 0) (by decide) (by decide))).1 (iw (il 0) (by decide) (by decide)) ⟨O, Fx.rf, (iw (il 0) (by decide) (by decide))⟩ (by decide) (by decide) dX12_isBelow_32
    · have f18 : (-2147483648 : Int) ≤ a1 ∧ a1 ≤ (2147483646 : Int) := r_lt fa1 fa2 q17 (by decide) (by decide)
      have f19 : (-2147483647 : Int) ≤ a2 ∧ a2 ≤ (2147483647 : Int) := r_gt fa2 fa1 q17 (by decide) (by decide)
      refine g_iconst C dX12_isBelow_14 ?_
      refine g_goto C 32 (by decide) dX12_isBelow_15 ?_
      exact g_iret C hr (nar_z2 (iw (il 1) (by decide) (by decide))).1 (iw (il 1) (by decide) (by decide)) ⟨O, Fx.rf, (iw (il 1) (by decide) (by decide))⟩ (by decide) (by decide) dX12_isBelow_32
def wr_k_X12_underLow : List Nat := []
set_option maxRecDepth 100000 in
set_option maxHeartbeats 4000000 in
theorem k_X12_underLow (l : Launch) (D : va_G) (cy : Nat → ClassId) (w : Nat → Nat) (z0 : Nat)  {h : Hp} {a0 : Nat} {a1 : Int} {a2 : Int}  (O : Okh h) (ta0 : Tg h a0 = 12) (fa1 : (-2147483648) ≤ a1 ∧ a1 ≤ 2147483647) (fa2 : 0 ≤ a2 ∧ a2 ≤ 95) : MI l D cy w z0 yX12_underLow cX12_underLow 5 (some .int) 3 63 0 0 [.inr (.inr a0), .inl a1, .inl a2] h (fun v h1 => Okh h1 ∧ Fx wr_k_X12_underLow h h1 ∧ (0 ≤ v ∧ v ≤ 2000)) := by
  refine hm_go (by decide +kernel) (Nat.le_of_ble_eq_true rfl) (fun p e s m below meth c C hr hn => ?_)
  refine g_iconst C dX12_underLow_0 ?_
  refine g_istore_n C [(3, .inl 0), (0, .inr (.inr a0)), (1, .inl a1), (2, .inl a2)] rfl (by decide) rfl dX12_underLow_1 ?_
  refine g_iconst C dX12_underLow_2 ?_
  refine g_istore C [(4, .inl 0), (3, .inl 0), (0, .inr (.inr a0)), (1, .inl a1), (2, .inl a2)] (by decide) rfl dX12_underLow_3 ?_
  refine GW.sub [2, 3, 4, 1, 0] rfl ?_
  -- loop at 5
  have L4 : ∀ (μ : Nat) (x1 : Int) (x2 : Int) (h3 : Hp), (10 - x2).toNat = μ → Okh h3 → Fx [] h h3 → ((0 : Int) ≤ x1 ∧ x1 ≤ (2000 : Int)) → ((0 : Int) ≤ x2 ∧ x2 ≤ (10 : Int)) → (x1 ≤ 200 * x2) → GW p l e (rmm 3 63 0 0) s m (List.map toV [.inr (.inr a0), .inl a1, .inl a2]).toArray below meth c D cy z0 5 (MQ below (QI D cy z0 (fun v h1 => Okh h1 ∧ Fx wr_k_X12_underLow h h1 ∧ (0 ≤ v ∧ v ≤ 2000))) (List.map toV [.inr (.inr a0), .inl a1, .inl a2]).toArray s 0 0 (Aof z0)) 5 [(0, .inr (.inr a0)), (1, .inl a1), (2, .inl a2), (3, .inl x1), (4, .inl x2)] [] h3 0 0 := by
    intro μ
    induction μ using Nat.strongRecOn with
    | ind μ ih5 =>
      intro x1 x2 h3 hm6 O7 F8 f9 f10 p11
      refine g_iload C 4 rfl dX12_underLow_5 ?_
      refine g_aload_n C rfl 0 rfl dX12_underLow_7 ?_
      have e12 : Tg h3 a0 = 12 := (fxT F8 ta0)
      refine g_callI (st := [.inl x2]) (gc_V C lk_LandSurveyModel_453 (k_X12_rocksNow l D cy w z0 O7 e12) e12 rfl rfl rfl ⟨by decide, by decide⟩ (Nat.le_of_ble_eq_true rfl) dX12_underLow_8 ⟨(by decide), (by decide)⟩) (fun r13 h14 f16 K15 => ?_)
      obtain ⟨O17, F18, f19, p20⟩ := K15
      obtain ⟨v21, e22⟩ : ∃ z, BNow h3 a0 = z := ⟨_, rfl⟩
      have f23 : (-1 : Int) ≤ v21 ∧ v21 ≤ (7 : Int) := BNow_rng O7 e12 e22
      rw [e22] at p20
      refine g_icmp_ge C (iw f10 (by decide) (by decide)) (iw f19 (by decide) (by decide)) 44 (by decide) dX12_underLow_11 (fun q24 => ?_) (fun q25 => ?_)
      · refine g_iload_n C rfl 3 rfl dX12_underLow_44 ?_
        exact g_iret C hr rfl (iw f9 (by decide) (by decide)) ⟨O17, (((Fx.rf (wr := wr_k_X12_underLow)).call F8 rfl).call F18 rfl), f9⟩ (by decide) (by decide) dX12_underLow_45
      · have f26 : (0 : Int) ≤ x2 ∧ x2 ≤ (9 : Int) := r_lt f10 f19 q25 (by decide) (by decide)
        have f27 : (1 : Int) ≤ r13 ∧ r13 ≤ (10 : Int) := r_gt f19 f10 q25 (by decide) (by decide)
        refine g_iload_n C rfl 3 rfl dX12_underLow_14 ?_
        refine g_aload_n C rfl 0 rfl dX12_underLow_15 ?_
        refine g_iload C 4 rfl dX12_underLow_16 ?_
        refine g_iload_n C rfl 1 rfl dX12_underLow_18 ?_
        refine g_iload_n C rfl 2 rfl dX12_underLow_19 ?_
        have e28 : Tg h14 a0 = 12 := (fxT F18 e12)
        refine g_callI (st := [.inl x1]) (gc_V C lk_LandSurveyModel_456 (k_X12_isBelow l D cy w z0 O17 e28 (iw f26 (by decide) (by decide)) fa1 fa2) e28 rfl rfl rfl ⟨by decide, by decide⟩ (Nat.le_of_ble_eq_true rfl) dX12_underLow_20 ⟨(by decide), (by decide)⟩) (fun r29 h30 f32 K31 => ?_)
        obtain ⟨O33, F34, f35⟩ := K31
        refine g_if_eq C (iw f35 (by decide) (by decide)) 35 (by decide) dX12_underLow_23 (fun q36 => ?_) (fun q37 => ?_)
        · have f38 : (0 : Int) ≤ r29 ∧ r29 ≤ (0 : Int) := ii f35 (r_eq (il 0) q36) (by decide) (by decide)
          refine g_iconst C dX12_underLow_35 ?_
          have f39 : (0 : Int) ≤ (x1 + 0) ∧ (x1 + 0) ≤ (2000 : Int) := ia_add f9 (il 0) (by decide) (by decide)
          refine g_iadd C dX12_underLow_36 ?_
          refine g_istore_n C [(3, .inl (x1 + 0)), (0, .inr (.inr a0)), (1, .inl a1), (2, .inl a2), (4, .inl x2)] rfl (by decide) rfl dX12_underLow_37 ?_
          have f40 : (1 : Int) ≤ (x2 + 1) ∧ (x2 + 1) ≤ (10 : Int) := ia_add f26 (il 1) (by decide) (by decide)
          refine g_iinc C [(4, .inl (x2 + 1)), (3, .inl (x1 + 0)), (0, .inr (.inr a0)), (1, .inl a1), (2, .inl a2)] 4 rfl (by decide) rfl dX12_underLow_38 ?_
          refine g_goto C 5 (by decide) dX12_underLow_41 ?_
          refine GW.sub [2, 3, 4, 1, 0] rfl ?_
          exact ih5 _ (by omega) (x1 + 0) (x2 + 1) h30 rfl O33 ((F8.call F18 rfl).call F34 rfl) f39 (iw f40 (by decide) (by decide)) (by omega)
        · have f41 : (1 : Int) ≤ r29 ∧ r29 ≤ (1 : Int) := r_nl f35 q37
          refine g_aload_n C rfl 0 rfl dX12_underLow_26 ?_
          refine g_iload C 4 rfl dX12_underLow_27 ?_
          have e42 : Tg h30 a0 = 12 := (fxT F34 e28)
          have p43 := ((BNow_fx O17 F34 e28 rfl).trans ((BNow_fx O7 F18 e12 rfl).trans e22))
          refine g_callI (st := [.inl x1]) (gc_V C lk_LandSurveyModel_459 (k_X12_thinOf l D cy w z0 O33 e42 f26 (by rw [p43]; omega)) e42 rfl rfl rfl ⟨by decide, by decide⟩ (Nat.le_of_ble_eq_true rfl) dX12_underLow_29 ⟨(by decide), (by decide)⟩) (fun r44 h45 f47 K46 => ?_)
          obtain ⟨O48, F49, f50⟩ := K46
          refine g_goto C 36 (by decide) dX12_underLow_32 ?_
          have f51 : (0 : Int) ≤ (x1 + r44) ∧ (x1 + r44) ≤ (2200 : Int) := ia_add f9 f50 (by decide) (by decide)
          refine g_iadd C dX12_underLow_36 ?_
          refine g_istore_n C [(3, .inl (x1 + r44)), (0, .inr (.inr a0)), (1, .inl a1), (2, .inl a2), (4, .inl x2)] rfl (by decide) rfl dX12_underLow_37 ?_
          have f52 : (1 : Int) ≤ (x2 + 1) ∧ (x2 + 1) ≤ (10 : Int) := ia_add f26 (il 1) (by decide) (by decide)
          refine g_iinc C [(4, .inl (x2 + 1)), (3, .inl (x1 + r44)), (0, .inr (.inr a0)), (1, .inl a1), (2, .inl a2)] 4 rfl (by decide) rfl dX12_underLow_38 ?_
          refine g_goto C 5 (by decide) dX12_underLow_41 ?_
          refine GW.sub [2, 3, 4, 1, 0] rfl ?_
          exact ih5 _ (by omega) (x1 + r44) (x2 + 1) h45 rfl O48 (((F8.call F18 rfl).call F34 rfl).call F49 rfl) (by omega) (iw f52 (by decide) (by decide)) (by omega)
  exact L4 _ 0 0 h rfl O Fx.rf (iw (il 0) (by decide) (by decide)) (iw (il 0) (by decide) (by decide)) (by omega)
def wr_k_X12_underHigh : List Nat := []
set_option maxRecDepth 100000 in
set_option maxHeartbeats 4000000 in
theorem k_X12_underHigh (l : Launch) (D : va_G) (cy : Nat → ClassId) (w : Nat → Nat) (z0 : Nat)  {h : Hp} {a0 : Nat} {a1 : Int} {a2 : Int}  (O : Okh h) (ta0 : Tg h a0 = 12) (fa1 : (-2147483648) ≤ a1 ∧ a1 ≤ 2147483647) (fa2 : 0 ≤ a2 ∧ a2 ≤ 95) : MI l D cy w z0 yX12_underHigh cX12_underHigh 5 (some .int) 3 63 0 0 [.inr (.inr a0), .inl a1, .inl a2] h (fun v h1 => Okh h1 ∧ Fx wr_k_X12_underHigh h h1 ∧ (0 ≤ v ∧ v ≤ 2000)) := by
  refine hm_go (by decide +kernel) (Nat.le_of_ble_eq_true rfl) (fun p e s m below meth c C hr hn => ?_)
  refine g_iconst C dX12_underHigh_0 ?_
  refine g_istore_n C [(3, .inl 0), (0, .inr (.inr a0)), (1, .inl a1), (2, .inl a2)] rfl (by decide) rfl dX12_underHigh_1 ?_
  refine g_iconst C dX12_underHigh_2 ?_
  refine g_istore C [(4, .inl 0), (3, .inl 0), (0, .inr (.inr a0)), (1, .inl a1), (2, .inl a2)] (by decide) rfl dX12_underHigh_3 ?_
  refine GW.sub [2, 3, 4, 1, 0] rfl ?_
  -- loop at 5
  have L4 : ∀ (μ : Nat) (x1 : Int) (x2 : Int) (h3 : Hp), (10 - x2).toNat = μ → Okh h3 → Fx [] h h3 → ((0 : Int) ≤ x1 ∧ x1 ≤ (2000 : Int)) → ((0 : Int) ≤ x2 ∧ x2 ≤ (10 : Int)) → (x1 ≤ 200 * x2) → GW p l e (rmm 3 63 0 0) s m (List.map toV [.inr (.inr a0), .inl a1, .inl a2]).toArray below meth c D cy z0 5 (MQ below (QI D cy z0 (fun v h1 => Okh h1 ∧ Fx wr_k_X12_underHigh h h1 ∧ (0 ≤ v ∧ v ≤ 2000))) (List.map toV [.inr (.inr a0), .inl a1, .inl a2]).toArray s 0 0 (Aof z0)) 5 [(0, .inr (.inr a0)), (1, .inl a1), (2, .inl a2), (3, .inl x1), (4, .inl x2)] [] h3 0 0 := by
    intro μ
    induction μ using Nat.strongRecOn with
    | ind μ ih5 =>
      intro x1 x2 h3 hm6 O7 F8 f9 f10 p11
      refine g_iload C 4 rfl dX12_underHigh_5 ?_
      refine g_aload_n C rfl 0 rfl dX12_underHigh_7 ?_
      have e12 : Tg h3 a0 = 12 := (fxT F8 ta0)
      refine g_callI (st := [.inl x2]) (gc_V C lk_LandSurveyModel_453 (k_X12_rocksNow l D cy w z0 O7 e12) e12 rfl rfl rfl ⟨by decide, by decide⟩ (Nat.le_of_ble_eq_true rfl) dX12_underHigh_8 ⟨(by decide), (by decide)⟩) (fun r13 h14 f16 K15 => ?_)
      obtain ⟨O17, F18, f19, p20⟩ := K15
      obtain ⟨v21, e22⟩ : ∃ z, BNow h3 a0 = z := ⟨_, rfl⟩
      have f23 : (-1 : Int) ≤ v21 ∧ v21 ≤ (7 : Int) := BNow_rng O7 e12 e22
      rw [e22] at p20
      refine g_icmp_ge C (iw f10 (by decide) (by decide)) (iw f19 (by decide) (by decide)) 44 (by decide) dX12_underHigh_11 (fun q24 => ?_) (fun q25 => ?_)
      · refine g_iload_n C rfl 3 rfl dX12_underHigh_44 ?_
        exact g_iret C hr rfl (iw f9 (by decide) (by decide)) ⟨O17, (((Fx.rf (wr := wr_k_X12_underHigh)).call F8 rfl).call F18 rfl), f9⟩ (by decide) (by decide) dX12_underHigh_45
      · have f26 : (0 : Int) ≤ x2 ∧ x2 ≤ (9 : Int) := r_lt f10 f19 q25 (by decide) (by decide)
        have f27 : (1 : Int) ≤ r13 ∧ r13 ≤ (10 : Int) := r_gt f19 f10 q25 (by decide) (by decide)
        refine g_iload_n C rfl 3 rfl dX12_underHigh_14 ?_
        refine g_aload_n C rfl 0 rfl dX12_underHigh_15 ?_
        refine g_iload C 4 rfl dX12_underHigh_16 ?_
        refine g_iload_n C rfl 1 rfl dX12_underHigh_18 ?_
        refine g_iload_n C rfl 2 rfl dX12_underHigh_19 ?_
        have e28 : Tg h14 a0 = 12 := (fxT F18 e12)
        refine g_callI (st := [.inl x1]) (gc_V C lk_LandSurveyModel_456 (k_X12_isBelow l D cy w z0 O17 e28 (iw f26 (by decide) (by decide)) fa1 fa2) e28 rfl rfl rfl ⟨by decide, by decide⟩ (Nat.le_of_ble_eq_true rfl) dX12_underHigh_20 ⟨(by decide), (by decide)⟩) (fun r29 h30 f32 K31 => ?_)
        obtain ⟨O33, F34, f35⟩ := K31
        refine g_if_eq C (iw f35 (by decide) (by decide)) 35 (by decide) dX12_underHigh_23 (fun q36 => ?_) (fun q37 => ?_)
        · have f38 : (0 : Int) ≤ r29 ∧ r29 ≤ (0 : Int) := ii f35 (r_eq (il 0) q36) (by decide) (by decide)
          refine g_iconst C dX12_underHigh_35 ?_
          have f39 : (0 : Int) ≤ (x1 + 0) ∧ (x1 + 0) ≤ (2000 : Int) := ia_add f9 (il 0) (by decide) (by decide)
          refine g_iadd C dX12_underHigh_36 ?_
          refine g_istore_n C [(3, .inl (x1 + 0)), (0, .inr (.inr a0)), (1, .inl a1), (2, .inl a2), (4, .inl x2)] rfl (by decide) rfl dX12_underHigh_37 ?_
          have f40 : (1 : Int) ≤ (x2 + 1) ∧ (x2 + 1) ≤ (10 : Int) := ia_add f26 (il 1) (by decide) (by decide)
          refine g_iinc C [(4, .inl (x2 + 1)), (3, .inl (x1 + 0)), (0, .inr (.inr a0)), (1, .inl a1), (2, .inl a2)] 4 rfl (by decide) rfl dX12_underHigh_38 ?_
          refine g_goto C 5 (by decide) dX12_underHigh_41 ?_
          refine GW.sub [2, 3, 4, 1, 0] rfl ?_
          exact ih5 _ (by omega) (x1 + 0) (x2 + 1) h30 rfl O33 ((F8.call F18 rfl).call F34 rfl) f39 (iw f40 (by decide) (by decide)) (by omega)
        · have f41 : (1 : Int) ≤ r29 ∧ r29 ≤ (1 : Int) := r_nl f35 q37
          refine g_aload_n C rfl 0 rfl dX12_underHigh_26 ?_
          refine g_iload C 4 rfl dX12_underHigh_27 ?_
          have e42 : Tg h30 a0 = 12 := (fxT F34 e28)
          have p43 := ((BNow_fx O17 F34 e28 rfl).trans ((BNow_fx O7 F18 e12 rfl).trans e22))
          refine g_callI (st := [.inl x1]) (gc_V C lk_LandSurveyModel_462 (k_X12_thickOf l D cy w z0 O33 e42 f26 (by rw [p43]; omega)) e42 rfl rfl rfl ⟨by decide, by decide⟩ (Nat.le_of_ble_eq_true rfl) dX12_underHigh_29 ⟨(by decide), (by decide)⟩) (fun r44 h45 f47 K46 => ?_)
          obtain ⟨O48, F49, f50⟩ := K46
          refine g_goto C 36 (by decide) dX12_underHigh_32 ?_
          have f51 : (0 : Int) ≤ (x1 + r44) ∧ (x1 + r44) ≤ (2200 : Int) := ia_add f9 f50 (by decide) (by decide)
          refine g_iadd C dX12_underHigh_36 ?_
          refine g_istore_n C [(3, .inl (x1 + r44)), (0, .inr (.inr a0)), (1, .inl a1), (2, .inl a2), (4, .inl x2)] rfl (by decide) rfl dX12_underHigh_37 ?_
          have f52 : (1 : Int) ≤ (x2 + 1) ∧ (x2 + 1) ≤ (10 : Int) := ia_add f26 (il 1) (by decide) (by decide)
          refine g_iinc C [(4, .inl (x2 + 1)), (3, .inl (x1 + r44)), (0, .inr (.inr a0)), (1, .inl a1), (2, .inl a2)] 4 rfl (by decide) rfl dX12_underHigh_38 ?_
          refine g_goto C 5 (by decide) dX12_underHigh_41 ?_
          refine GW.sub [2, 3, 4, 1, 0] rfl ?_
          exact ih5 _ (by omega) (x1 + r44) (x2 + 1) h45 rfl O48 (((F8.call F18 rfl).call F34 rfl).call F49 rfl) (by omega) (iw f52 (by decide) (by decide)) (by omega)
  exact L4 _ 0 0 h rfl O Fx.rf (iw (il 0) (by decide) (by decide)) (iw (il 0) (by decide) (by decide)) (by omega)
def wr_k_X12_findSaid : List Nat := [26220000, 26420000, 30620200, 30820000, 31020000, 31220000]
set_option maxRecDepth 100000 in
set_option maxHeartbeats 4000000 in
theorem k_X12_findSaid (l : Launch) (D : va_G) (cy : Nat → ClassId) (w : Nat → Nat) (z0 : Nat)  {h : Hp} {a0 : Nat}  (O : Okh h) (ta0 : Tg h a0 = 12) (P_MInv : MInv h a0) : MV l D cy w z0 yX12_findSaid cX12_findSaid 7 none 6 133 0 0 [.inr (.inr a0)] h (fun h1 => Okh h1 ∧ Fx wr_k_X12_findSaid h h1) := by
  refine hm_go (by decide +kernel) (Nat.le_of_ble_eq_true rfl) (fun p e s m below meth c C hr hn => ?_)
  obtain ⟨v1, e2⟩ : ∃ z, BNow h a0 = z := ⟨_, rfl⟩
  have f3 : (-1 : Int) ≤ v1 ∧ v1 ≤ (7 : Int) := BNow_rng O ta0 e2
  refine g_aload_n C rfl 0 rfl dX12_findSaid_0 ?_
  refine g_callI (st := []) (gc_V C lk_LandSurveyModel_432 (k_X12_bookNow l D cy w z0 O ta0) ta0 rfl rfl rfl ⟨by decide, by decide⟩ (Nat.le_of_ble_eq_true rfl) dX12_findSaid_1 ⟨(by decide), (by decide)⟩) (fun r4 h5 f7 K6 => ?_)
  obtain ⟨O8, F9, f10, p11⟩ := K6
  rw [e2] at p11
  have f12 : (-1 : Int) ≤ r4 ∧ r4 ≤ (7 : Int) := by omega
  refine g_istore_n C [(1, .inl r4), (0, .inr (.inr a0))] rfl (by decide) rfl dX12_findSaid_4 ?_
  refine g_iconst C dX12_findSaid_5 ?_
  refine g_istore_n C [(2, .inl 0), (1, .inl r4), (0, .inr (.inr a0))] rfl (by decide) rfl dX12_findSaid_6 ?_
  refine GW.sub [2, 1, 0] rfl ?_
  -- loop at 7
  have L15 : ∀ (μ : Nat) (x13 : Int) (h14 : Hp), (40 - x13).toNat = μ → Okh h14 → Fx [26220000, 26420000, 30620200, 30820000, 31020000, 31220000] h5 h14 → ((0 : Int) ≤ x13 ∧ x13 ≤ (40 : Int)) → GW p l e (rmm 6 133 0 0) s m (List.map toV [.inr (.inr a0)]).toArray below meth c D cy z0 7 (MQ below (QV D cy z0 (fun h1 => Okh h1 ∧ Fx wr_k_X12_findSaid h h1)) (List.map toV [.inr (.inr a0)]).toArray s 0 0 (Aof z0)) 7 [(0, .inr (.inr a0)), (1, .inl r4), (2, .inl x13)] [] h14 0 0 := by
    intro μ
    induction μ using Nat.strongRecOn with
    | ind μ ih16 =>
      intro x13 h14 hm17 O18 F19 f20
      refine g_iload_n C rfl 2 rfl dX12_findSaid_7 ?_
      refine g_aload_n C rfl 0 rfl dX12_findSaid_8 ?_
      have e21 : Tg h14 a0 = 12 := (fxT F19 (fxT F9 ta0))
      obtain ⟨v22, e23⟩ : ∃ z, Iv h14 a0 40 = z := ⟨_, rfl⟩
      have f24 := ok_I O18 e21 rI_12_40 e23
      refine gf_I C fk_LandSurveyModel_423 rfl e21 e23 dX12_findSaid_9 ?_
      refine g_icmp_ge C (iw f20 (by decide) (by decide)) (iw f24 (by decide) (by decide)) 148 (by decide) dX12_findSaid_12 (fun q25 => ?_) (fun q26 => ?_)
      · exact g_vret C hr ⟨O18, (((Fx.rf (wr := wr_k_X12_findSaid)).call F9 rfl).call F19 rfl)⟩ (by decide) (by decide) dX12_findSaid_148
      · have f27 : (0 : Int) ≤ x13 ∧ x13 ≤ (39 : Int) := r_lt f20 f24 q26 (by decide) (by decide)
        have f28 : (1 : Int) ≤ v22 ∧ v22 ≤ (40 : Int) := r_gt f24 f20 q26 (by decide) (by decide)
        refine g_aload_n C rfl 0 rfl dX12_findSaid_15 ?_
        obtain ⟨v29, e30⟩ : ∃ z, Rv h14 a0 53 = z := ⟨_, rfl⟩
        have t31 := ok_R O18 e21 rE_12_53 e30
        have l32 := ok_L O18 e21 rE_12_53 e30
        refine gf_R C fk_LandSurveyModel_209 rfl e21 e30 dX12_findSaid_16 ?_
        refine g_iload_n C rfl 2 rfl dX12_findSaid_19 ?_
        refine g_aload_n C rfl 0 rfl dX12_findSaid_20 ?_
        refine g_iload_n C rfl 2 rfl dX12_findSaid_21 ?_
        have e33 : Tg h5 a0 = 12 := (fxT F9 ta0)
        have p34 := (MInv_fx O8 F19 e33 rfl (MInv_fx O F9 ta0 rfl P_MInv))
        refine g_callI (st := [.inl x13, .inr (.inr v29)]) (gc_V C lk_LandSurveyModel_465 (k_X12_says l D cy w z0 O18 e21 f27 p34) e21 rfl rfl rfl ⟨by decide, by decide⟩ (Nat.le_of_ble_eq_true rfl) dX12_findSaid_22 ⟨(by decide), (by decide)⟩) (fun r35 h36 f38 K37 => ?_)
        obtain ⟨O39, F40, f41, p42⟩ := K37
        obtain ⟨v43, e44⟩ : ∃ z, RK h14 a0 x13 = z := ⟨_, rfl⟩
        rw [e44] at p42
        have e45 : Tg h36 v29 = 153101 := (fxT F40 t31)
        have e46 : Ln h36 v29 = 40 := ((fxL F40 t31).trans l32)
        refine g_zast C e45 rfl e46 (ix f27 (by decide) (by decide)) f41 dX12_findSaid_25 (fun h48 hh47 => ?_)
        have O49 := O39.pIa e45 ar_153101 hh47 rI_153101_0 f41 nofun
        refine g_aload_n C rfl 0 rfl dX12_findSaid_26 ?_
        have e50 : Tg h48 a0 = 12 := ((pIT hh47).trans (fxT F40 e21))
        have e51 : Rv h48 a0 53 = v29 := ((pIR hh47).trans ((fxR F40 e21 rfl).trans e30))
        refine gf_R C fk_LandSurveyModel_209 rfl e50 e51 dX12_findSaid_27 ?_
        refine g_iload_n C rfl 2 rfl dX12_findSaid_30 ?_
        have e52 : Tg h48 v29 = 153101 := ((pIT hh47).trans e45)
        have e53 : Ln h48 v29 = 40 := ((pIL hh47).trans e46)
        refine g_zald C e52 rfl e53 (ix f27 (by decide) (by decide)) (pI_e hh47) dX12_findSaid_31 ?_
        refine g_if_eq C (iw f41 (by decide) (by decide)) 142 (by decide) dX12_findSaid_32 (fun q54 => ?_) (fun q55 => ?_)
        · have f56 : (0 : Int) ≤ r35 ∧ r35 ≤ (0 : Int) := ii f41 (r_eq (il 0) q54) (by decide) (by decide)
          have f57 : (1 : Int) ≤ (x13 + 1) ∧ (x13 + 1) ≤ (40 : Int) := ia_add f27 (il 1) (by decide) (by decide)
          refine g_iinc C [(2, .inl (x13 + 1)), (0, .inr (.inr a0)), (1, .inl r4)] 2 rfl (by decide) rfl dX12_findSaid_142 ?_
          refine g_goto C 7 (by decide) dX12_findSaid_145 ?_
          refine GW.sub [1, 2, 0] rfl ?_
          exact ih16 _ (by omega) (x13 + 1) h48 rfl O49 ((F19.call F40 rfl).pIa e45 ar_153101 hh47 rfl) (iw f57 (by decide) (by decide))
        · have f58 : (1 : Int) ≤ r35 ∧ r35 ≤ (1 : Int) := r_nl f41 q55
          refine g_aload_n C rfl 0 rfl dX12_findSaid_35 ?_
          refine g_iload_n C rfl 2 rfl dX12_findSaid_36 ?_
          have e59 : Tg h36 a0 = 12 := (fxT F40 e21)
          have p60 := (MInv_fx O39 ((Fx.rf (wr := [30620200]) (h := h36)).pIa e45 ar_153101 hh47 rfl) e59 rfl (MInv_fx O18 F40 e21 rfl p34))
          refine g_callI (st := []) (gc_V C lk_LandSurveyModel_450 (k_X12_rockOf l D cy w z0 O49 e50 f27 p60) e50 rfl rfl rfl ⟨by decide, by decide⟩ (Nat.le_of_ble_eq_true rfl) dX12_findSaid_37 ⟨(by decide), (by decide)⟩) (fun r61 h62 f64 K63 => ?_)
          obtain ⟨O65, F66, f67, p68, p69⟩ := K63
          have p70 := ((RK_fx O39 ((Fx.rf (wr := [30620200]) (h := h36)).pIa e45 ar_153101 hh47 rfl) e59 rfl).trans ((RK_fx O18 F40 e21 rfl).trans e44))
          rw [p70] at p68
          have p71 := ((BNow_fx O39 ((Fx.rf (wr := [30620200]) (h := h36)).pIa e45 ar_153101 hh47 rfl) e59 rfl).trans ((BNow_fx O18 F40 e21 rfl).trans ((BNow_fx O8 F19 e33 rfl).trans ((BNow_fx O F9 ta0 rfl).trans e2))))
          rw [p71] at p69
          refine g_istore_n C [(3, .inl r61), (0, .inr (.inr a0)), (1, .inl r4), (2, .inl x13)] rfl (by decide) rfl dX12_findSaid_40 ?_
          refine g_aload_n C rfl 1 rfl dX12_findSaid_41 ?_
          have e72 : Tg h62 a0 = 12 := (fxT F66 e50)
          obtain ⟨v73, e74⟩ : ∃ z, Rv h62 a0 42 = z := ⟨_, rfl⟩
          have t75 := ok_R O65 e72 rE_12_42 e74
          have l76 := ok_L O65 e72 rE_12_42 e74
          refine gf_R C fk_LandSurveyModel_176 rfl e72 e74 dX12_findSaid_42 ?_
          refine g_iload_n C rfl 3 rfl dX12_findSaid_45 ?_
          obtain ⟨v77, e78⟩ : ∃ z, Iv h62 v73 x13.toNat = z := ⟨_, rfl⟩
          have f79 := ok_Ia O65 t75 ar_142100 rI_142100_0 e78
          refine g_iald C t75 rfl l76 (ix f27 (by decide) (by decide)) e78 dX12_findSaid_46 ?_
          refine g_istore C [(4, .inl v77), (3, .inl r61), (0, .inr (.inr a0)), (1, .inl r4), (2, .inl x13)] (by decide) rfl dX12_findSaid_47 ?_
          refine g_aload_n C rfl 2 rfl dX12_findSaid_49 ?_
          obtain ⟨v80, e81⟩ : ∃ z, Rv h62 a0 36 = z := ⟨_, rfl⟩
          have t82 := ok_R O65 e72 rE_12_36 e81
          have l83 := ok_L O65 e72 rE_12_36 e81
          refine gf_R C fk_LandSurveyModel_161 rfl e72 e81 dX12_findSaid_50 ?_
          refine g_iload C 0 rfl dX12_findSaid_53 ?_
          obtain ⟨v84, e85⟩ : ∃ z, Iv h62 v80 v77.toNat = z := ⟨_, rfl⟩
          have f86 := ok_Ia O65 t82 ar_136100 rI_136100_0 e85
          refine g_iald C t82 rfl l83 (ix f79 (by decide) (by decide)) e85 dX12_findSaid_55 ?_
          refine g_aload_n C rfl 2 rfl dX12_findSaid_56 ?_
          obtain ⟨v87, e88⟩ : ∃ z, Rv h62 a0 43 = z := ⟨_, rfl⟩
          have t89 := ok_R O65 e72 rE_12_43 e88
          have l90 := ok_L O65 e72 rE_12_43 e88
          refine gf_R C fk_LandSurveyModel_179 rfl e72 e88 dX12_findSaid_57 ?_
          refine g_iload_n C rfl 4 rfl dX12_findSaid_60 ?_
          obtain ⟨v91, e92⟩ : ∃ z, Iv h62 v87 x13.toNat = z := ⟨_, rfl⟩
          have f93 := ok_Ia O65 t89 ar_143100 rI_143100_0 e92
          refine g_iald C t89 rfl l90 (ix f27 (by decide) (by decide)) e92 dX12_findSaid_61 ?_
          have f94 : (-999 : Int) ≤ (v84 - v91) ∧ (v84 - v91) ≤ (999 : Int) := ia_sub f86 f93 (by decide) (by decide)
          refine g_isub C dX12_findSaid_62 ?_
          refine g_istore C [(5, .inl (v84 - v91)), (4, .inl v77), (3, .inl r61), (0, .inr (.inr a0)), (1, .inl r4), (2, .inl x13)] (by decide) rfl dX12_findSaid_63 ?_
          refine g_aload_n C rfl 3 rfl dX12_findSaid_65 ?_
          obtain ⟨v95, e96⟩ : ∃ z, Rv h62 a0 41 = z := ⟨_, rfl⟩
          have t97 := ok_R O65 e72 rE_12_41 e96
          have l98 := ok_L O65 e72 rE_12_41 e96
          refine gf_R C fk_LandSurveyModel_173 rfl e72 e96 dX12_findSaid_66 ?_
          refine g_iload_n C rfl 5 rfl dX12_findSaid_69 ?_
          obtain ⟨v99, e100⟩ : ∃ z, Iv h62 v95 x13.toNat = z := ⟨_, rfl⟩
          have f101 := ok_Ia O65 t97 ar_141100 rI_141100_0 e100
          refine g_iald C t97 rfl l98 (ix f27 (by decide) (by decide)) e100 dX12_findSaid_70 ?_
          refine g_iconst C dX12_findSaid_71 ?_
          refine g_icmp_ne C (iw f101 (by decide) (by decide)) (iw (il 1) (by decide) (by decide)) 84 (by decide) dX12_findSaid_72 (fun q102 => ?_) (fun q103 => ?_)
          · refine g_iconst C dX12_findSaid_84 ?_
            refine g_istore C [(6, .inl 0), (5, .inl (v84 - v91)), (4, .inl v77), (3, .inl r61), (0, .inr (.inr a0)), (1, .inl r4), (2, .inl x13)] (by decide) rfl dX12_findSaid_85 ?_
            refine g_aload_n C rfl 4 rfl dX12_findSaid_87 ?_
            obtain ⟨v104, e105⟩ : ∃ z, Rv h62 a0 54 = z := ⟨_, rfl⟩
            have t106 := ok_R O65 e72 rE_12_54 e105
            have l107 := ok_L O65 e72 rE_12_54 e105
            refine gf_R C fk_LandSurveyModel_212 rfl e72 e105 dX12_findSaid_88 ?_
            refine g_iload_n C rfl 6 rfl dX12_findSaid_91 ?_
            refine g_iload C 1 rfl dX12_findSaid_92 ?_
            refine g_aload_n C rfl 4 rfl dX12_findSaid_94 ?_
            refine g_iload_n C rfl 3 rfl dX12_findSaid_95 ?_
            refine g_iload C 2 rfl dX12_findSaid_96 ?_
            refine g_callI (st := [.inl (v84 - v91), .inl x13, .inr (.inr v104)]) (gc_V C lk_LandSurveyModel_468 (k_X12_underHigh l D cy w z0 O65 e72 (iw f67 (by decide) (by decide)) f79) e72 rfl rfl rfl ⟨by decide, by decide⟩ (Nat.le_of_ble_eq_true rfl) dX12_findSaid_98 ⟨(by decide), (by decide)⟩) (fun r108 h109 f111 K110 => ?_)
            obtain ⟨O112, F113, f114⟩ := K110
            have f115 : (-2999 : Int) ≤ ((v84 - v91) - r108) ∧ ((v84 - v91) - r108) ≤ (999 : Int) := ia_sub f94 f114 (by decide) (by decide)
            refine g_isub C dX12_findSaid_101 ?_
            refine g_aload_n C rfl 4 rfl dX12_findSaid_102 ?_
            refine g_iload_n C rfl 3 rfl dX12_findSaid_103 ?_
            have e116 : Tg h109 a0 = 12 := (fxT F113 e72)
            have p117 := ((BNow_fx O65 F113 e72 rfl).trans ((BNow_fx O49 F66 e50 rfl).trans p71))
            refine g_callI (st := [.inl ((v84 - v91) - r108), .inl x13, .inr (.inr v104)]) (gc_V C lk_LandSurveyModel_462 (k_X12_thickOf l D cy w z0 O112 e116 (by omega) (by rw [p117]; omega)) e116 rfl rfl rfl ⟨by decide, by decide⟩ (Nat.le_of_ble_eq_true rfl) dX12_findSaid_104 ⟨(by decide), (by decide)⟩) (fun r118 h119 f121 K120 => ?_)
            obtain ⟨O122, F123, f124⟩ := K120
            have f125 : (-3199 : Int) ≤ (((v84 - v91) - r108) - r118) ∧ (((v84 - v91) - r108) - r118) ≤ (999 : Int) := ia_sub f115 f124 (by decide) (by decide)
            refine g_isub C dX12_findSaid_107 ?_
            refine g_iload C 0 rfl dX12_findSaid_108 ?_
            have f126 : (-3199 : Int) ≤ ((((v84 - v91) - r108) - r118) - 0) ∧ ((((v84 - v91) - r108) - r118) - 0) ≤ (999 : Int) := ia_sub f125 (il 0) (by decide) (by decide)
            refine g_isub C dX12_findSaid_110 ?_
            have e127 : Tg h119 v104 = 154100 := (fxT F123 (fxT F113 t106))
            have e128 : Tg h109 v104 = 154100 := (fxT F113 t106)
            have e129 : Ln h119 v104 = 40 := ((fxL F123 e128).trans ((fxL F113 t106).trans l107))
            refine g_iast C e127 rfl e129 (ix f27 (by decide) (by decide)) (iw f126 (by decide) (by decide)) dX12_findSaid_111 (fun h131 hh130 => ?_)
            have O132 := O122.pIa e127 ar_154100 hh130 rI_154100_0 (iw f126 (by decide) (by decide)) nofun
            refine g_aload_n C rfl 4 rfl dX12_findSaid_112 ?_
            have e133 : Tg h131 a0 = 12 := ((pIT hh130).trans (fxT F123 e116))
            obtain ⟨v134, e135⟩ : ∃ z, Rv h131 a0 55 = z := ⟨_, rfl⟩
            have t136 := ok_R O132 e133 rE_12_55 e135
            have l137 := ok_L O132 e133 rE_12_55 e135
            refine gf_R C fk_LandSurveyModel_215 rfl e133 e135 dX12_findSaid_113 ?_
            refine g_iload_n C rfl 6 rfl dX12_findSaid_116 ?_
            refine g_iload C 1 rfl dX12_findSaid_117 ?_
            refine g_aload_n C rfl 4 rfl dX12_findSaid_119 ?_
            refine g_iload_n C rfl 3 rfl dX12_findSaid_120 ?_
            refine g_iload C 2 rfl dX12_findSaid_121 ?_
            refine g_callI (st := [.inl (v84 - v91), .inl x13, .inr (.inr v134)]) (gc_V C lk_LandSurveyModel_471 (k_X12_underLow l D cy w z0 O132 e133 (iw f67 (by decide) (by decide)) f79) e133 rfl rfl rfl ⟨by decide, by decide⟩ (Nat.le_of_ble_eq_true rfl) dX12_findSaid_123 ⟨(by decide), (by decide)⟩) (fun r138 h139 f141 K140 => ?_)
            obtain ⟨O142, F143, f144⟩ := K140
            have f145 : (-2999 : Int) ≤ ((v84 - v91) - r138) ∧ ((v84 - v91) - r138) ≤ (999 : Int) := ia_sub f94 f144 (by decide) (by decide)
            refine g_isub C dX12_findSaid_126 ?_
            refine g_iload C 0 rfl dX12_findSaid_127 ?_
            have f146 : (-2999 : Int) ≤ (((v84 - v91) - r138) + 0) ∧ (((v84 - v91) - r138) + 0) ≤ (999 : Int) := ia_add f145 (il 0) (by decide) (by decide)
            refine g_iadd C dX12_findSaid_129 ?_
            have e147 : Tg h139 v134 = 155100 := (fxT F143 t136)
            have e148 : Ln h139 v134 = 40 := ((fxL F143 t136).trans l137)
            refine g_iast C e147 rfl e148 (ix f27 (by decide) (by decide)) (iw f146 (by decide) (by decide)) dX12_findSaid_130 (fun h150 hh149 => ?_)
            have O151 := O142.pIa e147 ar_155100 hh149 rI_155100_0 (iw f146 (by decide) (by decide)) nofun
            refine g_aload_n C rfl 4 rfl dX12_findSaid_131 ?_
            have e152 : Tg h150 a0 = 12 := ((pIT hh149).trans (fxT F143 e133))
            obtain ⟨v153, e154⟩ : ∃ z, Rv h150 a0 56 = z := ⟨_, rfl⟩
            have t155 := ok_R O151 e152 rE_12_56 e154
            have l156 := ok_L O151 e152 rE_12_56 e154
            refine gf_R C fk_LandSurveyModel_218 rfl e152 e154 dX12_findSaid_132 ?_
            refine g_iload_n C rfl 6 rfl dX12_findSaid_135 ?_
            refine g_aload_n C rfl 4 rfl dX12_findSaid_136 ?_
            refine g_iload_n C rfl 6 rfl dX12_findSaid_137 ?_
            have e157 : Tg h119 a0 = 12 := (fxT F123 e116)
            have e158 : Tg h139 a0 = 12 := (fxT F143 e133)
            have p159 := (MInv_fx O142 ((Fx.rf (wr := [31020000]) (h := h139)).pIa e147 ar_155100 hh149 rfl) e158 rfl (MInv_fx O132 F143 e133 rfl (MInv_fx O122 ((Fx.rf (wr := [30820000]) (h := h119)).pIa e127 ar_154100 hh130 rfl) e157 rfl (MInv_fx O112 F123 e116 rfl (MInv_fx O65 F113 e72 rfl (MInv_fx O49 F66 e50 rfl p60))))))
            refine g_callI (st := [.inl x13, .inr (.inr v153)]) (gc_V C lk_LandSurveyModel_474 (k_X12_worthOf l D cy w z0 O151 e152 f27 p159) e152 rfl rfl rfl ⟨by decide, by decide⟩ (Nat.le_of_ble_eq_true rfl) dX12_findSaid_138 ⟨(by decide), (by decide)⟩) (fun r160 h161 f163 K162 => ?_)
            obtain ⟨O164, F165, f166⟩ := K162
            have e167 : Tg h161 v153 = 156100 := (fxT F165 t155)
            have e168 : Ln h161 v153 = 40 := ((fxL F165 t155).trans l156)
            refine g_iast C e167 rfl e168 (ix f27 (by decide) (by decide)) (iw f166 (by decide) (by decide)) dX12_findSaid_141 (fun h170 hh169 => ?_)
            have O171 := O164.pIa e167 ar_156100 hh169 rI_156100_0 f166 nofun
            have f172 : (1 : Int) ≤ (x13 + 1) ∧ (x13 + 1) ≤ (40 : Int) := ia_add f27 (il 1) (by decide) (by decide)
            refine g_iinc C [(2, .inl (x13 + 1)), (6, .inl 0), (5, .inl (v84 - v91)), (4, .inl v77), (3, .inl r61), (0, .inr (.inr a0)), (1, .inl r4)] 6 rfl (by decide) rfl dX12_findSaid_142 ?_
            refine g_goto C 7 (by decide) dX12_findSaid_145 ?_
            refine GW.sub [5, 6, 0] rfl ?_
            exact ih16 _ (by omega) (x13 + 1) h170 rfl O171 ((((((((((F19.call F40 rfl).pIa e45 ar_153101 hh47 rfl).call F66 rfl).call F113 rfl).call F123 rfl).pIa e127 ar_154100 hh130 rfl).call F143 rfl).pIa e147 ar_155100 hh149 rfl).call F165 rfl).pIa e167 ar_156100 hh169 rfl) (iw f172 (by decide) (by decide))
          · have f173 : (1 : Int) ≤ v99 ∧ v99 ≤ (1 : Int) := ii f101 (r_eq (il 1) q103) (by decide) (by decide)
            refine g_aload_n C rfl 3 rfl dX12_findSaid_75 ?_
            obtain ⟨v174, e175⟩ : ∃ z, Rv h62 a0 21 = z := ⟨_, rfl⟩
            have t176 := ok_R O65 e72 rE_12_21 e175
            have l177 := ok_L O65 e72 rE_12_21 e175
            refine gf_R C fk_LandSurveyModel_128 rfl e72 e175 dX12_findSaid_76 ?_
            refine g_iload_n C rfl 4 rfl dX12_findSaid_79 ?_
            obtain ⟨v178, e179⟩ : ∃ z, Iv h62 v174 r4.toNat = z := ⟨_, rfl⟩
            have f180 := ok_Ia O65 t176 ar_121100 rI_121100_0 e179
            refine g_iald C t176 rfl l177 (by omega) e179 dX12_findSaid_80 ?_
            refine g_goto C 85 (by decide) dX12_findSaid_81 ?_
            refine g_istore C [(6, .inl v178), (5, .inl (v84 - v91)), (4, .inl v77), (3, .inl r61), (0, .inr (.inr a0)), (1, .inl r4), (2, .inl x13)] (by decide) rfl dX12_findSaid_85 ?_
            refine g_aload_n C rfl 4 rfl dX12_findSaid_87 ?_
            obtain ⟨v181, e182⟩ : ∃ z, Rv h62 a0 54 = z := ⟨_, rfl⟩
            have t183 := ok_R O65 e72 rE_12_54 e182
            have l184 := ok_L O65 e72 rE_12_54 e182
            refine gf_R C fk_LandSurveyModel_212 rfl e72 e182 dX12_findSaid_88 ?_
            refine g_iload_n C rfl 6 rfl dX12_findSaid_91 ?_
            refine g_iload C 1 rfl dX12_findSaid_92 ?_
            refine g_aload_n C rfl 4 rfl dX12_findSaid_94 ?_
            refine g_iload_n C rfl 3 rfl dX12_findSaid_95 ?_
            refine g_iload C 2 rfl dX12_findSaid_96 ?_
            refine g_callI (st := [.inl (v84 - v91), .inl x13, .inr (.inr v181)]) (gc_V C lk_LandSurveyModel_468 (k_X12_underHigh l D cy w z0 O65 e72 (iw f67 (by decide) (by decide)) f79) e72 rfl rfl rfl ⟨by decide, by decide⟩ (Nat.le_of_ble_eq_true rfl) dX12_findSaid_98 ⟨(by decide), (by decide)⟩) (fun r185 h186 f188 K187 => ?_)
            obtain ⟨O189, F190, f191⟩ := K187
            have f192 : (-2999 : Int) ≤ ((v84 - v91) - r185) ∧ ((v84 - v91) - r185) ≤ (999 : Int) := ia_sub f94 f191 (by decide) (by decide)
            refine g_isub C dX12_findSaid_101 ?_
            refine g_aload_n C rfl 4 rfl dX12_findSaid_102 ?_
            refine g_iload_n C rfl 3 rfl dX12_findSaid_103 ?_
            have e193 : Tg h186 a0 = 12 := (fxT F190 e72)
            have p194 := ((BNow_fx O65 F190 e72 rfl).trans ((BNow_fx O49 F66 e50 rfl).trans p71))
            refine g_callI (st := [.inl ((v84 - v91) - r185), .inl x13, .inr (.inr v181)]) (gc_V C lk_LandSurveyModel_462 (k_X12_thickOf l D cy w z0 O189 e193 (by omega) (by rw [p194]; omega)) e193 rfl rfl rfl ⟨by decide, by decide⟩ (Nat.le_of_ble_eq_true rfl) dX12_findSaid_104 ⟨(by decide), (by decide)⟩) (fun r195 h196 f198 K197 => ?_)
            obtain ⟨O199, F200, f201⟩ := K197
            have f202 : (-3199 : Int) ≤ (((v84 - v91) - r185) - r195) ∧ (((v84 - v91) - r185) - r195) ≤ (999 : Int) := ia_sub f192 f201 (by decide) (by decide)
            refine g_isub C dX12_findSaid_107 ?_
            refine g_iload C 0 rfl dX12_findSaid_108 ?_
            have f203 : (-3298 : Int) ≤ ((((v84 - v91) - r185) - r195) - v178) ∧ ((((v84 - v91) - r185) - r195) - v178) ≤ (999 : Int) := ia_sub f202 f180 (by decide) (by decide)
            refine g_isub C dX12_findSaid_110 ?_
            have e204 : Tg h196 v181 = 154100 := (fxT F200 (fxT F190 t183))
            have e205 : Tg h186 v181 = 154100 := (fxT F190 t183)
            have e206 : Ln h196 v181 = 40 := ((fxL F200 e205).trans ((fxL F190 t183).trans l184))
            refine g_iast C e204 rfl e206 (ix f27 (by decide) (by decide)) (iw f203 (by decide) (by decide)) dX12_findSaid_111 (fun h208 hh207 => ?_)
            have O209 := O199.pIa e204 ar_154100 hh207 rI_154100_0 (iw f203 (by decide) (by decide)) nofun
            refine g_aload_n C rfl 4 rfl dX12_findSaid_112 ?_
            have e210 : Tg h208 a0 = 12 := ((pIT hh207).trans (fxT F200 e193))
            obtain ⟨v211, e212⟩ : ∃ z, Rv h208 a0 55 = z := ⟨_, rfl⟩
            have t213 := ok_R O209 e210 rE_12_55 e212
            have l214 := ok_L O209 e210 rE_12_55 e212
            refine gf_R C fk_LandSurveyModel_215 rfl e210 e212 dX12_findSaid_113 ?_
            refine g_iload_n C rfl 6 rfl dX12_findSaid_116 ?_
            refine g_iload C 1 rfl dX12_findSaid_117 ?_
            refine g_aload_n C rfl 4 rfl dX12_findSaid_119 ?_
            refine g_iload_n C rfl 3 rfl dX12_findSaid_120 ?_
            refine g_iload C 2 rfl dX12_findSaid_121 ?_
            refine g_callI (st := [.inl (v84 - v91), .inl x13, .inr (.inr v211)]) (gc_V C lk_LandSurveyModel_471 (k_X12_underLow l D cy w z0 O209 e210 (iw f67 (by decide) (by decide)) f79) e210 rfl rfl rfl ⟨by decide, by decide⟩ (Nat.le_of_ble_eq_true rfl) dX12_findSaid_123 ⟨(by decide), (by decide)⟩) (fun r215 h216 f218 K217 => ?_)
            obtain ⟨O219, F220, f221⟩ := K217
            have f222 : (-2999 : Int) ≤ ((v84 - v91) - r215) ∧ ((v84 - v91) - r215) ≤ (999 : Int) := ia_sub f94 f221 (by decide) (by decide)
            refine g_isub C dX12_findSaid_126 ?_
            refine g_iload C 0 rfl dX12_findSaid_127 ?_
            have f223 : (-2999 : Int) ≤ (((v84 - v91) - r215) + v178) ∧ (((v84 - v91) - r215) + v178) ≤ (1098 : Int) := ia_add f222 f180 (by decide) (by decide)
            refine g_iadd C dX12_findSaid_129 ?_
            have e224 : Tg h216 v211 = 155100 := (fxT F220 t213)
            have e225 : Ln h216 v211 = 40 := ((fxL F220 t213).trans l214)
            refine g_iast C e224 rfl e225 (ix f27 (by decide) (by decide)) (iw f223 (by decide) (by decide)) dX12_findSaid_130 (fun h227 hh226 => ?_)
            have O228 := O219.pIa e224 ar_155100 hh226 rI_155100_0 (iw f223 (by decide) (by decide)) nofun
            refine g_aload_n C rfl 4 rfl dX12_findSaid_131 ?_
            have e229 : Tg h227 a0 = 12 := ((pIT hh226).trans (fxT F220 e210))
            obtain ⟨v230, e231⟩ : ∃ z, Rv h227 a0 56 = z := ⟨_, rfl⟩
            have t232 := ok_R O228 e229 rE_12_56 e231
            have l233 := ok_L O228 e229 rE_12_56 e231
            refine gf_R C fk_LandSurveyModel_218 rfl e229 e231 dX12_findSaid_132 ?_
            refine g_iload_n C rfl 6 rfl dX12_findSaid_135 ?_
            refine g_aload_n C rfl 4 rfl dX12_findSaid_136 ?_
            refine g_iload_n C rfl 6 rfl dX12_findSaid_137 ?_
            have e234 : Tg h196 a0 = 12 := (fxT F200 e193)
            have e235 : Tg h216 a0 = 12 := (fxT F220 e210)
            have p236 := (MInv_fx O219 ((Fx.rf (wr := [31020000]) (h := h216)).pIa e224 ar_155100 hh226 rfl) e235 rfl (MInv_fx O209 F220 e210 rfl (MInv_fx O199 ((Fx.rf (wr := [30820000]) (h := h196)).pIa e204 ar_154100 hh207 rfl) e234 rfl (MInv_fx O189 F200 e193 rfl (MInv_fx O65 F190 e72 rfl (MInv_fx O49 F66 e50 rfl p60))))))
            refine g_callI (st := [.inl x13, .inr (.inr v230)]) (gc_V C lk_LandSurveyModel_474 (k_X12_worthOf l D cy w z0 O228 e229 f27 p236) e229 rfl rfl rfl ⟨by decide, by decide⟩ (Nat.le_of_ble_eq_true rfl) dX12_findSaid_138 ⟨(by decide), (by decide)⟩) (fun r237 h238 f240 K239 => ?_)
            obtain ⟨O241, F242, f243⟩ := K239
            have e244 : Tg h238 v230 = 156100 := (fxT F242 t232)
            have e245 : Ln h238 v230 = 40 := ((fxL F242 t232).trans l233)
            refine g_iast C e244 rfl e245 (ix f27 (by decide) (by decide)) (iw f243 (by decide) (by decide)) dX12_findSaid_141 (fun h247 hh246 => ?_)
            have O248 := O241.pIa e244 ar_156100 hh246 rI_156100_0 f243 nofun
            have f249 : (1 : Int) ≤ (x13 + 1) ∧ (x13 + 1) ≤ (40 : Int) := ia_add f27 (il 1) (by decide) (by decide)
            refine g_iinc C [(2, .inl (x13 + 1)), (6, .inl v178), (5, .inl (v84 - v91)), (4, .inl v77), (3, .inl r61), (0, .inr (.inr a0)), (1, .inl r4)] 6 rfl (by decide) rfl dX12_findSaid_142 ?_
            refine g_goto C 7 (by decide) dX12_findSaid_145 ?_
            refine GW.sub [5, 6, 0] rfl ?_
            exact ih16 _ (by omega) (x13 + 1) h247 rfl O248 ((((((((((F19.call F40 rfl).pIa e45 ar_153101 hh47 rfl).call F66 rfl).call F190 rfl).call F200 rfl).pIa e204 ar_154100 hh207 rfl).call F220 rfl).pIa e224 ar_155100 hh226 rfl).call F242 rfl).pIa e244 ar_156100 hh246 rfl) (iw f249 (by decide) (by decide))
  exact L15 _ 0 h5 rfl O8 Fx.rf (iw (il 0) (by decide) (by decide))
