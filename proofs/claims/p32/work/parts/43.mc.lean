abbrev cX12_wrong : ByteArray := prog_14_method_10_code
def yX12_wrong : MethodName := ⟨RX12, "wrong", "(I)V"⟩
theorem okX12_wrong : yok yX12_wrong 1 := by decide +kernel
theorem kw_1514 : Cond.fieldLink "LandSurveyModel" 320 "LandSurveyModel" "fault" "I" ∈ uu := uu_in (i := 1514) (by decide +kernel) (by decide +kernel)
theorem fk_LandSurveyModel_320 : fkI "LandSurveyModel" 320 11 8 RX12 TX12 87 := ⟨rfl, rfl, inX12, by decide, kw_1514, by decide⟩
theorem dX12_wrong_0 : decode cX12_wrong 0 = .ok (.aload_n 0, 1) := by decide +kernel
theorem dX12_wrong_1 : decode cX12_wrong 1 = .ok (.getfield 320, 3) := by decide +kernel
theorem dX12_wrong_4 : decode cX12_wrong 4 = .ok (.ifCond .ne 21, 3) := by decide +kernel
theorem dX12_wrong_25 : decode cX12_wrong 25 = .ok (.return_, 1) := by decide +kernel
theorem dX12_wrong_7 : decode cX12_wrong 7 = .ok (.aload_n 0, 1) := by decide +kernel
theorem dX12_wrong_8 : decode cX12_wrong 8 = .ok (.iload_n 1, 1) := by decide +kernel
theorem dX12_wrong_9 : decode cX12_wrong 9 = .ok (.bipush 16, 2) := by decide +kernel
theorem dX12_wrong_11 : decode cX12_wrong 11 = .ok (.aload_n 0, 1) := by decide +kernel
theorem dX12_wrong_12 : decode cX12_wrong 12 = .ok (.getfield 27, 3) := by decide +kernel
theorem kw_1511 : Cond.fieldLink "LandSurveyModel" 27 "LandSurveyModel" "place" "[I" ∈ uu := uu_in (i := 1511) (by decide +kernel) (by decide +kernel)
theorem fk_LandSurveyModel_27 : fkR "LandSurveyModel" 27 11 5 RX12 TX12 87 := ⟨rfl, rfl, inX12, by decide, kw_1511, by decide⟩
theorem dX12_wrong_15 : decode cX12_wrong 15 = .ok (.aload_n 0, 1) := by decide +kernel
theorem dX12_wrong_16 : decode cX12_wrong 16 = .ok (.getfield 317, 3) := by decide +kernel
theorem kw_1513 : Cond.fieldLink "LandSurveyModel" 317 "LandSurveyModel" "at" "I" ∈ uu := uu_in (i := 1513) (by decide +kernel) (by decide +kernel)
theorem fk_LandSurveyModel_317 : fkI "LandSurveyModel" 317 11 7 RX12 TX12 87 := ⟨rfl, rfl, inX12, by decide, kw_1513, by decide⟩
theorem dX12_wrong_19 : decode cX12_wrong 19 = .ok (.iaload, 1) := by decide +kernel
theorem dX12_wrong_20 : decode cX12_wrong 20 = .ok (.imul, 1) := by decide +kernel
theorem dX12_wrong_21 : decode cX12_wrong 21 = .ok (.iadd, 1) := by decide +kernel
theorem dX12_wrong_22 : decode cX12_wrong 22 = .ok (.putfield 320, 3) := by decide +kernel
theorem pk_LandSurveyModel_8 : pk RX12 TX12 87 8 tyX12 false := ⟨tyX12_ok, nmX12, rfl⟩
abbrev cX12_isSign : ByteArray := prog_14_method_11_code
def yX12_isSign : MethodName := ⟨RX12, "isSign", "(I)Z"⟩
theorem okX12_isSign : yok yX12_isSign 1 := by decide +kernel
theorem dX12_isSign_0 : decode cX12_isSign 0 = .ok (.aload_n 0, 1) := by decide +kernel
theorem dX12_isSign_1 : decode cX12_isSign 1 = .ok (.getfield 320, 3) := by decide +kernel
theorem dX12_isSign_4 : decode cX12_isSign 4 = .ok (.ifCond .ne 35, 3) := by decide +kernel
theorem dX12_isSign_39 : decode cX12_isSign 39 = .ok (.iconst 0, 1) := by decide +kernel
theorem dX12_isSign_40 : decode cX12_isSign 40 = .ok (.ireturn, 1) := by decide +kernel
theorem dX12_isSign_7 : decode cX12_isSign 7 = .ok (.aload_n 0, 1) := by decide +kernel
theorem dX12_isSign_8 : decode cX12_isSign 8 = .ok (.getfield 24, 3) := by decide +kernel
theorem kw_1510 : Cond.fieldLink "LandSurveyModel" 24 "LandSurveyModel" "sort" "[I" ∈ uu := uu_in (i := 1510) (by decide +kernel) (by decide +kernel)
theorem fk_LandSurveyModel_24 : fkR "LandSurveyModel" 24 11 4 RX12 TX12 87 := ⟨rfl, rfl, inX12, by decide, kw_1510, by decide⟩
theorem dX12_isSign_11 : decode cX12_isSign 11 = .ok (.aload_n 0, 1) := by decide +kernel
theorem dX12_isSign_12 : decode cX12_isSign 12 = .ok (.getfield 317, 3) := by decide +kernel
theorem dX12_isSign_15 : decode cX12_isSign 15 = .ok (.iaload, 1) := by decide +kernel
theorem dX12_isSign_16 : decode cX12_isSign 16 = .ok (.iconst 3, 1) := by decide +kernel
theorem dX12_isSign_17 : decode cX12_isSign 17 = .ok (.if_icmp .ne 22, 3) := by decide +kernel
theorem dX12_isSign_20 : decode cX12_isSign 20 = .ok (.aload_n 0, 1) := by decide +kernel
theorem dX12_isSign_21 : decode cX12_isSign 21 = .ok (.getfield 30, 3) := by decide +kernel
theorem kw_1512 : Cond.fieldLink "LandSurveyModel" 30 "LandSurveyModel" "value" "[J" ∈ uu := uu_in (i := 1512) (by decide +kernel) (by decide +kernel)
theorem fk_LandSurveyModel_30 : fkR "LandSurveyModel" 30 11 6 RX12 TX12 87 := ⟨rfl, rfl, inX12, by decide, kw_1512, by decide⟩
theorem dX12_isSign_24 : decode cX12_isSign 24 = .ok (.aload_n 0, 1) := by decide +kernel
theorem dX12_isSign_25 : decode cX12_isSign 25 = .ok (.getfield 317, 3) := by decide +kernel
theorem dX12_isSign_28 : decode cX12_isSign 28 = .ok (.laload, 1) := by decide +kernel
theorem dX12_isSign_29 : decode cX12_isSign 29 = .ok (.iload_n 1, 1) := by decide +kernel
theorem dX12_isSign_30 : decode cX12_isSign 30 = .ok (.i2l, 1) := by decide +kernel
theorem dX12_isSign_31 : decode cX12_isSign 31 = .ok (.lcmp, 1) := by decide +kernel
theorem dX12_isSign_32 : decode cX12_isSign 32 = .ok (.ifCond .ne 7, 3) := by decide +kernel
theorem dX12_isSign_35 : decode cX12_isSign 35 = .ok (.iconst 1, 1) := by decide +kernel
theorem dX12_isSign_36 : decode cX12_isSign 36 = .ok (.goto 4, 3) := by decide +kernel
abbrev cX12_isWord : ByteArray := prog_14_method_12_code
def yX12_isWord : MethodName := ⟨RX12, "isWord", "(I)Z"⟩
theorem okX12_isWord : yok yX12_isWord 1 := by decide +kernel
theorem dX12_isWord_0 : decode cX12_isWord 0 = .ok (.aload_n 0, 1) := by decide +kernel
theorem dX12_isWord_1 : decode cX12_isWord 1 = .ok (.getfield 320, 3) := by decide +kernel
theorem dX12_isWord_4 : decode cX12_isWord 4 = .ok (.ifCond .ne 39, 3) := by decide +kernel
theorem dX12_isWord_43 : decode cX12_isWord 43 = .ok (.iconst 0, 1) := by decide +kernel
theorem dX12_isWord_44 : decode cX12_isWord 44 = .ok (.ireturn, 1) := by decide +kernel
theorem dX12_isWord_7 : decode cX12_isWord 7 = .ok (.aload_n 0, 1) := by decide +kernel
theorem dX12_isWord_8 : decode cX12_isWord 8 = .ok (.getfield 24, 3) := by decide +kernel
theorem dX12_isWord_11 : decode cX12_isWord 11 = .ok (.aload_n 0, 1) := by decide +kernel
theorem dX12_isWord_12 : decode cX12_isWord 12 = .ok (.getfield 317, 3) := by decide +kernel
theorem dX12_isWord_15 : decode cX12_isWord 15 = .ok (.iaload, 1) := by decide +kernel
theorem dX12_isWord_16 : decode cX12_isWord 16 = .ok (.iconst 1, 1) := by decide +kernel
theorem dX12_isWord_17 : decode cX12_isWord 17 = .ok (.if_icmp .ne 26, 3) := by decide +kernel
theorem dX12_isWord_20 : decode cX12_isWord 20 = .ok (.aload_n 0, 1) := by decide +kernel
theorem dX12_isWord_21 : decode cX12_isWord 21 = .ok (.getfield 30, 3) := by decide +kernel
theorem dX12_isWord_24 : decode cX12_isWord 24 = .ok (.aload_n 0, 1) := by decide +kernel
theorem dX12_isWord_25 : decode cX12_isWord 25 = .ok (.getfield 317, 3) := by decide +kernel
theorem dX12_isWord_28 : decode cX12_isWord 28 = .ok (.laload, 1) := by decide +kernel
theorem dX12_isWord_29 : decode cX12_isWord 29 = .ok (.aload_n 0, 1) := by decide +kernel
theorem dX12_isWord_30 : decode cX12_isWord 30 = .ok (.getfield 94, 3) := by decide +kernel
theorem kw_1515 : Cond.fieldLink "LandSurveyModel" 94 "LandSurveyModel" "words" "[J" ∈ uu := uu_in (i := 1515) (by decide +kernel) (by decide +kernel)
theorem fk_LandSurveyModel_94 : fkR "LandSurveyModel" 94 11 9 RX12 TX12 87 := ⟨rfl, rfl, inX12, by decide, kw_1515, by decide⟩
theorem dX12_isWord_33 : decode cX12_isWord 33 = .ok (.iload_n 1, 1) := by decide +kernel
theorem dX12_isWord_34 : decode cX12_isWord 34 = .ok (.laload, 1) := by decide +kernel
theorem dX12_isWord_35 : decode cX12_isWord 35 = .ok (.lcmp, 1) := by decide +kernel
theorem dX12_isWord_36 : decode cX12_isWord 36 = .ok (.ifCond .ne 7, 3) := by decide +kernel
theorem dX12_isWord_39 : decode cX12_isWord 39 = .ok (.iconst 1, 1) := by decide +kernel
theorem dX12_isWord_40 : decode cX12_isWord 40 = .ok (.goto 4, 3) := by decide +kernel
abbrev cX12_hasSign : ByteArray := prog_14_method_14_code
def yX12_hasSign : MethodName := ⟨RX12, "hasSign", "(I)Z"⟩
theorem okX12_hasSign : yok yX12_hasSign 1 := by decide +kernel
theorem dX12_hasSign_0 : decode cX12_hasSign 0 = .ok (.aload_n 0, 1) := by decide +kernel
theorem dX12_hasSign_1 : decode cX12_hasSign 1 = .ok (.iload_n 1, 1) := by decide +kernel
theorem dX12_hasSign_2 : decode cX12_hasSign 2 = .ok (.invokevirtual 323, 3) := by decide +kernel
theorem kw_1858 : Cond.code yX12_isSign prog_14_method_11_code 2 (some .boolean) ∈ uu := uu_in (i := 1858) (by decide +kernel) (by decide +kernel)
theorem kw_1855 : Cond.methodLink "LandSurveyModel" 323 yX12_isSign ∈ uu := uu_in (i := 1855) (by decide +kernel) (by decide +kernel)
theorem kw_1857 : Cond.instanceMethod yX12_isSign ∈ uu := uu_in (i := 1857) (by decide +kernel) (by decide +kernel)
theorem kw_81 : Cond.selects "LandSurveyModel" yX12_isSign yX12_isSign ∈ uu := uu_in (i := 81) (by decide +kernel) (by decide +kernel)
theorem lk_LandSurveyModel_323 : lkV "LandSurveyModel" 323 yX12_isSign cX12_isSign 2 (some .boolean) 1 := ⟨kw_1855, kw_1857, kw_81, kw_152, kw_1858, okX12_isSign⟩
theorem dX12_hasSign_5 : decode cX12_hasSign 5 = .ok (.istore_n 2, 1) := by decide +kernel
theorem dX12_hasSign_6 : decode cX12_hasSign 6 = .ok (.aload_n 0, 1) := by decide +kernel
theorem dX12_hasSign_7 : decode cX12_hasSign 7 = .ok (.dup, 1) := by decide +kernel
theorem dX12_hasSign_8 : decode cX12_hasSign 8 = .ok (.getfield 317, 3) := by decide +kernel
theorem dX12_hasSign_11 : decode cX12_hasSign 11 = .ok (.iload_n 2, 1) := by decide +kernel
theorem dX12_hasSign_12 : decode cX12_hasSign 12 = .ok (.ifCond .eq 7, 3) := by decide +kernel
theorem dX12_hasSign_19 : decode cX12_hasSign 19 = .ok (.iconst 0, 1) := by decide +kernel
theorem dX12_hasSign_20 : decode cX12_hasSign 20 = .ok (.iadd, 1) := by decide +kernel
theorem dX12_hasSign_21 : decode cX12_hasSign 21 = .ok (.putfield 317, 3) := by decide +kernel
theorem pk_LandSurveyModel_7 : pk RX12 TX12 87 7 tyX12 false := ⟨tyX12_ok, nmX12, rfl⟩
theorem dX12_hasSign_24 : decode cX12_hasSign 24 = .ok (.iload_n 2, 1) := by decide +kernel
theorem dX12_hasSign_25 : decode cX12_hasSign 25 = .ok (.ireturn, 1) := by decide +kernel
theorem dX12_hasSign_15 : decode cX12_hasSign 15 = .ok (.iconst 1, 1) := by decide +kernel
theorem dX12_hasSign_16 : decode cX12_hasSign 16 = .ok (.goto 4, 3) := by decide +kernel
abbrev cX12_hasWord : ByteArray := prog_14_method_15_code
def yX12_hasWord : MethodName := ⟨RX12, "hasWord", "(I)Z"⟩
theorem okX12_hasWord : yok yX12_hasWord 1 := by decide +kernel
theorem dX12_hasWord_0 : decode cX12_hasWord 0 = .ok (.aload_n 0, 1) := by decide +kernel
theorem dX12_hasWord_1 : decode cX12_hasWord 1 = .ok (.iload_n 1, 1) := by decide +kernel
theorem dX12_hasWord_2 : decode cX12_hasWord 2 = .ok (.invokevirtual 330, 3) := by decide +kernel
theorem kw_1802 : Cond.code yX12_isWord prog_14_method_12_code 2 (some .boolean) ∈ uu := uu_in (i := 1802) (by decide +kernel) (by decide +kernel)
theorem kw_1799 : Cond.methodLink "LandSurveyModel" 330 yX12_isWord ∈ uu := uu_in (i := 1799) (by decide +kernel) (by decide +kernel)
theorem kw_1801 : Cond.instanceMethod yX12_isWord ∈ uu := uu_in (i := 1801) (by decide +kernel) (by decide +kernel)
theorem kw_67 : Cond.selects "LandSurveyModel" yX12_isWord yX12_isWord ∈ uu := uu_in (i := 67) (by decide +kernel) (by decide +kernel)
theorem lk_LandSurveyModel_330 : lkV "LandSurveyModel" 330 yX12_isWord cX12_isWord 2 (some .boolean) 1 := ⟨kw_1799, kw_1801, kw_67, kw_152, kw_1802, okX12_isWord⟩
theorem dX12_hasWord_5 : decode cX12_hasWord 5 = .ok (.istore_n 2, 1) := by decide +kernel
theorem dX12_hasWord_6 : decode cX12_hasWord 6 = .ok (.aload_n 0, 1) := by decide +kernel
theorem dX12_hasWord_7 : decode cX12_hasWord 7 = .ok (.dup, 1) := by decide +kernel
theorem dX12_hasWord_8 : decode cX12_hasWord 8 = .ok (.getfield 317, 3) := by decide +kernel
theorem dX12_hasWord_11 : decode cX12_hasWord 11 = .ok (.iload_n 2, 1) := by decide +kernel
theorem dX12_hasWord_12 : decode cX12_hasWord 12 = .ok (.ifCond .eq 7, 3) := by decide +kernel
theorem dX12_hasWord_19 : decode cX12_hasWord 19 = .ok (.iconst 0, 1) := by decide +kernel
theorem dX12_hasWord_20 : decode cX12_hasWord 20 = .ok (.iadd, 1) := by decide +kernel
theorem dX12_hasWord_21 : decode cX12_hasWord 21 = .ok (.putfield 317, 3) := by decide +kernel
theorem dX12_hasWord_24 : decode cX12_hasWord 24 = .ok (.iload_n 2, 1) := by decide +kernel
theorem dX12_hasWord_25 : decode cX12_hasWord 25 = .ok (.ireturn, 1) := by decide +kernel
theorem dX12_hasWord_15 : decode cX12_hasWord 15 = .ok (.iconst 1, 1) := by decide +kernel
theorem dX12_hasWord_16 : decode cX12_hasWord 16 = .ok (.goto 4, 3) := by decide +kernel
abbrev cX12_takeSign : ByteArray := prog_14_method_13_code
def yX12_takeSign : MethodName := ⟨RX12, "takeSign", "(I)V"⟩
theorem okX12_takeSign : yok yX12_takeSign 1 := by decide +kernel
theorem dX12_takeSign_0 : decode cX12_takeSign 0 = .ok (.aload_n 0, 1) := by decide +kernel
theorem dX12_takeSign_1 : decode cX12_takeSign 1 = .ok (.iload_n 1, 1) := by decide +kernel
theorem dX12_takeSign_2 : decode cX12_takeSign 2 = .ok (.invokevirtual 323, 3) := by decide +kernel
theorem dX12_takeSign_5 : decode cX12_takeSign 5 = .ok (.ifCond .eq 16, 3) := by decide +kernel
theorem dX12_takeSign_21 : decode cX12_takeSign 21 = .ok (.aload_n 0, 1) := by decide +kernel
theorem dX12_takeSign_22 : decode cX12_takeSign 22 = .ok (.iconst 1, 1) := by decide +kernel
theorem dX12_takeSign_23 : decode cX12_takeSign 23 = .ok (.invokevirtual 326, 3) := by decide +kernel
theorem kw_1810 : Cond.code yX12_wrong prog_14_method_10_code 2 none ∈ uu := uu_in (i := 1810) (by decide +kernel) (by decide +kernel)
theorem kw_1807 : Cond.methodLink "LandSurveyModel" 326 yX12_wrong ∈ uu := uu_in (i := 1807) (by decide +kernel) (by decide +kernel)
theorem kw_1809 : Cond.instanceMethod yX12_wrong ∈ uu := uu_in (i := 1809) (by decide +kernel) (by decide +kernel)
theorem kw_69 : Cond.selects "LandSurveyModel" yX12_wrong yX12_wrong ∈ uu := uu_in (i := 69) (by decide +kernel) (by decide +kernel)
theorem lk_LandSurveyModel_326 : lkV "LandSurveyModel" 326 yX12_wrong cX12_wrong 2 none 1 := ⟨kw_1807, kw_1809, kw_69, kw_152, kw_1810, okX12_wrong⟩
theorem dX12_takeSign_26 : decode cX12_takeSign 26 = .ok (.return_, 1) := by decide +kernel
theorem dX12_takeSign_8 : decode cX12_takeSign 8 = .ok (.aload_n 0, 1) := by decide +kernel
theorem dX12_takeSign_9 : decode cX12_takeSign 9 = .ok (.dup, 1) := by decide +kernel
theorem dX12_takeSign_10 : decode cX12_takeSign 10 = .ok (.getfield 317, 3) := by decide +kernel
theorem dX12_takeSign_13 : decode cX12_takeSign 13 = .ok (.iconst 1, 1) := by decide +kernel
theorem dX12_takeSign_14 : decode cX12_takeSign 14 = .ok (.iadd, 1) := by decide +kernel
theorem dX12_takeSign_15 : decode cX12_takeSign 15 = .ok (.putfield 317, 3) := by decide +kernel
theorem dX12_takeSign_18 : decode cX12_takeSign 18 = .ok (.goto 8, 3) := by decide +kernel
abbrev cX12_takeWord : ByteArray := prog_14_method_16_code
def yX12_takeWord : MethodName := ⟨RX12, "takeWord", "(I)V"⟩
theorem okX12_takeWord : yok yX12_takeWord 1 := by decide +kernel
theorem dX12_takeWord_0 : decode cX12_takeWord 0 = .ok (.aload_n 0, 1) := by decide +kernel
theorem dX12_takeWord_1 : decode cX12_takeWord 1 = .ok (.iload_n 1, 1) := by decide +kernel
theorem dX12_takeWord_2 : decode cX12_takeWord 2 = .ok (.invokevirtual 333, 3) := by decide +kernel
theorem kw_1830 : Cond.code yX12_hasWord prog_14_method_15_code 3 (some .boolean) ∈ uu := uu_in (i := 1830) (by decide +kernel) (by decide +kernel)
theorem kw_1827 : Cond.methodLink "LandSurveyModel" 333 yX12_hasWord ∈ uu := uu_in (i := 1827) (by decide +kernel) (by decide +kernel)
theorem kw_1829 : Cond.instanceMethod yX12_hasWord ∈ uu := uu_in (i := 1829) (by decide +kernel) (by decide +kernel)
theorem kw_74 : Cond.selects "LandSurveyModel" yX12_hasWord yX12_hasWord ∈ uu := uu_in (i := 74) (by decide +kernel) (by decide +kernel)
theorem lk_LandSurveyModel_333 : lkV "LandSurveyModel" 333 yX12_hasWord cX12_hasWord 3 (some .boolean) 1 := ⟨kw_1827, kw_1829, kw_74, kw_152, kw_1830, okX12_hasWord⟩
theorem dX12_takeWord_5 : decode cX12_takeWord 5 = .ok (.ifCond .ne 8, 3) := by decide +kernel
theorem dX12_takeWord_13 : decode cX12_takeWord 13 = .ok (.return_, 1) := by decide +kernel
theorem dX12_takeWord_8 : decode cX12_takeWord 8 = .ok (.aload_n 0, 1) := by decide +kernel
theorem dX12_takeWord_9 : decode cX12_takeWord 9 = .ok (.iconst 1, 1) := by decide +kernel
theorem dX12_takeWord_10 : decode cX12_takeWord 10 = .ok (.invokevirtual 326, 3) := by decide +kernel
abbrev cX12_takeNumber : ByteArray := prog_14_method_21_code
def yX12_takeNumber : MethodName := ⟨RX12, "takeNumber", "(II)I"⟩
theorem okX12_takeNumber : yok yX12_takeNumber 2 := by decide +kernel
theorem dX12_takeNumber_0 : decode cX12_takeNumber 0 = .ok (.aload_n 0, 1) := by decide +kernel
theorem dX12_takeNumber_1 : decode cX12_takeNumber 1 = .ok (.getfield 320, 3) := by decide +kernel
theorem dX12_takeNumber_4 : decode cX12_takeNumber 4 = .ok (.ifCond .ne 24, 3) := by decide +kernel
theorem dX12_takeNumber_28 : decode cX12_takeNumber 28 = .ok (.aload_n 0, 1) := by decide +kernel
theorem dX12_takeNumber_29 : decode cX12_takeNumber 29 = .ok (.getfield 320, 3) := by decide +kernel
theorem dX12_takeNumber_32 : decode cX12_takeNumber 32 = .ok (.ifCond .ne 38, 3) := by decide +kernel
theorem dX12_takeNumber_70 : decode cX12_takeNumber 70 = .ok (.aload_n 0, 1) := by decide +kernel
theorem dX12_takeNumber_71 : decode cX12_takeNumber 71 = .ok (.getfield 320, 3) := by decide +kernel
theorem dX12_takeNumber_74 : decode cX12_takeNumber 74 = .ok (.ifCond .le 5, 3) := by decide +kernel
theorem dX12_takeNumber_77 : decode cX12_takeNumber 77 = .ok (.iconst 0, 1) := by decide +kernel
theorem dX12_takeNumber_78 : decode cX12_takeNumber 78 = .ok (.ireturn, 1) := by decide +kernel
theorem dX12_takeNumber_7 : decode cX12_takeNumber 7 = .ok (.aload_n 0, 1) := by decide +kernel
theorem dX12_takeNumber_8 : decode cX12_takeNumber 8 = .ok (.getfield 24, 3) := by decide +kernel
theorem dX12_takeNumber_11 : decode cX12_takeNumber 11 = .ok (.aload_n 0, 1) := by decide +kernel
theorem dX12_takeNumber_12 : decode cX12_takeNumber 12 = .ok (.getfield 317, 3) := by decide +kernel
theorem dX12_takeNumber_15 : decode cX12_takeNumber 15 = .ok (.iaload, 1) := by decide +kernel
theorem dX12_takeNumber_16 : decode cX12_takeNumber 16 = .ok (.iconst 2, 1) := by decide +kernel
theorem dX12_takeNumber_17 : decode cX12_takeNumber 17 = .ok (.if_icmp .eq 11, 3) := by decide +kernel
theorem dX12_takeNumber_35 : decode cX12_takeNumber 35 = .ok (.aload_n 0, 1) := by decide +kernel
theorem dX12_takeNumber_36 : decode cX12_takeNumber 36 = .ok (.getfield 30, 3) := by decide +kernel
theorem dX12_takeNumber_39 : decode cX12_takeNumber 39 = .ok (.aload_n 0, 1) := by decide +kernel
theorem dX12_takeNumber_40 : decode cX12_takeNumber 40 = .ok (.getfield 317, 3) := by decide +kernel
theorem dX12_takeNumber_43 : decode cX12_takeNumber 43 = .ok (.laload, 1) := by decide +kernel
theorem dX12_takeNumber_44 : decode cX12_takeNumber 44 = .ok (.iload_n 1, 1) := by decide +kernel
theorem dX12_takeNumber_45 : decode cX12_takeNumber 45 = .ok (.i2l, 1) := by decide +kernel
theorem dX12_takeNumber_46 : decode cX12_takeNumber 46 = .ok (.lcmp, 1) := by decide +kernel
theorem dX12_takeNumber_47 : decode cX12_takeNumber 47 = .ok (.ifCond .lt 18, 3) := by decide +kernel
theorem dX12_takeNumber_65 : decode cX12_takeNumber 65 = .ok (.aload_n 0, 1) := by decide +kernel
theorem dX12_takeNumber_66 : decode cX12_takeNumber 66 = .ok (.iconst 4, 1) := by decide +kernel
theorem dX12_takeNumber_67 : decode cX12_takeNumber 67 = .ok (.invokevirtual 326, 3) := by decide +kernel
theorem dX12_takeNumber_50 : decode cX12_takeNumber 50 = .ok (.aload_n 0, 1) := by decide +kernel
theorem dX12_takeNumber_51 : decode cX12_takeNumber 51 = .ok (.getfield 30, 3) := by decide +kernel
theorem dX12_takeNumber_54 : decode cX12_takeNumber 54 = .ok (.aload_n 0, 1) := by decide +kernel
theorem dX12_takeNumber_55 : decode cX12_takeNumber 55 = .ok (.getfield 317, 3) := by decide +kernel
theorem dX12_takeNumber_58 : decode cX12_takeNumber 58 = .ok (.laload, 1) := by decide +kernel
theorem dX12_takeNumber_59 : decode cX12_takeNumber 59 = .ok (.iload_n 2, 1) := by decide +kernel
theorem dX12_takeNumber_60 : decode cX12_takeNumber 60 = .ok (.i2l, 1) := by decide +kernel
theorem dX12_takeNumber_61 : decode cX12_takeNumber 61 = .ok (.lcmp, 1) := by decide +kernel
theorem dX12_takeNumber_62 : decode cX12_takeNumber 62 = .ok (.ifCond .le 8, 3) := by decide +kernel
theorem dX12_takeNumber_79 : decode cX12_takeNumber 79 = .ok (.aload_n 0, 1) := by decide +kernel
theorem dX12_takeNumber_80 : decode cX12_takeNumber 80 = .ok (.dup, 1) := by decide +kernel
theorem dX12_takeNumber_81 : decode cX12_takeNumber 81 = .ok (.getfield 317, 3) := by decide +kernel
theorem dX12_takeNumber_84 : decode cX12_takeNumber 84 = .ok (.iconst 1, 1) := by decide +kernel
theorem dX12_takeNumber_85 : decode cX12_takeNumber 85 = .ok (.iadd, 1) := by decide +kernel
theorem dX12_takeNumber_86 : decode cX12_takeNumber 86 = .ok (.putfield 317, 3) := by decide +kernel
theorem dX12_takeNumber_89 : decode cX12_takeNumber 89 = .ok (.aload_n 0, 1) := by decide +kernel
theorem dX12_takeNumber_90 : decode cX12_takeNumber 90 = .ok (.getfield 30, 3) := by decide +kernel
theorem dX12_takeNumber_93 : decode cX12_takeNumber 93 = .ok (.aload_n 0, 1) := by decide +kernel
theorem dX12_takeNumber_94 : decode cX12_takeNumber 94 = .ok (.getfield 317, 3) := by decide +kernel
theorem dX12_takeNumber_97 : decode cX12_takeNumber 97 = .ok (.iconst 1, 1) := by decide +kernel
theorem dX12_takeNumber_98 : decode cX12_takeNumber 98 = .ok (.isub, 1) := by decide +kernel
theorem dX12_takeNumber_99 : decode cX12_takeNumber 99 = .ok (.laload, 1) := by decide +kernel
theorem dX12_takeNumber_100 : decode cX12_takeNumber 100 = .ok (.l2i, 1) := by decide +kernel
theorem dX12_takeNumber_101 : decode cX12_takeNumber 101 = .ok (.ireturn, 1) := by decide +kernel
theorem dX12_takeNumber_20 : decode cX12_takeNumber 20 = .ok (.aload_n 0, 1) := by decide +kernel
theorem dX12_takeNumber_21 : decode cX12_takeNumber 21 = .ok (.iconst 1, 1) := by decide +kernel
theorem dX12_takeNumber_22 : decode cX12_takeNumber 22 = .ok (.invokevirtual 326, 3) := by decide +kernel
theorem dX12_takeNumber_25 : decode cX12_takeNumber 25 = .ok (.goto 45, 3) := by decide +kernel
abbrev cX12_isName : ByteArray := prog_14_method_22_code
def yX12_isName : MethodName := ⟨RX12, "isName", "()Z"⟩
theorem okX12_isName : yok yX12_isName 0 := by decide +kernel
theorem dX12_isName_0 : decode cX12_isName 0 = .ok (.aload_n 0, 1) := by decide +kernel
theorem dX12_isName_1 : decode cX12_isName 1 = .ok (.getfield 320, 3) := by decide +kernel
theorem dX12_isName_4 : decode cX12_isName 4 = .ok (.ifCond .ne 20, 3) := by decide +kernel
theorem dX12_isName_24 : decode cX12_isName 24 = .ok (.iconst 0, 1) := by decide +kernel
theorem dX12_isName_25 : decode cX12_isName 25 = .ok (.istore_n 1, 1) := by decide +kernel
theorem dX12_isName_26 : decode cX12_isName 26 = .ok (.iconst 0, 1) := by decide +kernel
theorem dX12_isName_27 : decode cX12_isName 27 = .ok (.istore_n 2, 1) := by decide +kernel
theorem dX12_isName_28 : decode cX12_isName 28 = .ok (.iload_n 2, 1) := by decide +kernel
theorem dX12_isName_29 : decode cX12_isName 29 = .ok (.bipush 30, 2) := by decide +kernel
theorem dX12_isName_31 : decode cX12_isName 31 = .ok (.if_icmp .ge 38, 3) := by decide +kernel
theorem dX12_isName_69 : decode cX12_isName 69 = .ok (.iload_n 1, 1) := by decide +kernel
theorem dX12_isName_70 : decode cX12_isName 70 = .ok (.ireturn, 1) := by decide +kernel
theorem dX12_isName_34 : decode cX12_isName 34 = .ok (.iload_n 1, 1) := by decide +kernel
theorem dX12_isName_35 : decode cX12_isName 35 = .ok (.ifCond .eq 26, 3) := by decide +kernel
theorem dX12_isName_61 : decode cX12_isName 61 = .ok (.iconst 0, 1) := by decide +kernel
theorem dX12_isName_62 : decode cX12_isName 62 = .ok (.istore_n 1, 1) := by decide +kernel
theorem dX12_isName_63 : decode cX12_isName 63 = .ok (.iinc 2 1, 3) := by decide +kernel
theorem dX12_isName_66 : decode cX12_isName 66 = .ok (.goto (-38), 3) := by decide +kernel
theorem dX12_isName_38 : decode cX12_isName 38 = .ok (.aload_n 0, 1) := by decide +kernel
theorem dX12_isName_39 : decode cX12_isName 39 = .ok (.getfield 30, 3) := by decide +kernel
theorem dX12_isName_42 : decode cX12_isName 42 = .ok (.aload_n 0, 1) := by decide +kernel
theorem dX12_isName_43 : decode cX12_isName 43 = .ok (.getfield 317, 3) := by decide +kernel
theorem dX12_isName_46 : decode cX12_isName 46 = .ok (.laload, 1) := by decide +kernel
theorem dX12_isName_47 : decode cX12_isName 47 = .ok (.aload_n 0, 1) := by decide +kernel
theorem dX12_isName_48 : decode cX12_isName 48 = .ok (.getfield 94, 3) := by decide +kernel
theorem dX12_isName_51 : decode cX12_isName 51 = .ok (.iload_n 2, 1) := by decide +kernel
theorem dX12_isName_52 : decode cX12_isName 52 = .ok (.laload, 1) := by decide +kernel
theorem dX12_isName_53 : decode cX12_isName 53 = .ok (.lcmp, 1) := by decide +kernel
theorem dX12_isName_54 : decode cX12_isName 54 = .ok (.ifCond .eq 7, 3) := by decide +kernel
theorem dX12_isName_57 : decode cX12_isName 57 = .ok (.iconst 1, 1) := by decide +kernel
theorem dX12_isName_58 : decode cX12_isName 58 = .ok (.goto 4, 3) := by decide +kernel
theorem dX12_isName_7 : decode cX12_isName 7 = .ok (.aload_n 0, 1) := by decide +kernel
theorem dX12_isName_8 : decode cX12_isName 8 = .ok (.getfield 24, 3) := by decide +kernel
theorem dX12_isName_11 : decode cX12_isName 11 = .ok (.aload_n 0, 1) := by decide +kernel
theorem dX12_isName_12 : decode cX12_isName 12 = .ok (.getfield 317, 3) := by decide +kernel
theorem dX12_isName_15 : decode cX12_isName 15 = .ok (.iaload, 1) := by decide +kernel
theorem dX12_isName_16 : decode cX12_isName 16 = .ok (.iconst 1, 1) := by decide +kernel
theorem dX12_isName_17 : decode cX12_isName 17 = .ok (.if_icmp .ne 7, 3) := by decide +kernel
theorem dX12_isName_20 : decode cX12_isName 20 = .ok (.iconst 1, 1) := by decide +kernel
theorem dX12_isName_21 : decode cX12_isName 21 = .ok (.goto 4, 3) := by decide +kernel
abbrev cX12_findRock : ByteArray := prog_14_method_23_code
def yX12_findRock : MethodName := ⟨RX12, "findRock", "()I"⟩
theorem okX12_findRock : yok yX12_findRock 0 := by decide +kernel
theorem dX12_findRock_0 : decode cX12_findRock 0 = .ok (.iconst (-1), 1) := by decide +kernel
theorem dX12_findRock_1 : decode cX12_findRock 1 = .ok (.istore_n 1, 1) := by decide +kernel
theorem dX12_findRock_2 : decode cX12_findRock 2 = .ok (.iconst 0, 1) := by decide +kernel
theorem dX12_findRock_3 : decode cX12_findRock 3 = .ok (.istore_n 2, 1) := by decide +kernel
theorem dX12_findRock_4 : decode cX12_findRock 4 = .ok (.iload_n 2, 1) := by decide +kernel
theorem dX12_findRock_5 : decode cX12_findRock 5 = .ok (.aload_n 0, 1) := by decide +kernel
theorem dX12_findRock_6 : decode cX12_findRock 6 = .ok (.getfield 100, 3) := by decide +kernel
theorem dX12_findRock_9 : decode cX12_findRock 9 = .ok (.bipush 8, 2) := by decide +kernel
theorem dX12_findRock_11 : decode cX12_findRock 11 = .ok (.iaload, 1) := by decide +kernel
theorem dX12_findRock_12 : decode cX12_findRock 12 = .ok (.if_icmp .ge 37, 3) := by decide +kernel
theorem dX12_findRock_49 : decode cX12_findRock 49 = .ok (.iload_n 1, 1) := by decide +kernel
theorem dX12_findRock_50 : decode cX12_findRock 50 = .ok (.ireturn, 1) := by decide +kernel
theorem dX12_findRock_15 : decode cX12_findRock 15 = .ok (.aload_n 0, 1) := by decide +kernel
theorem dX12_findRock_16 : decode cX12_findRock 16 = .ok (.getfield 103, 3) := by decide +kernel
theorem kw_1519 : Cond.fieldLink "LandSurveyModel" 103 "LandSurveyModel" "rockName" "[J" ∈ uu := uu_in (i := 1519) (by decide +kernel) (by decide +kernel)
theorem fk_LandSurveyModel_103 : fkR "LandSurveyModel" 103 11 13 RX12 TX12 87 := ⟨rfl, rfl, inX12, by decide, kw_1519, by decide⟩
theorem dX12_findRock_19 : decode cX12_findRock 19 = .ok (.bipush 80, 2) := by decide +kernel
theorem dX12_findRock_21 : decode cX12_findRock 21 = .ok (.iload_n 2, 1) := by decide +kernel
theorem dX12_findRock_22 : decode cX12_findRock 22 = .ok (.iadd, 1) := by decide +kernel
theorem dX12_findRock_23 : decode cX12_findRock 23 = .ok (.laload, 1) := by decide +kernel
theorem dX12_findRock_24 : decode cX12_findRock 24 = .ok (.aload_n 0, 1) := by decide +kernel
theorem dX12_findRock_25 : decode cX12_findRock 25 = .ok (.getfield 30, 3) := by decide +kernel
theorem dX12_findRock_28 : decode cX12_findRock 28 = .ok (.aload_n 0, 1) := by decide +kernel
theorem dX12_findRock_29 : decode cX12_findRock 29 = .ok (.getfield 317, 3) := by decide +kernel
theorem dX12_findRock_32 : decode cX12_findRock 32 = .ok (.laload, 1) := by decide +kernel
theorem dX12_findRock_33 : decode cX12_findRock 33 = .ok (.lcmp, 1) := by decide +kernel
theorem dX12_findRock_34 : decode cX12_findRock 34 = .ok (.ifCond .ne 7, 3) := by decide +kernel
theorem dX12_findRock_41 : decode cX12_findRock 41 = .ok (.iload_n 1, 1) := by decide +kernel
theorem dX12_findRock_42 : decode cX12_findRock 42 = .ok (.istore_n 1, 1) := by decide +kernel
theorem dX12_findRock_43 : decode cX12_findRock 43 = .ok (.iinc 2 1, 3) := by decide +kernel
theorem dX12_findRock_46 : decode cX12_findRock 46 = .ok (.goto (-42), 3) := by decide +kernel
theorem dX12_findRock_37 : decode cX12_findRock 37 = .ok (.iload_n 2, 1) := by decide +kernel
theorem dX12_findRock_38 : decode cX12_findRock 38 = .ok (.goto 4, 3) := by decide +kernel
abbrev cX12_takeRock : ByteArray := prog_14_method_24_code
def yX12_takeRock : MethodName := ⟨RX12, "takeRock", "()I"⟩
theorem okX12_takeRock : yok yX12_takeRock 0 := by decide +kernel
theorem dX12_takeRock_0 : decode cX12_takeRock 0 = .ok (.aload_n 0, 1) := by decide +kernel
theorem dX12_takeRock_1 : decode cX12_takeRock 1 = .ok (.getfield 320, 3) := by decide +kernel
theorem dX12_takeRock_4 : decode cX12_takeRock 4 = .ok (.ifCond .le 5, 3) := by decide +kernel
theorem dX12_takeRock_9 : decode cX12_takeRock 9 = .ok (.aload_n 0, 1) := by decide +kernel
theorem dX12_takeRock_10 : decode cX12_takeRock 10 = .ok (.invokevirtual 357, 3) := by decide +kernel
theorem kw_1814 : Cond.code yX12_isName prog_14_method_22_code 3 (some .boolean) ∈ uu := uu_in (i := 1814) (by decide +kernel) (by decide +kernel)
theorem kw_1811 : Cond.methodLink "LandSurveyModel" 357 yX12_isName ∈ uu := uu_in (i := 1811) (by decide +kernel) (by decide +kernel)
theorem kw_1813 : Cond.instanceMethod yX12_isName ∈ uu := uu_in (i := 1813) (by decide +kernel) (by decide +kernel)
theorem kw_70 : Cond.selects "LandSurveyModel" yX12_isName yX12_isName ∈ uu := uu_in (i := 70) (by decide +kernel) (by decide +kernel)
theorem lk_LandSurveyModel_357 : lkV "LandSurveyModel" 357 yX12_isName cX12_isName 3 (some .boolean) 0 := ⟨kw_1811, kw_1813, kw_70, kw_152, kw_1814, okX12_isName⟩
theorem dX12_takeRock_13 : decode cX12_takeRock 13 = .ok (.ifCond .eq 10, 3) := by decide +kernel
theorem dX12_takeRock_23 : decode cX12_takeRock 23 = .ok (.iconst (-1), 1) := by decide +kernel
theorem dX12_takeRock_24 : decode cX12_takeRock 24 = .ok (.istore_n 1, 1) := by decide +kernel
theorem dX12_takeRock_25 : decode cX12_takeRock 25 = .ok (.aload_n 0, 1) := by decide +kernel
theorem dX12_takeRock_26 : decode cX12_takeRock 26 = .ok (.invokevirtual 357, 3) := by decide +kernel
theorem dX12_takeRock_29 : decode cX12_takeRock 29 = .ok (.ifCond .ne 11, 3) := by decide +kernel
theorem dX12_takeRock_40 : decode cX12_takeRock 40 = .ok (.iload_n 1, 1) := by decide +kernel
theorem dX12_takeRock_41 : decode cX12_takeRock 41 = .ok (.ifCond .ge 8, 3) := by decide +kernel
theorem dX12_takeRock_44 : decode cX12_takeRock 44 = .ok (.aload_n 0, 1) := by decide +kernel
theorem dX12_takeRock_45 : decode cX12_takeRock 45 = .ok (.iconst 2, 1) := by decide +kernel
theorem dX12_takeRock_46 : decode cX12_takeRock 46 = .ok (.invokevirtual 326, 3) := by decide +kernel
theorem dX12_takeRock_49 : decode cX12_takeRock 49 = .ok (.aload_n 0, 1) := by decide +kernel
theorem dX12_takeRock_50 : decode cX12_takeRock 50 = .ok (.dup, 1) := by decide +kernel
theorem dX12_takeRock_51 : decode cX12_takeRock 51 = .ok (.getfield 317, 3) := by decide +kernel
theorem dX12_takeRock_54 : decode cX12_takeRock 54 = .ok (.aload_n 0, 1) := by decide +kernel
theorem dX12_takeRock_55 : decode cX12_takeRock 55 = .ok (.getfield 320, 3) := by decide +kernel
theorem dX12_takeRock_58 : decode cX12_takeRock 58 = .ok (.ifCond .ne 7, 3) := by decide +kernel
theorem dX12_takeRock_65 : decode cX12_takeRock 65 = .ok (.iconst 0, 1) := by decide +kernel
theorem dX12_takeRock_66 : decode cX12_takeRock 66 = .ok (.iadd, 1) := by decide +kernel
theorem dX12_takeRock_67 : decode cX12_takeRock 67 = .ok (.putfield 317, 3) := by decide +kernel
theorem dX12_takeRock_70 : decode cX12_takeRock 70 = .ok (.aload_n 0, 1) := by decide +kernel
theorem dX12_takeRock_71 : decode cX12_takeRock 71 = .ok (.getfield 320, 3) := by decide +kernel
theorem dX12_takeRock_74 : decode cX12_takeRock 74 = .ok (.ifCond .le 7, 3) := by decide +kernel
theorem dX12_takeRock_77 : decode cX12_takeRock 77 = .ok (.iconst 0, 1) := by decide +kernel
theorem dX12_takeRock_78 : decode cX12_takeRock 78 = .ok (.goto 4, 3) := by decide +kernel
theorem dX12_takeRock_82 : decode cX12_takeRock 82 = .ok (.ireturn, 1) := by decide +kernel
theorem dX12_takeRock_32 : decode cX12_takeRock 32 = .ok (.aload_n 0, 1) := by decide +kernel
theorem dX12_takeRock_33 : decode cX12_takeRock 33 = .ok (.iconst 1, 1) := by decide +kernel
theorem dX12_takeRock_34 : decode cX12_takeRock 34 = .ok (.invokevirtual 326, 3) := by decide +kernel
theorem dX12_takeRock_37 : decode cX12_takeRock 37 = .ok (.goto 12, 3) := by decide +kernel
theorem dX12_takeRock_16 : decode cX12_takeRock 16 = .ok (.aload_n 0, 1) := by decide +kernel
theorem dX12_takeRock_17 : decode cX12_takeRock 17 = .ok (.invokevirtual 361, 3) := by decide +kernel
theorem kw_1818 : Cond.code yX12_findRock prog_14_method_23_code 3 (some .int) ∈ uu := uu_in (i := 1818) (by decide +kernel) (by decide +kernel)
theorem kw_1815 : Cond.methodLink "LandSurveyModel" 361 yX12_findRock ∈ uu := uu_in (i := 1815) (by decide +kernel) (by decide +kernel)
theorem kw_1817 : Cond.instanceMethod yX12_findRock ∈ uu := uu_in (i := 1817) (by decide +kernel) (by decide +kernel)
theorem kw_71 : Cond.selects "LandSurveyModel" yX12_findRock yX12_findRock ∈ uu := uu_in (i := 71) (by decide +kernel) (by decide +kernel)
theorem lk_LandSurveyModel_361 : lkV "LandSurveyModel" 361 yX12_findRock cX12_findRock 3 (some .int) 0 := ⟨kw_1815, kw_1817, kw_71, kw_152, kw_1818, okX12_findRock⟩
theorem dX12_takeRock_20 : decode cX12_takeRock 20 = .ok (.goto 4, 3) := by decide +kernel
theorem dX12_takeRock_61 : decode cX12_takeRock 61 = .ok (.iconst 1, 1) := by decide +kernel
theorem dX12_takeRock_62 : decode cX12_takeRock 62 = .ok (.goto 4, 3) := by decide +kernel
theorem dX12_takeRock_81 : decode cX12_takeRock 81 = .ok (.iload_n 1, 1) := by decide +kernel
theorem dX12_takeRock_7 : decode cX12_takeRock 7 = .ok (.iconst 0, 1) := by decide +kernel
theorem dX12_takeRock_8 : decode cX12_takeRock 8 = .ok (.ireturn, 1) := by decide +kernel
abbrev cX12_emit : ByteArray := prog_14_method_17_code
def yX12_emit : MethodName := ⟨RX12, "emit", "(II)V"⟩
theorem okX12_emit : yok yX12_emit 2 := by decide +kernel
theorem kw_1534 : Cond.fieldLink "LandSurveyModel" 336 "LandSurveyModel" "codes" "I" ∈ uu := uu_in (i := 1534) (by decide +kernel) (by decide +kernel)
theorem fk_LandSurveyModel_336 : fkI "LandSurveyModel" 336 11 28 RX12 TX12 87 := ⟨rfl, rfl, inX12, by decide, kw_1534, by decide⟩
theorem dX12_emit_0 : decode cX12_emit 0 = .ok (.aload_n 0, 1) := by decide +kernel
theorem dX12_emit_1 : decode cX12_emit 1 = .ok (.getfield 149, 3) := by decide +kernel
theorem dX12_emit_4 : decode cX12_emit 4 = .ok (.sipush 12800, 3) := by decide +kernel
theorem dX12_emit_7 : decode cX12_emit 7 = .ok (.aload_n 0, 1) := by decide +kernel
theorem dX12_emit_8 : decode cX12_emit 8 = .ok (.getfield 336, 3) := by decide +kernel
theorem dX12_emit_11 : decode cX12_emit 11 = .ok (.iadd, 1) := by decide +kernel
theorem dX12_emit_12 : decode cX12_emit 12 = .ok (.iload_n 1, 1) := by decide +kernel
theorem dX12_emit_13 : decode cX12_emit 13 = .ok (.iastore, 1) := by decide +kernel
theorem dX12_emit_14 : decode cX12_emit 14 = .ok (.aload_n 0, 1) := by decide +kernel
theorem dX12_emit_15 : decode cX12_emit 15 = .ok (.getfield 152, 3) := by decide +kernel
theorem dX12_emit_18 : decode cX12_emit 18 = .ok (.sipush 12800, 3) := by decide +kernel
theorem dX12_emit_21 : decode cX12_emit 21 = .ok (.aload_n 0, 1) := by decide +kernel
theorem dX12_emit_22 : decode cX12_emit 22 = .ok (.getfield 336, 3) := by decide +kernel
theorem dX12_emit_25 : decode cX12_emit 25 = .ok (.iadd, 1) := by decide +kernel
theorem dX12_emit_26 : decode cX12_emit 26 = .ok (.iload_n 2, 1) := by decide +kernel
theorem dX12_emit_27 : decode cX12_emit 27 = .ok (.iastore, 1) := by decide +kernel
theorem dX12_emit_28 : decode cX12_emit 28 = .ok (.aload_n 0, 1) := by decide +kernel
theorem dX12_emit_29 : decode cX12_emit 29 = .ok (.dup, 1) := by decide +kernel
theorem dX12_emit_30 : decode cX12_emit 30 = .ok (.getfield 336, 3) := by decide +kernel
theorem dX12_emit_33 : decode cX12_emit 33 = .ok (.iconst 1, 1) := by decide +kernel
theorem dX12_emit_34 : decode cX12_emit 34 = .ok (.iadd, 1) := by decide +kernel
theorem dX12_emit_35 : decode cX12_emit 35 = .ok (.putfield 336, 3) := by decide +kernel
theorem pk_LandSurveyModel_28 : pk RX12 TX12 87 28 tyX12 false := ⟨tyX12_ok, nmX12, rfl⟩
theorem dX12_emit_38 : decode cX12_emit 38 = .ok (.return_, 1) := by decide +kernel
def wr_k_X12_wrong : List Nat := [2408]
set_option maxRecDepth 100000 in
set_option maxHeartbeats 4000000 in
theorem k_X12_wrong (l : Launch) (D : va_G) (cy : Nat → ClassId) (w : Nat → Nat) (z0 : Nat)  {h : Hp} {a0 : Nat} {a1 : Int}  (O : Okh h) (ta0 : Tg h a0 = 12) (fa1 : 1 ≤ a1 ∧ a1 ≤ 5) : MV l D cy w z0 yX12_wrong cX12_wrong 2 none 0 0 0 0 [.inr (.inr a0), .inl a1] h (fun h1 => Okh h1 ∧ Fx wr_k_X12_wrong h h1 ∧ (0 < Iv h1 a0 8)) := by
  refine hm_go (by decide +kernel) (Nat.le_of_ble_eq_true rfl) (fun p e s m below meth c C hr hn => ?_)
  refine g_aload_n C rfl 0 rfl dX12_wrong_0 ?_
  obtain ⟨v1, e2⟩ : ∃ z, Iv h a0 8 = z := ⟨_, rfl⟩
  have f3 := ok_I O ta0 rI_12_8 e2
  refine gf_I C fk_LandSurveyModel_320 rfl ta0 e2 dX12_wrong_1 ?_
  refine g_if_ne C (iw f3 (by decide) (by decide)) 25 (by decide) dX12_wrong_4 (fun q4 => ?_) (fun q5 => ?_)
  · have f6 : (1 : Int) ≤ v1 ∧ v1 ≤ (24005 : Int) := r_nl f3 q4
    exact g_vret C hr ⟨O, Fx.rf, (by rw [e2]; omega)⟩ (by decide) (by decide) dX12_wrong_25
  · have f7 : (0 : Int) ≤ v1 ∧ v1 ≤ (0 : Int) := ii f3 (r_eq (il 0) q5) (by decide) (by decide)
    refine g_aload_n C rfl 0 rfl dX12_wrong_7 ?_
    refine g_iload_n C rfl 1 rfl dX12_wrong_8 ?_
    refine g_bipush C (by decide) dX12_wrong_9 ?_
    refine g_aload_n C rfl 0 rfl dX12_wrong_11 ?_
    obtain ⟨v8, e9⟩ : ∃ z, Rv h a0 5 = z := ⟨_, rfl⟩
    have t10 := ok_R O ta0 rE_12_5 e9
    have l11 := ok_L O ta0 rE_12_5 e9
    refine gf_R C fk_LandSurveyModel_27 rfl ta0 e9 dX12_wrong_12 ?_
    refine g_aload_n C rfl 0 rfl dX12_wrong_15 ?_
    obtain ⟨v12, e13⟩ : ∃ z, Iv h a0 7 = z := ⟨_, rfl⟩
    have f14 := ok_I O ta0 rI_12_7 e13
    refine gf_I C fk_LandSurveyModel_317 rfl ta0 e13 dX12_wrong_16 ?_
    obtain ⟨v15, e16⟩ : ∃ z, Iv h v8 v12.toNat = z := ⟨_, rfl⟩
    have f17 := ok_Ia O t10 ar_105100 rI_105100_0 e16
    refine g_iald C t10 rfl l11 (ix f14 (by decide) (by decide)) e16 dX12_wrong_19 ?_
    have f18 : (0 : Int) ≤ (16 * v15) ∧ (16 * v15) ≤ (24000 : Int) := ia_mul (by decide) f17 (by decide) (by decide)
    refine g_imul C dX12_wrong_20 ?_
    have f19 : (1 : Int) ≤ (a1 + (16 * v15)) ∧ (a1 + (16 * v15)) ≤ (24005 : Int) := ia_add fa1 f18 (by decide) (by decide)
    refine g_iadd C dX12_wrong_21 ?_
    refine gp_I C fk_LandSurveyModel_320 pk_LandSurveyModel_8 rfl ta0 (iw f19 (by decide) (by decide)) (nf_i _) dX12_wrong_22 (fun h21 hh20 => ?_)
    have O22 := O.pI ta0 hh20 rI_12_8 (iw f19 (by decide) (by decide)) nofun
    exact g_vret C hr ⟨O22, ((Fx.rf (wr := wr_k_X12_wrong)).pI ta0 hh20 rfl), (by rw [(pI_e hh20)]; omega)⟩ (by decide) (by decide) dX12_wrong_25
def wr_k_X12_isSign : List Nat := []
set_option maxRecDepth 100000 in
set_option maxHeartbeats 4000000 in
theorem k_X12_isSign (l : Launch) (D : va_G) (cy : Nat → ClassId) (w : Nat → Nat) (z0 : Nat)  {h : Hp} {a0 : Nat} {a1 : Int}  (O : Okh h) (ta0 : Tg h a0 = 12) (fa1 : (-2147483648) ≤ a1 ∧ a1 ≤ 2147483647) (P_RD : RD h a0) : MI l D cy w z0 yX12_isSign cX12_isSign 2 (some .boolean) 0 0 0 0 [.inr (.inr a0), .inl a1] h (fun v h1 => Okh h1 ∧ Fx wr_k_X12_isSign h h1 ∧ (0 ≤ v ∧ v ≤ 1) ∧ (v = 1 → Iv h a0 8 = 0 ∧ Iv h a0 7 < NT h a0) ∧ (v = tkf 3 (Iv h a0 8) (Iv h (Rv h a0 4) (Iv h a0 7).toNat) (Jv h (Rv h a0 6) (Iv h a0 7).toNat) a1)) := by
  obtain ⟨v1, e2⟩ : ∃ z, Iv h a0 7 = z := ⟨_, rfl⟩
  have f3 := ok_I O ta0 rI_12_7 e2
  obtain ⟨v4, e5⟩ : ∃ z, Iv h a0 8 = z := ⟨_, rfl⟩
  have f6 := ok_I O ta0 rI_12_8 e5
  obtain ⟨v7, e8⟩ : ∃ z, Iv h a0 28 = z := ⟨_, rfl⟩
  have f9 := ok_I O ta0 rI_12_28 e8
  obtain ⟨p10, p11, p12, p13⟩ := P_RD
  obtain ⟨v14, e15⟩ : ∃ z, NT h a0 = z := ⟨_, rfl⟩
  have f16 : (0 : Int) ≤ v14 ∧ v14 ≤ (1500 : Int) := NT_rng p10 e15
  rw [e2, e15] at p11
  rw [e5, e2, e15] at p12
  rw [e8, e2] at p13
  refine hm_go (by decide +kernel) (Nat.le_of_ble_eq_true rfl) (fun p e s m below meth c C hr hn => ?_)
  refine g_aload_n C rfl 0 rfl dX12_isSign_0 ?_
  refine gf_I C fk_LandSurveyModel_320 rfl ta0 e5 dX12_isSign_1 ?_
  refine g_if_ne C (iw f6 (by decide) (by decide)) 39 (by decide) dX12_isSign_4 (fun q17 => ?_) (fun q18 => ?_)
  · have f19 : (1 : Int) ≤ v4 ∧ v4 ≤ (24005 : Int) := r_nl f6 q17
    refine g_iconst C dX12_isSign_39 ?_
    obtain ⟨v20, e21⟩ : ∃ z, Rv h a0 4 = z := ⟨_, rfl⟩
    have t22 := ok_R O ta0 rE_12_4 e21
    have l23 := ok_L O ta0 rE_12_4 e21
    obtain ⟨v24, e25⟩ : ∃ z, Iv h v20 v1.toNat = z := ⟨_, rfl⟩
    have f26 := ok_Ia O t22 ar_104100 rI_104100_0 e25
    obtain ⟨v27, e28⟩ : ∃ z, Rv h a0 6 = z := ⟨_, rfl⟩
    have t29 := ok_R O ta0 rE_12_6 e28
    have l30 := ok_L O ta0 rE_12_6 e28
    obtain ⟨v31, e32⟩ : ∃ z, Jv h v27 v1.toNat = z := ⟨_, rfl⟩
    have f33 := inL_J O e32
    exact g_iret C hr (nar_z2 (iw (il 0) (by decide) (by decide))).1 (iw (il 0) (by decide) (by decide)) ⟨O, Fx.rf, (iw (il 0) (by decide) (by decide)), (fun z => absurd z (by decide)), (by unfold tkf; rw [e5, e21, e2, e25, e28, e32]; split <;> omega)⟩ (by decide) (by decide) dX12_isSign_40
  · have f34 : (0 : Int) ≤ v4 ∧ v4 ≤ (0 : Int) := ii f6 (r_eq (il 0) q18) (by decide) (by decide)
    refine g_aload_n C rfl 0 rfl dX12_isSign_7 ?_
    obtain ⟨v35, e36⟩ : ∃ z, Rv h a0 4 = z := ⟨_, rfl⟩
    have t37 := ok_R O ta0 rE_12_4 e36
    have l38 := ok_L O ta0 rE_12_4 e36
    refine gf_R C fk_LandSurveyModel_24 rfl ta0 e36 dX12_isSign_8 ?_
    refine g_aload_n C rfl 0 rfl dX12_isSign_11 ?_
    refine gf_I C fk_LandSurveyModel_317 rfl ta0 e2 dX12_isSign_12 ?_
    obtain ⟨v39, e40⟩ : ∃ z, Iv h v35 v1.toNat = z := ⟨_, rfl⟩
    have f41 := ok_Ia O t37 ar_104100 rI_104100_0 e40
    refine g_iald C t37 rfl l38 (ix f3 (by decide) (by decide)) e40 dX12_isSign_15 ?_
    refine g_iconst C dX12_isSign_16 ?_
    refine g_icmp_ne C (iw f41 (by decide) (by decide)) (iw (il 3) (by decide) (by decide)) 39 (by decide) dX12_isSign_17 (fun q42 => ?_) (fun q43 => ?_)
    · refine g_iconst C dX12_isSign_39 ?_
      obtain ⟨v44, e45⟩ : ∃ z, Rv h a0 6 = z := ⟨_, rfl⟩
      have t46 := ok_R O ta0 rE_12_6 e45
      have l47 := ok_L O ta0 rE_12_6 e45
      obtain ⟨v48, e49⟩ : ∃ z, Jv h v44 v1.toNat = z := ⟨_, rfl⟩
      have f50 := inL_J O e49
      exact g_iret C hr (nar_z2 (iw (il 0) (by decide) (by decide))).1 (iw (il 0) (by decide) (by decide)) ⟨O, Fx.rf, (iw (il 0) (by decide) (by decide)), (fun z => absurd z (by decide)), (by unfold tkf; rw [e5, e36, e2, e40, e45, e49]; split <;> omega)⟩ (by decide) (by decide) dX12_isSign_40
    · have f51 : (3 : Int) ≤ v39 ∧ v39 ≤ (3 : Int) := ii f41 (r_eq (il 3) q43) (by decide) (by decide)
      refine g_aload_n C rfl 0 rfl dX12_isSign_20 ?_
      obtain ⟨v52, e53⟩ : ∃ z, Rv h a0 6 = z := ⟨_, rfl⟩
      have t54 := ok_R O ta0 rE_12_6 e53
      have l55 := ok_L O ta0 rE_12_6 e53
      refine gf_R C fk_LandSurveyModel_30 rfl ta0 e53 dX12_isSign_21 ?_
      refine g_aload_n C rfl 0 rfl dX12_isSign_24 ?_
      refine gf_I C fk_LandSurveyModel_317 rfl ta0 e2 dX12_isSign_25 ?_
      obtain ⟨v56, e57⟩ : ∃ z, Jv h v52 v1.toNat = z := ⟨_, rfl⟩
      have f58 := inL_J O e57
      refine g_lald C t54 rfl l55 (ix f3 (by decide) (by decide)) e57 dX12_isSign_28 ?_
      refine g_iload_n C rfl 1 rfl dX12_isSign_29 ?_
      refine g_i2l C fa1 dX12_isSign_30 ?_
      refine g_lcmp C f58 (iw fa1 (by decide) (by decide)) dX12_isSign_31 ?_
      have f59 : (-1 : Int) ≤ (lC v56 a1) ∧ (lC v56 a1) ≤ (1 : Int) := lC_rng _ _
      refine g_if_ne C (iw f59 (by decide) (by decide)) 39 (by decide) dX12_isSign_32 (fun q60 => ?_) (fun q61 => ?_)
      · have q62 : ¬ v56 = a1 := fun z => q60 (lC_eq.mpr z)
        refine g_iconst C dX12_isSign_39 ?_
        exact g_iret C hr (nar_z2 (iw (il 0) (by decide) (by decide))).1 (iw (il 0) (by decide) (by decide)) ⟨O, Fx.rf, (iw (il 0) (by decide) (by decide)), (fun z => absurd z (by decide)), (by unfold tkf; rw [e5, e36, e2, e40, e53, e57]; split <;> omega)⟩ (by decide) (by decide) dX12_isSign_40
      · have q63 : v56 = a1 := lC_eq.mp q61
        have f64 : (-2147483648 : Int) ≤ v56 ∧ v56 ≤ (2147483647 : Int) := ii f58 (r_eq fa1 q63) (by decide) (by decide)
        refine g_iconst C dX12_isSign_35 ?_
        refine g_goto C 40 (by decide) dX12_isSign_36 ?_
        exact g_iret C hr (nar_z2 (iw (il 1) (by decide) (by decide))).1 (iw (il 1) (by decide) (by decide)) ⟨O, Fx.rf, (iw (il 1) (by decide) (by decide)), (fun _ => ⟨by rw [e5]; omega, by rw [e2, e15]; exact NT_lt p10 e15 (by omega) (by omega) (by rw [e36, e40]; omega)⟩), (by unfold tkf; rw [e5, e36, e2, e40, e53, e57]; split <;> omega)⟩ (by decide) (by decide) dX12_isSign_40
def wr_k_X12_isWord : List Nat := []
set_option maxRecDepth 100000 in
set_option maxHeartbeats 4000000 in
theorem k_X12_isWord (l : Launch) (D : va_G) (cy : Nat → ClassId) (w : Nat → Nat) (z0 : Nat)  {h : Hp} {a0 : Nat} {a1 : Int}  (O : Okh h) (ta0 : Tg h a0 = 12) (fa1 : 0 ≤ a1 ∧ a1 ≤ 29) (P_RD : RD h a0) : MI l D cy w z0 yX12_isWord cX12_isWord 2 (some .boolean) 0 0 0 0 [.inr (.inr a0), .inl a1] h (fun v h1 => Okh h1 ∧ Fx wr_k_X12_isWord h h1 ∧ (0 ≤ v ∧ v ≤ 1) ∧ (v = 1 → Iv h a0 8 = 0 ∧ Iv h a0 7 < NT h a0) ∧ (v = tkf 1 (Iv h a0 8) (Iv h (Rv h a0 4) (Iv h a0 7).toNat) (Jv h (Rv h a0 6) (Iv h a0 7).toNat) (Jv h (Rv h a0 9) a1.toNat))) := by
  obtain ⟨v1, e2⟩ : ∃ z, Iv h a0 7 = z := ⟨_, rfl⟩
  have f3 := ok_I O ta0 rI_12_7 e2
  obtain ⟨v4, e5⟩ : ∃ z, Iv h a0 8 = z := ⟨_, rfl⟩
  have f6 := ok_I O ta0 rI_12_8 e5
  obtain ⟨v7, e8⟩ : ∃ z, Iv h a0 28 = z := ⟨_, rfl⟩
  have f9 := ok_I O ta0 rI_12_28 e8
  obtain ⟨p10, p11, p12, p13⟩ := P_RD
  obtain ⟨v14, e15⟩ : ∃ z, NT h a0 = z := ⟨_, rfl⟩
  have f16 : (0 : Int) ≤ v14 ∧ v14 ≤ (1500 : Int) := NT_rng p10 e15
  rw [e2, e15] at p11
  rw [e5, e2, e15] at p12
  rw [e8, e2] at p13
  refine hm_go (by decide +kernel) (Nat.le_of_ble_eq_true rfl) (fun p e s m below meth c C hr hn => ?_)
  refine g_aload_n C rfl 0 rfl dX12_isWord_0 ?_
  refine gf_I C fk_LandSurveyModel_320 rfl ta0 e5 dX12_isWord_1 ?_
  refine g_if_ne C (iw f6 (by decide) (by decide)) 43 (by decide) dX12_isWord_4 (fun q17 => ?_) (fun q18 => ?_)
  · have f19 : (1 : Int) ≤ v4 ∧ v4 ≤ (24005 : Int) := r_nl f6 q17
    refine g_iconst C dX12_isWord_43 ?_
    obtain ⟨v20, e21⟩ : ∃ z, Rv h a0 4 = z := ⟨_, rfl⟩
    have t22 := ok_R O ta0 rE_12_4 e21
    have l23 := ok_L O ta0 rE_12_4 e21
    obtain ⟨v24, e25⟩ : ∃ z, Iv h v20 v1.toNat = z := ⟨_, rfl⟩
    have f26 := ok_Ia O t22 ar_104100 rI_104100_0 e25
    obtain ⟨v27, e28⟩ : ∃ z, Rv h a0 6 = z := ⟨_, rfl⟩
    have t29 := ok_R O ta0 rE_12_6 e28
    have l30 := ok_L O ta0 rE_12_6 e28
    obtain ⟨v31, e32⟩ : ∃ z, Jv h v27 v1.toNat = z := ⟨_, rfl⟩
    have f33 := inL_J O e32
    obtain ⟨v34, e35⟩ : ∃ z, Rv h a0 9 = z := ⟨_, rfl⟩
    have t36 := ok_R O ta0 rE_12_9 e35
    have l37 := ok_L O ta0 rE_12_9 e35
    obtain ⟨v38, e39⟩ : ∃ z, Jv h v34 a1.toNat = z := ⟨_, rfl⟩
    have f40 := inL_J O e39
    exact g_iret C hr (nar_z2 (iw (il 0) (by decide) (by decide))).1 (iw (il 0) (by decide) (by decide)) ⟨O, Fx.rf, (iw (il 0) (by decide) (by decide)), (fun z => absurd z (by decide)), (by unfold tkf; rw [e5, e21, e2, e25, e28, e32, e35, e39]; split <;> omega)⟩ (by decide) (by decide) dX12_isWord_44
  · have f41 : (0 : Int) ≤ v4 ∧ v4 ≤ (0 : Int) := ii f6 (r_eq (il 0) q18) (by decide) (by decide)
    refine g_aload_n C rfl 0 rfl dX12_isWord_7 ?_
    obtain ⟨v42, e43⟩ : ∃ z, Rv h a0 4 = z := ⟨_, rfl⟩
    have t44 := ok_R O ta0 rE_12_4 e43
    have l45 := ok_L O ta0 rE_12_4 e43
    refine gf_R C fk_LandSurveyModel_24 rfl ta0 e43 dX12_isWord_8 ?_
    refine g_aload_n C rfl 0 rfl dX12_isWord_11 ?_
    refine gf_I C fk_LandSurveyModel_317 rfl ta0 e2 dX12_isWord_12 ?_
    obtain ⟨v46, e47⟩ : ∃ z, Iv h v42 v1.toNat = z := ⟨_, rfl⟩
    have f48 := ok_Ia O t44 ar_104100 rI_104100_0 e47
    refine g_iald C t44 rfl l45 (ix f3 (by decide) (by decide)) e47 dX12_isWord_15 ?_
    refine g_iconst C dX12_isWord_16 ?_
    refine g_icmp_ne C (iw f48 (by decide) (by decide)) (iw (il 1) (by decide) (by decide)) 43 (by decide) dX12_isWord_17 (fun q49 => ?_) (fun q50 => ?_)
    · refine g_iconst C dX12_isWord_43 ?_
      obtain ⟨v51, e52⟩ : ∃ z, Rv h a0 6 = z := ⟨_, rfl⟩
      have t53 := ok_R O ta0 rE_12_6 e52
      have l54 := ok_L O ta0 rE_12_6 e52
      obtain ⟨v55, e56⟩ : ∃ z, Jv h v51 v1.toNat = z := ⟨_, rfl⟩
      have f57 := inL_J O e56
      obtain ⟨v58, e59⟩ : ∃ z, Rv h a0 9 = z := ⟨_, rfl⟩
      have t60 := ok_R O ta0 rE_12_9 e59
      have l61 := ok_L O ta0 rE_12_9 e59
      obtain ⟨v62, e63⟩ : ∃ z, Jv h v58 a1.toNat = z := ⟨_, rfl⟩
      have f64 := inL_J O e63
      exact g_iret C hr (nar_z2 (iw (il 0) (by decide) (by decide))).1 (iw (il 0) (by decide) (by decide)) ⟨O, Fx.rf, (iw (il 0) (by decide) (by decide)), (fun z => absurd z (by decide)), (by unfold tkf; rw [e5, e43, e2, e47, e52, e56, e59, e63]; split <;> omega)⟩ (by decide) (by decide) dX12_isWord_44
    · have f65 : (1 : Int) ≤ v46 ∧ v46 ≤ (1 : Int) := ii f48 (r_eq (il 1) q50) (by decide) (by decide)
      refine g_aload_n C rfl 0 rfl dX12_isWord_20 ?_
      obtain ⟨v66, e67⟩ : ∃ z, Rv h a0 6 = z := ⟨_, rfl⟩
      have t68 := ok_R O ta0 rE_12_6 e67
      have l69 := ok_L O ta0 rE_12_6 e67
      refine gf_R C fk_LandSurveyModel_30 rfl ta0 e67 dX12_isWord_21 ?_
      refine g_aload_n C rfl 0 rfl dX12_isWord_24 ?_
      refine gf_I C fk_LandSurveyModel_317 rfl ta0 e2 dX12_isWord_25 ?_
      obtain ⟨v70, e71⟩ : ∃ z, Jv h v66 v1.toNat = z := ⟨_, rfl⟩
      have f72 := inL_J O e71
      refine g_lald C t68 rfl l69 (ix f3 (by decide) (by decide)) e71 dX12_isWord_28 ?_
      refine g_aload_n C rfl 0 rfl dX12_isWord_29 ?_
      obtain ⟨v73, e74⟩ : ∃ z, Rv h a0 9 = z := ⟨_, rfl⟩
      have t75 := ok_R O ta0 rE_12_9 e74
      have l76 := ok_L O ta0 rE_12_9 e74
      refine gf_R C fk_LandSurveyModel_94 rfl ta0 e74 dX12_isWord_30 ?_
      refine g_iload_n C rfl 1 rfl dX12_isWord_33 ?_
      obtain ⟨v77, e78⟩ : ∃ z, Jv h v73 a1.toNat = z := ⟨_, rfl⟩
      have f79 := inL_J O e78
      refine g_lald C t75 rfl l76 (ix fa1 (by decide) (by decide)) e78 dX12_isWord_34 ?_
      refine g_lcmp C f72 f79 dX12_isWord_35 ?_
      have f80 : (-1 : Int) ≤ (lC v70 v77) ∧ (lC v70 v77) ≤ (1 : Int) := lC_rng _ _
      refine g_if_ne C (iw f80 (by decide) (by decide)) 43 (by decide) dX12_isWord_36 (fun q81 => ?_) (fun q82 => ?_)
      · have q83 : ¬ v70 = v77 := fun z => q81 (lC_eq.mpr z)
        refine g_iconst C dX12_isWord_43 ?_
        exact g_iret C hr (nar_z2 (iw (il 0) (by decide) (by decide))).1 (iw (il 0) (by decide) (by decide)) ⟨O, Fx.rf, (iw (il 0) (by decide) (by decide)), (fun z => absurd z (by decide)), (by unfold tkf; rw [e5, e43, e2, e47, e67, e71, e74, e78]; split <;> omega)⟩ (by decide) (by decide) dX12_isWord_44
      · have q84 : v70 = v77 := lC_eq.mp q82
        refine g_iconst C dX12_isWord_39 ?_
        refine g_goto C 44 (by decide) dX12_isWord_40 ?_
        exact g_iret C hr (nar_z2 (iw (il 1) (by decide) (by decide))).1 (iw (il 1) (by decide) (by decide)) ⟨O, Fx.rf, (iw (il 1) (by decide) (by decide)), (fun _ => ⟨by rw [e5]; omega, by rw [e2, e15]; exact NT_lt p10 e15 (by omega) (by omega) (by rw [e43, e47]; omega)⟩), (by unfold tkf; rw [e5, e43, e2, e47, e67, e71, e74, e78]; split <;> omega)⟩ (by decide) (by decide) dX12_isWord_44
def wr_k_X12_hasSign : List Nat := [2407]
set_option maxRecDepth 100000 in
set_option maxHeartbeats 4000000 in
theorem k_X12_hasSign (l : Launch) (D : va_G) (cy : Nat → ClassId) (w : Nat → Nat) (z0 : Nat)  {h : Hp} {a0 : Nat} {a1 : Int}  (O : Okh h) (ta0 : Tg h a0 = 12) (fa1 : (-2147483648) ≤ a1 ∧ a1 ≤ 2147483647) (P_RD : RD h a0) : MI l D cy w z0 yX12_hasSign cX12_hasSign 3 (some .boolean) 1 21 0 0 [.inr (.inr a0), .inl a1] h (fun v h1 => Okh h1 ∧ Fx wr_k_X12_hasSign h h1 ∧ (0 ≤ v ∧ v ≤ 1) ∧ (v = 1 → Iv h a0 8 = 0 ∧ Iv h a0 7 < NT h a0) ∧ (v = tkf 3 (Iv h a0 8) (Iv h (Rv h a0 4) (Iv h a0 7).toNat) (Jv h (Rv h a0 6) (Iv h a0 7).toNat) a1) ∧ (Iv h1 a0 7 = Iv h a0 7 + v)) := by
  obtain ⟨v1, e2⟩ : ∃ z, Iv h a0 7 = z := ⟨_, rfl⟩
  have f3 := ok_I O ta0 rI_12_7 e2
  obtain ⟨v4, e5⟩ : ∃ z, Iv h a0 8 = z := ⟨_, rfl⟩
  have f6 := ok_I O ta0 rI_12_8 e5
  obtain ⟨v7, e8⟩ : ∃ z, Iv h a0 28 = z := ⟨_, rfl⟩
  have f9 := ok_I O ta0 rI_12_28 e8
  obtain ⟨p10, p11, p12, p13⟩ := P_RD
  obtain ⟨v14, e15⟩ : ∃ z, NT h a0 = z := ⟨_, rfl⟩
  have f16 : (0 : Int) ≤ v14 ∧ v14 ≤ (1500 : Int) := NT_rng p10 e15
  rw [e2, e15] at p11
  rw [e5, e2, e15] at p12
  rw [e8, e2] at p13
  refine hm_go (by decide +kernel) (Nat.le_of_ble_eq_true rfl) (fun p e s m below meth c C hr hn => ?_)
  refine g_aload_n C rfl 0 rfl dX12_hasSign_0 ?_
  refine g_iload_n C rfl 1 rfl dX12_hasSign_1 ?_
  refine g_callI (st := []) (gc_V C lk_LandSurveyModel_323 (k_X12_isSign l D cy w z0 O ta0 fa1 ⟨p10, by rw [e2, e15]; omega, by rw [e5, e2, e15]; omega, by rw [e8, e2]; omega⟩) ta0 rfl rfl rfl ⟨by decide, by decide⟩ (Nat.le_of_ble_eq_true rfl) dX12_hasSign_2 ⟨(by decide), (by decide)⟩) (fun r17 h18 f20 K19 => ?_)
  obtain ⟨O21, F22, f23, p24, p25⟩ := K19
  rw [e5, e2, e15] at p24
  obtain ⟨v26, e27⟩ : ∃ z, Rv h a0 4 = z := ⟨_, rfl⟩
  have t28 := ok_R O ta0 rE_12_4 e27
  have l29 := ok_L O ta0 rE_12_4 e27
  obtain ⟨v30, e31⟩ : ∃ z, Iv h v26 v1.toNat = z := ⟨_, rfl⟩
  have f32 := ok_Ia O t28 ar_104100 rI_104100_0 e31
  obtain ⟨v33, e34⟩ : ∃ z, Rv h a0 6 = z := ⟨_, rfl⟩
  have t35 := ok_R O ta0 rE_12_6 e34
  have l36 := ok_L O ta0 rE_12_6 e34
  obtain ⟨v37, e38⟩ : ∃ z, Jv h v33 v1.toNat = z := ⟨_, rfl⟩
  have f39 := inL_J O e38
  rw [e5, e27, e2, e31, e34, e38] at p25
  refine g_istore_n C [(2, .inl r17), (0, .inr (.inr a0)), (1, .inl a1)] rfl (by decide) rfl dX12_hasSign_5 ?_
  refine g_aload_n C rfl 1 rfl dX12_hasSign_6 ?_
  refine g_dup C rfl dX12_hasSign_7 ?_
  have e40 : Tg h18 a0 = 12 := (fxT F22 ta0)
  have e41 : Iv h18 a0 7 = v1 := ((fxI F22 ta0 rfl).trans e2)
  refine gf_I C fk_LandSurveyModel_317 rfl e40 e41 dX12_hasSign_8 ?_
  refine g_iload_n C rfl 0 rfl dX12_hasSign_11 ?_
  refine g_if_eq C (iw f23 (by decide) (by decide)) 19 (by decide) dX12_hasSign_12 (fun q42 => ?_) (fun q43 => ?_)
  · have f44 : (0 : Int) ≤ r17 ∧ r17 ≤ (0 : Int) := ii f23 (r_eq (il 0) q42) (by decide) (by decide)
    refine g_iconst C dX12_hasSign_19 ?_
    have f45 : (0 : Int) ≤ (v1 + 0) ∧ (v1 + 0) ≤ (1501 : Int) := ia_add f3 (il 0) (by decide) (by decide)
    refine g_iadd C dX12_hasSign_20 ?_
    refine gp_I C fk_LandSurveyModel_317 pk_LandSurveyModel_7 rfl e40 (iw f45 (by decide) (by decide)) (nf_i _) dX12_hasSign_21 (fun h47 hh46 => ?_)
    have O48 := O21.pI e40 hh46 rI_12_7 f45 nofun
    refine g_iload_n C rfl 0 rfl dX12_hasSign_24 ?_
    exact g_iret C hr (nar_z2 (iw f44 (by decide) (by decide))).1 (iw f44 (by decide) (by decide)) ⟨O48, (((Fx.rf (wr := wr_k_X12_hasSign)).call F22 rfl).pI e40 hh46 rfl), (iw f44 (by decide) (by decide)), (by rw [e5, e2, e15]; omega), (by rw [e5, e27, e2, e31, e34, e38]; omega), (by rw [(pI_e hh46), e2]; omega)⟩ (by decide) (by decide) dX12_hasSign_25
  · have f49 : (1 : Int) ≤ r17 ∧ r17 ≤ (1 : Int) := r_nl f23 q43
    refine g_iconst C dX12_hasSign_15 ?_
    refine g_goto C 20 (by decide) dX12_hasSign_16 ?_
    have f50 : (1 : Int) ≤ (v1 + 1) ∧ (v1 + 1) ≤ (1502 : Int) := ia_add f3 (il 1) (by decide) (by decide)
    refine g_iadd C dX12_hasSign_20 ?_
    refine gp_I C fk_LandSurveyModel_317 pk_LandSurveyModel_7 rfl e40 (iw f50 (by decide) (by decide)) (nf_i _) dX12_hasSign_21 (fun h52 hh51 => ?_)
    have O53 := O21.pI e40 hh51 rI_12_7 (by omega) nofun
    refine g_iload_n C rfl 0 rfl dX12_hasSign_24 ?_
    exact g_iret C hr (nar_z2 (iw f49 (by decide) (by decide))).1 (iw f49 (by decide) (by decide)) ⟨O53, (((Fx.rf (wr := wr_k_X12_hasSign)).call F22 rfl).pI e40 hh51 rfl), (iw f49 (by decide) (by decide)), (by rw [e5, e2, e15]; omega), (by rw [e5, e27, e2, e31, e34, e38]; omega), (by rw [(pI_e hh51), e2]; omega)⟩ (by decide) (by decide) dX12_hasSign_25
def wr_k_X12_hasWord : List Nat := [2407]
set_option maxRecDepth 100000 in
set_option maxHeartbeats 4000000 in
theorem k_X12_hasWord (l : Launch) (D : va_G) (cy : Nat → ClassId) (w : Nat → Nat) (z0 : Nat)  {h : Hp} {a0 : Nat} {a1 : Int}  (O : Okh h) (ta0 : Tg h a0 = 12) (fa1 : 0 ≤ a1 ∧ a1 ≤ 29) (P_RD : RD h a0) : MI l D cy w z0 yX12_hasWord cX12_hasWord 3 (some .boolean) 1 21 0 0 [.inr (.inr a0), .inl a1] h (fun v h1 => Okh h1 ∧ Fx wr_k_X12_hasWord h h1 ∧ (0 ≤ v ∧ v ≤ 1) ∧ (v = 1 → Iv h a0 8 = 0 ∧ Iv h a0 7 < NT h a0) ∧ (v = tkf 1 (Iv h a0 8) (Iv h (Rv h a0 4) (Iv h a0 7).toNat) (Jv h (Rv h a0 6) (Iv h a0 7).toNat) (Jv h (Rv h a0 9) a1.toNat)) ∧ (Iv h1 a0 7 = Iv h a0 7 + v)) := by
  obtain ⟨v1, e2⟩ : ∃ z, Iv h a0 7 = z := ⟨_, rfl⟩
  have f3 := ok_I O ta0 rI_12_7 e2
  obtain ⟨v4, e5⟩ : ∃ z, Iv h a0 8 = z := ⟨_, rfl⟩
  have f6 := ok_I O ta0 rI_12_8 e5
  obtain ⟨v7, e8⟩ : ∃ z, Iv h a0 28 = z := ⟨_, rfl⟩
  have f9 := ok_I O ta0 rI_12_28 e8
  obtain ⟨p10, p11, p12, p13⟩ := P_RD
  obtain ⟨v14, e15⟩ : ∃ z, NT h a0 = z := ⟨_, rfl⟩
  have f16 : (0 : Int) ≤ v14 ∧ v14 ≤ (1500 : Int) := NT_rng p10 e15
  rw [e2, e15] at p11
  rw [e5, e2, e15] at p12
  rw [e8, e2] at p13
  refine hm_go (by decide +kernel) (Nat.le_of_ble_eq_true rfl) (fun p e s m below meth c C hr hn => ?_)
  refine g_aload_n C rfl 0 rfl dX12_hasWord_0 ?_
  refine g_iload_n C rfl 1 rfl dX12_hasWord_1 ?_
  refine g_callI (st := []) (gc_V C lk_LandSurveyModel_330 (k_X12_isWord l D cy w z0 O ta0 fa1 ⟨p10, by rw [e2, e15]; omega, by rw [e5, e2, e15]; omega, by rw [e8, e2]; omega⟩) ta0 rfl rfl rfl ⟨by decide, by decide⟩ (Nat.le_of_ble_eq_true rfl) dX12_hasWord_2 ⟨(by decide), (by decide)⟩) (fun r17 h18 f20 K19 => ?_)
  obtain ⟨O21, F22, f23, p24, p25⟩ := K19
  rw [e5, e2, e15] at p24
  obtain ⟨v26, e27⟩ : ∃ z, Rv h a0 4 = z := ⟨_, rfl⟩
  have t28 := ok_R O ta0 rE_12_4 e27
  have l29 := ok_L O ta0 rE_12_4 e27
  obtain ⟨v30, e31⟩ : ∃ z, Iv h v26 v1.toNat = z := ⟨_, rfl⟩
  have f32 := ok_Ia O t28 ar_104100 rI_104100_0 e31
  obtain ⟨v33, e34⟩ : ∃ z, Rv h a0 6 = z := ⟨_, rfl⟩
  have t35 := ok_R O ta0 rE_12_6 e34
  have l36 := ok_L O ta0 rE_12_6 e34
  obtain ⟨v37, e38⟩ : ∃ z, Jv h v33 v1.toNat = z := ⟨_, rfl⟩
  have f39 := inL_J O e38
  obtain ⟨v40, e41⟩ : ∃ z, Rv h a0 9 = z := ⟨_, rfl⟩
  have t42 := ok_R O ta0 rE_12_9 e41
  have l43 := ok_L O ta0 rE_12_9 e41
  obtain ⟨v44, e45⟩ : ∃ z, Jv h v40 a1.toNat = z := ⟨_, rfl⟩
  have f46 := inL_J O e45
  rw [e5, e27, e2, e31, e34, e38, e41, e45] at p25
  refine g_istore_n C [(2, .inl r17), (0, .inr (.inr a0)), (1, .inl a1)] rfl (by decide) rfl dX12_hasWord_5 ?_
  refine g_aload_n C rfl 1 rfl dX12_hasWord_6 ?_
  refine g_dup C rfl dX12_hasWord_7 ?_
  have e47 : Tg h18 a0 = 12 := (fxT F22 ta0)
  have e48 : Iv h18 a0 7 = v1 := ((fxI F22 ta0 rfl).trans e2)
  refine gf_I C fk_LandSurveyModel_317 rfl e47 e48 dX12_hasWord_8 ?_
  refine g_iload_n C rfl 0 rfl dX12_hasWord_11 ?_
  refine g_if_eq C (iw f23 (by decide) (by decide)) 19 (by decide) dX12_hasWord_12 (fun q49 => ?_) (fun q50 => ?_)
  · have f51 : (0 : Int) ≤ r17 ∧ r17 ≤ (0 : Int) := ii f23 (r_eq (il 0) q49) (by decide) (by decide)
    refine g_iconst C dX12_hasWord_19 ?_
    have f52 : (0 : Int) ≤ (v1 + 0) ∧ (v1 + 0) ≤ (1501 : Int) := ia_add f3 (il 0) (by decide) (by decide)
    refine g_iadd C dX12_hasWord_20 ?_
    refine gp_I C fk_LandSurveyModel_317 pk_LandSurveyModel_7 rfl e47 (iw f52 (by decide) (by decide)) (nf_i _) dX12_hasWord_21 (fun h54 hh53 => ?_)
    have O55 := O21.pI e47 hh53 rI_12_7 f52 nofun
    refine g_iload_n C rfl 0 rfl dX12_hasWord_24 ?_
    exact g_iret C hr (nar_z2 (iw f51 (by decide) (by decide))).1 (iw f51 (by decide) (by decide)) ⟨O55, (((Fx.rf (wr := wr_k_X12_hasWord)).call F22 rfl).pI e47 hh53 rfl), (iw f51 (by decide) (by decide)), (by rw [e5, e2, e15]; omega), (by rw [e5, e27, e2, e31, e34, e38, e41, e45]; omega), (by rw [(pI_e hh53), e2]; omega)⟩ (by decide) (by decide) dX12_hasWord_25
  · have f56 : (1 : Int) ≤ r17 ∧ r17 ≤ (1 : Int) := r_nl f23 q50
    refine g_iconst C dX12_hasWord_15 ?_
    refine g_goto C 20 (by decide) dX12_hasWord_16 ?_
    have f57 : (1 : Int) ≤ (v1 + 1) ∧ (v1 + 1) ≤ (1502 : Int) := ia_add f3 (il 1) (by decide) (by decide)
    refine g_iadd C dX12_hasWord_20 ?_
    refine gp_I C fk_LandSurveyModel_317 pk_LandSurveyModel_7 rfl e47 (iw f57 (by decide) (by decide)) (nf_i _) dX12_hasWord_21 (fun h59 hh58 => ?_)
    have O60 := O21.pI e47 hh58 rI_12_7 (by omega) nofun
    refine g_iload_n C rfl 0 rfl dX12_hasWord_24 ?_
    exact g_iret C hr (nar_z2 (iw f56 (by decide) (by decide))).1 (iw f56 (by decide) (by decide)) ⟨O60, (((Fx.rf (wr := wr_k_X12_hasWord)).call F22 rfl).pI e47 hh58 rfl), (iw f56 (by decide) (by decide)), (by rw [e5, e2, e15]; omega), (by rw [e5, e27, e2, e31, e34, e38, e41, e45]; omega), (by rw [(pI_e hh58), e2]; omega)⟩ (by decide) (by decide) dX12_hasWord_25
def wr_k_X12_takeSign : List Nat := [2407, 2408]
set_option maxRecDepth 100000 in
set_option maxHeartbeats 4000000 in
theorem k_X12_takeSign (l : Launch) (D : va_G) (cy : Nat → ClassId) (w : Nat → Nat) (z0 : Nat)  {h : Hp} {a0 : Nat} {a1 : Int}  (O : Okh h) (ta0 : Tg h a0 = 12) (fa1 : (-2147483648) ≤ a1 ∧ a1 ≤ 2147483647) (P_RD : RD h a0) : MV l D cy w z0 yX12_takeSign cX12_takeSign 2 none 1 21 0 0 [.inr (.inr a0), .inl a1] h (fun h1 => Okh h1 ∧ Fx wr_k_X12_takeSign h h1 ∧ (RD h1 a0) ∧ (ST h h1 a0) ∧ (Iv h1 a0 8 = 0 → Iv h1 a0 7 = Iv h a0 7 + 1)) := by
  obtain ⟨v1, e2⟩ : ∃ z, Iv h a0 7 = z := ⟨_, rfl⟩
  have f3 := ok_I O ta0 rI_12_7 e2
  obtain ⟨v4, e5⟩ : ∃ z, Iv h a0 8 = z := ⟨_, rfl⟩
  have f6 := ok_I O ta0 rI_12_8 e5
  obtain ⟨v7, e8⟩ : ∃ z, Iv h a0 28 = z := ⟨_, rfl⟩
  have f9 := ok_I O ta0 rI_12_28 e8
  obtain ⟨p10, p11, p12, p13⟩ := P_RD
  obtain ⟨v14, e15⟩ : ∃ z, NT h a0 = z := ⟨_, rfl⟩
  have f16 : (0 : Int) ≤ v14 ∧ v14 ≤ (1500 : Int) := NT_rng p10 e15
  rw [e2, e15] at p11
  rw [e5, e2, e15] at p12
  rw [e8, e2] at p13
  refine hm_go (by decide +kernel) (Nat.le_of_ble_eq_true rfl) (fun p e s m below meth c C hr hn => ?_)
  refine g_aload_n C rfl 0 rfl dX12_takeSign_0 ?_
  refine g_iload_n C rfl 1 rfl dX12_takeSign_1 ?_
  refine g_callI (st := []) (gc_V C lk_LandSurveyModel_323 (k_X12_isSign l D cy w z0 O ta0 fa1 ⟨p10, by rw [e2, e15]; omega, by rw [e5, e2, e15]; omega, by rw [e8, e2]; omega⟩) ta0 rfl rfl rfl ⟨by decide, by decide⟩ (Nat.le_of_ble_eq_true rfl) dX12_takeSign_2 ⟨(by decide), (by decide)⟩) (fun r17 h18 f20 K19 => ?_)
  obtain ⟨O21, F22, f23, p24, p25⟩ := K19
  rw [e5, e2, e15] at p24
  obtain ⟨v26, e27⟩ : ∃ z, Rv h a0 4 = z := ⟨_, rfl⟩
  have t28 := ok_R O ta0 rE_12_4 e27
  have l29 := ok_L O ta0 rE_12_4 e27
  obtain ⟨v30, e31⟩ : ∃ z, Iv h v26 v1.toNat = z := ⟨_, rfl⟩
  have f32 := ok_Ia O t28 ar_104100 rI_104100_0 e31
  obtain ⟨v33, e34⟩ : ∃ z, Rv h a0 6 = z := ⟨_, rfl⟩
  have t35 := ok_R O ta0 rE_12_6 e34
  have l36 := ok_L O ta0 rE_12_6 e34
  obtain ⟨v37, e38⟩ : ∃ z, Jv h v33 v1.toNat = z := ⟨_, rfl⟩
  have f39 := inL_J O e38
  rw [e5, e27, e2, e31, e34, e38] at p25
  refine g_if_eq C (iw f23 (by decide) (by decide)) 21 (by decide) dX12_takeSign_5 (fun q40 => ?_) (fun q41 => ?_)
  · have f42 : (0 : Int) ≤ r17 ∧ r17 ≤ (0 : Int) := ii f23 (r_eq (il 0) q40) (by decide) (by decide)
    refine g_aload_n C rfl 0 rfl dX12_takeSign_21 ?_
    refine g_iconst C dX12_takeSign_22 ?_
    have e43 : Tg h18 a0 = 12 := (fxT F22 ta0)
    refine g_callV (st := []) (gc_V C lk_LandSurveyModel_326 (k_X12_wrong l D cy w z0 O21 e43 (iw (il 1) (by decide) (by decide))) e43 rfl rfl rfl ⟨by decide, by decide⟩ (Nat.le_of_ble_eq_true rfl) dX12_takeSign_23 ⟨(by decide), (by decide)⟩) (fun h45 K46 => ?_)
    obtain ⟨O48, F49, p50⟩ := K46
    obtain ⟨v51, e52⟩ : ∃ z, Iv h45 a0 8 = z := ⟨_, rfl⟩
    have e53 : Tg h45 a0 = 12 := (fxT F49 e43)
    have f54 := ok_I O48 e53 rI_12_8 e52
    rw [e52] at p50
    have f55 : (1 : Int) ≤ v51 ∧ v51 ≤ (24005 : Int) := by omega
    have e56 : Iv h45 a0 7 = v1 := ((fxI F49 e43 rfl).trans ((fxI F22 ta0 rfl).trans e2))
    have e57 : Iv h45 a0 28 = v7 := ((fxI F49 e43 rfl).trans ((fxI F22 ta0 rfl).trans e8))
    have p58 := (TK_fx O21 F49 e43 rfl (TK_fx O F22 ta0 rfl p10))
    have p59 := ((NT_fx O21 F49 e43 rfl).trans ((NT_fx O F22 ta0 rfl).trans e15))
    exact g_vret C hr ⟨O48, (((Fx.rf (wr := wr_k_X12_takeSign)).call F22 rfl).call F49 rfl), ⟨p58, by rw [e56, p59]; omega, by rw [e52, e56, p59]; omega, by rw [e57, e56]; omega⟩, (by unfold ST; rw [e2, e56, e8, e57, e5, e52]; omega), (by rw [e52, e56, e2]; omega)⟩ (by decide) (by decide) dX12_takeSign_26
  · have f60 : (1 : Int) ≤ r17 ∧ r17 ≤ (1 : Int) := r_nl f23 q41
    refine g_aload_n C rfl 0 rfl dX12_takeSign_8 ?_
    refine g_dup C rfl dX12_takeSign_9 ?_
    have e61 : Tg h18 a0 = 12 := (fxT F22 ta0)
    have e62 : Iv h18 a0 7 = v1 := ((fxI F22 ta0 rfl).trans e2)
    refine gf_I C fk_LandSurveyModel_317 rfl e61 e62 dX12_takeSign_10 ?_
    refine g_iconst C dX12_takeSign_13 ?_
    have f63 : (1 : Int) ≤ (v1 + 1) ∧ (v1 + 1) ≤ (1502 : Int) := ia_add f3 (il 1) (by decide) (by decide)
    refine g_iadd C dX12_takeSign_14 ?_
    refine gp_I C fk_LandSurveyModel_317 pk_LandSurveyModel_7 rfl e61 (iw f63 (by decide) (by decide)) (nf_i _) dX12_takeSign_15 (fun h65 hh64 => ?_)
    have O66 := O21.pI e61 hh64 rI_12_7 (by omega) nofun
    refine g_goto C 26 (by decide) dX12_takeSign_18 ?_
    have e67 : Iv h65 a0 8 = v4 := ((pI_j hh64 (by decide)).trans ((fxI F22 ta0 rfl).trans e5))
    have e68 : Iv h65 a0 28 = v7 := ((pI_j hh64 (by decide)).trans ((fxI F22 ta0 rfl).trans e8))
    have p69 := (TK_fx O21 ((Fx.rf (wr := [2407]) (h := h18)).pI e61 hh64 rfl) e61 rfl (TK_fx O F22 ta0 rfl p10))
    have p70 := ((NT_fx O21 ((Fx.rf (wr := [2407]) (h := h18)).pI e61 hh64 rfl) e61 rfl).trans ((NT_fx O F22 ta0 rfl).trans e15))
    exact g_vret C hr ⟨O66, (((Fx.rf (wr := wr_k_X12_takeSign)).call F22 rfl).pI e61 hh64 rfl), ⟨p69, by rw [(pI_e hh64), p70]; omega, by rw [e67, (pI_e hh64), p70]; omega, by rw [e68, (pI_e hh64)]; omega⟩, (by unfold ST; rw [e2, (pI_e hh64), e8, e68, e5, e67]; omega), (by rw [e67, (pI_e hh64), e2]; omega)⟩ (by decide) (by decide) dX12_takeSign_26
def wr_k_X12_takeWord : List Nat := [2407, 2408]
set_option maxRecDepth 100000 in
set_option maxHeartbeats 4000000 in
theorem k_X12_takeWord (l : Launch) (D : va_G) (cy : Nat → ClassId) (w : Nat → Nat) (z0 : Nat)  {h : Hp} {a0 : Nat} {a1 : Int}  (O : Okh h) (ta0 : Tg h a0 = 12) (fa1 : 0 ≤ a1 ∧ a1 ≤ 29) (P_RD : RD h a0) : MV l D cy w z0 yX12_takeWord cX12_takeWord 2 none 2 43 0 0 [.inr (.inr a0), .inl a1] h (fun h1 => Okh h1 ∧ Fx wr_k_X12_takeWord h h1 ∧ (RD h1 a0) ∧ (ST h h1 a0) ∧ (Iv h1 a0 8 = 0 → Iv h1 a0 7 = Iv h a0 7 + 1)) := by
  obtain ⟨v1, e2⟩ : ∃ z, Iv h a0 7 = z := ⟨_, rfl⟩
  have f3 := ok_I O ta0 rI_12_7 e2
  obtain ⟨v4, e5⟩ : ∃ z, Iv h a0 8 = z := ⟨_, rfl⟩
  have f6 := ok_I O ta0 rI_12_8 e5
  obtain ⟨v7, e8⟩ : ∃ z, Iv h a0 28 = z := ⟨_, rfl⟩
  have f9 := ok_I O ta0 rI_12_28 e8
  obtain ⟨p10, p11, p12, p13⟩ := P_RD
  obtain ⟨v14, e15⟩ : ∃ z, NT h a0 = z := ⟨_, rfl⟩
  have f16 : (0 : Int) ≤ v14 ∧ v14 ≤ (1500 : Int) := NT_rng p10 e15
  rw [e2, e15] at p11
  rw [e5, e2, e15] at p12
  rw [e8, e2] at p13
  refine hm_go (by decide +kernel) (Nat.le_of_ble_eq_true rfl) (fun p e s m below meth c C hr hn => ?_)
  refine g_aload_n C rfl 0 rfl dX12_takeWord_0 ?_
  refine g_iload_n C rfl 1 rfl dX12_takeWord_1 ?_
  refine g_callI (st := []) (gc_V C lk_LandSurveyModel_333 (k_X12_hasWord l D cy w z0 O ta0 fa1 ⟨p10, by rw [e2, e15]; omega, by rw [e5, e2, e15]; omega, by rw [e8, e2]; omega⟩) ta0 rfl rfl rfl ⟨by decide, by decide⟩ (Nat.le_of_ble_eq_true rfl) dX12_takeWord_2 ⟨(by decide), (by decide)⟩) (fun r17 h18 f20 K19 => ?_)
  obtain ⟨O21, F22, f23, p24, p25, p26⟩ := K19
  rw [e5, e2, e15] at p24
  obtain ⟨v27, e28⟩ : ∃ z, Rv h a0 4 = z := ⟨_, rfl⟩
  have t29 := ok_R O ta0 rE_12_4 e28
  have l30 := ok_L O ta0 rE_12_4 e28
  obtain ⟨v31, e32⟩ : ∃ z, Iv h v27 v1.toNat = z := ⟨_, rfl⟩
  have f33 := ok_Ia O t29 ar_104100 rI_104100_0 e32
  obtain ⟨v34, e35⟩ : ∃ z, Rv h a0 6 = z := ⟨_, rfl⟩
  have t36 := ok_R O ta0 rE_12_6 e35
  have l37 := ok_L O ta0 rE_12_6 e35
  obtain ⟨v38, e39⟩ : ∃ z, Jv h v34 v1.toNat = z := ⟨_, rfl⟩
  have f40 := inL_J O e39
  obtain ⟨v41, e42⟩ : ∃ z, Rv h a0 9 = z := ⟨_, rfl⟩
  have t43 := ok_R O ta0 rE_12_9 e42
  have l44 := ok_L O ta0 rE_12_9 e42
  obtain ⟨v45, e46⟩ : ∃ z, Jv h v41 a1.toNat = z := ⟨_, rfl⟩
  have f47 := inL_J O e46
  rw [e5, e28, e2, e32, e35, e39, e42, e46] at p25
  obtain ⟨v48, e49⟩ : ∃ z, Iv h18 a0 7 = z := ⟨_, rfl⟩
  have e50 : Tg h18 a0 = 12 := (fxT F22 ta0)
  have f51 := ok_I O21 e50 rI_12_7 e49
  rw [e49, e2] at p26
  refine g_if_ne C (iw f23 (by decide) (by decide)) 13 (by decide) dX12_takeWord_5 (fun q52 => ?_) (fun q53 => ?_)
  · have f54 : (1 : Int) ≤ r17 ∧ r17 ≤ (1 : Int) := r_nl f23 q52
    have e55 : Iv h18 a0 8 = v4 := ((fxI F22 ta0 rfl).trans e5)
    have e56 : Iv h18 a0 28 = v7 := ((fxI F22 ta0 rfl).trans e8)
    have p57 := (TK_fx O F22 ta0 rfl p10)
    have p58 := ((NT_fx O F22 ta0 rfl).trans e15)
    exact g_vret C hr ⟨O21, ((Fx.rf (wr := wr_k_X12_takeWord)).call F22 rfl), ⟨p57, by rw [e49, p58]; omega, by rw [e55, e49, p58]; omega, by rw [e56, e49]; omega⟩, (by unfold ST; rw [e2, e49, e8, e56, e5, e55]; omega), (by rw [e55, e49, e2]; omega)⟩ (by decide) (by decide) dX12_takeWord_13
  · have f59 : (0 : Int) ≤ r17 ∧ r17 ≤ (0 : Int) := ii f23 (r_eq (il 0) q53) (by decide) (by decide)
    refine g_aload_n C rfl 0 rfl dX12_takeWord_8 ?_
    refine g_iconst C dX12_takeWord_9 ?_
    refine g_callV (st := []) (gc_V C lk_LandSurveyModel_326 (k_X12_wrong l D cy w z0 O21 e50 (iw (il 1) (by decide) (by decide))) e50 rfl rfl rfl ⟨by decide, by decide⟩ (Nat.le_of_ble_eq_true rfl) dX12_takeWord_10 ⟨(by decide), (by decide)⟩) (fun h61 K62 => ?_)
    obtain ⟨O64, F65, p66⟩ := K62
    obtain ⟨v67, e68⟩ : ∃ z, Iv h61 a0 8 = z := ⟨_, rfl⟩
    have e69 : Tg h61 a0 = 12 := (fxT F65 e50)
    have f70 := ok_I O64 e69 rI_12_8 e68
    rw [e68] at p66
    have f71 : (1 : Int) ≤ v67 ∧ v67 ≤ (24005 : Int) := by omega
    have e72 : Iv h61 a0 7 = v48 := ((fxI F65 e50 rfl).trans e49)
    have e73 : Iv h61 a0 28 = v7 := ((fxI F65 e50 rfl).trans ((fxI F22 ta0 rfl).trans e8))
    have p74 := (TK_fx O21 F65 e50 rfl (TK_fx O F22 ta0 rfl p10))
    have p75 := ((NT_fx O21 F65 e50 rfl).trans ((NT_fx O F22 ta0 rfl).trans e15))
    exact g_vret C hr ⟨O64, (((Fx.rf (wr := wr_k_X12_takeWord)).call F22 rfl).call F65 rfl), ⟨p74, by rw [e72, p75]; omega, by rw [e68, e72, p75]; omega, by rw [e73, e72]; omega⟩, (by unfold ST; rw [e2, e72, e8, e73, e5, e68]; omega), (by rw [e68, e72, e2]; omega)⟩ (by decide) (by decide) dX12_takeWord_13
def wr_k_X12_takeNumber : List Nat := [2407, 2408]
set_option maxRecDepth 100000 in
set_option maxHeartbeats 4000000 in
theorem k_X12_takeNumber (l : Launch) (D : va_G) (cy : Nat → ClassId) (w : Nat → Nat) (z0 : Nat)  {h : Hp} {a0 : Nat} {a1 : Int} {a2 : Int}  (O : Okh h) (ta0 : Tg h a0 = 12) (fa1 : 0 ≤ a1 ∧ a1 ≤ 200) (fa2 : 0 ≤ a2 ∧ a2 ≤ 200) (P_RD : RD h a0) : MI l D cy w z0 yX12_takeNumber cX12_takeNumber 3 (some .int) 1 21 0 0 [.inr (.inr a0), .inl a1, .inl a2] h (fun v h1 => Okh h1 ∧ Fx wr_k_X12_takeNumber h h1 ∧ (0 ≤ v ∧ v ≤ 200) ∧ (RD h1 a0) ∧ (ST h h1 a0) ∧ (v = 0 ∨ (a1 ≤ v ∧ v ≤ a2)) ∧ (Iv h1 a0 8 = 0 → Iv h1 a0 7 = Iv h a0 7 + 1)) := by
  obtain ⟨v1, e2⟩ : ∃ z, Iv h a0 7 = z := ⟨_, rfl⟩
  have f3 := ok_I O ta0 rI_12_7 e2
  obtain ⟨v4, e5⟩ : ∃ z, Iv h a0 8 = z := ⟨_, rfl⟩
  have f6 := ok_I O ta0 rI_12_8 e5
  obtain ⟨v7, e8⟩ : ∃ z, Iv h a0 28 = z := ⟨_, rfl⟩
  have f9 := ok_I O ta0 rI_12_28 e8
  obtain ⟨p10, p11, p12, p13⟩ := P_RD
  obtain ⟨v14, e15⟩ : ∃ z, NT h a0 = z := ⟨_, rfl⟩
  have f16 : (0 : Int) ≤ v14 ∧ v14 ≤ (1500 : Int) := NT_rng p10 e15
  rw [e2, e15] at p11
  rw [e5, e2, e15] at p12
  rw [e8, e2] at p13
  refine hm_go (by decide +kernel) (Nat.le_of_ble_eq_true rfl) (fun p e s m below meth c C hr hn => ?_)
  refine g_aload_n C rfl 0 rfl dX12_takeNumber_0 ?_
  refine gf_I C fk_LandSurveyModel_320 rfl ta0 e5 dX12_takeNumber_1 ?_
  refine g_if_ne C (iw f6 (by decide) (by decide)) 28 (by decide) dX12_takeNumber_4 (fun q17 => ?_) (fun q18 => ?_)
  · have f19 : (1 : Int) ≤ v4 ∧ v4 ≤ (24005 : Int) := r_nl f6 q17
    refine g_aload_n C rfl 0 rfl dX12_takeNumber_28 ?_
    refine gf_I C fk_LandSurveyModel_320 rfl ta0 e5 dX12_takeNumber_29 ?_
    refine g_if_ne C (iw f19 (by decide) (by decide)) 70 (by decide) dX12_takeNumber_32 (fun q20 => ?_) (fun q21 => ?_)
    · refine g_aload_n C rfl 0 rfl dX12_takeNumber_70 ?_
      refine gf_I C fk_LandSurveyModel_320 rfl ta0 e5 dX12_takeNumber_71 ?_
      refine g_if_le C (iw f19 (by decide) (by decide)) 79 (by decide) dX12_takeNumber_74 (fun q22 => ?_) (fun q23 => ?_)
      · exact (no_le f19 (il 0) q22 (by decide)).elim
      · refine g_iconst C dX12_takeNumber_77 ?_
        exact g_iret C hr rfl (iw (il 0) (by decide) (by decide)) ⟨O, Fx.rf, (iw (il 0) (by decide) (by decide)), ⟨p10, by rw [e2, e15]; omega, by rw [e5, e2, e15]; omega, by rw [e8, e2]; omega⟩, ST_rf, (by omega), (by rw [e5, e2]; omega)⟩ (by decide) (by decide) dX12_takeNumber_78
    · exact (no_eq f19 (il 0) q21 (by decide)).elim
  · have f24 : (0 : Int) ≤ v4 ∧ v4 ≤ (0 : Int) := ii f6 (r_eq (il 0) q18) (by decide) (by decide)
    refine g_aload_n C rfl 0 rfl dX12_takeNumber_7 ?_
    obtain ⟨v25, e26⟩ : ∃ z, Rv h a0 4 = z := ⟨_, rfl⟩
    have t27 := ok_R O ta0 rE_12_4 e26
    have l28 := ok_L O ta0 rE_12_4 e26
    refine gf_R C fk_LandSurveyModel_24 rfl ta0 e26 dX12_takeNumber_8 ?_
    refine g_aload_n C rfl 0 rfl dX12_takeNumber_11 ?_
    refine gf_I C fk_LandSurveyModel_317 rfl ta0 e2 dX12_takeNumber_12 ?_
    obtain ⟨v29, e30⟩ : ∃ z, Iv h v25 v1.toNat = z := ⟨_, rfl⟩
    have f31 := ok_Ia O t27 ar_104100 rI_104100_0 e30
    refine g_iald C t27 rfl l28 (ix f3 (by decide) (by decide)) e30 dX12_takeNumber_15 ?_
    refine g_iconst C dX12_takeNumber_16 ?_
    refine g_icmp_eq C (iw f31 (by decide) (by decide)) (iw (il 2) (by decide) (by decide)) 28 (by decide) dX12_takeNumber_17 (fun q32 => ?_) (fun q33 => ?_)
    · have f34 : (2 : Int) ≤ v29 ∧ v29 ≤ (2 : Int) := ii f31 (r_eq (il 2) q32) (by decide) (by decide)
      refine g_aload_n C rfl 0 rfl dX12_takeNumber_28 ?_
      refine gf_I C fk_LandSurveyModel_320 rfl ta0 e5 dX12_takeNumber_29 ?_
      refine g_if_ne C (iw f24 (by decide) (by decide)) 70 (by decide) dX12_takeNumber_32 (fun q35 => ?_) (fun q36 => ?_)
      · exact (no_ne f24 (il 0) q35 (by decide)).elim
      · refine g_aload_n C rfl 0 rfl dX12_takeNumber_35 ?_
        obtain ⟨v37, e38⟩ : ∃ z, Rv h a0 6 = z := ⟨_, rfl⟩
        have t39 := ok_R O ta0 rE_12_6 e38
        have l40 := ok_L O ta0 rE_12_6 e38
        refine gf_R C fk_LandSurveyModel_30 rfl ta0 e38 dX12_takeNumber_36 ?_
        refine g_aload_n C rfl 0 rfl dX12_takeNumber_39 ?_
        refine gf_I C fk_LandSurveyModel_317 rfl ta0 e2 dX12_takeNumber_40 ?_
        obtain ⟨v41, e42⟩ : ∃ z, Jv h v37 v1.toNat = z := ⟨_, rfl⟩
        have f43 := inL_J O e42
        refine g_lald C t39 rfl l40 (ix f3 (by decide) (by decide)) e42 dX12_takeNumber_43 ?_
        refine g_iload_n C rfl 1 rfl dX12_takeNumber_44 ?_
        refine g_i2l C (iw fa1 (by decide) (by decide)) dX12_takeNumber_45 ?_
        refine g_lcmp C f43 (iw fa1 (by decide) (by decide)) dX12_takeNumber_46 ?_
        have f44 : (-1 : Int) ≤ (lC v41 a1) ∧ (lC v41 a1) ≤ (1 : Int) := lC_rng _ _
        refine g_if_lt C (iw f44 (by decide) (by decide)) 65 (by decide) dX12_takeNumber_47 (fun q45 => ?_) (fun q46 => ?_)
        · have q47 : v41 < a1 := lC_lt.mp q45
          have f48 : (-9223372036854775808 : Int) ≤ v41 ∧ v41 ≤ (199 : Int) := r_lt f43 fa1 q47 (by decide) (by decide)
          refine g_aload_n C rfl 0 rfl dX12_takeNumber_65 ?_
          refine g_iconst C dX12_takeNumber_66 ?_
          refine g_callV (st := []) (gc_V C lk_LandSurveyModel_326 (k_X12_wrong l D cy w z0 O ta0 (iw (il 4) (by decide) (by decide))) ta0 rfl rfl rfl ⟨by decide, by decide⟩ (Nat.le_of_ble_eq_true rfl) dX12_takeNumber_67 ⟨(by decide), (by decide)⟩) (fun h50 K51 => ?_)
          obtain ⟨O53, F54, p55⟩ := K51
          obtain ⟨v56, e57⟩ : ∃ z, Iv h50 a0 8 = z := ⟨_, rfl⟩
          have e58 : Tg h50 a0 = 12 := (fxT F54 ta0)
          have f59 := ok_I O53 e58 rI_12_8 e57
          rw [e57] at p55
          have f60 : (1 : Int) ≤ v56 ∧ v56 ≤ (24005 : Int) := by omega
          refine g_aload_n C rfl 0 rfl dX12_takeNumber_70 ?_
          refine gf_I C fk_LandSurveyModel_320 rfl e58 e57 dX12_takeNumber_71 ?_
          refine g_if_le C (iw f60 (by decide) (by decide)) 79 (by decide) dX12_takeNumber_74 (fun q61 => ?_) (fun q62 => ?_)
          · exact (no_le f60 (il 0) q61 (by decide)).elim
          · refine g_iconst C dX12_takeNumber_77 ?_
            have e63 : Iv h50 a0 7 = v1 := ((fxI F54 ta0 rfl).trans e2)
            have e64 : Iv h50 a0 28 = v7 := ((fxI F54 ta0 rfl).trans e8)
            have p65 := (TK_fx O F54 ta0 rfl p10)
            have p66 := ((NT_fx O F54 ta0 rfl).trans e15)
            exact g_iret C hr rfl (iw (il 0) (by decide) (by decide)) ⟨O53, ((Fx.rf (wr := wr_k_X12_takeNumber)).call F54 rfl), (iw (il 0) (by decide) (by decide)), ⟨p65, by rw [e63, p66]; omega, by rw [e57, e63, p66]; omega, by rw [e64, e63]; omega⟩, (by unfold ST; rw [e2, e63, e8, e64, e5, e57]; omega), (by omega), (by rw [e57, e63, e2]; omega)⟩ (by decide) (by decide) dX12_takeNumber_78
        · have q67 : a1 ≤ v41 := lC_ge.mp q46
          have f68 : (0 : Int) ≤ v41 ∧ v41 ≤ (9223372036854775807 : Int) := r_ge f43 fa1 q67 (by decide) (by decide)
          refine g_aload_n C rfl 0 rfl dX12_takeNumber_50 ?_
          refine gf_R C fk_LandSurveyModel_30 rfl ta0 e38 dX12_takeNumber_51 ?_
          refine g_aload_n C rfl 0 rfl dX12_takeNumber_54 ?_
          refine gf_I C fk_LandSurveyModel_317 rfl ta0 e2 dX12_takeNumber_55 ?_
          refine g_lald C t39 rfl l40 (ix f3 (by decide) (by decide)) e42 dX12_takeNumber_58 ?_
          refine g_iload_n C rfl 2 rfl dX12_takeNumber_59 ?_
          refine g_i2l C (iw fa2 (by decide) (by decide)) dX12_takeNumber_60 ?_
          refine g_lcmp C (iw f68 (by decide) (by decide)) (iw fa2 (by decide) (by decide)) dX12_takeNumber_61 ?_
          have f69 : (-1 : Int) ≤ (lC v41 a2) ∧ (lC v41 a2) ≤ (1 : Int) := lC_rng _ _
          refine g_if_le C (iw f69 (by decide) (by decide)) 70 (by decide) dX12_takeNumber_62 (fun q70 => ?_) (fun q71 => ?_)
          · have q72 : v41 ≤ a2 := lC_le.mp q70
            have f73 : (0 : Int) ≤ v41 ∧ v41 ≤ (200 : Int) := r_le f68 fa2 q72 (by decide) (by decide)
            refine g_aload_n C rfl 0 rfl dX12_takeNumber_70 ?_
            refine gf_I C fk_LandSurveyModel_320 rfl ta0 e5 dX12_takeNumber_71 ?_
            refine g_if_le C (iw f24 (by decide) (by decide)) 79 (by decide) dX12_takeNumber_74 (fun q74 => ?_) (fun q75 => ?_)
            · have z76 : ¬ v29 = 0 → v1 < v14 := fun hs => NT_lt p10 e15 (a := v1) (by omega) (by omega) (by rw [e26, e30]; exact hs)
              refine g_aload_n C rfl 0 rfl dX12_takeNumber_79 ?_
              refine g_dup C rfl dX12_takeNumber_80 ?_
              refine gf_I C fk_LandSurveyModel_317 rfl ta0 e2 dX12_takeNumber_81 ?_
              refine g_iconst C dX12_takeNumber_84 ?_
              have f77 : (1 : Int) ≤ (v1 + 1) ∧ (v1 + 1) ≤ (1502 : Int) := ia_add f3 (il 1) (by decide) (by decide)
              refine g_iadd C dX12_takeNumber_85 ?_
              refine gp_I C fk_LandSurveyModel_317 pk_LandSurveyModel_7 rfl ta0 (iw f77 (by decide) (by decide)) (nf_i _) dX12_takeNumber_86 (fun h79 hh78 => ?_)
              have O80 := O.pI ta0 hh78 rI_12_7 (by omega) nofun
              refine g_aload_n C rfl 0 rfl dX12_takeNumber_89 ?_
              have e81 : Tg h79 a0 = 12 := ((pIT hh78).trans ta0)
              have e82 : Rv h79 a0 6 = v37 := ((pIR hh78).trans e38)
              refine gf_R C fk_LandSurveyModel_30 rfl e81 e82 dX12_takeNumber_90 ?_
              refine g_aload_n C rfl 0 rfl dX12_takeNumber_93 ?_
              refine gf_I C fk_LandSurveyModel_317 rfl e81 (pI_e hh78) dX12_takeNumber_94 ?_
              refine g_iconst C dX12_takeNumber_97 ?_
              have f83 : (0 : Int) ≤ ((v1 + 1) - 1) ∧ ((v1 + 1) - 1) ≤ (1501 : Int) := ia_sub f77 (il 1) (by decide) (by decide)
              refine g_isub C dX12_takeNumber_98 ?_
              rw [show ((v1 + 1) - 1 : Int) = v1 by omega]
              have e84 : Tg h79 v37 = 106102 := ((pIT hh78).trans t39)
              have e85 : Ln h79 v37 = 1502 := ((pIL hh78).trans l40)
              have e86 : Jv h79 v37 v1.toNat = v41 := ((pIJ hh78).trans e42)
              refine g_lald C e84 rfl e85 (ix f3 (by decide) (by decide)) e86 dX12_takeNumber_99 ?_
              have f87 : (0 : Int) ≤ v41 ∧ v41 ≤ (200 : Int) := by omega
              have z88 := l2w_eq (iw f87 (by decide) (by decide))
              refine g_l2i C dX12_takeNumber_100 ?_
              have f89 : (0 : Int) ≤ (l2w v41) ∧ (l2w v41) ≤ (200 : Int) := l2w_in f87 (by decide) (by decide)
              have e90 : Iv h79 a0 8 = v4 := ((pI_j hh78 (by decide)).trans e5)
              have e91 : Iv h79 a0 28 = v7 := ((pI_j hh78 (by decide)).trans e8)
              have p92 := (TK_fx O ((Fx.rf (wr := [2407]) (h := h)).pI ta0 hh78 rfl) ta0 rfl p10)
              have p93 := ((NT_fx O ((Fx.rf (wr := [2407]) (h := h)).pI ta0 hh78 rfl) ta0 rfl).trans e15)
              exact g_iret C hr rfl (iw f89 (by decide) (by decide)) ⟨O80, ((Fx.rf (wr := wr_k_X12_takeNumber)).pI ta0 hh78 rfl), f89, ⟨p92, by rw [(pI_e hh78), p93]; omega, by rw [e90, (pI_e hh78), p93]; omega, by rw [e91, (pI_e hh78)]; omega⟩, (by unfold ST; rw [e2, (pI_e hh78), e8, e91, e5, e90]; omega), (by omega), (by rw [e90, (pI_e hh78), e2]; omega)⟩ (by decide) (by decide) dX12_takeNumber_101
            · exact (no_lt (il 0) f24 q75 (by decide)).elim
          · have q94 : a2 < v41 := lC_gt.mp q71
            have f95 : (1 : Int) ≤ v41 ∧ v41 ≤ (9223372036854775807 : Int) := r_gt f68 fa2 q94 (by decide) (by decide)
            refine g_aload_n C rfl 0 rfl dX12_takeNumber_65 ?_
            refine g_iconst C dX12_takeNumber_66 ?_
            refine g_callV (st := []) (gc_V C lk_LandSurveyModel_326 (k_X12_wrong l D cy w z0 O ta0 (iw (il 4) (by decide) (by decide))) ta0 rfl rfl rfl ⟨by decide, by decide⟩ (Nat.le_of_ble_eq_true rfl) dX12_takeNumber_67 ⟨(by decide), (by decide)⟩) (fun h97 K98 => ?_)
            obtain ⟨O100, F101, p102⟩ := K98
            obtain ⟨v103, e104⟩ : ∃ z, Iv h97 a0 8 = z := ⟨_, rfl⟩
            have e105 : Tg h97 a0 = 12 := (fxT F101 ta0)
            have f106 := ok_I O100 e105 rI_12_8 e104
            rw [e104] at p102
            have f107 : (1 : Int) ≤ v103 ∧ v103 ≤ (24005 : Int) := by omega
            refine g_aload_n C rfl 0 rfl dX12_takeNumber_70 ?_
            refine gf_I C fk_LandSurveyModel_320 rfl e105 e104 dX12_takeNumber_71 ?_
            refine g_if_le C (iw f107 (by decide) (by decide)) 79 (by decide) dX12_takeNumber_74 (fun q108 => ?_) (fun q109 => ?_)
            · exact (no_le f107 (il 0) q108 (by decide)).elim
            · refine g_iconst C dX12_takeNumber_77 ?_
              have e110 : Iv h97 a0 7 = v1 := ((fxI F101 ta0 rfl).trans e2)
              have e111 : Iv h97 a0 28 = v7 := ((fxI F101 ta0 rfl).trans e8)
              have p112 := (TK_fx O F101 ta0 rfl p10)
              have p113 := ((NT_fx O F101 ta0 rfl).trans e15)
              exact g_iret C hr rfl (iw (il 0) (by decide) (by decide)) ⟨O100, ((Fx.rf (wr := wr_k_X12_takeNumber)).call F101 rfl), (iw (il 0) (by decide) (by decide)), ⟨p112, by rw [e110, p113]; omega, by rw [e104, e110, p113]; omega, by rw [e111, e110]; omega⟩, (by unfold ST; rw [e2, e110, e8, e111, e5, e104]; omega), (by omega), (by rw [e104, e110, e2]; omega)⟩ (by decide) (by decide) dX12_takeNumber_78
    · refine g_aload_n C rfl 0 rfl dX12_takeNumber_20 ?_
      refine g_iconst C dX12_takeNumber_21 ?_
      refine g_callV (st := []) (gc_V C lk_LandSurveyModel_326 (k_X12_wrong l D cy w z0 O ta0 (iw (il 1) (by decide) (by decide))) ta0 rfl rfl rfl ⟨by decide, by decide⟩ (Nat.le_of_ble_eq_true rfl) dX12_takeNumber_22 ⟨(by decide), (by decide)⟩) (fun h115 K116 => ?_)
      obtain ⟨O118, F119, p120⟩ := K116
      obtain ⟨v121, e122⟩ : ∃ z, Iv h115 a0 8 = z := ⟨_, rfl⟩
      have e123 : Tg h115 a0 = 12 := (fxT F119 ta0)
      have f124 := ok_I O118 e123 rI_12_8 e122
      rw [e122] at p120
      have f125 : (1 : Int) ≤ v121 ∧ v121 ≤ (24005 : Int) := by omega
      refine g_goto C 70 (by decide) dX12_takeNumber_25 ?_
      refine g_aload_n C rfl 0 rfl dX12_takeNumber_70 ?_
      refine gf_I C fk_LandSurveyModel_320 rfl e123 e122 dX12_takeNumber_71 ?_
      refine g_if_le C (iw f125 (by decide) (by decide)) 79 (by decide) dX12_takeNumber_74 (fun q126 => ?_) (fun q127 => ?_)
      · exact (no_le f125 (il 0) q126 (by decide)).elim
      · refine g_iconst C dX12_takeNumber_77 ?_
        have e128 : Iv h115 a0 7 = v1 := ((fxI F119 ta0 rfl).trans e2)
        have e129 : Iv h115 a0 28 = v7 := ((fxI F119 ta0 rfl).trans e8)
        have p130 := (TK_fx O F119 ta0 rfl p10)
        have p131 := ((NT_fx O F119 ta0 rfl).trans e15)
        exact g_iret C hr rfl (iw (il 0) (by decide) (by decide)) ⟨O118, ((Fx.rf (wr := wr_k_X12_takeNumber)).call F119 rfl), (iw (il 0) (by decide) (by decide)), ⟨p130, by rw [e128, p131]; omega, by rw [e122, e128, p131]; omega, by rw [e129, e128]; omega⟩, (by unfold ST; rw [e2, e128, e8, e129, e5, e122]; omega), (by omega), (by rw [e122, e128, e2]; omega)⟩ (by decide) (by decide) dX12_takeNumber_78
def wr_k_X12_isName : List Nat := []
set_option maxRecDepth 100000 in
set_option maxHeartbeats 4000000 in
theorem k_X12_isName (l : Launch) (D : va_G) (cy : Nat → ClassId) (w : Nat → Nat) (z0 : Nat)  {h : Hp} {a0 : Nat}  (O : Okh h) (ta0 : Tg h a0 = 12) (P_RD : RD h a0) : MI l D cy w z0 yX12_isName cX12_isName 3 (some .boolean) 0 0 0 0 [.inr (.inr a0)] h (fun v h1 => Okh h1 ∧ Fx wr_k_X12_isName h h1 ∧ (0 ≤ v ∧ v ≤ 1) ∧ (v = 1 → Iv h a0 8 = 0 ∧ Iv h a0 7 < NT h a0)) := by
  obtain ⟨v1, e2⟩ : ∃ z, Iv h a0 7 = z := ⟨_, rfl⟩
  have f3 := ok_I O ta0 rI_12_7 e2
  obtain ⟨v4, e5⟩ : ∃ z, Iv h a0 8 = z := ⟨_, rfl⟩
  have f6 := ok_I O ta0 rI_12_8 e5
  obtain ⟨v7, e8⟩ : ∃ z, Iv h a0 28 = z := ⟨_, rfl⟩
  have f9 := ok_I O ta0 rI_12_28 e8
  obtain ⟨p10, p11, p12, p13⟩ := P_RD
  obtain ⟨v14, e15⟩ : ∃ z, NT h a0 = z := ⟨_, rfl⟩
  have f16 : (0 : Int) ≤ v14 ∧ v14 ≤ (1500 : Int) := NT_rng p10 e15
  rw [e2, e15] at p11
  rw [e5, e2, e15] at p12
  rw [e8, e2] at p13
  refine hm_go (by decide +kernel) (Nat.le_of_ble_eq_true rfl) (fun p e s m below meth c C hr hn => ?_)
  refine g_aload_n C rfl 0 rfl dX12_isName_0 ?_
  refine gf_I C fk_LandSurveyModel_320 rfl ta0 e5 dX12_isName_1 ?_
  refine g_if_ne C (iw f6 (by decide) (by decide)) 24 (by decide) dX12_isName_4 (fun q17 => ?_) (fun q18 => ?_)
  · have f19 : (1 : Int) ≤ v4 ∧ v4 ≤ (24005 : Int) := r_nl f6 q17
    refine g_iconst C dX12_isName_24 ?_
    refine g_istore_n C [(1, .inl 0), (0, .inr (.inr a0))] rfl (by decide) rfl dX12_isName_25 ?_
    refine g_iconst C dX12_isName_26 ?_
    refine g_istore_n C [(2, .inl 0), (1, .inl 0), (0, .inr (.inr a0))] rfl (by decide) rfl dX12_isName_27 ?_
    refine GW.sub [2, 1, 0] rfl ?_
    -- loop at 28
    have L22 : ∀ (μ : Nat) (x20 : Int) (x21 : Int), (30 - x21).toNat = μ → ((0 : Int) ≤ x20 ∧ x20 ≤ (1 : Int)) → ((0 : Int) ≤ x21 ∧ x21 ≤ (30 : Int)) → (x20 = 1 → Iv h a0 8 = 0 ∧ Iv h a0 7 < NT h a0) → GW p l e (rmm 0 0 0 0) s m (List.map toV [.inr (.inr a0)]).toArray below meth c D cy z0 3 (MQ below (QI D cy z0 (fun v h1 => Okh h1 ∧ Fx wr_k_X12_isName h h1 ∧ (0 ≤ v ∧ v ≤ 1) ∧ (v = 1 → Iv h a0 8 = 0 ∧ Iv h a0 7 < NT h a0))) (List.map toV [.inr (.inr a0)]).toArray s 0 0 (Aof z0)) 28 [(0, .inr (.inr a0)), (1, .inl x20), (2, .inl x21)] [] h 0 0 := by
      intro μ
      induction μ using Nat.strongRecOn with
      | ind μ ih23 =>
        intro x20 x21 hm24 f25 f26 p27
        rw [e5, e2, e15] at p27
        refine g_iload_n C rfl 2 rfl dX12_isName_28 ?_
        refine g_bipush C (by decide) dX12_isName_29 ?_
        refine g_icmp_ge C (iw f26 (by decide) (by decide)) (iw (il 30) (by decide) (by decide)) 69 (by decide) dX12_isName_31 (fun q28 => ?_) (fun q29 => ?_)
        · have f30 : (30 : Int) ≤ x21 ∧ x21 ≤ (30 : Int) := r_ge f26 (il 30) q28 (by decide) (by decide)
          refine g_iload_n C rfl 1 rfl dX12_isName_69 ?_
          exact g_iret C hr (nar_z2 f25).1 (iw f25 (by decide) (by decide)) ⟨O, Fx.rf, f25, (by rw [e5, e2, e15]; omega)⟩ (by decide) (by decide) dX12_isName_70
        · have f31 : (0 : Int) ≤ x21 ∧ x21 ≤ (29 : Int) := r_lt f26 (il 30) q29 (by decide) (by decide)
          refine g_iload_n C rfl 1 rfl dX12_isName_34 ?_
          refine g_if_eq C (iw f25 (by decide) (by decide)) 61 (by decide) dX12_isName_35 (fun q32 => ?_) (fun q33 => ?_)
          · have f34 : (0 : Int) ≤ x20 ∧ x20 ≤ (0 : Int) := ii f25 (r_eq (il 0) q32) (by decide) (by decide)
            refine g_iconst C dX12_isName_61 ?_
            refine g_istore_n C [(1, .inl 0), (0, .inr (.inr a0)), (2, .inl x21)] rfl (by decide) rfl dX12_isName_62 ?_
            have f35 : (1 : Int) ≤ (x21 + 1) ∧ (x21 + 1) ≤ (30 : Int) := ia_add f31 (il 1) (by decide) (by decide)
            refine g_iinc C [(2, .inl (x21 + 1)), (1, .inl 0), (0, .inr (.inr a0))] 2 rfl (by decide) rfl dX12_isName_63 ?_
            refine g_goto C 28 (by decide) dX12_isName_66 ?_
            refine GW.sub [2, 1, 0] rfl ?_
            exact ih23 _ (by omega) 0 (x21 + 1) rfl (iw (il 0) (by decide) (by decide)) (iw f35 (by decide) (by decide)) (by rw [e5, e2, e15]; omega)
          · have f36 : (1 : Int) ≤ x20 ∧ x20 ≤ (1 : Int) := r_nl f25 q33
            refine g_aload_n C rfl 0 rfl dX12_isName_38 ?_
            obtain ⟨v37, e38⟩ : ∃ z, Rv h a0 6 = z := ⟨_, rfl⟩
            have t39 := ok_R O ta0 rE_12_6 e38
            have l40 := ok_L O ta0 rE_12_6 e38
            refine gf_R C fk_LandSurveyModel_30 rfl ta0 e38 dX12_isName_39 ?_
            refine g_aload_n C rfl 0 rfl dX12_isName_42 ?_
            refine gf_I C fk_LandSurveyModel_317 rfl ta0 e2 dX12_isName_43 ?_
            obtain ⟨v41, e42⟩ : ∃ z, Jv h v37 v1.toNat = z := ⟨_, rfl⟩
            have f43 := inL_J O e42
            refine g_lald C t39 rfl l40 (ix f3 (by decide) (by decide)) e42 dX12_isName_46 ?_
            refine g_aload_n C rfl 0 rfl dX12_isName_47 ?_
            obtain ⟨v44, e45⟩ : ∃ z, Rv h a0 9 = z := ⟨_, rfl⟩
            have t46 := ok_R O ta0 rE_12_9 e45
            have l47 := ok_L O ta0 rE_12_9 e45
            refine gf_R C fk_LandSurveyModel_94 rfl ta0 e45 dX12_isName_48 ?_
            refine g_iload_n C rfl 2 rfl dX12_isName_51 ?_
            obtain ⟨v48, e49⟩ : ∃ z, Jv h v44 x21.toNat = z := ⟨_, rfl⟩
            have f50 := inL_J O e49
            refine g_lald C t46 rfl l47 (ix f31 (by decide) (by decide)) e49 dX12_isName_52 ?_
            refine g_lcmp C f43 f50 dX12_isName_53 ?_
            have f51 : (-1 : Int) ≤ (lC v41 v48) ∧ (lC v41 v48) ≤ (1 : Int) := lC_rng _ _
            refine g_if_eq C (iw f51 (by decide) (by decide)) 61 (by decide) dX12_isName_54 (fun q52 => ?_) (fun q53 => ?_)
            · have q54 : v41 = v48 := lC_eq.mp q52
              refine g_iconst C dX12_isName_61 ?_
              refine g_istore_n C [(1, .inl 0), (0, .inr (.inr a0)), (2, .inl x21)] rfl (by decide) rfl dX12_isName_62 ?_
              have f55 : (1 : Int) ≤ (x21 + 1) ∧ (x21 + 1) ≤ (30 : Int) := ia_add f31 (il 1) (by decide) (by decide)
              refine g_iinc C [(2, .inl (x21 + 1)), (1, .inl 0), (0, .inr (.inr a0))] 2 rfl (by decide) rfl dX12_isName_63 ?_
              refine g_goto C 28 (by decide) dX12_isName_66 ?_
              refine GW.sub [2, 1, 0] rfl ?_
              exact ih23 _ (by omega) 0 (x21 + 1) rfl (iw (il 0) (by decide) (by decide)) (iw f55 (by decide) (by decide)) (by rw [e5, e2, e15]; omega)
            · have q56 : ¬ v41 = v48 := fun z => q53 (lC_eq.mpr z)
              refine g_iconst C dX12_isName_57 ?_
              refine g_goto C 62 (by decide) dX12_isName_58 ?_
              refine g_istore_n C [(1, .inl 1), (0, .inr (.inr a0)), (2, .inl x21)] rfl (by decide) rfl dX12_isName_62 ?_
              have f57 : (1 : Int) ≤ (x21 + 1) ∧ (x21 + 1) ≤ (30 : Int) := ia_add f31 (il 1) (by decide) (by decide)
              refine g_iinc C [(2, .inl (x21 + 1)), (1, .inl 1), (0, .inr (.inr a0))] 2 rfl (by decide) rfl dX12_isName_63 ?_
              refine g_goto C 28 (by decide) dX12_isName_66 ?_
              refine GW.sub [2, 1, 0] rfl ?_
              exact ih23 _ (by omega) 1 (x21 + 1) rfl (iw (il 1) (by decide) (by decide)) (iw f57 (by decide) (by decide)) (by rw [e5, e2, e15]; omega)
    exact L22 _ 0 0 rfl (iw (il 0) (by decide) (by decide)) (iw (il 0) (by decide) (by decide)) (fun z => absurd z (by decide))
  · have f58 : (0 : Int) ≤ v4 ∧ v4 ≤ (0 : Int) := ii f6 (r_eq (il 0) q18) (by decide) (by decide)
    refine g_aload_n C rfl 0 rfl dX12_isName_7 ?_
    obtain ⟨v59, e60⟩ : ∃ z, Rv h a0 4 = z := ⟨_, rfl⟩
    have t61 := ok_R O ta0 rE_12_4 e60
    have l62 := ok_L O ta0 rE_12_4 e60
    refine gf_R C fk_LandSurveyModel_24 rfl ta0 e60 dX12_isName_8 ?_
    refine g_aload_n C rfl 0 rfl dX12_isName_11 ?_
    refine gf_I C fk_LandSurveyModel_317 rfl ta0 e2 dX12_isName_12 ?_
    obtain ⟨v63, e64⟩ : ∃ z, Iv h v59 v1.toNat = z := ⟨_, rfl⟩
    have f65 := ok_Ia O t61 ar_104100 rI_104100_0 e64
    refine g_iald C t61 rfl l62 (ix f3 (by decide) (by decide)) e64 dX12_isName_15 ?_
    refine g_iconst C dX12_isName_16 ?_
    refine g_icmp_ne C (iw f65 (by decide) (by decide)) (iw (il 1) (by decide) (by decide)) 24 (by decide) dX12_isName_17 (fun q66 => ?_) (fun q67 => ?_)
    · refine g_iconst C dX12_isName_24 ?_
      refine g_istore_n C [(1, .inl 0), (0, .inr (.inr a0))] rfl (by decide) rfl dX12_isName_25 ?_
      refine g_iconst C dX12_isName_26 ?_
      refine g_istore_n C [(2, .inl 0), (1, .inl 0), (0, .inr (.inr a0))] rfl (by decide) rfl dX12_isName_27 ?_
      refine GW.sub [2, 1, 0] rfl ?_
      -- loop at 28
      have L70 : ∀ (μ : Nat) (x68 : Int) (x69 : Int), (30 - x69).toNat = μ → ((0 : Int) ≤ x68 ∧ x68 ≤ (1 : Int)) → ((0 : Int) ≤ x69 ∧ x69 ≤ (30 : Int)) → (x68 = 1 → Iv h a0 8 = 0 ∧ Iv h a0 7 < NT h a0) → GW p l e (rmm 0 0 0 0) s m (List.map toV [.inr (.inr a0)]).toArray below meth c D cy z0 3 (MQ below (QI D cy z0 (fun v h1 => Okh h1 ∧ Fx wr_k_X12_isName h h1 ∧ (0 ≤ v ∧ v ≤ 1) ∧ (v = 1 → Iv h a0 8 = 0 ∧ Iv h a0 7 < NT h a0))) (List.map toV [.inr (.inr a0)]).toArray s 0 0 (Aof z0)) 28 [(0, .inr (.inr a0)), (1, .inl x68), (2, .inl x69)] [] h 0 0 := by
        intro μ
        induction μ using Nat.strongRecOn with
        | ind μ ih71 =>
          intro x68 x69 hm72 f73 f74 p75
          rw [e5, e2, e15] at p75
          refine g_iload_n C rfl 2 rfl dX12_isName_28 ?_
          refine g_bipush C (by decide) dX12_isName_29 ?_
          refine g_icmp_ge C (iw f74 (by decide) (by decide)) (iw (il 30) (by decide) (by decide)) 69 (by decide) dX12_isName_31 (fun q76 => ?_) (fun q77 => ?_)
          · have f78 : (30 : Int) ≤ x69 ∧ x69 ≤ (30 : Int) := r_ge f74 (il 30) q76 (by decide) (by decide)
            refine g_iload_n C rfl 1 rfl dX12_isName_69 ?_
            exact g_iret C hr (nar_z2 f73).1 (iw f73 (by decide) (by decide)) ⟨O, Fx.rf, f73, (by rw [e5, e2, e15]; omega)⟩ (by decide) (by decide) dX12_isName_70
          · have f79 : (0 : Int) ≤ x69 ∧ x69 ≤ (29 : Int) := r_lt f74 (il 30) q77 (by decide) (by decide)
            refine g_iload_n C rfl 1 rfl dX12_isName_34 ?_
            refine g_if_eq C (iw f73 (by decide) (by decide)) 61 (by decide) dX12_isName_35 (fun q80 => ?_) (fun q81 => ?_)
            · have f82 : (0 : Int) ≤ x68 ∧ x68 ≤ (0 : Int) := ii f73 (r_eq (il 0) q80) (by decide) (by decide)
              refine g_iconst C dX12_isName_61 ?_
              refine g_istore_n C [(1, .inl 0), (0, .inr (.inr a0)), (2, .inl x69)] rfl (by decide) rfl dX12_isName_62 ?_
              have f83 : (1 : Int) ≤ (x69 + 1) ∧ (x69 + 1) ≤ (30 : Int) := ia_add f79 (il 1) (by decide) (by decide)
              refine g_iinc C [(2, .inl (x69 + 1)), (1, .inl 0), (0, .inr (.inr a0))] 2 rfl (by decide) rfl dX12_isName_63 ?_
              refine g_goto C 28 (by decide) dX12_isName_66 ?_
              refine GW.sub [2, 1, 0] rfl ?_
              exact ih71 _ (by omega) 0 (x69 + 1) rfl (iw (il 0) (by decide) (by decide)) (iw f83 (by decide) (by decide)) (by rw [e5, e2, e15]; omega)
            · have f84 : (1 : Int) ≤ x68 ∧ x68 ≤ (1 : Int) := r_nl f73 q81
              refine g_aload_n C rfl 0 rfl dX12_isName_38 ?_
              obtain ⟨v85, e86⟩ : ∃ z, Rv h a0 6 = z := ⟨_, rfl⟩
              have t87 := ok_R O ta0 rE_12_6 e86
              have l88 := ok_L O ta0 rE_12_6 e86
              refine gf_R C fk_LandSurveyModel_30 rfl ta0 e86 dX12_isName_39 ?_
              refine g_aload_n C rfl 0 rfl dX12_isName_42 ?_
              refine gf_I C fk_LandSurveyModel_317 rfl ta0 e2 dX12_isName_43 ?_
              obtain ⟨v89, e90⟩ : ∃ z, Jv h v85 v1.toNat = z := ⟨_, rfl⟩
              have f91 := inL_J O e90
              refine g_lald C t87 rfl l88 (ix f3 (by decide) (by decide)) e90 dX12_isName_46 ?_
              refine g_aload_n C rfl 0 rfl dX12_isName_47 ?_
              obtain ⟨v92, e93⟩ : ∃ z, Rv h a0 9 = z := ⟨_, rfl⟩
              have t94 := ok_R O ta0 rE_12_9 e93
              have l95 := ok_L O ta0 rE_12_9 e93
              refine gf_R C fk_LandSurveyModel_94 rfl ta0 e93 dX12_isName_48 ?_
              refine g_iload_n C rfl 2 rfl dX12_isName_51 ?_
              obtain ⟨v96, e97⟩ : ∃ z, Jv h v92 x69.toNat = z := ⟨_, rfl⟩
              have f98 := inL_J O e97
              refine g_lald C t94 rfl l95 (ix f79 (by decide) (by decide)) e97 dX12_isName_52 ?_
              refine g_lcmp C f91 f98 dX12_isName_53 ?_
              have f99 : (-1 : Int) ≤ (lC v89 v96) ∧ (lC v89 v96) ≤ (1 : Int) := lC_rng _ _
              refine g_if_eq C (iw f99 (by decide) (by decide)) 61 (by decide) dX12_isName_54 (fun q100 => ?_) (fun q101 => ?_)
              · have q102 : v89 = v96 := lC_eq.mp q100
                refine g_iconst C dX12_isName_61 ?_
                refine g_istore_n C [(1, .inl 0), (0, .inr (.inr a0)), (2, .inl x69)] rfl (by decide) rfl dX12_isName_62 ?_
                have f103 : (1 : Int) ≤ (x69 + 1) ∧ (x69 + 1) ≤ (30 : Int) := ia_add f79 (il 1) (by decide) (by decide)
                refine g_iinc C [(2, .inl (x69 + 1)), (1, .inl 0), (0, .inr (.inr a0))] 2 rfl (by decide) rfl dX12_isName_63 ?_
                refine g_goto C 28 (by decide) dX12_isName_66 ?_
                refine GW.sub [2, 1, 0] rfl ?_
                exact ih71 _ (by omega) 0 (x69 + 1) rfl (iw (il 0) (by decide) (by decide)) (iw f103 (by decide) (by decide)) (by rw [e5, e2, e15]; omega)
              · have q104 : ¬ v89 = v96 := fun z => q101 (lC_eq.mpr z)
                refine g_iconst C dX12_isName_57 ?_
                refine g_goto C 62 (by decide) dX12_isName_58 ?_
                refine g_istore_n C [(1, .inl 1), (0, .inr (.inr a0)), (2, .inl x69)] rfl (by decide) rfl dX12_isName_62 ?_
                have f105 : (1 : Int) ≤ (x69 + 1) ∧ (x69 + 1) ≤ (30 : Int) := ia_add f79 (il 1) (by decide) (by decide)
                refine g_iinc C [(2, .inl (x69 + 1)), (1, .inl 1), (0, .inr (.inr a0))] 2 rfl (by decide) rfl dX12_isName_63 ?_
                refine g_goto C 28 (by decide) dX12_isName_66 ?_
                refine GW.sub [2, 1, 0] rfl ?_
                exact ih71 _ (by omega) 1 (x69 + 1) rfl (iw (il 1) (by decide) (by decide)) (iw f105 (by decide) (by decide)) (by rw [e5, e2, e15]; omega)
      exact L70 _ 0 0 rfl (iw (il 0) (by decide) (by decide)) (iw (il 0) (by decide) (by decide)) (fun z => absurd z (by decide))
    · have f106 : (1 : Int) ≤ v63 ∧ v63 ≤ (1 : Int) := ii f65 (r_eq (il 1) q67) (by decide) (by decide)
      refine g_iconst C dX12_isName_20 ?_
      refine g_goto C 25 (by decide) dX12_isName_21 ?_
      refine g_istore_n C [(1, .inl 1), (0, .inr (.inr a0))] rfl (by decide) rfl dX12_isName_25 ?_
      refine g_iconst C dX12_isName_26 ?_
      refine g_istore_n C [(2, .inl 0), (1, .inl 1), (0, .inr (.inr a0))] rfl (by decide) rfl dX12_isName_27 ?_
      refine GW.sub [2, 1, 0] rfl ?_
      -- loop at 28
      have L109 : ∀ (μ : Nat) (x107 : Int) (x108 : Int), (30 - x108).toNat = μ → ((0 : Int) ≤ x107 ∧ x107 ≤ (1 : Int)) → ((0 : Int) ≤ x108 ∧ x108 ≤ (30 : Int)) → (x107 = 1 → Iv h a0 8 = 0 ∧ Iv h a0 7 < NT h a0) → GW p l e (rmm 0 0 0 0) s m (List.map toV [.inr (.inr a0)]).toArray below meth c D cy z0 3 (MQ below (QI D cy z0 (fun v h1 => Okh h1 ∧ Fx wr_k_X12_isName h h1 ∧ (0 ≤ v ∧ v ≤ 1) ∧ (v = 1 → Iv h a0 8 = 0 ∧ Iv h a0 7 < NT h a0))) (List.map toV [.inr (.inr a0)]).toArray s 0 0 (Aof z0)) 28 [(0, .inr (.inr a0)), (1, .inl x107), (2, .inl x108)] [] h 0 0 := by
        intro μ
        induction μ using Nat.strongRecOn with
        | ind μ ih110 =>
          intro x107 x108 hm111 f112 f113 p114
          rw [e5, e2, e15] at p114
          refine g_iload_n C rfl 2 rfl dX12_isName_28 ?_
          refine g_bipush C (by decide) dX12_isName_29 ?_
          refine g_icmp_ge C (iw f113 (by decide) (by decide)) (iw (il 30) (by decide) (by decide)) 69 (by decide) dX12_isName_31 (fun q115 => ?_) (fun q116 => ?_)
          · have f117 : (30 : Int) ≤ x108 ∧ x108 ≤ (30 : Int) := r_ge f113 (il 30) q115 (by decide) (by decide)
            refine g_iload_n C rfl 1 rfl dX12_isName_69 ?_
            exact g_iret C hr (nar_z2 f112).1 (iw f112 (by decide) (by decide)) ⟨O, Fx.rf, f112, (by rw [e5, e2, e15]; omega)⟩ (by decide) (by decide) dX12_isName_70
          · have f118 : (0 : Int) ≤ x108 ∧ x108 ≤ (29 : Int) := r_lt f113 (il 30) q116 (by decide) (by decide)
            refine g_iload_n C rfl 1 rfl dX12_isName_34 ?_
            refine g_if_eq C (iw f112 (by decide) (by decide)) 61 (by decide) dX12_isName_35 (fun q119 => ?_) (fun q120 => ?_)
            · have f121 : (0 : Int) ≤ x107 ∧ x107 ≤ (0 : Int) := ii f112 (r_eq (il 0) q119) (by decide) (by decide)
              refine g_iconst C dX12_isName_61 ?_
              refine g_istore_n C [(1, .inl 0), (0, .inr (.inr a0)), (2, .inl x108)] rfl (by decide) rfl dX12_isName_62 ?_
              have f122 : (1 : Int) ≤ (x108 + 1) ∧ (x108 + 1) ≤ (30 : Int) := ia_add f118 (il 1) (by decide) (by decide)
              refine g_iinc C [(2, .inl (x108 + 1)), (1, .inl 0), (0, .inr (.inr a0))] 2 rfl (by decide) rfl dX12_isName_63 ?_
              refine g_goto C 28 (by decide) dX12_isName_66 ?_
              refine GW.sub [2, 1, 0] rfl ?_
              exact ih110 _ (by omega) 0 (x108 + 1) rfl (iw (il 0) (by decide) (by decide)) (iw f122 (by decide) (by decide)) (by rw [e5, e2, e15]; omega)
            · have f123 : (1 : Int) ≤ x107 ∧ x107 ≤ (1 : Int) := r_nl f112 q120
              refine g_aload_n C rfl 0 rfl dX12_isName_38 ?_
              obtain ⟨v124, e125⟩ : ∃ z, Rv h a0 6 = z := ⟨_, rfl⟩
              have t126 := ok_R O ta0 rE_12_6 e125
              have l127 := ok_L O ta0 rE_12_6 e125
              refine gf_R C fk_LandSurveyModel_30 rfl ta0 e125 dX12_isName_39 ?_
              refine g_aload_n C rfl 0 rfl dX12_isName_42 ?_
              refine gf_I C fk_LandSurveyModel_317 rfl ta0 e2 dX12_isName_43 ?_
              obtain ⟨v128, e129⟩ : ∃ z, Jv h v124 v1.toNat = z := ⟨_, rfl⟩
              have f130 := inL_J O e129
              refine g_lald C t126 rfl l127 (ix f3 (by decide) (by decide)) e129 dX12_isName_46 ?_
              refine g_aload_n C rfl 0 rfl dX12_isName_47 ?_
              obtain ⟨v131, e132⟩ : ∃ z, Rv h a0 9 = z := ⟨_, rfl⟩
              have t133 := ok_R O ta0 rE_12_9 e132
              have l134 := ok_L O ta0 rE_12_9 e132
              refine gf_R C fk_LandSurveyModel_94 rfl ta0 e132 dX12_isName_48 ?_
              refine g_iload_n C rfl 2 rfl dX12_isName_51 ?_
              obtain ⟨v135, e136⟩ : ∃ z, Jv h v131 x108.toNat = z := ⟨_, rfl⟩
              have f137 := inL_J O e136
              refine g_lald C t133 rfl l134 (ix f118 (by decide) (by decide)) e136 dX12_isName_52 ?_
              refine g_lcmp C f130 f137 dX12_isName_53 ?_
              have f138 : (-1 : Int) ≤ (lC v128 v135) ∧ (lC v128 v135) ≤ (1 : Int) := lC_rng _ _
              refine g_if_eq C (iw f138 (by decide) (by decide)) 61 (by decide) dX12_isName_54 (fun q139 => ?_) (fun q140 => ?_)
              · have q141 : v128 = v135 := lC_eq.mp q139
                refine g_iconst C dX12_isName_61 ?_
                refine g_istore_n C [(1, .inl 0), (0, .inr (.inr a0)), (2, .inl x108)] rfl (by decide) rfl dX12_isName_62 ?_
                have f142 : (1 : Int) ≤ (x108 + 1) ∧ (x108 + 1) ≤ (30 : Int) := ia_add f118 (il 1) (by decide) (by decide)
                refine g_iinc C [(2, .inl (x108 + 1)), (1, .inl 0), (0, .inr (.inr a0))] 2 rfl (by decide) rfl dX12_isName_63 ?_
                refine g_goto C 28 (by decide) dX12_isName_66 ?_
                refine GW.sub [2, 1, 0] rfl ?_
                exact ih110 _ (by omega) 0 (x108 + 1) rfl (iw (il 0) (by decide) (by decide)) (iw f142 (by decide) (by decide)) (by rw [e5, e2, e15]; omega)
              · have q143 : ¬ v128 = v135 := fun z => q140 (lC_eq.mpr z)
                refine g_iconst C dX12_isName_57 ?_
                refine g_goto C 62 (by decide) dX12_isName_58 ?_
                refine g_istore_n C [(1, .inl 1), (0, .inr (.inr a0)), (2, .inl x108)] rfl (by decide) rfl dX12_isName_62 ?_
                have f144 : (1 : Int) ≤ (x108 + 1) ∧ (x108 + 1) ≤ (30 : Int) := ia_add f118 (il 1) (by decide) (by decide)
                refine g_iinc C [(2, .inl (x108 + 1)), (1, .inl 1), (0, .inr (.inr a0))] 2 rfl (by decide) rfl dX12_isName_63 ?_
                refine g_goto C 28 (by decide) dX12_isName_66 ?_
                refine GW.sub [2, 1, 0] rfl ?_
                exact ih110 _ (by omega) 1 (x108 + 1) rfl (iw (il 1) (by decide) (by decide)) (iw f144 (by decide) (by decide)) (by rw [e5, e2, e15]; omega)
      exact L109 _ 1 0 rfl (iw (il 1) (by decide) (by decide)) (iw (il 0) (by decide) (by decide)) (fun _ => ⟨by rw [e5]; omega, by rw [e2, e15]; exact NT_lt p10 e15 (by omega) (by omega) (by rw [e60, e64]; omega)⟩)
def wr_k_X12_findRock : List Nat := []
set_option maxRecDepth 100000 in
set_option maxHeartbeats 4000000 in
theorem k_X12_findRock (l : Launch) (D : va_G) (cy : Nat → ClassId) (w : Nat → Nat) (z0 : Nat)  {h : Hp} {a0 : Nat}  (O : Okh h) (ta0 : Tg h a0 = 12) : MI l D cy w z0 yX12_findRock cX12_findRock 3 (some .int) 0 0 0 0 [.inr (.inr a0)] h (fun v h1 => Okh h1 ∧ Fx wr_k_X12_findRock h h1 ∧ ((-1) ≤ v ∧ v ≤ 9)) := by
  refine hm_go (by decide +kernel) (Nat.le_of_ble_eq_true rfl) (fun p e s m below meth c C hr hn => ?_)
  refine g_iconst C dX12_findRock_0 ?_
  refine g_istore_n C [(1, .inl (-1)), (0, .inr (.inr a0))] rfl (by decide) rfl dX12_findRock_1 ?_
  refine g_iconst C dX12_findRock_2 ?_
  refine g_istore_n C [(2, .inl 0), (1, .inl (-1)), (0, .inr (.inr a0))] rfl (by decide) rfl dX12_findRock_3 ?_
  refine GW.sub [2, 1, 0] rfl ?_
  -- loop at 4
  have L3 : ∀ (μ : Nat) (x1 : Int) (x2 : Int), (10 - x2).toNat = μ → ((-1 : Int) ≤ x1 ∧ x1 ≤ (9 : Int)) → ((0 : Int) ≤ x2 ∧ x2 ≤ (10 : Int)) → GW p l e (rmm 0 0 0 0) s m (List.map toV [.inr (.inr a0)]).toArray below meth c D cy z0 3 (MQ below (QI D cy z0 (fun v h1 => Okh h1 ∧ Fx wr_k_X12_findRock h h1 ∧ ((-1) ≤ v ∧ v ≤ 9))) (List.map toV [.inr (.inr a0)]).toArray s 0 0 (Aof z0)) 4 [(0, .inr (.inr a0)), (1, .inl x1), (2, .inl x2)] [] h 0 0 := by
    intro μ
    induction μ using Nat.strongRecOn with
    | ind μ ih4 =>
      intro x1 x2 hm5 f6 f7
      refine g_iload_n C rfl 2 rfl dX12_findRock_4 ?_
      refine g_aload_n C rfl 0 rfl dX12_findRock_5 ?_
      obtain ⟨v8, e9⟩ : ∃ z, Rv h a0 12 = z := ⟨_, rfl⟩
      have t10 := ok_R O ta0 rE_12_12 e9
      have l11 := ok_L O ta0 rE_12_12 e9
      refine gf_R C fk_LandSurveyModel_100 rfl ta0 e9 dX12_findRock_6 ?_
      refine g_bipush C (by decide) dX12_findRock_9 ?_
      obtain ⟨v12, e13⟩ : ∃ z, Iv h v8 ((8 : Int).toNat) = z := ⟨_, rfl⟩
      have f14 := ok_Ia O t10 ar_112100 rI_112100_0 e13
      refine g_iald C t10 rfl l11 (ix (il 8) (by decide) (by decide)) e13 dX12_findRock_11 ?_
      refine g_icmp_ge C (iw f7 (by decide) (by decide)) (iw f14 (by decide) (by decide)) 49 (by decide) dX12_findRock_12 (fun q15 => ?_) (fun q16 => ?_)
      · refine g_iload_n C rfl 1 rfl dX12_findRock_49 ?_
        exact g_iret C hr rfl (iw f6 (by decide) (by decide)) ⟨O, Fx.rf, f6⟩ (by decide) (by decide) dX12_findRock_50
      · have f17 : (0 : Int) ≤ x2 ∧ x2 ≤ (9 : Int) := r_lt f7 f14 q16 (by decide) (by decide)
        have f18 : (1 : Int) ≤ v12 ∧ v12 ≤ (10 : Int) := r_gt f14 f7 q16 (by decide) (by decide)
        refine g_aload_n C rfl 0 rfl dX12_findRock_15 ?_
        obtain ⟨v19, e20⟩ : ∃ z, Rv h a0 13 = z := ⟨_, rfl⟩
        have t21 := ok_R O ta0 rE_12_13 e20
        have l22 := ok_L O ta0 rE_12_13 e20
        refine gf_R C fk_LandSurveyModel_103 rfl ta0 e20 dX12_findRock_16 ?_
        refine g_bipush C (by decide) dX12_findRock_19 ?_
        refine g_iload_n C rfl 2 rfl dX12_findRock_21 ?_
        have f23 : (80 : Int) ≤ (80 + x2) ∧ (80 + x2) ≤ (89 : Int) := ia_add (il 80) f17 (by decide) (by decide)
        refine g_iadd C dX12_findRock_22 ?_
        obtain ⟨v24, e25⟩ : ∃ z, Jv h v19 ((80 + x2).toNat) = z := ⟨_, rfl⟩
        have f26 := inL_J O e25
        refine g_lald C t21 rfl l22 (ix f23 (by decide) (by decide)) e25 dX12_findRock_23 ?_
        refine g_aload_n C rfl 0 rfl dX12_findRock_24 ?_
        obtain ⟨v27, e28⟩ : ∃ z, Rv h a0 6 = z := ⟨_, rfl⟩
        have t29 := ok_R O ta0 rE_12_6 e28
        have l30 := ok_L O ta0 rE_12_6 e28
        refine gf_R C fk_LandSurveyModel_30 rfl ta0 e28 dX12_findRock_25 ?_
        refine g_aload_n C rfl 0 rfl dX12_findRock_28 ?_
        obtain ⟨v31, e32⟩ : ∃ z, Iv h a0 7 = z := ⟨_, rfl⟩
        have f33 := ok_I O ta0 rI_12_7 e32
        refine gf_I C fk_LandSurveyModel_317 rfl ta0 e32 dX12_findRock_29 ?_
        obtain ⟨v34, e35⟩ : ∃ z, Jv h v27 v31.toNat = z := ⟨_, rfl⟩
        have f36 := inL_J O e35
        refine g_lald C t29 rfl l30 (ix f33 (by decide) (by decide)) e35 dX12_findRock_32 ?_
        refine g_lcmp C f26 f36 dX12_findRock_33 ?_
        have f37 : (-1 : Int) ≤ (lC v24 v34) ∧ (lC v24 v34) ≤ (1 : Int) := lC_rng _ _
        refine g_if_ne C (iw f37 (by decide) (by decide)) 41 (by decide) dX12_findRock_34 (fun q38 => ?_) (fun q39 => ?_)
        · have q40 : ¬ v24 = v34 := fun z => q38 (lC_eq.mpr z)
          refine g_iload_n C rfl 1 rfl dX12_findRock_41 ?_
          refine g_istore_n C [(1, .inl x1), (0, .inr (.inr a0)), (2, .inl x2)] rfl (by decide) rfl dX12_findRock_42 ?_
          have f41 : (1 : Int) ≤ (x2 + 1) ∧ (x2 + 1) ≤ (10 : Int) := ia_add f17 (il 1) (by decide) (by decide)
          refine g_iinc C [(2, .inl (x2 + 1)), (1, .inl x1), (0, .inr (.inr a0))] 2 rfl (by decide) rfl dX12_findRock_43 ?_
          refine g_goto C 4 (by decide) dX12_findRock_46 ?_
          refine GW.sub [2, 1, 0] rfl ?_
          exact ih4 _ (by omega) x1 (x2 + 1) rfl f6 (iw f41 (by decide) (by decide))
        · have q42 : v24 = v34 := lC_eq.mp q39
          refine g_iload_n C rfl 2 rfl dX12_findRock_37 ?_
          refine g_goto C 42 (by decide) dX12_findRock_38 ?_
          refine g_istore_n C [(1, .inl x2), (0, .inr (.inr a0)), (2, .inl x2)] rfl (by decide) rfl dX12_findRock_42 ?_
          have f43 : (1 : Int) ≤ (x2 + 1) ∧ (x2 + 1) ≤ (10 : Int) := ia_add f17 (il 1) (by decide) (by decide)
          refine g_iinc C [(2, .inl (x2 + 1)), (1, .inl x2), (0, .inr (.inr a0))] 2 rfl (by decide) rfl dX12_findRock_43 ?_
          refine g_goto C 4 (by decide) dX12_findRock_46 ?_
          refine GW.sub [2, 1, 0] rfl ?_
          exact ih4 _ (by omega) x2 (x2 + 1) rfl (iw f17 (by decide) (by decide)) (iw f43 (by decide) (by decide))
  exact L3 _ (-1) 0 rfl (iw (il (-1)) (by decide) (by decide)) (iw (il 0) (by decide) (by decide))
def wr_k_X12_takeRock : List Nat := [2407, 2408]
set_option maxRecDepth 100000 in
set_option maxHeartbeats 4000000 in
theorem k_X12_takeRock (l : Launch) (D : va_G) (cy : Nat → ClassId) (w : Nat → Nat) (z0 : Nat)  {h : Hp} {a0 : Nat}  (O : Okh h) (ta0 : Tg h a0 = 12) (P_RD : RD h a0) : MI l D cy w z0 yX12_takeRock cX12_takeRock 2 (some .int) 1 22 0 0 [.inr (.inr a0)] h (fun v h1 => Okh h1 ∧ Fx wr_k_X12_takeRock h h1 ∧ (0 ≤ v ∧ v ≤ 9) ∧ (RD h1 a0) ∧ (ST h h1 a0)) := by
  obtain ⟨v1, e2⟩ : ∃ z, Iv h a0 7 = z := ⟨_, rfl⟩
  have f3 := ok_I O ta0 rI_12_7 e2
  obtain ⟨v4, e5⟩ : ∃ z, Iv h a0 8 = z := ⟨_, rfl⟩
  have f6 := ok_I O ta0 rI_12_8 e5
  obtain ⟨v7, e8⟩ : ∃ z, Iv h a0 28 = z := ⟨_, rfl⟩
  have f9 := ok_I O ta0 rI_12_28 e8
  obtain ⟨p10, p11, p12, p13⟩ := P_RD
  obtain ⟨v14, e15⟩ : ∃ z, NT h a0 = z := ⟨_, rfl⟩
  have f16 : (0 : Int) ≤ v14 ∧ v14 ≤ (1500 : Int) := NT_rng p10 e15
  rw [e2, e15] at p11
  rw [e5, e2, e15] at p12
  rw [e8, e2] at p13
  refine hm_go (by decide +kernel) (Nat.le_of_ble_eq_true rfl) (fun p e s m below meth c C hr hn => ?_)
  refine g_aload_n C rfl 0 rfl dX12_takeRock_0 ?_
  refine gf_I C fk_LandSurveyModel_320 rfl ta0 e5 dX12_takeRock_1 ?_
  refine g_if_le C (iw f6 (by decide) (by decide)) 9 (by decide) dX12_takeRock_4 (fun q17 => ?_) (fun q18 => ?_)
  · have f19 : (0 : Int) ≤ v4 ∧ v4 ≤ (0 : Int) := r_le f6 (il 0) q17 (by decide) (by decide)
    refine g_aload_n C rfl 0 rfl dX12_takeRock_9 ?_
    refine g_callI (st := []) (gc_V C lk_LandSurveyModel_357 (k_X12_isName l D cy w z0 O ta0 ⟨p10, by rw [e2, e15]; omega, by rw [e5, e2, e15]; omega, by rw [e8, e2]; omega⟩) ta0 rfl rfl rfl ⟨by decide, by decide⟩ (Nat.le_of_ble_eq_true rfl) dX12_takeRock_10 ⟨(by decide), (by decide)⟩) (fun r20 h21 f23 K22 => ?_)
    obtain ⟨O24, F25, f26, p27⟩ := K22
    rw [e5, e2, e15] at p27
    refine g_if_eq C (iw f26 (by decide) (by decide)) 23 (by decide) dX12_takeRock_13 (fun q28 => ?_) (fun q29 => ?_)
    · have f30 : (0 : Int) ≤ r20 ∧ r20 ≤ (0 : Int) := ii f26 (r_eq (il 0) q28) (by decide) (by decide)
      refine g_iconst C dX12_takeRock_23 ?_
      refine g_istore_n C [(1, .inl (-1)), (0, .inr (.inr a0))] rfl (by decide) rfl dX12_takeRock_24 ?_
      refine g_aload_n C rfl 1 rfl dX12_takeRock_25 ?_
      have e31 : Tg h21 a0 = 12 := (fxT F25 ta0)
      have e32 : Iv h21 a0 7 = v1 := ((fxI F25 ta0 rfl).trans e2)
      have e33 : Iv h21 a0 8 = v4 := ((fxI F25 ta0 rfl).trans e5)
      have e34 : Iv h21 a0 28 = v7 := ((fxI F25 ta0 rfl).trans e8)
      have p35 := (TK_fx O F25 ta0 rfl p10)
      have p36 := ((NT_fx O F25 ta0 rfl).trans e15)
      refine g_callI (st := []) (gc_V C lk_LandSurveyModel_357 (k_X12_isName l D cy w z0 O24 e31 ⟨p35, by rw [e32, p36]; omega, by rw [e33, e32, p36]; omega, by rw [e34, e32]; omega⟩) e31 rfl rfl rfl ⟨by decide, by decide⟩ (Nat.le_of_ble_eq_true rfl) dX12_takeRock_26 ⟨(by decide), (by decide)⟩) (fun r37 h38 f40 K39 => ?_)
      obtain ⟨O41, F42, f43, p44⟩ := K39
      rw [e33, e32, p36] at p44
      refine g_if_ne C (iw f43 (by decide) (by decide)) 40 (by decide) dX12_takeRock_29 (fun q45 => ?_) (fun q46 => ?_)
      · have f47 : (1 : Int) ≤ r37 ∧ r37 ≤ (1 : Int) := r_nl f43 q45
        refine g_iload_n C rfl 0 rfl dX12_takeRock_40 ?_
        refine g_if_ge C (iw (il (-1)) (by decide) (by decide)) 49 (by decide) dX12_takeRock_41 (fun q48 => ?_) (fun q49 => ?_)
        · exact (no_le (il 0) (il (-1)) q48 (by decide)).elim
        · refine g_aload_n C rfl 1 rfl dX12_takeRock_44 ?_
          refine g_iconst C dX12_takeRock_45 ?_
          have e50 : Tg h38 a0 = 12 := (fxT F42 e31)
          refine g_callV (st := []) (gc_V C lk_LandSurveyModel_326 (k_X12_wrong l D cy w z0 O41 e50 (iw (il 2) (by decide) (by decide))) e50 rfl rfl rfl ⟨by decide, by decide⟩ (Nat.le_of_ble_eq_true rfl) dX12_takeRock_46 ⟨(by decide), (by decide)⟩) (fun h52 K53 => ?_)
          obtain ⟨O55, F56, p57⟩ := K53
          obtain ⟨v58, e59⟩ : ∃ z, Iv h52 a0 8 = z := ⟨_, rfl⟩
          have e60 : Tg h52 a0 = 12 := (fxT F56 e50)
          have f61 := ok_I O55 e60 rI_12_8 e59
          rw [e59] at p57
          have f62 : (1 : Int) ≤ v58 ∧ v58 ≤ (24005 : Int) := by omega
          refine g_aload_n C rfl 1 rfl dX12_takeRock_49 ?_
          refine g_dup C rfl dX12_takeRock_50 ?_
          have e63 : Iv h52 a0 7 = v1 := ((fxI F56 e50 rfl).trans ((fxI F42 e31 rfl).trans e32))
          refine gf_I C fk_LandSurveyModel_317 rfl e60 e63 dX12_takeRock_51 ?_
          refine g_aload_n C rfl 1 rfl dX12_takeRock_54 ?_
          refine gf_I C fk_LandSurveyModel_320 rfl e60 e59 dX12_takeRock_55 ?_
          refine g_if_ne C (iw f62 (by decide) (by decide)) 65 (by decide) dX12_takeRock_58 (fun q64 => ?_) (fun q65 => ?_)
          · refine g_iconst C dX12_takeRock_65 ?_
            have f66 : (0 : Int) ≤ (v1 + 0) ∧ (v1 + 0) ≤ (1501 : Int) := ia_add f3 (il 0) (by decide) (by decide)
            refine g_iadd C dX12_takeRock_66 ?_
            refine gp_I C fk_LandSurveyModel_317 pk_LandSurveyModel_7 rfl e60 (iw f66 (by decide) (by decide)) (nf_i _) dX12_takeRock_67 (fun h68 hh67 => ?_)
            have O69 := O55.pI e60 hh67 rI_12_7 f66 nofun
            refine g_aload_n C rfl 1 rfl dX12_takeRock_70 ?_
            have e70 : Tg h68 a0 = 12 := ((pIT hh67).trans e60)
            have e71 : Iv h68 a0 8 = v58 := ((pI_j hh67 (by decide)).trans e59)
            refine gf_I C fk_LandSurveyModel_320 rfl e70 e71 dX12_takeRock_71 ?_
            refine g_if_le C (iw f62 (by decide) (by decide)) 81 (by decide) dX12_takeRock_74 (fun q72 => ?_) (fun q73 => ?_)
            · exact (no_le f62 (il 0) q72 (by decide)).elim
            · refine g_iconst C dX12_takeRock_77 ?_
              refine g_goto C 82 (by decide) dX12_takeRock_78 ?_
              have e74 : Iv h68 a0 28 = v7 := ((pI_j hh67 (by decide)).trans ((fxI F56 e50 rfl).trans ((fxI F42 e31 rfl).trans e34)))
              have p75 := (TK_fx O55 ((Fx.rf (wr := [2407]) (h := h52)).pI e60 hh67 rfl) e60 rfl (TK_fx O41 F56 e50 rfl (TK_fx O24 F42 e31 rfl p35)))
              have p76 := ((NT_fx O55 ((Fx.rf (wr := [2407]) (h := h52)).pI e60 hh67 rfl) e60 rfl).trans ((NT_fx O41 F56 e50 rfl).trans ((NT_fx O24 F42 e31 rfl).trans p36)))
              exact g_iret C hr rfl (iw (il 0) (by decide) (by decide)) ⟨O69, (((((Fx.rf (wr := wr_k_X12_takeRock)).call F25 rfl).call F42 rfl).call F56 rfl).pI e60 hh67 rfl), (iw (il 0) (by decide) (by decide)), ⟨p75, by rw [(pI_e hh67), p76]; omega, by rw [e71, (pI_e hh67), p76]; omega, by rw [e74, (pI_e hh67)]; omega⟩, (by unfold ST; rw [e2, (pI_e hh67), e8, e74, e5, e71]; omega)⟩ (by decide) (by decide) dX12_takeRock_82
          · exact (no_eq f62 (il 0) q65 (by decide)).elim
      · have f77 : (0 : Int) ≤ r37 ∧ r37 ≤ (0 : Int) := ii f43 (r_eq (il 0) q46) (by decide) (by decide)
        refine g_aload_n C rfl 1 rfl dX12_takeRock_32 ?_
        refine g_iconst C dX12_takeRock_33 ?_
        have e78 : Tg h38 a0 = 12 := (fxT F42 e31)
        refine g_callV (st := []) (gc_V C lk_LandSurveyModel_326 (k_X12_wrong l D cy w z0 O41 e78 (iw (il 1) (by decide) (by decide))) e78 rfl rfl rfl ⟨by decide, by decide⟩ (Nat.le_of_ble_eq_true rfl) dX12_takeRock_34 ⟨(by decide), (by decide)⟩) (fun h80 K81 => ?_)
        obtain ⟨O83, F84, p85⟩ := K81
        obtain ⟨v86, e87⟩ : ∃ z, Iv h80 a0 8 = z := ⟨_, rfl⟩
        have e88 : Tg h80 a0 = 12 := (fxT F84 e78)
        have f89 := ok_I O83 e88 rI_12_8 e87
        rw [e87] at p85
        have f90 : (1 : Int) ≤ v86 ∧ v86 ≤ (24005 : Int) := by omega
        refine g_goto C 49 (by decide) dX12_takeRock_37 ?_
        refine g_aload_n C rfl 1 rfl dX12_takeRock_49 ?_
        refine g_dup C rfl dX12_takeRock_50 ?_
        have e91 : Iv h80 a0 7 = v1 := ((fxI F84 e78 rfl).trans ((fxI F42 e31 rfl).trans e32))
        refine gf_I C fk_LandSurveyModel_317 rfl e88 e91 dX12_takeRock_51 ?_
        refine g_aload_n C rfl 1 rfl dX12_takeRock_54 ?_
        refine gf_I C fk_LandSurveyModel_320 rfl e88 e87 dX12_takeRock_55 ?_
        refine g_if_ne C (iw f90 (by decide) (by decide)) 65 (by decide) dX12_takeRock_58 (fun q92 => ?_) (fun q93 => ?_)
        · refine g_iconst C dX12_takeRock_65 ?_
          have f94 : (0 : Int) ≤ (v1 + 0) ∧ (v1 + 0) ≤ (1501 : Int) := ia_add f3 (il 0) (by decide) (by decide)
          refine g_iadd C dX12_takeRock_66 ?_
          refine gp_I C fk_LandSurveyModel_317 pk_LandSurveyModel_7 rfl e88 (iw f94 (by decide) (by decide)) (nf_i _) dX12_takeRock_67 (fun h96 hh95 => ?_)
          have O97 := O83.pI e88 hh95 rI_12_7 f94 nofun
          refine g_aload_n C rfl 1 rfl dX12_takeRock_70 ?_
          have e98 : Tg h96 a0 = 12 := ((pIT hh95).trans e88)
          have e99 : Iv h96 a0 8 = v86 := ((pI_j hh95 (by decide)).trans e87)
          refine gf_I C fk_LandSurveyModel_320 rfl e98 e99 dX12_takeRock_71 ?_
          refine g_if_le C (iw f90 (by decide) (by decide)) 81 (by decide) dX12_takeRock_74 (fun q100 => ?_) (fun q101 => ?_)
          · exact (no_le f90 (il 0) q100 (by decide)).elim
          · refine g_iconst C dX12_takeRock_77 ?_
            refine g_goto C 82 (by decide) dX12_takeRock_78 ?_
            have e102 : Iv h96 a0 28 = v7 := ((pI_j hh95 (by decide)).trans ((fxI F84 e78 rfl).trans ((fxI F42 e31 rfl).trans e34)))
            have p103 := (TK_fx O83 ((Fx.rf (wr := [2407]) (h := h80)).pI e88 hh95 rfl) e88 rfl (TK_fx O41 F84 e78 rfl (TK_fx O24 F42 e31 rfl p35)))
            have p104 := ((NT_fx O83 ((Fx.rf (wr := [2407]) (h := h80)).pI e88 hh95 rfl) e88 rfl).trans ((NT_fx O41 F84 e78 rfl).trans ((NT_fx O24 F42 e31 rfl).trans p36)))
            exact g_iret C hr rfl (iw (il 0) (by decide) (by decide)) ⟨O97, (((((Fx.rf (wr := wr_k_X12_takeRock)).call F25 rfl).call F42 rfl).call F84 rfl).pI e88 hh95 rfl), (iw (il 0) (by decide) (by decide)), ⟨p103, by rw [(pI_e hh95), p104]; omega, by rw [e99, (pI_e hh95), p104]; omega, by rw [e102, (pI_e hh95)]; omega⟩, (by unfold ST; rw [e2, (pI_e hh95), e8, e102, e5, e99]; omega)⟩ (by decide) (by decide) dX12_takeRock_82
        · exact (no_eq f90 (il 0) q93 (by decide)).elim
    · have f105 : (1 : Int) ≤ r20 ∧ r20 ≤ (1 : Int) := r_nl f26 q29
      refine g_aload_n C rfl 0 rfl dX12_takeRock_16 ?_
      have e106 : Tg h21 a0 = 12 := (fxT F25 ta0)
      refine g_callI (st := []) (gc_V C lk_LandSurveyModel_361 (k_X12_findRock l D cy w z0 O24 e106) e106 rfl rfl rfl ⟨by decide, by decide⟩ (Nat.le_of_ble_eq_true rfl) dX12_takeRock_17 ⟨(by decide), (by decide)⟩) (fun r107 h108 f110 K109 => ?_)
      obtain ⟨O111, F112, f113⟩ := K109
      refine g_goto C 24 (by decide) dX12_takeRock_20 ?_
      refine g_istore_n C [(1, .inl r107), (0, .inr (.inr a0))] rfl (by decide) rfl dX12_takeRock_24 ?_
      refine g_aload_n C rfl 1 rfl dX12_takeRock_25 ?_
      have e114 : Tg h108 a0 = 12 := (fxT F112 e106)
      have e115 : Iv h108 a0 7 = v1 := ((fxI F112 e106 rfl).trans ((fxI F25 ta0 rfl).trans e2))
      have e116 : Iv h108 a0 8 = v4 := ((fxI F112 e106 rfl).trans ((fxI F25 ta0 rfl).trans e5))
      have e117 : Iv h108 a0 28 = v7 := ((fxI F112 e106 rfl).trans ((fxI F25 ta0 rfl).trans e8))
      have p118 := (TK_fx O24 F112 e106 rfl (TK_fx O F25 ta0 rfl p10))
      have p119 := ((NT_fx O24 F112 e106 rfl).trans ((NT_fx O F25 ta0 rfl).trans e15))
      refine g_callI (st := []) (gc_V C lk_LandSurveyModel_357 (k_X12_isName l D cy w z0 O111 e114 ⟨p118, by rw [e115, p119]; omega, by rw [e116, e115, p119]; omega, by rw [e117, e115]; omega⟩) e114 rfl rfl rfl ⟨by decide, by decide⟩ (Nat.le_of_ble_eq_true rfl) dX12_takeRock_26 ⟨(by decide), (by decide)⟩) (fun r120 h121 f123 K122 => ?_)
      obtain ⟨O124, F125, f126, p127⟩ := K122
      rw [e116, e115, p119] at p127
      refine g_if_ne C (iw f126 (by decide) (by decide)) 40 (by decide) dX12_takeRock_29 (fun q128 => ?_) (fun q129 => ?_)
      · have f130 : (1 : Int) ≤ r120 ∧ r120 ≤ (1 : Int) := r_nl f126 q128
        refine g_iload_n C rfl 0 rfl dX12_takeRock_40 ?_
        refine g_if_ge C (iw f113 (by decide) (by decide)) 49 (by decide) dX12_takeRock_41 (fun q131 => ?_) (fun q132 => ?_)
        · have f133 : (0 : Int) ≤ r107 ∧ r107 ≤ (9 : Int) := r_ge f113 (il 0) q131 (by decide) (by decide)
          refine g_aload_n C rfl 1 rfl dX12_takeRock_49 ?_
          refine g_dup C rfl dX12_takeRock_50 ?_
          have e134 : Tg h121 a0 = 12 := (fxT F125 e114)
          have e135 : Iv h121 a0 7 = v1 := ((fxI F125 e114 rfl).trans e115)
          refine gf_I C fk_LandSurveyModel_317 rfl e134 e135 dX12_takeRock_51 ?_
          refine g_aload_n C rfl 1 rfl dX12_takeRock_54 ?_
          have e136 : Iv h121 a0 8 = v4 := ((fxI F125 e114 rfl).trans e116)
          refine gf_I C fk_LandSurveyModel_320 rfl e134 e136 dX12_takeRock_55 ?_
          refine g_if_ne C (iw f19 (by decide) (by decide)) 65 (by decide) dX12_takeRock_58 (fun q137 => ?_) (fun q138 => ?_)
          · exact (no_ne f19 (il 0) q137 (by decide)).elim
          · refine g_iconst C dX12_takeRock_61 ?_
            refine g_goto C 66 (by decide) dX12_takeRock_62 ?_
            have f139 : (1 : Int) ≤ (v1 + 1) ∧ (v1 + 1) ≤ (1502 : Int) := ia_add f3 (il 1) (by decide) (by decide)
            refine g_iadd C dX12_takeRock_66 ?_
            refine gp_I C fk_LandSurveyModel_317 pk_LandSurveyModel_7 rfl e134 (iw f139 (by decide) (by decide)) (nf_i _) dX12_takeRock_67 (fun h141 hh140 => ?_)
            have O142 := O124.pI e134 hh140 rI_12_7 (by omega) nofun
            refine g_aload_n C rfl 1 rfl dX12_takeRock_70 ?_
            have e143 : Tg h141 a0 = 12 := ((pIT hh140).trans e134)
            have e144 : Iv h141 a0 8 = v4 := ((pI_j hh140 (by decide)).trans e136)
            refine gf_I C fk_LandSurveyModel_320 rfl e143 e144 dX12_takeRock_71 ?_
            refine g_if_le C (iw f19 (by decide) (by decide)) 81 (by decide) dX12_takeRock_74 (fun q145 => ?_) (fun q146 => ?_)
            · refine g_iload_n C rfl 0 rfl dX12_takeRock_81 ?_
              have e147 : Iv h141 a0 28 = v7 := ((pI_j hh140 (by decide)).trans ((fxI F125 e114 rfl).trans e117))
              have p148 := (TK_fx O124 ((Fx.rf (wr := [2407]) (h := h121)).pI e134 hh140 rfl) e134 rfl (TK_fx O111 F125 e114 rfl p118))
              have p149 := ((NT_fx O124 ((Fx.rf (wr := [2407]) (h := h121)).pI e134 hh140 rfl) e134 rfl).trans ((NT_fx O111 F125 e114 rfl).trans p119))
              exact g_iret C hr rfl (iw f133 (by decide) (by decide)) ⟨O142, (((((Fx.rf (wr := wr_k_X12_takeRock)).call F25 rfl).call F112 rfl).call F125 rfl).pI e134 hh140 rfl), f133, ⟨p148, by rw [(pI_e hh140), p149]; omega, by rw [e144, (pI_e hh140), p149]; omega, by rw [e147, (pI_e hh140)]; omega⟩, (by unfold ST; rw [e2, (pI_e hh140), e8, e147, e5, e144]; omega)⟩ (by decide) (by decide) dX12_takeRock_82
            · exact (no_lt (il 0) f19 q146 (by decide)).elim
        · have f150 : (-1 : Int) ≤ r107 ∧ r107 ≤ (-1 : Int) := r_lt f113 (il 0) q132 (by decide) (by decide)
          refine g_aload_n C rfl 1 rfl dX12_takeRock_44 ?_
          refine g_iconst C dX12_takeRock_45 ?_
          have e151 : Tg h121 a0 = 12 := (fxT F125 e114)
          refine g_callV (st := []) (gc_V C lk_LandSurveyModel_326 (k_X12_wrong l D cy w z0 O124 e151 (iw (il 2) (by decide) (by decide))) e151 rfl rfl rfl ⟨by decide, by decide⟩ (Nat.le_of_ble_eq_true rfl) dX12_takeRock_46 ⟨(by decide), (by decide)⟩) (fun h153 K154 => ?_)
          obtain ⟨O156, F157, p158⟩ := K154
          obtain ⟨v159, e160⟩ : ∃ z, Iv h153 a0 8 = z := ⟨_, rfl⟩
          have e161 : Tg h153 a0 = 12 := (fxT F157 e151)
          have f162 := ok_I O156 e161 rI_12_8 e160
          rw [e160] at p158
          have f163 : (1 : Int) ≤ v159 ∧ v159 ≤ (24005 : Int) := by omega
          refine g_aload_n C rfl 1 rfl dX12_takeRock_49 ?_
          refine g_dup C rfl dX12_takeRock_50 ?_
          have e164 : Iv h153 a0 7 = v1 := ((fxI F157 e151 rfl).trans ((fxI F125 e114 rfl).trans e115))
          refine gf_I C fk_LandSurveyModel_317 rfl e161 e164 dX12_takeRock_51 ?_
          refine g_aload_n C rfl 1 rfl dX12_takeRock_54 ?_
          refine gf_I C fk_LandSurveyModel_320 rfl e161 e160 dX12_takeRock_55 ?_
          refine g_if_ne C (iw f163 (by decide) (by decide)) 65 (by decide) dX12_takeRock_58 (fun q165 => ?_) (fun q166 => ?_)
          · refine g_iconst C dX12_takeRock_65 ?_
            have f167 : (0 : Int) ≤ (v1 + 0) ∧ (v1 + 0) ≤ (1501 : Int) := ia_add f3 (il 0) (by decide) (by decide)
            refine g_iadd C dX12_takeRock_66 ?_
            refine gp_I C fk_LandSurveyModel_317 pk_LandSurveyModel_7 rfl e161 (iw f167 (by decide) (by decide)) (nf_i _) dX12_takeRock_67 (fun h169 hh168 => ?_)
            have O170 := O156.pI e161 hh168 rI_12_7 f167 nofun
            refine g_aload_n C rfl 1 rfl dX12_takeRock_70 ?_
            have e171 : Tg h169 a0 = 12 := ((pIT hh168).trans e161)
            have e172 : Iv h169 a0 8 = v159 := ((pI_j hh168 (by decide)).trans e160)
            refine gf_I C fk_LandSurveyModel_320 rfl e171 e172 dX12_takeRock_71 ?_
            refine g_if_le C (iw f163 (by decide) (by decide)) 81 (by decide) dX12_takeRock_74 (fun q173 => ?_) (fun q174 => ?_)
            · exact (no_le f163 (il 0) q173 (by decide)).elim
            · refine g_iconst C dX12_takeRock_77 ?_
              refine g_goto C 82 (by decide) dX12_takeRock_78 ?_
              have e175 : Iv h169 a0 28 = v7 := ((pI_j hh168 (by decide)).trans ((fxI F157 e151 rfl).trans ((fxI F125 e114 rfl).trans e117)))
              have p176 := (TK_fx O156 ((Fx.rf (wr := [2407]) (h := h153)).pI e161 hh168 rfl) e161 rfl (TK_fx O124 F157 e151 rfl (TK_fx O111 F125 e114 rfl p118)))
              have p177 := ((NT_fx O156 ((Fx.rf (wr := [2407]) (h := h153)).pI e161 hh168 rfl) e161 rfl).trans ((NT_fx O124 F157 e151 rfl).trans ((NT_fx O111 F125 e114 rfl).trans p119)))
              exact g_iret C hr rfl (iw (il 0) (by decide) (by decide)) ⟨O170, ((((((Fx.rf (wr := wr_k_X12_takeRock)).call F25 rfl).call F112 rfl).call F125 rfl).call F157 rfl).pI e161 hh168 rfl), (iw (il 0) (by decide) (by decide)), ⟨p176, by rw [(pI_e hh168), p177]; omega, by rw [e172, (pI_e hh168), p177]; omega, by rw [e175, (pI_e hh168)]; omega⟩, (by unfold ST; rw [e2, (pI_e hh168), e8, e175, e5, e172]; omega)⟩ (by decide) (by decide) dX12_takeRock_82
          · exact (no_eq f163 (il 0) q166 (by decide)).elim
      · have f178 : (0 : Int) ≤ r120 ∧ r120 ≤ (0 : Int) := ii f126 (r_eq (il 0) q129) (by decide) (by decide)
        refine g_aload_n C rfl 1 rfl dX12_takeRock_32 ?_
        refine g_iconst C dX12_takeRock_33 ?_
        have e179 : Tg h121 a0 = 12 := (fxT F125 e114)
        refine g_callV (st := []) (gc_V C lk_LandSurveyModel_326 (k_X12_wrong l D cy w z0 O124 e179 (iw (il 1) (by decide) (by decide))) e179 rfl rfl rfl ⟨by decide, by decide⟩ (Nat.le_of_ble_eq_true rfl) dX12_takeRock_34 ⟨(by decide), (by decide)⟩) (fun h181 K182 => ?_)
        obtain ⟨O184, F185, p186⟩ := K182
        obtain ⟨v187, e188⟩ : ∃ z, Iv h181 a0 8 = z := ⟨_, rfl⟩
        have e189 : Tg h181 a0 = 12 := (fxT F185 e179)
        have f190 := ok_I O184 e189 rI_12_8 e188
        rw [e188] at p186
        have f191 : (1 : Int) ≤ v187 ∧ v187 ≤ (24005 : Int) := by omega
        refine g_goto C 49 (by decide) dX12_takeRock_37 ?_
        refine g_aload_n C rfl 1 rfl dX12_takeRock_49 ?_
        refine g_dup C rfl dX12_takeRock_50 ?_
        have e192 : Iv h181 a0 7 = v1 := ((fxI F185 e179 rfl).trans ((fxI F125 e114 rfl).trans e115))
        refine gf_I C fk_LandSurveyModel_317 rfl e189 e192 dX12_takeRock_51 ?_
        refine g_aload_n C rfl 1 rfl dX12_takeRock_54 ?_
        refine gf_I C fk_LandSurveyModel_320 rfl e189 e188 dX12_takeRock_55 ?_
        refine g_if_ne C (iw f191 (by decide) (by decide)) 65 (by decide) dX12_takeRock_58 (fun q193 => ?_) (fun q194 => ?_)
        · refine g_iconst C dX12_takeRock_65 ?_
          have f195 : (0 : Int) ≤ (v1 + 0) ∧ (v1 + 0) ≤ (1501 : Int) := ia_add f3 (il 0) (by decide) (by decide)
          refine g_iadd C dX12_takeRock_66 ?_
          refine gp_I C fk_LandSurveyModel_317 pk_LandSurveyModel_7 rfl e189 (iw f195 (by decide) (by decide)) (nf_i _) dX12_takeRock_67 (fun h197 hh196 => ?_)
          have O198 := O184.pI e189 hh196 rI_12_7 f195 nofun
          refine g_aload_n C rfl 1 rfl dX12_takeRock_70 ?_
          have e199 : Tg h197 a0 = 12 := ((pIT hh196).trans e189)
          have e200 : Iv h197 a0 8 = v187 := ((pI_j hh196 (by decide)).trans e188)
          refine gf_I C fk_LandSurveyModel_320 rfl e199 e200 dX12_takeRock_71 ?_
          refine g_if_le C (iw f191 (by decide) (by decide)) 81 (by decide) dX12_takeRock_74 (fun q201 => ?_) (fun q202 => ?_)
          · exact (no_le f191 (il 0) q201 (by decide)).elim
          · refine g_iconst C dX12_takeRock_77 ?_
            refine g_goto C 82 (by decide) dX12_takeRock_78 ?_
            have e203 : Iv h197 a0 28 = v7 := ((pI_j hh196 (by decide)).trans ((fxI F185 e179 rfl).trans ((fxI F125 e114 rfl).trans e117)))
            have p204 := (TK_fx O184 ((Fx.rf (wr := [2407]) (h := h181)).pI e189 hh196 rfl) e189 rfl (TK_fx O124 F185 e179 rfl (TK_fx O111 F125 e114 rfl p118)))
            have p205 := ((NT_fx O184 ((Fx.rf (wr := [2407]) (h := h181)).pI e189 hh196 rfl) e189 rfl).trans ((NT_fx O124 F185 e179 rfl).trans ((NT_fx O111 F125 e114 rfl).trans p119)))
            exact g_iret C hr rfl (iw (il 0) (by decide) (by decide)) ⟨O198, ((((((Fx.rf (wr := wr_k_X12_takeRock)).call F25 rfl).call F112 rfl).call F125 rfl).call F185 rfl).pI e189 hh196 rfl), (iw (il 0) (by decide) (by decide)), ⟨p204, by rw [(pI_e hh196), p205]; omega, by rw [e200, (pI_e hh196), p205]; omega, by rw [e203, (pI_e hh196)]; omega⟩, (by unfold ST; rw [e2, (pI_e hh196), e8, e203, e5, e200]; omega)⟩ (by decide) (by decide) dX12_takeRock_82
        · exact (no_eq f191 (il 0) q194 (by decide)).elim
  · have f206 : (1 : Int) ≤ v4 ∧ v4 ≤ (24005 : Int) := r_gt f6 (il 0) q18 (by decide) (by decide)
    refine g_iconst C dX12_takeRock_7 ?_
    exact g_iret C hr rfl (iw (il 0) (by decide) (by decide)) ⟨O, Fx.rf, (iw (il 0) (by decide) (by decide)), ⟨p10, by rw [e2, e15]; omega, by rw [e5, e2, e15]; omega, by rw [e8, e2]; omega⟩, ST_rf⟩ (by decide) (by decide) dX12_takeRock_8
def wr_k_X12_emit : List Nat := [2428, 25820000, 26020000]
set_option maxRecDepth 100000 in
set_option maxHeartbeats 4000000 in
theorem k_X12_emit (l : Launch) (D : va_G) (cy : Nat → ClassId) (w : Nat → Nat) (z0 : Nat)  {h : Hp} {a0 : Nat} {a1 : Int} {a2 : Int}  (O : Okh h) (ta0 : Tg h a0 = 12) (fa1 : 0 ≤ a1 ∧ a1 ≤ 9) (fa2 : (-2147483648) ≤ a2 ∧ a2 ≤ 2147483647) (P_ec : Iv h a0 28 ≤ 1599) : MV l D cy w z0 yX12_emit cX12_emit 3 none 0 0 0 0 [.inr (.inr a0), .inl a1, .inl a2] h (fun h1 => Okh h1 ∧ Fx wr_k_X12_emit h h1 ∧ (EM h h1 a0 a1 a2)) := by
  obtain ⟨v1, e2⟩ : ∃ z, Iv h a0 28 = z := ⟨_, rfl⟩
  have f3 := ok_I O ta0 rI_12_28 e2
  rw [e2] at P_ec
  have f4 : (0 : Int) ≤ v1 ∧ v1 ≤ (1599 : Int) := by omega
  refine hm_go (by decide +kernel) (Nat.le_of_ble_eq_true rfl) (fun p e s m below meth c C hr hn => ?_)
  obtain ⟨v5, e6⟩ : ∃ z, Rv h a0 29 = z := ⟨_, rfl⟩
  have t7 := ok_R O ta0 rE_12_29 e6
  have l8 := ok_L O ta0 rE_12_29 e6
  obtain ⟨v9, e10⟩ : ∃ z, Rv h a0 30 = z := ⟨_, rfl⟩
  have t11 := ok_R O ta0 rE_12_30 e10
  have l12 := ok_L O ta0 rE_12_30 e10
  refine g_aload_n C rfl 0 rfl dX12_emit_0 ?_
  refine gf_R C fk_LandSurveyModel_149 rfl ta0 e6 dX12_emit_1 ?_
  refine g_sipush C (by decide) dX12_emit_4 ?_
  refine g_aload_n C rfl 0 rfl dX12_emit_7 ?_
  refine gf_I C fk_LandSurveyModel_336 rfl ta0 e2 dX12_emit_8 ?_
  have f13 : (12800 : Int) ≤ (12800 + v1) ∧ (12800 + v1) ≤ (14399 : Int) := ia_add (il 12800) f4 (by decide) (by decide)
  refine g_iadd C dX12_emit_11 ?_
  refine g_iload_n C rfl 1 rfl dX12_emit_12 ?_
  refine g_iast C t7 rfl l8 (ix f13 (by decide) (by decide)) (iw fa1 (by decide) (by decide)) dX12_emit_13 (fun h15 hh14 => ?_)
  have O16 := O.pIa t7 ar_129100 hh14 rI_129100_0 fa1 nofun
  refine g_aload_n C rfl 0 rfl dX12_emit_14 ?_
  have e17 : Tg h15 a0 = 12 := ((pIT hh14).trans ta0)
  have e18 : Rv h15 a0 30 = v9 := ((pIR hh14).trans e10)
  refine gf_R C fk_LandSurveyModel_152 rfl e17 e18 dX12_emit_15 ?_
  refine g_sipush C (by decide) dX12_emit_18 ?_
  refine g_aload_n C rfl 0 rfl dX12_emit_21 ?_
  have e19 : Iv h15 a0 28 = v1 := ((pI_n hh14 (ne_tag ta0 t7 (by decide))).trans e2)
  refine gf_I C fk_LandSurveyModel_336 rfl e17 e19 dX12_emit_22 ?_
  refine g_iadd C dX12_emit_25 ?_
  refine g_iload_n C rfl 2 rfl dX12_emit_26 ?_
  have e20 : Tg h15 v9 = 130100 := ((pIT hh14).trans t11)
  have e21 : Ln h15 v9 = 14400 := ((pIL hh14).trans l12)
  refine g_iast C e20 rfl e21 (ix f13 (by decide) (by decide)) fa2 dX12_emit_27 (fun h23 hh22 => ?_)
  have O24 := O16.pIa e20 ar_130100 hh22 rI_130100_0 fa2 nofun
  refine g_aload_n C rfl 0 rfl dX12_emit_28 ?_
  refine g_dup C rfl dX12_emit_29 ?_
  have e25 : Tg h23 a0 = 12 := ((pIT hh22).trans e17)
  have e26 : Iv h23 a0 28 = v1 := ((pI_n hh22 (ne_tag e17 e20 (by decide))).trans e19)
  refine gf_I C fk_LandSurveyModel_336 rfl e25 e26 dX12_emit_30 ?_
  refine g_iconst C dX12_emit_33 ?_
  have f27 : (1 : Int) ≤ (v1 + 1) ∧ (v1 + 1) ≤ (1600 : Int) := ia_add f4 (il 1) (by decide) (by decide)
  refine g_iadd C dX12_emit_34 ?_
  refine gp_I C fk_LandSurveyModel_336 pk_LandSurveyModel_28 rfl e25 (iw f27 (by decide) (by decide)) (nf_i _) dX12_emit_35 (fun h29 hh28 => ?_)
  have O30 := O24.pI e25 hh28 rI_12_28 (iw f27 (by decide) (by decide)) nofun
  exact g_vret C hr ⟨O30, ((((Fx.rf (wr := wr_k_X12_emit)).pIa t7 ar_129100 hh14 rfl).pIa e20 ar_130100 hh22 rfl).pI e25 hh28 rfl), (EM_made ta0 O e6 e10 e2 (by omega) hh14 hh22 hh28)⟩ (by decide) (by decide) dX12_emit_38
