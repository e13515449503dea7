abbrev cX12_neighbour : ByteArray := prog_14_method_68_code
def yX12_neighbour : MethodName := ⟨RX12, "neighbour", "(II)I"⟩
theorem okX12_neighbour : yok yX12_neighbour 2 := by decide +kernel
theorem dX12_neighbour_0 : decode cX12_neighbour 0 = .ok (.iload_n 0, 1) := by decide +kernel
theorem dX12_neighbour_1 : decode cX12_neighbour 1 = .ok (.bipush 12, 2) := by decide +kernel
theorem dX12_neighbour_3 : decode cX12_neighbour 3 = .ok (.irem, 1) := by decide +kernel
theorem dX12_neighbour_4 : decode cX12_neighbour 4 = .ok (.iload_n 1, 1) := by decide +kernel
theorem dX12_neighbour_5 : decode cX12_neighbour 5 = .ok (.ifCond .ne 7, 3) := by decide +kernel
theorem dX12_neighbour_12 : decode cX12_neighbour 12 = .ok (.iload_n 1, 1) := by decide +kernel
theorem dX12_neighbour_13 : decode cX12_neighbour 13 = .ok (.iconst 1, 1) := by decide +kernel
theorem dX12_neighbour_14 : decode cX12_neighbour 14 = .ok (.if_icmp .ne 7, 3) := by decide +kernel
theorem dX12_neighbour_21 : decode cX12_neighbour 21 = .ok (.iconst 0, 1) := by decide +kernel
theorem dX12_neighbour_22 : decode cX12_neighbour 22 = .ok (.iadd, 1) := by decide +kernel
theorem dX12_neighbour_23 : decode cX12_neighbour 23 = .ok (.istore_n 2, 1) := by decide +kernel
theorem dX12_neighbour_24 : decode cX12_neighbour 24 = .ok (.iload_n 0, 1) := by decide +kernel
theorem dX12_neighbour_25 : decode cX12_neighbour 25 = .ok (.bipush 12, 2) := by decide +kernel
theorem dX12_neighbour_27 : decode cX12_neighbour 27 = .ok (.idiv, 1) := by decide +kernel
theorem dX12_neighbour_28 : decode cX12_neighbour 28 = .ok (.iload_n 1, 1) := by decide +kernel
theorem dX12_neighbour_29 : decode cX12_neighbour 29 = .ok (.iconst 2, 1) := by decide +kernel
theorem dX12_neighbour_30 : decode cX12_neighbour 30 = .ok (.if_icmp .ne 7, 3) := by decide +kernel
theorem dX12_neighbour_37 : decode cX12_neighbour 37 = .ok (.iload_n 1, 1) := by decide +kernel
theorem dX12_neighbour_38 : decode cX12_neighbour 38 = .ok (.iconst 3, 1) := by decide +kernel
theorem dX12_neighbour_39 : decode cX12_neighbour 39 = .ok (.if_icmp .ne 7, 3) := by decide +kernel
theorem dX12_neighbour_42 : decode cX12_neighbour 42 = .ok (.iconst 1, 1) := by decide +kernel
theorem dX12_neighbour_43 : decode cX12_neighbour 43 = .ok (.goto 4, 3) := by decide +kernel
theorem dX12_neighbour_47 : decode cX12_neighbour 47 = .ok (.iadd, 1) := by decide +kernel
theorem dX12_neighbour_48 : decode cX12_neighbour 48 = .ok (.istore_n 3, 1) := by decide +kernel
theorem dX12_neighbour_49 : decode cX12_neighbour 49 = .ok (.iload_n 2, 1) := by decide +kernel
theorem dX12_neighbour_50 : decode cX12_neighbour 50 = .ok (.iload_n 3, 1) := by decide +kernel
theorem dX12_neighbour_51 : decode cX12_neighbour 51 = .ok (.invokestatic 419, 3) := by decide +kernel
theorem dX12_neighbour_54 : decode cX12_neighbour 54 = .ok (.ifCond .eq 12, 3) := by decide +kernel
theorem dX12_neighbour_66 : decode cX12_neighbour 66 = .ok (.iconst (-1), 1) := by decide +kernel
theorem dX12_neighbour_67 : decode cX12_neighbour 67 = .ok (.ireturn, 1) := by decide +kernel
theorem dX12_neighbour_57 : decode cX12_neighbour 57 = .ok (.bipush 12, 2) := by decide +kernel
theorem dX12_neighbour_59 : decode cX12_neighbour 59 = .ok (.iload_n 3, 1) := by decide +kernel
theorem dX12_neighbour_60 : decode cX12_neighbour 60 = .ok (.imul, 1) := by decide +kernel
theorem dX12_neighbour_61 : decode cX12_neighbour 61 = .ok (.iload_n 2, 1) := by decide +kernel
theorem dX12_neighbour_62 : decode cX12_neighbour 62 = .ok (.iadd, 1) := by decide +kernel
theorem dX12_neighbour_63 : decode cX12_neighbour 63 = .ok (.goto 4, 3) := by decide +kernel
theorem dX12_neighbour_33 : decode cX12_neighbour 33 = .ok (.iconst (-1), 1) := by decide +kernel
theorem dX12_neighbour_34 : decode cX12_neighbour 34 = .ok (.goto 13, 3) := by decide +kernel
theorem dX12_neighbour_17 : decode cX12_neighbour 17 = .ok (.iconst 1, 1) := by decide +kernel
theorem dX12_neighbour_18 : decode cX12_neighbour 18 = .ok (.goto 4, 3) := by decide +kernel
theorem dX12_neighbour_46 : decode cX12_neighbour 46 = .ok (.iconst 0, 1) := by decide +kernel
theorem dX12_neighbour_8 : decode cX12_neighbour 8 = .ok (.iconst (-1), 1) := by decide +kernel
theorem dX12_neighbour_9 : decode cX12_neighbour 9 = .ok (.goto 13, 3) := by decide +kernel
abbrev cX12_breakOn : ByteArray := prog_14_method_69_code
def yX12_breakOn : MethodName := ⟨RX12, "breakOn", "(II)I"⟩
theorem okX12_breakOn : yok yX12_breakOn 2 := by decide +kernel
theorem dX12_breakOn_0 : decode cX12_breakOn 0 = .ok (.iconst 0, 1) := by decide +kernel
theorem dX12_breakOn_1 : decode cX12_breakOn 1 = .ok (.istore_n 3, 1) := by decide +kernel
theorem dX12_breakOn_2 : decode cX12_breakOn 2 = .ok (.iload_n 3, 1) := by decide +kernel
theorem dX12_breakOn_3 : decode cX12_breakOn 3 = .ok (.aload_n 0, 1) := by decide +kernel
theorem dX12_breakOn_4 : decode cX12_breakOn 4 = .ok (.getfield 477, 3) := by decide +kernel
theorem dX12_breakOn_7 : decode cX12_breakOn 7 = .ok (.if_icmp .ge 35, 3) := by decide +kernel
theorem dX12_breakOn_42 : decode cX12_breakOn 42 = .ok (.iconst (-1), 1) := by decide +kernel
theorem dX12_breakOn_43 : decode cX12_breakOn 43 = .ok (.ireturn, 1) := by decide +kernel
theorem dX12_breakOn_10 : decode cX12_breakOn 10 = .ok (.iload_n 2, 1) := by decide +kernel
theorem dX12_breakOn_11 : decode cX12_breakOn 11 = .ok (.iload_n 3, 1) := by decide +kernel
theorem dX12_breakOn_12 : decode cX12_breakOn 12 = .ok (.ishr, 1) := by decide +kernel
theorem dX12_breakOn_13 : decode cX12_breakOn 13 = .ok (.iconst 1, 1) := by decide +kernel
theorem dX12_breakOn_14 : decode cX12_breakOn 14 = .ok (.iand, 1) := by decide +kernel
theorem dX12_breakOn_15 : decode cX12_breakOn 15 = .ok (.iconst 1, 1) := by decide +kernel
theorem dX12_breakOn_16 : decode cX12_breakOn 16 = .ok (.if_icmp .ne 20, 3) := by decide +kernel
theorem dX12_breakOn_36 : decode cX12_breakOn 36 = .ok (.iinc 3 1, 3) := by decide +kernel
theorem dX12_breakOn_39 : decode cX12_breakOn 39 = .ok (.goto (-37), 3) := by decide +kernel
theorem dX12_breakOn_19 : decode cX12_breakOn 19 = .ok (.aload_n 0, 1) := by decide +kernel
theorem dX12_breakOn_20 : decode cX12_breakOn 20 = .ok (.getfield 221, 3) := by decide +kernel
theorem kw_1564 : Cond.fieldLink "LandSurveyModel" 221 "LandSurveyModel" "isBreakSide" "[Z" ∈ uu := uu_in (i := 1564) (by decide +kernel) (by decide +kernel)
theorem fk_LandSurveyModel_221 : fkR "LandSurveyModel" 221 11 58 RX12 TX12 87 := ⟨rfl, rfl, inX12, by decide, kw_1564, by decide⟩
theorem dX12_breakOn_23 : decode cX12_breakOn 23 = .ok (.sipush 192, 3) := by decide +kernel
theorem dX12_breakOn_26 : decode cX12_breakOn 26 = .ok (.iload_n 3, 1) := by decide +kernel
theorem dX12_breakOn_27 : decode cX12_breakOn 27 = .ok (.imul, 1) := by decide +kernel
theorem dX12_breakOn_28 : decode cX12_breakOn 28 = .ok (.iload_n 1, 1) := by decide +kernel
theorem dX12_breakOn_29 : decode cX12_breakOn 29 = .ok (.iadd, 1) := by decide +kernel
theorem dX12_breakOn_30 : decode cX12_breakOn 30 = .ok (.baload, 1) := by decide +kernel
theorem dX12_breakOn_31 : decode cX12_breakOn 31 = .ok (.ifCond .eq 5, 3) := by decide +kernel
theorem dX12_breakOn_34 : decode cX12_breakOn 34 = .ok (.iload_n 3, 1) := by decide +kernel
theorem dX12_breakOn_35 : decode cX12_breakOn 35 = .ok (.ireturn, 1) := by decide +kernel
abbrev cX12_dips : ByteArray := prog_14_method_71_code
def yX12_dips : MethodName := ⟨RX12, "dips", "(IIIJ)Z"⟩
theorem okX12_dips : yok yX12_dips 4 := by decide +kernel
theorem dX12_dips_0 : decode cX12_dips 0 = .ok (.aload_n 0, 1) := by decide +kernel
theorem dX12_dips_1 : decode cX12_dips 1 = .ok (.getfield 209, 3) := by decide +kernel
theorem dX12_dips_4 : decode cX12_dips 4 = .ok (.iload_n 1, 1) := by decide +kernel
theorem dX12_dips_5 : decode cX12_dips 5 = .ok (.baload, 1) := by decide +kernel
theorem dX12_dips_6 : decode cX12_dips 6 = .ok (.ifCond .eq 49, 3) := by decide +kernel
theorem dX12_dips_55 : decode cX12_dips 55 = .ok (.iconst 0, 1) := by decide +kernel
theorem dX12_dips_56 : decode cX12_dips 56 = .ok (.ireturn, 1) := by decide +kernel
theorem dX12_dips_9 : decode cX12_dips 9 = .ok (.lload 4, 2) := by decide +kernel
theorem dX12_dips_11 : decode cX12_dips 11 = .ok (.iload_n 1, 1) := by decide +kernel
theorem dX12_dips_12 : decode cX12_dips 12 = .ok (.invokestatic 487, 3) := by decide +kernel
theorem kw_2031 : Cond.code yX12_isIn prog_14_method_70_code 3 (some .boolean) ∈ uu := uu_in (i := 2031) (by decide +kernel) (by decide +kernel)
theorem kw_2029 : Cond.methodLink "LandSurveyModel" 487 yX12_isIn ∈ uu := uu_in (i := 2029) (by decide +kernel) (by decide +kernel)
theorem kw_2030 : Cond.static yX12_isIn ∈ uu := uu_in (i := 2030) (by decide +kernel) (by decide +kernel)
theorem lk_LandSurveyModel_487 : lkS "LandSurveyModel" 487 yX12_isIn cX12_isIn 3 (some .boolean) 2 := ⟨kw_2029, kw_2030, kw_152, kw_2031, okX12_isIn⟩
theorem dX12_dips_15 : decode cX12_dips 15 = .ok (.ifCond .ne 40, 3) := by decide +kernel
theorem dX12_dips_18 : decode cX12_dips 18 = .ok (.aload_n 0, 1) := by decide +kernel
theorem dX12_dips_19 : decode cX12_dips 19 = .ok (.getfield 194, 3) := by decide +kernel
theorem dX12_dips_22 : decode cX12_dips 22 = .ok (.iload_n 1, 1) := by decide +kernel
theorem dX12_dips_23 : decode cX12_dips 23 = .ok (.iaload, 1) := by decide +kernel
theorem dX12_dips_24 : decode cX12_dips 24 = .ok (.ifCond .lt 31, 3) := by decide +kernel
theorem dX12_dips_27 : decode cX12_dips 27 = .ok (.aload_n 0, 1) := by decide +kernel
theorem dX12_dips_28 : decode cX12_dips 28 = .ok (.getfield 176, 3) := by decide +kernel
theorem dX12_dips_31 : decode cX12_dips 31 = .ok (.iload_n 1, 1) := by decide +kernel
theorem dX12_dips_32 : decode cX12_dips 32 = .ok (.iaload, 1) := by decide +kernel
theorem dX12_dips_33 : decode cX12_dips 33 = .ok (.iload_n 2, 1) := by decide +kernel
theorem dX12_dips_34 : decode cX12_dips 34 = .ok (.if_icmp .ne 21, 3) := by decide +kernel
theorem dX12_dips_37 : decode cX12_dips 37 = .ok (.iload_n 2, 1) := by decide +kernel
theorem dX12_dips_38 : decode cX12_dips 38 = .ok (.aload_n 0, 1) := by decide +kernel
theorem dX12_dips_39 : decode cX12_dips 39 = .ok (.getfield 194, 3) := by decide +kernel
theorem dX12_dips_42 : decode cX12_dips 42 = .ok (.iload_n 1, 1) := by decide +kernel
theorem dX12_dips_43 : decode cX12_dips 43 = .ok (.iaload, 1) := by decide +kernel
theorem dX12_dips_44 : decode cX12_dips 44 = .ok (.invokestatic 491, 3) := by decide +kernel
theorem kw_2058 : Cond.code yX12_neighbour prog_14_method_68_code 4 (some .int) ∈ uu := uu_in (i := 2058) (by decide +kernel) (by decide +kernel)
theorem kw_2056 : Cond.methodLink "LandSurveyModel" 491 yX12_neighbour ∈ uu := uu_in (i := 2056) (by decide +kernel) (by decide +kernel)
theorem kw_2057 : Cond.static yX12_neighbour ∈ uu := uu_in (i := 2057) (by decide +kernel) (by decide +kernel)
theorem lk_LandSurveyModel_491 : lkS "LandSurveyModel" 491 yX12_neighbour cX12_neighbour 4 (some .int) 2 := ⟨kw_2056, kw_2057, kw_152, kw_2058, okX12_neighbour⟩
theorem dX12_dips_47 : decode cX12_dips 47 = .ok (.iload_n 3, 1) := by decide +kernel
theorem dX12_dips_48 : decode cX12_dips 48 = .ok (.if_icmp .ne 7, 3) := by decide +kernel
theorem dX12_dips_51 : decode cX12_dips 51 = .ok (.iconst 1, 1) := by decide +kernel
theorem dX12_dips_52 : decode cX12_dips 52 = .ok (.goto 4, 3) := by decide +kernel
abbrev cX12_bound : ByteArray := prog_14_method_66_code
def yX12_bound : MethodName := ⟨RX12, "bound", "(IIII)V"⟩
theorem okX12_bound : yok yX12_bound 4 := by decide +kernel
theorem kw_1568 : Cond.fieldLink "LandSurveyModel" 480 "LandSurveyModel" "bounds" "I" ∈ uu := uu_in (i := 1568) (by decide +kernel) (by decide +kernel)
theorem fk_LandSurveyModel_480 : fkI "LandSurveyModel" 480 11 62 RX12 TX12 87 := ⟨rfl, rfl, inX12, by decide, kw_1568, by decide⟩
theorem dX12_bound_0 : decode cX12_bound 0 = .ok (.aload_n 0, 1) := by decide +kernel
theorem dX12_bound_1 : decode cX12_bound 1 = .ok (.getfield 233, 3) := by decide +kernel
theorem kw_1569 : Cond.fieldLink "LandSurveyModel" 233 "LandSurveyModel" "boundFrom" "[I" ∈ uu := uu_in (i := 1569) (by decide +kernel) (by decide +kernel)
theorem fk_LandSurveyModel_233 : fkR "LandSurveyModel" 233 11 63 RX12 TX12 87 := ⟨rfl, rfl, inX12, by decide, kw_1569, by decide⟩
theorem dX12_bound_4 : decode cX12_bound 4 = .ok (.aload_n 0, 1) := by decide +kernel
theorem dX12_bound_5 : decode cX12_bound 5 = .ok (.getfield 480, 3) := by decide +kernel
theorem dX12_bound_8 : decode cX12_bound 8 = .ok (.iload_n 1, 1) := by decide +kernel
theorem dX12_bound_9 : decode cX12_bound 9 = .ok (.iastore, 1) := by decide +kernel
theorem dX12_bound_10 : decode cX12_bound 10 = .ok (.aload_n 0, 1) := by decide +kernel
theorem dX12_bound_11 : decode cX12_bound 11 = .ok (.getfield 236, 3) := by decide +kernel
theorem kw_1570 : Cond.fieldLink "LandSurveyModel" 236 "LandSurveyModel" "boundTo" "[I" ∈ uu := uu_in (i := 1570) (by decide +kernel) (by decide +kernel)
theorem fk_LandSurveyModel_236 : fkR "LandSurveyModel" 236 11 64 RX12 TX12 87 := ⟨rfl, rfl, inX12, by decide, kw_1570, by decide⟩
theorem dX12_bound_14 : decode cX12_bound 14 = .ok (.aload_n 0, 1) := by decide +kernel
theorem dX12_bound_15 : decode cX12_bound 15 = .ok (.getfield 480, 3) := by decide +kernel
theorem dX12_bound_18 : decode cX12_bound 18 = .ok (.iload_n 2, 1) := by decide +kernel
theorem dX12_bound_19 : decode cX12_bound 19 = .ok (.iastore, 1) := by decide +kernel
theorem dX12_bound_20 : decode cX12_bound 20 = .ok (.aload_n 0, 1) := by decide +kernel
theorem dX12_bound_21 : decode cX12_bound 21 = .ok (.getfield 239, 3) := by decide +kernel
theorem kw_1571 : Cond.fieldLink "LandSurveyModel" 239 "LandSurveyModel" "boundBy" "[I" ∈ uu := uu_in (i := 1571) (by decide +kernel) (by decide +kernel)
theorem fk_LandSurveyModel_239 : fkR "LandSurveyModel" 239 11 65 RX12 TX12 87 := ⟨rfl, rfl, inX12, by decide, kw_1571, by decide⟩
theorem dX12_bound_24 : decode cX12_bound 24 = .ok (.aload_n 0, 1) := by decide +kernel
theorem dX12_bound_25 : decode cX12_bound 25 = .ok (.getfield 480, 3) := by decide +kernel
theorem dX12_bound_28 : decode cX12_bound 28 = .ok (.iload_n 3, 1) := by decide +kernel
theorem dX12_bound_29 : decode cX12_bound 29 = .ok (.iastore, 1) := by decide +kernel
theorem dX12_bound_30 : decode cX12_bound 30 = .ok (.aload_n 0, 1) := by decide +kernel
theorem dX12_bound_31 : decode cX12_bound 31 = .ok (.getfield 242, 3) := by decide +kernel
theorem kw_1572 : Cond.fieldLink "LandSurveyModel" 242 "LandSurveyModel" "boundSight" "[I" ∈ uu := uu_in (i := 1572) (by decide +kernel) (by decide +kernel)
theorem fk_LandSurveyModel_242 : fkR "LandSurveyModel" 242 11 66 RX12 TX12 87 := ⟨rfl, rfl, inX12, by decide, kw_1572, by decide⟩
theorem dX12_bound_34 : decode cX12_bound 34 = .ok (.aload_n 0, 1) := by decide +kernel
theorem dX12_bound_35 : decode cX12_bound 35 = .ok (.getfield 480, 3) := by decide +kernel
theorem dX12_bound_38 : decode cX12_bound 38 = .ok (.iload 4, 2) := by decide +kernel
theorem dX12_bound_40 : decode cX12_bound 40 = .ok (.iastore, 1) := by decide +kernel
theorem dX12_bound_41 : decode cX12_bound 41 = .ok (.aload_n 0, 1) := by decide +kernel
theorem dX12_bound_42 : decode cX12_bound 42 = .ok (.dup, 1) := by decide +kernel
theorem dX12_bound_43 : decode cX12_bound 43 = .ok (.getfield 480, 3) := by decide +kernel
theorem dX12_bound_46 : decode cX12_bound 46 = .ok (.iconst 1, 1) := by decide +kernel
theorem dX12_bound_47 : decode cX12_bound 47 = .ok (.iadd, 1) := by decide +kernel
theorem dX12_bound_48 : decode cX12_bound 48 = .ok (.putfield 480, 3) := by decide +kernel
theorem pk_LandSurveyModel_62 : pk RX12 TX12 87 62 tyX12 false := ⟨tyX12_ok, nmX12, rfl⟩
theorem dX12_bound_51 : decode cX12_bound 51 = .ok (.return_, 1) := by decide +kernel
abbrev cX12_span : ByteArray := prog_14_method_67_code
def yX12_span : MethodName := ⟨RX12, "span", "(IIIII)V"⟩
theorem okX12_span : yok yX12_span 5 := by decide +kernel
theorem dX12_span_0 : decode cX12_span 0 = .ok (.aload_n 0, 1) := by decide +kernel
theorem dX12_span_1 : decode cX12_span 1 = .ok (.iload_n 1, 1) := by decide +kernel
theorem dX12_span_2 : decode cX12_span 2 = .ok (.iload_n 2, 1) := by decide +kernel
theorem dX12_span_3 : decode cX12_span 3 = .ok (.iload 4, 2) := by decide +kernel
theorem dX12_span_5 : decode cX12_span 5 = .ok (.iload 5, 2) := by decide +kernel
theorem dX12_span_7 : decode cX12_span 7 = .ok (.invokevirtual 483, 3) := by decide +kernel
theorem kw_2051 : Cond.code yX12_bound prog_14_method_66_code 5 none ∈ uu := uu_in (i := 2051) (by decide +kernel) (by decide +kernel)
theorem kw_2048 : Cond.methodLink "LandSurveyModel" 483 yX12_bound ∈ uu := uu_in (i := 2048) (by decide +kernel) (by decide +kernel)
theorem kw_2050 : Cond.instanceMethod yX12_bound ∈ uu := uu_in (i := 2050) (by decide +kernel) (by decide +kernel)
theorem kw_114 : Cond.selects "LandSurveyModel" yX12_bound yX12_bound ∈ uu := uu_in (i := 114) (by decide +kernel) (by decide +kernel)
theorem lk_LandSurveyModel_483 : lkV "LandSurveyModel" 483 yX12_bound cX12_bound 5 none 4 := ⟨kw_2048, kw_2050, kw_114, kw_152, kw_2051, okX12_bound⟩
theorem dX12_span_10 : decode cX12_span 10 = .ok (.aload_n 0, 1) := by decide +kernel
theorem dX12_span_11 : decode cX12_span 11 = .ok (.iload_n 2, 1) := by decide +kernel
theorem dX12_span_12 : decode cX12_span 12 = .ok (.iload_n 1, 1) := by decide +kernel
theorem dX12_span_13 : decode cX12_span 13 = .ok (.iload_n 3, 1) := by decide +kernel
theorem dX12_span_14 : decode cX12_span 14 = .ok (.ineg, 1) := by decide +kernel
theorem dX12_span_15 : decode cX12_span 15 = .ok (.iload 5, 2) := by decide +kernel
theorem dX12_span_17 : decode cX12_span 17 = .ok (.invokevirtual 483, 3) := by decide +kernel
theorem dX12_span_20 : decode cX12_span 20 = .ok (.return_, 1) := by decide +kernel
abbrev cX12_sideBounds : ByteArray := prog_14_method_72_code
def yX12_sideBounds : MethodName := ⟨RX12, "sideBounds", "(IIIIJ)V"⟩
theorem okX12_sideBounds : yok yX12_sideBounds 5 := by decide +kernel
theorem dX12_sideBounds_0 : decode cX12_sideBounds 0 = .ok (.aload_n 0, 1) := by decide +kernel
theorem dX12_sideBounds_1 : decode cX12_sideBounds 1 = .ok (.iload_n 3, 1) := by decide +kernel
theorem dX12_sideBounds_2 : decode cX12_sideBounds 2 = .ok (.iload 4, 2) := by decide +kernel
theorem dX12_sideBounds_4 : decode cX12_sideBounds 4 = .ok (.invokevirtual 494, 3) := by decide +kernel
theorem kw_2043 : Cond.code yX12_breakOn prog_14_method_69_code 4 (some .int) ∈ uu := uu_in (i := 2043) (by decide +kernel) (by decide +kernel)
theorem kw_2040 : Cond.methodLink "LandSurveyModel" 494 yX12_breakOn ∈ uu := uu_in (i := 2040) (by decide +kernel) (by decide +kernel)
theorem kw_2042 : Cond.instanceMethod yX12_breakOn ∈ uu := uu_in (i := 2042) (by decide +kernel) (by decide +kernel)
theorem kw_112 : Cond.selects "LandSurveyModel" yX12_breakOn yX12_breakOn ∈ uu := uu_in (i := 112) (by decide +kernel) (by decide +kernel)
theorem lk_LandSurveyModel_494 : lkV "LandSurveyModel" 494 yX12_breakOn cX12_breakOn 4 (some .int) 2 := ⟨kw_2040, kw_2042, kw_112, kw_152, kw_2043, okX12_breakOn⟩
theorem dX12_sideBounds_7 : decode cX12_sideBounds 7 = .ok (.istore 7, 2) := by decide +kernel
theorem dX12_sideBounds_9 : decode cX12_sideBounds 9 = .ok (.iload 7, 2) := by decide +kernel
theorem dX12_sideBounds_11 : decode cX12_sideBounds 11 = .ok (.ifCond .lt 25, 3) := by decide +kernel
theorem dX12_sideBounds_36 : decode cX12_sideBounds 36 = .ok (.iconst 0, 1) := by decide +kernel
theorem dX12_sideBounds_37 : decode cX12_sideBounds 37 = .ok (.istore 8, 2) := by decide +kernel
theorem dX12_sideBounds_39 : decode cX12_sideBounds 39 = .ok (.iconst 0, 1) := by decide +kernel
theorem dX12_sideBounds_40 : decode cX12_sideBounds 40 = .ok (.istore 9, 2) := by decide +kernel
theorem dX12_sideBounds_42 : decode cX12_sideBounds 42 = .ok (.iload 9, 2) := by decide +kernel
theorem dX12_sideBounds_44 : decode cX12_sideBounds 44 = .ok (.aload_n 0, 1) := by decide +kernel
theorem dX12_sideBounds_45 : decode cX12_sideBounds 45 = .ok (.getfield 423, 3) := by decide +kernel
theorem dX12_sideBounds_48 : decode cX12_sideBounds 48 = .ok (.if_icmp .ge 117, 3) := by decide +kernel
theorem dX12_sideBounds_165 : decode cX12_sideBounds 165 = .ok (.iload 8, 2) := by decide +kernel
theorem dX12_sideBounds_167 : decode cX12_sideBounds 167 = .ok (.ifCond .ne 38, 3) := by decide +kernel
theorem dX12_sideBounds_205 : decode cX12_sideBounds 205 = .ok (.return_, 1) := by decide +kernel
theorem dX12_sideBounds_170 : decode cX12_sideBounds 170 = .ok (.aload_n 0, 1) := by decide +kernel
theorem dX12_sideBounds_171 : decode cX12_sideBounds 171 = .ok (.invokevirtual 432, 3) := by decide +kernel
theorem dX12_sideBounds_174 : decode cX12_sideBounds 174 = .ok (.ifCond .ge 8, 3) := by decide +kernel
theorem dX12_sideBounds_182 : decode cX12_sideBounds 182 = .ok (.aload_n 0, 1) := by decide +kernel
theorem dX12_sideBounds_183 : decode cX12_sideBounds 183 = .ok (.getfield 122, 3) := by decide +kernel
theorem dX12_sideBounds_186 : decode cX12_sideBounds 186 = .ok (.aload_n 0, 1) := by decide +kernel
theorem dX12_sideBounds_187 : decode cX12_sideBounds 187 = .ok (.invokevirtual 432, 3) := by decide +kernel
theorem dX12_sideBounds_190 : decode cX12_sideBounds 190 = .ok (.iaload, 1) := by decide +kernel
theorem dX12_sideBounds_191 : decode cX12_sideBounds 191 = .ok (.istore 9, 2) := by decide +kernel
theorem dX12_sideBounds_193 : decode cX12_sideBounds 193 = .ok (.aload_n 0, 1) := by decide +kernel
theorem dX12_sideBounds_194 : decode cX12_sideBounds 194 = .ok (.iload_n 1, 1) := by decide +kernel
theorem dX12_sideBounds_195 : decode cX12_sideBounds 195 = .ok (.iload_n 2, 1) := by decide +kernel
theorem dX12_sideBounds_196 : decode cX12_sideBounds 196 = .ok (.iload 9, 2) := by decide +kernel
theorem dX12_sideBounds_198 : decode cX12_sideBounds 198 = .ok (.ineg, 1) := by decide +kernel
theorem dX12_sideBounds_199 : decode cX12_sideBounds 199 = .ok (.iload 9, 2) := by decide +kernel
theorem dX12_sideBounds_201 : decode cX12_sideBounds 201 = .ok (.iconst (-1), 1) := by decide +kernel
theorem dX12_sideBounds_202 : decode cX12_sideBounds 202 = .ok (.invokevirtual 497, 3) := by decide +kernel
theorem kw_2047 : Cond.code yX12_span prog_14_method_67_code 6 none ∈ uu := uu_in (i := 2047) (by decide +kernel) (by decide +kernel)
theorem kw_2044 : Cond.methodLink "LandSurveyModel" 497 yX12_span ∈ uu := uu_in (i := 2044) (by decide +kernel) (by decide +kernel)
theorem kw_2046 : Cond.instanceMethod yX12_span ∈ uu := uu_in (i := 2046) (by decide +kernel) (by decide +kernel)
theorem kw_113 : Cond.selects "LandSurveyModel" yX12_span yX12_span ∈ uu := uu_in (i := 113) (by decide +kernel) (by decide +kernel)
theorem lk_LandSurveyModel_497 : lkV "LandSurveyModel" 497 yX12_span cX12_span 6 none 5 := ⟨kw_2044, kw_2046, kw_113, kw_152, kw_2047, okX12_span⟩
theorem dX12_sideBounds_177 : decode cX12_sideBounds 177 = .ok (.bipush 10, 2) := by decide +kernel
theorem dX12_sideBounds_179 : decode cX12_sideBounds 179 = .ok (.goto 12, 3) := by decide +kernel
theorem dX12_sideBounds_51 : decode cX12_sideBounds 51 = .ok (.aload_n 0, 1) := by decide +kernel
theorem dX12_sideBounds_52 : decode cX12_sideBounds 52 = .ok (.iload 9, 2) := by decide +kernel
theorem dX12_sideBounds_54 : decode cX12_sideBounds 54 = .ok (.iload_n 1, 1) := by decide +kernel
theorem dX12_sideBounds_55 : decode cX12_sideBounds 55 = .ok (.iload_n 2, 1) := by decide +kernel
theorem dX12_sideBounds_56 : decode cX12_sideBounds 56 = .ok (.lload 5, 2) := by decide +kernel
theorem dX12_sideBounds_58 : decode cX12_sideBounds 58 = .ok (.invokevirtual 501, 3) := by decide +kernel
theorem kw_2055 : Cond.code yX12_dips prog_14_method_71_code 6 (some .boolean) ∈ uu := uu_in (i := 2055) (by decide +kernel) (by decide +kernel)
theorem kw_2052 : Cond.methodLink "LandSurveyModel" 501 yX12_dips ∈ uu := uu_in (i := 2052) (by decide +kernel) (by decide +kernel)
theorem kw_2054 : Cond.instanceMethod yX12_dips ∈ uu := uu_in (i := 2054) (by decide +kernel) (by decide +kernel)
theorem kw_115 : Cond.selects "LandSurveyModel" yX12_dips yX12_dips ∈ uu := uu_in (i := 115) (by decide +kernel) (by decide +kernel)
theorem lk_LandSurveyModel_501 : lkV "LandSurveyModel" 501 yX12_dips cX12_dips 6 (some .boolean) 4 := ⟨kw_2052, kw_2054, kw_115, kw_152, kw_2055, okX12_dips⟩
theorem dX12_sideBounds_61 : decode cX12_sideBounds 61 = .ok (.ifCond .eq 44, 3) := by decide +kernel
theorem dX12_sideBounds_105 : decode cX12_sideBounds 105 = .ok (.aload_n 0, 1) := by decide +kernel
theorem dX12_sideBounds_106 : decode cX12_sideBounds 106 = .ok (.iload 9, 2) := by decide +kernel
theorem dX12_sideBounds_108 : decode cX12_sideBounds 108 = .ok (.iload_n 2, 1) := by decide +kernel
theorem dX12_sideBounds_109 : decode cX12_sideBounds 109 = .ok (.iload_n 1, 1) := by decide +kernel
theorem dX12_sideBounds_110 : decode cX12_sideBounds 110 = .ok (.lload 5, 2) := by decide +kernel
theorem dX12_sideBounds_112 : decode cX12_sideBounds 112 = .ok (.invokevirtual 501, 3) := by decide +kernel
theorem dX12_sideBounds_115 : decode cX12_sideBounds 115 = .ok (.ifCond .eq 44, 3) := by decide +kernel
theorem dX12_sideBounds_159 : decode cX12_sideBounds 159 = .ok (.iinc 9 1, 3) := by decide +kernel
theorem dX12_sideBounds_162 : decode cX12_sideBounds 162 = .ok (.goto (-120), 3) := by decide +kernel
theorem dX12_sideBounds_118 : decode cX12_sideBounds 118 = .ok (.aload_n 0, 1) := by decide +kernel
theorem dX12_sideBounds_119 : decode cX12_sideBounds 119 = .ok (.iload_n 2, 1) := by decide +kernel
theorem dX12_sideBounds_120 : decode cX12_sideBounds 120 = .ok (.iload_n 1, 1) := by decide +kernel
theorem dX12_sideBounds_121 : decode cX12_sideBounds 121 = .ok (.aload_n 0, 1) := by decide +kernel
theorem dX12_sideBounds_122 : decode cX12_sideBounds 122 = .ok (.getfield 197, 3) := by decide +kernel
theorem dX12_sideBounds_125 : decode cX12_sideBounds 125 = .ok (.iload 9, 2) := by decide +kernel
theorem dX12_sideBounds_127 : decode cX12_sideBounds 127 = .ok (.iaload, 1) := by decide +kernel
theorem dX12_sideBounds_128 : decode cX12_sideBounds 128 = .ok (.aload_n 0, 1) := by decide +kernel
theorem dX12_sideBounds_129 : decode cX12_sideBounds 129 = .ok (.getfield 200, 3) := by decide +kernel
theorem dX12_sideBounds_132 : decode cX12_sideBounds 132 = .ok (.iload 9, 2) := by decide +kernel
theorem dX12_sideBounds_134 : decode cX12_sideBounds 134 = .ok (.iaload, 1) := by decide +kernel
theorem dX12_sideBounds_135 : decode cX12_sideBounds 135 = .ok (.isub, 1) := by decide +kernel
theorem dX12_sideBounds_136 : decode cX12_sideBounds 136 = .ok (.aload_n 0, 1) := by decide +kernel
theorem dX12_sideBounds_137 : decode cX12_sideBounds 137 = .ok (.getfield 197, 3) := by decide +kernel
theorem dX12_sideBounds_140 : decode cX12_sideBounds 140 = .ok (.iload 9, 2) := by decide +kernel
theorem dX12_sideBounds_142 : decode cX12_sideBounds 142 = .ok (.iaload, 1) := by decide +kernel
theorem dX12_sideBounds_143 : decode cX12_sideBounds 143 = .ok (.aload_n 0, 1) := by decide +kernel
theorem dX12_sideBounds_144 : decode cX12_sideBounds 144 = .ok (.getfield 200, 3) := by decide +kernel
theorem dX12_sideBounds_147 : decode cX12_sideBounds 147 = .ok (.iload 9, 2) := by decide +kernel
theorem dX12_sideBounds_149 : decode cX12_sideBounds 149 = .ok (.iaload, 1) := by decide +kernel
theorem dX12_sideBounds_150 : decode cX12_sideBounds 150 = .ok (.iadd, 1) := by decide +kernel
theorem dX12_sideBounds_151 : decode cX12_sideBounds 151 = .ok (.iload 9, 2) := by decide +kernel
theorem dX12_sideBounds_153 : decode cX12_sideBounds 153 = .ok (.invokevirtual 497, 3) := by decide +kernel
theorem dX12_sideBounds_156 : decode cX12_sideBounds 156 = .ok (.iconst 1, 1) := by decide +kernel
theorem dX12_sideBounds_157 : decode cX12_sideBounds 157 = .ok (.istore 8, 2) := by decide +kernel
theorem dX12_sideBounds_64 : decode cX12_sideBounds 64 = .ok (.aload_n 0, 1) := by decide +kernel
theorem dX12_sideBounds_65 : decode cX12_sideBounds 65 = .ok (.iload_n 1, 1) := by decide +kernel
theorem dX12_sideBounds_66 : decode cX12_sideBounds 66 = .ok (.iload_n 2, 1) := by decide +kernel
theorem dX12_sideBounds_67 : decode cX12_sideBounds 67 = .ok (.aload_n 0, 1) := by decide +kernel
theorem dX12_sideBounds_68 : decode cX12_sideBounds 68 = .ok (.getfield 197, 3) := by decide +kernel
theorem dX12_sideBounds_71 : decode cX12_sideBounds 71 = .ok (.iload 9, 2) := by decide +kernel
theorem dX12_sideBounds_73 : decode cX12_sideBounds 73 = .ok (.iaload, 1) := by decide +kernel
theorem dX12_sideBounds_74 : decode cX12_sideBounds 74 = .ok (.aload_n 0, 1) := by decide +kernel
theorem dX12_sideBounds_75 : decode cX12_sideBounds 75 = .ok (.getfield 200, 3) := by decide +kernel
theorem dX12_sideBounds_78 : decode cX12_sideBounds 78 = .ok (.iload 9, 2) := by decide +kernel
theorem dX12_sideBounds_80 : decode cX12_sideBounds 80 = .ok (.iaload, 1) := by decide +kernel
theorem dX12_sideBounds_81 : decode cX12_sideBounds 81 = .ok (.isub, 1) := by decide +kernel
theorem dX12_sideBounds_82 : decode cX12_sideBounds 82 = .ok (.aload_n 0, 1) := by decide +kernel
theorem dX12_sideBounds_83 : decode cX12_sideBounds 83 = .ok (.getfield 197, 3) := by decide +kernel
theorem dX12_sideBounds_86 : decode cX12_sideBounds 86 = .ok (.iload 9, 2) := by decide +kernel
theorem dX12_sideBounds_88 : decode cX12_sideBounds 88 = .ok (.iaload, 1) := by decide +kernel
theorem dX12_sideBounds_89 : decode cX12_sideBounds 89 = .ok (.aload_n 0, 1) := by decide +kernel
theorem dX12_sideBounds_90 : decode cX12_sideBounds 90 = .ok (.getfield 200, 3) := by decide +kernel
theorem dX12_sideBounds_93 : decode cX12_sideBounds 93 = .ok (.iload 9, 2) := by decide +kernel
theorem dX12_sideBounds_95 : decode cX12_sideBounds 95 = .ok (.iaload, 1) := by decide +kernel
theorem dX12_sideBounds_96 : decode cX12_sideBounds 96 = .ok (.iadd, 1) := by decide +kernel
theorem dX12_sideBounds_97 : decode cX12_sideBounds 97 = .ok (.iload 9, 2) := by decide +kernel
theorem dX12_sideBounds_99 : decode cX12_sideBounds 99 = .ok (.invokevirtual 497, 3) := by decide +kernel
theorem dX12_sideBounds_102 : decode cX12_sideBounds 102 = .ok (.iconst 1, 1) := by decide +kernel
theorem dX12_sideBounds_103 : decode cX12_sideBounds 103 = .ok (.istore 8, 2) := by decide +kernel
theorem dX12_sideBounds_14 : decode cX12_sideBounds 14 = .ok (.aload_n 0, 1) := by decide +kernel
theorem dX12_sideBounds_15 : decode cX12_sideBounds 15 = .ok (.iload_n 1, 1) := by decide +kernel
theorem dX12_sideBounds_16 : decode cX12_sideBounds 16 = .ok (.iload_n 2, 1) := by decide +kernel
theorem dX12_sideBounds_17 : decode cX12_sideBounds 17 = .ok (.aload_n 0, 1) := by decide +kernel
theorem dX12_sideBounds_18 : decode cX12_sideBounds 18 = .ok (.getfield 224, 3) := by decide +kernel
theorem kw_1565 : Cond.fieldLink "LandSurveyModel" 224 "LandSurveyModel" "throwLow" "[I" ∈ uu := uu_in (i := 1565) (by decide +kernel) (by decide +kernel)
theorem fk_LandSurveyModel_224 : fkR "LandSurveyModel" 224 11 59 RX12 TX12 87 := ⟨rfl, rfl, inX12, by decide, kw_1565, by decide⟩
theorem dX12_sideBounds_21 : decode cX12_sideBounds 21 = .ok (.iload 7, 2) := by decide +kernel
theorem dX12_sideBounds_23 : decode cX12_sideBounds 23 = .ok (.iaload, 1) := by decide +kernel
theorem dX12_sideBounds_24 : decode cX12_sideBounds 24 = .ok (.aload_n 0, 1) := by decide +kernel
theorem dX12_sideBounds_25 : decode cX12_sideBounds 25 = .ok (.getfield 227, 3) := by decide +kernel
theorem kw_1566 : Cond.fieldLink "LandSurveyModel" 227 "LandSurveyModel" "throwHigh" "[I" ∈ uu := uu_in (i := 1566) (by decide +kernel) (by decide +kernel)
theorem fk_LandSurveyModel_227 : fkR "LandSurveyModel" 227 11 60 RX12 TX12 87 := ⟨rfl, rfl, inX12, by decide, kw_1566, by decide⟩
theorem dX12_sideBounds_28 : decode cX12_sideBounds 28 = .ok (.iload 7, 2) := by decide +kernel
theorem dX12_sideBounds_30 : decode cX12_sideBounds 30 = .ok (.iaload, 1) := by decide +kernel
theorem dX12_sideBounds_31 : decode cX12_sideBounds 31 = .ok (.iconst (-1), 1) := by decide +kernel
theorem dX12_sideBounds_32 : decode cX12_sideBounds 32 = .ok (.invokevirtual 497, 3) := by decide +kernel
theorem dX12_sideBounds_35 : decode cX12_sideBounds 35 = .ok (.return_, 1) := by decide +kernel
abbrev cX12_findBounds : ByteArray := prog_14_method_73_code
def yX12_findBounds : MethodName := ⟨RX12, "findBounds", "(IJZ)V"⟩
theorem okX12_findBounds : yok yX12_findBounds 3 := by decide +kernel
theorem dX12_findBounds_0 : decode cX12_findBounds 0 = .ok (.aload_n 0, 1) := by decide +kernel
theorem dX12_findBounds_1 : decode cX12_findBounds 1 = .ok (.iconst 0, 1) := by decide +kernel
theorem dX12_findBounds_2 : decode cX12_findBounds 2 = .ok (.putfield 480, 3) := by decide +kernel
theorem dX12_findBounds_5 : decode cX12_findBounds 5 = .ok (.iconst 0, 1) := by decide +kernel
theorem dX12_findBounds_6 : decode cX12_findBounds 6 = .ok (.istore 5, 2) := by decide +kernel
theorem dX12_findBounds_8 : decode cX12_findBounds 8 = .ok (.iload 5, 2) := by decide +kernel
theorem dX12_findBounds_10 : decode cX12_findBounds 10 = .ok (.bipush 96, 2) := by decide +kernel
theorem dX12_findBounds_12 : decode cX12_findBounds 12 = .ok (.if_icmp .ge 61, 3) := by decide +kernel
theorem dX12_findBounds_73 : decode cX12_findBounds 73 = .ok (.iconst 0, 1) := by decide +kernel
theorem dX12_findBounds_74 : decode cX12_findBounds 74 = .ok (.istore 5, 2) := by decide +kernel
theorem dX12_findBounds_76 : decode cX12_findBounds 76 = .ok (.iload 5, 2) := by decide +kernel
theorem dX12_findBounds_78 : decode cX12_findBounds 78 = .ok (.aload_n 0, 1) := by decide +kernel
theorem dX12_findBounds_79 : decode cX12_findBounds 79 = .ok (.getfield 423, 3) := by decide +kernel
theorem dX12_findBounds_82 : decode cX12_findBounds 82 = .ok (.if_icmp .ge 62, 3) := by decide +kernel
theorem dX12_findBounds_144 : decode cX12_findBounds 144 = .ok (.return_, 1) := by decide +kernel
theorem dX12_findBounds_85 : decode cX12_findBounds 85 = .ok (.iload 4, 2) := by decide +kernel
theorem dX12_findBounds_87 : decode cX12_findBounds 87 = .ok (.ifCond .eq 57, 3) := by decide +kernel
theorem dX12_findBounds_90 : decode cX12_findBounds 90 = .ok (.aload_n 0, 1) := by decide +kernel
theorem dX12_findBounds_91 : decode cX12_findBounds 91 = .ok (.getfield 209, 3) := by decide +kernel
theorem dX12_findBounds_94 : decode cX12_findBounds 94 = .ok (.iload 5, 2) := by decide +kernel
theorem dX12_findBounds_96 : decode cX12_findBounds 96 = .ok (.baload, 1) := by decide +kernel
theorem dX12_findBounds_97 : decode cX12_findBounds 97 = .ok (.ifCond .eq 41, 3) := by decide +kernel
theorem dX12_findBounds_138 : decode cX12_findBounds 138 = .ok (.iinc 5 1, 3) := by decide +kernel
theorem dX12_findBounds_141 : decode cX12_findBounds 141 = .ok (.goto (-65), 3) := by decide +kernel
theorem dX12_findBounds_100 : decode cX12_findBounds 100 = .ok (.lload_n 2, 1) := by decide +kernel
theorem dX12_findBounds_101 : decode cX12_findBounds 101 = .ok (.iload 5, 2) := by decide +kernel
theorem dX12_findBounds_103 : decode cX12_findBounds 103 = .ok (.invokestatic 487, 3) := by decide +kernel
theorem dX12_findBounds_106 : decode cX12_findBounds 106 = .ok (.ifCond .ne 32, 3) := by decide +kernel
theorem dX12_findBounds_109 : decode cX12_findBounds 109 = .ok (.aload_n 0, 1) := by decide +kernel
theorem dX12_findBounds_110 : decode cX12_findBounds 110 = .ok (.bipush 96, 2) := by decide +kernel
theorem dX12_findBounds_112 : decode cX12_findBounds 112 = .ok (.aload_n 0, 1) := by decide +kernel
theorem dX12_findBounds_113 : decode cX12_findBounds 113 = .ok (.getfield 176, 3) := by decide +kernel
theorem dX12_findBounds_116 : decode cX12_findBounds 116 = .ok (.iload 5, 2) := by decide +kernel
theorem dX12_findBounds_118 : decode cX12_findBounds 118 = .ok (.iaload, 1) := by decide +kernel
theorem dX12_findBounds_119 : decode cX12_findBounds 119 = .ok (.aload_n 0, 1) := by decide +kernel
theorem dX12_findBounds_120 : decode cX12_findBounds 120 = .ok (.getfield 212, 3) := by decide +kernel
theorem dX12_findBounds_123 : decode cX12_findBounds 123 = .ok (.iload 5, 2) := by decide +kernel
theorem dX12_findBounds_125 : decode cX12_findBounds 125 = .ok (.iaload, 1) := by decide +kernel
theorem dX12_findBounds_126 : decode cX12_findBounds 126 = .ok (.aload_n 0, 1) := by decide +kernel
theorem dX12_findBounds_127 : decode cX12_findBounds 127 = .ok (.getfield 215, 3) := by decide +kernel
theorem dX12_findBounds_130 : decode cX12_findBounds 130 = .ok (.iload 5, 2) := by decide +kernel
theorem dX12_findBounds_132 : decode cX12_findBounds 132 = .ok (.iaload, 1) := by decide +kernel
theorem dX12_findBounds_133 : decode cX12_findBounds 133 = .ok (.iload 5, 2) := by decide +kernel
theorem dX12_findBounds_135 : decode cX12_findBounds 135 = .ok (.invokevirtual 497, 3) := by decide +kernel
theorem dX12_findBounds_15 : decode cX12_findBounds 15 = .ok (.iload 5, 2) := by decide +kernel
theorem dX12_findBounds_17 : decode cX12_findBounds 17 = .ok (.bipush 12, 2) := by decide +kernel
theorem dX12_findBounds_19 : decode cX12_findBounds 19 = .ok (.irem, 1) := by decide +kernel
theorem dX12_findBounds_20 : decode cX12_findBounds 20 = .ok (.bipush 11, 2) := by decide +kernel
theorem dX12_findBounds_22 : decode cX12_findBounds 22 = .ok (.if_icmp .ge 17, 3) := by decide +kernel
theorem dX12_findBounds_39 : decode cX12_findBounds 39 = .ok (.iload 5, 2) := by decide +kernel
theorem dX12_findBounds_41 : decode cX12_findBounds 41 = .ok (.bipush 12, 2) := by decide +kernel
theorem dX12_findBounds_43 : decode cX12_findBounds 43 = .ok (.idiv, 1) := by decide +kernel
theorem dX12_findBounds_44 : decode cX12_findBounds 44 = .ok (.bipush 7, 2) := by decide +kernel
theorem dX12_findBounds_46 : decode cX12_findBounds 46 = .ok (.if_icmp .ge 21, 3) := by decide +kernel
theorem dX12_findBounds_67 : decode cX12_findBounds 67 = .ok (.iinc 5 1, 3) := by decide +kernel
theorem dX12_findBounds_70 : decode cX12_findBounds 70 = .ok (.goto (-62), 3) := by decide +kernel
theorem dX12_findBounds_49 : decode cX12_findBounds 49 = .ok (.aload_n 0, 1) := by decide +kernel
theorem dX12_findBounds_50 : decode cX12_findBounds 50 = .ok (.iload 5, 2) := by decide +kernel
theorem dX12_findBounds_52 : decode cX12_findBounds 52 = .ok (.iload 5, 2) := by decide +kernel
theorem dX12_findBounds_54 : decode cX12_findBounds 54 = .ok (.bipush 12, 2) := by decide +kernel
theorem dX12_findBounds_56 : decode cX12_findBounds 56 = .ok (.iadd, 1) := by decide +kernel
theorem dX12_findBounds_57 : decode cX12_findBounds 57 = .ok (.bipush 96, 2) := by decide +kernel
theorem dX12_findBounds_59 : decode cX12_findBounds 59 = .ok (.iload 5, 2) := by decide +kernel
theorem dX12_findBounds_61 : decode cX12_findBounds 61 = .ok (.iadd, 1) := by decide +kernel
theorem dX12_findBounds_62 : decode cX12_findBounds 62 = .ok (.iload_n 1, 1) := by decide +kernel
theorem dX12_findBounds_63 : decode cX12_findBounds 63 = .ok (.lload_n 2, 1) := by decide +kernel
theorem dX12_findBounds_64 : decode cX12_findBounds 64 = .ok (.invokevirtual 505, 3) := by decide +kernel
theorem kw_2039 : Cond.code yX12_sideBounds prog_14_method_72_code 10 none ∈ uu := uu_in (i := 2039) (by decide +kernel) (by decide +kernel)
theorem kw_2036 : Cond.methodLink "LandSurveyModel" 505 yX12_sideBounds ∈ uu := uu_in (i := 2036) (by decide +kernel) (by decide +kernel)
theorem kw_2038 : Cond.instanceMethod yX12_sideBounds ∈ uu := uu_in (i := 2038) (by decide +kernel) (by decide +kernel)
theorem kw_111 : Cond.selects "LandSurveyModel" yX12_sideBounds yX12_sideBounds ∈ uu := uu_in (i := 111) (by decide +kernel) (by decide +kernel)
theorem lk_LandSurveyModel_505 : lkV "LandSurveyModel" 505 yX12_sideBounds cX12_sideBounds 10 none 5 := ⟨kw_2036, kw_2038, kw_111, kw_152, kw_2039, okX12_sideBounds⟩
theorem dX12_findBounds_25 : decode cX12_findBounds 25 = .ok (.aload_n 0, 1) := by decide +kernel
theorem dX12_findBounds_26 : decode cX12_findBounds 26 = .ok (.iload 5, 2) := by decide +kernel
theorem dX12_findBounds_28 : decode cX12_findBounds 28 = .ok (.iload 5, 2) := by decide +kernel
theorem dX12_findBounds_30 : decode cX12_findBounds 30 = .ok (.iconst 1, 1) := by decide +kernel
theorem dX12_findBounds_31 : decode cX12_findBounds 31 = .ok (.iadd, 1) := by decide +kernel
theorem dX12_findBounds_32 : decode cX12_findBounds 32 = .ok (.iload 5, 2) := by decide +kernel
theorem dX12_findBounds_34 : decode cX12_findBounds 34 = .ok (.iload_n 1, 1) := by decide +kernel
theorem dX12_findBounds_35 : decode cX12_findBounds 35 = .ok (.lload_n 2, 1) := by decide +kernel
theorem dX12_findBounds_36 : decode cX12_findBounds 36 = .ok (.invokevirtual 505, 3) := by decide +kernel
abbrev cX12_findRing : ByteArray := prog_14_method_75_code
def yX12_findRing : MethodName := ⟨RX12, "findRing", "(I)V"⟩
theorem okX12_findRing : yok yX12_findRing 1 := by decide +kernel
theorem kw_1575 : Cond.fieldLink "LandSurveyModel" 512 "LandSurveyModel" "ring" "J" ∈ uu := uu_in (i := 1575) (by decide +kernel) (by decide +kernel)
theorem fk_LandSurveyModel_512 : fkJ "LandSurveyModel" 512 11 69 RX12 TX12 87 := ⟨rfl, rfl, inX12, by decide, kw_1575, by decide⟩
theorem dX12_findRing_0 : decode cX12_findRing 0 = .ok (.iload_n 1, 1) := by decide +kernel
theorem dX12_findRing_1 : decode cX12_findRing 1 = .ok (.istore_n 2, 1) := by decide +kernel
theorem dX12_findRing_2 : decode cX12_findRing 2 = .ok (.iconst 0, 1) := by decide +kernel
theorem dX12_findRing_3 : decode cX12_findRing 3 = .ok (.istore_n 3, 1) := by decide +kernel
theorem dX12_findRing_4 : decode cX12_findRing 4 = .ok (.iload_n 3, 1) := by decide +kernel
theorem dX12_findRing_5 : decode cX12_findRing 5 = .ok (.bipush 97, 2) := by decide +kernel
theorem dX12_findRing_7 : decode cX12_findRing 7 = .ok (.if_icmp .ge 21, 3) := by decide +kernel
theorem dX12_findRing_28 : decode cX12_findRing 28 = .ok (.aload_n 0, 1) := by decide +kernel
theorem dX12_findRing_29 : decode cX12_findRing 29 = .ok (.lconst 0, 1) := by decide +kernel
theorem dX12_findRing_30 : decode cX12_findRing 30 = .ok (.putfield 512, 3) := by decide +kernel
theorem pk_LandSurveyModel_69 : pk RX12 TX12 87 69 tyX12 false := ⟨tyX12_ok, nmX12, rfl⟩
theorem dX12_findRing_33 : decode cX12_findRing 33 = .ok (.iload_n 2, 1) := by decide +kernel
theorem dX12_findRing_34 : decode cX12_findRing 34 = .ok (.istore_n 3, 1) := by decide +kernel
theorem dX12_findRing_35 : decode cX12_findRing 35 = .ok (.iconst 1, 1) := by decide +kernel
theorem dX12_findRing_36 : decode cX12_findRing 36 = .ok (.istore 4, 2) := by decide +kernel
theorem dX12_findRing_38 : decode cX12_findRing 38 = .ok (.iload 4, 2) := by decide +kernel
theorem dX12_findRing_40 : decode cX12_findRing 40 = .ok (.ifCond .eq 70, 3) := by decide +kernel
theorem dX12_findRing_110 : decode cX12_findRing 110 = .ok (.return_, 1) := by decide +kernel
theorem dX12_findRing_43 : decode cX12_findRing 43 = .ok (.aload_n 0, 1) := by decide +kernel
theorem dX12_findRing_44 : decode cX12_findRing 44 = .ok (.dup, 1) := by decide +kernel
theorem dX12_findRing_45 : decode cX12_findRing 45 = .ok (.getfield 512, 3) := by decide +kernel
theorem dX12_findRing_48 : decode cX12_findRing 48 = .ok (.aload_n 0, 1) := by decide +kernel
theorem dX12_findRing_49 : decode cX12_findRing 49 = .ok (.getfield 242, 3) := by decide +kernel
theorem dX12_findRing_52 : decode cX12_findRing 52 = .ok (.aload_n 0, 1) := by decide +kernel
theorem dX12_findRing_53 : decode cX12_findRing 53 = .ok (.getfield 248, 3) := by decide +kernel
theorem kw_1574 : Cond.fieldLink "LandSurveyModel" 248 "LandSurveyModel" "by" "[I" ∈ uu := uu_in (i := 1574) (by decide +kernel) (by decide +kernel)
theorem fk_LandSurveyModel_248 : fkR "LandSurveyModel" 248 11 68 RX12 TX12 87 := ⟨rfl, rfl, inX12, by decide, kw_1574, by decide⟩
theorem dX12_findRing_56 : decode cX12_findRing 56 = .ok (.iload_n 3, 1) := by decide +kernel
theorem dX12_findRing_57 : decode cX12_findRing 57 = .ok (.iaload, 1) := by decide +kernel
theorem dX12_findRing_58 : decode cX12_findRing 58 = .ok (.iaload, 1) := by decide +kernel
theorem dX12_findRing_59 : decode cX12_findRing 59 = .ok (.ifCond .lt 19, 3) := by decide +kernel
theorem dX12_findRing_78 : decode cX12_findRing 78 = .ok (.lconst 0, 1) := by decide +kernel
theorem dX12_findRing_79 : decode cX12_findRing 79 = .ok (.lor, 1) := by decide +kernel
theorem dX12_findRing_80 : decode cX12_findRing 80 = .ok (.putfield 512, 3) := by decide +kernel
theorem dX12_findRing_83 : decode cX12_findRing 83 = .ok (.aload_n 0, 1) := by decide +kernel
theorem dX12_findRing_84 : decode cX12_findRing 84 = .ok (.getfield 233, 3) := by decide +kernel
theorem dX12_findRing_87 : decode cX12_findRing 87 = .ok (.aload_n 0, 1) := by decide +kernel
theorem dX12_findRing_88 : decode cX12_findRing 88 = .ok (.getfield 248, 3) := by decide +kernel
theorem dX12_findRing_91 : decode cX12_findRing 91 = .ok (.iload_n 3, 1) := by decide +kernel
theorem dX12_findRing_92 : decode cX12_findRing 92 = .ok (.iaload, 1) := by decide +kernel
theorem dX12_findRing_93 : decode cX12_findRing 93 = .ok (.iaload, 1) := by decide +kernel
theorem dX12_findRing_94 : decode cX12_findRing 94 = .ok (.istore_n 3, 1) := by decide +kernel
theorem dX12_findRing_95 : decode cX12_findRing 95 = .ok (.iload_n 3, 1) := by decide +kernel
theorem dX12_findRing_96 : decode cX12_findRing 96 = .ok (.iload_n 2, 1) := by decide +kernel
theorem dX12_findRing_97 : decode cX12_findRing 97 = .ok (.if_icmp .eq 7, 3) := by decide +kernel
theorem dX12_findRing_104 : decode cX12_findRing 104 = .ok (.iconst 0, 1) := by decide +kernel
theorem dX12_findRing_105 : decode cX12_findRing 105 = .ok (.istore 4, 2) := by decide +kernel
theorem dX12_findRing_107 : decode cX12_findRing 107 = .ok (.goto (-69), 3) := by decide +kernel
theorem dX12_findRing_100 : decode cX12_findRing 100 = .ok (.iconst 1, 1) := by decide +kernel
theorem dX12_findRing_101 : decode cX12_findRing 101 = .ok (.goto 4, 3) := by decide +kernel
theorem dX12_findRing_62 : decode cX12_findRing 62 = .ok (.lconst 1, 1) := by decide +kernel
theorem dX12_findRing_63 : decode cX12_findRing 63 = .ok (.aload_n 0, 1) := by decide +kernel
theorem dX12_findRing_64 : decode cX12_findRing 64 = .ok (.getfield 242, 3) := by decide +kernel
theorem dX12_findRing_67 : decode cX12_findRing 67 = .ok (.aload_n 0, 1) := by decide +kernel
theorem dX12_findRing_68 : decode cX12_findRing 68 = .ok (.getfield 248, 3) := by decide +kernel
theorem dX12_findRing_71 : decode cX12_findRing 71 = .ok (.iload_n 3, 1) := by decide +kernel
theorem dX12_findRing_72 : decode cX12_findRing 72 = .ok (.iaload, 1) := by decide +kernel
theorem dX12_findRing_73 : decode cX12_findRing 73 = .ok (.iaload, 1) := by decide +kernel
theorem dX12_findRing_74 : decode cX12_findRing 74 = .ok (.lshl, 1) := by decide +kernel
theorem dX12_findRing_75 : decode cX12_findRing 75 = .ok (.goto 4, 3) := by decide +kernel
theorem dX12_findRing_10 : decode cX12_findRing 10 = .ok (.aload_n 0, 1) := by decide +kernel
theorem dX12_findRing_11 : decode cX12_findRing 11 = .ok (.getfield 233, 3) := by decide +kernel
theorem dX12_findRing_14 : decode cX12_findRing 14 = .ok (.aload_n 0, 1) := by decide +kernel
theorem dX12_findRing_15 : decode cX12_findRing 15 = .ok (.getfield 248, 3) := by decide +kernel
theorem dX12_findRing_18 : decode cX12_findRing 18 = .ok (.iload_n 2, 1) := by decide +kernel
theorem dX12_findRing_19 : decode cX12_findRing 19 = .ok (.iaload, 1) := by decide +kernel
theorem dX12_findRing_20 : decode cX12_findRing 20 = .ok (.iaload, 1) := by decide +kernel
theorem dX12_findRing_21 : decode cX12_findRing 21 = .ok (.istore_n 2, 1) := by decide +kernel
theorem dX12_findRing_22 : decode cX12_findRing 22 = .ok (.iinc 3 1, 3) := by decide +kernel
theorem dX12_findRing_25 : decode cX12_findRing 25 = .ok (.goto (-21), 3) := by decide +kernel
abbrev cX12_goesTogether : ByteArray := prog_14_method_74_code
def yX12_goesTogether : MethodName := ⟨RX12, "goesTogether", "()Z"⟩
theorem okX12_goesTogether : yok yX12_goesTogether 0 := by decide +kernel
theorem dX12_goesTogether_0 : decode cX12_goesTogether 0 = .ok (.iconst 0, 1) := by decide +kernel
theorem dX12_goesTogether_1 : decode cX12_goesTogether 1 = .ok (.istore_n 1, 1) := by decide +kernel
theorem dX12_goesTogether_2 : decode cX12_goesTogether 2 = .ok (.iload_n 1, 1) := by decide +kernel
theorem dX12_goesTogether_3 : decode cX12_goesTogether 3 = .ok (.bipush 97, 2) := by decide +kernel
theorem dX12_goesTogether_5 : decode cX12_goesTogether 5 = .ok (.if_icmp .ge 23, 3) := by decide +kernel
theorem dX12_goesTogether_28 : decode cX12_goesTogether 28 = .ok (.iconst (-1), 1) := by decide +kernel
theorem dX12_goesTogether_29 : decode cX12_goesTogether 29 = .ok (.istore_n 1, 1) := by decide +kernel
theorem dX12_goesTogether_30 : decode cX12_goesTogether 30 = .ok (.iconst 0, 1) := by decide +kernel
theorem dX12_goesTogether_31 : decode cX12_goesTogether 31 = .ok (.istore_n 2, 1) := by decide +kernel
theorem dX12_goesTogether_32 : decode cX12_goesTogether 32 = .ok (.iload_n 2, 1) := by decide +kernel
theorem dX12_goesTogether_33 : decode cX12_goesTogether 33 = .ok (.bipush 98, 2) := by decide +kernel
theorem dX12_goesTogether_35 : decode cX12_goesTogether 35 = .ok (.if_icmp .ge 101, 3) := by decide +kernel
theorem dX12_goesTogether_136 : decode cX12_goesTogether 136 = .ok (.aload_n 0, 1) := by decide +kernel
theorem dX12_goesTogether_137 : decode cX12_goesTogether 137 = .ok (.iload_n 1, 1) := by decide +kernel
theorem dX12_goesTogether_138 : decode cX12_goesTogether 138 = .ok (.invokevirtual 509, 3) := by decide +kernel
theorem kw_2066 : Cond.code yX12_findRing prog_14_method_75_code 5 none ∈ uu := uu_in (i := 2066) (by decide +kernel) (by decide +kernel)
theorem kw_2063 : Cond.methodLink "LandSurveyModel" 509 yX12_findRing ∈ uu := uu_in (i := 2063) (by decide +kernel) (by decide +kernel)
theorem kw_2065 : Cond.instanceMethod yX12_findRing ∈ uu := uu_in (i := 2065) (by decide +kernel) (by decide +kernel)
theorem kw_117 : Cond.selects "LandSurveyModel" yX12_findRing yX12_findRing ∈ uu := uu_in (i := 117) (by decide +kernel) (by decide +kernel)
theorem lk_LandSurveyModel_509 : lkV "LandSurveyModel" 509 yX12_findRing cX12_findRing 5 none 1 := ⟨kw_2063, kw_2065, kw_117, kw_152, kw_2066, okX12_findRing⟩
theorem dX12_goesTogether_141 : decode cX12_goesTogether 141 = .ok (.iconst 0, 1) := by decide +kernel
theorem dX12_goesTogether_142 : decode cX12_goesTogether 142 = .ok (.ireturn, 1) := by decide +kernel
theorem dX12_goesTogether_38 : decode cX12_goesTogether 38 = .ok (.iconst (-1), 1) := by decide +kernel
theorem dX12_goesTogether_39 : decode cX12_goesTogether 39 = .ok (.istore_n 1, 1) := by decide +kernel
theorem dX12_goesTogether_40 : decode cX12_goesTogether 40 = .ok (.iconst 0, 1) := by decide +kernel
theorem dX12_goesTogether_41 : decode cX12_goesTogether 41 = .ok (.istore_n 3, 1) := by decide +kernel
theorem dX12_goesTogether_42 : decode cX12_goesTogether 42 = .ok (.iload_n 3, 1) := by decide +kernel
theorem dX12_goesTogether_43 : decode cX12_goesTogether 43 = .ok (.aload_n 0, 1) := by decide +kernel
theorem dX12_goesTogether_44 : decode cX12_goesTogether 44 = .ok (.getfield 480, 3) := by decide +kernel
theorem dX12_goesTogether_47 : decode cX12_goesTogether 47 = .ok (.if_icmp .ge 77, 3) := by decide +kernel
theorem dX12_goesTogether_124 : decode cX12_goesTogether 124 = .ok (.iload_n 1, 1) := by decide +kernel
theorem dX12_goesTogether_125 : decode cX12_goesTogether 125 = .ok (.ifCond .ge 5, 3) := by decide +kernel
theorem dX12_goesTogether_130 : decode cX12_goesTogether 130 = .ok (.iinc 2 1, 3) := by decide +kernel
theorem dX12_goesTogether_133 : decode cX12_goesTogether 133 = .ok (.goto (-101), 3) := by decide +kernel
theorem dX12_goesTogether_128 : decode cX12_goesTogether 128 = .ok (.iconst 1, 1) := by decide +kernel
theorem dX12_goesTogether_129 : decode cX12_goesTogether 129 = .ok (.ireturn, 1) := by decide +kernel
theorem dX12_goesTogether_50 : decode cX12_goesTogether 50 = .ok (.aload_n 0, 1) := by decide +kernel
theorem dX12_goesTogether_51 : decode cX12_goesTogether 51 = .ok (.getfield 245, 3) := by decide +kernel
theorem kw_1573 : Cond.fieldLink "LandSurveyModel" 245 "LandSurveyModel" "reach" "[I" ∈ uu := uu_in (i := 1573) (by decide +kernel) (by decide +kernel)
theorem fk_LandSurveyModel_245 : fkR "LandSurveyModel" 245 11 67 RX12 TX12 87 := ⟨rfl, rfl, inX12, by decide, kw_1573, by decide⟩
theorem dX12_goesTogether_54 : decode cX12_goesTogether 54 = .ok (.aload_n 0, 1) := by decide +kernel
theorem dX12_goesTogether_55 : decode cX12_goesTogether 55 = .ok (.getfield 233, 3) := by decide +kernel
theorem dX12_goesTogether_58 : decode cX12_goesTogether 58 = .ok (.iload_n 3, 1) := by decide +kernel
theorem dX12_goesTogether_59 : decode cX12_goesTogether 59 = .ok (.iaload, 1) := by decide +kernel
theorem dX12_goesTogether_60 : decode cX12_goesTogether 60 = .ok (.iaload, 1) := by decide +kernel
theorem dX12_goesTogether_61 : decode cX12_goesTogether 61 = .ok (.aload_n 0, 1) := by decide +kernel
theorem dX12_goesTogether_62 : decode cX12_goesTogether 62 = .ok (.getfield 239, 3) := by decide +kernel
theorem dX12_goesTogether_65 : decode cX12_goesTogether 65 = .ok (.iload_n 3, 1) := by decide +kernel
theorem dX12_goesTogether_66 : decode cX12_goesTogether 66 = .ok (.iaload, 1) := by decide +kernel
theorem dX12_goesTogether_67 : decode cX12_goesTogether 67 = .ok (.iadd, 1) := by decide +kernel
theorem dX12_goesTogether_68 : decode cX12_goesTogether 68 = .ok (.istore 4, 2) := by decide +kernel
theorem dX12_goesTogether_70 : decode cX12_goesTogether 70 = .ok (.iload 4, 2) := by decide +kernel
theorem dX12_goesTogether_72 : decode cX12_goesTogether 72 = .ok (.aload_n 0, 1) := by decide +kernel
theorem dX12_goesTogether_73 : decode cX12_goesTogether 73 = .ok (.getfield 245, 3) := by decide +kernel
theorem dX12_goesTogether_76 : decode cX12_goesTogether 76 = .ok (.aload_n 0, 1) := by decide +kernel
theorem dX12_goesTogether_77 : decode cX12_goesTogether 77 = .ok (.getfield 236, 3) := by decide +kernel
theorem dX12_goesTogether_80 : decode cX12_goesTogether 80 = .ok (.iload_n 3, 1) := by decide +kernel
theorem dX12_goesTogether_81 : decode cX12_goesTogether 81 = .ok (.iaload, 1) := by decide +kernel
theorem dX12_goesTogether_82 : decode cX12_goesTogether 82 = .ok (.iaload, 1) := by decide +kernel
theorem dX12_goesTogether_83 : decode cX12_goesTogether 83 = .ok (.if_icmp .ge 35, 3) := by decide +kernel
theorem dX12_goesTogether_118 : decode cX12_goesTogether 118 = .ok (.iinc 3 1, 3) := by decide +kernel
theorem dX12_goesTogether_121 : decode cX12_goesTogether 121 = .ok (.goto (-79), 3) := by decide +kernel
theorem dX12_goesTogether_86 : decode cX12_goesTogether 86 = .ok (.aload_n 0, 1) := by decide +kernel
theorem dX12_goesTogether_87 : decode cX12_goesTogether 87 = .ok (.getfield 245, 3) := by decide +kernel
theorem dX12_goesTogether_90 : decode cX12_goesTogether 90 = .ok (.aload_n 0, 1) := by decide +kernel
theorem dX12_goesTogether_91 : decode cX12_goesTogether 91 = .ok (.getfield 236, 3) := by decide +kernel
theorem dX12_goesTogether_94 : decode cX12_goesTogether 94 = .ok (.iload_n 3, 1) := by decide +kernel
theorem dX12_goesTogether_95 : decode cX12_goesTogether 95 = .ok (.iaload, 1) := by decide +kernel
theorem dX12_goesTogether_96 : decode cX12_goesTogether 96 = .ok (.iload 4, 2) := by decide +kernel
theorem dX12_goesTogether_98 : decode cX12_goesTogether 98 = .ok (.iastore, 1) := by decide +kernel
theorem dX12_goesTogether_99 : decode cX12_goesTogether 99 = .ok (.aload_n 0, 1) := by decide +kernel
theorem dX12_goesTogether_100 : decode cX12_goesTogether 100 = .ok (.getfield 248, 3) := by decide +kernel
theorem dX12_goesTogether_103 : decode cX12_goesTogether 103 = .ok (.aload_n 0, 1) := by decide +kernel
theorem dX12_goesTogether_104 : decode cX12_goesTogether 104 = .ok (.getfield 236, 3) := by decide +kernel
theorem dX12_goesTogether_107 : decode cX12_goesTogether 107 = .ok (.iload_n 3, 1) := by decide +kernel
theorem dX12_goesTogether_108 : decode cX12_goesTogether 108 = .ok (.iaload, 1) := by decide +kernel
theorem dX12_goesTogether_109 : decode cX12_goesTogether 109 = .ok (.iload_n 3, 1) := by decide +kernel
theorem dX12_goesTogether_110 : decode cX12_goesTogether 110 = .ok (.iastore, 1) := by decide +kernel
theorem dX12_goesTogether_111 : decode cX12_goesTogether 111 = .ok (.aload_n 0, 1) := by decide +kernel
theorem dX12_goesTogether_112 : decode cX12_goesTogether 112 = .ok (.getfield 236, 3) := by decide +kernel
theorem dX12_goesTogether_115 : decode cX12_goesTogether 115 = .ok (.iload_n 3, 1) := by decide +kernel
theorem dX12_goesTogether_116 : decode cX12_goesTogether 116 = .ok (.iaload, 1) := by decide +kernel
theorem dX12_goesTogether_117 : decode cX12_goesTogether 117 = .ok (.istore_n 1, 1) := by decide +kernel
theorem dX12_goesTogether_8 : decode cX12_goesTogether 8 = .ok (.aload_n 0, 1) := by decide +kernel
theorem dX12_goesTogether_9 : decode cX12_goesTogether 9 = .ok (.getfield 245, 3) := by decide +kernel
theorem dX12_goesTogether_12 : decode cX12_goesTogether 12 = .ok (.iload_n 1, 1) := by decide +kernel
theorem dX12_goesTogether_13 : decode cX12_goesTogether 13 = .ok (.iconst 0, 1) := by decide +kernel
theorem dX12_goesTogether_14 : decode cX12_goesTogether 14 = .ok (.iastore, 1) := by decide +kernel
theorem dX12_goesTogether_15 : decode cX12_goesTogether 15 = .ok (.aload_n 0, 1) := by decide +kernel
theorem dX12_goesTogether_16 : decode cX12_goesTogether 16 = .ok (.getfield 248, 3) := by decide +kernel
theorem dX12_goesTogether_19 : decode cX12_goesTogether 19 = .ok (.iload_n 1, 1) := by decide +kernel
theorem dX12_goesTogether_20 : decode cX12_goesTogether 20 = .ok (.iconst (-1), 1) := by decide +kernel
theorem dX12_goesTogether_21 : decode cX12_goesTogether 21 = .ok (.iastore, 1) := by decide +kernel
theorem dX12_goesTogether_22 : decode cX12_goesTogether 22 = .ok (.iinc 1 1, 3) := by decide +kernel
theorem dX12_goesTogether_25 : decode cX12_goesTogether 25 = .ok (.goto (-23), 3) := by decide +kernel
abbrev cX12_costOf : ByteArray := prog_14_method_76_code
def yX12_costOf : MethodName := ⟨RX12, "costOf", "(J)I"⟩
theorem okX12_costOf : yok yX12_costOf 1 := by decide +kernel
theorem dX12_costOf_0 : decode cX12_costOf 0 = .ok (.iconst 0, 1) := by decide +kernel
theorem dX12_costOf_1 : decode cX12_costOf 1 = .ok (.istore_n 3, 1) := by decide +kernel
theorem dX12_costOf_2 : decode cX12_costOf 2 = .ok (.iconst 0, 1) := by decide +kernel
theorem dX12_costOf_3 : decode cX12_costOf 3 = .ok (.istore 4, 2) := by decide +kernel
theorem dX12_costOf_5 : decode cX12_costOf 5 = .ok (.iload 4, 2) := by decide +kernel
theorem dX12_costOf_7 : decode cX12_costOf 7 = .ok (.aload_n 0, 1) := by decide +kernel
theorem dX12_costOf_8 : decode cX12_costOf 8 = .ok (.getfield 423, 3) := by decide +kernel
theorem dX12_costOf_11 : decode cX12_costOf 11 = .ok (.if_icmp .ge 32, 3) := by decide +kernel
theorem dX12_costOf_43 : decode cX12_costOf 43 = .ok (.iload_n 3, 1) := by decide +kernel
theorem dX12_costOf_44 : decode cX12_costOf 44 = .ok (.ireturn, 1) := by decide +kernel
theorem dX12_costOf_14 : decode cX12_costOf 14 = .ok (.iload_n 3, 1) := by decide +kernel
theorem dX12_costOf_15 : decode cX12_costOf 15 = .ok (.lload_n 1, 1) := by decide +kernel
theorem dX12_costOf_16 : decode cX12_costOf 16 = .ok (.iload 4, 2) := by decide +kernel
theorem dX12_costOf_18 : decode cX12_costOf 18 = .ok (.invokestatic 487, 3) := by decide +kernel
theorem dX12_costOf_21 : decode cX12_costOf 21 = .ok (.ifCond .eq 13, 3) := by decide +kernel
theorem dX12_costOf_34 : decode cX12_costOf 34 = .ok (.iconst 0, 1) := by decide +kernel
theorem dX12_costOf_35 : decode cX12_costOf 35 = .ok (.iadd, 1) := by decide +kernel
theorem dX12_costOf_36 : decode cX12_costOf 36 = .ok (.istore_n 3, 1) := by decide +kernel
theorem dX12_costOf_37 : decode cX12_costOf 37 = .ok (.iinc 4 1, 3) := by decide +kernel
theorem dX12_costOf_40 : decode cX12_costOf 40 = .ok (.goto (-35), 3) := by decide +kernel
theorem dX12_costOf_24 : decode cX12_costOf 24 = .ok (.aload_n 0, 1) := by decide +kernel
theorem dX12_costOf_25 : decode cX12_costOf 25 = .ok (.getfield 218, 3) := by decide +kernel
theorem dX12_costOf_28 : decode cX12_costOf 28 = .ok (.iload 4, 2) := by decide +kernel
theorem dX12_costOf_30 : decode cX12_costOf 30 = .ok (.iaload, 1) := by decide +kernel
theorem dX12_costOf_31 : decode cX12_costOf 31 = .ok (.goto 4, 3) := by decide +kernel
abbrev cX12_breaksCost : ByteArray := prog_14_method_77_code
def yX12_breaksCost : MethodName := ⟨RX12, "breaksCost", "(I)I"⟩
theorem okX12_breaksCost : yok yX12_breaksCost 1 := by decide +kernel
theorem dX12_breaksCost_0 : decode cX12_breaksCost 0 = .ok (.iconst 0, 1) := by decide +kernel
theorem dX12_breaksCost_1 : decode cX12_breaksCost 1 = .ok (.istore_n 2, 1) := by decide +kernel
theorem dX12_breaksCost_2 : decode cX12_breaksCost 2 = .ok (.iconst 0, 1) := by decide +kernel
theorem dX12_breaksCost_3 : decode cX12_breaksCost 3 = .ok (.istore_n 3, 1) := by decide +kernel
theorem dX12_breaksCost_4 : decode cX12_breaksCost 4 = .ok (.iload_n 3, 1) := by decide +kernel
theorem dX12_breaksCost_5 : decode cX12_breaksCost 5 = .ok (.aload_n 0, 1) := by decide +kernel
theorem dX12_breaksCost_6 : decode cX12_breaksCost 6 = .ok (.getfield 477, 3) := by decide +kernel
theorem dX12_breaksCost_9 : decode cX12_breaksCost 9 = .ok (.if_icmp .ge 31, 3) := by decide +kernel
theorem dX12_breaksCost_40 : decode cX12_breaksCost 40 = .ok (.iload_n 2, 1) := by decide +kernel
theorem dX12_breaksCost_41 : decode cX12_breaksCost 41 = .ok (.ireturn, 1) := by decide +kernel
theorem dX12_breaksCost_12 : decode cX12_breaksCost 12 = .ok (.iload_n 2, 1) := by decide +kernel
theorem dX12_breaksCost_13 : decode cX12_breaksCost 13 = .ok (.iload_n 1, 1) := by decide +kernel
theorem dX12_breaksCost_14 : decode cX12_breaksCost 14 = .ok (.iload_n 3, 1) := by decide +kernel
theorem dX12_breaksCost_15 : decode cX12_breaksCost 15 = .ok (.ishr, 1) := by decide +kernel
theorem dX12_breaksCost_16 : decode cX12_breaksCost 16 = .ok (.iconst 1, 1) := by decide +kernel
theorem dX12_breaksCost_17 : decode cX12_breaksCost 17 = .ok (.iand, 1) := by decide +kernel
theorem dX12_breaksCost_18 : decode cX12_breaksCost 18 = .ok (.iconst 1, 1) := by decide +kernel
theorem dX12_breaksCost_19 : decode cX12_breaksCost 19 = .ok (.if_icmp .ne 12, 3) := by decide +kernel
theorem dX12_breaksCost_31 : decode cX12_breaksCost 31 = .ok (.iconst 0, 1) := by decide +kernel
theorem dX12_breaksCost_32 : decode cX12_breaksCost 32 = .ok (.iadd, 1) := by decide +kernel
theorem dX12_breaksCost_33 : decode cX12_breaksCost 33 = .ok (.istore_n 2, 1) := by decide +kernel
theorem dX12_breaksCost_34 : decode cX12_breaksCost 34 = .ok (.iinc 3 1, 3) := by decide +kernel
theorem dX12_breaksCost_37 : decode cX12_breaksCost 37 = .ok (.goto (-33), 3) := by decide +kernel
theorem dX12_breaksCost_22 : decode cX12_breaksCost 22 = .ok (.aload_n 0, 1) := by decide +kernel
theorem dX12_breaksCost_23 : decode cX12_breaksCost 23 = .ok (.getfield 230, 3) := by decide +kernel
theorem kw_1567 : Cond.fieldLink "LandSurveyModel" 230 "LandSurveyModel" "breakCost" "[I" ∈ uu := uu_in (i := 1567) (by decide +kernel) (by decide +kernel)
theorem fk_LandSurveyModel_230 : fkR "LandSurveyModel" 230 11 61 RX12 TX12 87 := ⟨rfl, rfl, inX12, by decide, kw_1567, by decide⟩
theorem dX12_breaksCost_26 : decode cX12_breaksCost 26 = .ok (.iload_n 3, 1) := by decide +kernel
theorem dX12_breaksCost_27 : decode cX12_breaksCost 27 = .ok (.iaload, 1) := by decide +kernel
theorem dX12_breaksCost_28 : decode cX12_breaksCost 28 = .ok (.goto 4, 3) := by decide +kernel
abbrev cX12_findWays : ByteArray := prog_14_method_81_code
def yX12_findWays : MethodName := ⟨RX12, "findWays", "(IZ)V"⟩
theorem okX12_findWays : yok yX12_findWays 2 := by decide +kernel
theorem dX12_findWays_0 : decode cX12_findWays 0 = .ok (.iconst 0, 1) := by decide +kernel
theorem dX12_findWays_1 : decode cX12_findWays 1 = .ok (.istore_n 3, 1) := by decide +kernel
theorem dX12_findWays_2 : decode cX12_findWays 2 = .ok (.iload_n 3, 1) := by decide +kernel
theorem dX12_findWays_3 : decode cX12_findWays 3 = .ok (.bipush 97, 2) := by decide +kernel
theorem dX12_findWays_5 : decode cX12_findWays 5 = .ok (.if_icmp .ge 27, 3) := by decide +kernel
theorem dX12_findWays_32 : decode cX12_findWays 32 = .ok (.iconst 1, 1) := by decide +kernel
theorem dX12_findWays_33 : decode cX12_findWays 33 = .ok (.istore_n 3, 1) := by decide +kernel
theorem dX12_findWays_34 : decode cX12_findWays 34 = .ok (.iload_n 3, 1) := by decide +kernel
theorem dX12_findWays_35 : decode cX12_findWays 35 = .ok (.ifCond .eq 134, 3) := by decide +kernel
theorem dX12_findWays_169 : decode cX12_findWays 169 = .ok (.return_, 1) := by decide +kernel
theorem dX12_findWays_38 : decode cX12_findWays 38 = .ok (.iconst 0, 1) := by decide +kernel
theorem dX12_findWays_39 : decode cX12_findWays 39 = .ok (.istore_n 3, 1) := by decide +kernel
theorem dX12_findWays_40 : decode cX12_findWays 40 = .ok (.iconst 0, 1) := by decide +kernel
theorem dX12_findWays_41 : decode cX12_findWays 41 = .ok (.istore 4, 2) := by decide +kernel
theorem dX12_findWays_43 : decode cX12_findWays 43 = .ok (.iload 4, 2) := by decide +kernel
theorem dX12_findWays_45 : decode cX12_findWays 45 = .ok (.aload_n 0, 1) := by decide +kernel
theorem dX12_findWays_46 : decode cX12_findWays 46 = .ok (.getfield 480, 3) := by decide +kernel
theorem dX12_findWays_49 : decode cX12_findWays 49 = .ok (.if_icmp .ge 117, 3) := by decide +kernel
theorem dX12_findWays_166 : decode cX12_findWays 166 = .ok (.goto (-132), 3) := by decide +kernel
theorem dX12_findWays_52 : decode cX12_findWays 52 = .ok (.iload_n 2, 1) := by decide +kernel
theorem dX12_findWays_53 : decode cX12_findWays 53 = .ok (.ifCond .eq 13, 3) := by decide +kernel
theorem dX12_findWays_66 : decode cX12_findWays 66 = .ok (.aload_n 0, 1) := by decide +kernel
theorem dX12_findWays_67 : decode cX12_findWays 67 = .ok (.getfield 233, 3) := by decide +kernel
theorem dX12_findWays_70 : decode cX12_findWays 70 = .ok (.iload 4, 2) := by decide +kernel
theorem dX12_findWays_72 : decode cX12_findWays 72 = .ok (.iaload, 1) := by decide +kernel
theorem dX12_findWays_73 : decode cX12_findWays 73 = .ok (.istore 5, 2) := by decide +kernel
theorem dX12_findWays_75 : decode cX12_findWays 75 = .ok (.iload_n 2, 1) := by decide +kernel
theorem dX12_findWays_76 : decode cX12_findWays 76 = .ok (.ifCond .eq 13, 3) := by decide +kernel
theorem dX12_findWays_89 : decode cX12_findWays 89 = .ok (.aload_n 0, 1) := by decide +kernel
theorem dX12_findWays_90 : decode cX12_findWays 90 = .ok (.getfield 236, 3) := by decide +kernel
theorem dX12_findWays_93 : decode cX12_findWays 93 = .ok (.iload 4, 2) := by decide +kernel
theorem dX12_findWays_95 : decode cX12_findWays 95 = .ok (.iaload, 1) := by decide +kernel
theorem dX12_findWays_96 : decode cX12_findWays 96 = .ok (.istore 6, 2) := by decide +kernel
theorem dX12_findWays_98 : decode cX12_findWays 98 = .ok (.aload_n 0, 1) := by decide +kernel
theorem dX12_findWays_99 : decode cX12_findWays 99 = .ok (.getfield 245, 3) := by decide +kernel
theorem dX12_findWays_102 : decode cX12_findWays 102 = .ok (.iload 5, 2) := by decide +kernel
theorem dX12_findWays_104 : decode cX12_findWays 104 = .ok (.iaload, 1) := by decide +kernel
theorem dX12_findWays_105 : decode cX12_findWays 105 = .ok (.ldc_w 552, 3) := by decide +kernel
theorem kw_2075 : Cond.constant "LandSurveyModel" 552 (1000000000) ∈ uu := uu_in (i := 2075) (by decide +kernel) (by decide +kernel)
theorem dX12_findWays_108 : decode cX12_findWays 108 = .ok (.if_icmp .ge 52, 3) := by decide +kernel
theorem dX12_findWays_160 : decode cX12_findWays 160 = .ok (.iinc 4 1, 3) := by decide +kernel
theorem dX12_findWays_163 : decode cX12_findWays 163 = .ok (.goto (-120), 3) := by decide +kernel
theorem dX12_findWays_111 : decode cX12_findWays 111 = .ok (.aload_n 0, 1) := by decide +kernel
theorem dX12_findWays_112 : decode cX12_findWays 112 = .ok (.getfield 245, 3) := by decide +kernel
theorem dX12_findWays_115 : decode cX12_findWays 115 = .ok (.iload 5, 2) := by decide +kernel
theorem dX12_findWays_117 : decode cX12_findWays 117 = .ok (.iaload, 1) := by decide +kernel
theorem dX12_findWays_118 : decode cX12_findWays 118 = .ok (.aload_n 0, 1) := by decide +kernel
theorem dX12_findWays_119 : decode cX12_findWays 119 = .ok (.getfield 239, 3) := by decide +kernel
theorem dX12_findWays_122 : decode cX12_findWays 122 = .ok (.iload 4, 2) := by decide +kernel
theorem dX12_findWays_124 : decode cX12_findWays 124 = .ok (.iaload, 1) := by decide +kernel
theorem dX12_findWays_125 : decode cX12_findWays 125 = .ok (.iadd, 1) := by decide +kernel
theorem dX12_findWays_126 : decode cX12_findWays 126 = .ok (.aload_n 0, 1) := by decide +kernel
theorem dX12_findWays_127 : decode cX12_findWays 127 = .ok (.getfield 245, 3) := by decide +kernel
theorem dX12_findWays_130 : decode cX12_findWays 130 = .ok (.iload 6, 2) := by decide +kernel
theorem dX12_findWays_132 : decode cX12_findWays 132 = .ok (.iaload, 1) := by decide +kernel
theorem dX12_findWays_133 : decode cX12_findWays 133 = .ok (.if_icmp .ge 27, 3) := by decide +kernel
theorem dX12_findWays_136 : decode cX12_findWays 136 = .ok (.aload_n 0, 1) := by decide +kernel
theorem dX12_findWays_137 : decode cX12_findWays 137 = .ok (.getfield 245, 3) := by decide +kernel
theorem dX12_findWays_140 : decode cX12_findWays 140 = .ok (.iload 6, 2) := by decide +kernel
theorem dX12_findWays_142 : decode cX12_findWays 142 = .ok (.aload_n 0, 1) := by decide +kernel
theorem dX12_findWays_143 : decode cX12_findWays 143 = .ok (.getfield 245, 3) := by decide +kernel
theorem dX12_findWays_146 : decode cX12_findWays 146 = .ok (.iload 5, 2) := by decide +kernel
theorem dX12_findWays_148 : decode cX12_findWays 148 = .ok (.iaload, 1) := by decide +kernel
theorem dX12_findWays_149 : decode cX12_findWays 149 = .ok (.aload_n 0, 1) := by decide +kernel
theorem dX12_findWays_150 : decode cX12_findWays 150 = .ok (.getfield 239, 3) := by decide +kernel
theorem dX12_findWays_153 : decode cX12_findWays 153 = .ok (.iload 4, 2) := by decide +kernel
theorem dX12_findWays_155 : decode cX12_findWays 155 = .ok (.iaload, 1) := by decide +kernel
theorem dX12_findWays_156 : decode cX12_findWays 156 = .ok (.iadd, 1) := by decide +kernel
theorem dX12_findWays_157 : decode cX12_findWays 157 = .ok (.iastore, 1) := by decide +kernel
theorem dX12_findWays_158 : decode cX12_findWays 158 = .ok (.iconst 1, 1) := by decide +kernel
theorem dX12_findWays_159 : decode cX12_findWays 159 = .ok (.istore_n 3, 1) := by decide +kernel
theorem dX12_findWays_56 : decode cX12_findWays 56 = .ok (.aload_n 0, 1) := by decide +kernel
theorem dX12_findWays_57 : decode cX12_findWays 57 = .ok (.getfield 236, 3) := by decide +kernel
theorem dX12_findWays_60 : decode cX12_findWays 60 = .ok (.iload 4, 2) := by decide +kernel
theorem dX12_findWays_62 : decode cX12_findWays 62 = .ok (.iaload, 1) := by decide +kernel
theorem dX12_findWays_63 : decode cX12_findWays 63 = .ok (.goto 10, 3) := by decide +kernel
theorem dX12_findWays_79 : decode cX12_findWays 79 = .ok (.aload_n 0, 1) := by decide +kernel
theorem dX12_findWays_80 : decode cX12_findWays 80 = .ok (.getfield 233, 3) := by decide +kernel
theorem dX12_findWays_83 : decode cX12_findWays 83 = .ok (.iload 4, 2) := by decide +kernel
theorem dX12_findWays_85 : decode cX12_findWays 85 = .ok (.iaload, 1) := by decide +kernel
theorem dX12_findWays_86 : decode cX12_findWays 86 = .ok (.goto 10, 3) := by decide +kernel
theorem dX12_findWays_8 : decode cX12_findWays 8 = .ok (.aload_n 0, 1) := by decide +kernel
theorem dX12_findWays_9 : decode cX12_findWays 9 = .ok (.getfield 245, 3) := by decide +kernel
theorem dX12_findWays_12 : decode cX12_findWays 12 = .ok (.iload_n 3, 1) := by decide +kernel
theorem dX12_findWays_13 : decode cX12_findWays 13 = .ok (.iload_n 3, 1) := by decide +kernel
theorem dX12_findWays_14 : decode cX12_findWays 14 = .ok (.iload_n 1, 1) := by decide +kernel
theorem dX12_findWays_15 : decode cX12_findWays 15 = .ok (.if_icmp .ne 7, 3) := by decide +kernel
theorem dX12_findWays_22 : decode cX12_findWays 22 = .ok (.ldc_w 552, 3) := by decide +kernel
theorem dX12_findWays_25 : decode cX12_findWays 25 = .ok (.iastore, 1) := by decide +kernel
theorem dX12_findWays_26 : decode cX12_findWays 26 = .ok (.iinc 3 1, 3) := by decide +kernel
theorem dX12_findWays_29 : decode cX12_findWays 29 = .ok (.goto (-27), 3) := by decide +kernel
theorem dX12_findWays_18 : decode cX12_findWays 18 = .ok (.iconst 0, 1) := by decide +kernel
theorem dX12_findWays_19 : decode cX12_findWays 19 = .ok (.goto 6, 3) := by decide +kernel
abbrev cX12_seeks : ByteArray := prog_14_method_78_code
def yX12_seeks : MethodName := ⟨RX12, "seeks", "(IJI)V"⟩
theorem okX12_seeks : yok yX12_seeks 3 := by decide +kernel
theorem dX12_seeks_0 : decode cX12_seeks 0 = .ok (.aload_n 0, 1) := by decide +kernel
theorem dX12_seeks_1 : decode cX12_seeks 1 = .ok (.iload_n 1, 1) := by decide +kernel
theorem dX12_seeks_2 : decode cX12_seeks 2 = .ok (.invokevirtual 516, 3) := by decide +kernel
theorem kw_2024 : Cond.code yX12_breaksCost prog_14_method_77_code 4 (some .int) ∈ uu := uu_in (i := 2024) (by decide +kernel) (by decide +kernel)
theorem kw_2021 : Cond.methodLink "LandSurveyModel" 516 yX12_breaksCost ∈ uu := uu_in (i := 2021) (by decide +kernel) (by decide +kernel)
theorem kw_2023 : Cond.instanceMethod yX12_breaksCost ∈ uu := uu_in (i := 2023) (by decide +kernel) (by decide +kernel)
theorem kw_108 : Cond.selects "LandSurveyModel" yX12_breaksCost yX12_breaksCost ∈ uu := uu_in (i := 108) (by decide +kernel) (by decide +kernel)
theorem lk_LandSurveyModel_516 : lkV "LandSurveyModel" 516 yX12_breaksCost cX12_breaksCost 4 (some .int) 1 := ⟨kw_2021, kw_2023, kw_108, kw_152, kw_2024, okX12_breaksCost⟩
theorem dX12_seeks_5 : decode cX12_seeks 5 = .ok (.aload_n 0, 1) := by decide +kernel
theorem dX12_seeks_6 : decode cX12_seeks 6 = .ok (.lload_n 2, 1) := by decide +kernel
theorem dX12_seeks_7 : decode cX12_seeks 7 = .ok (.invokevirtual 519, 3) := by decide +kernel
theorem kw_2028 : Cond.code yX12_costOf prog_14_method_76_code 5 (some .int) ∈ uu := uu_in (i := 2028) (by decide +kernel) (by decide +kernel)
theorem kw_2025 : Cond.methodLink "LandSurveyModel" 519 yX12_costOf ∈ uu := uu_in (i := 2025) (by decide +kernel) (by decide +kernel)
theorem kw_2027 : Cond.instanceMethod yX12_costOf ∈ uu := uu_in (i := 2027) (by decide +kernel) (by decide +kernel)
theorem kw_109 : Cond.selects "LandSurveyModel" yX12_costOf yX12_costOf ∈ uu := uu_in (i := 109) (by decide +kernel) (by decide +kernel)
theorem lk_LandSurveyModel_519 : lkV "LandSurveyModel" 519 yX12_costOf cX12_costOf 5 (some .int) 1 := ⟨kw_2025, kw_2027, kw_109, kw_152, kw_2028, okX12_costOf⟩
theorem dX12_seeks_10 : decode cX12_seeks 10 = .ok (.iadd, 1) := by decide +kernel
theorem dX12_seeks_11 : decode cX12_seeks 11 = .ok (.istore 5, 2) := by decide +kernel
theorem dX12_seeks_13 : decode cX12_seeks 13 = .ok (.aload_n 0, 1) := by decide +kernel
theorem dX12_seeks_14 : decode cX12_seeks 14 = .ok (.getfield 251, 3) := by decide +kernel
theorem kw_1576 : Cond.fieldLink "LandSurveyModel" 251 "LandSurveyModel" "isGround" "[Z" ∈ uu := uu_in (i := 1576) (by decide +kernel) (by decide +kernel)
theorem fk_LandSurveyModel_251 : fkR "LandSurveyModel" 251 11 70 RX12 TX12 87 := ⟨rfl, rfl, inX12, by decide, kw_1576, by decide⟩
theorem dX12_seeks_17 : decode cX12_seeks 17 = .ok (.iload_n 1, 1) := by decide +kernel
theorem dX12_seeks_18 : decode cX12_seeks 18 = .ok (.baload, 1) := by decide +kernel
theorem dX12_seeks_19 : decode cX12_seeks 19 = .ok (.ifCond .eq 37, 3) := by decide +kernel
theorem dX12_seeks_56 : decode cX12_seeks 56 = .ok (.aload_n 0, 1) := by decide +kernel
theorem dX12_seeks_57 : decode cX12_seeks 57 = .ok (.iload_n 1, 1) := by decide +kernel
theorem dX12_seeks_58 : decode cX12_seeks 58 = .ok (.lload_n 2, 1) := by decide +kernel
theorem dX12_seeks_59 : decode cX12_seeks 59 = .ok (.iconst 1, 1) := by decide +kernel
theorem dX12_seeks_60 : decode cX12_seeks 60 = .ok (.invokevirtual 523, 3) := by decide +kernel
theorem kw_2035 : Cond.code yX12_findBounds prog_14_method_73_code 6 none ∈ uu := uu_in (i := 2035) (by decide +kernel) (by decide +kernel)
theorem kw_2032 : Cond.methodLink "LandSurveyModel" 523 yX12_findBounds ∈ uu := uu_in (i := 2032) (by decide +kernel) (by decide +kernel)
theorem kw_2034 : Cond.instanceMethod yX12_findBounds ∈ uu := uu_in (i := 2034) (by decide +kernel) (by decide +kernel)
theorem kw_110 : Cond.selects "LandSurveyModel" yX12_findBounds yX12_findBounds ∈ uu := uu_in (i := 110) (by decide +kernel) (by decide +kernel)
theorem lk_LandSurveyModel_523 : lkV "LandSurveyModel" 523 yX12_findBounds cX12_findBounds 6 none 3 := ⟨kw_2032, kw_2034, kw_110, kw_152, kw_2035, okX12_findBounds⟩
theorem dX12_seeks_63 : decode cX12_seeks 63 = .ok (.aload_n 0, 1) := by decide +kernel
theorem dX12_seeks_64 : decode cX12_seeks 64 = .ok (.invokevirtual 527, 3) := by decide +kernel
theorem kw_2062 : Cond.code yX12_goesTogether prog_14_method_74_code 5 (some .boolean) ∈ uu := uu_in (i := 2062) (by decide +kernel) (by decide +kernel)
theorem kw_2059 : Cond.methodLink "LandSurveyModel" 527 yX12_goesTogether ∈ uu := uu_in (i := 2059) (by decide +kernel) (by decide +kernel)
theorem kw_2061 : Cond.instanceMethod yX12_goesTogether ∈ uu := uu_in (i := 2061) (by decide +kernel) (by decide +kernel)
theorem kw_116 : Cond.selects "LandSurveyModel" yX12_goesTogether yX12_goesTogether ∈ uu := uu_in (i := 116) (by decide +kernel) (by decide +kernel)
theorem lk_LandSurveyModel_527 : lkV "LandSurveyModel" 527 yX12_goesTogether cX12_goesTogether 5 (some .boolean) 0 := ⟨kw_2059, kw_2061, kw_116, kw_152, kw_2062, okX12_goesTogether⟩
theorem dX12_seeks_67 : decode cX12_seeks 67 = .ok (.ifCond .eq 26, 3) := by decide +kernel
theorem dX12_seeks_93 : decode cX12_seeks 93 = .ok (.aload_n 0, 1) := by decide +kernel
theorem dX12_seeks_94 : decode cX12_seeks 94 = .ok (.getfield 512, 3) := by decide +kernel
theorem dX12_seeks_97 : decode cX12_seeks 97 = .ok (.lstore 6, 2) := by decide +kernel
theorem dX12_seeks_99 : decode cX12_seeks 99 = .ok (.iconst 0, 1) := by decide +kernel
theorem dX12_seeks_100 : decode cX12_seeks 100 = .ok (.istore 8, 2) := by decide +kernel
theorem dX12_seeks_102 : decode cX12_seeks 102 = .ok (.iload 8, 2) := by decide +kernel
theorem dX12_seeks_104 : decode cX12_seeks 104 = .ok (.aload_n 0, 1) := by decide +kernel
theorem dX12_seeks_105 : decode cX12_seeks 105 = .ok (.getfield 423, 3) := by decide +kernel
theorem dX12_seeks_108 : decode cX12_seeks 108 = .ok (.if_icmp .ge 40, 3) := by decide +kernel
theorem dX12_seeks_148 : decode cX12_seeks 148 = .ok (.return_, 1) := by decide +kernel
theorem dX12_seeks_111 : decode cX12_seeks 111 = .ok (.iload 4, 2) := by decide +kernel
theorem dX12_seeks_113 : decode cX12_seeks 113 = .ok (.iconst 3, 1) := by decide +kernel
theorem dX12_seeks_114 : decode cX12_seeks 114 = .ok (.if_icmp .ge 34, 3) := by decide +kernel
theorem dX12_seeks_70 : decode cX12_seeks 70 = .ok (.aload_n 0, 1) := by decide +kernel
theorem dX12_seeks_71 : decode cX12_seeks 71 = .ok (.getfield 251, 3) := by decide +kernel
theorem dX12_seeks_74 : decode cX12_seeks 74 = .ok (.iload_n 1, 1) := by decide +kernel
theorem dX12_seeks_75 : decode cX12_seeks 75 = .ok (.iconst 1, 1) := by decide +kernel
theorem dX12_seeks_76 : decode cX12_seeks 76 = .ok (.bastore, 1) := by decide +kernel
theorem dX12_seeks_77 : decode cX12_seeks 77 = .ok (.aload_n 0, 1) := by decide +kernel
theorem dX12_seeks_78 : decode cX12_seeks 78 = .ok (.getfield 254, 3) := by decide +kernel
theorem kw_1577 : Cond.fieldLink "LandSurveyModel" 254 "LandSurveyModel" "costs" "[I" ∈ uu := uu_in (i := 1577) (by decide +kernel) (by decide +kernel)
theorem fk_LandSurveyModel_254 : fkR "LandSurveyModel" 254 11 71 RX12 TX12 87 := ⟨rfl, rfl, inX12, by decide, kw_1577, by decide⟩
theorem dX12_seeks_81 : decode cX12_seeks 81 = .ok (.iload_n 1, 1) := by decide +kernel
theorem dX12_seeks_82 : decode cX12_seeks 82 = .ok (.iload 5, 2) := by decide +kernel
theorem dX12_seeks_84 : decode cX12_seeks 84 = .ok (.iastore, 1) := by decide +kernel
theorem dX12_seeks_85 : decode cX12_seeks 85 = .ok (.aload_n 0, 1) := by decide +kernel
theorem dX12_seeks_86 : decode cX12_seeks 86 = .ok (.getfield 257, 3) := by decide +kernel
theorem kw_1578 : Cond.fieldLink "LandSurveyModel" 257 "LandSurveyModel" "doubts" "[J" ∈ uu := uu_in (i := 1578) (by decide +kernel) (by decide +kernel)
theorem fk_LandSurveyModel_257 : fkR "LandSurveyModel" 257 11 72 RX12 TX12 87 := ⟨rfl, rfl, inX12, by decide, kw_1578, by decide⟩
theorem dX12_seeks_89 : decode cX12_seeks 89 = .ok (.iload_n 1, 1) := by decide +kernel
theorem dX12_seeks_90 : decode cX12_seeks 90 = .ok (.lload_n 2, 1) := by decide +kernel
theorem dX12_seeks_91 : decode cX12_seeks 91 = .ok (.lastore, 1) := by decide +kernel
theorem dX12_seeks_92 : decode cX12_seeks 92 = .ok (.return_, 1) := by decide +kernel
theorem dX12_seeks_22 : decode cX12_seeks 22 = .ok (.iload 5, 2) := by decide +kernel
theorem dX12_seeks_24 : decode cX12_seeks 24 = .ok (.aload_n 0, 1) := by decide +kernel
theorem dX12_seeks_25 : decode cX12_seeks 25 = .ok (.getfield 254, 3) := by decide +kernel
theorem dX12_seeks_28 : decode cX12_seeks 28 = .ok (.iload_n 1, 1) := by decide +kernel
theorem dX12_seeks_29 : decode cX12_seeks 29 = .ok (.iaload, 1) := by decide +kernel
theorem dX12_seeks_30 : decode cX12_seeks 30 = .ok (.if_icmp .gt 25, 3) := by decide +kernel
theorem dX12_seeks_55 : decode cX12_seeks 55 = .ok (.return_, 1) := by decide +kernel
theorem dX12_seeks_33 : decode cX12_seeks 33 = .ok (.iload 5, 2) := by decide +kernel
theorem dX12_seeks_35 : decode cX12_seeks 35 = .ok (.aload_n 0, 1) := by decide +kernel
theorem dX12_seeks_36 : decode cX12_seeks 36 = .ok (.getfield 254, 3) := by decide +kernel
theorem dX12_seeks_39 : decode cX12_seeks 39 = .ok (.iload_n 1, 1) := by decide +kernel
theorem dX12_seeks_40 : decode cX12_seeks 40 = .ok (.iaload, 1) := by decide +kernel
theorem dX12_seeks_41 : decode cX12_seeks 41 = .ok (.if_icmp .ne 15, 3) := by decide +kernel
theorem dX12_seeks_44 : decode cX12_seeks 44 = .ok (.lload_n 2, 1) := by decide +kernel
theorem dX12_seeks_45 : decode cX12_seeks 45 = .ok (.aload_n 0, 1) := by decide +kernel
theorem dX12_seeks_46 : decode cX12_seeks 46 = .ok (.getfield 257, 3) := by decide +kernel
theorem dX12_seeks_49 : decode cX12_seeks 49 = .ok (.iload_n 1, 1) := by decide +kernel
theorem dX12_seeks_50 : decode cX12_seeks 50 = .ok (.laload, 1) := by decide +kernel
theorem dX12_seeks_51 : decode cX12_seeks 51 = .ok (.lcmp, 1) := by decide +kernel
theorem dX12_seeks_52 : decode cX12_seeks 52 = .ok (.ifCond .lt 4, 3) := by decide +kernel
theorem dX12_seeks_117 : decode cX12_seeks 117 = .ok (.lload 6, 2) := by decide +kernel
theorem dX12_seeks_119 : decode cX12_seeks 119 = .ok (.iload 8, 2) := by decide +kernel
theorem dX12_seeks_121 : decode cX12_seeks 121 = .ok (.invokestatic 487, 3) := by decide +kernel
theorem dX12_seeks_124 : decode cX12_seeks 124 = .ok (.ifCond .eq 18, 3) := by decide +kernel
theorem dX12_seeks_142 : decode cX12_seeks 142 = .ok (.iinc 8 1, 3) := by decide +kernel
theorem dX12_seeks_145 : decode cX12_seeks 145 = .ok (.goto (-43), 3) := by decide +kernel
theorem dX12_seeks_127 : decode cX12_seeks 127 = .ok (.aload_n 0, 1) := by decide +kernel
theorem dX12_seeks_128 : decode cX12_seeks 128 = .ok (.iload_n 1, 1) := by decide +kernel
theorem dX12_seeks_129 : decode cX12_seeks 129 = .ok (.lload_n 2, 1) := by decide +kernel
theorem dX12_seeks_130 : decode cX12_seeks 130 = .ok (.lconst 1, 1) := by decide +kernel
theorem dX12_seeks_131 : decode cX12_seeks 131 = .ok (.iload 8, 2) := by decide +kernel
theorem dX12_seeks_133 : decode cX12_seeks 133 = .ok (.lshl, 1) := by decide +kernel
theorem dX12_seeks_134 : decode cX12_seeks 134 = .ok (.lor, 1) := by decide +kernel
theorem dX12_seeks_135 : decode cX12_seeks 135 = .ok (.iload 4, 2) := by decide +kernel
theorem dX12_seeks_137 : decode cX12_seeks 137 = .ok (.iconst 1, 1) := by decide +kernel
theorem dX12_seeks_138 : decode cX12_seeks 138 = .ok (.iadd, 1) := by decide +kernel
theorem dX12_seeks_139 : decode cX12_seeks 139 = .ok (.invokevirtual 530, 3) := by decide +kernel
theorem kw_2020 : Cond.code yX12_seeks prog_14_method_78_code 9 none ∈ uu := uu_in (i := 2020) (by decide +kernel) (by decide +kernel)
theorem kw_2017 : Cond.methodLink "LandSurveyModel" 530 yX12_seeks ∈ uu := uu_in (i := 2017) (by decide +kernel) (by decide +kernel)
theorem kw_2019 : Cond.instanceMethod yX12_seeks ∈ uu := uu_in (i := 2019) (by decide +kernel) (by decide +kernel)
theorem kw_107 : Cond.selects "LandSurveyModel" yX12_seeks yX12_seeks ∈ uu := uu_in (i := 107) (by decide +kernel) (by decide +kernel)
theorem lk_LandSurveyModel_530 : lkV "LandSurveyModel" 530 yX12_seeks cX12_seeks 9 none 3 := ⟨kw_2017, kw_2019, kw_107, kw_152, kw_2020, okX12_seeks⟩
abbrev cX12_findBase : ByteArray := prog_14_method_82_code
def yX12_findBase : MethodName := ⟨RX12, "findBase", "(I)V"⟩
theorem okX12_findBase : yok yX12_findBase 1 := by decide +kernel
theorem dX12_findBase_0 : decode cX12_findBase 0 = .ok (.aload_n 0, 1) := by decide +kernel
theorem dX12_findBase_1 : decode cX12_findBase 1 = .ok (.getfield 263, 3) := by decide +kernel
theorem kw_1580 : Cond.fieldLink "LandSurveyModel" 263 "LandSurveyModel" "isKnown" "[Z" ∈ uu := uu_in (i := 1580) (by decide +kernel) (by decide +kernel)
theorem fk_LandSurveyModel_263 : fkR "LandSurveyModel" 263 11 74 RX12 TX12 87 := ⟨rfl, rfl, inX12, by decide, kw_1580, by decide⟩
theorem dX12_findBase_4 : decode cX12_findBase 4 = .ok (.iload_n 1, 1) := by decide +kernel
theorem dX12_findBase_5 : decode cX12_findBase 5 = .ok (.iconst 0, 1) := by decide +kernel
theorem dX12_findBase_6 : decode cX12_findBase 6 = .ok (.bastore, 1) := by decide +kernel
theorem dX12_findBase_7 : decode cX12_findBase 7 = .ok (.iconst 0, 1) := by decide +kernel
theorem dX12_findBase_8 : decode cX12_findBase 8 = .ok (.istore_n 2, 1) := by decide +kernel
theorem dX12_findBase_9 : decode cX12_findBase 9 = .ok (.iload_n 2, 1) := by decide +kernel
theorem dX12_findBase_10 : decode cX12_findBase 10 = .ok (.aload_n 0, 1) := by decide +kernel
theorem dX12_findBase_11 : decode cX12_findBase 11 = .ok (.getfield 423, 3) := by decide +kernel
theorem dX12_findBase_14 : decode cX12_findBase 14 = .ok (.if_icmp .ge 51, 3) := by decide +kernel
theorem dX12_findBase_65 : decode cX12_findBase 65 = .ok (.aload_n 0, 1) := by decide +kernel
theorem dX12_findBase_66 : decode cX12_findBase 66 = .ok (.getfield 263, 3) := by decide +kernel
theorem dX12_findBase_69 : decode cX12_findBase 69 = .ok (.iload_n 1, 1) := by decide +kernel
theorem dX12_findBase_70 : decode cX12_findBase 70 = .ok (.baload, 1) := by decide +kernel
theorem dX12_findBase_71 : decode cX12_findBase 71 = .ok (.ifCond .eq 92, 3) := by decide +kernel
theorem dX12_findBase_163 : decode cX12_findBase 163 = .ok (.return_, 1) := by decide +kernel
theorem dX12_findBase_74 : decode cX12_findBase 74 = .ok (.aload_n 0, 1) := by decide +kernel
theorem dX12_findBase_75 : decode cX12_findBase 75 = .ok (.iload_n 1, 1) := by decide +kernel
theorem dX12_findBase_76 : decode cX12_findBase 76 = .ok (.aload_n 0, 1) := by decide +kernel
theorem dX12_findBase_77 : decode cX12_findBase 77 = .ok (.getfield 257, 3) := by decide +kernel
theorem dX12_findBase_80 : decode cX12_findBase 80 = .ok (.iload_n 1, 1) := by decide +kernel
theorem dX12_findBase_81 : decode cX12_findBase 81 = .ok (.laload, 1) := by decide +kernel
theorem dX12_findBase_82 : decode cX12_findBase 82 = .ok (.iconst 1, 1) := by decide +kernel
theorem dX12_findBase_83 : decode cX12_findBase 83 = .ok (.invokevirtual 523, 3) := by decide +kernel
theorem dX12_findBase_86 : decode cX12_findBase 86 = .ok (.aload_n 0, 1) := by decide +kernel
theorem dX12_findBase_87 : decode cX12_findBase 87 = .ok (.bipush 96, 2) := by decide +kernel
theorem dX12_findBase_89 : decode cX12_findBase 89 = .ok (.iconst 0, 1) := by decide +kernel
theorem dX12_findBase_90 : decode cX12_findBase 90 = .ok (.invokevirtual 553, 3) := by decide +kernel
theorem kw_2074 : Cond.code yX12_findWays prog_14_method_81_code 7 none ∈ uu := uu_in (i := 2074) (by decide +kernel) (by decide +kernel)
theorem kw_2071 : Cond.methodLink "LandSurveyModel" 553 yX12_findWays ∈ uu := uu_in (i := 2071) (by decide +kernel) (by decide +kernel)
theorem kw_2073 : Cond.instanceMethod yX12_findWays ∈ uu := uu_in (i := 2073) (by decide +kernel) (by decide +kernel)
theorem kw_119 : Cond.selects "LandSurveyModel" yX12_findWays yX12_findWays ∈ uu := uu_in (i := 119) (by decide +kernel) (by decide +kernel)
theorem lk_LandSurveyModel_553 : lkV "LandSurveyModel" 553 yX12_findWays cX12_findWays 7 none 2 := ⟨kw_2071, kw_2073, kw_119, kw_152, kw_2074, okX12_findWays⟩
theorem dX12_findBase_93 : decode cX12_findBase 93 = .ok (.iconst 0, 1) := by decide +kernel
theorem dX12_findBase_94 : decode cX12_findBase 94 = .ok (.istore_n 2, 1) := by decide +kernel
theorem dX12_findBase_95 : decode cX12_findBase 95 = .ok (.iload_n 2, 1) := by decide +kernel
theorem dX12_findBase_96 : decode cX12_findBase 96 = .ok (.bipush 96, 2) := by decide +kernel
theorem dX12_findBase_98 : decode cX12_findBase 98 = .ok (.if_icmp .ge 26, 3) := by decide +kernel
theorem dX12_findBase_124 : decode cX12_findBase 124 = .ok (.aload_n 0, 1) := by decide +kernel
theorem dX12_findBase_125 : decode cX12_findBase 125 = .ok (.bipush 96, 2) := by decide +kernel
theorem dX12_findBase_127 : decode cX12_findBase 127 = .ok (.iconst 1, 1) := by decide +kernel
theorem dX12_findBase_128 : decode cX12_findBase 128 = .ok (.invokevirtual 553, 3) := by decide +kernel
theorem dX12_findBase_131 : decode cX12_findBase 131 = .ok (.iconst 0, 1) := by decide +kernel
theorem dX12_findBase_132 : decode cX12_findBase 132 = .ok (.istore_n 2, 1) := by decide +kernel
theorem dX12_findBase_133 : decode cX12_findBase 133 = .ok (.iload_n 2, 1) := by decide +kernel
theorem dX12_findBase_134 : decode cX12_findBase 134 = .ok (.bipush 96, 2) := by decide +kernel
theorem dX12_findBase_136 : decode cX12_findBase 136 = .ok (.if_icmp .ge 27, 3) := by decide +kernel
theorem dX12_findBase_139 : decode cX12_findBase 139 = .ok (.aload_n 0, 1) := by decide +kernel
theorem dX12_findBase_140 : decode cX12_findBase 140 = .ok (.getfield 266, 3) := by decide +kernel
theorem kw_1581 : Cond.fieldLink "LandSurveyModel" 266 "LandSurveyModel" "low" "[I" ∈ uu := uu_in (i := 1581) (by decide +kernel) (by decide +kernel)
theorem fk_LandSurveyModel_266 : fkR "LandSurveyModel" 266 11 75 RX12 TX12 87 := ⟨rfl, rfl, inX12, by decide, kw_1581, by decide⟩
theorem dX12_findBase_143 : decode cX12_findBase 143 = .ok (.bipush 96, 2) := by decide +kernel
theorem dX12_findBase_145 : decode cX12_findBase 145 = .ok (.iload_n 1, 1) := by decide +kernel
theorem dX12_findBase_146 : decode cX12_findBase 146 = .ok (.imul, 1) := by decide +kernel
theorem dX12_findBase_147 : decode cX12_findBase 147 = .ok (.iload_n 2, 1) := by decide +kernel
theorem dX12_findBase_148 : decode cX12_findBase 148 = .ok (.iadd, 1) := by decide +kernel
theorem dX12_findBase_149 : decode cX12_findBase 149 = .ok (.aload_n 0, 1) := by decide +kernel
theorem dX12_findBase_150 : decode cX12_findBase 150 = .ok (.getfield 245, 3) := by decide +kernel
theorem dX12_findBase_153 : decode cX12_findBase 153 = .ok (.iload_n 2, 1) := by decide +kernel
theorem dX12_findBase_154 : decode cX12_findBase 154 = .ok (.iaload, 1) := by decide +kernel
theorem dX12_findBase_155 : decode cX12_findBase 155 = .ok (.ineg, 1) := by decide +kernel
theorem dX12_findBase_156 : decode cX12_findBase 156 = .ok (.iastore, 1) := by decide +kernel
theorem dX12_findBase_157 : decode cX12_findBase 157 = .ok (.iinc 2 1, 3) := by decide +kernel
theorem dX12_findBase_160 : decode cX12_findBase 160 = .ok (.goto (-27), 3) := by decide +kernel
theorem dX12_findBase_101 : decode cX12_findBase 101 = .ok (.aload_n 0, 1) := by decide +kernel
theorem dX12_findBase_102 : decode cX12_findBase 102 = .ok (.getfield 269, 3) := by decide +kernel
theorem kw_1582 : Cond.fieldLink "LandSurveyModel" 269 "LandSurveyModel" "high" "[I" ∈ uu := uu_in (i := 1582) (by decide +kernel) (by decide +kernel)
theorem fk_LandSurveyModel_269 : fkR "LandSurveyModel" 269 11 76 RX12 TX12 87 := ⟨rfl, rfl, inX12, by decide, kw_1582, by decide⟩
theorem dX12_findBase_105 : decode cX12_findBase 105 = .ok (.bipush 96, 2) := by decide +kernel
theorem dX12_findBase_107 : decode cX12_findBase 107 = .ok (.iload_n 1, 1) := by decide +kernel
theorem dX12_findBase_108 : decode cX12_findBase 108 = .ok (.imul, 1) := by decide +kernel
theorem dX12_findBase_109 : decode cX12_findBase 109 = .ok (.iload_n 2, 1) := by decide +kernel
theorem dX12_findBase_110 : decode cX12_findBase 110 = .ok (.iadd, 1) := by decide +kernel
theorem dX12_findBase_111 : decode cX12_findBase 111 = .ok (.aload_n 0, 1) := by decide +kernel
theorem dX12_findBase_112 : decode cX12_findBase 112 = .ok (.getfield 245, 3) := by decide +kernel
theorem dX12_findBase_115 : decode cX12_findBase 115 = .ok (.iload_n 2, 1) := by decide +kernel
theorem dX12_findBase_116 : decode cX12_findBase 116 = .ok (.iaload, 1) := by decide +kernel
theorem dX12_findBase_117 : decode cX12_findBase 117 = .ok (.iastore, 1) := by decide +kernel
theorem dX12_findBase_118 : decode cX12_findBase 118 = .ok (.iinc 2 1, 3) := by decide +kernel
theorem dX12_findBase_121 : decode cX12_findBase 121 = .ok (.goto (-26), 3) := by decide +kernel
theorem dX12_findBase_17 : decode cX12_findBase 17 = .ok (.aload_n 0, 1) := by decide +kernel
theorem dX12_findBase_18 : decode cX12_findBase 18 = .ok (.getfield 263, 3) := by decide +kernel
theorem dX12_findBase_21 : decode cX12_findBase 21 = .ok (.iload_n 1, 1) := by decide +kernel
theorem dX12_findBase_22 : decode cX12_findBase 22 = .ok (.aload_n 0, 1) := by decide +kernel
theorem dX12_findBase_23 : decode cX12_findBase 23 = .ok (.getfield 263, 3) := by decide +kernel
theorem dX12_findBase_26 : decode cX12_findBase 26 = .ok (.iload_n 1, 1) := by decide +kernel
theorem dX12_findBase_27 : decode cX12_findBase 27 = .ok (.baload, 1) := by decide +kernel
theorem dX12_findBase_28 : decode cX12_findBase 28 = .ok (.ifCond .ne 25, 3) := by decide +kernel
theorem dX12_findBase_53 : decode cX12_findBase 53 = .ok (.iconst 1, 1) := by decide +kernel
theorem dX12_findBase_54 : decode cX12_findBase 54 = .ok (.goto 4, 3) := by decide +kernel
theorem dX12_findBase_58 : decode cX12_findBase 58 = .ok (.bastore, 1) := by decide +kernel
theorem dX12_findBase_59 : decode cX12_findBase 59 = .ok (.iinc 2 1, 3) := by decide +kernel
theorem dX12_findBase_62 : decode cX12_findBase 62 = .ok (.goto (-53), 3) := by decide +kernel
theorem dX12_findBase_31 : decode cX12_findBase 31 = .ok (.aload_n 0, 1) := by decide +kernel
theorem dX12_findBase_32 : decode cX12_findBase 32 = .ok (.getfield 209, 3) := by decide +kernel
theorem dX12_findBase_35 : decode cX12_findBase 35 = .ok (.iload_n 2, 1) := by decide +kernel
theorem dX12_findBase_36 : decode cX12_findBase 36 = .ok (.baload, 1) := by decide +kernel
theorem dX12_findBase_37 : decode cX12_findBase 37 = .ok (.ifCond .eq 20, 3) := by decide +kernel
theorem dX12_findBase_57 : decode cX12_findBase 57 = .ok (.iconst 0, 1) := by decide +kernel
theorem dX12_findBase_40 : decode cX12_findBase 40 = .ok (.aload_n 0, 1) := by decide +kernel
theorem dX12_findBase_41 : decode cX12_findBase 41 = .ok (.getfield 257, 3) := by decide +kernel
theorem dX12_findBase_44 : decode cX12_findBase 44 = .ok (.iload_n 1, 1) := by decide +kernel
theorem dX12_findBase_45 : decode cX12_findBase 45 = .ok (.laload, 1) := by decide +kernel
theorem dX12_findBase_46 : decode cX12_findBase 46 = .ok (.iload_n 2, 1) := by decide +kernel
theorem dX12_findBase_47 : decode cX12_findBase 47 = .ok (.invokestatic 487, 3) := by decide +kernel
theorem dX12_findBase_50 : decode cX12_findBase 50 = .ok (.ifCond .ne 7, 3) := by decide +kernel
abbrev cX12_findKept : ByteArray := prog_14_method_80_code
def yX12_findKept : MethodName := ⟨RX12, "findKept", "()V"⟩
theorem okX12_findKept : yok yX12_findKept 0 := by decide +kernel
theorem kw_1584 : Cond.fieldLink "LandSurveyModel" 546 "LandSurveyModel" "keptMany" "I" ∈ uu := uu_in (i := 1584) (by decide +kernel) (by decide +kernel)
theorem fk_LandSurveyModel_546 : fkI "LandSurveyModel" 546 11 78 RX12 TX12 87 := ⟨rfl, rfl, inX12, by decide, kw_1584, by decide⟩
theorem dX12_findKept_0 : decode cX12_findKept 0 = .ok (.aload_n 0, 1) := by decide +kernel
theorem dX12_findKept_1 : decode cX12_findKept 1 = .ok (.iconst 0, 1) := by decide +kernel
theorem dX12_findKept_2 : decode cX12_findKept 2 = .ok (.putfield 546, 3) := by decide +kernel
theorem pk_LandSurveyModel_78 : pk RX12 TX12 87 78 tyX12 false := ⟨tyX12_ok, nmX12, rfl⟩
theorem dX12_findKept_5 : decode cX12_findKept 5 = .ok (.iconst 0, 1) := by decide +kernel
theorem dX12_findKept_6 : decode cX12_findKept 6 = .ok (.istore_n 1, 1) := by decide +kernel
theorem dX12_findKept_7 : decode cX12_findKept 7 = .ok (.iload_n 1, 1) := by decide +kernel
theorem dX12_findKept_8 : decode cX12_findKept 8 = .ok (.iconst 1, 1) := by decide +kernel
theorem dX12_findKept_9 : decode cX12_findKept 9 = .ok (.aload_n 0, 1) := by decide +kernel
theorem dX12_findKept_10 : decode cX12_findKept 10 = .ok (.getfield 477, 3) := by decide +kernel
theorem dX12_findKept_13 : decode cX12_findKept 13 = .ok (.ishl, 1) := by decide +kernel
theorem dX12_findKept_14 : decode cX12_findKept 14 = .ok (.if_icmp .ge 75, 3) := by decide +kernel
theorem dX12_findKept_89 : decode cX12_findKept 89 = .ok (.return_, 1) := by decide +kernel
theorem dX12_findKept_17 : decode cX12_findKept 17 = .ok (.aload_n 0, 1) := by decide +kernel
theorem dX12_findKept_18 : decode cX12_findKept 18 = .ok (.getfield 260, 3) := by decide +kernel
theorem kw_1579 : Cond.fieldLink "LandSurveyModel" 260 "LandSurveyModel" "isKept" "[Z" ∈ uu := uu_in (i := 1579) (by decide +kernel) (by decide +kernel)
theorem fk_LandSurveyModel_260 : fkR "LandSurveyModel" 260 11 73 RX12 TX12 87 := ⟨rfl, rfl, inX12, by decide, kw_1579, by decide⟩
theorem dX12_findKept_21 : decode cX12_findKept 21 = .ok (.iload_n 1, 1) := by decide +kernel
theorem dX12_findKept_22 : decode cX12_findKept 22 = .ok (.aload_n 0, 1) := by decide +kernel
theorem dX12_findKept_23 : decode cX12_findKept 23 = .ok (.getfield 251, 3) := by decide +kernel
theorem dX12_findKept_26 : decode cX12_findKept 26 = .ok (.iload_n 1, 1) := by decide +kernel
theorem dX12_findKept_27 : decode cX12_findKept 27 = .ok (.baload, 1) := by decide +kernel
theorem dX12_findKept_28 : decode cX12_findKept 28 = .ok (.ifCond .eq 30, 3) := by decide +kernel
theorem dX12_findKept_58 : decode cX12_findKept 58 = .ok (.iconst 0, 1) := by decide +kernel
theorem dX12_findKept_59 : decode cX12_findKept 59 = .ok (.bastore, 1) := by decide +kernel
theorem dX12_findKept_60 : decode cX12_findKept 60 = .ok (.aload_n 0, 1) := by decide +kernel
theorem dX12_findKept_61 : decode cX12_findKept 61 = .ok (.dup, 1) := by decide +kernel
theorem dX12_findKept_62 : decode cX12_findKept 62 = .ok (.getfield 546, 3) := by decide +kernel
theorem dX12_findKept_65 : decode cX12_findKept 65 = .ok (.aload_n 0, 1) := by decide +kernel
theorem dX12_findKept_66 : decode cX12_findKept 66 = .ok (.getfield 260, 3) := by decide +kernel
theorem dX12_findKept_69 : decode cX12_findKept 69 = .ok (.iload_n 1, 1) := by decide +kernel
theorem dX12_findKept_70 : decode cX12_findKept 70 = .ok (.baload, 1) := by decide +kernel
theorem dX12_findKept_71 : decode cX12_findKept 71 = .ok (.ifCond .eq 7, 3) := by decide +kernel
theorem dX12_findKept_78 : decode cX12_findKept 78 = .ok (.iconst 0, 1) := by decide +kernel
theorem dX12_findKept_79 : decode cX12_findKept 79 = .ok (.iadd, 1) := by decide +kernel
theorem dX12_findKept_80 : decode cX12_findKept 80 = .ok (.putfield 546, 3) := by decide +kernel
theorem dX12_findKept_83 : decode cX12_findKept 83 = .ok (.iinc 1 1, 3) := by decide +kernel
theorem dX12_findKept_86 : decode cX12_findKept 86 = .ok (.goto (-79), 3) := by decide +kernel
theorem dX12_findKept_31 : decode cX12_findKept 31 = .ok (.aload_n 0, 1) := by decide +kernel
theorem dX12_findKept_32 : decode cX12_findKept 32 = .ok (.getfield 254, 3) := by decide +kernel
theorem dX12_findKept_35 : decode cX12_findKept 35 = .ok (.iload_n 1, 1) := by decide +kernel
theorem dX12_findKept_36 : decode cX12_findKept 36 = .ok (.iaload, 1) := by decide +kernel
theorem dX12_findKept_37 : decode cX12_findKept 37 = .ok (.aload_n 0, 1) := by decide +kernel
theorem dX12_findKept_38 : decode cX12_findKept 38 = .ok (.getfield 254, 3) := by decide +kernel
theorem dX12_findKept_41 : decode cX12_findKept 41 = .ok (.aload_n 0, 1) := by decide +kernel
theorem dX12_findKept_42 : decode cX12_findKept 42 = .ok (.getfield 537, 3) := by decide +kernel
theorem kw_1583 : Cond.fieldLink "LandSurveyModel" 537 "LandSurveyModel" "best" "I" ∈ uu := uu_in (i := 1583) (by decide +kernel) (by decide +kernel)
theorem fk_LandSurveyModel_537 : fkI "LandSurveyModel" 537 11 77 RX12 TX12 87 := ⟨rfl, rfl, inX12, by decide, kw_1583, by decide⟩
theorem dX12_findKept_45 : decode cX12_findKept 45 = .ok (.iaload, 1) := by decide +kernel
theorem dX12_findKept_46 : decode cX12_findKept 46 = .ok (.aload_n 0, 1) := by decide +kernel
theorem dX12_findKept_47 : decode cX12_findKept 47 = .ok (.getfield 549, 3) := by decide +kernel
theorem dX12_findKept_50 : decode cX12_findKept 50 = .ok (.iadd, 1) := by decide +kernel
theorem dX12_findKept_51 : decode cX12_findKept 51 = .ok (.if_icmp .gt 7, 3) := by decide +kernel
theorem dX12_findKept_54 : decode cX12_findKept 54 = .ok (.iconst 1, 1) := by decide +kernel
theorem dX12_findKept_55 : decode cX12_findKept 55 = .ok (.goto 4, 3) := by decide +kernel
theorem dX12_findKept_74 : decode cX12_findKept 74 = .ok (.iconst 1, 1) := by decide +kernel
theorem dX12_findKept_75 : decode cX12_findKept 75 = .ok (.goto 4, 3) := by decide +kernel
abbrev cX12_findGrounds : ByteArray := prog_14_method_79_code
def yX12_findGrounds : MethodName := ⟨RX12, "findGrounds", "()V"⟩
theorem okX12_findGrounds : yok yX12_findGrounds 0 := by decide +kernel
theorem dX12_findGrounds_0 : decode cX12_findGrounds 0 = .ok (.aload_n 0, 1) := by decide +kernel
theorem dX12_findGrounds_1 : decode cX12_findGrounds 1 = .ok (.getfield 290, 3) := by decide +kernel
theorem dX12_findGrounds_4 : decode cX12_findGrounds 4 = .ok (.ifCond .ne 4, 3) := by decide +kernel
theorem dX12_findGrounds_8 : decode cX12_findGrounds 8 = .ok (.aload_n 0, 1) := by decide +kernel
theorem dX12_findGrounds_9 : decode cX12_findGrounds 9 = .ok (.iconst 0, 1) := by decide +kernel
theorem dX12_findGrounds_10 : decode cX12_findGrounds 10 = .ok (.putfield 290, 3) := by decide +kernel
theorem dX12_findGrounds_13 : decode cX12_findGrounds 13 = .ok (.aload_n 0, 1) := by decide +kernel
theorem dX12_findGrounds_14 : decode cX12_findGrounds 14 = .ok (.invokevirtual 534, 3) := by decide +kernel
theorem kw_1949 : Cond.code yX12_findSaid prog_14_method_64_code 7 none ∈ uu := uu_in (i := 1949) (by decide +kernel) (by decide +kernel)
theorem kw_1946 : Cond.methodLink "LandSurveyModel" 534 yX12_findSaid ∈ uu := uu_in (i := 1946) (by decide +kernel) (by decide +kernel)
theorem kw_1948 : Cond.instanceMethod yX12_findSaid ∈ uu := uu_in (i := 1948) (by decide +kernel) (by decide +kernel)
theorem kw_90 : Cond.selects "LandSurveyModel" yX12_findSaid yX12_findSaid ∈ uu := uu_in (i := 90) (by decide +kernel) (by decide +kernel)
theorem lk_LandSurveyModel_534 : lkV "LandSurveyModel" 534 yX12_findSaid cX12_findSaid 7 none 0 := ⟨kw_1946, kw_1948, kw_90, kw_152, kw_1949, okX12_findSaid⟩
theorem dX12_findGrounds_17 : decode cX12_findGrounds 17 = .ok (.aload_n 0, 1) := by decide +kernel
theorem dX12_findGrounds_18 : decode cX12_findGrounds 18 = .ok (.iconst (-1), 1) := by decide +kernel
theorem dX12_findGrounds_19 : decode cX12_findGrounds 19 = .ok (.putfield 537, 3) := by decide +kernel
theorem pk_LandSurveyModel_77 : pk RX12 TX12 87 77 tyX12 false := ⟨tyX12_ok, nmX12, rfl⟩
theorem dX12_findGrounds_22 : decode cX12_findGrounds 22 = .ok (.iconst 0, 1) := by decide +kernel
theorem dX12_findGrounds_23 : decode cX12_findGrounds 23 = .ok (.istore_n 1, 1) := by decide +kernel
theorem dX12_findGrounds_24 : decode cX12_findGrounds 24 = .ok (.iload_n 1, 1) := by decide +kernel
theorem dX12_findGrounds_25 : decode cX12_findGrounds 25 = .ok (.iconst 1, 1) := by decide +kernel
theorem dX12_findGrounds_26 : decode cX12_findGrounds 26 = .ok (.aload_n 0, 1) := by decide +kernel
theorem dX12_findGrounds_27 : decode cX12_findGrounds 27 = .ok (.getfield 477, 3) := by decide +kernel
theorem dX12_findGrounds_30 : decode cX12_findGrounds 30 = .ok (.ishl, 1) := by decide +kernel
theorem dX12_findGrounds_31 : decode cX12_findGrounds 31 = .ok (.if_icmp .ge 74, 3) := by decide +kernel
theorem dX12_findGrounds_105 : decode cX12_findGrounds 105 = .ok (.aload_n 0, 1) := by decide +kernel
theorem dX12_findGrounds_106 : decode cX12_findGrounds 106 = .ok (.invokevirtual 543, 3) := by decide +kernel
theorem kw_2079 : Cond.code yX12_findKept prog_14_method_80_code 2 none ∈ uu := uu_in (i := 2079) (by decide +kernel) (by decide +kernel)
theorem kw_2076 : Cond.methodLink "LandSurveyModel" 543 yX12_findKept ∈ uu := uu_in (i := 2076) (by decide +kernel) (by decide +kernel)
theorem kw_2078 : Cond.instanceMethod yX12_findKept ∈ uu := uu_in (i := 2078) (by decide +kernel) (by decide +kernel)
theorem kw_120 : Cond.selects "LandSurveyModel" yX12_findKept yX12_findKept ∈ uu := uu_in (i := 120) (by decide +kernel) (by decide +kernel)
theorem lk_LandSurveyModel_543 : lkV "LandSurveyModel" 543 yX12_findKept cX12_findKept 2 none 0 := ⟨kw_2076, kw_2078, kw_120, kw_152, kw_2079, okX12_findKept⟩
theorem dX12_findGrounds_109 : decode cX12_findGrounds 109 = .ok (.return_, 1) := by decide +kernel
theorem dX12_findGrounds_34 : decode cX12_findGrounds 34 = .ok (.aload_n 0, 1) := by decide +kernel
theorem dX12_findGrounds_35 : decode cX12_findGrounds 35 = .ok (.getfield 251, 3) := by decide +kernel
theorem dX12_findGrounds_38 : decode cX12_findGrounds 38 = .ok (.iload_n 1, 1) := by decide +kernel
theorem dX12_findGrounds_39 : decode cX12_findGrounds 39 = .ok (.iconst 0, 1) := by decide +kernel
theorem dX12_findGrounds_40 : decode cX12_findGrounds 40 = .ok (.bastore, 1) := by decide +kernel
theorem dX12_findGrounds_41 : decode cX12_findGrounds 41 = .ok (.aload_n 0, 1) := by decide +kernel
theorem dX12_findGrounds_42 : decode cX12_findGrounds 42 = .ok (.iload_n 1, 1) := by decide +kernel
theorem dX12_findGrounds_43 : decode cX12_findGrounds 43 = .ok (.lconst 0, 1) := by decide +kernel
theorem dX12_findGrounds_44 : decode cX12_findGrounds 44 = .ok (.iconst 0, 1) := by decide +kernel
theorem dX12_findGrounds_45 : decode cX12_findGrounds 45 = .ok (.invokevirtual 530, 3) := by decide +kernel
theorem dX12_findGrounds_48 : decode cX12_findGrounds 48 = .ok (.aload_n 0, 1) := by decide +kernel
theorem dX12_findGrounds_49 : decode cX12_findGrounds 49 = .ok (.getfield 251, 3) := by decide +kernel
theorem dX12_findGrounds_52 : decode cX12_findGrounds 52 = .ok (.iload_n 1, 1) := by decide +kernel
theorem dX12_findGrounds_53 : decode cX12_findGrounds 53 = .ok (.baload, 1) := by decide +kernel
theorem dX12_findGrounds_54 : decode cX12_findGrounds 54 = .ok (.ifCond .eq 45, 3) := by decide +kernel
theorem dX12_findGrounds_99 : decode cX12_findGrounds 99 = .ok (.iinc 1 1, 3) := by decide +kernel
theorem dX12_findGrounds_102 : decode cX12_findGrounds 102 = .ok (.goto (-78), 3) := by decide +kernel
theorem dX12_findGrounds_57 : decode cX12_findGrounds 57 = .ok (.aload_n 0, 1) := by decide +kernel
theorem dX12_findGrounds_58 : decode cX12_findGrounds 58 = .ok (.aload_n 0, 1) := by decide +kernel
theorem dX12_findGrounds_59 : decode cX12_findGrounds 59 = .ok (.getfield 537, 3) := by decide +kernel
theorem dX12_findGrounds_62 : decode cX12_findGrounds 62 = .ok (.ifCond .lt 21, 3) := by decide +kernel
theorem dX12_findGrounds_83 : decode cX12_findGrounds 83 = .ok (.iload_n 1, 1) := by decide +kernel
theorem dX12_findGrounds_84 : decode cX12_findGrounds 84 = .ok (.goto 7, 3) := by decide +kernel
theorem dX12_findGrounds_91 : decode cX12_findGrounds 91 = .ok (.putfield 537, 3) := by decide +kernel
theorem dX12_findGrounds_94 : decode cX12_findGrounds 94 = .ok (.aload_n 0, 1) := by decide +kernel
theorem dX12_findGrounds_95 : decode cX12_findGrounds 95 = .ok (.iload_n 1, 1) := by decide +kernel
theorem dX12_findGrounds_96 : decode cX12_findGrounds 96 = .ok (.invokevirtual 540, 3) := by decide +kernel
theorem kw_2070 : Cond.code yX12_findBase prog_14_method_82_code 3 none ∈ uu := uu_in (i := 2070) (by decide +kernel) (by decide +kernel)
theorem kw_2067 : Cond.methodLink "LandSurveyModel" 540 yX12_findBase ∈ uu := uu_in (i := 2067) (by decide +kernel) (by decide +kernel)
theorem kw_2069 : Cond.instanceMethod yX12_findBase ∈ uu := uu_in (i := 2069) (by decide +kernel) (by decide +kernel)
theorem kw_118 : Cond.selects "LandSurveyModel" yX12_findBase yX12_findBase ∈ uu := uu_in (i := 118) (by decide +kernel) (by decide +kernel)
theorem lk_LandSurveyModel_540 : lkV "LandSurveyModel" 540 yX12_findBase cX12_findBase 3 none 1 := ⟨kw_2067, kw_2069, kw_118, kw_152, kw_2070, okX12_findBase⟩
theorem dX12_findGrounds_65 : decode cX12_findGrounds 65 = .ok (.aload_n 0, 1) := by decide +kernel
theorem dX12_findGrounds_66 : decode cX12_findGrounds 66 = .ok (.getfield 254, 3) := by decide +kernel
theorem dX12_findGrounds_69 : decode cX12_findGrounds 69 = .ok (.iload_n 1, 1) := by decide +kernel
theorem dX12_findGrounds_70 : decode cX12_findGrounds 70 = .ok (.iaload, 1) := by decide +kernel
theorem dX12_findGrounds_71 : decode cX12_findGrounds 71 = .ok (.aload_n 0, 1) := by decide +kernel
theorem dX12_findGrounds_72 : decode cX12_findGrounds 72 = .ok (.getfield 254, 3) := by decide +kernel
theorem dX12_findGrounds_75 : decode cX12_findGrounds 75 = .ok (.aload_n 0, 1) := by decide +kernel
theorem dX12_findGrounds_76 : decode cX12_findGrounds 76 = .ok (.getfield 537, 3) := by decide +kernel
theorem dX12_findGrounds_79 : decode cX12_findGrounds 79 = .ok (.iaload, 1) := by decide +kernel
theorem dX12_findGrounds_80 : decode cX12_findGrounds 80 = .ok (.if_icmp .ge 7, 3) := by decide +kernel
theorem dX12_findGrounds_87 : decode cX12_findGrounds 87 = .ok (.aload_n 0, 1) := by decide +kernel
theorem dX12_findGrounds_88 : decode cX12_findGrounds 88 = .ok (.getfield 537, 3) := by decide +kernel
theorem dX12_findGrounds_7 : decode cX12_findGrounds 7 = .ok (.return_, 1) := by decide +kernel
def wr_k_X12_neighbour : List Nat := []
set_option maxRecDepth 100000 in
set_option maxHeartbeats 4000000 in
theorem k_X12_neighbour (l : Launch) (D : va_G) (cy : Nat → ClassId) (w : Nat → Nat) (z0 : Nat)  {h : Hp} {a0 : Int} {a1 : Int}  (O : Okh h) (fa0 : 0 ≤ a0 ∧ a0 ≤ 95) (fa1 : 0 ≤ a1 ∧ a1 ≤ 3) : MI l D cy w z0 yX12_neighbour cX12_neighbour 4 (some .int) 2 43 0 0 [.inl a0, .inl a1] h (fun v h1 => Okh h1 ∧ Fx wr_k_X12_neighbour h h1 ∧ ((-1) ≤ v ∧ v ≤ 95) ∧ (v = nbI a0 a1)) := by
  refine hm_go (by decide +kernel) (Nat.le_of_ble_eq_true rfl) (fun p e s m below meth c C hr hn => ?_)
  refine g_iload_n C rfl 0 rfl dX12_neighbour_0 ?_
  refine g_bipush C (by decide) dX12_neighbour_1 ?_
  refine g_iremE (k := 12) C (iw fa0 (by decide) (by decide)) (by decide) (by decide) dX12_neighbour_3 ?_
  have f1 : (0 : Int) ≤ (a0 % 12) ∧ (a0 % 12) ≤ (11 : Int) := iv_rem (by decide) (by decide)
  refine g_iload_n C rfl 1 rfl dX12_neighbour_4 ?_
  refine g_if_ne C (iw fa1 (by decide) (by decide)) 12 (by decide) dX12_neighbour_5 (fun q2 => ?_) (fun q3 => ?_)
  · have f4 : (1 : Int) ≤ a1 ∧ a1 ≤ (3 : Int) := r_nl fa1 q2
    refine g_iload_n C rfl 1 rfl dX12_neighbour_12 ?_
    refine g_iconst C dX12_neighbour_13 ?_
    refine g_icmp_ne C (iw f4 (by decide) (by decide)) (iw (il 1) (by decide) (by decide)) 21 (by decide) dX12_neighbour_14 (fun q5 => ?_) (fun q6 => ?_)
    · have f7 : (2 : Int) ≤ a1 ∧ a1 ≤ (3 : Int) := r_nl f4 q5
      refine g_iconst C dX12_neighbour_21 ?_
      have f8 : (0 : Int) ≤ ((a0 % 12) + 0) ∧ ((a0 % 12) + 0) ≤ (11 : Int) := ia_add f1 (il 0) (by decide) (by decide)
      refine g_iadd C dX12_neighbour_22 ?_
      refine g_istore_n C [(2, .inl ((a0 % 12) + 0)), (0, .inl a0), (1, .inl a1)] rfl (by decide) rfl dX12_neighbour_23 ?_
      refine g_iload_n C rfl 1 rfl dX12_neighbour_24 ?_
      refine g_bipush C (by decide) dX12_neighbour_25 ?_
      refine g_idivE (k := 12) C (iw fa0 (by decide) (by decide)) (by decide) (by decide) dX12_neighbour_27 ?_
      have f9 : (0 : Int) ≤ (a0 / 12) ∧ (a0 / 12) ≤ (7 : Int) := iv_div (by decide) fa0 (by decide) (by decide)
      refine g_iload_n C rfl 2 rfl dX12_neighbour_28 ?_
      refine g_iconst C dX12_neighbour_29 ?_
      refine g_icmp_ne C (iw f7 (by decide) (by decide)) (iw (il 2) (by decide) (by decide)) 37 (by decide) dX12_neighbour_30 (fun q10 => ?_) (fun q11 => ?_)
      · have f12 : (3 : Int) ≤ a1 ∧ a1 ≤ (3 : Int) := r_nl f7 q10
        refine g_iload_n C rfl 2 rfl dX12_neighbour_37 ?_
        refine g_iconst C dX12_neighbour_38 ?_
        refine g_icmp_ne C (iw f12 (by decide) (by decide)) (iw (il 3) (by decide) (by decide)) 46 (by decide) dX12_neighbour_39 (fun q13 => ?_) (fun q14 => ?_)
        · exact (no_ne f12 (il 3) q13 (by decide)).elim
        · refine g_iconst C dX12_neighbour_42 ?_
          refine g_goto C 47 (by decide) dX12_neighbour_43 ?_
          have f15 : (1 : Int) ≤ ((a0 / 12) + 1) ∧ ((a0 / 12) + 1) ≤ (8 : Int) := ia_add f9 (il 1) (by decide) (by decide)
          refine g_iadd C dX12_neighbour_47 ?_
          refine g_istore_n C [(3, .inl ((a0 / 12) + 1)), (2, .inl ((a0 % 12) + 0)), (0, .inl a0), (1, .inl a1)] rfl (by decide) rfl dX12_neighbour_48 ?_
          refine g_iload_n C rfl 1 rfl dX12_neighbour_49 ?_
          refine g_iload_n C rfl 0 rfl dX12_neighbour_50 ?_
          refine g_callI (st := []) (gc_S C lk_LandSurveyModel_419 (k_X12_isCell l D cy w z0 O (iw f8 (by decide) (by decide)) (iw f15 (by decide) (by decide))) rfl ⟨by decide, by decide⟩ (Nat.le_of_ble_eq_true rfl) dX12_neighbour_51 ⟨(by decide), (by decide)⟩) (fun r16 h17 f19 K18 => ?_)
          obtain ⟨O20, F21, f22, p23⟩ := K18
          refine g_if_eq C (iw f22 (by decide) (by decide)) 66 (by decide) dX12_neighbour_54 (fun q24 => ?_) (fun q25 => ?_)
          · have f26 : (0 : Int) ≤ r16 ∧ r16 ≤ (0 : Int) := ii f22 (r_eq (il 0) q24) (by decide) (by decide)
            refine g_iconst C dX12_neighbour_66 ?_
            exact g_iret C hr rfl (iw (il (-1)) (by decide) (by decide)) ⟨O20, ((Fx.rf (wr := wr_k_X12_neighbour)).call F21 rfl), (iw (il (-1)) (by decide) (by decide)), (by unfold nbI; rw [show dxF a1 = 0 from by unfold dxF; (repeat (first | rw [if_pos (by omega)] | rw [if_neg (by omega)])), show dzF a1 = 1 from by unfold dzF; (repeat (first | rw [if_pos (by omega)] | rw [if_neg (by omega)]))]; unfold nbXY; (first | rw [if_pos (by omega)] | rw [if_neg (by omega)]))⟩ (by decide) (by decide) dX12_neighbour_67
          · have f27 : (1 : Int) ≤ r16 ∧ r16 ≤ (1 : Int) := r_nl f22 q25
            have f28 : (1 : Int) ≤ ((a0 / 12) + 1) ∧ ((a0 / 12) + 1) ≤ (7 : Int) := by omega
            refine g_bipush C (by decide) dX12_neighbour_57 ?_
            refine g_iload_n C rfl 0 rfl dX12_neighbour_59 ?_
            have f29 : (12 : Int) ≤ (12 * ((a0 / 12) + 1)) ∧ (12 * ((a0 / 12) + 1)) ≤ (84 : Int) := ia_mul (by decide) f28 (by decide) (by decide)
            refine g_imul C dX12_neighbour_60 ?_
            refine g_iload_n C rfl 1 rfl dX12_neighbour_61 ?_
            have f30 : (12 : Int) ≤ ((12 * ((a0 / 12) + 1)) + ((a0 % 12) + 0)) ∧ ((12 * ((a0 / 12) + 1)) + ((a0 % 12) + 0)) ≤ (95 : Int) := ia_add f29 f8 (by decide) (by decide)
            refine g_iadd C dX12_neighbour_62 ?_
            refine g_goto C 67 (by decide) dX12_neighbour_63 ?_
            exact g_iret C hr rfl (iw f30 (by decide) (by decide)) ⟨O20, ((Fx.rf (wr := wr_k_X12_neighbour)).call F21 rfl), (iw f30 (by decide) (by decide)), (by unfold nbI; rw [show dxF a1 = 0 from by unfold dxF; (repeat (first | rw [if_pos (by omega)] | rw [if_neg (by omega)])), show dzF a1 = 1 from by unfold dzF; (repeat (first | rw [if_pos (by omega)] | rw [if_neg (by omega)]))]; unfold nbXY; (first | rw [if_pos (by omega)] | rw [if_neg (by omega)]))⟩ (by decide) (by decide) dX12_neighbour_67
      · have f31 : (2 : Int) ≤ a1 ∧ a1 ≤ (2 : Int) := ii f7 (r_eq (il 2) q11) (by decide) (by decide)
        refine g_iconst C dX12_neighbour_33 ?_
        refine g_goto C 47 (by decide) dX12_neighbour_34 ?_
        have f32 : (-1 : Int) ≤ ((a0 / 12) + (-1)) ∧ ((a0 / 12) + (-1)) ≤ (6 : Int) := ia_add f9 (il (-1)) (by decide) (by decide)
        refine g_iadd C dX12_neighbour_47 ?_
        refine g_istore_n C [(3, .inl ((a0 / 12) + (-1))), (2, .inl ((a0 % 12) + 0)), (0, .inl a0), (1, .inl a1)] rfl (by decide) rfl dX12_neighbour_48 ?_
        refine g_iload_n C rfl 1 rfl dX12_neighbour_49 ?_
        refine g_iload_n C rfl 0 rfl dX12_neighbour_50 ?_
        refine g_callI (st := []) (gc_S C lk_LandSurveyModel_419 (k_X12_isCell l D cy w z0 O (iw f8 (by decide) (by decide)) (iw f32 (by decide) (by decide))) rfl ⟨by decide, by decide⟩ (Nat.le_of_ble_eq_true rfl) dX12_neighbour_51 ⟨(by decide), (by decide)⟩) (fun r33 h34 f36 K35 => ?_)
        obtain ⟨O37, F38, f39, p40⟩ := K35
        refine g_if_eq C (iw f39 (by decide) (by decide)) 66 (by decide) dX12_neighbour_54 (fun q41 => ?_) (fun q42 => ?_)
        · have f43 : (0 : Int) ≤ r33 ∧ r33 ≤ (0 : Int) := ii f39 (r_eq (il 0) q41) (by decide) (by decide)
          refine g_iconst C dX12_neighbour_66 ?_
          exact g_iret C hr rfl (iw (il (-1)) (by decide) (by decide)) ⟨O37, ((Fx.rf (wr := wr_k_X12_neighbour)).call F38 rfl), (iw (il (-1)) (by decide) (by decide)), (by unfold nbI; rw [show dxF a1 = 0 from by unfold dxF; (repeat (first | rw [if_pos (by omega)] | rw [if_neg (by omega)])), show dzF a1 = (-1) from by unfold dzF; (repeat (first | rw [if_pos (by omega)] | rw [if_neg (by omega)]))]; unfold nbXY; (first | rw [if_pos (by omega)] | rw [if_neg (by omega)]))⟩ (by decide) (by decide) dX12_neighbour_67
        · have f44 : (1 : Int) ≤ r33 ∧ r33 ≤ (1 : Int) := r_nl f39 q42
          have f45 : (0 : Int) ≤ ((a0 / 12) + (-1)) ∧ ((a0 / 12) + (-1)) ≤ (6 : Int) := by omega
          refine g_bipush C (by decide) dX12_neighbour_57 ?_
          refine g_iload_n C rfl 0 rfl dX12_neighbour_59 ?_
          have f46 : (0 : Int) ≤ (12 * ((a0 / 12) + (-1))) ∧ (12 * ((a0 / 12) + (-1))) ≤ (72 : Int) := ia_mul (by decide) f45 (by decide) (by decide)
          refine g_imul C dX12_neighbour_60 ?_
          refine g_iload_n C rfl 1 rfl dX12_neighbour_61 ?_
          have f47 : (0 : Int) ≤ ((12 * ((a0 / 12) + (-1))) + ((a0 % 12) + 0)) ∧ ((12 * ((a0 / 12) + (-1))) + ((a0 % 12) + 0)) ≤ (83 : Int) := ia_add f46 f8 (by decide) (by decide)
          refine g_iadd C dX12_neighbour_62 ?_
          refine g_goto C 67 (by decide) dX12_neighbour_63 ?_
          exact g_iret C hr rfl (iw f47 (by decide) (by decide)) ⟨O37, ((Fx.rf (wr := wr_k_X12_neighbour)).call F38 rfl), (iw f47 (by decide) (by decide)), (by unfold nbI; rw [show dxF a1 = 0 from by unfold dxF; (repeat (first | rw [if_pos (by omega)] | rw [if_neg (by omega)])), show dzF a1 = (-1) from by unfold dzF; (repeat (first | rw [if_pos (by omega)] | rw [if_neg (by omega)]))]; unfold nbXY; (first | rw [if_pos (by omega)] | rw [if_neg (by omega)]))⟩ (by decide) (by decide) dX12_neighbour_67
    · have f48 : (1 : Int) ≤ a1 ∧ a1 ≤ (1 : Int) := ii f4 (r_eq (il 1) q6) (by decide) (by decide)
      refine g_iconst C dX12_neighbour_17 ?_
      refine g_goto C 22 (by decide) dX12_neighbour_18 ?_
      have f49 : (1 : Int) ≤ ((a0 % 12) + 1) ∧ ((a0 % 12) + 1) ≤ (12 : Int) := ia_add f1 (il 1) (by decide) (by decide)
      refine g_iadd C dX12_neighbour_22 ?_
      refine g_istore_n C [(2, .inl ((a0 % 12) + 1)), (0, .inl a0), (1, .inl a1)] rfl (by decide) rfl dX12_neighbour_23 ?_
      refine g_iload_n C rfl 1 rfl dX12_neighbour_24 ?_
      refine g_bipush C (by decide) dX12_neighbour_25 ?_
      refine g_idivE (k := 12) C (iw fa0 (by decide) (by decide)) (by decide) (by decide) dX12_neighbour_27 ?_
      have f50 : (0 : Int) ≤ (a0 / 12) ∧ (a0 / 12) ≤ (7 : Int) := iv_div (by decide) fa0 (by decide) (by decide)
      refine g_iload_n C rfl 2 rfl dX12_neighbour_28 ?_
      refine g_iconst C dX12_neighbour_29 ?_
      refine g_icmp_ne C (iw f48 (by decide) (by decide)) (iw (il 2) (by decide) (by decide)) 37 (by decide) dX12_neighbour_30 (fun q51 => ?_) (fun q52 => ?_)
      · refine g_iload_n C rfl 2 rfl dX12_neighbour_37 ?_
        refine g_iconst C dX12_neighbour_38 ?_
        refine g_icmp_ne C (iw f48 (by decide) (by decide)) (iw (il 3) (by decide) (by decide)) 46 (by decide) dX12_neighbour_39 (fun q53 => ?_) (fun q54 => ?_)
        · refine g_iconst C dX12_neighbour_46 ?_
          have f55 : (0 : Int) ≤ ((a0 / 12) + 0) ∧ ((a0 / 12) + 0) ≤ (7 : Int) := ia_add f50 (il 0) (by decide) (by decide)
          refine g_iadd C dX12_neighbour_47 ?_
          refine g_istore_n C [(3, .inl ((a0 / 12) + 0)), (2, .inl ((a0 % 12) + 1)), (0, .inl a0), (1, .inl a1)] rfl (by decide) rfl dX12_neighbour_48 ?_
          refine g_iload_n C rfl 1 rfl dX12_neighbour_49 ?_
          refine g_iload_n C rfl 0 rfl dX12_neighbour_50 ?_
          refine g_callI (st := []) (gc_S C lk_LandSurveyModel_419 (k_X12_isCell l D cy w z0 O (iw f49 (by decide) (by decide)) (iw f55 (by decide) (by decide))) rfl ⟨by decide, by decide⟩ (Nat.le_of_ble_eq_true rfl) dX12_neighbour_51 ⟨(by decide), (by decide)⟩) (fun r56 h57 f59 K58 => ?_)
          obtain ⟨O60, F61, f62, p63⟩ := K58
          refine g_if_eq C (iw f62 (by decide) (by decide)) 66 (by decide) dX12_neighbour_54 (fun q64 => ?_) (fun q65 => ?_)
          · have f66 : (0 : Int) ≤ r56 ∧ r56 ≤ (0 : Int) := ii f62 (r_eq (il 0) q64) (by decide) (by decide)
            refine g_iconst C dX12_neighbour_66 ?_
            exact g_iret C hr rfl (iw (il (-1)) (by decide) (by decide)) ⟨O60, ((Fx.rf (wr := wr_k_X12_neighbour)).call F61 rfl), (iw (il (-1)) (by decide) (by decide)), (by unfold nbI; rw [show dxF a1 = 1 from by unfold dxF; (repeat (first | rw [if_pos (by omega)] | rw [if_neg (by omega)])), show dzF a1 = 0 from by unfold dzF; (repeat (first | rw [if_pos (by omega)] | rw [if_neg (by omega)]))]; unfold nbXY; (first | rw [if_pos (by omega)] | rw [if_neg (by omega)]))⟩ (by decide) (by decide) dX12_neighbour_67
          · have f67 : (1 : Int) ≤ r56 ∧ r56 ≤ (1 : Int) := r_nl f62 q65
            have f68 : (1 : Int) ≤ ((a0 % 12) + 1) ∧ ((a0 % 12) + 1) ≤ (11 : Int) := by omega
            refine g_bipush C (by decide) dX12_neighbour_57 ?_
            refine g_iload_n C rfl 0 rfl dX12_neighbour_59 ?_
            have f69 : (0 : Int) ≤ (12 * ((a0 / 12) + 0)) ∧ (12 * ((a0 / 12) + 0)) ≤ (84 : Int) := ia_mul (by decide) f55 (by decide) (by decide)
            refine g_imul C dX12_neighbour_60 ?_
            refine g_iload_n C rfl 1 rfl dX12_neighbour_61 ?_
            have f70 : (1 : Int) ≤ ((12 * ((a0 / 12) + 0)) + ((a0 % 12) + 1)) ∧ ((12 * ((a0 / 12) + 0)) + ((a0 % 12) + 1)) ≤ (95 : Int) := ia_add f69 f68 (by decide) (by decide)
            refine g_iadd C dX12_neighbour_62 ?_
            refine g_goto C 67 (by decide) dX12_neighbour_63 ?_
            exact g_iret C hr rfl (iw f70 (by decide) (by decide)) ⟨O60, ((Fx.rf (wr := wr_k_X12_neighbour)).call F61 rfl), (iw f70 (by decide) (by decide)), (by unfold nbI; rw [show dxF a1 = 1 from by unfold dxF; (repeat (first | rw [if_pos (by omega)] | rw [if_neg (by omega)])), show dzF a1 = 0 from by unfold dzF; (repeat (first | rw [if_pos (by omega)] | rw [if_neg (by omega)]))]; unfold nbXY; (first | rw [if_pos (by omega)] | rw [if_neg (by omega)]))⟩ (by decide) (by decide) dX12_neighbour_67
        · exact (no_eq f48 (il 3) q54 (by decide)).elim
      · exact (no_eq f48 (il 2) q52 (by decide)).elim
  · have f71 : (0 : Int) ≤ a1 ∧ a1 ≤ (0 : Int) := ii fa1 (r_eq (il 0) q3) (by decide) (by decide)
    refine g_iconst C dX12_neighbour_8 ?_
    refine g_goto C 22 (by decide) dX12_neighbour_9 ?_
    have f72 : (-1 : Int) ≤ ((a0 % 12) + (-1)) ∧ ((a0 % 12) + (-1)) ≤ (10 : Int) := ia_add f1 (il (-1)) (by decide) (by decide)
    refine g_iadd C dX12_neighbour_22 ?_
    refine g_istore_n C [(2, .inl ((a0 % 12) + (-1))), (0, .inl a0), (1, .inl a1)] rfl (by decide) rfl dX12_neighbour_23 ?_
    refine g_iload_n C rfl 1 rfl dX12_neighbour_24 ?_
    refine g_bipush C (by decide) dX12_neighbour_25 ?_
    refine g_idivE (k := 12) C (iw fa0 (by decide) (by decide)) (by decide) (by decide) dX12_neighbour_27 ?_
    have f73 : (0 : Int) ≤ (a0 / 12) ∧ (a0 / 12) ≤ (7 : Int) := iv_div (by decide) fa0 (by decide) (by decide)
    refine g_iload_n C rfl 2 rfl dX12_neighbour_28 ?_
    refine g_iconst C dX12_neighbour_29 ?_
    refine g_icmp_ne C (iw f71 (by decide) (by decide)) (iw (il 2) (by decide) (by decide)) 37 (by decide) dX12_neighbour_30 (fun q74 => ?_) (fun q75 => ?_)
    · refine g_iload_n C rfl 2 rfl dX12_neighbour_37 ?_
      refine g_iconst C dX12_neighbour_38 ?_
      refine g_icmp_ne C (iw f71 (by decide) (by decide)) (iw (il 3) (by decide) (by decide)) 46 (by decide) dX12_neighbour_39 (fun q76 => ?_) (fun q77 => ?_)
      · refine g_iconst C dX12_neighbour_46 ?_
        have f78 : (0 : Int) ≤ ((a0 / 12) + 0) ∧ ((a0 / 12) + 0) ≤ (7 : Int) := ia_add f73 (il 0) (by decide) (by decide)
        refine g_iadd C dX12_neighbour_47 ?_
        refine g_istore_n C [(3, .inl ((a0 / 12) + 0)), (2, .inl ((a0 % 12) + (-1))), (0, .inl a0), (1, .inl a1)] rfl (by decide) rfl dX12_neighbour_48 ?_
        refine g_iload_n C rfl 1 rfl dX12_neighbour_49 ?_
        refine g_iload_n C rfl 0 rfl dX12_neighbour_50 ?_
        refine g_callI (st := []) (gc_S C lk_LandSurveyModel_419 (k_X12_isCell l D cy w z0 O (iw f72 (by decide) (by decide)) (iw f78 (by decide) (by decide))) rfl ⟨by decide, by decide⟩ (Nat.le_of_ble_eq_true rfl) dX12_neighbour_51 ⟨(by decide), (by decide)⟩) (fun r79 h80 f82 K81 => ?_)
        obtain ⟨O83, F84, f85, p86⟩ := K81
        refine g_if_eq C (iw f85 (by decide) (by decide)) 66 (by decide) dX12_neighbour_54 (fun q87 => ?_) (fun q88 => ?_)
        · have f89 : (0 : Int) ≤ r79 ∧ r79 ≤ (0 : Int) := ii f85 (r_eq (il 0) q87) (by decide) (by decide)
          refine g_iconst C dX12_neighbour_66 ?_
          exact g_iret C hr rfl (iw (il (-1)) (by decide) (by decide)) ⟨O83, ((Fx.rf (wr := wr_k_X12_neighbour)).call F84 rfl), (iw (il (-1)) (by decide) (by decide)), (by unfold nbI; rw [show dxF a1 = (-1) from by unfold dxF; (repeat (first | rw [if_pos (by omega)] | rw [if_neg (by omega)])), show dzF a1 = 0 from by unfold dzF; (repeat (first | rw [if_pos (by omega)] | rw [if_neg (by omega)]))]; unfold nbXY; (first | rw [if_pos (by omega)] | rw [if_neg (by omega)]))⟩ (by decide) (by decide) dX12_neighbour_67
        · have f90 : (1 : Int) ≤ r79 ∧ r79 ≤ (1 : Int) := r_nl f85 q88
          have f91 : (0 : Int) ≤ ((a0 % 12) + (-1)) ∧ ((a0 % 12) + (-1)) ≤ (10 : Int) := by omega
          refine g_bipush C (by decide) dX12_neighbour_57 ?_
          refine g_iload_n C rfl 0 rfl dX12_neighbour_59 ?_
          have f92 : (0 : Int) ≤ (12 * ((a0 / 12) + 0)) ∧ (12 * ((a0 / 12) + 0)) ≤ (84 : Int) := ia_mul (by decide) f78 (by decide) (by decide)
          refine g_imul C dX12_neighbour_60 ?_
          refine g_iload_n C rfl 1 rfl dX12_neighbour_61 ?_
          have f93 : (0 : Int) ≤ ((12 * ((a0 / 12) + 0)) + ((a0 % 12) + (-1))) ∧ ((12 * ((a0 / 12) + 0)) + ((a0 % 12) + (-1))) ≤ (94 : Int) := ia_add f92 f91 (by decide) (by decide)
          refine g_iadd C dX12_neighbour_62 ?_
          refine g_goto C 67 (by decide) dX12_neighbour_63 ?_
          exact g_iret C hr rfl (iw f93 (by decide) (by decide)) ⟨O83, ((Fx.rf (wr := wr_k_X12_neighbour)).call F84 rfl), (iw f93 (by decide) (by decide)), (by unfold nbI; rw [show dxF a1 = (-1) from by unfold dxF; (repeat (first | rw [if_pos (by omega)] | rw [if_neg (by omega)])), show dzF a1 = 0 from by unfold dzF; (repeat (first | rw [if_pos (by omega)] | rw [if_neg (by omega)]))]; unfold nbXY; (first | rw [if_pos (by omega)] | rw [if_neg (by omega)]))⟩ (by decide) (by decide) dX12_neighbour_67
      · exact (no_eq f71 (il 3) q77 (by decide)).elim
    · exact (no_eq f71 (il 2) q75 (by decide)).elim
def wr_k_X12_breakOn : List Nat := []
set_option maxRecDepth 100000 in
set_option maxHeartbeats 4000000 in
theorem k_X12_breakOn (l : Launch) (D : va_G) (cy : Nat → ClassId) (w : Nat → Nat) (z0 : Nat)  {h : Hp} {a0 : Nat} {a1 : Int} {a2 : Int}  (O : Okh h) (ta0 : Tg h a0 = 12) (fa1 : 0 ≤ a1 ∧ a1 ≤ 191) (fa2 : (-2147483648) ≤ a2 ∧ a2 ≤ 2147483647) : MI l D cy w z0 yX12_breakOn cX12_breakOn 4 (some .int) 0 0 0 0 [.inr (.inr a0), .inl a1, .inl a2] h (fun v h1 => Okh h1 ∧ Fx wr_k_X12_breakOn h h1 ∧ ((-1) ≤ v ∧ v ≤ 3)) := by
  refine hm_go (by decide +kernel) (Nat.le_of_ble_eq_true rfl) (fun p e s m below meth c C hr hn => ?_)
  refine g_iconst C dX12_breakOn_0 ?_
  refine g_istore_n C [(3, .inl 0), (0, .inr (.inr a0)), (1, .inl a1), (2, .inl a2)] rfl (by decide) rfl dX12_breakOn_1 ?_
  refine GW.sub [1, 2, 3, 0] rfl ?_
  -- loop at 2
  have L2 : ∀ (μ : Nat) (x1 : Int), (4 - x1).toNat = μ → ((0 : Int) ≤ x1 ∧ x1 ≤ (4 : Int)) → GW p l e (rmm 0 0 0 0) s m (List.map toV [.inr (.inr a0), .inl a1, .inl a2]).toArray below meth c D cy z0 4 (MQ below (QI D cy z0 (fun v h1 => Okh h1 ∧ Fx wr_k_X12_breakOn h h1 ∧ ((-1) ≤ v ∧ v ≤ 3))) (List.map toV [.inr (.inr a0), .inl a1, .inl a2]).toArray s 0 0 (Aof z0)) 2 [(0, .inr (.inr a0)), (1, .inl a1), (2, .inl a2), (3, .inl x1)] [] h 0 0 := by
    intro μ
    induction μ using Nat.strongRecOn with
    | ind μ ih3 =>
      intro x1 hm4 f5
      refine g_iload_n C rfl 3 rfl dX12_breakOn_2 ?_
      refine g_aload_n C rfl 0 rfl dX12_breakOn_3 ?_
      obtain ⟨v6, e7⟩ : ∃ z, Iv h a0 57 = z := ⟨_, rfl⟩
      have f8 := ok_I O ta0 rI_12_57 e7
      refine gf_I C fk_LandSurveyModel_477 rfl ta0 e7 dX12_breakOn_4 ?_
      refine g_icmp_ge C (iw f5 (by decide) (by decide)) (iw f8 (by decide) (by decide)) 42 (by decide) dX12_breakOn_7 (fun q9 => ?_) (fun q10 => ?_)
      · refine g_iconst C dX12_breakOn_42 ?_
        exact g_iret C hr rfl (iw (il (-1)) (by decide) (by decide)) ⟨O, Fx.rf, (iw (il (-1)) (by decide) (by decide))⟩ (by decide) (by decide) dX12_breakOn_43
      · have f11 : (0 : Int) ≤ x1 ∧ x1 ≤ (3 : Int) := r_lt f5 f8 q10 (by decide) (by decide)
        have f12 : (1 : Int) ≤ v6 ∧ v6 ≤ (4 : Int) := r_gt f8 f5 q10 (by decide) (by decide)
        refine g_iload_n C rfl 2 rfl dX12_breakOn_10 ?_
        refine g_iload_n C rfl 3 rfl dX12_breakOn_11 ?_
        refine g_ishr C dX12_breakOn_12 ?_
        have f13 : (-2147483648 : Int) ≤ (bShr a2 x1) ∧ (bShr a2 x1) ≤ (2147483647 : Int) := inR_of _
        refine g_iconst C dX12_breakOn_13 ?_
        refine g_iand C dX12_breakOn_14 ?_
        have f14 : (0 : Int) ≤ (bAnd (bShr a2 x1) 1) ∧ (bAnd (bShr a2 x1) 1) ≤ (1 : Int) := bAnd_1 _
        refine g_iconst C dX12_breakOn_15 ?_
        refine g_icmp_ne C (iw f14 (by decide) (by decide)) (iw (il 1) (by decide) (by decide)) 36 (by decide) dX12_breakOn_16 (fun q15 => ?_) (fun q16 => ?_)
        · have f17 : (0 : Int) ≤ (bAnd (bShr a2 x1) 1) ∧ (bAnd (bShr a2 x1) 1) ≤ (0 : Int) := r_nh f14 q15
          have f18 : (1 : Int) ≤ (x1 + 1) ∧ (x1 + 1) ≤ (4 : Int) := ia_add f11 (il 1) (by decide) (by decide)
          refine g_iinc C [(3, .inl (x1 + 1)), (0, .inr (.inr a0)), (1, .inl a1), (2, .inl a2)] 3 rfl (by decide) rfl dX12_breakOn_36 ?_
          refine g_goto C 2 (by decide) dX12_breakOn_39 ?_
          refine GW.sub [1, 2, 3, 0] rfl ?_
          exact ih3 _ (by omega) (x1 + 1) rfl (iw f18 (by decide) (by decide))
        · have f19 : (1 : Int) ≤ (bAnd (bShr a2 x1) 1) ∧ (bAnd (bShr a2 x1) 1) ≤ (1 : Int) := ii f14 (r_eq (il 1) q16) (by decide) (by decide)
          refine g_aload_n C rfl 0 rfl dX12_breakOn_19 ?_
          obtain ⟨v20, e21⟩ : ∃ z, Rv h a0 58 = z := ⟨_, rfl⟩
          have t22 := ok_R O ta0 rE_12_58 e21
          have l23 := ok_L O ta0 rE_12_58 e21
          refine gf_R C fk_LandSurveyModel_221 rfl ta0 e21 dX12_breakOn_20 ?_
          refine g_sipush C (by decide) dX12_breakOn_23 ?_
          refine g_iload_n C rfl 3 rfl dX12_breakOn_26 ?_
          have f24 : (0 : Int) ≤ (192 * x1) ∧ (192 * x1) ≤ (576 : Int) := ia_mul (by decide) f11 (by decide) (by decide)
          refine g_imul C dX12_breakOn_27 ?_
          refine g_iload_n C rfl 1 rfl dX12_breakOn_28 ?_
          have f25 : (0 : Int) ≤ ((192 * x1) + a1) ∧ ((192 * x1) + a1) ≤ (767 : Int) := ia_add f24 fa1 (by decide) (by decide)
          refine g_iadd C dX12_breakOn_29 ?_
          obtain ⟨v26, e27⟩ : ∃ z, Iv h v20 (((192 * x1) + a1).toNat) = z := ⟨_, rfl⟩
          have f28 := ok_Ia O t22 ar_158101 rI_158101_0 e27
          refine g_zald C t22 rfl l23 (ix f25 (by decide) (by decide)) e27 dX12_breakOn_30 ?_
          refine g_if_eq C (iw f28 (by decide) (by decide)) 36 (by decide) dX12_breakOn_31 (fun q29 => ?_) (fun q30 => ?_)
          · have f31 : (0 : Int) ≤ v26 ∧ v26 ≤ (0 : Int) := ii f28 (r_eq (il 0) q29) (by decide) (by decide)
            have f32 : (1 : Int) ≤ (x1 + 1) ∧ (x1 + 1) ≤ (4 : Int) := ia_add f11 (il 1) (by decide) (by decide)
            refine g_iinc C [(3, .inl (x1 + 1)), (0, .inr (.inr a0)), (1, .inl a1), (2, .inl a2)] 3 rfl (by decide) rfl dX12_breakOn_36 ?_
            refine g_goto C 2 (by decide) dX12_breakOn_39 ?_
            refine GW.sub [1, 2, 3, 0] rfl ?_
            exact ih3 _ (by omega) (x1 + 1) rfl (iw f32 (by decide) (by decide))
          · have f33 : (1 : Int) ≤ v26 ∧ v26 ≤ (1 : Int) := r_nl f28 q30
            refine g_iload_n C rfl 3 rfl dX12_breakOn_34 ?_
            exact g_iret C hr rfl (iw f11 (by decide) (by decide)) ⟨O, Fx.rf, (iw f11 (by decide) (by decide))⟩ (by decide) (by decide) dX12_breakOn_35
  exact L2 _ 0 rfl (iw (il 0) (by decide) (by decide))
def wr_k_X12_dips : List Nat := []
set_option maxRecDepth 100000 in
set_option maxHeartbeats 4000000 in
theorem k_X12_dips (l : Launch) (D : va_G) (cy : Nat → ClassId) (w : Nat → Nat) (z0 : Nat)  {h : Hp} {a0 : Nat} {a1 : Int} {a2 : Int} {a3 : Int} {a4 : Int}  (O : Okh h) (ta0 : Tg h a0 = 12) (fa1 : 0 ≤ a1 ∧ a1 ≤ 39) (fa2 : 0 ≤ a2 ∧ a2 ≤ 95) (fa3 : 0 ≤ a3 ∧ a3 ≤ 95) (fa4 : (-9223372036854775808) ≤ a4 ∧ a4 ≤ 9223372036854775807) : MI l D cy w z0 yX12_dips cX12_dips 6 (some .boolean) 3 66 0 0 [.inr (.inr a0), .inl a1, .inl a2, .inl a3, .inr (.inl a4)] h (fun v h1 => Okh h1 ∧ Fx wr_k_X12_dips h h1 ∧ (0 ≤ v ∧ v ≤ 1) ∧ (v = 1 → posV (Iv h (Rv h a0 42) a1.toNat) (Iv h (Rv h a0 48) a1.toNat) = kf a2 a3 ∧ Iv h (Rv h a0 42) a1.toNat = a2)) := by
  refine hm_go (by decide +kernel) (Nat.le_of_ble_eq_true rfl) (fun p e s m below meth c C hr hn => ?_)
  obtain ⟨v1, e2⟩ : ∃ z, Rv h a0 42 = z := ⟨_, rfl⟩
  have t3 := ok_R O ta0 rE_12_42 e2
  have l4 := ok_L O ta0 rE_12_42 e2
  obtain ⟨v5, e6⟩ : ∃ z, Iv h v1 a1.toNat = z := ⟨_, rfl⟩
  have f7 := ok_Ia O t3 ar_142100 rI_142100_0 e6
  obtain ⟨v8, e9⟩ : ∃ z, Rv h a0 48 = z := ⟨_, rfl⟩
  have t10 := ok_R O ta0 rE_12_48 e9
  have l11 := ok_L O ta0 rE_12_48 e9
  obtain ⟨v12, e13⟩ : ∃ z, Iv h v8 a1.toNat = z := ⟨_, rfl⟩
  have f14 := ok_Ia O t10 ar_148100 rI_148100_0 e13
  refine g_aload_n C rfl 0 rfl dX12_dips_0 ?_
  obtain ⟨v15, e16⟩ : ∃ z, Rv h a0 53 = z := ⟨_, rfl⟩
  have t17 := ok_R O ta0 rE_12_53 e16
  have l18 := ok_L O ta0 rE_12_53 e16
  refine gf_R C fk_LandSurveyModel_209 rfl ta0 e16 dX12_dips_1 ?_
  refine g_iload_n C rfl 1 rfl dX12_dips_4 ?_
  obtain ⟨v19, e20⟩ : ∃ z, Iv h v15 a1.toNat = z := ⟨_, rfl⟩
  have f21 := ok_Ia O t17 ar_153101 rI_153101_0 e20
  refine g_zald C t17 rfl l18 (ix fa1 (by decide) (by decide)) e20 dX12_dips_5 ?_
  refine g_if_eq C (iw f21 (by decide) (by decide)) 55 (by decide) dX12_dips_6 (fun q22 => ?_) (fun q23 => ?_)
  · have f24 : (0 : Int) ≤ v19 ∧ v19 ≤ (0 : Int) := ii f21 (r_eq (il 0) q22) (by decide) (by decide)
    refine g_iconst C dX12_dips_55 ?_
    exact g_iret C hr (nar_z2 (iw (il 0) (by decide) (by decide))).1 (iw (il 0) (by decide) (by decide)) ⟨O, Fx.rf, (iw (il 0) (by decide) (by decide)), (fun z => absurd z (by decide))⟩ (by decide) (by decide) dX12_dips_56
  · have f25 : (1 : Int) ≤ v19 ∧ v19 ≤ (1 : Int) := r_nl f21 q23
    refine g_lload C 4 rfl dX12_dips_9 ?_
    refine g_iload_n C rfl 1 rfl dX12_dips_11 ?_
    refine g_callI (st := []) (gc_S C lk_LandSurveyModel_487 (k_X12_isIn l D cy w z0 O fa4 (iw fa1 (by decide) (by decide))) rfl ⟨by decide, by decide⟩ (Nat.le_of_ble_eq_true rfl) dX12_dips_12 ⟨(by decide), (by decide)⟩) (fun r26 h27 f29 K28 => ?_)
    obtain ⟨O30, F31, f32⟩ := K28
    refine g_if_ne C (iw f32 (by decide) (by decide)) 55 (by decide) dX12_dips_15 (fun q33 => ?_) (fun q34 => ?_)
    · have f35 : (1 : Int) ≤ r26 ∧ r26 ≤ (1 : Int) := r_nl f32 q33
      refine g_iconst C dX12_dips_55 ?_
      exact g_iret C hr (nar_z2 (iw (il 0) (by decide) (by decide))).1 (iw (il 0) (by decide) (by decide)) ⟨O30, ((Fx.rf (wr := wr_k_X12_dips)).call F31 rfl), (iw (il 0) (by decide) (by decide)), (fun z => absurd z (by decide))⟩ (by decide) (by decide) dX12_dips_56
    · have f36 : (0 : Int) ≤ r26 ∧ r26 ≤ (0 : Int) := ii f32 (r_eq (il 0) q34) (by decide) (by decide)
      refine g_aload_n C rfl 0 rfl dX12_dips_18 ?_
      have e37 : Tg h27 a0 = 12 := (fxT F31 ta0)
      have e38 : Rv h27 a0 48 = v8 := ((fxR F31 ta0 rfl).trans e9)
      refine gf_R C fk_LandSurveyModel_194 rfl e37 e38 dX12_dips_19 ?_
      refine g_iload_n C rfl 1 rfl dX12_dips_22 ?_
      have e39 : Tg h27 v8 = 148100 := (fxT F31 t10)
      have e40 : Ln h27 v8 = 40 := ((fxL F31 t10).trans l11)
      have e41 : Iv h27 v8 a1.toNat = v12 := ((fxIa F31 t10 ar_148100 rfl).trans e13)
      refine g_iald C e39 rfl e40 (ix fa1 (by decide) (by decide)) e41 dX12_dips_23 ?_
      refine g_if_lt C (iw f14 (by decide) (by decide)) 55 (by decide) dX12_dips_24 (fun q42 => ?_) (fun q43 => ?_)
      · have f44 : (-1 : Int) ≤ v12 ∧ v12 ≤ (-1 : Int) := r_lt f14 (il 0) q42 (by decide) (by decide)
        refine g_iconst C dX12_dips_55 ?_
        exact g_iret C hr (nar_z2 (iw (il 0) (by decide) (by decide))).1 (iw (il 0) (by decide) (by decide)) ⟨O30, ((Fx.rf (wr := wr_k_X12_dips)).call F31 rfl), (iw (il 0) (by decide) (by decide)), (fun z => absurd z (by decide))⟩ (by decide) (by decide) dX12_dips_56
      · have f45 : (0 : Int) ≤ v12 ∧ v12 ≤ (3 : Int) := r_ge f14 (il 0) q43 (by decide) (by decide)
        refine g_aload_n C rfl 0 rfl dX12_dips_27 ?_
        have e46 : Rv h27 a0 42 = v1 := ((fxR F31 ta0 rfl).trans e2)
        refine gf_R C fk_LandSurveyModel_176 rfl e37 e46 dX12_dips_28 ?_
        refine g_iload_n C rfl 1 rfl dX12_dips_31 ?_
        have e47 : Tg h27 v1 = 142100 := (fxT F31 t3)
        have e48 : Ln h27 v1 = 40 := ((fxL F31 t3).trans l4)
        have e49 : Iv h27 v1 a1.toNat = v5 := ((fxIa F31 t3 ar_142100 rfl).trans e6)
        refine g_iald C e47 rfl e48 (ix fa1 (by decide) (by decide)) e49 dX12_dips_32 ?_
        refine g_iload_n C rfl 2 rfl dX12_dips_33 ?_
        refine g_icmp_ne C (iw f7 (by decide) (by decide)) (iw fa2 (by decide) (by decide)) 55 (by decide) dX12_dips_34 (fun q50 => ?_) (fun q51 => ?_)
        · refine g_iconst C dX12_dips_55 ?_
          exact g_iret C hr (nar_z2 (iw (il 0) (by decide) (by decide))).1 (iw (il 0) (by decide) (by decide)) ⟨O30, ((Fx.rf (wr := wr_k_X12_dips)).call F31 rfl), (iw (il 0) (by decide) (by decide)), (fun z => absurd z (by decide))⟩ (by decide) (by decide) dX12_dips_56
        · refine g_iload_n C rfl 2 rfl dX12_dips_37 ?_
          refine g_aload_n C rfl 0 rfl dX12_dips_38 ?_
          refine gf_R C fk_LandSurveyModel_194 rfl e37 e38 dX12_dips_39 ?_
          refine g_iload_n C rfl 1 rfl dX12_dips_42 ?_
          refine g_iald C e39 rfl e40 (ix fa1 (by decide) (by decide)) e41 dX12_dips_43 ?_
          refine g_callI (st := []) (gc_S C lk_LandSurveyModel_491 (k_X12_neighbour l D cy w z0 O30 fa2 f45) rfl ⟨by decide, by decide⟩ (Nat.le_of_ble_eq_true rfl) dX12_dips_44 ⟨(by decide), (by decide)⟩) (fun r52 h53 f55 K54 => ?_)
          obtain ⟨O56, F57, f58, p59⟩ := K54
          refine g_iload_n C rfl 3 rfl dX12_dips_47 ?_
          refine g_icmp_ne C (iw f58 (by decide) (by decide)) (iw fa3 (by decide) (by decide)) 55 (by decide) dX12_dips_48 (fun q60 => ?_) (fun q61 => ?_)
          · refine g_iconst C dX12_dips_55 ?_
            exact g_iret C hr (nar_z2 (iw (il 0) (by decide) (by decide))).1 (iw (il 0) (by decide) (by decide)) ⟨O56, (((Fx.rf (wr := wr_k_X12_dips)).call F31 rfl).call F57 rfl), (iw (il 0) (by decide) (by decide)), (fun z => absurd z (by decide))⟩ (by decide) (by decide) dX12_dips_56
          · have f62 : (0 : Int) ≤ r52 ∧ r52 ≤ (95 : Int) := ii f58 (r_eq fa3 q61) (by decide) (by decide)
            refine g_iconst C dX12_dips_51 ?_
            refine g_goto C 56 (by decide) dX12_dips_52 ?_
            have e63 : Rv h53 a0 42 = v1 := ((fxR F57 e37 rfl).trans e46)
            have e64 : Iv h53 v1 a1.toNat = v5 := ((fxIa F57 e47 ar_142100 rfl).trans e49)
            have E65 : Iv h53 (Rv h53 a0 42) = Iv h (Rv h a0 42) := mAI (j := 42) O (((Fx.rf (wr := []) (h := h)).call F31 rfl).call F57 rfl) ta0 rE_12_42 ar_142100 rfl rfl
            have q66 : Iv h (Rv h a0 42) a1.toNat = v5 := by rw [← E65, e63]; exact e64
            have e67 : Rv h53 a0 48 = v8 := ((fxR F57 e37 rfl).trans e38)
            have e68 : Iv h53 v8 a1.toNat = v12 := ((fxIa F57 e39 ar_148100 rfl).trans e41)
            have E69 : Iv h53 (Rv h53 a0 48) = Iv h (Rv h a0 48) := mAI (j := 48) O (((Fx.rf (wr := []) (h := h)).call F31 rfl).call F57 rfl) ta0 rE_12_48 ar_148100 rfl rfl
            have q70 : Iv h (Rv h a0 48) a1.toNat = v12 := by rw [← E69, e67]; exact e68
            exact g_iret C hr (nar_z2 (iw (il 1) (by decide) (by decide))).1 (iw (il 1) (by decide) (by decide)) ⟨O56, (((Fx.rf (wr := wr_k_X12_dips)).call F31 rfl).call F57 rfl), (iw (il 1) (by decide) (by decide)), (fun _ => ⟨by rw [q66, q70]; exact posV_eq (by omega) (by omega) p59 (by omega) (by omega), by rw [q66]; omega⟩)⟩ (by decide) (by decide) dX12_dips_56
def wr_k_X12_bound : List Nat := [2462, 32620000, 32820000, 33020000, 33220000]
set_option maxRecDepth 100000 in
set_option maxHeartbeats 4000000 in
theorem k_X12_bound (l : Launch) (D : va_G) (cy : Nat → ClassId) (w : Nat → Nat) (z0 : Nat)  {h : Hp} {a0 : Nat} {a1 : Int} {a2 : Int} {a3 : Int} {a4 : Int}  (O : Okh h) (ta0 : Tg h a0 = 12) (fa1 : 0 ≤ a1 ∧ a1 ≤ 96) (fa2 : 0 ≤ a2 ∧ a2 ≤ 96) (fa3 : (-3500) ≤ a3 ∧ a3 ≤ 3500) (fa4 : (-1) ≤ a4 ∧ a4 ≤ 39) (P_b1 : Iv h a0 62 ≤ 599) : MV l D cy w z0 yX12_bound cX12_bound 5 none 0 0 0 0 [.inr (.inr a0), .inl a1, .inl a2, .inl a3, .inl a4] h (fun h1 => Okh h1 ∧ Fx wr_k_X12_bound h h1 ∧ (Iv h1 a0 62 = Iv h a0 62 + 1)) := by
  obtain ⟨v1, e2⟩ : ∃ z, Iv h a0 62 = z := ⟨_, rfl⟩
  have f3 := ok_I O ta0 rI_12_62 e2
  rw [e2] at P_b1
  have f4 : (0 : Int) ≤ v1 ∧ v1 ≤ (599 : Int) := by omega
  refine hm_go (by decide +kernel) (Nat.le_of_ble_eq_true rfl) (fun p e s m below meth c C hr hn => ?_)
  refine g_aload_n C rfl 0 rfl dX12_bound_0 ?_
  obtain ⟨v5, e6⟩ : ∃ z, Rv h a0 63 = z := ⟨_, rfl⟩
  have t7 := ok_R O ta0 rE_12_63 e6
  have l8 := ok_L O ta0 rE_12_63 e6
  refine gf_R C fk_LandSurveyModel_233 rfl ta0 e6 dX12_bound_1 ?_
  refine g_aload_n C rfl 0 rfl dX12_bound_4 ?_
  refine gf_I C fk_LandSurveyModel_480 rfl ta0 e2 dX12_bound_5 ?_
  refine g_iload_n C rfl 1 rfl dX12_bound_8 ?_
  refine g_iast C t7 rfl l8 (ix f4 (by decide) (by decide)) (iw fa1 (by decide) (by decide)) dX12_bound_9 (fun h10 hh9 => ?_)
  have O11 := O.pIa t7 ar_163100 hh9 rI_163100_0 fa1 nofun
  refine g_aload_n C rfl 0 rfl dX12_bound_10 ?_
  have e12 : Tg h10 a0 = 12 := ((pIT hh9).trans ta0)
  obtain ⟨v13, e14⟩ : ∃ z, Rv h10 a0 64 = z := ⟨_, rfl⟩
  have t15 := ok_R O11 e12 rE_12_64 e14
  have l16 := ok_L O11 e12 rE_12_64 e14
  refine gf_R C fk_LandSurveyModel_236 rfl e12 e14 dX12_bound_11 ?_
  refine g_aload_n C rfl 0 rfl dX12_bound_14 ?_
  have e17 : Iv h10 a0 62 = v1 := ((pI_n hh9 (ne_tag ta0 t7 (by decide))).trans e2)
  refine gf_I C fk_LandSurveyModel_480 rfl e12 e17 dX12_bound_15 ?_
  refine g_iload_n C rfl 2 rfl dX12_bound_18 ?_
  refine g_iast C t15 rfl l16 (ix f4 (by decide) (by decide)) (iw fa2 (by decide) (by decide)) dX12_bound_19 (fun h19 hh18 => ?_)
  have O20 := O11.pIa t15 ar_164100 hh18 rI_164100_0 fa2 nofun
  refine g_aload_n C rfl 0 rfl dX12_bound_20 ?_
  have e21 : Tg h19 a0 = 12 := ((pIT hh18).trans e12)
  obtain ⟨v22, e23⟩ : ∃ z, Rv h19 a0 65 = z := ⟨_, rfl⟩
  have t24 := ok_R O20 e21 rE_12_65 e23
  have l25 := ok_L O20 e21 rE_12_65 e23
  refine gf_R C fk_LandSurveyModel_239 rfl e21 e23 dX12_bound_21 ?_
  refine g_aload_n C rfl 0 rfl dX12_bound_24 ?_
  have e26 : Iv h19 a0 62 = v1 := ((pI_n hh18 (ne_tag e12 t15 (by decide))).trans e17)
  refine gf_I C fk_LandSurveyModel_480 rfl e21 e26 dX12_bound_25 ?_
  refine g_iload_n C rfl 3 rfl dX12_bound_28 ?_
  refine g_iast C t24 rfl l25 (ix f4 (by decide) (by decide)) (iw fa3 (by decide) (by decide)) dX12_bound_29 (fun h28 hh27 => ?_)
  have O29 := O20.pIa t24 ar_165100 hh27 rI_165100_0 fa3 nofun
  refine g_aload_n C rfl 0 rfl dX12_bound_30 ?_
  have e30 : Tg h28 a0 = 12 := ((pIT hh27).trans e21)
  obtain ⟨v31, e32⟩ : ∃ z, Rv h28 a0 66 = z := ⟨_, rfl⟩
  have t33 := ok_R O29 e30 rE_12_66 e32
  have l34 := ok_L O29 e30 rE_12_66 e32
  refine gf_R C fk_LandSurveyModel_242 rfl e30 e32 dX12_bound_31 ?_
  refine g_aload_n C rfl 0 rfl dX12_bound_34 ?_
  have e35 : Iv h28 a0 62 = v1 := ((pI_n hh27 (ne_tag e21 t24 (by decide))).trans e26)
  refine gf_I C fk_LandSurveyModel_480 rfl e30 e35 dX12_bound_35 ?_
  refine g_iload C 4 rfl dX12_bound_38 ?_
  refine g_iast C t33 rfl l34 (ix f4 (by decide) (by decide)) (iw fa4 (by decide) (by decide)) dX12_bound_40 (fun h37 hh36 => ?_)
  have O38 := O29.pIa t33 ar_166100 hh36 rI_166100_0 fa4 nofun
  refine g_aload_n C rfl 0 rfl dX12_bound_41 ?_
  refine g_dup C rfl dX12_bound_42 ?_
  have e39 : Tg h37 a0 = 12 := ((pIT hh36).trans e30)
  have e40 : Iv h37 a0 62 = v1 := ((pI_n hh36 (ne_tag e30 t33 (by decide))).trans e35)
  refine gf_I C fk_LandSurveyModel_480 rfl e39 e40 dX12_bound_43 ?_
  refine g_iconst C dX12_bound_46 ?_
  have f41 : (1 : Int) ≤ (v1 + 1) ∧ (v1 + 1) ≤ (600 : Int) := ia_add f4 (il 1) (by decide) (by decide)
  refine g_iadd C dX12_bound_47 ?_
  refine gp_I C fk_LandSurveyModel_480 pk_LandSurveyModel_62 rfl e39 (iw f41 (by decide) (by decide)) (nf_i _) dX12_bound_48 (fun h43 hh42 => ?_)
  have O44 := O38.pI e39 hh42 rI_12_62 (iw f41 (by decide) (by decide)) nofun
  exact g_vret C hr ⟨O44, ((((((Fx.rf (wr := wr_k_X12_bound)).pIa t7 ar_163100 hh9 rfl).pIa t15 ar_164100 hh18 rfl).pIa t24 ar_165100 hh27 rfl).pIa t33 ar_166100 hh36 rfl).pI e39 hh42 rfl), (by rw [(pI_e hh42), e2] <;> omega)⟩ (by decide) (by decide) dX12_bound_51
def wr_k_X12_span : List Nat := [2462, 32620000, 32820000, 33020000, 33220000]
set_option maxRecDepth 100000 in
set_option maxHeartbeats 4000000 in
theorem k_X12_span (l : Launch) (D : va_G) (cy : Nat → ClassId) (w : Nat → Nat) (z0 : Nat)  {h : Hp} {a0 : Nat} {a1 : Int} {a2 : Int} {a3 : Int} {a4 : Int} {a5 : Int}  (O : Okh h) (ta0 : Tg h a0 = 12) (fa1 : 0 ≤ a1 ∧ a1 ≤ 96) (fa2 : 0 ≤ a2 ∧ a2 ≤ 96) (fa3 : (-3500) ≤ a3 ∧ a3 ≤ 3500) (fa4 : (-3500) ≤ a4 ∧ a4 ≤ 3500) (fa5 : (-1) ≤ a5 ∧ a5 ≤ 39) (P_b2 : Iv h a0 62 ≤ 598) : MV l D cy w z0 yX12_span cX12_span 6 none 1 24 0 0 [.inr (.inr a0), .inl a1, .inl a2, .inl a3, .inl a4, .inl a5] h (fun h1 => Okh h1 ∧ Fx wr_k_X12_span h h1 ∧ (Iv h1 a0 62 = Iv h a0 62 + 2)) := by
  obtain ⟨v1, e2⟩ : ∃ z, Iv h a0 62 = z := ⟨_, rfl⟩
  have f3 := ok_I O ta0 rI_12_62 e2
  rw [e2] at P_b2
  have f4 : (0 : Int) ≤ v1 ∧ v1 ≤ (598 : Int) := by omega
  refine hm_go (by decide +kernel) (Nat.le_of_ble_eq_true rfl) (fun p e s m below meth c C hr hn => ?_)
  refine g_aload_n C rfl 0 rfl dX12_span_0 ?_
  refine g_iload_n C rfl 1 rfl dX12_span_1 ?_
  refine g_iload_n C rfl 2 rfl dX12_span_2 ?_
  refine g_iload C 4 rfl dX12_span_3 ?_
  refine g_iload C 5 rfl dX12_span_5 ?_
  refine g_callV (st := []) (gc_V C lk_LandSurveyModel_483 (k_X12_bound l D cy w z0 O ta0 fa1 fa2 fa4 fa5 (by rw [e2]; omega)) ta0 rfl rfl rfl ⟨by decide, by decide⟩ (Nat.le_of_ble_eq_true rfl) dX12_span_7 ⟨(by decide), (by decide)⟩) (fun h6 K7 => ?_)
  obtain ⟨O9, F10, p11⟩ := K7
  obtain ⟨v12, e13⟩ : ∃ z, Iv h6 a0 62 = z := ⟨_, rfl⟩
  have e14 : Tg h6 a0 = 12 := (fxT F10 ta0)
  have f15 := ok_I O9 e14 rI_12_62 e13
  rw [e13, e2] at p11
  refine g_aload_n C rfl 0 rfl dX12_span_10 ?_
  refine g_iload_n C rfl 2 rfl dX12_span_11 ?_
  refine g_iload_n C rfl 1 rfl dX12_span_12 ?_
  refine g_iload_n C rfl 3 rfl dX12_span_13 ?_
  refine g_ineg C dX12_span_14 ?_
  have f16 : (-3500 : Int) ≤ (-a3) ∧ (-a3) ≤ (3500 : Int) := ia_neg fa3 (by decide) (by decide)
  refine g_iload C 5 rfl dX12_span_15 ?_
  refine g_callV (st := []) (gc_V C lk_LandSurveyModel_483 (k_X12_bound l D cy w z0 O9 e14 fa2 fa1 f16 fa5 (by rw [e13]; omega)) e14 rfl rfl rfl ⟨by decide, by decide⟩ (Nat.le_of_ble_eq_true rfl) dX12_span_17 ⟨(by decide), (by decide)⟩) (fun h18 K19 => ?_)
  obtain ⟨O21, F22, p23⟩ := K19
  obtain ⟨v24, e25⟩ : ∃ z, Iv h18 a0 62 = z := ⟨_, rfl⟩
  have e26 : Tg h18 a0 = 12 := (fxT F22 e14)
  have f27 := ok_I O21 e26 rI_12_62 e25
  rw [e25, e13] at p23
  exact g_vret C hr ⟨O21, (((Fx.rf (wr := wr_k_X12_span)).call F10 rfl).call F22 rfl), (by rw [e25, e2] <;> omega)⟩ (by decide) (by decide) dX12_span_20
def wr_k_X12_sideBounds : List Nat := [2462, 32620000, 32820000, 33020000, 33220000]
set_option maxRecDepth 100000 in
set_option maxHeartbeats 4000000 in
theorem k_X12_sideBounds (l : Launch) (D : va_G) (cy : Nat → ClassId) (w : Nat → Nat) (z0 : Nat)  {h : Hp} {a0 : Nat} {a1 : Int} {a2 : Int} {a3 : Int} {a4 : Int} {a5 : Int}  (O : Okh h) (ta0 : Tg h a0 = 12) (fa1 : 0 ≤ a1 ∧ a1 ≤ 95) (fa2 : 0 ≤ a2 ∧ a2 ≤ 95) (fa3 : 0 ≤ a3 ∧ a3 ≤ 191) (fa4 : (-2147483648) ≤ a4 ∧ a4 ≤ 2147483647) (fa5 : (-9223372036854775808) ≤ a5 ∧ a5 ≤ 9223372036854775807) (P_sd : (a2 = a1 + 1 ∨ a2 = a1 + 12)) (P_si : Iv h a0 62 + 2 + 2 * ceq (PF h a0) (kf a1 a2) 40 ≤ 600) : MV l D cy w z0 yX12_sideBounds cX12_sideBounds 10 none 4 91 0 0 [.inr (.inr a0), .inl a1, .inl a2, .inl a3, .inl a4, .inr (.inl a5)] h (fun h1 => Okh h1 ∧ Fx wr_k_X12_sideBounds h h1 ∧ (Iv h1 a0 62 ≤ Iv h a0 62 + 2 + 2 * ceq (PF h a0) (kf a1 a2) 40)) := by
  obtain ⟨v1, e2⟩ : ∃ z, Iv h a0 62 = z := ⟨_, rfl⟩
  have f3 := ok_I O ta0 rI_12_62 e2
  rw [e2] at P_si
  have hz := ceq_z (p := PF h a0) (K := kf a1 a2) (n := 40)
  refine hm_go (by decide +kernel) (Nat.le_of_ble_eq_true rfl) (fun p e s m below meth c C hr hn => ?_)
  obtain ⟨v4, e5⟩ : ∃ z, Rv h a0 42 = z := ⟨_, rfl⟩
  have t6 := ok_R O ta0 rE_12_42 e5
  have l7 := ok_L O ta0 rE_12_42 e5
  obtain ⟨v8, e9⟩ : ∃ z, Rv h a0 48 = z := ⟨_, rfl⟩
  have t10 := ok_R O ta0 rE_12_48 e9
  have l11 := ok_L O ta0 rE_12_48 e9
  refine g_aload_n C rfl 0 rfl dX12_sideBounds_0 ?_
  refine g_iload_n C rfl 3 rfl dX12_sideBounds_1 ?_
  refine g_iload C 4 rfl dX12_sideBounds_2 ?_
  refine g_callI (st := []) (gc_V C lk_LandSurveyModel_494 (k_X12_breakOn l D cy w z0 O ta0 fa3 fa4) ta0 rfl rfl rfl ⟨by decide, by decide⟩ (Nat.le_of_ble_eq_true rfl) dX12_sideBounds_4 ⟨(by decide), (by decide)⟩) (fun r12 h13 f15 K14 => ?_)
  obtain ⟨O16, F17, f18⟩ := K14
  refine g_istore C [(7, .inl r12), (0, .inr (.inr a0)), (1, .inl a1), (2, .inl a2), (3, .inl a3), (4, .inl a4), (5, .inr (.inl a5))] (by decide) rfl dX12_sideBounds_7 ?_
  refine g_iload C 0 rfl dX12_sideBounds_9 ?_
  refine g_if_lt C (iw f18 (by decide) (by decide)) 36 (by decide) dX12_sideBounds_11 (fun q19 => ?_) (fun q20 => ?_)
  · have f21 : (-1 : Int) ≤ r12 ∧ r12 ≤ (-1 : Int) := r_lt f18 (il 0) q19 (by decide) (by decide)
    refine g_iconst C dX12_sideBounds_36 ?_
    refine g_istore C [(8, .inl 0), (7, .inl r12), (0, .inr (.inr a0)), (1, .inl a1), (2, .inl a2), (3, .inl a3), (4, .inl a4), (5, .inr (.inl a5))] (by decide) rfl dX12_sideBounds_37 ?_
    refine g_iconst C dX12_sideBounds_39 ?_
    refine g_istore C [(9, .inl 0), (8, .inl 0), (7, .inl r12), (0, .inr (.inr a0)), (1, .inl a1), (2, .inl a2), (3, .inl a3), (4, .inl a4), (5, .inr (.inl a5))] (by decide) rfl dX12_sideBounds_40 ?_
    refine GW.sub [3, 4, 5, 6, 7, 8, 2, 1, 0] rfl ?_
    -- loop at 42
    have L25 : ∀ (μ : Nat) (x22 : Int) (x23 : Int) (h24 : Hp), (40 - x23).toNat = μ → Okh h24 → Fx [2462, 32620000, 32820000, 33020000, 33220000] h13 h24 → ((0 : Int) ≤ x22 ∧ x22 ≤ (1 : Int)) → ((0 : Int) ≤ x23 ∧ x23 ≤ (40 : Int)) → (Iv h24 a0 62 ≤ Iv h a0 62 + 2 * ceq (PF h a0) (kf a1 a2) x23.toNat) → GW p l e (rmm 4 91 0 0) s m (List.map toV [.inr (.inr a0), .inl a1, .inl a2, .inl a3, .inl a4, .inr (.inl a5)]).toArray below meth c D cy z0 10 (MQ below (QV D cy z0 (fun h1 => Okh h1 ∧ Fx wr_k_X12_sideBounds h h1 ∧ (Iv h1 a0 62 ≤ Iv h a0 62 + 2 + 2 * ceq (PF h a0) (kf a1 a2) 40))) (List.map toV [.inr (.inr a0), .inl a1, .inl a2, .inl a3, .inl a4, .inr (.inl a5)]).toArray s 0 0 (Aof z0)) 42 [(0, .inr (.inr a0)), (1, .inl a1), (2, .inl a2), (3, .inl a3), (4, .inl a4), (5, .inr (.inl a5)), (7, .inl r12), (8, .inl x22), (9, .inl x23)] [] h24 0 0 := by
      intro μ
      induction μ using Nat.strongRecOn with
      | ind μ ih26 =>
        intro x22 x23 h24 hm27 O28 F29 f30 f31 p32
        have e33 : Tg h13 a0 = 12 := (fxT F17 ta0)
        obtain ⟨v34, e35⟩ : ∃ z, Iv h24 a0 62 = z := ⟨_, rfl⟩
        have e36 : Tg h24 a0 = 12 := (fxT F29 e33)
        have f37 := ok_I O28 e36 rI_12_62 e35
        rw [e35, e2] at p32
        refine g_iload C 8 rfl dX12_sideBounds_42 ?_
        refine g_aload_n C rfl 0 rfl dX12_sideBounds_44 ?_
        obtain ⟨v38, e39⟩ : ∃ z, Iv h24 a0 40 = z := ⟨_, rfl⟩
        have f40 := ok_I O28 e36 rI_12_40 e39
        refine gf_I C fk_LandSurveyModel_423 rfl e36 e39 dX12_sideBounds_45 ?_
        refine g_icmp_ge C (iw f31 (by decide) (by decide)) (iw f40 (by decide) (by decide)) 165 (by decide) dX12_sideBounds_48 (fun q41 => ?_) (fun q42 => ?_)
        · have m3 := ceq_mono (p := PF h a0) (K := kf a1 a2) (n := x23.toNat) (k := 40) (by omega)
          refine g_iload C 7 rfl dX12_sideBounds_165 ?_
          refine g_if_ne C (iw f30 (by decide) (by decide)) 205 (by decide) dX12_sideBounds_167 (fun q43 => ?_) (fun q44 => ?_)
          · have f45 : (1 : Int) ≤ x22 ∧ x22 ≤ (1 : Int) := r_nl f30 q43
            exact g_vret C hr ⟨O28, (((Fx.rf (wr := wr_k_X12_sideBounds)).call F17 rfl).call F29 rfl), (by rw [e35, e2]; omega)⟩ (by decide) (by decide) dX12_sideBounds_205
          · have f46 : (0 : Int) ≤ x22 ∧ x22 ≤ (0 : Int) := ii f30 (r_eq (il 0) q44) (by decide) (by decide)
            refine g_aload_n C rfl 0 rfl dX12_sideBounds_170 ?_
            refine g_callI (st := []) (gc_V C lk_LandSurveyModel_432 (k_X12_bookNow l D cy w z0 O28 e36) e36 rfl rfl rfl ⟨by decide, by decide⟩ (Nat.le_of_ble_eq_true rfl) dX12_sideBounds_171 ⟨(by decide), (by decide)⟩) (fun r47 h48 f50 K49 => ?_)
            obtain ⟨O51, F52, f53, p54⟩ := K49
            obtain ⟨v55, e56⟩ : ∃ z, BNow h24 a0 = z := ⟨_, rfl⟩
            have f57 : (-1 : Int) ≤ v55 ∧ v55 ≤ (7 : Int) := BNow_rng O28 e36 e56
            rw [e56] at p54
            have f58 : (-1 : Int) ≤ r47 ∧ r47 ≤ (7 : Int) := by omega
            refine g_if_ge C (iw f58 (by decide) (by decide)) 182 (by decide) dX12_sideBounds_174 (fun q59 => ?_) (fun q60 => ?_)
            · have f61 : (0 : Int) ≤ r47 ∧ r47 ≤ (7 : Int) := r_ge f58 (il 0) q59 (by decide) (by decide)
              refine g_aload_n C rfl 0 rfl dX12_sideBounds_182 ?_
              have e62 : Tg h48 a0 = 12 := (fxT F52 e36)
              obtain ⟨v63, e64⟩ : ∃ z, Rv h48 a0 19 = z := ⟨_, rfl⟩
              have t65 := ok_R O51 e62 rE_12_19 e64
              have l66 := ok_L O51 e62 rE_12_19 e64
              refine gf_R C fk_LandSurveyModel_122 rfl e62 e64 dX12_sideBounds_183 ?_
              refine g_aload_n C rfl 0 rfl dX12_sideBounds_186 ?_
              refine g_callI (st := [.inr (.inr v63)]) (gc_V C lk_LandSurveyModel_432 (k_X12_bookNow l D cy w z0 O51 e62) e62 rfl rfl rfl ⟨by decide, by decide⟩ (Nat.le_of_ble_eq_true rfl) dX12_sideBounds_187 ⟨(by decide), (by decide)⟩) (fun r67 h68 f70 K69 => ?_)
              obtain ⟨O71, F72, f73, p74⟩ := K69
              have p75 := ((BNow_fx O28 F52 e36 rfl).trans e56)
              rw [p75] at p74
              have f76 : (-1 : Int) ≤ r67 ∧ r67 ≤ (7 : Int) := by omega
              have e77 : Tg h68 v63 = 119100 := (fxT F72 t65)
              have e78 : Ln h68 v63 = 9 := ((fxL F72 t65).trans l66)
              obtain ⟨v79, e80⟩ : ∃ z, Iv h68 v63 r67.toNat = z := ⟨_, rfl⟩
              have f81 := ok_Ia O71 e77 ar_119100 rI_119100_0 e80
              refine g_iald C e77 rfl e78 (by omega) e80 dX12_sideBounds_190 ?_
              refine g_istore C [(9, .inl v79), (0, .inr (.inr a0)), (1, .inl a1), (2, .inl a2), (3, .inl a3), (4, .inl a4), (5, .inr (.inl a5)), (7, .inl r12), (8, .inl x22)] (by decide) rfl dX12_sideBounds_191 ?_
              refine g_aload_n C rfl 1 rfl dX12_sideBounds_193 ?_
              refine g_iload_n C rfl 2 rfl dX12_sideBounds_194 ?_
              refine g_iload_n C rfl 3 rfl dX12_sideBounds_195 ?_
              refine g_iload C 0 rfl dX12_sideBounds_196 ?_
              refine g_ineg C dX12_sideBounds_198 ?_
              have f82 : (-99 : Int) ≤ (-v79) ∧ (-v79) ≤ (0 : Int) := ia_neg f81 (by decide) (by decide)
              refine g_iload C 0 rfl dX12_sideBounds_199 ?_
              refine g_iconst C dX12_sideBounds_201 ?_
              have e83 : Tg h68 a0 = 12 := (fxT F72 e62)
              have e84 : Iv h68 a0 62 = v34 := ((fxI F72 e62 rfl).trans ((fxI F52 e36 rfl).trans e35))
              refine g_callV (st := []) (gc_V C lk_LandSurveyModel_497 (k_X12_span l D cy w z0 O71 e83 (iw fa1 (by decide) (by decide)) (iw fa2 (by decide) (by decide)) (iw f82 (by decide) (by decide)) (iw f81 (by decide) (by decide)) (iw (il (-1)) (by decide) (by decide)) (by rw [e84]; omega)) e83 rfl rfl rfl ⟨by decide, by decide⟩ (Nat.le_of_ble_eq_true rfl) dX12_sideBounds_202 ⟨(by decide), (by decide)⟩) (fun h86 K87 => ?_)
              obtain ⟨O89, F90, p91⟩ := K87
              obtain ⟨v92, e93⟩ : ∃ z, Iv h86 a0 62 = z := ⟨_, rfl⟩
              have e94 : Tg h86 a0 = 12 := (fxT F90 e83)
              have f95 := ok_I O89 e94 rI_12_62 e93
              rw [e93, e84] at p91
              exact g_vret C hr ⟨O89, ((((((Fx.rf (wr := wr_k_X12_sideBounds)).call F17 rfl).call F29 rfl).call F52 rfl).call F72 rfl).call F90 rfl), (by rw [e93, e2]; omega)⟩ (by decide) (by decide) dX12_sideBounds_205
            · have f96 : (-1 : Int) ≤ r47 ∧ r47 ≤ (-1 : Int) := r_lt f58 (il 0) q60 (by decide) (by decide)
              refine g_bipush C (by decide) dX12_sideBounds_177 ?_
              refine g_goto C 191 (by decide) dX12_sideBounds_179 ?_
              refine g_istore C [(9, .inl 10), (0, .inr (.inr a0)), (1, .inl a1), (2, .inl a2), (3, .inl a3), (4, .inl a4), (5, .inr (.inl a5)), (7, .inl r12), (8, .inl x22)] (by decide) rfl dX12_sideBounds_191 ?_
              refine g_aload_n C rfl 1 rfl dX12_sideBounds_193 ?_
              refine g_iload_n C rfl 2 rfl dX12_sideBounds_194 ?_
              refine g_iload_n C rfl 3 rfl dX12_sideBounds_195 ?_
              refine g_iload C 0 rfl dX12_sideBounds_196 ?_
              refine g_ineg C dX12_sideBounds_198 ?_
              have f97 : (-10 : Int) ≤ (-10) ∧ (-10) ≤ (-10 : Int) := ia_neg (il 10) (by decide) (by decide)
              refine g_iload C 0 rfl dX12_sideBounds_199 ?_
              refine g_iconst C dX12_sideBounds_201 ?_
              have e98 : Tg h48 a0 = 12 := (fxT F52 e36)
              have e99 : Iv h48 a0 62 = v34 := ((fxI F52 e36 rfl).trans e35)
              refine g_callV (st := []) (gc_V C lk_LandSurveyModel_497 (k_X12_span l D cy w z0 O51 e98 (iw fa1 (by decide) (by decide)) (iw fa2 (by decide) (by decide)) (iw f97 (by decide) (by decide)) (iw (il 10) (by decide) (by decide)) (iw (il (-1)) (by decide) (by decide)) (by rw [e99]; omega)) e98 rfl rfl rfl ⟨by decide, by decide⟩ (Nat.le_of_ble_eq_true rfl) dX12_sideBounds_202 ⟨(by decide), (by decide)⟩) (fun h101 K102 => ?_)
              obtain ⟨O104, F105, p106⟩ := K102
              obtain ⟨v107, e108⟩ : ∃ z, Iv h101 a0 62 = z := ⟨_, rfl⟩
              have e109 : Tg h101 a0 = 12 := (fxT F105 e98)
              have f110 := ok_I O104 e109 rI_12_62 e108
              rw [e108, e99] at p106
              exact g_vret C hr ⟨O104, (((((Fx.rf (wr := wr_k_X12_sideBounds)).call F17 rfl).call F29 rfl).call F52 rfl).call F105 rfl), (by rw [e108, e2]; omega)⟩ (by decide) (by decide) dX12_sideBounds_205
        · have f111 : (0 : Int) ≤ x23 ∧ x23 ≤ (39 : Int) := r_lt f31 f40 q42 (by decide) (by decide)
          have f112 : (1 : Int) ≤ v38 ∧ v38 ≤ (40 : Int) := r_gt f40 f31 q42 (by decide) (by decide)
          have m1 := ceq_mono (p := PF h a0) (K := kf a1 a2) (n := x23.toNat) (k := (x23 + 1).toNat) (by omega)
          have m2 := ceq_mono (p := PF h a0) (K := kf a1 a2) (n := (x23 + 1).toNat) (k := 40) (by omega)
          refine g_aload_n C rfl 0 rfl dX12_sideBounds_51 ?_
          refine g_iload C 8 rfl dX12_sideBounds_52 ?_
          refine g_iload_n C rfl 1 rfl dX12_sideBounds_54 ?_
          refine g_iload_n C rfl 2 rfl dX12_sideBounds_55 ?_
          refine g_lload C 5 rfl dX12_sideBounds_56 ?_
          refine g_callI (st := []) (gc_V C lk_LandSurveyModel_501 (k_X12_dips l D cy w z0 O28 e36 f111 fa1 fa2 fa5) e36 rfl rfl rfl ⟨by decide, by decide⟩ (Nat.le_of_ble_eq_true rfl) dX12_sideBounds_58 ⟨(by decide), (by decide)⟩) (fun r113 h114 f116 K115 => ?_)
          obtain ⟨O117, F118, f119, p120⟩ := K115
          have E122 : Iv h24 (Rv h24 a0 42) = Iv h (Rv h a0 42) := mAI (j := 42) O (((Fx.rf (wr := [2462, 32620000, 32820000, 33020000, 33220000]) (h := h)).call F17 rfl).call F29 rfl) ta0 rE_12_42 ar_142100 rfl rfl
          have E123 : Iv h24 (Rv h24 a0 48) = Iv h (Rv h a0 48) := mAI (j := 48) O (((Fx.rf (wr := [2462, 32620000, 32820000, 33020000, 33220000]) (h := h)).call F17 rfl).call F29 rfl) ta0 rE_12_48 ar_148100 rfl rfl
          have p121 := p120
          rw [E122, E123] at p121
          refine g_if_eq C (iw f119 (by decide) (by decide)) 105 (by decide) dX12_sideBounds_61 (fun q124 => ?_) (fun q125 => ?_)
          · have f126 : (0 : Int) ≤ r113 ∧ r113 ≤ (0 : Int) := ii f119 (r_eq (il 0) q124) (by decide) (by decide)
            refine g_aload_n C rfl 0 rfl dX12_sideBounds_105 ?_
            refine g_iload C 8 rfl dX12_sideBounds_106 ?_
            refine g_iload_n C rfl 2 rfl dX12_sideBounds_108 ?_
            refine g_iload_n C rfl 1 rfl dX12_sideBounds_109 ?_
            refine g_lload C 5 rfl dX12_sideBounds_110 ?_
            have e127 : Tg h114 a0 = 12 := (fxT F118 e36)
            refine g_callI (st := []) (gc_V C lk_LandSurveyModel_501 (k_X12_dips l D cy w z0 O117 e127 f111 fa2 fa1 fa5) e127 rfl rfl rfl ⟨by decide, by decide⟩ (Nat.le_of_ble_eq_true rfl) dX12_sideBounds_112 ⟨(by decide), (by decide)⟩) (fun r128 h129 f131 K130 => ?_)
            obtain ⟨O132, F133, f134, p135⟩ := K130
            have E137 : Iv h114 (Rv h114 a0 42) = Iv h (Rv h a0 42) := mAI (j := 42) O ((((Fx.rf (wr := [2462, 32620000, 32820000, 33020000, 33220000]) (h := h)).call F17 rfl).call F29 rfl).call F118 rfl) ta0 rE_12_42 ar_142100 rfl rfl
            have E138 : Iv h114 (Rv h114 a0 48) = Iv h (Rv h a0 48) := mAI (j := 48) O ((((Fx.rf (wr := [2462, 32620000, 32820000, 33020000, 33220000]) (h := h)).call F17 rfl).call F29 rfl).call F118 rfl) ta0 rE_12_48 ar_148100 rfl rfl
            have p136 := p135
            rw [E137, E138] at p136
            refine g_if_eq C (iw f134 (by decide) (by decide)) 159 (by decide) dX12_sideBounds_115 (fun q139 => ?_) (fun q140 => ?_)
            · have f141 : (0 : Int) ≤ r128 ∧ r128 ≤ (0 : Int) := ii f134 (r_eq (il 0) q139) (by decide) (by decide)
              have f142 : (1 : Int) ≤ (x23 + 1) ∧ (x23 + 1) ≤ (40 : Int) := ia_add f111 (il 1) (by decide) (by decide)
              refine g_iinc C [(9, .inl (x23 + 1)), (0, .inr (.inr a0)), (1, .inl a1), (2, .inl a2), (3, .inl a3), (4, .inl a4), (5, .inr (.inl a5)), (7, .inl r12), (8, .inl x22)] 8 rfl (by decide) rfl dX12_sideBounds_159 ?_
              refine g_goto C 42 (by decide) dX12_sideBounds_162 ?_
              refine GW.sub [1, 2, 3, 4, 5, 6, 7, 8, 0] rfl ?_
              have e143 : Iv h129 a0 62 = v34 := ((fxI F133 e127 rfl).trans ((fxI F118 e36 rfl).trans e35))
              exact ih26 _ (by omega) x22 (x23 + 1) h129 rfl O132 ((F29.call F118 rfl).call F133 rfl) f30 (iw f142 (by decide) (by decide)) (by rw [e143, e2]; omega)
            · have f144 : (1 : Int) ≤ r128 ∧ r128 ≤ (1 : Int) := r_nl f134 q140
              have z145 := p136 (by omega)
              have hz145 := ceq_hit (p := PF h a0) (K := kf a1 a2) (x := x23) (by omega) (z145.1.trans (kf_sym _ _))
              refine g_aload_n C rfl 0 rfl dX12_sideBounds_118 ?_
              refine g_iload_n C rfl 2 rfl dX12_sideBounds_119 ?_
              refine g_iload_n C rfl 1 rfl dX12_sideBounds_120 ?_
              refine g_aload_n C rfl 0 rfl dX12_sideBounds_121 ?_
              have e146 : Tg h129 a0 = 12 := (fxT F133 e127)
              obtain ⟨v147, e148⟩ : ∃ z, Rv h129 a0 49 = z := ⟨_, rfl⟩
              have t149 := ok_R O132 e146 rE_12_49 e148
              have l150 := ok_L O132 e146 rE_12_49 e148
              refine gf_R C fk_LandSurveyModel_197 rfl e146 e148 dX12_sideBounds_122 ?_
              refine g_iload C 8 rfl dX12_sideBounds_125 ?_
              obtain ⟨v151, e152⟩ : ∃ z, Iv h129 v147 x23.toNat = z := ⟨_, rfl⟩
              have f153 := ok_Ia O132 t149 ar_149100 rI_149100_0 e152
              refine g_iald C t149 rfl l150 (ix f111 (by decide) (by decide)) e152 dX12_sideBounds_127 ?_
              refine g_aload_n C rfl 0 rfl dX12_sideBounds_128 ?_
              obtain ⟨v154, e155⟩ : ∃ z, Rv h129 a0 50 = z := ⟨_, rfl⟩
              have t156 := ok_R O132 e146 rE_12_50 e155
              have l157 := ok_L O132 e146 rE_12_50 e155
              refine gf_R C fk_LandSurveyModel_200 rfl e146 e155 dX12_sideBounds_129 ?_
              refine g_iload C 8 rfl dX12_sideBounds_132 ?_
              obtain ⟨v158, e159⟩ : ∃ z, Iv h129 v154 x23.toNat = z := ⟨_, rfl⟩
              have f160 := ok_Ia O132 t156 ar_150100 rI_150100_0 e159
              refine g_iald C t156 rfl l157 (ix f111 (by decide) (by decide)) e159 dX12_sideBounds_134 ?_
              have f161 : (-198 : Int) ≤ (v151 - v158) ∧ (v151 - v158) ≤ (99 : Int) := ia_sub f153 f160 (by decide) (by decide)
              refine g_isub C dX12_sideBounds_135 ?_
              refine g_aload_n C rfl 0 rfl dX12_sideBounds_136 ?_
              refine gf_R C fk_LandSurveyModel_197 rfl e146 e148 dX12_sideBounds_137 ?_
              refine g_iload C 8 rfl dX12_sideBounds_140 ?_
              refine g_iald C t149 rfl l150 (ix f111 (by decide) (by decide)) e152 dX12_sideBounds_142 ?_
              refine g_aload_n C rfl 0 rfl dX12_sideBounds_143 ?_
              refine gf_R C fk_LandSurveyModel_200 rfl e146 e155 dX12_sideBounds_144 ?_
              refine g_iload C 8 rfl dX12_sideBounds_147 ?_
              refine g_iald C t156 rfl l157 (ix f111 (by decide) (by decide)) e159 dX12_sideBounds_149 ?_
              have f162 : (-99 : Int) ≤ (v151 + v158) ∧ (v151 + v158) ≤ (198 : Int) := ia_add f153 f160 (by decide) (by decide)
              refine g_iadd C dX12_sideBounds_150 ?_
              refine g_iload C 8 rfl dX12_sideBounds_151 ?_
              have e163 : Iv h129 a0 62 = v34 := ((fxI F133 e127 rfl).trans ((fxI F118 e36 rfl).trans e35))
              refine g_callV (st := []) (gc_V C lk_LandSurveyModel_497 (k_X12_span l D cy w z0 O132 e146 (iw fa2 (by decide) (by decide)) (iw fa1 (by decide) (by decide)) (iw f161 (by decide) (by decide)) (iw f162 (by decide) (by decide)) (iw f111 (by decide) (by decide)) (by rw [e163]; omega)) e146 rfl rfl rfl ⟨by decide, by decide⟩ (Nat.le_of_ble_eq_true rfl) dX12_sideBounds_153 ⟨(by decide), (by decide)⟩) (fun h165 K166 => ?_)
              obtain ⟨O168, F169, p170⟩ := K166
              obtain ⟨v171, e172⟩ : ∃ z, Iv h165 a0 62 = z := ⟨_, rfl⟩
              have e173 : Tg h165 a0 = 12 := (fxT F169 e146)
              have f174 := ok_I O168 e173 rI_12_62 e172
              rw [e172, e163] at p170
              refine g_iconst C dX12_sideBounds_156 ?_
              refine g_istore C [(8, .inl 1), (0, .inr (.inr a0)), (1, .inl a1), (2, .inl a2), (3, .inl a3), (4, .inl a4), (5, .inr (.inl a5)), (7, .inl r12), (9, .inl x23)] (by decide) rfl dX12_sideBounds_157 ?_
              have f175 : (1 : Int) ≤ (x23 + 1) ∧ (x23 + 1) ≤ (40 : Int) := ia_add f111 (il 1) (by decide) (by decide)
              refine g_iinc C [(9, .inl (x23 + 1)), (8, .inl 1), (0, .inr (.inr a0)), (1, .inl a1), (2, .inl a2), (3, .inl a3), (4, .inl a4), (5, .inr (.inl a5)), (7, .inl r12)] 8 rfl (by decide) rfl dX12_sideBounds_159 ?_
              refine g_goto C 42 (by decide) dX12_sideBounds_162 ?_
              refine GW.sub [2, 3, 4, 5, 6, 7, 8, 1, 0] rfl ?_
              exact ih26 _ (by omega) 1 (x23 + 1) h165 rfl O168 (((F29.call F118 rfl).call F133 rfl).call F169 rfl) (iw (il 1) (by decide) (by decide)) (iw f175 (by decide) (by decide)) (by rw [e172, e2]; omega)
          · have f176 : (1 : Int) ≤ r113 ∧ r113 ≤ (1 : Int) := r_nl f119 q125
            have z177 := p121 (by omega)
            have hz177 := ceq_hit (p := PF h a0) (K := kf a1 a2) (x := x23) (by omega) z177.1
            refine g_aload_n C rfl 0 rfl dX12_sideBounds_64 ?_
            refine g_iload_n C rfl 1 rfl dX12_sideBounds_65 ?_
            refine g_iload_n C rfl 2 rfl dX12_sideBounds_66 ?_
            refine g_aload_n C rfl 0 rfl dX12_sideBounds_67 ?_
            have e178 : Tg h114 a0 = 12 := (fxT F118 e36)
            obtain ⟨v179, e180⟩ : ∃ z, Rv h114 a0 49 = z := ⟨_, rfl⟩
            have t181 := ok_R O117 e178 rE_12_49 e180
            have l182 := ok_L O117 e178 rE_12_49 e180
            refine gf_R C fk_LandSurveyModel_197 rfl e178 e180 dX12_sideBounds_68 ?_
            refine g_iload C 8 rfl dX12_sideBounds_71 ?_
            obtain ⟨v183, e184⟩ : ∃ z, Iv h114 v179 x23.toNat = z := ⟨_, rfl⟩
            have f185 := ok_Ia O117 t181 ar_149100 rI_149100_0 e184
            refine g_iald C t181 rfl l182 (ix f111 (by decide) (by decide)) e184 dX12_sideBounds_73 ?_
            refine g_aload_n C rfl 0 rfl dX12_sideBounds_74 ?_
            obtain ⟨v186, e187⟩ : ∃ z, Rv h114 a0 50 = z := ⟨_, rfl⟩
            have t188 := ok_R O117 e178 rE_12_50 e187
            have l189 := ok_L O117 e178 rE_12_50 e187
            refine gf_R C fk_LandSurveyModel_200 rfl e178 e187 dX12_sideBounds_75 ?_
            refine g_iload C 8 rfl dX12_sideBounds_78 ?_
            obtain ⟨v190, e191⟩ : ∃ z, Iv h114 v186 x23.toNat = z := ⟨_, rfl⟩
            have f192 := ok_Ia O117 t188 ar_150100 rI_150100_0 e191
            refine g_iald C t188 rfl l189 (ix f111 (by decide) (by decide)) e191 dX12_sideBounds_80 ?_
            have f193 : (-198 : Int) ≤ (v183 - v190) ∧ (v183 - v190) ≤ (99 : Int) := ia_sub f185 f192 (by decide) (by decide)
            refine g_isub C dX12_sideBounds_81 ?_
            refine g_aload_n C rfl 0 rfl dX12_sideBounds_82 ?_
            refine gf_R C fk_LandSurveyModel_197 rfl e178 e180 dX12_sideBounds_83 ?_
            refine g_iload C 8 rfl dX12_sideBounds_86 ?_
            refine g_iald C t181 rfl l182 (ix f111 (by decide) (by decide)) e184 dX12_sideBounds_88 ?_
            refine g_aload_n C rfl 0 rfl dX12_sideBounds_89 ?_
            refine gf_R C fk_LandSurveyModel_200 rfl e178 e187 dX12_sideBounds_90 ?_
            refine g_iload C 8 rfl dX12_sideBounds_93 ?_
            refine g_iald C t188 rfl l189 (ix f111 (by decide) (by decide)) e191 dX12_sideBounds_95 ?_
            have f194 : (-99 : Int) ≤ (v183 + v190) ∧ (v183 + v190) ≤ (198 : Int) := ia_add f185 f192 (by decide) (by decide)
            refine g_iadd C dX12_sideBounds_96 ?_
            refine g_iload C 8 rfl dX12_sideBounds_97 ?_
            have e195 : Iv h114 a0 62 = v34 := ((fxI F118 e36 rfl).trans e35)
            refine g_callV (st := []) (gc_V C lk_LandSurveyModel_497 (k_X12_span l D cy w z0 O117 e178 (iw fa1 (by decide) (by decide)) (iw fa2 (by decide) (by decide)) (iw f193 (by decide) (by decide)) (iw f194 (by decide) (by decide)) (iw f111 (by decide) (by decide)) (by rw [e195]; omega)) e178 rfl rfl rfl ⟨by decide, by decide⟩ (Nat.le_of_ble_eq_true rfl) dX12_sideBounds_99 ⟨(by decide), (by decide)⟩) (fun h197 K198 => ?_)
            obtain ⟨O200, F201, p202⟩ := K198
            obtain ⟨v203, e204⟩ : ∃ z, Iv h197 a0 62 = z := ⟨_, rfl⟩
            have e205 : Tg h197 a0 = 12 := (fxT F201 e178)
            have f206 := ok_I O200 e205 rI_12_62 e204
            rw [e204, e195] at p202
            refine g_iconst C dX12_sideBounds_102 ?_
            refine g_istore C [(8, .inl 1), (0, .inr (.inr a0)), (1, .inl a1), (2, .inl a2), (3, .inl a3), (4, .inl a4), (5, .inr (.inl a5)), (7, .inl r12), (9, .inl x23)] (by decide) rfl dX12_sideBounds_103 ?_
            refine g_aload_n C rfl 1 rfl dX12_sideBounds_105 ?_
            refine g_iload C 8 rfl dX12_sideBounds_106 ?_
            refine g_iload_n C rfl 3 rfl dX12_sideBounds_108 ?_
            refine g_iload_n C rfl 2 rfl dX12_sideBounds_109 ?_
            refine g_lload C 6 rfl dX12_sideBounds_110 ?_
            refine g_callI (st := []) (gc_V C lk_LandSurveyModel_501 (k_X12_dips l D cy w z0 O200 e205 f111 fa2 fa1 fa5) e205 rfl rfl rfl ⟨by decide, by decide⟩ (Nat.le_of_ble_eq_true rfl) dX12_sideBounds_112 ⟨(by decide), (by decide)⟩) (fun r207 h208 f210 K209 => ?_)
            obtain ⟨O211, F212, f213, p214⟩ := K209
            have E216 : Iv h197 (Rv h197 a0 42) = Iv h (Rv h a0 42) := mAI (j := 42) O (((((Fx.rf (wr := [2462, 32620000, 32820000, 33020000, 33220000]) (h := h)).call F17 rfl).call F29 rfl).call F118 rfl).call F201 rfl) ta0 rE_12_42 ar_142100 rfl rfl
            have E217 : Iv h197 (Rv h197 a0 48) = Iv h (Rv h a0 48) := mAI (j := 48) O (((((Fx.rf (wr := [2462, 32620000, 32820000, 33020000, 33220000]) (h := h)).call F17 rfl).call F29 rfl).call F118 rfl).call F201 rfl) ta0 rE_12_48 ar_148100 rfl rfl
            have p215 := p214
            rw [E216, E217] at p215
            refine g_if_eq C (iw f213 (by decide) (by decide)) 159 (by decide) dX12_sideBounds_115 (fun q218 => ?_) (fun q219 => ?_)
            · have f220 : (0 : Int) ≤ r207 ∧ r207 ≤ (0 : Int) := ii f213 (r_eq (il 0) q218) (by decide) (by decide)
              have f221 : (1 : Int) ≤ (x23 + 1) ∧ (x23 + 1) ≤ (40 : Int) := ia_add f111 (il 1) (by decide) (by decide)
              refine g_iinc C [(9, .inl (x23 + 1)), (8, .inl 1), (0, .inr (.inr a0)), (1, .inl a1), (2, .inl a2), (3, .inl a3), (4, .inl a4), (5, .inr (.inl a5)), (7, .inl r12)] 8 rfl (by decide) rfl dX12_sideBounds_159 ?_
              refine g_goto C 42 (by decide) dX12_sideBounds_162 ?_
              refine GW.sub [2, 3, 4, 5, 6, 7, 8, 1, 0] rfl ?_
              have e222 : Iv h208 a0 62 = v203 := ((fxI F212 e205 rfl).trans e204)
              exact ih26 _ (by omega) 1 (x23 + 1) h208 rfl O211 (((F29.call F118 rfl).call F201 rfl).call F212 rfl) (iw (il 1) (by decide) (by decide)) (iw f221 (by decide) (by decide)) (by rw [e222, e2]; omega)
            · have f223 : (1 : Int) ≤ r207 ∧ r207 ≤ (1 : Int) := r_nl f213 q219
              have z224 := p215 (by omega)
              have hz224 := ceq_hit (p := PF h a0) (K := kf a1 a2) (x := x23) (by omega) (z224.1.trans (kf_sym _ _))
              refine g_aload_n C rfl 1 rfl dX12_sideBounds_118 ?_
              refine g_iload_n C rfl 3 rfl dX12_sideBounds_119 ?_
              refine g_iload_n C rfl 2 rfl dX12_sideBounds_120 ?_
              refine g_aload_n C rfl 1 rfl dX12_sideBounds_121 ?_
              have e225 : Tg h208 a0 = 12 := (fxT F212 e205)
              have e226 : Rv h208 a0 49 = v179 := ((fxR F212 e205 rfl).trans ((fxR F201 e178 rfl).trans e180))
              refine gf_R C fk_LandSurveyModel_197 rfl e225 e226 dX12_sideBounds_122 ?_
              refine g_iload C 8 rfl dX12_sideBounds_125 ?_
              have e227 : Tg h208 v179 = 149100 := (fxT F212 (fxT F201 t181))
              have e228 : Tg h197 v179 = 149100 := (fxT F201 t181)
              have e229 : Ln h208 v179 = 40 := ((fxL F212 e228).trans ((fxL F201 t181).trans l182))
              have e230 : Iv h208 v179 x23.toNat = v183 := ((fxIa F212 e228 ar_149100 rfl).trans ((fxIa F201 t181 ar_149100 rfl).trans e184))
              refine g_iald C e227 rfl e229 (ix f111 (by decide) (by decide)) e230 dX12_sideBounds_127 ?_
              refine g_aload_n C rfl 1 rfl dX12_sideBounds_128 ?_
              have e231 : Rv h208 a0 50 = v186 := ((fxR F212 e205 rfl).trans ((fxR F201 e178 rfl).trans e187))
              refine gf_R C fk_LandSurveyModel_200 rfl e225 e231 dX12_sideBounds_129 ?_
              refine g_iload C 8 rfl dX12_sideBounds_132 ?_
              have e232 : Tg h208 v186 = 150100 := (fxT F212 (fxT F201 t188))
              have e233 : Tg h197 v186 = 150100 := (fxT F201 t188)
              have e234 : Ln h208 v186 = 40 := ((fxL F212 e233).trans ((fxL F201 t188).trans l189))
              have e235 : Iv h208 v186 x23.toNat = v190 := ((fxIa F212 e233 ar_150100 rfl).trans ((fxIa F201 t188 ar_150100 rfl).trans e191))
              refine g_iald C e232 rfl e234 (ix f111 (by decide) (by decide)) e235 dX12_sideBounds_134 ?_
              refine g_isub C dX12_sideBounds_135 ?_
              refine g_aload_n C rfl 1 rfl dX12_sideBounds_136 ?_
              refine gf_R C fk_LandSurveyModel_197 rfl e225 e226 dX12_sideBounds_137 ?_
              refine g_iload C 8 rfl dX12_sideBounds_140 ?_
              refine g_iald C e227 rfl e229 (ix f111 (by decide) (by decide)) e230 dX12_sideBounds_142 ?_
              refine g_aload_n C rfl 1 rfl dX12_sideBounds_143 ?_
              refine gf_R C fk_LandSurveyModel_200 rfl e225 e231 dX12_sideBounds_144 ?_
              refine g_iload C 8 rfl dX12_sideBounds_147 ?_
              refine g_iald C e232 rfl e234 (ix f111 (by decide) (by decide)) e235 dX12_sideBounds_149 ?_
              refine g_iadd C dX12_sideBounds_150 ?_
              refine g_iload C 8 rfl dX12_sideBounds_151 ?_
              have e236 : Iv h208 a0 62 = v203 := ((fxI F212 e205 rfl).trans e204)
              refine g_callV (st := []) (gc_V C lk_LandSurveyModel_497 (k_X12_span l D cy w z0 O211 e225 (iw fa2 (by decide) (by decide)) (iw fa1 (by decide) (by decide)) (iw f193 (by decide) (by decide)) (iw f194 (by decide) (by decide)) (iw f111 (by decide) (by decide)) (by rw [e236]; omega)) e225 rfl rfl rfl ⟨by decide, by decide⟩ (Nat.le_of_ble_eq_true rfl) dX12_sideBounds_153 ⟨(by decide), (by decide)⟩) (fun h238 K239 => ?_)
              obtain ⟨O241, F242, p243⟩ := K239
              obtain ⟨v244, e245⟩ : ∃ z, Iv h238 a0 62 = z := ⟨_, rfl⟩
              have e246 : Tg h238 a0 = 12 := (fxT F242 e225)
              have f247 := ok_I O241 e246 rI_12_62 e245
              rw [e245, e236] at p243
              refine g_iconst C dX12_sideBounds_156 ?_
              refine g_istore C [(8, .inl 1), (0, .inr (.inr a0)), (1, .inl a1), (2, .inl a2), (3, .inl a3), (4, .inl a4), (5, .inr (.inl a5)), (7, .inl r12), (9, .inl x23)] (by decide) rfl dX12_sideBounds_157 ?_
              have f248 : (1 : Int) ≤ (x23 + 1) ∧ (x23 + 1) ≤ (40 : Int) := ia_add f111 (il 1) (by decide) (by decide)
              refine g_iinc C [(9, .inl (x23 + 1)), (8, .inl 1), (0, .inr (.inr a0)), (1, .inl a1), (2, .inl a2), (3, .inl a3), (4, .inl a4), (5, .inr (.inl a5)), (7, .inl r12)] 8 rfl (by decide) rfl dX12_sideBounds_159 ?_
              refine g_goto C 42 (by decide) dX12_sideBounds_162 ?_
              refine GW.sub [2, 3, 4, 5, 6, 7, 8, 1, 0] rfl ?_
              exact ih26 _ (by omega) 1 (x23 + 1) h238 rfl O241 ((((F29.call F118 rfl).call F201 rfl).call F212 rfl).call F242 rfl) (iw (il 1) (by decide) (by decide)) (iw f248 (by decide) (by decide)) (by rw [e245, e2]; omega)
    have e249 : Iv h13 a0 62 = v1 := ((fxI F17 ta0 rfl).trans e2)
    exact L25 _ 0 0 h13 rfl O16 Fx.rf (iw (il 0) (by decide) (by decide)) (iw (il 0) (by decide) (by decide)) (by rw [e249, e2]; have := ceq_z (p := PF h a0) (K := kf a1 a2) (n := (0 : Int).toNat); omega)
  · have f250 : (0 : Int) ≤ r12 ∧ r12 ≤ (3 : Int) := r_ge f18 (il 0) q20 (by decide) (by decide)
    refine g_aload_n C rfl 1 rfl dX12_sideBounds_14 ?_
    refine g_iload_n C rfl 2 rfl dX12_sideBounds_15 ?_
    refine g_iload_n C rfl 3 rfl dX12_sideBounds_16 ?_
    refine g_aload_n C rfl 1 rfl dX12_sideBounds_17 ?_
    have e251 : Tg h13 a0 = 12 := (fxT F17 ta0)
    obtain ⟨v252, e253⟩ : ∃ z, Rv h13 a0 59 = z := ⟨_, rfl⟩
    have t254 := ok_R O16 e251 rE_12_59 e253
    have l255 := ok_L O16 e251 rE_12_59 e253
    refine gf_R C fk_LandSurveyModel_224 rfl e251 e253 dX12_sideBounds_18 ?_
    refine g_iload C 0 rfl dX12_sideBounds_21 ?_
    obtain ⟨v256, e257⟩ : ∃ z, Iv h13 v252 r12.toNat = z := ⟨_, rfl⟩
    have f258 := ok_Ia O16 t254 ar_159100 rI_159100_0 e257
    refine g_iald C t254 rfl l255 (ix f250 (by decide) (by decide)) e257 dX12_sideBounds_23 ?_
    refine g_aload_n C rfl 1 rfl dX12_sideBounds_24 ?_
    obtain ⟨v259, e260⟩ : ∃ z, Rv h13 a0 60 = z := ⟨_, rfl⟩
    have t261 := ok_R O16 e251 rE_12_60 e260
    have l262 := ok_L O16 e251 rE_12_60 e260
    refine gf_R C fk_LandSurveyModel_227 rfl e251 e260 dX12_sideBounds_25 ?_
    refine g_iload C 0 rfl dX12_sideBounds_28 ?_
    obtain ⟨v263, e264⟩ : ∃ z, Iv h13 v259 r12.toNat = z := ⟨_, rfl⟩
    have f265 := ok_Ia O16 t261 ar_160100 rI_160100_0 e264
    refine g_iald C t261 rfl l262 (ix f250 (by decide) (by decide)) e264 dX12_sideBounds_30 ?_
    refine g_iconst C dX12_sideBounds_31 ?_
    have e266 : Iv h13 a0 62 = v1 := ((fxI F17 ta0 rfl).trans e2)
    refine g_callV (st := []) (gc_V C lk_LandSurveyModel_497 (k_X12_span l D cy w z0 O16 e251 (iw fa1 (by decide) (by decide)) (iw fa2 (by decide) (by decide)) (iw f258 (by decide) (by decide)) (iw f265 (by decide) (by decide)) (iw (il (-1)) (by decide) (by decide)) (by rw [e266]; omega)) e251 rfl rfl rfl ⟨by decide, by decide⟩ (Nat.le_of_ble_eq_true rfl) dX12_sideBounds_32 ⟨(by decide), (by decide)⟩) (fun h268 K269 => ?_)
    obtain ⟨O271, F272, p273⟩ := K269
    obtain ⟨v274, e275⟩ : ∃ z, Iv h268 a0 62 = z := ⟨_, rfl⟩
    have e276 : Tg h268 a0 = 12 := (fxT F272 e251)
    have f277 := ok_I O271 e276 rI_12_62 e275
    rw [e275, e266] at p273
    exact g_vret C hr ⟨O271, (((Fx.rf (wr := wr_k_X12_sideBounds)).call F17 rfl).call F272 rfl), (by rw [e275, e2]; omega)⟩ (by decide) (by decide) dX12_sideBounds_35
def wr_k_X12_findBounds : List Nat := [2462, 32620000, 32820000, 33020000, 33220000]
set_option maxRecDepth 100000 in
set_option maxHeartbeats 4000000 in
theorem k_X12_findBounds (l : Launch) (D : va_G) (cy : Nat → ClassId) (w : Nat → Nat) (z0 : Nat)  {h : Hp} {a0 : Nat} {a1 : Int} {a2 : Int} {a3 : Int}  (O : Okh h) (ta0 : Tg h a0 = 12) (fa1 : 0 ≤ a1 ∧ a1 ≤ 15) (fa2 : (-9223372036854775808) ≤ a2 ∧ a2 ≤ 9223372036854775807) (fa3 : 0 ≤ a3 ∧ a3 ≤ 1) : MV l D cy w z0 yX12_findBounds cX12_findBounds 6 none 5 120 0 0 [.inr (.inr a0), .inl a1, .inr (.inl a2), .inl a3] h (fun h1 => Okh h1 ∧ Fx wr_k_X12_findBounds h h1) := by
  refine hm_go (by decide +kernel) (Nat.le_of_ble_eq_true rfl) (fun p e s m below meth c C hr hn => ?_)
  obtain ⟨v1, e2⟩ : ∃ z, Iv h a0 62 = z := ⟨_, rfl⟩
  have f3 := ok_I O ta0 rI_12_62 e2
  obtain ⟨v4, e5⟩ : ∃ z, Rv h a0 42 = z := ⟨_, rfl⟩
  have t6 := ok_R O ta0 rE_12_42 e5
  have l7 := ok_L O ta0 rE_12_42 e5
  obtain ⟨v8, e9⟩ : ∃ z, Rv h a0 48 = z := ⟨_, rfl⟩
  have t10 := ok_R O ta0 rE_12_48 e9
  have l11 := ok_L O ta0 rE_12_48 e9
  refine g_aload_n C rfl 0 rfl dX12_findBounds_0 ?_
  refine g_iconst C dX12_findBounds_1 ?_
  refine gp_I C fk_LandSurveyModel_480 pk_LandSurveyModel_62 rfl ta0 (iw (il 0) (by decide) (by decide)) (nf_i _) dX12_findBounds_2 (fun h13 hh12 => ?_)
  have O14 := O.pI ta0 hh12 rI_12_62 (iw (il 0) (by decide) (by decide)) nofun
  refine g_iconst C dX12_findBounds_5 ?_
  refine g_istore C [(5, .inl 0), (0, .inr (.inr a0)), (1, .inl a1), (2, .inr (.inl a2)), (4, .inl a3)] (by decide) rfl dX12_findBounds_6 ?_
  refine GW.sub [1, 2, 3, 4, 0] rfl ?_
  -- loop at 8
  have L17 : ∀ (μ : Nat) (x15 : Int) (h16 : Hp), (96 - x15).toNat = μ → Okh h16 → Fx [2462, 32620000, 32820000, 33020000, 33220000] h13 h16 → ((0 : Int) ≤ x15 ∧ x15 ≤ (96 : Int)) → (Iv h16 a0 62 ≤ 4 * x15 + 2 * clt (PF h a0) (2 * x15) 40) → GW p l e (rmm 5 120 0 0) s m (List.map toV [.inr (.inr a0), .inl a1, .inr (.inl a2), .inl a3]).toArray below meth c D cy z0 6 (MQ below (QV D cy z0 (fun h1 => Okh h1 ∧ Fx wr_k_X12_findBounds h h1)) (List.map toV [.inr (.inr a0), .inl a1, .inr (.inl a2), .inl a3]).toArray s 0 0 (Aof z0)) 8 [(0, .inr (.inr a0)), (1, .inl a1), (2, .inr (.inl a2)), (4, .inl a3), (5, .inl x15)] [] h16 0 0 := by
    intro μ
    induction μ using Nat.strongRecOn with
    | ind μ ih18 =>
      intro x15 h16 hm19 O20 F21 f22 p23
      have e24 : Tg h13 a0 = 12 := ((pIT hh12).trans ta0)
      obtain ⟨v25, e26⟩ : ∃ z, Iv h16 a0 62 = z := ⟨_, rfl⟩
      have e27 : Tg h16 a0 = 12 := (fxT F21 e24)
      have f28 := ok_I O20 e27 rI_12_62 e26
      rw [e26] at p23
      have hf1 := clt_2 (p := PF h a0) (c := x15) (by omega)
      have hf2 := clt_rng (p := PF h a0) (K := 2 * x15) 40
      have hf3 := clt_rng (p := PF h a0) (K := 2 * (x15 + 1)) 40
      have hf4 := ceq_z (p := PF h a0) (K := 2 * x15) (n := 40)
      have hf5 := ceq_z (p := PF h a0) (K := 2 * x15 + 1) (n := 40)
      refine g_iload C 4 rfl dX12_findBounds_8 ?_
      refine g_bipush C (by decide) dX12_findBounds_10 ?_
      refine g_icmp_ge C (iw f22 (by decide) (by decide)) (iw (il 96) (by decide) (by decide)) 73 (by decide) dX12_findBounds_12 (fun q29 => ?_) (fun q30 => ?_)
      · have f31 : (96 : Int) ≤ x15 ∧ x15 ≤ (96 : Int) := r_ge f22 (il 96) q29 (by decide) (by decide)
        refine g_iconst C dX12_findBounds_73 ?_
        refine g_istore C [(5, .inl 0), (0, .inr (.inr a0)), (1, .inl a1), (2, .inr (.inl a2)), (4, .inl a3)] (by decide) rfl dX12_findBounds_74 ?_
        refine GW.sub [1, 2, 3, 4, 0] rfl ?_
        -- loop at 76
        have L34 : ∀ (μ : Nat) (x32 : Int) (h33 : Hp), (40 - x32).toNat = μ → Okh h33 → Fx [2462, 32620000, 32820000, 33020000, 33220000] h16 h33 → ((0 : Int) ≤ x32 ∧ x32 ≤ (40 : Int)) → (Iv h33 a0 62 ≤ 464 + 2 * x32) → GW p l e (rmm 5 120 0 0) s m (List.map toV [.inr (.inr a0), .inl a1, .inr (.inl a2), .inl a3]).toArray below meth c D cy z0 6 (MQ below (QV D cy z0 (fun h1 => Okh h1 ∧ Fx wr_k_X12_findBounds h h1)) (List.map toV [.inr (.inr a0), .inl a1, .inr (.inl a2), .inl a3]).toArray s 0 0 (Aof z0)) 76 [(0, .inr (.inr a0)), (1, .inl a1), (2, .inr (.inl a2)), (4, .inl a3), (5, .inl x32)] [] h33 0 0 := by
          intro μ
          induction μ using Nat.strongRecOn with
          | ind μ ih35 =>
            intro x32 h33 hm36 O37 F38 f39 p40
            obtain ⟨v41, e42⟩ : ∃ z, Iv h33 a0 62 = z := ⟨_, rfl⟩
            have e43 : Tg h33 a0 = 12 := (fxT F38 e27)
            have f44 := ok_I O37 e43 rI_12_62 e42
            rw [e42] at p40
            refine g_iload C 4 rfl dX12_findBounds_76 ?_
            refine g_aload_n C rfl 0 rfl dX12_findBounds_78 ?_
            obtain ⟨v45, e46⟩ : ∃ z, Iv h33 a0 40 = z := ⟨_, rfl⟩
            have f47 := ok_I O37 e43 rI_12_40 e46
            refine gf_I C fk_LandSurveyModel_423 rfl e43 e46 dX12_findBounds_79 ?_
            refine g_icmp_ge C (iw f39 (by decide) (by decide)) (iw f47 (by decide) (by decide)) 144 (by decide) dX12_findBounds_82 (fun q48 => ?_) (fun q49 => ?_)
            · exact g_vret C hr ⟨O37, ((((Fx.rf (wr := wr_k_X12_findBounds)).pI ta0 hh12 rfl).call F21 rfl).call F38 rfl)⟩ (by decide) (by decide) dX12_findBounds_144
            · have f50 : (0 : Int) ≤ x32 ∧ x32 ≤ (39 : Int) := r_lt f39 f47 q49 (by decide) (by decide)
              have f51 : (1 : Int) ≤ v45 ∧ v45 ≤ (40 : Int) := r_gt f47 f39 q49 (by decide) (by decide)
              refine g_iload C 3 rfl dX12_findBounds_85 ?_
              refine g_if_eq C (iw fa3 (by decide) (by decide)) 144 (by decide) dX12_findBounds_87 (fun q52 => ?_) (fun q53 => ?_)
              · have f54 : (0 : Int) ≤ a3 ∧ a3 ≤ (0 : Int) := ii fa3 (r_eq (il 0) q52) (by decide) (by decide)
                exact g_vret C hr ⟨O37, ((((Fx.rf (wr := wr_k_X12_findBounds)).pI ta0 hh12 rfl).call F21 rfl).call F38 rfl)⟩ (by decide) (by decide) dX12_findBounds_144
              · have f55 : (1 : Int) ≤ a3 ∧ a3 ≤ (1 : Int) := r_nl fa3 q53
                refine g_aload_n C rfl 0 rfl dX12_findBounds_90 ?_
                obtain ⟨v56, e57⟩ : ∃ z, Rv h33 a0 53 = z := ⟨_, rfl⟩
                have t58 := ok_R O37 e43 rE_12_53 e57
                have l59 := ok_L O37 e43 rE_12_53 e57
                refine gf_R C fk_LandSurveyModel_209 rfl e43 e57 dX12_findBounds_91 ?_
                refine g_iload C 4 rfl dX12_findBounds_94 ?_
                obtain ⟨v60, e61⟩ : ∃ z, Iv h33 v56 x32.toNat = z := ⟨_, rfl⟩
                have f62 := ok_Ia O37 t58 ar_153101 rI_153101_0 e61
                refine g_zald C t58 rfl l59 (ix f50 (by decide) (by decide)) e61 dX12_findBounds_96 ?_
                refine g_if_eq C (iw f62 (by decide) (by decide)) 138 (by decide) dX12_findBounds_97 (fun q63 => ?_) (fun q64 => ?_)
                · have f65 : (0 : Int) ≤ v60 ∧ v60 ≤ (0 : Int) := ii f62 (r_eq (il 0) q63) (by decide) (by decide)
                  have f66 : (1 : Int) ≤ (x32 + 1) ∧ (x32 + 1) ≤ (40 : Int) := ia_add f50 (il 1) (by decide) (by decide)
                  refine g_iinc C [(5, .inl (x32 + 1)), (0, .inr (.inr a0)), (1, .inl a1), (2, .inr (.inl a2)), (4, .inl a3)] 4 rfl (by decide) rfl dX12_findBounds_138 ?_
                  refine g_goto C 76 (by decide) dX12_findBounds_141 ?_
                  refine GW.sub [1, 2, 3, 4, 0] rfl ?_
                  exact ih35 _ (by omega) (x32 + 1) h33 rfl O37 F38 (iw f66 (by decide) (by decide)) (by rw [e42]; omega)
                · have f67 : (1 : Int) ≤ v60 ∧ v60 ≤ (1 : Int) := r_nl f62 q64
                  refine g_lload_n C rfl 2 rfl dX12_findBounds_100 ?_
                  refine g_iload C 4 rfl dX12_findBounds_101 ?_
                  refine g_callI (st := []) (gc_S C lk_LandSurveyModel_487 (k_X12_isIn l D cy w z0 O37 fa2 (iw f50 (by decide) (by decide))) rfl ⟨by decide, by decide⟩ (Nat.le_of_ble_eq_true rfl) dX12_findBounds_103 ⟨(by decide), (by decide)⟩) (fun r68 h69 f71 K70 => ?_)
                  obtain ⟨O72, F73, f74⟩ := K70
                  refine g_if_ne C (iw f74 (by decide) (by decide)) 138 (by decide) dX12_findBounds_106 (fun q75 => ?_) (fun q76 => ?_)
                  · have f77 : (1 : Int) ≤ r68 ∧ r68 ≤ (1 : Int) := r_nl f74 q75
                    have f78 : (1 : Int) ≤ (x32 + 1) ∧ (x32 + 1) ≤ (40 : Int) := ia_add f50 (il 1) (by decide) (by decide)
                    refine g_iinc C [(5, .inl (x32 + 1)), (0, .inr (.inr a0)), (1, .inl a1), (2, .inr (.inl a2)), (4, .inl a3)] 4 rfl (by decide) rfl dX12_findBounds_138 ?_
                    refine g_goto C 76 (by decide) dX12_findBounds_141 ?_
                    refine GW.sub [1, 2, 3, 4, 0] rfl ?_
                    have e79 : Iv h69 a0 62 = v41 := ((fxI F73 e43 rfl).trans e42)
                    exact ih35 _ (by omega) (x32 + 1) h69 rfl O72 (F38.call F73 rfl) (iw f78 (by decide) (by decide)) (by rw [e79]; omega)
                  · have f80 : (0 : Int) ≤ r68 ∧ r68 ≤ (0 : Int) := ii f74 (r_eq (il 0) q76) (by decide) (by decide)
                    refine g_aload_n C rfl 0 rfl dX12_findBounds_109 ?_
                    refine g_bipush C (by decide) dX12_findBounds_110 ?_
                    refine g_aload_n C rfl 0 rfl dX12_findBounds_112 ?_
                    have e81 : Tg h69 a0 = 12 := (fxT F73 e43)
                    have e82 : Rv h69 a0 42 = v4 := ((fxR F73 e43 rfl).trans ((fxR F38 e27 rfl).trans ((fxR F21 e24 rfl).trans ((pIR hh12).trans e5))))
                    refine gf_R C fk_LandSurveyModel_176 rfl e81 e82 dX12_findBounds_113 ?_
                    refine g_iload C 4 rfl dX12_findBounds_116 ?_
                    have e83 : Tg h69 v4 = 142100 := (fxT F73 (fxT F38 (fxT F21 ((pIT hh12).trans t6))))
                    have e84 : Tg h13 v4 = 142100 := ((pIT hh12).trans t6)
                    have e85 : Tg h16 v4 = 142100 := (fxT F21 e84)
                    have e86 : Tg h33 v4 = 142100 := (fxT F38 e85)
                    have e87 : Ln h69 v4 = 40 := ((fxL F73 e86).trans ((fxL F38 e85).trans ((fxL F21 e84).trans ((pIL hh12).trans l7))))
                    obtain ⟨v88, e89⟩ : ∃ z, Iv h69 v4 x32.toNat = z := ⟨_, rfl⟩
                    have f90 := ok_Ia O72 e83 ar_142100 rI_142100_0 e89
                    refine g_iald C e83 rfl e87 (ix f50 (by decide) (by decide)) e89 dX12_findBounds_118 ?_
                    refine g_aload_n C rfl 0 rfl dX12_findBounds_119 ?_
                    obtain ⟨v91, e92⟩ : ∃ z, Rv h69 a0 54 = z := ⟨_, rfl⟩
                    have t93 := ok_R O72 e81 rE_12_54 e92
                    have l94 := ok_L O72 e81 rE_12_54 e92
                    refine gf_R C fk_LandSurveyModel_212 rfl e81 e92 dX12_findBounds_120 ?_
                    refine g_iload C 4 rfl dX12_findBounds_123 ?_
                    obtain ⟨v95, e96⟩ : ∃ z, Iv h69 v91 x32.toNat = z := ⟨_, rfl⟩
                    have f97 := ok_Ia O72 t93 ar_154100 rI_154100_0 e96
                    refine g_iald C t93 rfl l94 (ix f50 (by decide) (by decide)) e96 dX12_findBounds_125 ?_
                    refine g_aload_n C rfl 0 rfl dX12_findBounds_126 ?_
                    obtain ⟨v98, e99⟩ : ∃ z, Rv h69 a0 55 = z := ⟨_, rfl⟩
                    have t100 := ok_R O72 e81 rE_12_55 e99
                    have l101 := ok_L O72 e81 rE_12_55 e99
                    refine gf_R C fk_LandSurveyModel_215 rfl e81 e99 dX12_findBounds_127 ?_
                    refine g_iload C 4 rfl dX12_findBounds_130 ?_
                    obtain ⟨v102, e103⟩ : ∃ z, Iv h69 v98 x32.toNat = z := ⟨_, rfl⟩
                    have f104 := ok_Ia O72 t100 ar_155100 rI_155100_0 e103
                    refine g_iald C t100 rfl l101 (ix f50 (by decide) (by decide)) e103 dX12_findBounds_132 ?_
                    refine g_iload C 4 rfl dX12_findBounds_133 ?_
                    have e105 : Iv h69 a0 62 = v41 := ((fxI F73 e43 rfl).trans e42)
                    refine g_callV (st := []) (gc_V C lk_LandSurveyModel_497 (k_X12_span l D cy w z0 O72 e81 (iw (il 96) (by decide) (by decide)) (iw f90 (by decide) (by decide)) f97 f104 (iw f50 (by decide) (by decide)) (by rw [e105]; omega)) e81 rfl rfl rfl ⟨by decide, by decide⟩ (Nat.le_of_ble_eq_true rfl) dX12_findBounds_135 ⟨(by decide), (by decide)⟩) (fun h107 K108 => ?_)
                    obtain ⟨O110, F111, p112⟩ := K108
                    obtain ⟨v113, e114⟩ : ∃ z, Iv h107 a0 62 = z := ⟨_, rfl⟩
                    have e115 : Tg h107 a0 = 12 := (fxT F111 e81)
                    have f116 := ok_I O110 e115 rI_12_62 e114
                    rw [e114, e105] at p112
                    have f117 : (1 : Int) ≤ (x32 + 1) ∧ (x32 + 1) ≤ (40 : Int) := ia_add f50 (il 1) (by decide) (by decide)
                    refine g_iinc C [(5, .inl (x32 + 1)), (0, .inr (.inr a0)), (1, .inl a1), (2, .inr (.inl a2)), (4, .inl a3)] 4 rfl (by decide) rfl dX12_findBounds_138 ?_
                    refine g_goto C 76 (by decide) dX12_findBounds_141 ?_
                    refine GW.sub [1, 2, 3, 4, 0] rfl ?_
                    exact ih35 _ (by omega) (x32 + 1) h107 rfl O110 ((F38.call F73 rfl).call F111 rfl) (iw f117 (by decide) (by decide)) (by rw [e114]; omega)
        exact L34 _ 0 h16 rfl O20 Fx.rf (iw (il 0) (by decide) (by decide)) (by rw [e26]; omega)
      · have f118 : (0 : Int) ≤ x15 ∧ x15 ≤ (95 : Int) := r_lt f22 (il 96) q30 (by decide) (by decide)
        refine g_iload C 4 rfl dX12_findBounds_15 ?_
        refine g_bipush C (by decide) dX12_findBounds_17 ?_
        refine g_iremE (k := 12) C (iw f118 (by decide) (by decide)) (by decide) (by decide) dX12_findBounds_19 ?_
        have f119 : (0 : Int) ≤ (x15 % 12) ∧ (x15 % 12) ≤ (11 : Int) := iv_rem (by decide) (by decide)
        refine g_bipush C (by decide) dX12_findBounds_20 ?_
        refine g_icmp_ge C (iw f119 (by decide) (by decide)) (iw (il 11) (by decide) (by decide)) 39 (by decide) dX12_findBounds_22 (fun q120 => ?_) (fun q121 => ?_)
        · have f122 : (11 : Int) ≤ (x15 % 12) ∧ (x15 % 12) ≤ (11 : Int) := r_ge f119 (il 11) q120 (by decide) (by decide)
          refine g_iload C 4 rfl dX12_findBounds_39 ?_
          refine g_bipush C (by decide) dX12_findBounds_41 ?_
          refine g_idivE (k := 12) C (iw f118 (by decide) (by decide)) (by decide) (by decide) dX12_findBounds_43 ?_
          have f123 : (0 : Int) ≤ (x15 / 12) ∧ (x15 / 12) ≤ (7 : Int) := iv_div (by decide) f118 (by decide) (by decide)
          refine g_bipush C (by decide) dX12_findBounds_44 ?_
          refine g_icmp_ge C (iw f123 (by decide) (by decide)) (iw (il 7) (by decide) (by decide)) 67 (by decide) dX12_findBounds_46 (fun q124 => ?_) (fun q125 => ?_)
          · have f126 : (7 : Int) ≤ (x15 / 12) ∧ (x15 / 12) ≤ (7 : Int) := r_ge f123 (il 7) q124 (by decide) (by decide)
            have f127 : (1 : Int) ≤ (x15 + 1) ∧ (x15 + 1) ≤ (96 : Int) := ia_add f118 (il 1) (by decide) (by decide)
            refine g_iinc C [(5, .inl (x15 + 1)), (0, .inr (.inr a0)), (1, .inl a1), (2, .inr (.inl a2)), (4, .inl a3)] 4 rfl (by decide) rfl dX12_findBounds_67 ?_
            refine g_goto C 8 (by decide) dX12_findBounds_70 ?_
            refine GW.sub [1, 2, 3, 4, 0] rfl ?_
            exact ih18 _ (by omega) (x15 + 1) h16 rfl O20 F21 (iw f127 (by decide) (by decide)) (by rw [e26]; omega)
          · have f128 : (0 : Int) ≤ (x15 / 12) ∧ (x15 / 12) ≤ (6 : Int) := r_lt f123 (il 7) q125 (by decide) (by decide)
            refine g_aload_n C rfl 0 rfl dX12_findBounds_49 ?_
            refine g_iload C 4 rfl dX12_findBounds_50 ?_
            refine g_iload C 4 rfl dX12_findBounds_52 ?_
            refine g_bipush C (by decide) dX12_findBounds_54 ?_
            have f129 : (12 : Int) ≤ (x15 + 12) ∧ (x15 + 12) ≤ (107 : Int) := ia_add f118 (il 12) (by decide) (by decide)
            refine g_iadd C dX12_findBounds_56 ?_
            refine g_bipush C (by decide) dX12_findBounds_57 ?_
            refine g_iload C 4 rfl dX12_findBounds_59 ?_
            have f130 : (96 : Int) ≤ (96 + x15) ∧ (96 + x15) ≤ (191 : Int) := ia_add (il 96) f118 (by decide) (by decide)
            refine g_iadd C dX12_findBounds_61 ?_
            refine g_iload_n C rfl 1 rfl dX12_findBounds_62 ?_
            refine g_lload_n C rfl 2 rfl dX12_findBounds_63 ?_
            have E131 : Iv h16 (Rv h16 a0 42) = Iv h (Rv h a0 42) := mAI (j := 42) O (((Fx.rf (wr := [2462, 32620000, 32820000, 33020000, 33220000]) (h := h)).pI ta0 hh12 rfl).call F21 rfl) ta0 rE_12_42 ar_142100 rfl rfl
            have E132 : Iv h16 (Rv h16 a0 48) = Iv h (Rv h a0 48) := mAI (j := 48) O (((Fx.rf (wr := [2462, 32620000, 32820000, 33020000, 33220000]) (h := h)).pI ta0 hh12 rfl).call F21 rfl) ta0 rE_12_48 ar_148100 rfl rfl
            have E133 : PF h16 a0 = PF h a0 := by unfold PF; rw [E131, E132]
            refine g_callV (st := []) (gc_V C lk_LandSurveyModel_505 (k_X12_sideBounds l D cy w z0 O20 e27 f118 (by omega) (iw f130 (by decide) (by decide)) (iw fa1 (by decide) (by decide)) fa2 (by omega) (by rw [e26, E133, kf_d]; omega)) e27 rfl rfl rfl ⟨by decide, by decide⟩ (Nat.le_of_ble_eq_true rfl) dX12_findBounds_64 ⟨(by decide), (by decide)⟩) (fun h135 K136 => ?_)
            obtain ⟨O138, F139, p140⟩ := K136
            have E141 : PF h16 a0 = PF h a0 := by unfold PF; rw [E131, E132]
            obtain ⟨v142, e143⟩ : ∃ z, Iv h135 a0 62 = z := ⟨_, rfl⟩
            have e144 : Tg h135 a0 = 12 := (fxT F139 e27)
            have f145 := ok_I O138 e144 rI_12_62 e143
            rw [e143, e26, E141, kf_d] at p140
            have f146 : (1 : Int) ≤ (x15 + 1) ∧ (x15 + 1) ≤ (96 : Int) := ia_add f118 (il 1) (by decide) (by decide)
            refine g_iinc C [(5, .inl (x15 + 1)), (0, .inr (.inr a0)), (1, .inl a1), (2, .inr (.inl a2)), (4, .inl a3)] 4 rfl (by decide) rfl dX12_findBounds_67 ?_
            refine g_goto C 8 (by decide) dX12_findBounds_70 ?_
            refine GW.sub [1, 2, 3, 4, 0] rfl ?_
            exact ih18 _ (by omega) (x15 + 1) h135 rfl O138 (F21.call F139 rfl) (iw f146 (by decide) (by decide)) (by rw [e143]; omega)
        · have f147 : (0 : Int) ≤ (x15 % 12) ∧ (x15 % 12) ≤ (10 : Int) := r_lt f119 (il 11) q121 (by decide) (by decide)
          refine g_aload_n C rfl 0 rfl dX12_findBounds_25 ?_
          refine g_iload C 4 rfl dX12_findBounds_26 ?_
          refine g_iload C 4 rfl dX12_findBounds_28 ?_
          refine g_iconst C dX12_findBounds_30 ?_
          have f148 : (1 : Int) ≤ (x15 + 1) ∧ (x15 + 1) ≤ (96 : Int) := ia_add f118 (il 1) (by decide) (by decide)
          refine g_iadd C dX12_findBounds_31 ?_
          refine g_iload C 4 rfl dX12_findBounds_32 ?_
          refine g_iload_n C rfl 1 rfl dX12_findBounds_34 ?_
          refine g_lload_n C rfl 2 rfl dX12_findBounds_35 ?_
          have E149 : Iv h16 (Rv h16 a0 42) = Iv h (Rv h a0 42) := mAI (j := 42) O (((Fx.rf (wr := [2462, 32620000, 32820000, 33020000, 33220000]) (h := h)).pI ta0 hh12 rfl).call F21 rfl) ta0 rE_12_42 ar_142100 rfl rfl
          have E150 : Iv h16 (Rv h16 a0 48) = Iv h (Rv h a0 48) := mAI (j := 48) O (((Fx.rf (wr := [2462, 32620000, 32820000, 33020000, 33220000]) (h := h)).pI ta0 hh12 rfl).call F21 rfl) ta0 rE_12_48 ar_148100 rfl rfl
          have E151 : PF h16 a0 = PF h a0 := by unfold PF; rw [E149, E150]
          refine g_callV (st := []) (gc_V C lk_LandSurveyModel_505 (k_X12_sideBounds l D cy w z0 O20 e27 f118 (by omega) (iw f118 (by decide) (by decide)) (iw fa1 (by decide) (by decide)) fa2 (by omega) (by rw [e26, E151, kf_r]; omega)) e27 rfl rfl rfl ⟨by decide, by decide⟩ (Nat.le_of_ble_eq_true rfl) dX12_findBounds_36 ⟨(by decide), (by decide)⟩) (fun h153 K154 => ?_)
          obtain ⟨O156, F157, p158⟩ := K154
          have E159 : PF h16 a0 = PF h a0 := by unfold PF; rw [E149, E150]
          obtain ⟨v160, e161⟩ : ∃ z, Iv h153 a0 62 = z := ⟨_, rfl⟩
          have e162 : Tg h153 a0 = 12 := (fxT F157 e27)
          have f163 := ok_I O156 e162 rI_12_62 e161
          rw [e161, e26, E159, kf_r] at p158
          refine g_iload C 4 rfl dX12_findBounds_39 ?_
          refine g_bipush C (by decide) dX12_findBounds_41 ?_
          refine g_idivE (k := 12) C (iw f118 (by decide) (by decide)) (by decide) (by decide) dX12_findBounds_43 ?_
          have f164 : (0 : Int) ≤ (x15 / 12) ∧ (x15 / 12) ≤ (7 : Int) := iv_div (by decide) f118 (by decide) (by decide)
          refine g_bipush C (by decide) dX12_findBounds_44 ?_
          refine g_icmp_ge C (iw f164 (by decide) (by decide)) (iw (il 7) (by decide) (by decide)) 67 (by decide) dX12_findBounds_46 (fun q165 => ?_) (fun q166 => ?_)
          · have f167 : (7 : Int) ≤ (x15 / 12) ∧ (x15 / 12) ≤ (7 : Int) := r_ge f164 (il 7) q165 (by decide) (by decide)
            refine g_iinc C [(5, .inl (x15 + 1)), (0, .inr (.inr a0)), (1, .inl a1), (2, .inr (.inl a2)), (4, .inl a3)] 4 rfl (by decide) rfl dX12_findBounds_67 ?_
            refine g_goto C 8 (by decide) dX12_findBounds_70 ?_
            refine GW.sub [1, 2, 3, 4, 0] rfl ?_
            exact ih18 _ (by omega) (x15 + 1) h153 rfl O156 (F21.call F157 rfl) (iw f148 (by decide) (by decide)) (by rw [e161]; omega)
          · have f168 : (0 : Int) ≤ (x15 / 12) ∧ (x15 / 12) ≤ (6 : Int) := r_lt f164 (il 7) q166 (by decide) (by decide)
            refine g_aload_n C rfl 0 rfl dX12_findBounds_49 ?_
            refine g_iload C 4 rfl dX12_findBounds_50 ?_
            refine g_iload C 4 rfl dX12_findBounds_52 ?_
            refine g_bipush C (by decide) dX12_findBounds_54 ?_
            have f169 : (12 : Int) ≤ (x15 + 12) ∧ (x15 + 12) ≤ (107 : Int) := ia_add f118 (il 12) (by decide) (by decide)
            refine g_iadd C dX12_findBounds_56 ?_
            refine g_bipush C (by decide) dX12_findBounds_57 ?_
            refine g_iload C 4 rfl dX12_findBounds_59 ?_
            have f170 : (96 : Int) ≤ (96 + x15) ∧ (96 + x15) ≤ (191 : Int) := ia_add (il 96) f118 (by decide) (by decide)
            refine g_iadd C dX12_findBounds_61 ?_
            refine g_iload_n C rfl 1 rfl dX12_findBounds_62 ?_
            refine g_lload_n C rfl 2 rfl dX12_findBounds_63 ?_
            have E171 : Iv h153 (Rv h153 a0 42) = Iv h (Rv h a0 42) := mAI (j := 42) O ((((Fx.rf (wr := [2462, 32620000, 32820000, 33020000, 33220000]) (h := h)).pI ta0 hh12 rfl).call F21 rfl).call F157 rfl) ta0 rE_12_42 ar_142100 rfl rfl
            have E172 : Iv h153 (Rv h153 a0 48) = Iv h (Rv h a0 48) := mAI (j := 48) O ((((Fx.rf (wr := [2462, 32620000, 32820000, 33020000, 33220000]) (h := h)).pI ta0 hh12 rfl).call F21 rfl).call F157 rfl) ta0 rE_12_48 ar_148100 rfl rfl
            have E173 : PF h153 a0 = PF h a0 := by unfold PF; rw [E171, E172]
            refine g_callV (st := []) (gc_V C lk_LandSurveyModel_505 (k_X12_sideBounds l D cy w z0 O156 e162 f118 (by omega) (iw f170 (by decide) (by decide)) (iw fa1 (by decide) (by decide)) fa2 (by omega) (by rw [e161, E173, kf_d]; omega)) e162 rfl rfl rfl ⟨by decide, by decide⟩ (Nat.le_of_ble_eq_true rfl) dX12_findBounds_64 ⟨(by decide), (by decide)⟩) (fun h175 K176 => ?_)
            obtain ⟨O178, F179, p180⟩ := K176
            have E181 : PF h153 a0 = PF h a0 := by unfold PF; rw [E171, E172]
            obtain ⟨v182, e183⟩ : ∃ z, Iv h175 a0 62 = z := ⟨_, rfl⟩
            have e184 : Tg h175 a0 = 12 := (fxT F179 e162)
            have f185 := ok_I O178 e184 rI_12_62 e183
            rw [e183, e161, E181, kf_d] at p180
            refine g_iinc C [(5, .inl (x15 + 1)), (0, .inr (.inr a0)), (1, .inl a1), (2, .inr (.inl a2)), (4, .inl a3)] 4 rfl (by decide) rfl dX12_findBounds_67 ?_
            refine g_goto C 8 (by decide) dX12_findBounds_70 ?_
            refine GW.sub [1, 2, 3, 4, 0] rfl ?_
            exact ih18 _ (by omega) (x15 + 1) h175 rfl O178 ((F21.call F157 rfl).call F179 rfl) (iw f148 (by decide) (by decide)) (by rw [e183]; omega)
  exact L17 _ 0 h13 rfl O14 Fx.rf (iw (il 0) (by decide) (by decide)) (by rw [(pI_e hh12)]; have := clt_rng (p := PF h a0) (K := 2 * 0) 40; omega)
def wr_k_X12_findRing : List Nat := [2469]
set_option maxRecDepth 100000 in
set_option maxHeartbeats 4000000 in
theorem k_X12_findRing (l : Launch) (D : va_G) (cy : Nat → ClassId) (w : Nat → Nat) (z0 : Nat)  {h : Hp} {a0 : Nat} {a1 : Int}  (O : Okh h) (ta0 : Tg h a0 = 12) (fa1 : 0 ≤ a1 ∧ a1 ≤ 96) (P_gi : GI (Iv h (Rv h a0 63)) (Iv h (Rv h a0 64)) (Iv h (Rv h a0 65)) (Iv h (Rv h a0 67)) (Iv h (Rv h a0 68)) (Iv h a0 62) 97 (Iv h a0 62) a1) : MV l D cy w z0 yX12_findRing cX12_findRing 5 none 0 0 0 0 [.inr (.inr a0), .inl a1] h (fun h1 => Okh h1 ∧ Fx wr_k_X12_findRing h h1) := by
  refine hm_go (by decide +kernel) (Nat.le_of_ble_eq_true rfl) (fun p e s m below meth c C hr hn => ?_)
  obtain ⟨v1, e2⟩ : ∃ z, Rv h a0 63 = z := ⟨_, rfl⟩
  have t3 := ok_R O ta0 rE_12_63 e2
  have l4 := ok_L O ta0 rE_12_63 e2
  obtain ⟨v5, e6⟩ : ∃ z, Rv h a0 68 = z := ⟨_, rfl⟩
  have t7 := ok_R O ta0 rE_12_68 e6
  have l8 := ok_L O ta0 rE_12_68 e6
  refine g_iload_n C rfl 1 rfl dX12_findRing_0 ?_
  refine g_istore_n C [(2, .inl a1), (0, .inr (.inr a0)), (1, .inl a1)] rfl (by decide) rfl dX12_findRing_1 ?_
  refine g_iconst C dX12_findRing_2 ?_
  refine g_istore_n C [(3, .inl 0), (2, .inl a1), (0, .inr (.inr a0)), (1, .inl a1)] rfl (by decide) rfl dX12_findRing_3 ?_
  refine GW.sub [2, 3, 1, 0] rfl ?_
  -- loop at 4
  have L11 : ∀ (μ : Nat) (x9 : Int) (x10 : Int), (97 - x10).toNat = μ → ((0 : Int) ≤ x9 ∧ x9 ≤ (96 : Int)) → ((0 : Int) ≤ x10 ∧ x10 ≤ (97 : Int)) → (FRI (fN h a0) (Iv h (Rv h a0 68)) a1.toNat x10 x9) → GW p l e (rmm 0 0 0 0) s m (List.map toV [.inr (.inr a0), .inl a1]).toArray below meth c D cy z0 5 (MQ below (QV D cy z0 (fun h1 => Okh h1 ∧ Fx wr_k_X12_findRing h h1)) (List.map toV [.inr (.inr a0), .inl a1]).toArray s 0 0 (Aof z0)) 4 [(0, .inr (.inr a0)), (1, .inl a1), (2, .inl x9), (3, .inl x10)] [] h 0 0 := by
    intro μ
    induction μ using Nat.strongRecOn with
    | ind μ ih12 =>
      intro x9 x10 hm13 f14 f15 p16
      refine g_iload_n C rfl 3 rfl dX12_findRing_4 ?_
      refine g_bipush C (by decide) dX12_findRing_5 ?_
      refine g_icmp_ge C (iw f15 (by decide) (by decide)) (iw (il 97) (by decide) (by decide)) 28 (by decide) dX12_findRing_7 (fun q17 => ?_) (fun q18 => ?_)
      · have f19 : (97 : Int) ≤ x10 ∧ x10 ≤ (97 : Int) := r_ge f15 (il 97) q17 (by decide) (by decide)
        refine g_aload_n C rfl 0 rfl dX12_findRing_28 ?_
        refine g_lconst (z := 0) C (by decide) dX12_findRing_29 ?_
        refine gp_J C fk_LandSurveyModel_512 pk_LandSurveyModel_69 rfl ta0 rfl (iw (il 0) (by decide) (by decide)) dX12_findRing_30 (fun h21 hh20 => ?_)
        have O22 := O.pJ hh20 (iw (il 0) (by decide) (by decide))
        refine g_iload_n C rfl 2 rfl dX12_findRing_33 ?_
        refine g_istore_n C [(3, .inl x9), (0, .inr (.inr a0)), (1, .inl a1), (2, .inl x9)] rfl (by decide) rfl dX12_findRing_34 ?_
        refine g_iconst C dX12_findRing_35 ?_
        refine g_istore C [(4, .inl 1), (3, .inl x9), (0, .inr (.inr a0)), (1, .inl a1), (2, .inl x9)] (by decide) rfl dX12_findRing_36 ?_
        refine GW.sub [2, 3, 4, 1, 0] rfl ?_
        -- loop at 38
        have L26 : ∀ (μ : Nat) (x23 : Int) (x24 : Int) (h25 : Hp), (mwF x24 ((dst (fN h a0) x9.toNat 97 x23.toNat : Nat) : Int)).toNat = μ → Okh h25 → Fx [2469] h21 h25 → ((0 : Int) ≤ x23 ∧ x23 ≤ (96 : Int)) → ((0 : Int) ≤ x24 ∧ x24 ≤ (1 : Int)) → (x24 = 1 → RG (fN h a0) (Iv h (Rv h a0 68)) x9.toNat x23.toNat) → GW p l e (rmm 0 0 0 0) s m (List.map toV [.inr (.inr a0), .inl a1]).toArray below meth c D cy z0 5 (MQ below (QV D cy z0 (fun h1 => Okh h1 ∧ Fx wr_k_X12_findRing h h1)) (List.map toV [.inr (.inr a0), .inl a1]).toArray s 0 0 (Aof z0)) 38 [(0, .inr (.inr a0)), (1, .inl a1), (2, .inl x9), (3, .inl x23), (4, .inl x24)] [] h25 0 0 := by
          intro μ
          induction μ using Nat.strongRecOn with
          | ind μ ih27 =>
            intro x23 x24 h25 hm28 O29 F30 f31 f32 p33
            refine g_iload C 4 rfl dX12_findRing_38 ?_
            refine g_if_eq C (iw f32 (by decide) (by decide)) 110 (by decide) dX12_findRing_40 (fun q34 => ?_) (fun q35 => ?_)
            · have f36 : (0 : Int) ≤ x24 ∧ x24 ≤ (0 : Int) := ii f32 (r_eq (il 0) q34) (by decide) (by decide)
              exact g_vret C hr ⟨O29, (((Fx.rf (wr := wr_k_X12_findRing)).pJ ta0 hh20 rfl).call F30 rfl)⟩ (by decide) (by decide) dX12_findRing_110
            · have f37 : (1 : Int) ≤ x24 ∧ x24 ≤ (1 : Int) := r_nl f32 q35
              have p38 := p33 (by omega)
              have e39 : Tg h21 a0 = 12 := ((pJT hh20).trans ta0)
              have e40 : Rv h25 a0 68 = v5 := ((fxR F30 e39 rfl).trans ((pJR hh20).trans e6))
              obtain ⟨v41, e42⟩ : ∃ z, Iv h25 v5 x23.toNat = z := ⟨_, rfl⟩
              have e43 : Tg h25 v5 = 168100 := (fxT F30 ((pJT hh20).trans t7))
              have f44 := ok_Ia O29 e43 ar_168100 rI_168100_0 e42
              have E45 : Iv h25 (Rv h25 a0 68) = Iv h (Rv h a0 68) := mAI (j := 68) O (((Fx.rf (wr := [2469]) (h := h)).pJ ta0 hh20 rfl).call F30 rfl) ta0 rE_12_68 ar_168100 rfl rfl
              have q46 : Iv h (Rv h a0 68) x23.toNat = v41 := by rw [← E45, e40]; exact e42
              have z47 : 0 ≤ Iv h (Rv h a0 68) x23.toNat := p38.1 0
              rw [q46] at z47
              have f48 : (0 : Int) ≤ v41 ∧ v41 ≤ (599 : Int) := by omega
              have e49 : Rv h25 a0 63 = v1 := ((fxR F30 e39 rfl).trans ((pJR hh20).trans e2))
              obtain ⟨v50, e51⟩ : ∃ z, Iv h25 v1 v41.toNat = z := ⟨_, rfl⟩
              have e52 : Tg h25 v1 = 163100 := (fxT F30 ((pJT hh20).trans t3))
              have f53 := ok_Ia O29 e52 ar_163100 rI_163100_0 e51
              have E54 : Iv h25 (Rv h25 a0 63) = Iv h (Rv h a0 63) := mAI (j := 63) O (((Fx.rf (wr := [2469]) (h := h)).pJ ta0 hh20 rfl).call F30 rfl) ta0 rE_12_63 ar_163100 rfl rfl
              have q55 : Iv h (Rv h a0 63) v41.toNat = v50 := by rw [← E54, e49]; exact e51
              have e56 : fN h a0 x23.toNat = v50.toNat := by show (Iv h (Rv h a0 63) (Iv h (Rv h a0 68) x23.toNat).toNat).toNat = _; rw [q46, q55]
              refine g_aload_n C rfl 0 rfl dX12_findRing_43 ?_
              refine g_dup C rfl dX12_findRing_44 ?_
              have e57 : Tg h25 a0 = 12 := (fxT F30 e39)
              obtain ⟨v58, e59⟩ : ∃ z, Jv h25 a0 69 = z := ⟨_, rfl⟩
              have f60 := inL_J O29 e59
              refine gf_J C fk_LandSurveyModel_512 rfl e57 e59 dX12_findRing_45 ?_
              refine g_aload_n C rfl 0 rfl dX12_findRing_48 ?_
              obtain ⟨v61, e62⟩ : ∃ z, Rv h25 a0 66 = z := ⟨_, rfl⟩
              have t63 := ok_R O29 e57 rE_12_66 e62
              have l64 := ok_L O29 e57 rE_12_66 e62
              refine gf_R C fk_LandSurveyModel_242 rfl e57 e62 dX12_findRing_49 ?_
              refine g_aload_n C rfl 0 rfl dX12_findRing_52 ?_
              refine gf_R C fk_LandSurveyModel_248 rfl e57 e40 dX12_findRing_53 ?_
              refine g_iload_n C rfl 3 rfl dX12_findRing_56 ?_
              have e65 : Tg h21 v5 = 168100 := ((pJT hh20).trans t7)
              have e66 : Ln h25 v5 = 97 := ((fxL F30 e65).trans ((pJL hh20).trans l8))
              refine g_iald C e43 rfl e66 (ix f31 (by decide) (by decide)) e42 dX12_findRing_57 ?_
              obtain ⟨v67, e68⟩ : ∃ z, Iv h25 v61 v41.toNat = z := ⟨_, rfl⟩
              have f69 := ok_Ia O29 t63 ar_166100 rI_166100_0 e68
              refine g_iald C t63 rfl l64 (ix f48 (by decide) (by decide)) e68 dX12_findRing_58 ?_
              refine g_if_lt C (iw f69 (by decide) (by decide)) 78 (by decide) dX12_findRing_59 (fun q70 => ?_) (fun q71 => ?_)
              · have f72 : (-1 : Int) ≤ v67 ∧ v67 ≤ (-1 : Int) := r_lt f69 (il 0) q70 (by decide) (by decide)
                refine g_lconst (z := 0) C (by decide) dX12_findRing_78 ?_
                refine g_lor C dX12_findRing_79 ?_
                have f73 : (-9223372036854775808 : Int) ≤ (lOr v58 0) ∧ (lOr v58 0) ≤ (9223372036854775807 : Int) := inL_of _
                refine gp_J C fk_LandSurveyModel_512 pk_LandSurveyModel_69 rfl e57 rfl f73 dX12_findRing_80 (fun h75 hh74 => ?_)
                have O76 := O29.pJ hh74 f73
                refine g_aload_n C rfl 0 rfl dX12_findRing_83 ?_
                have e77 : Tg h75 a0 = 12 := ((pJT hh74).trans e57)
                have e78 : Rv h75 a0 63 = v1 := ((pJR hh74).trans e49)
                refine gf_R C fk_LandSurveyModel_233 rfl e77 e78 dX12_findRing_84 ?_
                refine g_aload_n C rfl 0 rfl dX12_findRing_87 ?_
                have e79 : Rv h75 a0 68 = v5 := ((pJR hh74).trans e40)
                refine gf_R C fk_LandSurveyModel_248 rfl e77 e79 dX12_findRing_88 ?_
                refine g_iload_n C rfl 3 rfl dX12_findRing_91 ?_
                have e80 : Tg h75 v5 = 168100 := ((pJT hh74).trans e43)
                have e81 : Ln h75 v5 = 97 := ((pJL hh74).trans e66)
                have e82 : Iv h75 v5 x23.toNat = v41 := ((pJI hh74).trans e42)
                refine g_iald C e80 rfl e81 (ix f31 (by decide) (by decide)) e82 dX12_findRing_92 ?_
                have e83 : Tg h75 v1 = 163100 := ((pJT hh74).trans e52)
                have e84 : Tg h21 v1 = 163100 := ((pJT hh20).trans t3)
                have e85 : Ln h75 v1 = 600 := ((pJL hh74).trans ((fxL F30 e84).trans ((pJL hh20).trans l4)))
                have e86 : Iv h75 v1 v41.toNat = v50 := ((pJI hh74).trans e51)
                refine g_iald C e83 rfl e85 (ix f48 (by decide) (by decide)) e86 dX12_findRing_93 ?_
                refine g_istore_n C [(3, .inl v50), (0, .inr (.inr a0)), (1, .inl a1), (2, .inl x9), (4, .inl x24)] rfl (by decide) rfl dX12_findRing_94 ?_
                refine g_iload_n C rfl 0 rfl dX12_findRing_95 ?_
                refine g_iload_n C rfl 3 rfl dX12_findRing_96 ?_
                refine g_icmp_eq C (iw f53 (by decide) (by decide)) (iw f14 (by decide) (by decide)) 104 (by decide) dX12_findRing_97 (fun q87 => ?_) (fun q88 => ?_)
                · refine g_iconst C dX12_findRing_104 ?_
                  refine g_istore C [(4, .inl 0), (3, .inl v50), (0, .inr (.inr a0)), (1, .inl a1), (2, .inl x9)] (by decide) rfl dX12_findRing_105 ?_
                  refine g_goto C 38 (by decide) dX12_findRing_107 ?_
                  refine GW.sub [2, 3, 4, 1, 0] rfl ?_
                  exact ih27 _ (by rw [← hm28]; exact mwF_lt (by omega) (by omega) (Or.inl rfl)) v50 0 h75 rfl O76 (F30.pJ e57 hh74 rfl) f53 (iw (il 0) (by decide) (by decide)) (fun z => absurd z (by decide))
                · refine g_iconst C dX12_findRing_100 ?_
                  refine g_goto C 105 (by decide) dX12_findRing_101 ?_
                  refine g_istore C [(4, .inl 1), (3, .inl v50), (0, .inr (.inr a0)), (1, .inl a1), (2, .inl x9)] (by decide) rfl dX12_findRing_105 ?_
                  refine g_goto C 38 (by decide) dX12_findRing_107 ?_
                  refine GW.sub [2, 3, 4, 1, 0] rfl ?_
                  exact ih27 _ (by rw [← hm28]; have zz := dst_lt p38 (by rw [e56]; omega); rw [e56] at zz; exact mwF_lt (by omega) (by omega) (Or.inr ⟨by omega, by omega⟩)) v50 1 h75 rfl O76 (F30.pJ e57 hh74 rfl) f53 (iw (il 1) (by decide) (by decide)) (fun _ => by have z := RG.step p38 (by rw [e56]; omega); rw [e56] at z; exact z)
              · have f89 : (0 : Int) ≤ v67 ∧ v67 ≤ (39 : Int) := r_ge f69 (il 0) q71 (by decide) (by decide)
                refine g_lconst (z := 1) C (by decide) dX12_findRing_62 ?_
                refine g_aload_n C rfl 0 rfl dX12_findRing_63 ?_
                refine gf_R C fk_LandSurveyModel_242 rfl e57 e62 dX12_findRing_64 ?_
                refine g_aload_n C rfl 0 rfl dX12_findRing_67 ?_
                refine gf_R C fk_LandSurveyModel_248 rfl e57 e40 dX12_findRing_68 ?_
                refine g_iload_n C rfl 3 rfl dX12_findRing_71 ?_
                refine g_iald C e43 rfl e66 (ix f31 (by decide) (by decide)) e42 dX12_findRing_72 ?_
                refine g_iald C t63 rfl l64 (ix f48 (by decide) (by decide)) e68 dX12_findRing_73 ?_
                refine g_lshl C dX12_findRing_74 ?_
                have f90 : (-9223372036854775808 : Int) ≤ (lShl 1 v67) ∧ (lShl 1 v67) ≤ (9223372036854775807 : Int) := inL_of _
                refine g_goto C 79 (by decide) dX12_findRing_75 ?_
                refine g_lor C dX12_findRing_79 ?_
                have f91 : (-9223372036854775808 : Int) ≤ (lOr v58 (lShl 1 v67)) ∧ (lOr v58 (lShl 1 v67)) ≤ (9223372036854775807 : Int) := inL_of _
                refine gp_J C fk_LandSurveyModel_512 pk_LandSurveyModel_69 rfl e57 rfl f91 dX12_findRing_80 (fun h93 hh92 => ?_)
                have O94 := O29.pJ hh92 f91
                refine g_aload_n C rfl 0 rfl dX12_findRing_83 ?_
                have e95 : Tg h93 a0 = 12 := ((pJT hh92).trans e57)
                have e96 : Rv h93 a0 63 = v1 := ((pJR hh92).trans e49)
                refine gf_R C fk_LandSurveyModel_233 rfl e95 e96 dX12_findRing_84 ?_
                refine g_aload_n C rfl 0 rfl dX12_findRing_87 ?_
                have e97 : Rv h93 a0 68 = v5 := ((pJR hh92).trans e40)
                refine gf_R C fk_LandSurveyModel_248 rfl e95 e97 dX12_findRing_88 ?_
                refine g_iload_n C rfl 3 rfl dX12_findRing_91 ?_
                have e98 : Tg h93 v5 = 168100 := ((pJT hh92).trans e43)
                have e99 : Ln h93 v5 = 97 := ((pJL hh92).trans e66)
                have e100 : Iv h93 v5 x23.toNat = v41 := ((pJI hh92).trans e42)
                refine g_iald C e98 rfl e99 (ix f31 (by decide) (by decide)) e100 dX12_findRing_92 ?_
                have e101 : Tg h93 v1 = 163100 := ((pJT hh92).trans e52)
                have e102 : Tg h21 v1 = 163100 := ((pJT hh20).trans t3)
                have e103 : Ln h93 v1 = 600 := ((pJL hh92).trans ((fxL F30 e102).trans ((pJL hh20).trans l4)))
                have e104 : Iv h93 v1 v41.toNat = v50 := ((pJI hh92).trans e51)
                refine g_iald C e101 rfl e103 (ix f48 (by decide) (by decide)) e104 dX12_findRing_93 ?_
                refine g_istore_n C [(3, .inl v50), (0, .inr (.inr a0)), (1, .inl a1), (2, .inl x9), (4, .inl x24)] rfl (by decide) rfl dX12_findRing_94 ?_
                refine g_iload_n C rfl 0 rfl dX12_findRing_95 ?_
                refine g_iload_n C rfl 3 rfl dX12_findRing_96 ?_
                refine g_icmp_eq C (iw f53 (by decide) (by decide)) (iw f14 (by decide) (by decide)) 104 (by decide) dX12_findRing_97 (fun q105 => ?_) (fun q106 => ?_)
                · refine g_iconst C dX12_findRing_104 ?_
                  refine g_istore C [(4, .inl 0), (3, .inl v50), (0, .inr (.inr a0)), (1, .inl a1), (2, .inl x9)] (by decide) rfl dX12_findRing_105 ?_
                  refine g_goto C 38 (by decide) dX12_findRing_107 ?_
                  refine GW.sub [2, 3, 4, 1, 0] rfl ?_
                  exact ih27 _ (by rw [← hm28]; exact mwF_lt (by omega) (by omega) (Or.inl rfl)) v50 0 h93 rfl O94 (F30.pJ e57 hh92 rfl) f53 (iw (il 0) (by decide) (by decide)) (fun z => absurd z (by decide))
                · refine g_iconst C dX12_findRing_100 ?_
                  refine g_goto C 105 (by decide) dX12_findRing_101 ?_
                  refine g_istore C [(4, .inl 1), (3, .inl v50), (0, .inr (.inr a0)), (1, .inl a1), (2, .inl x9)] (by decide) rfl dX12_findRing_105 ?_
                  refine g_goto C 38 (by decide) dX12_findRing_107 ?_
                  refine GW.sub [2, 3, 4, 1, 0] rfl ?_
                  exact ih27 _ (by rw [← hm28]; have zz := dst_lt p38 (by rw [e56]; omega); rw [e56] at zz; exact mwF_lt (by omega) (by omega) (Or.inr ⟨by omega, by omega⟩)) v50 1 h93 rfl O94 (F30.pJ e57 hh92 rfl) f53 (iw (il 1) (by decide) (by decide)) (fun _ => by have z := RG.step p38 (by rw [e56]; omega); rw [e56] at z; exact z)
        exact L26 _ x9 1 h21 rfl O22 Fx.rf f14 (iw (il 1) (by decide) (by decide)) (fun _ => FRI.ring p16 (by omega))
      · have f107 : (0 : Int) ≤ x10 ∧ x10 ≤ (96 : Int) := r_lt f15 (il 97) q18 (by decide) (by decide)
        refine g_aload_n C rfl 0 rfl dX12_findRing_10 ?_
        refine gf_R C fk_LandSurveyModel_233 rfl ta0 e2 dX12_findRing_11 ?_
        refine g_aload_n C rfl 0 rfl dX12_findRing_14 ?_
        refine gf_R C fk_LandSurveyModel_248 rfl ta0 e6 dX12_findRing_15 ?_
        refine g_iload_n C rfl 2 rfl dX12_findRing_18 ?_
        obtain ⟨v108, e109⟩ : ∃ z, Iv h v5 x9.toNat = z := ⟨_, rfl⟩
        have f110 := ok_Ia O t7 ar_168100 rI_168100_0 e109
        have q111 : Iv h (Rv h a0 68) x9.toNat = v108 := by rw [e6]; exact e109
        have z112 := FRI.ix p16 (by omega)
        rw [q111] at z112
        have f113 : (0 : Int) ≤ v108 ∧ v108 ≤ (599 : Int) := by omega
        refine g_iald C t7 rfl l8 (ix f14 (by decide) (by decide)) e109 dX12_findRing_19 ?_
        obtain ⟨v114, e115⟩ : ∃ z, Iv h v1 v108.toNat = z := ⟨_, rfl⟩
        have f116 := ok_Ia O t3 ar_163100 rI_163100_0 e115
        refine g_iald C t3 rfl l4 (ix f113 (by decide) (by decide)) e115 dX12_findRing_20 ?_
        refine g_istore_n C [(2, .inl v114), (0, .inr (.inr a0)), (1, .inl a1), (3, .inl x10)] rfl (by decide) rfl dX12_findRing_21 ?_
        have f117 : (1 : Int) ≤ (x10 + 1) ∧ (x10 + 1) ≤ (97 : Int) := ia_add f107 (il 1) (by decide) (by decide)
        refine g_iinc C [(3, .inl (x10 + 1)), (2, .inl v114), (0, .inr (.inr a0)), (1, .inl a1)] 3 rfl (by decide) rfl dX12_findRing_22 ?_
        refine g_goto C 4 (by decide) dX12_findRing_25 ?_
        refine GW.sub [2, 3, 1, 0] rfl ?_
        have q118 : Iv h (Rv h a0 68) x9.toNat = v108 := by rw [e6]; exact e109
        have q119 : Iv h (Rv h a0 63) v108.toNat = v114 := by rw [e2]; exact e115
        exact ih12 _ (by omega) v114 (x10 + 1) rfl f116 (iw f117 (by decide) (by decide)) (FRI.step p16 (by omega) (by show _ = (Iv h (Rv h a0 63) (Iv h (Rv h a0 68) x9.toNat).toNat).toNat; rw [q118, q119]))
  exact L11 _ a1 0 rfl fa1 (iw (il 0) (by decide) (by decide)) (FRI.start O ta0 (by omega) (by omega) P_gi)
def wr_k_X12_goesTogether : List Nat := [2469, 33420000, 33620000]
set_option maxRecDepth 100000 in
set_option maxHeartbeats 4000000 in
theorem k_X12_goesTogether (l : Launch) (D : va_G) (cy : Nat → ClassId) (w : Nat → Nat) (z0 : Nat)  {h : Hp} {a0 : Nat}  (O : Okh h) (ta0 : Tg h a0 = 12) : MI l D cy w z0 yX12_goesTogether cX12_goesTogether 5 (some .boolean) 1 24 0 0 [.inr (.inr a0)] h (fun v h1 => Okh h1 ∧ Fx wr_k_X12_goesTogether h h1 ∧ (0 ≤ v ∧ v ≤ 1)) := by
  refine hm_go (by decide +kernel) (Nat.le_of_ble_eq_true rfl) (fun p e s m below meth c C hr hn => ?_)
  obtain ⟨v1, e2⟩ : ∃ z, Rv h a0 63 = z := ⟨_, rfl⟩
  have t3 := ok_R O ta0 rE_12_63 e2
  have l4 := ok_L O ta0 rE_12_63 e2
  obtain ⟨v5, e6⟩ : ∃ z, Rv h a0 64 = z := ⟨_, rfl⟩
  have t7 := ok_R O ta0 rE_12_64 e6
  have l8 := ok_L O ta0 rE_12_64 e6
  obtain ⟨v9, e10⟩ : ∃ z, Rv h a0 65 = z := ⟨_, rfl⟩
  have t11 := ok_R O ta0 rE_12_65 e10
  have l12 := ok_L O ta0 rE_12_65 e10
  obtain ⟨v13, e14⟩ : ∃ z, Rv h a0 67 = z := ⟨_, rfl⟩
  have t15 := ok_R O ta0 rE_12_67 e14
  have l16 := ok_L O ta0 rE_12_67 e14
  obtain ⟨v17, e18⟩ : ∃ z, Rv h a0 68 = z := ⟨_, rfl⟩
  have t19 := ok_R O ta0 rE_12_68 e18
  have l20 := ok_L O ta0 rE_12_68 e18
  refine g_iconst C dX12_goesTogether_0 ?_
  refine g_istore_n C [(1, .inl 0), (0, .inr (.inr a0))] rfl (by decide) rfl dX12_goesTogether_1 ?_
  refine GW.sub [1, 0] rfl ?_
  -- loop at 2
  have L23 : ∀ (μ : Nat) (x21 : Int) (h22 : Hp), (97 - x21).toNat = μ → Okh h22 → Fx [33420000, 33620000] h h22 → ((0 : Int) ≤ x21 ∧ x21 ≤ (97 : Int)) → GW p l e (rmm 1 24 0 0) s m (List.map toV [.inr (.inr a0)]).toArray below meth c D cy z0 5 (MQ below (QI D cy z0 (fun v h1 => Okh h1 ∧ Fx wr_k_X12_goesTogether h h1 ∧ (0 ≤ v ∧ v ≤ 1))) (List.map toV [.inr (.inr a0)]).toArray s 0 0 (Aof z0)) 2 [(0, .inr (.inr a0)), (1, .inl x21)] [] h22 0 0 := by
    intro μ
    induction μ using Nat.strongRecOn with
    | ind μ ih24 =>
      intro x21 h22 hm25 O26 F27 f28
      refine g_iload_n C rfl 1 rfl dX12_goesTogether_2 ?_
      refine g_bipush C (by decide) dX12_goesTogether_3 ?_
      refine g_icmp_ge C (iw f28 (by decide) (by decide)) (iw (il 97) (by decide) (by decide)) 28 (by decide) dX12_goesTogether_5 (fun q29 => ?_) (fun q30 => ?_)
      · have f31 : (97 : Int) ≤ x21 ∧ x21 ≤ (97 : Int) := r_ge f28 (il 97) q29 (by decide) (by decide)
        refine g_iconst C dX12_goesTogether_28 ?_
        refine g_istore_n C [(1, .inl (-1)), (0, .inr (.inr a0))] rfl (by decide) rfl dX12_goesTogether_29 ?_
        refine g_iconst C dX12_goesTogether_30 ?_
        refine g_istore_n C [(2, .inl 0), (1, .inl (-1)), (0, .inr (.inr a0))] rfl (by decide) rfl dX12_goesTogether_31 ?_
        refine GW.sub [2, 1, 0] rfl ?_
        -- loop at 32
        have L35 : ∀ (μ : Nat) (x32 : Int) (x33 : Int) (h34 : Hp), (98 - x33).toNat = μ → Okh h34 → Fx [33420000, 33620000] h22 h34 → ((-1 : Int) ≤ x32 ∧ x32 ≤ (96 : Int)) → ((0 : Int) ≤ x33 ∧ x33 ≤ (98 : Int)) → (GI (Iv h34 (Rv h34 a0 63)) (Iv h34 (Rv h34 a0 64)) (Iv h34 (Rv h34 a0 65)) (Iv h34 (Rv h34 a0 67)) (Iv h34 (Rv h34 a0 68)) (Iv h34 a0 62) (x33 - 1) (Iv h34 a0 62) x32) → (x33 = 0 ∨ 0 ≤ x32) → GW p l e (rmm 1 24 0 0) s m (List.map toV [.inr (.inr a0)]).toArray below meth c D cy z0 5 (MQ below (QI D cy z0 (fun v h1 => Okh h1 ∧ Fx wr_k_X12_goesTogether h h1 ∧ (0 ≤ v ∧ v ≤ 1))) (List.map toV [.inr (.inr a0)]).toArray s 0 0 (Aof z0)) 32 [(0, .inr (.inr a0)), (1, .inl x32), (2, .inl x33)] [] h34 0 0 := by
          intro μ
          induction μ using Nat.strongRecOn with
          | ind μ ih36 =>
            intro x32 x33 h34 hm37 O38 F39 f40 f41 p42 p43
            refine g_iload_n C rfl 2 rfl dX12_goesTogether_32 ?_
            refine g_bipush C (by decide) dX12_goesTogether_33 ?_
            refine g_icmp_ge C (iw f41 (by decide) (by decide)) (iw (il 98) (by decide) (by decide)) 136 (by decide) dX12_goesTogether_35 (fun q44 => ?_) (fun q45 => ?_)
            · have f46 : (98 : Int) ≤ x33 ∧ x33 ≤ (98 : Int) := r_ge f41 (il 98) q44 (by decide) (by decide)
              have p47 := p42
              rw [show (x33 - 1 : Int) = 97 by omega] at p47
              refine g_aload_n C rfl 0 rfl dX12_goesTogether_136 ?_
              refine g_iload_n C rfl 1 rfl dX12_goesTogether_137 ?_
              have e48 : Tg h34 a0 = 12 := (fxT F39 (fxT F27 ta0))
              refine g_callV (st := []) (gc_V C lk_LandSurveyModel_509 (k_X12_findRing l D cy w z0 O38 e48 (by omega) p47) e48 rfl rfl rfl ⟨by decide, by decide⟩ (Nat.le_of_ble_eq_true rfl) dX12_goesTogether_138 ⟨(by decide), (by decide)⟩) (fun h50 K51 => ?_)
              obtain ⟨O53, F54⟩ := K51
              refine g_iconst C dX12_goesTogether_141 ?_
              exact g_iret C hr (nar_z2 (iw (il 0) (by decide) (by decide))).1 (iw (il 0) (by decide) (by decide)) ⟨O53, ((((Fx.rf (wr := wr_k_X12_goesTogether)).call F27 rfl).call F39 rfl).call F54 rfl), (iw (il 0) (by decide) (by decide))⟩ (by decide) (by decide) dX12_goesTogether_142
            · have f55 : (0 : Int) ≤ x33 ∧ x33 ≤ (97 : Int) := r_lt f41 (il 98) q45 (by decide) (by decide)
              refine g_iconst C dX12_goesTogether_38 ?_
              refine g_istore_n C [(1, .inl (-1)), (0, .inr (.inr a0)), (2, .inl x33)] rfl (by decide) rfl dX12_goesTogether_39 ?_
              refine g_iconst C dX12_goesTogether_40 ?_
              refine g_istore_n C [(3, .inl 0), (1, .inl (-1)), (0, .inr (.inr a0)), (2, .inl x33)] rfl (by decide) rfl dX12_goesTogether_41 ?_
              refine GW.sub [2, 1, 3, 0] rfl ?_
              -- loop at 42
              have L59 : ∀ (μ : Nat) (x56 : Int) (x57 : Int) (h58 : Hp), (600 - x57).toNat = μ → Okh h58 → Fx [33420000, 33620000] h34 h58 → ((-1 : Int) ≤ x56 ∧ x56 ≤ (96 : Int)) → ((0 : Int) ≤ x57 ∧ x57 ≤ (600 : Int)) → (GI (Iv h58 (Rv h58 a0 63)) (Iv h58 (Rv h58 a0 64)) (Iv h58 (Rv h58 a0 65)) (Iv h58 (Rv h58 a0 67)) (Iv h58 (Rv h58 a0 68)) (Iv h58 a0 62) x33 x57 x56) → (x57 ≤ Iv h58 a0 62) → GW p l e (rmm 1 24 0 0) s m (List.map toV [.inr (.inr a0)]).toArray below meth c D cy z0 5 (MQ below (QI D cy z0 (fun v h1 => Okh h1 ∧ Fx wr_k_X12_goesTogether h h1 ∧ (0 ≤ v ∧ v ≤ 1))) (List.map toV [.inr (.inr a0)]).toArray s 0 0 (Aof z0)) 42 [(0, .inr (.inr a0)), (1, .inl x56), (2, .inl x33), (3, .inl x57)] [] h58 0 0 := by
                intro μ
                induction μ using Nat.strongRecOn with
                | ind μ ih60 =>
                  intro x56 x57 h58 hm61 O62 F63 f64 f65 p66 p67
                  have hgk := p67
                  obtain ⟨v68, e69⟩ : ∃ z, Iv h58 a0 62 = z := ⟨_, rfl⟩
                  have e70 : Tg h58 a0 = 12 := (fxT F63 (fxT F39 (fxT F27 ta0)))
                  have f71 := ok_I O62 e70 rI_12_62 e69
                  rw [e69] at hgk
                  refine g_iload_n C rfl 3 rfl dX12_goesTogether_42 ?_
                  refine g_aload_n C rfl 0 rfl dX12_goesTogether_43 ?_
                  refine gf_I C fk_LandSurveyModel_480 rfl e70 e69 dX12_goesTogether_44 ?_
                  refine g_icmp_ge C (iw f65 (by decide) (by decide)) (iw f71 (by decide) (by decide)) 124 (by decide) dX12_goesTogether_47 (fun q72 => ?_) (fun q73 => ?_)
                  · have p74 := p66
                    rw [show x57 = Iv h58 a0 62 by rw [e69]; omega] at p74
                    refine g_iload_n C rfl 1 rfl dX12_goesTogether_124 ?_
                    refine g_if_ge C (iw f64 (by decide) (by decide)) 130 (by decide) dX12_goesTogether_125 (fun q75 => ?_) (fun q76 => ?_)
                    · have f77 : (0 : Int) ≤ x56 ∧ x56 ≤ (96 : Int) := r_ge f64 (il 0) q75 (by decide) (by decide)
                      have f78 : (1 : Int) ≤ (x33 + 1) ∧ (x33 + 1) ≤ (98 : Int) := ia_add f55 (il 1) (by decide) (by decide)
                      refine g_iinc C [(2, .inl (x33 + 1)), (0, .inr (.inr a0)), (1, .inl x56), (3, .inl x57)] 2 rfl (by decide) rfl dX12_goesTogether_130 ?_
                      refine g_goto C 32 (by decide) dX12_goesTogether_133 ?_
                      refine GW.sub [1, 2, 0] rfl ?_
                      exact ih36 _ (by omega) x56 (x33 + 1) h58 rfl O62 (F39.call F63 rfl) (iw f77 (by decide) (by decide)) (iw f78 (by decide) (by decide)) (by rw [show (x33 + 1 - 1 : Int) = x33 by omega]; exact p74) (by omega)
                    · have f79 : (-1 : Int) ≤ x56 ∧ x56 ≤ (-1 : Int) := r_lt f64 (il 0) q76 (by decide) (by decide)
                      refine g_iconst C dX12_goesTogether_128 ?_
                      exact g_iret C hr (nar_z2 (iw (il 1) (by decide) (by decide))).1 (iw (il 1) (by decide) (by decide)) ⟨O62, ((((Fx.rf (wr := wr_k_X12_goesTogether)).call F27 rfl).call F39 rfl).call F63 rfl), (iw (il 1) (by decide) (by decide))⟩ (by decide) (by decide) dX12_goesTogether_129
                  · have f80 : (0 : Int) ≤ x57 ∧ x57 ≤ (599 : Int) := r_lt f65 f71 q73 (by decide) (by decide)
                    have f81 : (1 : Int) ≤ v68 ∧ v68 ≤ (600 : Int) := r_gt f71 f65 q73 (by decide) (by decide)
                    refine g_aload_n C rfl 0 rfl dX12_goesTogether_50 ?_
                    have e82 : Tg h22 a0 = 12 := (fxT F27 ta0)
                    have e83 : Tg h34 a0 = 12 := (fxT F39 e82)
                    have e84 : Rv h58 a0 67 = v13 := ((fxR F63 e83 rfl).trans ((fxR F39 e82 rfl).trans ((fxR F27 ta0 rfl).trans e14)))
                    refine gf_R C fk_LandSurveyModel_245 rfl e70 e84 dX12_goesTogether_51 ?_
                    refine g_aload_n C rfl 0 rfl dX12_goesTogether_54 ?_
                    have e85 : Rv h58 a0 63 = v1 := ((fxR F63 e83 rfl).trans ((fxR F39 e82 rfl).trans ((fxR F27 ta0 rfl).trans e2)))
                    refine gf_R C fk_LandSurveyModel_233 rfl e70 e85 dX12_goesTogether_55 ?_
                    refine g_iload_n C rfl 3 rfl dX12_goesTogether_58 ?_
                    have e86 : Tg h58 v1 = 163100 := (fxT F63 (fxT F39 (fxT F27 t3)))
                    have e87 : Tg h22 v1 = 163100 := (fxT F27 t3)
                    have e88 : Tg h34 v1 = 163100 := (fxT F39 e87)
                    have e89 : Ln h58 v1 = 600 := ((fxL F63 e88).trans ((fxL F39 e87).trans ((fxL F27 t3).trans l4)))
                    obtain ⟨v90, e91⟩ : ∃ z, Iv h58 v1 x57.toNat = z := ⟨_, rfl⟩
                    have f92 := ok_Ia O62 e86 ar_163100 rI_163100_0 e91
                    refine g_iald C e86 rfl e89 (ix f80 (by decide) (by decide)) e91 dX12_goesTogether_59 ?_
                    have e93 : Tg h58 v13 = 167100 := (fxT F63 (fxT F39 (fxT F27 t15)))
                    have e94 : Tg h22 v13 = 167100 := (fxT F27 t15)
                    have e95 : Tg h34 v13 = 167100 := (fxT F39 e94)
                    have e96 : Ln h58 v13 = 97 := ((fxL F63 e95).trans ((fxL F39 e94).trans ((fxL F27 t15).trans l16)))
                    obtain ⟨v97, e98⟩ : ∃ z, Iv h58 v13 v90.toNat = z := ⟨_, rfl⟩
                    have f99 := ok_Ia O62 e93 ar_167100 rI_167100_0 e98
                    refine g_iald C e93 rfl e96 (ix f92 (by decide) (by decide)) e98 dX12_goesTogether_60 ?_
                    refine g_aload_n C rfl 0 rfl dX12_goesTogether_61 ?_
                    have e100 : Rv h58 a0 65 = v9 := ((fxR F63 e83 rfl).trans ((fxR F39 e82 rfl).trans ((fxR F27 ta0 rfl).trans e10)))
                    refine gf_R C fk_LandSurveyModel_239 rfl e70 e100 dX12_goesTogether_62 ?_
                    refine g_iload_n C rfl 3 rfl dX12_goesTogether_65 ?_
                    have e101 : Tg h58 v9 = 165100 := (fxT F63 (fxT F39 (fxT F27 t11)))
                    have e102 : Tg h22 v9 = 165100 := (fxT F27 t11)
                    have e103 : Tg h34 v9 = 165100 := (fxT F39 e102)
                    have e104 : Ln h58 v9 = 600 := ((fxL F63 e103).trans ((fxL F39 e102).trans ((fxL F27 t11).trans l12)))
                    obtain ⟨v105, e106⟩ : ∃ z, Iv h58 v9 x57.toNat = z := ⟨_, rfl⟩
                    have f107 := ok_Ia O62 e101 ar_165100 rI_165100_0 e106
                    refine g_iald C e101 rfl e104 (ix f80 (by decide) (by decide)) e106 dX12_goesTogether_66 ?_
                    have f108 : (-2147483648 : Int) ≤ (w32 (v97 + v105)) ∧ (w32 (v97 + v105)) ≤ (2147483647 : Int) := w32_inR _
                    refine g_iaddW C dX12_goesTogether_67 ?_
                    refine g_istore C [(4, .inl (w32 (v97 + v105))), (0, .inr (.inr a0)), (1, .inl x56), (2, .inl x33), (3, .inl x57)] (by decide) rfl dX12_goesTogether_68 ?_
                    refine g_iload C 0 rfl dX12_goesTogether_70 ?_
                    refine g_aload_n C rfl 1 rfl dX12_goesTogether_72 ?_
                    refine gf_R C fk_LandSurveyModel_245 rfl e70 e84 dX12_goesTogether_73 ?_
                    refine g_aload_n C rfl 1 rfl dX12_goesTogether_76 ?_
                    have e109 : Rv h58 a0 64 = v5 := ((fxR F63 e83 rfl).trans ((fxR F39 e82 rfl).trans ((fxR F27 ta0 rfl).trans e6)))
                    refine gf_R C fk_LandSurveyModel_236 rfl e70 e109 dX12_goesTogether_77 ?_
                    refine g_iload_n C rfl 4 rfl dX12_goesTogether_80 ?_
                    have e110 : Tg h58 v5 = 164100 := (fxT F63 (fxT F39 (fxT F27 t7)))
                    have e111 : Tg h22 v5 = 164100 := (fxT F27 t7)
                    have e112 : Tg h34 v5 = 164100 := (fxT F39 e111)
                    have e113 : Ln h58 v5 = 600 := ((fxL F63 e112).trans ((fxL F39 e111).trans ((fxL F27 t7).trans l8)))
                    obtain ⟨v114, e115⟩ : ∃ z, Iv h58 v5 x57.toNat = z := ⟨_, rfl⟩
                    have f116 := ok_Ia O62 e110 ar_164100 rI_164100_0 e115
                    refine g_iald C e110 rfl e113 (ix f80 (by decide) (by decide)) e115 dX12_goesTogether_81 ?_
                    obtain ⟨v117, e118⟩ : ∃ z, Iv h58 v13 v114.toNat = z := ⟨_, rfl⟩
                    have f119 := ok_Ia O62 e93 ar_167100 rI_167100_0 e118
                    refine g_iald C e93 rfl e96 (ix f116 (by decide) (by decide)) e118 dX12_goesTogether_82 ?_
                    refine g_icmp_ge C f108 f119 118 (by decide) dX12_goesTogether_83 (fun q120 => ?_) (fun q121 => ?_)
                    · have f122 : (1 : Int) ≤ (x57 + 1) ∧ (x57 + 1) ≤ (600 : Int) := ia_add f80 (il 1) (by decide) (by decide)
                      refine g_iinc C [(3, .inl (x57 + 1)), (4, .inl (w32 (v97 + v105))), (0, .inr (.inr a0)), (1, .inl x56), (2, .inl x33)] 4 rfl (by decide) rfl dX12_goesTogether_118 ?_
                      refine g_goto C 42 (by decide) dX12_goesTogether_121 ?_
                      refine GW.sub [2, 3, 4, 0] rfl ?_
                      have e123 : Rv h58 a0 68 = v17 := ((fxR F63 e83 rfl).trans ((fxR F39 e82 rfl).trans ((fxR F27 ta0 rfl).trans e18)))
                      exact ih60 _ (by omega) x56 (x57 + 1) h58 rfl O62 F63 f64 (iw f122 (by decide) (by decide)) (GI.no p66 (by omega) (by rw [e109, e115, e84, e118, e85, e91, e98, e100, e106]; omega)) (by rw [e69]; omega)
                    · have f124 : (-2147483648 : Int) ≤ (w32 (v97 + v105)) ∧ (w32 (v97 + v105)) ≤ (2147483646 : Int) := r_lt f108 f119 q121 (by decide) (by decide)
                      have f125 : (-2147483647 : Int) ≤ v117 ∧ v117 ≤ (2147483647 : Int) := r_gt f119 f108 q121 (by decide) (by decide)
                      refine g_aload_n C rfl 1 rfl dX12_goesTogether_86 ?_
                      refine gf_R C fk_LandSurveyModel_245 rfl e70 e84 dX12_goesTogether_87 ?_
                      refine g_aload_n C rfl 1 rfl dX12_goesTogether_90 ?_
                      refine gf_R C fk_LandSurveyModel_236 rfl e70 e109 dX12_goesTogether_91 ?_
                      refine g_iload_n C rfl 4 rfl dX12_goesTogether_94 ?_
                      refine g_iald C e110 rfl e113 (ix f80 (by decide) (by decide)) e115 dX12_goesTogether_95 ?_
                      refine g_iload C 0 rfl dX12_goesTogether_96 ?_
                      refine g_iast C e93 rfl e96 (ix f116 (by decide) (by decide)) (iw f124 (by decide) (by decide)) dX12_goesTogether_98 (fun h127 hh126 => ?_)
                      have O128 := O62.pIa e93 ar_167100 hh126 rI_167100_0 (iw f124 (by decide) (by decide)) nofun
                      refine g_aload_n C rfl 1 rfl dX12_goesTogether_99 ?_
                      have e129 : Tg h127 a0 = 12 := ((pIT hh126).trans e70)
                      have e130 : Rv h127 a0 68 = v17 := ((pIR hh126).trans ((fxR F63 e83 rfl).trans ((fxR F39 e82 rfl).trans ((fxR F27 ta0 rfl).trans e18))))
                      refine gf_R C fk_LandSurveyModel_248 rfl e129 e130 dX12_goesTogether_100 ?_
                      refine g_aload_n C rfl 1 rfl dX12_goesTogether_103 ?_
                      have e131 : Rv h127 a0 64 = v5 := ((pIR hh126).trans e109)
                      refine gf_R C fk_LandSurveyModel_236 rfl e129 e131 dX12_goesTogether_104 ?_
                      refine g_iload_n C rfl 4 rfl dX12_goesTogether_107 ?_
                      have e132 : Tg h127 v5 = 164100 := ((pIT hh126).trans e110)
                      have e133 : Ln h127 v5 = 600 := ((pIL hh126).trans e113)
                      have e134 : Iv h127 v5 x57.toNat = v114 := ((pI_n hh126 (ne_tag e110 e93 (by decide))).trans e115)
                      refine g_iald C e132 rfl e133 (ix f80 (by decide) (by decide)) e134 dX12_goesTogether_108 ?_
                      refine g_iload_n C rfl 4 rfl dX12_goesTogether_109 ?_
                      have e135 : Tg h127 v17 = 168100 := ((pIT hh126).trans (fxT F63 (fxT F39 (fxT F27 t19))))
                      have e136 : Tg h22 v17 = 168100 := (fxT F27 t19)
                      have e137 : Tg h34 v17 = 168100 := (fxT F39 e136)
                      have e138 : Ln h127 v17 = 97 := ((pIL hh126).trans ((fxL F63 e137).trans ((fxL F39 e136).trans ((fxL F27 t19).trans l20))))
                      refine g_iast C e135 rfl e138 (ix f116 (by decide) (by decide)) (iw f80 (by decide) (by decide)) dX12_goesTogether_110 (fun h140 hh139 => ?_)
                      have O141 := O128.pIa e135 ar_168100 hh139 rI_168100_0 (iw f80 (by decide) (by decide)) nofun
                      refine g_aload_n C rfl 1 rfl dX12_goesTogether_111 ?_
                      have e142 : Tg h140 a0 = 12 := ((pIT hh139).trans e129)
                      have e143 : Rv h140 a0 64 = v5 := ((pIR hh139).trans e131)
                      refine gf_R C fk_LandSurveyModel_236 rfl e142 e143 dX12_goesTogether_112 ?_
                      refine g_iload_n C rfl 4 rfl dX12_goesTogether_115 ?_
                      have e144 : Tg h140 v5 = 164100 := ((pIT hh139).trans e132)
                      have e145 : Ln h140 v5 = 600 := ((pIL hh139).trans e133)
                      have e146 : Iv h140 v5 x57.toNat = v114 := ((pI_n hh139 (ne_tag e132 e135 (by decide))).trans e134)
                      refine g_iald C e144 rfl e145 (ix f80 (by decide) (by decide)) e146 dX12_goesTogether_116 ?_
                      refine g_istore_n C [(1, .inl v114), (4, .inl (w32 (v97 + v105))), (0, .inr (.inr a0)), (2, .inl x33), (3, .inl x57)] rfl (by decide) rfl dX12_goesTogether_117 ?_
                      have f147 : (1 : Int) ≤ (x57 + 1) ∧ (x57 + 1) ≤ (600 : Int) := ia_add f80 (il 1) (by decide) (by decide)
                      refine g_iinc C [(3, .inl (x57 + 1)), (1, .inl v114), (4, .inl (w32 (v97 + v105))), (0, .inr (.inr a0)), (2, .inl x33)] 4 rfl (by decide) rfl dX12_goesTogether_118 ?_
                      refine g_goto C 42 (by decide) dX12_goesTogether_121 ?_
                      refine GW.sub [3, 1, 4, 0] rfl ?_
                      have e148 : Rv h58 a0 68 = v17 := ((fxR F63 e83 rfl).trans ((fxR F39 e82 rfl).trans ((fxR F27 ta0 rfl).trans e18)))
                      have E149 : Iv h140 (Rv h140 a0 63) = Iv h58 (Rv h58 a0 63) := mAI (j := 63) O62 (((Fx.rf (wr := [33420000, 33620000]) (h := h58)).pIa e93 ar_167100 hh126 rfl).pIa e135 ar_168100 hh139 rfl) e70 rE_12_63 ar_163100 rfl rfl
                      have E150 : Iv h140 (Rv h140 a0 64) = Iv h58 (Rv h58 a0 64) := mAI (j := 64) O62 (((Fx.rf (wr := [33420000, 33620000]) (h := h58)).pIa e93 ar_167100 hh126 rfl).pIa e135 ar_168100 hh139 rfl) e70 rE_12_64 ar_164100 rfl rfl
                      have E151 : Iv h140 (Rv h140 a0 65) = Iv h58 (Rv h58 a0 65) := mAI (j := 65) O62 (((Fx.rf (wr := [33420000, 33620000]) (h := h58)).pIa e93 ar_167100 hh126 rfl).pIa e135 ar_168100 hh139 rfl) e70 rE_12_65 ar_165100 rfl rfl
                      have e152 : Iv h140 a0 62 = v68 := ((pI_n hh139 (ne_tag e129 e135 (by decide))).trans ((pI_n hh126 (ne_tag e70 e93 (by decide))).trans e69))
                      have e153 : Rv h140 a0 67 = v13 := ((pIR hh139).trans ((pIR hh126).trans e84))
                      have e154 : Rv h140 a0 68 = v17 := ((pIR hh139).trans e130)
                      have e155 : Tg h127 v13 = 167100 := ((pIT hh126).trans e93)
                      have e156 : ((v114.toNat : Nat) : Int) = v114 := by omega
                      have p157 := GI.yes (rc2 := Iv h140 (Rv h140 a0 67)) (bk2 := Iv h140 (Rv h140 a0 68)) (v := v114.toNat) (r := (w32 (v97 + v105))) p66 (by omega) (by omega) (by rw [e69]; omega) (fun e => ok_Ia O62 (ok_R O62 e70 rE_12_63 rfl) ar_163100 rI_163100_0 (j := e) rfl) (by rw [e109, e115]) (by omega) (by rw [e84, e85, e91, e98, e100, e106]) (by rw [e84, e118]; omega) (by rw [e153, pI_n hh139 (ne_tag e155 e135 (by decide))]; exact pI_e hh126) (fun z hz => by rw [e153, e84, pI_n hh139 (ne_tag e155 e135 (by decide))]; exact pI_j hh126 hz) (by rw [e154]; exact pI_e hh139) (fun z hz => by rw [e154, e148, pI_j hh139 hz]; exact pI_n hh126 (Ne.symm (ne_tag e155 e135 (by decide))))
                      exact ih60 _ (by omega) v114 (x57 + 1) h140 rfl O141 ((F63.pIa e93 ar_167100 hh126 rfl).pIa e135 ar_168100 hh139 rfl) (iw f116 (by decide) (by decide)) (iw f147 (by decide) (by decide)) (by rw [E149, E150, E151, show Iv h140 a0 62 = Iv h58 a0 62 from e152.trans e69.symm]; rw [e156] at p157; exact p157) (by rw [e152]; omega)
              obtain ⟨v158, e159⟩ : ∃ z, Iv h34 a0 62 = z := ⟨_, rfl⟩
              have e160 : Tg h34 a0 = 12 := (fxT F39 (fxT F27 ta0))
              have f161 := ok_I O38 e160 rI_12_62 e159
              exact L59 _ (-1) 0 h34 rfl O38 Fx.rf (iw (il (-1)) (by decide) (by decide)) (iw (il 0) (by decide) (by decide)) (GI.next p42) (by rw [e159]; omega)
        exact L35 _ (-1) 0 h22 rfl O26 Fx.rf (iw (il (-1)) (by decide) (by decide)) (iw (il 0) (by decide) (by decide)) GI.start (by omega)
      · have f162 : (0 : Int) ≤ x21 ∧ x21 ≤ (96 : Int) := r_lt f28 (il 97) q30 (by decide) (by decide)
        refine g_aload_n C rfl 0 rfl dX12_goesTogether_8 ?_
        have e163 : Tg h22 a0 = 12 := (fxT F27 ta0)
        have e164 : Rv h22 a0 67 = v13 := ((fxR F27 ta0 rfl).trans e14)
        refine gf_R C fk_LandSurveyModel_245 rfl e163 e164 dX12_goesTogether_9 ?_
        refine g_iload_n C rfl 1 rfl dX12_goesTogether_12 ?_
        refine g_iconst C dX12_goesTogether_13 ?_
        have e165 : Tg h22 v13 = 167100 := (fxT F27 t15)
        have e166 : Ln h22 v13 = 97 := ((fxL F27 t15).trans l16)
        refine g_iast C e165 rfl e166 (ix f162 (by decide) (by decide)) (iw (il 0) (by decide) (by decide)) dX12_goesTogether_14 (fun h168 hh167 => ?_)
        have O169 := O26.pIa e165 ar_167100 hh167 rI_167100_0 (iw (il 0) (by decide) (by decide)) nofun
        refine g_aload_n C rfl 0 rfl dX12_goesTogether_15 ?_
        have e170 : Tg h168 a0 = 12 := ((pIT hh167).trans e163)
        have e171 : Rv h168 a0 68 = v17 := ((pIR hh167).trans ((fxR F27 ta0 rfl).trans e18))
        refine gf_R C fk_LandSurveyModel_248 rfl e170 e171 dX12_goesTogether_16 ?_
        refine g_iload_n C rfl 1 rfl dX12_goesTogether_19 ?_
        refine g_iconst C dX12_goesTogether_20 ?_
        have e172 : Tg h168 v17 = 168100 := ((pIT hh167).trans (fxT F27 t19))
        have e173 : Ln h168 v17 = 97 := ((pIL hh167).trans ((fxL F27 t19).trans l20))
        refine g_iast C e172 rfl e173 (ix f162 (by decide) (by decide)) (iw (il (-1)) (by decide) (by decide)) dX12_goesTogether_21 (fun h175 hh174 => ?_)
        have O176 := O169.pIa e172 ar_168100 hh174 rI_168100_0 (iw (il (-1)) (by decide) (by decide)) nofun
        have f177 : (1 : Int) ≤ (x21 + 1) ∧ (x21 + 1) ≤ (97 : Int) := ia_add f162 (il 1) (by decide) (by decide)
        refine g_iinc C [(1, .inl (x21 + 1)), (0, .inr (.inr a0))] 1 rfl (by decide) rfl dX12_goesTogether_22 ?_
        refine g_goto C 2 (by decide) dX12_goesTogether_25 ?_
        refine GW.sub [1, 0] rfl ?_
        exact ih24 _ (by omega) (x21 + 1) h175 rfl O176 ((F27.pIa e165 ar_167100 hh167 rfl).pIa e172 ar_168100 hh174 rfl) (iw f177 (by decide) (by decide))
  exact L23 _ 0 h rfl O Fx.rf (iw (il 0) (by decide) (by decide))
def wr_k_X12_costOf : List Nat := []
set_option maxRecDepth 100000 in
set_option maxHeartbeats 4000000 in
theorem k_X12_costOf (l : Launch) (D : va_G) (cy : Nat → ClassId) (w : Nat → Nat) (z0 : Nat)  {h : Hp} {a0 : Nat} {a1 : Int}  (O : Okh h) (ta0 : Tg h a0 = 12) (fa1 : (-9223372036854775808) ≤ a1 ∧ a1 ≤ 9223372036854775807) : MI l D cy w z0 yX12_costOf cX12_costOf 5 (some .int) 1 22 0 0 [.inr (.inr a0), .inr (.inl a1)] h (fun v h1 => Okh h1 ∧ Fx wr_k_X12_costOf h h1 ∧ ((-2147483648) ≤ v ∧ v ≤ 2147483647)) := by
  refine hm_go (by decide +kernel) (Nat.le_of_ble_eq_true rfl) (fun p e s m below meth c C hr hn => ?_)
  refine g_iconst C dX12_costOf_0 ?_
  refine g_istore_n C [(3, .inl 0), (0, .inr (.inr a0)), (1, .inr (.inl a1))] rfl (by decide) rfl dX12_costOf_1 ?_
  refine g_iconst C dX12_costOf_2 ?_
  refine g_istore C [(4, .inl 0), (3, .inl 0), (0, .inr (.inr a0)), (1, .inr (.inl a1))] (by decide) rfl dX12_costOf_3 ?_
  refine GW.sub [2, 3, 1, 0] rfl ?_
  -- loop at 5
  have L4 : ∀ (μ : Nat) (x1 : Int) (x2 : Int) (h3 : Hp), (40 - x2).toNat = μ → Okh h3 → Fx [] h h3 → ((-2147483648 : Int) ≤ x1 ∧ x1 ≤ (2147483647 : Int)) → ((0 : Int) ≤ x2 ∧ x2 ≤ (40 : Int)) → GW p l e (rmm 1 22 0 0) s m (List.map toV [.inr (.inr a0), .inr (.inl a1)]).toArray below meth c D cy z0 5 (MQ below (QI D cy z0 (fun v h1 => Okh h1 ∧ Fx wr_k_X12_costOf h h1 ∧ ((-2147483648) ≤ v ∧ v ≤ 2147483647))) (List.map toV [.inr (.inr a0), .inr (.inl a1)]).toArray s 0 0 (Aof z0)) 5 [(0, .inr (.inr a0)), (1, .inr (.inl a1)), (3, .inl x1), (4, .inl x2)] [] h3 0 0 := by
    intro μ
    induction μ using Nat.strongRecOn with
    | ind μ ih5 =>
      intro x1 x2 h3 hm6 O7 F8 f9 f10
      refine g_iload C 3 rfl dX12_costOf_5 ?_
      refine g_aload_n C rfl 0 rfl dX12_costOf_7 ?_
      have e11 : Tg h3 a0 = 12 := (fxT F8 ta0)
      obtain ⟨v12, e13⟩ : ∃ z, Iv h3 a0 40 = z := ⟨_, rfl⟩
      have f14 := ok_I O7 e11 rI_12_40 e13
      refine gf_I C fk_LandSurveyModel_423 rfl e11 e13 dX12_costOf_8 ?_
      refine g_icmp_ge C (iw f10 (by decide) (by decide)) (iw f14 (by decide) (by decide)) 43 (by decide) dX12_costOf_11 (fun q15 => ?_) (fun q16 => ?_)
      · refine g_iload_n C rfl 2 rfl dX12_costOf_43 ?_
        exact g_iret C hr rfl f9 ⟨O7, ((Fx.rf (wr := wr_k_X12_costOf)).call F8 rfl), f9⟩ (by decide) (by decide) dX12_costOf_44
      · have f17 : (0 : Int) ≤ x2 ∧ x2 ≤ (39 : Int) := r_lt f10 f14 q16 (by decide) (by decide)
        have f18 : (1 : Int) ≤ v12 ∧ v12 ≤ (40 : Int) := r_gt f14 f10 q16 (by decide) (by decide)
        refine g_iload_n C rfl 2 rfl dX12_costOf_14 ?_
        refine g_lload_n C rfl 1 rfl dX12_costOf_15 ?_
        refine g_iload C 3 rfl dX12_costOf_16 ?_
        refine g_callI (st := [.inl x1]) (gc_S C lk_LandSurveyModel_487 (k_X12_isIn l D cy w z0 O7 fa1 (iw f17 (by decide) (by decide))) rfl ⟨by decide, by decide⟩ (Nat.le_of_ble_eq_true rfl) dX12_costOf_18 ⟨(by decide), (by decide)⟩) (fun r19 h20 f22 K21 => ?_)
        obtain ⟨O23, F24, f25⟩ := K21
        refine g_if_eq C (iw f25 (by decide) (by decide)) 34 (by decide) dX12_costOf_21 (fun q26 => ?_) (fun q27 => ?_)
        · have f28 : (0 : Int) ≤ r19 ∧ r19 ≤ (0 : Int) := ii f25 (r_eq (il 0) q26) (by decide) (by decide)
          refine g_iconst C dX12_costOf_34 ?_
          have f29 : (-2147483648 : Int) ≤ (x1 + 0) ∧ (x1 + 0) ≤ (2147483647 : Int) := ia_add f9 (il 0) (by decide) (by decide)
          refine g_iadd C dX12_costOf_35 ?_
          refine g_istore_n C [(3, .inl (x1 + 0)), (0, .inr (.inr a0)), (1, .inr (.inl a1)), (4, .inl x2)] rfl (by decide) rfl dX12_costOf_36 ?_
          have f30 : (1 : Int) ≤ (x2 + 1) ∧ (x2 + 1) ≤ (40 : Int) := ia_add f17 (il 1) (by decide) (by decide)
          refine g_iinc C [(4, .inl (x2 + 1)), (3, .inl (x1 + 0)), (0, .inr (.inr a0)), (1, .inr (.inl a1))] 3 rfl (by decide) rfl dX12_costOf_37 ?_
          refine g_goto C 5 (by decide) dX12_costOf_40 ?_
          refine GW.sub [2, 3, 1, 0] rfl ?_
          exact ih5 _ (by omega) (x1 + 0) (x2 + 1) h20 rfl O23 (F8.call F24 rfl) f29 (iw f30 (by decide) (by decide))
        · have f31 : (1 : Int) ≤ r19 ∧ r19 ≤ (1 : Int) := r_nl f25 q27
          refine g_aload_n C rfl 0 rfl dX12_costOf_24 ?_
          have e32 : Tg h20 a0 = 12 := (fxT F24 e11)
          obtain ⟨v33, e34⟩ : ∃ z, Rv h20 a0 56 = z := ⟨_, rfl⟩
          have t35 := ok_R O23 e32 rE_12_56 e34
          have l36 := ok_L O23 e32 rE_12_56 e34
          refine gf_R C fk_LandSurveyModel_218 rfl e32 e34 dX12_costOf_25 ?_
          refine g_iload C 3 rfl dX12_costOf_28 ?_
          obtain ⟨v37, e38⟩ : ∃ z, Iv h20 v33 x2.toNat = z := ⟨_, rfl⟩
          have f39 := ok_Ia O23 t35 ar_156100 rI_156100_0 e38
          refine g_iald C t35 rfl l36 (ix f17 (by decide) (by decide)) e38 dX12_costOf_30 ?_
          refine g_goto C 35 (by decide) dX12_costOf_31 ?_
          have f40 : (-2147483648 : Int) ≤ (w32 (x1 + v37)) ∧ (w32 (x1 + v37)) ≤ (2147483647 : Int) := w32_inR _
          refine g_iaddW C dX12_costOf_35 ?_
          refine g_istore_n C [(3, .inl (w32 (x1 + v37))), (0, .inr (.inr a0)), (1, .inr (.inl a1)), (4, .inl x2)] rfl (by decide) rfl dX12_costOf_36 ?_
          have f41 : (1 : Int) ≤ (x2 + 1) ∧ (x2 + 1) ≤ (40 : Int) := ia_add f17 (il 1) (by decide) (by decide)
          refine g_iinc C [(4, .inl (x2 + 1)), (3, .inl (w32 (x1 + v37))), (0, .inr (.inr a0)), (1, .inr (.inl a1))] 3 rfl (by decide) rfl dX12_costOf_37 ?_
          refine g_goto C 5 (by decide) dX12_costOf_40 ?_
          refine GW.sub [2, 3, 1, 0] rfl ?_
          exact ih5 _ (by omega) (w32 (x1 + v37)) (x2 + 1) h20 rfl O23 (F8.call F24 rfl) f40 (iw f41 (by decide) (by decide))
  exact L4 _ 0 0 h rfl O Fx.rf (iw (il 0) (by decide) (by decide)) (iw (il 0) (by decide) (by decide))
def wr_k_X12_breaksCost : List Nat := []
set_option maxRecDepth 100000 in
set_option maxHeartbeats 4000000 in
theorem k_X12_breaksCost (l : Launch) (D : va_G) (cy : Nat → ClassId) (w : Nat → Nat) (z0 : Nat)  {h : Hp} {a0 : Nat} {a1 : Int}  (O : Okh h) (ta0 : Tg h a0 = 12) (fa1 : (-2147483648) ≤ a1 ∧ a1 ≤ 2147483647) : MI l D cy w z0 yX12_breaksCost cX12_breaksCost 4 (some .int) 0 0 0 0 [.inr (.inr a0), .inl a1] h (fun v h1 => Okh h1 ∧ Fx wr_k_X12_breaksCost h h1 ∧ ((-2147483648) ≤ v ∧ v ≤ 2147483647)) := by
  refine hm_go (by decide +kernel) (Nat.le_of_ble_eq_true rfl) (fun p e s m below meth c C hr hn => ?_)
  refine g_iconst C dX12_breaksCost_0 ?_
  refine g_istore_n C [(2, .inl 0), (0, .inr (.inr a0)), (1, .inl a1)] rfl (by decide) rfl dX12_breaksCost_1 ?_
  refine g_iconst C dX12_breaksCost_2 ?_
  refine g_istore_n C [(3, .inl 0), (2, .inl 0), (0, .inr (.inr a0)), (1, .inl a1)] rfl (by decide) rfl dX12_breaksCost_3 ?_
  refine GW.sub [2, 3, 1, 0] rfl ?_
  -- loop at 4
  have L3 : ∀ (μ : Nat) (x1 : Int) (x2 : Int), (4 - x2).toNat = μ → ((-2147483648 : Int) ≤ x1 ∧ x1 ≤ (2147483647 : Int)) → ((0 : Int) ≤ x2 ∧ x2 ≤ (4 : Int)) → GW p l e (rmm 0 0 0 0) s m (List.map toV [.inr (.inr a0), .inl a1]).toArray below meth c D cy z0 4 (MQ below (QI D cy z0 (fun v h1 => Okh h1 ∧ Fx wr_k_X12_breaksCost h h1 ∧ ((-2147483648) ≤ v ∧ v ≤ 2147483647))) (List.map toV [.inr (.inr a0), .inl a1]).toArray s 0 0 (Aof z0)) 4 [(0, .inr (.inr a0)), (1, .inl a1), (2, .inl x1), (3, .inl x2)] [] h 0 0 := by
    intro μ
    induction μ using Nat.strongRecOn with
    | ind μ ih4 =>
      intro x1 x2 hm5 f6 f7
      refine g_iload_n C rfl 3 rfl dX12_breaksCost_4 ?_
      refine g_aload_n C rfl 0 rfl dX12_breaksCost_5 ?_
      obtain ⟨v8, e9⟩ : ∃ z, Iv h a0 57 = z := ⟨_, rfl⟩
      have f10 := ok_I O ta0 rI_12_57 e9
      refine gf_I C fk_LandSurveyModel_477 rfl ta0 e9 dX12_breaksCost_6 ?_
      refine g_icmp_ge C (iw f7 (by decide) (by decide)) (iw f10 (by decide) (by decide)) 40 (by decide) dX12_breaksCost_9 (fun q11 => ?_) (fun q12 => ?_)
      · refine g_iload_n C rfl 2 rfl dX12_breaksCost_40 ?_
        exact g_iret C hr rfl f6 ⟨O, Fx.rf, f6⟩ (by decide) (by decide) dX12_breaksCost_41
      · have f13 : (0 : Int) ≤ x2 ∧ x2 ≤ (3 : Int) := r_lt f7 f10 q12 (by decide) (by decide)
        have f14 : (1 : Int) ≤ v8 ∧ v8 ≤ (4 : Int) := r_gt f10 f7 q12 (by decide) (by decide)
        refine g_iload_n C rfl 2 rfl dX12_breaksCost_12 ?_
        refine g_iload_n C rfl 1 rfl dX12_breaksCost_13 ?_
        refine g_iload_n C rfl 3 rfl dX12_breaksCost_14 ?_
        refine g_ishr C dX12_breaksCost_15 ?_
        have f15 : (-2147483648 : Int) ≤ (bShr a1 x2) ∧ (bShr a1 x2) ≤ (2147483647 : Int) := inR_of _
        refine g_iconst C dX12_breaksCost_16 ?_
        refine g_iand C dX12_breaksCost_17 ?_
        have f16 : (0 : Int) ≤ (bAnd (bShr a1 x2) 1) ∧ (bAnd (bShr a1 x2) 1) ≤ (1 : Int) := bAnd_1 _
        refine g_iconst C dX12_breaksCost_18 ?_
        refine g_icmp_ne C (iw f16 (by decide) (by decide)) (iw (il 1) (by decide) (by decide)) 31 (by decide) dX12_breaksCost_19 (fun q17 => ?_) (fun q18 => ?_)
        · have f19 : (0 : Int) ≤ (bAnd (bShr a1 x2) 1) ∧ (bAnd (bShr a1 x2) 1) ≤ (0 : Int) := r_nh f16 q17
          refine g_iconst C dX12_breaksCost_31 ?_
          have f20 : (-2147483648 : Int) ≤ (x1 + 0) ∧ (x1 + 0) ≤ (2147483647 : Int) := ia_add f6 (il 0) (by decide) (by decide)
          refine g_iadd C dX12_breaksCost_32 ?_
          refine g_istore_n C [(2, .inl (x1 + 0)), (0, .inr (.inr a0)), (1, .inl a1), (3, .inl x2)] rfl (by decide) rfl dX12_breaksCost_33 ?_
          have f21 : (1 : Int) ≤ (x2 + 1) ∧ (x2 + 1) ≤ (4 : Int) := ia_add f13 (il 1) (by decide) (by decide)
          refine g_iinc C [(3, .inl (x2 + 1)), (2, .inl (x1 + 0)), (0, .inr (.inr a0)), (1, .inl a1)] 3 rfl (by decide) rfl dX12_breaksCost_34 ?_
          refine g_goto C 4 (by decide) dX12_breaksCost_37 ?_
          refine GW.sub [2, 3, 1, 0] rfl ?_
          exact ih4 _ (by omega) (x1 + 0) (x2 + 1) rfl f20 (iw f21 (by decide) (by decide))
        · have f22 : (1 : Int) ≤ (bAnd (bShr a1 x2) 1) ∧ (bAnd (bShr a1 x2) 1) ≤ (1 : Int) := ii f16 (r_eq (il 1) q18) (by decide) (by decide)
          refine g_aload_n C rfl 0 rfl dX12_breaksCost_22 ?_
          obtain ⟨v23, e24⟩ : ∃ z, Rv h a0 61 = z := ⟨_, rfl⟩
          have t25 := ok_R O ta0 rE_12_61 e24
          have l26 := ok_L O ta0 rE_12_61 e24
          refine gf_R C fk_LandSurveyModel_230 rfl ta0 e24 dX12_breaksCost_23 ?_
          refine g_iload_n C rfl 3 rfl dX12_breaksCost_26 ?_
          obtain ⟨v27, e28⟩ : ∃ z, Iv h v23 x2.toNat = z := ⟨_, rfl⟩
          have f29 := ok_Ia O t25 ar_161100 rI_161100_0 e28
          refine g_iald C t25 rfl l26 (ix f13 (by decide) (by decide)) e28 dX12_breaksCost_27 ?_
          refine g_goto C 32 (by decide) dX12_breaksCost_28 ?_
          have f30 : (-2147483648 : Int) ≤ (w32 (x1 + v27)) ∧ (w32 (x1 + v27)) ≤ (2147483647 : Int) := w32_inR _
          refine g_iaddW C dX12_breaksCost_32 ?_
          refine g_istore_n C [(2, .inl (w32 (x1 + v27))), (0, .inr (.inr a0)), (1, .inl a1), (3, .inl x2)] rfl (by decide) rfl dX12_breaksCost_33 ?_
          have f31 : (1 : Int) ≤ (x2 + 1) ∧ (x2 + 1) ≤ (4 : Int) := ia_add f13 (il 1) (by decide) (by decide)
          refine g_iinc C [(3, .inl (x2 + 1)), (2, .inl (w32 (x1 + v27))), (0, .inr (.inr a0)), (1, .inl a1)] 3 rfl (by decide) rfl dX12_breaksCost_34 ?_
          refine g_goto C 4 (by decide) dX12_breaksCost_37 ?_
          refine GW.sub [2, 3, 1, 0] rfl ?_
          exact ih4 _ (by omega) (w32 (x1 + v27)) (x2 + 1) rfl f30 (iw f31 (by decide) (by decide))
  exact L3 _ 0 0 rfl (iw (il 0) (by decide) (by decide)) (iw (il 0) (by decide) (by decide))
def wr_k_X12_findWays : List Nat := [33420000]
set_option maxRecDepth 100000 in
set_option maxHeartbeats 4000000 in
theorem k_X12_findWays (l : Launch) (D : va_G) (cy : Nat → ClassId) (w : Nat → Nat) (z0 : Nat)  {h : Hp} {a0 : Nat} {a1 : Int} {a2 : Int}  (O : Okh h) (ta0 : Tg h a0 = 12) (fa1 : 0 ≤ a1 ∧ a1 ≤ 96) (fa2 : 0 ≤ a2 ∧ a2 ≤ 1) : MV l D cy w z0 yX12_findWays cX12_findWays 7 none 0 0 0 0 [.inr (.inr a0), .inl a1, .inl a2] h (fun h1 => Okh h1 ∧ Fx wr_k_X12_findWays h h1) := by
  refine hm_go (by decide +kernel) (Nat.le_of_ble_eq_true rfl) (fun p e s m below meth c C hr hn => ?_)
  refine g_iconst C dX12_findWays_0 ?_
  refine g_istore_n C [(3, .inl 0), (0, .inr (.inr a0)), (1, .inl a1), (2, .inl a2)] rfl (by decide) rfl dX12_findWays_1 ?_
  refine GW.sub [1, 2, 3, 0] rfl ?_
  -- loop at 2
  have L3 : ∀ (μ : Nat) (x1 : Int) (h2 : Hp), (97 - x1).toNat = μ → Okh h2 → Fx [33420000] h h2 → ((0 : Int) ≤ x1 ∧ x1 ≤ (97 : Int)) → GW p l e (rmm 0 0 0 0) s m (List.map toV [.inr (.inr a0), .inl a1, .inl a2]).toArray below meth c D cy z0 7 (MQ below (QV D cy z0 (fun h1 => Okh h1 ∧ Fx wr_k_X12_findWays h h1)) (List.map toV [.inr (.inr a0), .inl a1, .inl a2]).toArray s 0 0 (Aof z0)) 2 [(0, .inr (.inr a0)), (1, .inl a1), (2, .inl a2), (3, .inl x1)] [] h2 0 0 := by
    intro μ
    induction μ using Nat.strongRecOn with
    | ind μ ih4 =>
      intro x1 h2 hm5 O6 F7 f8
      refine g_iload_n C rfl 3 rfl dX12_findWays_2 ?_
      refine g_bipush C (by decide) dX12_findWays_3 ?_
      refine g_icmp_ge C (iw f8 (by decide) (by decide)) (iw (il 97) (by decide) (by decide)) 32 (by decide) dX12_findWays_5 (fun q9 => ?_) (fun q10 => ?_)
      · have f11 : (97 : Int) ≤ x1 ∧ x1 ≤ (97 : Int) := r_ge f8 (il 97) q9 (by decide) (by decide)
        refine g_iconst C dX12_findWays_32 ?_
        refine g_istore_n C [(3, .inl 1), (0, .inr (.inr a0)), (1, .inl a1), (2, .inl a2)] rfl (by decide) rfl dX12_findWays_33 ?_
        refine GW.sub [1, 2, 3, 0] rfl ?_
        -- loop at 34
        have L14 : ∀ (μ : Nat) (x12 : Int) (h13 : Hp), (mwF x12 (SW h13 a0)).toNat = μ → Okh h13 → Fx [33420000] h2 h13 → ((0 : Int) ≤ x12 ∧ x12 ≤ (1 : Int)) → GW p l e (rmm 0 0 0 0) s m (List.map toV [.inr (.inr a0), .inl a1, .inl a2]).toArray below meth c D cy z0 7 (MQ below (QV D cy z0 (fun h1 => Okh h1 ∧ Fx wr_k_X12_findWays h h1)) (List.map toV [.inr (.inr a0), .inl a1, .inl a2]).toArray s 0 0 (Aof z0)) 34 [(0, .inr (.inr a0)), (1, .inl a1), (2, .inl a2), (3, .inl x12)] [] h13 0 0 := by
          intro μ
          induction μ using Nat.strongRecOn with
          | ind μ ih15 =>
            intro x12 h13 hm16 O17 F18 f19
            refine g_iload_n C rfl 3 rfl dX12_findWays_34 ?_
            refine g_if_eq C (iw f19 (by decide) (by decide)) 169 (by decide) dX12_findWays_35 (fun q20 => ?_) (fun q21 => ?_)
            · have f22 : (0 : Int) ≤ x12 ∧ x12 ≤ (0 : Int) := ii f19 (r_eq (il 0) q20) (by decide) (by decide)
              exact g_vret C hr ⟨O17, (((Fx.rf (wr := wr_k_X12_findWays)).call F7 rfl).call F18 rfl)⟩ (by decide) (by decide) dX12_findWays_169
            · have f23 : (1 : Int) ≤ x12 ∧ x12 ≤ (1 : Int) := r_nl f19 q21
              refine g_iconst C dX12_findWays_38 ?_
              refine g_istore_n C [(3, .inl 0), (0, .inr (.inr a0)), (1, .inl a1), (2, .inl a2)] rfl (by decide) rfl dX12_findWays_39 ?_
              refine g_iconst C dX12_findWays_40 ?_
              refine g_istore C [(4, .inl 0), (3, .inl 0), (0, .inr (.inr a0)), (1, .inl a1), (2, .inl a2)] (by decide) rfl dX12_findWays_41 ?_
              refine GW.sub [2, 3, 4, 1, 0] rfl ?_
              -- loop at 43
              have L27 : ∀ (μ : Nat) (x24 : Int) (x25 : Int) (h26 : Hp), (600 - x25).toNat = μ → Okh h26 → Fx [33420000] h13 h26 → ((0 : Int) ≤ x24 ∧ x24 ≤ (1 : Int)) → ((0 : Int) ≤ x25 ∧ x25 ≤ (600 : Int)) → ((x24 = 0 ∧ SW h26 a0 = SW h13 a0) ∨ SW h26 a0 < SW h13 a0) → GW p l e (rmm 0 0 0 0) s m (List.map toV [.inr (.inr a0), .inl a1, .inl a2]).toArray below meth c D cy z0 7 (MQ below (QV D cy z0 (fun h1 => Okh h1 ∧ Fx wr_k_X12_findWays h h1)) (List.map toV [.inr (.inr a0), .inl a1, .inl a2]).toArray s 0 0 (Aof z0)) 43 [(0, .inr (.inr a0)), (1, .inl a1), (2, .inl a2), (3, .inl x24), (4, .inl x25)] [] h26 0 0 := by
                intro μ
                induction μ using Nat.strongRecOn with
                | ind μ ih28 =>
                  intro x24 x25 h26 hm29 O30 F31 f32 f33 p34
                  refine g_iload C 4 rfl dX12_findWays_43 ?_
                  refine g_aload_n C rfl 0 rfl dX12_findWays_45 ?_
                  have e35 : Tg h26 a0 = 12 := (fxT F31 (fxT F18 (fxT F7 ta0)))
                  obtain ⟨v36, e37⟩ : ∃ z, Iv h26 a0 62 = z := ⟨_, rfl⟩
                  have f38 := ok_I O30 e35 rI_12_62 e37
                  refine gf_I C fk_LandSurveyModel_480 rfl e35 e37 dX12_findWays_46 ?_
                  refine g_icmp_ge C (iw f33 (by decide) (by decide)) (iw f38 (by decide) (by decide)) 166 (by decide) dX12_findWays_49 (fun q39 => ?_) (fun q40 => ?_)
                  · refine g_goto C 34 (by decide) dX12_findWays_166 ?_
                    refine GW.sub [0, 1, 2, 3] rfl ?_
                    exact ih15 _ (by rw [← hm16]; exact mwF_lt (by omega) SW_z (by have z1 := p34; have z2 := SW_z (h := h26) (m := a0); omega)) x24 h26 rfl O30 (F18.call F31 rfl) f32
                  · have f41 : (0 : Int) ≤ x25 ∧ x25 ≤ (599 : Int) := r_lt f33 f38 q40 (by decide) (by decide)
                    have f42 : (1 : Int) ≤ v36 ∧ v36 ≤ (600 : Int) := r_gt f38 f33 q40 (by decide) (by decide)
                    refine g_iload_n C rfl 2 rfl dX12_findWays_52 ?_
                    refine g_if_eq C (iw fa2 (by decide) (by decide)) 66 (by decide) dX12_findWays_53 (fun q43 => ?_) (fun q44 => ?_)
                    · have f45 : (0 : Int) ≤ a2 ∧ a2 ≤ (0 : Int) := ii fa2 (r_eq (il 0) q43) (by decide) (by decide)
                      refine g_aload_n C rfl 0 rfl dX12_findWays_66 ?_
                      obtain ⟨v46, e47⟩ : ∃ z, Rv h26 a0 63 = z := ⟨_, rfl⟩
                      have t48 := ok_R O30 e35 rE_12_63 e47
                      have l49 := ok_L O30 e35 rE_12_63 e47
                      refine gf_R C fk_LandSurveyModel_233 rfl e35 e47 dX12_findWays_67 ?_
                      refine g_iload C 4 rfl dX12_findWays_70 ?_
                      obtain ⟨v50, e51⟩ : ∃ z, Iv h26 v46 x25.toNat = z := ⟨_, rfl⟩
                      have f52 := ok_Ia O30 t48 ar_163100 rI_163100_0 e51
                      refine g_iald C t48 rfl l49 (ix f41 (by decide) (by decide)) e51 dX12_findWays_72 ?_
                      refine g_istore C [(5, .inl v50), (0, .inr (.inr a0)), (1, .inl a1), (2, .inl a2), (3, .inl x24), (4, .inl x25)] (by decide) rfl dX12_findWays_73 ?_
                      refine g_iload_n C rfl 3 rfl dX12_findWays_75 ?_
                      refine g_if_eq C (iw f45 (by decide) (by decide)) 89 (by decide) dX12_findWays_76 (fun q53 => ?_) (fun q54 => ?_)
                      · refine g_aload_n C rfl 1 rfl dX12_findWays_89 ?_
                        obtain ⟨v55, e56⟩ : ∃ z, Rv h26 a0 64 = z := ⟨_, rfl⟩
                        have t57 := ok_R O30 e35 rE_12_64 e56
                        have l58 := ok_L O30 e35 rE_12_64 e56
                        refine gf_R C fk_LandSurveyModel_236 rfl e35 e56 dX12_findWays_90 ?_
                        refine g_iload C 5 rfl dX12_findWays_93 ?_
                        obtain ⟨v59, e60⟩ : ∃ z, Iv h26 v55 x25.toNat = z := ⟨_, rfl⟩
                        have f61 := ok_Ia O30 t57 ar_164100 rI_164100_0 e60
                        refine g_iald C t57 rfl l58 (ix f41 (by decide) (by decide)) e60 dX12_findWays_95 ?_
                        refine g_istore C [(6, .inl v59), (5, .inl v50), (0, .inr (.inr a0)), (1, .inl a1), (2, .inl a2), (3, .inl x24), (4, .inl x25)] (by decide) rfl dX12_findWays_96 ?_
                        refine g_aload_n C rfl 2 rfl dX12_findWays_98 ?_
                        obtain ⟨v62, e63⟩ : ∃ z, Rv h26 a0 67 = z := ⟨_, rfl⟩
                        have t64 := ok_R O30 e35 rE_12_67 e63
                        have l65 := ok_L O30 e35 rE_12_67 e63
                        refine gf_R C fk_LandSurveyModel_245 rfl e35 e63 dX12_findWays_99 ?_
                        refine g_iload C 1 rfl dX12_findWays_102 ?_
                        obtain ⟨v66, e67⟩ : ∃ z, Iv h26 v62 v50.toNat = z := ⟨_, rfl⟩
                        have f68 := ok_Ia O30 t64 ar_167100 rI_167100_0 e67
                        refine g_iald C t64 rfl l65 (ix f52 (by decide) (by decide)) e67 dX12_findWays_104 ?_
                        refine g_ldcw (z := 1000000000) C kw_2075 (by decide) dX12_findWays_105 ?_
                        refine g_icmp_ge C f68 (iw (il 1000000000) (by decide) (by decide)) 160 (by decide) dX12_findWays_108 (fun q69 => ?_) (fun q70 => ?_)
                        · have f71 : (1000000000 : Int) ≤ v66 ∧ v66 ≤ (2147483647 : Int) := r_ge f68 (il 1000000000) q69 (by decide) (by decide)
                          have f72 : (1 : Int) ≤ (x25 + 1) ∧ (x25 + 1) ≤ (600 : Int) := ia_add f41 (il 1) (by decide) (by decide)
                          refine g_iinc C [(4, .inl (x25 + 1)), (6, .inl v59), (5, .inl v50), (0, .inr (.inr a0)), (1, .inl a1), (2, .inl a2), (3, .inl x24)] 6 rfl (by decide) rfl dX12_findWays_160 ?_
                          refine g_goto C 43 (by decide) dX12_findWays_163 ?_
                          refine GW.sub [3, 4, 5, 6, 0] rfl ?_
                          exact ih28 _ (by omega) x24 (x25 + 1) h26 rfl O30 F31 f32 (iw f72 (by decide) (by decide)) p34
                        · have f73 : (-2147483648 : Int) ≤ v66 ∧ v66 ≤ (999999999 : Int) := r_lt f68 (il 1000000000) q70 (by decide) (by decide)
                          refine g_aload_n C rfl 2 rfl dX12_findWays_111 ?_
                          refine gf_R C fk_LandSurveyModel_245 rfl e35 e63 dX12_findWays_112 ?_
                          refine g_iload C 1 rfl dX12_findWays_115 ?_
                          refine g_iald C t64 rfl l65 (ix f52 (by decide) (by decide)) e67 dX12_findWays_117 ?_
                          refine g_aload_n C rfl 2 rfl dX12_findWays_118 ?_
                          obtain ⟨v74, e75⟩ : ∃ z, Rv h26 a0 65 = z := ⟨_, rfl⟩
                          have t76 := ok_R O30 e35 rE_12_65 e75
                          have l77 := ok_L O30 e35 rE_12_65 e75
                          refine gf_R C fk_LandSurveyModel_239 rfl e35 e75 dX12_findWays_119 ?_
                          refine g_iload C 6 rfl dX12_findWays_122 ?_
                          obtain ⟨v78, e79⟩ : ∃ z, Iv h26 v74 x25.toNat = z := ⟨_, rfl⟩
                          have f80 := ok_Ia O30 t76 ar_165100 rI_165100_0 e79
                          refine g_iald C t76 rfl l77 (ix f41 (by decide) (by decide)) e79 dX12_findWays_124 ?_
                          have f81 : (-2147483648 : Int) ≤ (w32 (v66 + v78)) ∧ (w32 (v66 + v78)) ≤ (2147483647 : Int) := w32_inR _
                          refine g_iaddW C dX12_findWays_125 ?_
                          refine g_aload_n C rfl 2 rfl dX12_findWays_126 ?_
                          refine gf_R C fk_LandSurveyModel_245 rfl e35 e63 dX12_findWays_127 ?_
                          refine g_iload C 0 rfl dX12_findWays_130 ?_
                          obtain ⟨v82, e83⟩ : ∃ z, Iv h26 v62 v59.toNat = z := ⟨_, rfl⟩
                          have f84 := ok_Ia O30 t64 ar_167100 rI_167100_0 e83
                          refine g_iald C t64 rfl l65 (ix f61 (by decide) (by decide)) e83 dX12_findWays_132 ?_
                          refine g_icmp_ge C f81 f84 160 (by decide) dX12_findWays_133 (fun q85 => ?_) (fun q86 => ?_)
                          · have f87 : (1 : Int) ≤ (x25 + 1) ∧ (x25 + 1) ≤ (600 : Int) := ia_add f41 (il 1) (by decide) (by decide)
                            refine g_iinc C [(4, .inl (x25 + 1)), (6, .inl v59), (5, .inl v50), (0, .inr (.inr a0)), (1, .inl a1), (2, .inl a2), (3, .inl x24)] 6 rfl (by decide) rfl dX12_findWays_160 ?_
                            refine g_goto C 43 (by decide) dX12_findWays_163 ?_
                            refine GW.sub [3, 4, 5, 6, 0] rfl ?_
                            exact ih28 _ (by omega) x24 (x25 + 1) h26 rfl O30 F31 f32 (iw f87 (by decide) (by decide)) p34
                          · have f88 : (-2147483648 : Int) ≤ (w32 (v66 + v78)) ∧ (w32 (v66 + v78)) ≤ (2147483646 : Int) := r_lt f81 f84 q86 (by decide) (by decide)
                            have f89 : (-2147483647 : Int) ≤ v82 ∧ v82 ≤ (2147483647 : Int) := r_gt f84 f81 q86 (by decide) (by decide)
                            refine g_aload_n C rfl 2 rfl dX12_findWays_136 ?_
                            refine gf_R C fk_LandSurveyModel_245 rfl e35 e63 dX12_findWays_137 ?_
                            refine g_iload C 0 rfl dX12_findWays_140 ?_
                            refine g_aload_n C rfl 2 rfl dX12_findWays_142 ?_
                            refine gf_R C fk_LandSurveyModel_245 rfl e35 e63 dX12_findWays_143 ?_
                            refine g_iload C 1 rfl dX12_findWays_146 ?_
                            refine g_iald C t64 rfl l65 (ix f52 (by decide) (by decide)) e67 dX12_findWays_148 ?_
                            refine g_aload_n C rfl 2 rfl dX12_findWays_149 ?_
                            refine gf_R C fk_LandSurveyModel_239 rfl e35 e75 dX12_findWays_150 ?_
                            refine g_iload C 6 rfl dX12_findWays_153 ?_
                            refine g_iald C t76 rfl l77 (ix f41 (by decide) (by decide)) e79 dX12_findWays_155 ?_
                            refine g_iaddW C dX12_findWays_156 ?_
                            refine g_iast C t64 rfl l65 (ix f61 (by decide) (by decide)) (iw f88 (by decide) (by decide)) dX12_findWays_157 (fun h91 hh90 => ?_)
                            have O92 := O30.pIa t64 ar_167100 hh90 rI_167100_0 (iw f88 (by decide) (by decide)) nofun
                            refine g_iconst C dX12_findWays_158 ?_
                            refine g_istore_n C [(3, .inl 1), (6, .inl v59), (5, .inl v50), (0, .inr (.inr a0)), (1, .inl a1), (2, .inl a2), (4, .inl x25)] rfl (by decide) rfl dX12_findWays_159 ?_
                            have f93 : (1 : Int) ≤ (x25 + 1) ∧ (x25 + 1) ≤ (600 : Int) := ia_add f41 (il 1) (by decide) (by decide)
                            refine g_iinc C [(4, .inl (x25 + 1)), (3, .inl 1), (6, .inl v59), (5, .inl v50), (0, .inr (.inr a0)), (1, .inl a1), (2, .inl a2)] 6 rfl (by decide) rfl dX12_findWays_160 ?_
                            refine g_goto C 43 (by decide) dX12_findWays_163 ?_
                            refine GW.sub [4, 5, 6, 1, 0] rfl ?_
                            have z94 := SW_lt e63 hh90 (by omega) e83 (by omega) (by omega)
                            exact ih28 _ (by omega) 1 (x25 + 1) h91 rfl O92 (F31.pIa t64 ar_167100 hh90 rfl) (iw (il 1) (by decide) (by decide)) (iw f93 (by decide) (by decide)) (Or.inr (by omega))
                      · exact (no_ne f45 (il 0) q54 (by decide)).elim
                    · have f95 : (1 : Int) ≤ a2 ∧ a2 ≤ (1 : Int) := r_nl fa2 q44
                      refine g_aload_n C rfl 0 rfl dX12_findWays_56 ?_
                      obtain ⟨v96, e97⟩ : ∃ z, Rv h26 a0 64 = z := ⟨_, rfl⟩
                      have t98 := ok_R O30 e35 rE_12_64 e97
                      have l99 := ok_L O30 e35 rE_12_64 e97
                      refine gf_R C fk_LandSurveyModel_236 rfl e35 e97 dX12_findWays_57 ?_
                      refine g_iload C 4 rfl dX12_findWays_60 ?_
                      obtain ⟨v100, e101⟩ : ∃ z, Iv h26 v96 x25.toNat = z := ⟨_, rfl⟩
                      have f102 := ok_Ia O30 t98 ar_164100 rI_164100_0 e101
                      refine g_iald C t98 rfl l99 (ix f41 (by decide) (by decide)) e101 dX12_findWays_62 ?_
                      refine g_goto C 73 (by decide) dX12_findWays_63 ?_
                      refine g_istore C [(5, .inl v100), (0, .inr (.inr a0)), (1, .inl a1), (2, .inl a2), (3, .inl x24), (4, .inl x25)] (by decide) rfl dX12_findWays_73 ?_
                      refine g_iload_n C rfl 3 rfl dX12_findWays_75 ?_
                      refine g_if_eq C (iw f95 (by decide) (by decide)) 89 (by decide) dX12_findWays_76 (fun q103 => ?_) (fun q104 => ?_)
                      · exact (no_eq f95 (il 0) q103 (by decide)).elim
                      · refine g_aload_n C rfl 1 rfl dX12_findWays_79 ?_
                        obtain ⟨v105, e106⟩ : ∃ z, Rv h26 a0 63 = z := ⟨_, rfl⟩
                        have t107 := ok_R O30 e35 rE_12_63 e106
                        have l108 := ok_L O30 e35 rE_12_63 e106
                        refine gf_R C fk_LandSurveyModel_233 rfl e35 e106 dX12_findWays_80 ?_
                        refine g_iload C 5 rfl dX12_findWays_83 ?_
                        obtain ⟨v109, e110⟩ : ∃ z, Iv h26 v105 x25.toNat = z := ⟨_, rfl⟩
                        have f111 := ok_Ia O30 t107 ar_163100 rI_163100_0 e110
                        refine g_iald C t107 rfl l108 (ix f41 (by decide) (by decide)) e110 dX12_findWays_85 ?_
                        refine g_goto C 96 (by decide) dX12_findWays_86 ?_
                        refine g_istore C [(6, .inl v109), (5, .inl v100), (0, .inr (.inr a0)), (1, .inl a1), (2, .inl a2), (3, .inl x24), (4, .inl x25)] (by decide) rfl dX12_findWays_96 ?_
                        refine g_aload_n C rfl 2 rfl dX12_findWays_98 ?_
                        obtain ⟨v112, e113⟩ : ∃ z, Rv h26 a0 67 = z := ⟨_, rfl⟩
                        have t114 := ok_R O30 e35 rE_12_67 e113
                        have l115 := ok_L O30 e35 rE_12_67 e113
                        refine gf_R C fk_LandSurveyModel_245 rfl e35 e113 dX12_findWays_99 ?_
                        refine g_iload C 1 rfl dX12_findWays_102 ?_
                        obtain ⟨v116, e117⟩ : ∃ z, Iv h26 v112 v100.toNat = z := ⟨_, rfl⟩
                        have f118 := ok_Ia O30 t114 ar_167100 rI_167100_0 e117
                        refine g_iald C t114 rfl l115 (ix f102 (by decide) (by decide)) e117 dX12_findWays_104 ?_
                        refine g_ldcw (z := 1000000000) C kw_2075 (by decide) dX12_findWays_105 ?_
                        refine g_icmp_ge C f118 (iw (il 1000000000) (by decide) (by decide)) 160 (by decide) dX12_findWays_108 (fun q119 => ?_) (fun q120 => ?_)
                        · have f121 : (1000000000 : Int) ≤ v116 ∧ v116 ≤ (2147483647 : Int) := r_ge f118 (il 1000000000) q119 (by decide) (by decide)
                          have f122 : (1 : Int) ≤ (x25 + 1) ∧ (x25 + 1) ≤ (600 : Int) := ia_add f41 (il 1) (by decide) (by decide)
                          refine g_iinc C [(4, .inl (x25 + 1)), (6, .inl v109), (5, .inl v100), (0, .inr (.inr a0)), (1, .inl a1), (2, .inl a2), (3, .inl x24)] 6 rfl (by decide) rfl dX12_findWays_160 ?_
                          refine g_goto C 43 (by decide) dX12_findWays_163 ?_
                          refine GW.sub [3, 4, 5, 6, 0] rfl ?_
                          exact ih28 _ (by omega) x24 (x25 + 1) h26 rfl O30 F31 f32 (iw f122 (by decide) (by decide)) p34
                        · have f123 : (-2147483648 : Int) ≤ v116 ∧ v116 ≤ (999999999 : Int) := r_lt f118 (il 1000000000) q120 (by decide) (by decide)
                          refine g_aload_n C rfl 2 rfl dX12_findWays_111 ?_
                          refine gf_R C fk_LandSurveyModel_245 rfl e35 e113 dX12_findWays_112 ?_
                          refine g_iload C 1 rfl dX12_findWays_115 ?_
                          refine g_iald C t114 rfl l115 (ix f102 (by decide) (by decide)) e117 dX12_findWays_117 ?_
                          refine g_aload_n C rfl 2 rfl dX12_findWays_118 ?_
                          obtain ⟨v124, e125⟩ : ∃ z, Rv h26 a0 65 = z := ⟨_, rfl⟩
                          have t126 := ok_R O30 e35 rE_12_65 e125
                          have l127 := ok_L O30 e35 rE_12_65 e125
                          refine gf_R C fk_LandSurveyModel_239 rfl e35 e125 dX12_findWays_119 ?_
                          refine g_iload C 6 rfl dX12_findWays_122 ?_
                          obtain ⟨v128, e129⟩ : ∃ z, Iv h26 v124 x25.toNat = z := ⟨_, rfl⟩
                          have f130 := ok_Ia O30 t126 ar_165100 rI_165100_0 e129
                          refine g_iald C t126 rfl l127 (ix f41 (by decide) (by decide)) e129 dX12_findWays_124 ?_
                          have f131 : (-2147483648 : Int) ≤ (w32 (v116 + v128)) ∧ (w32 (v116 + v128)) ≤ (2147483647 : Int) := w32_inR _
                          refine g_iaddW C dX12_findWays_125 ?_
                          refine g_aload_n C rfl 2 rfl dX12_findWays_126 ?_
                          refine gf_R C fk_LandSurveyModel_245 rfl e35 e113 dX12_findWays_127 ?_
                          refine g_iload C 0 rfl dX12_findWays_130 ?_
                          obtain ⟨v132, e133⟩ : ∃ z, Iv h26 v112 v109.toNat = z := ⟨_, rfl⟩
                          have f134 := ok_Ia O30 t114 ar_167100 rI_167100_0 e133
                          refine g_iald C t114 rfl l115 (ix f111 (by decide) (by decide)) e133 dX12_findWays_132 ?_
                          refine g_icmp_ge C f131 f134 160 (by decide) dX12_findWays_133 (fun q135 => ?_) (fun q136 => ?_)
                          · have f137 : (1 : Int) ≤ (x25 + 1) ∧ (x25 + 1) ≤ (600 : Int) := ia_add f41 (il 1) (by decide) (by decide)
                            refine g_iinc C [(4, .inl (x25 + 1)), (6, .inl v109), (5, .inl v100), (0, .inr (.inr a0)), (1, .inl a1), (2, .inl a2), (3, .inl x24)] 6 rfl (by decide) rfl dX12_findWays_160 ?_
                            refine g_goto C 43 (by decide) dX12_findWays_163 ?_
                            refine GW.sub [3, 4, 5, 6, 0] rfl ?_
                            exact ih28 _ (by omega) x24 (x25 + 1) h26 rfl O30 F31 f32 (iw f137 (by decide) (by decide)) p34
                          · have f138 : (-2147483648 : Int) ≤ (w32 (v116 + v128)) ∧ (w32 (v116 + v128)) ≤ (2147483646 : Int) := r_lt f131 f134 q136 (by decide) (by decide)
                            have f139 : (-2147483647 : Int) ≤ v132 ∧ v132 ≤ (2147483647 : Int) := r_gt f134 f131 q136 (by decide) (by decide)
                            refine g_aload_n C rfl 2 rfl dX12_findWays_136 ?_
                            refine gf_R C fk_LandSurveyModel_245 rfl e35 e113 dX12_findWays_137 ?_
                            refine g_iload C 0 rfl dX12_findWays_140 ?_
                            refine g_aload_n C rfl 2 rfl dX12_findWays_142 ?_
                            refine gf_R C fk_LandSurveyModel_245 rfl e35 e113 dX12_findWays_143 ?_
                            refine g_iload C 1 rfl dX12_findWays_146 ?_
                            refine g_iald C t114 rfl l115 (ix f102 (by decide) (by decide)) e117 dX12_findWays_148 ?_
                            refine g_aload_n C rfl 2 rfl dX12_findWays_149 ?_
                            refine gf_R C fk_LandSurveyModel_239 rfl e35 e125 dX12_findWays_150 ?_
                            refine g_iload C 6 rfl dX12_findWays_153 ?_
                            refine g_iald C t126 rfl l127 (ix f41 (by decide) (by decide)) e129 dX12_findWays_155 ?_
                            refine g_iaddW C dX12_findWays_156 ?_
                            refine g_iast C t114 rfl l115 (ix f111 (by decide) (by decide)) (iw f138 (by decide) (by decide)) dX12_findWays_157 (fun h141 hh140 => ?_)
                            have O142 := O30.pIa t114 ar_167100 hh140 rI_167100_0 (iw f138 (by decide) (by decide)) nofun
                            refine g_iconst C dX12_findWays_158 ?_
                            refine g_istore_n C [(3, .inl 1), (6, .inl v109), (5, .inl v100), (0, .inr (.inr a0)), (1, .inl a1), (2, .inl a2), (4, .inl x25)] rfl (by decide) rfl dX12_findWays_159 ?_
                            have f143 : (1 : Int) ≤ (x25 + 1) ∧ (x25 + 1) ≤ (600 : Int) := ia_add f41 (il 1) (by decide) (by decide)
                            refine g_iinc C [(4, .inl (x25 + 1)), (3, .inl 1), (6, .inl v109), (5, .inl v100), (0, .inr (.inr a0)), (1, .inl a1), (2, .inl a2)] 6 rfl (by decide) rfl dX12_findWays_160 ?_
                            refine g_goto C 43 (by decide) dX12_findWays_163 ?_
                            refine GW.sub [4, 5, 6, 1, 0] rfl ?_
                            have z144 := SW_lt e113 hh140 (by omega) e133 (by omega) (by omega)
                            exact ih28 _ (by omega) 1 (x25 + 1) h141 rfl O142 (F31.pIa t114 ar_167100 hh140 rfl) (iw (il 1) (by decide) (by decide)) (iw f143 (by decide) (by decide)) (Or.inr (by omega))
              exact L27 _ 0 0 h13 rfl O17 Fx.rf (iw (il 0) (by decide) (by decide)) (iw (il 0) (by decide) (by decide)) (Or.inl ⟨rfl, rfl⟩)
        exact L14 _ 1 h2 rfl O6 Fx.rf (iw (il 1) (by decide) (by decide))
      · have f145 : (0 : Int) ≤ x1 ∧ x1 ≤ (96 : Int) := r_lt f8 (il 97) q10 (by decide) (by decide)
        refine g_aload_n C rfl 0 rfl dX12_findWays_8 ?_
        have e146 : Tg h2 a0 = 12 := (fxT F7 ta0)
        obtain ⟨v147, e148⟩ : ∃ z, Rv h2 a0 67 = z := ⟨_, rfl⟩
        have t149 := ok_R O6 e146 rE_12_67 e148
        have l150 := ok_L O6 e146 rE_12_67 e148
        refine gf_R C fk_LandSurveyModel_245 rfl e146 e148 dX12_findWays_9 ?_
        refine g_iload_n C rfl 3 rfl dX12_findWays_12 ?_
        refine g_iload_n C rfl 3 rfl dX12_findWays_13 ?_
        refine g_iload_n C rfl 1 rfl dX12_findWays_14 ?_
        refine g_icmp_ne C (iw f145 (by decide) (by decide)) (iw fa1 (by decide) (by decide)) 22 (by decide) dX12_findWays_15 (fun q151 => ?_) (fun q152 => ?_)
        · refine g_ldcw (z := 1000000000) C kw_2075 (by decide) dX12_findWays_22 ?_
          refine g_iast C t149 rfl l150 (ix f145 (by decide) (by decide)) (iw (il 1000000000) (by decide) (by decide)) dX12_findWays_25 (fun h154 hh153 => ?_)
          have O155 := O6.pIa t149 ar_167100 hh153 rI_167100_0 (iw (il 1000000000) (by decide) (by decide)) nofun
          have f156 : (1 : Int) ≤ (x1 + 1) ∧ (x1 + 1) ≤ (97 : Int) := ia_add f145 (il 1) (by decide) (by decide)
          refine g_iinc C [(3, .inl (x1 + 1)), (0, .inr (.inr a0)), (1, .inl a1), (2, .inl a2)] 3 rfl (by decide) rfl dX12_findWays_26 ?_
          refine g_goto C 2 (by decide) dX12_findWays_29 ?_
          refine GW.sub [1, 2, 3, 0] rfl ?_
          exact ih4 _ (by omega) (x1 + 1) h154 rfl O155 (F7.pIa t149 ar_167100 hh153 rfl) (iw f156 (by decide) (by decide))
        · refine g_iconst C dX12_findWays_18 ?_
          refine g_goto C 25 (by decide) dX12_findWays_19 ?_
          refine g_iast C t149 rfl l150 (ix f145 (by decide) (by decide)) (iw (il 0) (by decide) (by decide)) dX12_findWays_25 (fun h158 hh157 => ?_)
          have O159 := O6.pIa t149 ar_167100 hh157 rI_167100_0 (iw (il 0) (by decide) (by decide)) nofun
          have f160 : (1 : Int) ≤ (x1 + 1) ∧ (x1 + 1) ≤ (97 : Int) := ia_add f145 (il 1) (by decide) (by decide)
          refine g_iinc C [(3, .inl (x1 + 1)), (0, .inr (.inr a0)), (1, .inl a1), (2, .inl a2)] 3 rfl (by decide) rfl dX12_findWays_26 ?_
          refine g_goto C 2 (by decide) dX12_findWays_29 ?_
          refine GW.sub [1, 2, 3, 0] rfl ?_
          exact ih4 _ (by omega) (x1 + 1) h158 rfl O159 (F7.pIa t149 ar_167100 hh157 rfl) (iw f160 (by decide) (by decide))
  exact L3 _ 0 h rfl O Fx.rf (iw (il 0) (by decide) (by decide))
def wr_k_seeks_3 : List Nat := [2462, 2469, 32620000, 32820000, 33020000, 33220000, 33420000, 33620000, 34020200, 34220000, 34420400]
set_option maxRecDepth 100000 in
set_option maxHeartbeats 4000000 in
theorem k_seeks_3 (l : Launch) (D : va_G) (cy : Nat → ClassId) (w : Nat → Nat) (z0 : Nat)  {h : Hp} {a0 : Nat} {a1 : Int} {a2 : Int} {a3 : Int}  (O : Okh h) (ta0 : Tg h a0 = 12) (fa1 : 0 ≤ a1 ∧ a1 ≤ 15) (fa2 : (-9223372036854775808) ≤ a2 ∧ a2 ≤ 9223372036854775807) (fa3 : 3 ≤ a3 ∧ a3 ≤ 3) : MV l D cy w z0 yX12_seeks cX12_seeks 9 none 6 145 0 0 [.inr (.inr a0), .inl a1, .inr (.inl a2), .inl a3] h (fun h1 => Okh h1 ∧ Fx wr_k_seeks_3 h h1 ∧ (IG h h1 a0 a1)) := by
  refine hm_go (by decide +kernel) (Nat.le_of_ble_eq_true rfl) (fun p e s m below meth c C hr hn => ?_)
  refine g_aload_n C rfl 0 rfl dX12_seeks_0 ?_
  refine g_iload_n C rfl 1 rfl dX12_seeks_1 ?_
  refine g_callI (st := []) (gc_V C lk_LandSurveyModel_516 (k_X12_breaksCost l D cy w z0 O ta0 (iw fa1 (by decide) (by decide))) ta0 rfl rfl rfl ⟨by decide, by decide⟩ (Nat.le_of_ble_eq_true rfl) dX12_seeks_2 ⟨(by decide), (by decide)⟩) (fun r1 h2 f4 K3 => ?_)
  obtain ⟨O5, F6, f7⟩ := K3
  refine g_aload_n C rfl 0 rfl dX12_seeks_5 ?_
  refine g_lload_n C rfl 2 rfl dX12_seeks_6 ?_
  have e8 : Tg h2 a0 = 12 := (fxT F6 ta0)
  refine g_callI (st := [.inl r1]) (gc_V C lk_LandSurveyModel_519 (k_X12_costOf l D cy w z0 O5 e8 fa2) e8 rfl rfl rfl ⟨by decide, by decide⟩ (Nat.le_of_ble_eq_true rfl) dX12_seeks_7 ⟨(by decide), (by decide)⟩) (fun r9 h10 f12 K11 => ?_)
  obtain ⟨O13, F14, f15⟩ := K11
  have f16 : (-2147483648 : Int) ≤ (w32 (r1 + r9)) ∧ (w32 (r1 + r9)) ≤ (2147483647 : Int) := w32_inR _
  refine g_iaddW C dX12_seeks_10 ?_
  refine g_istore C [(5, .inl (w32 (r1 + r9))), (0, .inr (.inr a0)), (1, .inl a1), (2, .inr (.inl a2)), (4, .inl a3)] (by decide) rfl dX12_seeks_11 ?_
  refine g_aload_n C rfl 1 rfl dX12_seeks_13 ?_
  have e17 : Tg h10 a0 = 12 := (fxT F14 e8)
  obtain ⟨v18, e19⟩ : ∃ z, Rv h10 a0 70 = z := ⟨_, rfl⟩
  have t20 := ok_R O13 e17 rE_12_70 e19
  have l21 := ok_L O13 e17 rE_12_70 e19
  refine gf_R C fk_LandSurveyModel_251 rfl e17 e19 dX12_seeks_14 ?_
  refine g_iload_n C rfl 2 rfl dX12_seeks_17 ?_
  obtain ⟨v22, e23⟩ : ∃ z, Iv h10 v18 a1.toNat = z := ⟨_, rfl⟩
  have f24 := ok_Ia O13 t20 ar_170101 rI_170101_0 e23
  refine g_zald C t20 rfl l21 (ix fa1 (by decide) (by decide)) e23 dX12_seeks_18 ?_
  refine g_if_eq C (iw f24 (by decide) (by decide)) 56 (by decide) dX12_seeks_19 (fun q25 => ?_) (fun q26 => ?_)
  · have f27 : (0 : Int) ≤ v22 ∧ v22 ≤ (0 : Int) := ii f24 (r_eq (il 0) q25) (by decide) (by decide)
    refine g_aload_n C rfl 1 rfl dX12_seeks_56 ?_
    refine g_iload_n C rfl 2 rfl dX12_seeks_57 ?_
    refine g_lload_n C rfl 3 rfl dX12_seeks_58 ?_
    refine g_iconst C dX12_seeks_59 ?_
    refine g_callV (st := []) (gc_V C lk_LandSurveyModel_523 (k_X12_findBounds l D cy w z0 O13 e17 fa1 fa2 (iw (il 1) (by decide) (by decide))) e17 rfl rfl rfl ⟨by decide, by decide⟩ (Nat.le_of_ble_eq_true rfl) dX12_seeks_60 ⟨(by decide), (by decide)⟩) (fun h29 K30 => ?_)
    obtain ⟨O32, F33⟩ := K30
    refine g_aload_n C rfl 1 rfl dX12_seeks_63 ?_
    have e34 : Tg h29 a0 = 12 := (fxT F33 e17)
    refine g_callI (st := []) (gc_V C lk_LandSurveyModel_527 (k_X12_goesTogether l D cy w z0 O32 e34) e34 rfl rfl rfl ⟨by decide, by decide⟩ (Nat.le_of_ble_eq_true rfl) dX12_seeks_64 ⟨(by decide), (by decide)⟩) (fun r35 h36 f38 K37 => ?_)
    obtain ⟨O39, F40, f41⟩ := K37
    refine g_if_eq C (iw f41 (by decide) (by decide)) 93 (by decide) dX12_seeks_67 (fun q42 => ?_) (fun q43 => ?_)
    · have f44 : (0 : Int) ≤ r35 ∧ r35 ≤ (0 : Int) := ii f41 (r_eq (il 0) q42) (by decide) (by decide)
      refine g_aload_n C rfl 1 rfl dX12_seeks_93 ?_
      have e45 : Tg h36 a0 = 12 := (fxT F40 e34)
      obtain ⟨v46, e47⟩ : ∃ z, Jv h36 a0 69 = z := ⟨_, rfl⟩
      have f48 := inL_J O39 e47
      refine gf_J C fk_LandSurveyModel_512 rfl e45 e47 dX12_seeks_94 ?_
      refine g_lstore C [(6, .inr (.inl v46)), (5, .inl (w32 (r1 + r9))), (0, .inr (.inr a0)), (1, .inl a1), (2, .inr (.inl a2)), (4, .inl a3)] (by decide) rfl dX12_seeks_97 ?_
      refine g_iconst C dX12_seeks_99 ?_
      refine g_istore C [(8, .inl 0), (6, .inr (.inl v46)), (5, .inl (w32 (r1 + r9))), (0, .inr (.inr a0)), (1, .inl a1), (2, .inr (.inl a2)), (4, .inl a3)] (by decide) rfl dX12_seeks_100 ?_
      refine GW.sub [3, 4, 5, 6, 2, 1, 0] rfl ?_
      -- loop at 102
      have L51 : ∀ (μ : Nat) (x49 : Int) (h50 : Hp), (40 - x49).toNat = μ → Okh h50 → Fx [2462, 2469, 32620000, 32820000, 33020000, 33220000, 33420000, 33620000, 34020200, 34220000, 34420400] h36 h50 → ((0 : Int) ≤ x49 ∧ x49 ≤ (40 : Int)) → (IG h h50 a0 a1) → GW p l e (rmm 6 145 0 0) s m (List.map toV [.inr (.inr a0), .inl a1, .inr (.inl a2), .inl a3]).toArray below meth c D cy z0 9 (MQ below (QV D cy z0 (fun h1 => Okh h1 ∧ Fx wr_k_seeks_3 h h1 ∧ (IG h h1 a0 a1))) (List.map toV [.inr (.inr a0), .inl a1, .inr (.inl a2), .inl a3]).toArray s 0 0 (Aof z0)) 102 [(0, .inr (.inr a0)), (1, .inl a1), (2, .inr (.inl a2)), (4, .inl a3), (5, .inl (w32 (r1 + r9))), (6, .inr (.inl v46)), (8, .inl x49)] [] h50 0 0 := by
        intro μ
        induction μ using Nat.strongRecOn with
        | ind μ ih52 =>
          intro x49 h50 hm53 O54 F55 f56 p57
          refine g_iload C 6 rfl dX12_seeks_102 ?_
          refine g_aload_n C rfl 0 rfl dX12_seeks_104 ?_
          have e58 : Tg h50 a0 = 12 := (fxT F55 e45)
          obtain ⟨v59, e60⟩ : ∃ z, Iv h50 a0 40 = z := ⟨_, rfl⟩
          have f61 := ok_I O54 e58 rI_12_40 e60
          refine gf_I C fk_LandSurveyModel_423 rfl e58 e60 dX12_seeks_105 ?_
          refine g_icmp_ge C (iw f56 (by decide) (by decide)) (iw f61 (by decide) (by decide)) 148 (by decide) dX12_seeks_108 (fun q62 => ?_) (fun q63 => ?_)
          · exact g_vret C hr ⟨O54, ((((((Fx.rf (wr := wr_k_seeks_3)).call F6 rfl).call F14 rfl).call F33 rfl).call F40 rfl).call F55 rfl), p57⟩ (by decide) (by decide) dX12_seeks_148
          · have f64 : (0 : Int) ≤ x49 ∧ x49 ≤ (39 : Int) := r_lt f56 f61 q63 (by decide) (by decide)
            have f65 : (1 : Int) ≤ v59 ∧ v59 ≤ (40 : Int) := r_gt f61 f56 q63 (by decide) (by decide)
            refine g_iload C 3 rfl dX12_seeks_111 ?_
            refine g_iconst C dX12_seeks_113 ?_
            refine g_icmp_ge C (iw fa3 (by decide) (by decide)) (iw (il 3) (by decide) (by decide)) 148 (by decide) dX12_seeks_114 (fun q66 => ?_) (fun q67 => ?_)
            · exact g_vret C hr ⟨O54, ((((((Fx.rf (wr := wr_k_seeks_3)).call F6 rfl).call F14 rfl).call F33 rfl).call F40 rfl).call F55 rfl), p57⟩ (by decide) (by decide) dX12_seeks_148
            · exact (no_lt fa3 (il 3) q67 (by decide)).elim
      have p68 := (IG.trans (IG.trans (IG.trans (IG.trans (IG.rf (h := h) (m := a0) (s := a1)) (IG_fx O F6 ta0 rfl)) (IG_fx O5 F14 e8 rfl)) (IG_fx O13 F33 e17 rfl)) (IG_fx O32 F40 e34 rfl))
      exact L51 _ 0 h36 rfl O39 Fx.rf (iw (il 0) (by decide) (by decide)) p68
    · have f69 : (1 : Int) ≤ r35 ∧ r35 ≤ (1 : Int) := r_nl f41 q43
      refine g_aload_n C rfl 1 rfl dX12_seeks_70 ?_
      have e70 : Tg h36 a0 = 12 := (fxT F40 e34)
      have e71 : Rv h36 a0 70 = v18 := ((fxR F40 e34 rfl).trans ((fxR F33 e17 rfl).trans e19))
      refine gf_R C fk_LandSurveyModel_251 rfl e70 e71 dX12_seeks_71 ?_
      refine g_iload_n C rfl 2 rfl dX12_seeks_74 ?_
      refine g_iconst C dX12_seeks_75 ?_
      have e72 : Tg h36 v18 = 170101 := (fxT F40 (fxT F33 t20))
      have e73 : Tg h29 v18 = 170101 := (fxT F33 t20)
      have e74 : Ln h36 v18 = 16 := ((fxL F40 e73).trans ((fxL F33 t20).trans l21))
      refine g_zast C e72 rfl e74 (ix fa1 (by decide) (by decide)) (iw (il 1) (by decide) (by decide)) dX12_seeks_76 (fun h76 hh75 => ?_)
      have O77 := O39.pIa e72 ar_170101 hh75 rI_170101_0 (iw (il 1) (by decide) (by decide)) nofun
      refine g_aload_n C rfl 1 rfl dX12_seeks_77 ?_
      have e78 : Tg h76 a0 = 12 := ((pIT hh75).trans e70)
      obtain ⟨v79, e80⟩ : ∃ z, Rv h76 a0 71 = z := ⟨_, rfl⟩
      have t81 := ok_R O77 e78 rE_12_71 e80
      have l82 := ok_L O77 e78 rE_12_71 e80
      refine gf_R C fk_LandSurveyModel_254 rfl e78 e80 dX12_seeks_78 ?_
      refine g_iload_n C rfl 2 rfl dX12_seeks_81 ?_
      refine g_iload C 0 rfl dX12_seeks_82 ?_
      refine g_iast C t81 rfl l82 (ix fa1 (by decide) (by decide)) f16 dX12_seeks_84 (fun h84 hh83 => ?_)
      have O85 := O77.pIa t81 ar_171100 hh83 rI_171100_0 f16 nofun
      refine g_aload_n C rfl 1 rfl dX12_seeks_85 ?_
      have e86 : Tg h84 a0 = 12 := ((pIT hh83).trans e78)
      obtain ⟨v87, e88⟩ : ∃ z, Rv h84 a0 72 = z := ⟨_, rfl⟩
      have t89 := ok_R O85 e86 rE_12_72 e88
      have l90 := ok_L O85 e86 rE_12_72 e88
      refine gf_R C fk_LandSurveyModel_257 rfl e86 e88 dX12_seeks_86 ?_
      refine g_iload_n C rfl 2 rfl dX12_seeks_89 ?_
      refine g_lload_n C rfl 3 rfl dX12_seeks_90 ?_
      refine g_last C t89 rfl l90 (ix fa1 (by decide) (by decide)) fa2 dX12_seeks_91 (fun h92 hh91 => ?_)
      have O93 := O85.pJ hh91 fa2
      have p94 := (IG.trans (IG.trans (IG.trans (IG.trans (IG.trans (IG.trans (IG.trans (IG.rf (h := h) (m := a0) (s := a1)) (IG_fx O F6 ta0 rfl)) (IG_fx O5 F14 e8 rfl)) (IG_fx O13 F33 e17 rfl)) (IG_fx O32 F40 e34 rfl)) (IG_w hh75 (by omega))) (IG_fx O77 ((Fx.rf (wr := [34220000]) (h := h76)).pIa t81 ar_171100 hh83 rfl) e78 rfl)) (IG_fx O85 ((Fx.rf (wr := [34420400]) (h := h84)).pJa t89 ar_172102 hh91 rfl) e86 rfl))
      exact g_vret C hr ⟨O93, ((((((((Fx.rf (wr := wr_k_seeks_3)).call F6 rfl).call F14 rfl).call F33 rfl).call F40 rfl).pIa e72 ar_170101 hh75 rfl).pIa t81 ar_171100 hh83 rfl).pJa t89 ar_172102 hh91 rfl), p94⟩ (by decide) (by decide) dX12_seeks_92
  · have f95 : (1 : Int) ≤ v22 ∧ v22 ≤ (1 : Int) := r_nl f24 q26
    refine g_iload C 0 rfl dX12_seeks_22 ?_
    refine g_aload_n C rfl 1 rfl dX12_seeks_24 ?_
    obtain ⟨v96, e97⟩ : ∃ z, Rv h10 a0 71 = z := ⟨_, rfl⟩
    have t98 := ok_R O13 e17 rE_12_71 e97
    have l99 := ok_L O13 e17 rE_12_71 e97
    refine gf_R C fk_LandSurveyModel_254 rfl e17 e97 dX12_seeks_25 ?_
    refine g_iload_n C rfl 2 rfl dX12_seeks_28 ?_
    obtain ⟨v100, e101⟩ : ∃ z, Iv h10 v96 a1.toNat = z := ⟨_, rfl⟩
    have f102 := ok_Ia O13 t98 ar_171100 rI_171100_0 e101
    refine g_iald C t98 rfl l99 (ix fa1 (by decide) (by decide)) e101 dX12_seeks_29 ?_
    refine g_icmp_gt C f16 f102 55 (by decide) dX12_seeks_30 (fun q103 => ?_) (fun q104 => ?_)
    · have f105 : (-2147483648 : Int) ≤ v100 ∧ v100 ≤ (2147483646 : Int) := r_lt f102 f16 q103 (by decide) (by decide)
      have f106 : (-2147483647 : Int) ≤ (w32 (r1 + r9)) ∧ (w32 (r1 + r9)) ≤ (2147483647 : Int) := r_gt f16 f102 q103 (by decide) (by decide)
      have p107 := (IG.trans (IG.trans (IG.rf (h := h) (m := a0) (s := a1)) (IG_fx O F6 ta0 rfl)) (IG_fx O5 F14 e8 rfl))
      exact g_vret C hr ⟨O13, (((Fx.rf (wr := wr_k_seeks_3)).call F6 rfl).call F14 rfl), p107⟩ (by decide) (by decide) dX12_seeks_55
    · refine g_iload C 0 rfl dX12_seeks_33 ?_
      refine g_aload_n C rfl 1 rfl dX12_seeks_35 ?_
      refine gf_R C fk_LandSurveyModel_254 rfl e17 e97 dX12_seeks_36 ?_
      refine g_iload_n C rfl 2 rfl dX12_seeks_39 ?_
      refine g_iald C t98 rfl l99 (ix fa1 (by decide) (by decide)) e101 dX12_seeks_40 ?_
      refine g_icmp_ne C f16 f102 56 (by decide) dX12_seeks_41 (fun q108 => ?_) (fun q109 => ?_)
      · refine g_aload_n C rfl 1 rfl dX12_seeks_56 ?_
        refine g_iload_n C rfl 2 rfl dX12_seeks_57 ?_
        refine g_lload_n C rfl 3 rfl dX12_seeks_58 ?_
        refine g_iconst C dX12_seeks_59 ?_
        refine g_callV (st := []) (gc_V C lk_LandSurveyModel_523 (k_X12_findBounds l D cy w z0 O13 e17 fa1 fa2 (iw (il 1) (by decide) (by decide))) e17 rfl rfl rfl ⟨by decide, by decide⟩ (Nat.le_of_ble_eq_true rfl) dX12_seeks_60 ⟨(by decide), (by decide)⟩) (fun h111 K112 => ?_)
        obtain ⟨O114, F115⟩ := K112
        refine g_aload_n C rfl 1 rfl dX12_seeks_63 ?_
        have e116 : Tg h111 a0 = 12 := (fxT F115 e17)
        refine g_callI (st := []) (gc_V C lk_LandSurveyModel_527 (k_X12_goesTogether l D cy w z0 O114 e116) e116 rfl rfl rfl ⟨by decide, by decide⟩ (Nat.le_of_ble_eq_true rfl) dX12_seeks_64 ⟨(by decide), (by decide)⟩) (fun r117 h118 f120 K119 => ?_)
        obtain ⟨O121, F122, f123⟩ := K119
        refine g_if_eq C (iw f123 (by decide) (by decide)) 93 (by decide) dX12_seeks_67 (fun q124 => ?_) (fun q125 => ?_)
        · have f126 : (0 : Int) ≤ r117 ∧ r117 ≤ (0 : Int) := ii f123 (r_eq (il 0) q124) (by decide) (by decide)
          refine g_aload_n C rfl 1 rfl dX12_seeks_93 ?_
          have e127 : Tg h118 a0 = 12 := (fxT F122 e116)
          obtain ⟨v128, e129⟩ : ∃ z, Jv h118 a0 69 = z := ⟨_, rfl⟩
          have f130 := inL_J O121 e129
          refine gf_J C fk_LandSurveyModel_512 rfl e127 e129 dX12_seeks_94 ?_
          refine g_lstore C [(6, .inr (.inl v128)), (5, .inl (w32 (r1 + r9))), (0, .inr (.inr a0)), (1, .inl a1), (2, .inr (.inl a2)), (4, .inl a3)] (by decide) rfl dX12_seeks_97 ?_
          refine g_iconst C dX12_seeks_99 ?_
          refine g_istore C [(8, .inl 0), (6, .inr (.inl v128)), (5, .inl (w32 (r1 + r9))), (0, .inr (.inr a0)), (1, .inl a1), (2, .inr (.inl a2)), (4, .inl a3)] (by decide) rfl dX12_seeks_100 ?_
          refine GW.sub [3, 4, 5, 6, 2, 1, 0] rfl ?_
          -- loop at 102
          have L133 : ∀ (μ : Nat) (x131 : Int) (h132 : Hp), (40 - x131).toNat = μ → Okh h132 → Fx [2462, 2469, 32620000, 32820000, 33020000, 33220000, 33420000, 33620000, 34020200, 34220000, 34420400] h118 h132 → ((0 : Int) ≤ x131 ∧ x131 ≤ (40 : Int)) → (IG h h132 a0 a1) → GW p l e (rmm 6 145 0 0) s m (List.map toV [.inr (.inr a0), .inl a1, .inr (.inl a2), .inl a3]).toArray below meth c D cy z0 9 (MQ below (QV D cy z0 (fun h1 => Okh h1 ∧ Fx wr_k_seeks_3 h h1 ∧ (IG h h1 a0 a1))) (List.map toV [.inr (.inr a0), .inl a1, .inr (.inl a2), .inl a3]).toArray s 0 0 (Aof z0)) 102 [(0, .inr (.inr a0)), (1, .inl a1), (2, .inr (.inl a2)), (4, .inl a3), (5, .inl (w32 (r1 + r9))), (6, .inr (.inl v128)), (8, .inl x131)] [] h132 0 0 := by
            intro μ
            induction μ using Nat.strongRecOn with
            | ind μ ih134 =>
              intro x131 h132 hm135 O136 F137 f138 p139
              refine g_iload C 6 rfl dX12_seeks_102 ?_
              refine g_aload_n C rfl 0 rfl dX12_seeks_104 ?_
              have e140 : Tg h132 a0 = 12 := (fxT F137 e127)
              obtain ⟨v141, e142⟩ : ∃ z, Iv h132 a0 40 = z := ⟨_, rfl⟩
              have f143 := ok_I O136 e140 rI_12_40 e142
              refine gf_I C fk_LandSurveyModel_423 rfl e140 e142 dX12_seeks_105 ?_
              refine g_icmp_ge C (iw f138 (by decide) (by decide)) (iw f143 (by decide) (by decide)) 148 (by decide) dX12_seeks_108 (fun q144 => ?_) (fun q145 => ?_)
              · exact g_vret C hr ⟨O136, ((((((Fx.rf (wr := wr_k_seeks_3)).call F6 rfl).call F14 rfl).call F115 rfl).call F122 rfl).call F137 rfl), p139⟩ (by decide) (by decide) dX12_seeks_148
              · have f146 : (0 : Int) ≤ x131 ∧ x131 ≤ (39 : Int) := r_lt f138 f143 q145 (by decide) (by decide)
                have f147 : (1 : Int) ≤ v141 ∧ v141 ≤ (40 : Int) := r_gt f143 f138 q145 (by decide) (by decide)
                refine g_iload C 3 rfl dX12_seeks_111 ?_
                refine g_iconst C dX12_seeks_113 ?_
                refine g_icmp_ge C (iw fa3 (by decide) (by decide)) (iw (il 3) (by decide) (by decide)) 148 (by decide) dX12_seeks_114 (fun q148 => ?_) (fun q149 => ?_)
                · exact g_vret C hr ⟨O136, ((((((Fx.rf (wr := wr_k_seeks_3)).call F6 rfl).call F14 rfl).call F115 rfl).call F122 rfl).call F137 rfl), p139⟩ (by decide) (by decide) dX12_seeks_148
                · exact (no_lt fa3 (il 3) q149 (by decide)).elim
          have p150 := (IG.trans (IG.trans (IG.trans (IG.trans (IG.rf (h := h) (m := a0) (s := a1)) (IG_fx O F6 ta0 rfl)) (IG_fx O5 F14 e8 rfl)) (IG_fx O13 F115 e17 rfl)) (IG_fx O114 F122 e116 rfl))
          exact L133 _ 0 h118 rfl O121 Fx.rf (iw (il 0) (by decide) (by decide)) p150
        · have f151 : (1 : Int) ≤ r117 ∧ r117 ≤ (1 : Int) := r_nl f123 q125
          refine g_aload_n C rfl 1 rfl dX12_seeks_70 ?_
          have e152 : Tg h118 a0 = 12 := (fxT F122 e116)
          have e153 : Rv h118 a0 70 = v18 := ((fxR F122 e116 rfl).trans ((fxR F115 e17 rfl).trans e19))
          refine gf_R C fk_LandSurveyModel_251 rfl e152 e153 dX12_seeks_71 ?_
          refine g_iload_n C rfl 2 rfl dX12_seeks_74 ?_
          refine g_iconst C dX12_seeks_75 ?_
          have e154 : Tg h118 v18 = 170101 := (fxT F122 (fxT F115 t20))
          have e155 : Tg h111 v18 = 170101 := (fxT F115 t20)
          have e156 : Ln h118 v18 = 16 := ((fxL F122 e155).trans ((fxL F115 t20).trans l21))
          refine g_zast C e154 rfl e156 (ix fa1 (by decide) (by decide)) (iw (il 1) (by decide) (by decide)) dX12_seeks_76 (fun h158 hh157 => ?_)
          have O159 := O121.pIa e154 ar_170101 hh157 rI_170101_0 (iw (il 1) (by decide) (by decide)) nofun
          refine g_aload_n C rfl 1 rfl dX12_seeks_77 ?_
          have e160 : Tg h158 a0 = 12 := ((pIT hh157).trans e152)
          have e161 : Rv h158 a0 71 = v96 := ((pIR hh157).trans ((fxR F122 e116 rfl).trans ((fxR F115 e17 rfl).trans e97)))
          refine gf_R C fk_LandSurveyModel_254 rfl e160 e161 dX12_seeks_78 ?_
          refine g_iload_n C rfl 2 rfl dX12_seeks_81 ?_
          refine g_iload C 0 rfl dX12_seeks_82 ?_
          have e162 : Tg h158 v96 = 171100 := ((pIT hh157).trans (fxT F122 (fxT F115 t98)))
          have e163 : Tg h111 v96 = 171100 := (fxT F115 t98)
          have e164 : Ln h158 v96 = 16 := ((pIL hh157).trans ((fxL F122 e163).trans ((fxL F115 t98).trans l99)))
          refine g_iast C e162 rfl e164 (ix fa1 (by decide) (by decide)) f16 dX12_seeks_84 (fun h166 hh165 => ?_)
          have O167 := O159.pIa e162 ar_171100 hh165 rI_171100_0 f16 nofun
          refine g_aload_n C rfl 1 rfl dX12_seeks_85 ?_
          have e168 : Tg h166 a0 = 12 := ((pIT hh165).trans e160)
          obtain ⟨v169, e170⟩ : ∃ z, Rv h166 a0 72 = z := ⟨_, rfl⟩
          have t171 := ok_R O167 e168 rE_12_72 e170
          have l172 := ok_L O167 e168 rE_12_72 e170
          refine gf_R C fk_LandSurveyModel_257 rfl e168 e170 dX12_seeks_86 ?_
          refine g_iload_n C rfl 2 rfl dX12_seeks_89 ?_
          refine g_lload_n C rfl 3 rfl dX12_seeks_90 ?_
          refine g_last C t171 rfl l172 (ix fa1 (by decide) (by decide)) fa2 dX12_seeks_91 (fun h174 hh173 => ?_)
          have O175 := O167.pJ hh173 fa2
          have p176 := (IG.trans (IG.trans (IG.trans (IG.trans (IG.trans (IG.trans (IG.trans (IG.rf (h := h) (m := a0) (s := a1)) (IG_fx O F6 ta0 rfl)) (IG_fx O5 F14 e8 rfl)) (IG_fx O13 F115 e17 rfl)) (IG_fx O114 F122 e116 rfl)) (IG_w hh157 (by omega))) (IG_fx O159 ((Fx.rf (wr := [34220000]) (h := h158)).pIa e162 ar_171100 hh165 rfl) e160 rfl)) (IG_fx O167 ((Fx.rf (wr := [34420400]) (h := h166)).pJa t171 ar_172102 hh173 rfl) e168 rfl))
          exact g_vret C hr ⟨O175, ((((((((Fx.rf (wr := wr_k_seeks_3)).call F6 rfl).call F14 rfl).call F115 rfl).call F122 rfl).pIa e154 ar_170101 hh157 rfl).pIa e162 ar_171100 hh165 rfl).pJa t171 ar_172102 hh173 rfl), p176⟩ (by decide) (by decide) dX12_seeks_92
      · refine g_lload_n C rfl 3 rfl dX12_seeks_44 ?_
        refine g_aload_n C rfl 1 rfl dX12_seeks_45 ?_
        obtain ⟨v177, e178⟩ : ∃ z, Rv h10 a0 72 = z := ⟨_, rfl⟩
        have t179 := ok_R O13 e17 rE_12_72 e178
        have l180 := ok_L O13 e17 rE_12_72 e178
        refine gf_R C fk_LandSurveyModel_257 rfl e17 e178 dX12_seeks_46 ?_
        refine g_iload_n C rfl 2 rfl dX12_seeks_49 ?_
        obtain ⟨v181, e182⟩ : ∃ z, Jv h10 v177 a1.toNat = z := ⟨_, rfl⟩
        have f183 := inL_J O13 e182
        refine g_lald C t179 rfl l180 (ix fa1 (by decide) (by decide)) e182 dX12_seeks_50 ?_
        refine g_lcmp C fa2 f183 dX12_seeks_51 ?_
        have f184 : (-1 : Int) ≤ (lC a2 v181) ∧ (lC a2 v181) ≤ (1 : Int) := lC_rng _ _
        refine g_if_lt C (iw f184 (by decide) (by decide)) 56 (by decide) dX12_seeks_52 (fun q185 => ?_) (fun q186 => ?_)
        · have q187 : a2 < v181 := lC_lt.mp q185
          have f188 : (-9223372036854775808 : Int) ≤ a2 ∧ a2 ≤ (9223372036854775806 : Int) := r_lt fa2 f183 q187 (by decide) (by decide)
          have f189 : (-9223372036854775807 : Int) ≤ v181 ∧ v181 ≤ (9223372036854775807 : Int) := r_gt f183 fa2 q187 (by decide) (by decide)
          refine g_aload_n C rfl 1 rfl dX12_seeks_56 ?_
          refine g_iload_n C rfl 2 rfl dX12_seeks_57 ?_
          refine g_lload_n C rfl 3 rfl dX12_seeks_58 ?_
          refine g_iconst C dX12_seeks_59 ?_
          refine g_callV (st := []) (gc_V C lk_LandSurveyModel_523 (k_X12_findBounds l D cy w z0 O13 e17 fa1 (iw f188 (by decide) (by decide)) (iw (il 1) (by decide) (by decide))) e17 rfl rfl rfl ⟨by decide, by decide⟩ (Nat.le_of_ble_eq_true rfl) dX12_seeks_60 ⟨(by decide), (by decide)⟩) (fun h191 K192 => ?_)
          obtain ⟨O194, F195⟩ := K192
          refine g_aload_n C rfl 1 rfl dX12_seeks_63 ?_
          have e196 : Tg h191 a0 = 12 := (fxT F195 e17)
          refine g_callI (st := []) (gc_V C lk_LandSurveyModel_527 (k_X12_goesTogether l D cy w z0 O194 e196) e196 rfl rfl rfl ⟨by decide, by decide⟩ (Nat.le_of_ble_eq_true rfl) dX12_seeks_64 ⟨(by decide), (by decide)⟩) (fun r197 h198 f200 K199 => ?_)
          obtain ⟨O201, F202, f203⟩ := K199
          refine g_if_eq C (iw f203 (by decide) (by decide)) 93 (by decide) dX12_seeks_67 (fun q204 => ?_) (fun q205 => ?_)
          · have f206 : (0 : Int) ≤ r197 ∧ r197 ≤ (0 : Int) := ii f203 (r_eq (il 0) q204) (by decide) (by decide)
            refine g_aload_n C rfl 1 rfl dX12_seeks_93 ?_
            have e207 : Tg h198 a0 = 12 := (fxT F202 e196)
            obtain ⟨v208, e209⟩ : ∃ z, Jv h198 a0 69 = z := ⟨_, rfl⟩
            have f210 := inL_J O201 e209
            refine gf_J C fk_LandSurveyModel_512 rfl e207 e209 dX12_seeks_94 ?_
            refine g_lstore C [(6, .inr (.inl v208)), (5, .inl (w32 (r1 + r9))), (0, .inr (.inr a0)), (1, .inl a1), (2, .inr (.inl a2)), (4, .inl a3)] (by decide) rfl dX12_seeks_97 ?_
            refine g_iconst C dX12_seeks_99 ?_
            refine g_istore C [(8, .inl 0), (6, .inr (.inl v208)), (5, .inl (w32 (r1 + r9))), (0, .inr (.inr a0)), (1, .inl a1), (2, .inr (.inl a2)), (4, .inl a3)] (by decide) rfl dX12_seeks_100 ?_
            refine GW.sub [3, 4, 5, 6, 2, 1, 0] rfl ?_
            -- loop at 102
            have L213 : ∀ (μ : Nat) (x211 : Int) (h212 : Hp), (40 - x211).toNat = μ → Okh h212 → Fx [2462, 2469, 32620000, 32820000, 33020000, 33220000, 33420000, 33620000, 34020200, 34220000, 34420400] h198 h212 → ((0 : Int) ≤ x211 ∧ x211 ≤ (40 : Int)) → (IG h h212 a0 a1) → GW p l e (rmm 6 145 0 0) s m (List.map toV [.inr (.inr a0), .inl a1, .inr (.inl a2), .inl a3]).toArray below meth c D cy z0 9 (MQ below (QV D cy z0 (fun h1 => Okh h1 ∧ Fx wr_k_seeks_3 h h1 ∧ (IG h h1 a0 a1))) (List.map toV [.inr (.inr a0), .inl a1, .inr (.inl a2), .inl a3]).toArray s 0 0 (Aof z0)) 102 [(0, .inr (.inr a0)), (1, .inl a1), (2, .inr (.inl a2)), (4, .inl a3), (5, .inl (w32 (r1 + r9))), (6, .inr (.inl v208)), (8, .inl x211)] [] h212 0 0 := by
              intro μ
              induction μ using Nat.strongRecOn with
              | ind μ ih214 =>
                intro x211 h212 hm215 O216 F217 f218 p219
                refine g_iload C 6 rfl dX12_seeks_102 ?_
                refine g_aload_n C rfl 0 rfl dX12_seeks_104 ?_
                have e220 : Tg h212 a0 = 12 := (fxT F217 e207)
                obtain ⟨v221, e222⟩ : ∃ z, Iv h212 a0 40 = z := ⟨_, rfl⟩
                have f223 := ok_I O216 e220 rI_12_40 e222
                refine gf_I C fk_LandSurveyModel_423 rfl e220 e222 dX12_seeks_105 ?_
                refine g_icmp_ge C (iw f218 (by decide) (by decide)) (iw f223 (by decide) (by decide)) 148 (by decide) dX12_seeks_108 (fun q224 => ?_) (fun q225 => ?_)
                · exact g_vret C hr ⟨O216, ((((((Fx.rf (wr := wr_k_seeks_3)).call F6 rfl).call F14 rfl).call F195 rfl).call F202 rfl).call F217 rfl), p219⟩ (by decide) (by decide) dX12_seeks_148
                · have f226 : (0 : Int) ≤ x211 ∧ x211 ≤ (39 : Int) := r_lt f218 f223 q225 (by decide) (by decide)
                  have f227 : (1 : Int) ≤ v221 ∧ v221 ≤ (40 : Int) := r_gt f223 f218 q225 (by decide) (by decide)
                  refine g_iload C 3 rfl dX12_seeks_111 ?_
                  refine g_iconst C dX12_seeks_113 ?_
                  refine g_icmp_ge C (iw fa3 (by decide) (by decide)) (iw (il 3) (by decide) (by decide)) 148 (by decide) dX12_seeks_114 (fun q228 => ?_) (fun q229 => ?_)
                  · exact g_vret C hr ⟨O216, ((((((Fx.rf (wr := wr_k_seeks_3)).call F6 rfl).call F14 rfl).call F195 rfl).call F202 rfl).call F217 rfl), p219⟩ (by decide) (by decide) dX12_seeks_148
                  · exact (no_lt fa3 (il 3) q229 (by decide)).elim
            have p230 := (IG.trans (IG.trans (IG.trans (IG.trans (IG.rf (h := h) (m := a0) (s := a1)) (IG_fx O F6 ta0 rfl)) (IG_fx O5 F14 e8 rfl)) (IG_fx O13 F195 e17 rfl)) (IG_fx O194 F202 e196 rfl))
            exact L213 _ 0 h198 rfl O201 Fx.rf (iw (il 0) (by decide) (by decide)) p230
          · have f231 : (1 : Int) ≤ r197 ∧ r197 ≤ (1 : Int) := r_nl f203 q205
            refine g_aload_n C rfl 1 rfl dX12_seeks_70 ?_
            have e232 : Tg h198 a0 = 12 := (fxT F202 e196)
            have e233 : Rv h198 a0 70 = v18 := ((fxR F202 e196 rfl).trans ((fxR F195 e17 rfl).trans e19))
            refine gf_R C fk_LandSurveyModel_251 rfl e232 e233 dX12_seeks_71 ?_
            refine g_iload_n C rfl 2 rfl dX12_seeks_74 ?_
            refine g_iconst C dX12_seeks_75 ?_
            have e234 : Tg h198 v18 = 170101 := (fxT F202 (fxT F195 t20))
            have e235 : Tg h191 v18 = 170101 := (fxT F195 t20)
            have e236 : Ln h198 v18 = 16 := ((fxL F202 e235).trans ((fxL F195 t20).trans l21))
            refine g_zast C e234 rfl e236 (ix fa1 (by decide) (by decide)) (iw (il 1) (by decide) (by decide)) dX12_seeks_76 (fun h238 hh237 => ?_)
            have O239 := O201.pIa e234 ar_170101 hh237 rI_170101_0 (iw (il 1) (by decide) (by decide)) nofun
            refine g_aload_n C rfl 1 rfl dX12_seeks_77 ?_
            have e240 : Tg h238 a0 = 12 := ((pIT hh237).trans e232)
            have e241 : Rv h238 a0 71 = v96 := ((pIR hh237).trans ((fxR F202 e196 rfl).trans ((fxR F195 e17 rfl).trans e97)))
            refine gf_R C fk_LandSurveyModel_254 rfl e240 e241 dX12_seeks_78 ?_
            refine g_iload_n C rfl 2 rfl dX12_seeks_81 ?_
            refine g_iload C 0 rfl dX12_seeks_82 ?_
            have e242 : Tg h238 v96 = 171100 := ((pIT hh237).trans (fxT F202 (fxT F195 t98)))
            have e243 : Tg h191 v96 = 171100 := (fxT F195 t98)
            have e244 : Ln h238 v96 = 16 := ((pIL hh237).trans ((fxL F202 e243).trans ((fxL F195 t98).trans l99)))
            refine g_iast C e242 rfl e244 (ix fa1 (by decide) (by decide)) f16 dX12_seeks_84 (fun h246 hh245 => ?_)
            have O247 := O239.pIa e242 ar_171100 hh245 rI_171100_0 f16 nofun
            refine g_aload_n C rfl 1 rfl dX12_seeks_85 ?_
            have e248 : Tg h246 a0 = 12 := ((pIT hh245).trans e240)
            have e249 : Rv h246 a0 72 = v177 := ((pIR hh245).trans ((pIR hh237).trans ((fxR F202 e196 rfl).trans ((fxR F195 e17 rfl).trans e178))))
            refine gf_R C fk_LandSurveyModel_257 rfl e248 e249 dX12_seeks_86 ?_
            refine g_iload_n C rfl 2 rfl dX12_seeks_89 ?_
            refine g_lload_n C rfl 3 rfl dX12_seeks_90 ?_
            have e250 : Tg h246 v177 = 172102 := ((pIT hh245).trans ((pIT hh237).trans (fxT F202 (fxT F195 t179))))
            have e251 : Tg h191 v177 = 172102 := (fxT F195 t179)
            have e252 : Ln h246 v177 = 16 := ((pIL hh245).trans ((pIL hh237).trans ((fxL F202 e251).trans ((fxL F195 t179).trans l180))))
            refine g_last C e250 rfl e252 (ix fa1 (by decide) (by decide)) (iw f188 (by decide) (by decide)) dX12_seeks_91 (fun h254 hh253 => ?_)
            have O255 := O247.pJ hh253 (iw f188 (by decide) (by decide))
            have p256 := (IG.trans (IG.trans (IG.trans (IG.trans (IG.trans (IG.trans (IG.trans (IG.rf (h := h) (m := a0) (s := a1)) (IG_fx O F6 ta0 rfl)) (IG_fx O5 F14 e8 rfl)) (IG_fx O13 F195 e17 rfl)) (IG_fx O194 F202 e196 rfl)) (IG_w hh237 (by omega))) (IG_fx O239 ((Fx.rf (wr := [34220000]) (h := h238)).pIa e242 ar_171100 hh245 rfl) e240 rfl)) (IG_fx O247 ((Fx.rf (wr := [34420400]) (h := h246)).pJa e250 ar_172102 hh253 rfl) e248 rfl))
            exact g_vret C hr ⟨O255, ((((((((Fx.rf (wr := wr_k_seeks_3)).call F6 rfl).call F14 rfl).call F195 rfl).call F202 rfl).pIa e234 ar_170101 hh237 rfl).pIa e242 ar_171100 hh245 rfl).pJa e250 ar_172102 hh253 rfl), p256⟩ (by decide) (by decide) dX12_seeks_92
        · have q257 : v181 ≤ a2 := lC_ge.mp q186
          have p258 := (IG.trans (IG.trans (IG.rf (h := h) (m := a0) (s := a1)) (IG_fx O F6 ta0 rfl)) (IG_fx O5 F14 e8 rfl))
          exact g_vret C hr ⟨O13, (((Fx.rf (wr := wr_k_seeks_3)).call F6 rfl).call F14 rfl), p258⟩ (by decide) (by decide) dX12_seeks_55
def wr_k_seeks_2 : List Nat := [2462, 2469, 32620000, 32820000, 33020000, 33220000, 33420000, 33620000, 34020200, 34220000, 34420400]
set_option maxRecDepth 100000 in
set_option maxHeartbeats 4000000 in
theorem k_seeks_2 (l : Launch) (D : va_G) (cy : Nat → ClassId) (w : Nat → Nat) (z0 : Nat)  {h : Hp} {a0 : Nat} {a1 : Int} {a2 : Int} {a3 : Int}  (O : Okh h) (ta0 : Tg h a0 = 12) (fa1 : 0 ≤ a1 ∧ a1 ≤ 15) (fa2 : (-9223372036854775808) ≤ a2 ∧ a2 ≤ 9223372036854775807) (fa3 : 2 ≤ a3 ∧ a3 ≤ 2) : MV l D cy w z0 yX12_seeks cX12_seeks 9 none 7 173 0 0 [.inr (.inr a0), .inl a1, .inr (.inl a2), .inl a3] h (fun h1 => Okh h1 ∧ Fx wr_k_seeks_2 h h1 ∧ (IG h h1 a0 a1)) := by
  refine hm_go (by decide +kernel) (Nat.le_of_ble_eq_true rfl) (fun p e s m below meth c C hr hn => ?_)
  refine g_aload_n C rfl 0 rfl dX12_seeks_0 ?_
  refine g_iload_n C rfl 1 rfl dX12_seeks_1 ?_
  refine g_callI (st := []) (gc_V C lk_LandSurveyModel_516 (k_X12_breaksCost l D cy w z0 O ta0 (iw fa1 (by decide) (by decide))) ta0 rfl rfl rfl ⟨by decide, by decide⟩ (Nat.le_of_ble_eq_true rfl) dX12_seeks_2 ⟨(by decide), (by decide)⟩) (fun r1 h2 f4 K3 => ?_)
  obtain ⟨O5, F6, f7⟩ := K3
  refine g_aload_n C rfl 0 rfl dX12_seeks_5 ?_
  refine g_lload_n C rfl 2 rfl dX12_seeks_6 ?_
  have e8 : Tg h2 a0 = 12 := (fxT F6 ta0)
  refine g_callI (st := [.inl r1]) (gc_V C lk_LandSurveyModel_519 (k_X12_costOf l D cy w z0 O5 e8 fa2) e8 rfl rfl rfl ⟨by decide, by decide⟩ (Nat.le_of_ble_eq_true rfl) dX12_seeks_7 ⟨(by decide), (by decide)⟩) (fun r9 h10 f12 K11 => ?_)
  obtain ⟨O13, F14, f15⟩ := K11
  have f16 : (-2147483648 : Int) ≤ (w32 (r1 + r9)) ∧ (w32 (r1 + r9)) ≤ (2147483647 : Int) := w32_inR _
  refine g_iaddW C dX12_seeks_10 ?_
  refine g_istore C [(5, .inl (w32 (r1 + r9))), (0, .inr (.inr a0)), (1, .inl a1), (2, .inr (.inl a2)), (4, .inl a3)] (by decide) rfl dX12_seeks_11 ?_
  refine g_aload_n C rfl 1 rfl dX12_seeks_13 ?_
  have e17 : Tg h10 a0 = 12 := (fxT F14 e8)
  obtain ⟨v18, e19⟩ : ∃ z, Rv h10 a0 70 = z := ⟨_, rfl⟩
  have t20 := ok_R O13 e17 rE_12_70 e19
  have l21 := ok_L O13 e17 rE_12_70 e19
  refine gf_R C fk_LandSurveyModel_251 rfl e17 e19 dX12_seeks_14 ?_
  refine g_iload_n C rfl 2 rfl dX12_seeks_17 ?_
  obtain ⟨v22, e23⟩ : ∃ z, Iv h10 v18 a1.toNat = z := ⟨_, rfl⟩
  have f24 := ok_Ia O13 t20 ar_170101 rI_170101_0 e23
  refine g_zald C t20 rfl l21 (ix fa1 (by decide) (by decide)) e23 dX12_seeks_18 ?_
  refine g_if_eq C (iw f24 (by decide) (by decide)) 56 (by decide) dX12_seeks_19 (fun q25 => ?_) (fun q26 => ?_)
  · have f27 : (0 : Int) ≤ v22 ∧ v22 ≤ (0 : Int) := ii f24 (r_eq (il 0) q25) (by decide) (by decide)
    refine g_aload_n C rfl 1 rfl dX12_seeks_56 ?_
    refine g_iload_n C rfl 2 rfl dX12_seeks_57 ?_
    refine g_lload_n C rfl 3 rfl dX12_seeks_58 ?_
    refine g_iconst C dX12_seeks_59 ?_
    refine g_callV (st := []) (gc_V C lk_LandSurveyModel_523 (k_X12_findBounds l D cy w z0 O13 e17 fa1 fa2 (iw (il 1) (by decide) (by decide))) e17 rfl rfl rfl ⟨by decide, by decide⟩ (Nat.le_of_ble_eq_true rfl) dX12_seeks_60 ⟨(by decide), (by decide)⟩) (fun h29 K30 => ?_)
    obtain ⟨O32, F33⟩ := K30
    refine g_aload_n C rfl 1 rfl dX12_seeks_63 ?_
    have e34 : Tg h29 a0 = 12 := (fxT F33 e17)
    refine g_callI (st := []) (gc_V C lk_LandSurveyModel_527 (k_X12_goesTogether l D cy w z0 O32 e34) e34 rfl rfl rfl ⟨by decide, by decide⟩ (Nat.le_of_ble_eq_true rfl) dX12_seeks_64 ⟨(by decide), (by decide)⟩) (fun r35 h36 f38 K37 => ?_)
    obtain ⟨O39, F40, f41⟩ := K37
    refine g_if_eq C (iw f41 (by decide) (by decide)) 93 (by decide) dX12_seeks_67 (fun q42 => ?_) (fun q43 => ?_)
    · have f44 : (0 : Int) ≤ r35 ∧ r35 ≤ (0 : Int) := ii f41 (r_eq (il 0) q42) (by decide) (by decide)
      refine g_aload_n C rfl 1 rfl dX12_seeks_93 ?_
      have e45 : Tg h36 a0 = 12 := (fxT F40 e34)
      obtain ⟨v46, e47⟩ : ∃ z, Jv h36 a0 69 = z := ⟨_, rfl⟩
      have f48 := inL_J O39 e47
      refine gf_J C fk_LandSurveyModel_512 rfl e45 e47 dX12_seeks_94 ?_
      refine g_lstore C [(6, .inr (.inl v46)), (5, .inl (w32 (r1 + r9))), (0, .inr (.inr a0)), (1, .inl a1), (2, .inr (.inl a2)), (4, .inl a3)] (by decide) rfl dX12_seeks_97 ?_
      refine g_iconst C dX12_seeks_99 ?_
      refine g_istore C [(8, .inl 0), (6, .inr (.inl v46)), (5, .inl (w32 (r1 + r9))), (0, .inr (.inr a0)), (1, .inl a1), (2, .inr (.inl a2)), (4, .inl a3)] (by decide) rfl dX12_seeks_100 ?_
      refine GW.sub [3, 4, 5, 6, 2, 1, 0] rfl ?_
      -- loop at 102
      have L51 : ∀ (μ : Nat) (x49 : Int) (h50 : Hp), (40 - x49).toNat = μ → Okh h50 → Fx [2462, 2469, 32620000, 32820000, 33020000, 33220000, 33420000, 33620000, 34020200, 34220000, 34420400] h36 h50 → ((0 : Int) ≤ x49 ∧ x49 ≤ (40 : Int)) → (IG h h50 a0 a1) → GW p l e (rmm 7 173 0 0) s m (List.map toV [.inr (.inr a0), .inl a1, .inr (.inl a2), .inl a3]).toArray below meth c D cy z0 9 (MQ below (QV D cy z0 (fun h1 => Okh h1 ∧ Fx wr_k_seeks_2 h h1 ∧ (IG h h1 a0 a1))) (List.map toV [.inr (.inr a0), .inl a1, .inr (.inl a2), .inl a3]).toArray s 0 0 (Aof z0)) 102 [(0, .inr (.inr a0)), (1, .inl a1), (2, .inr (.inl a2)), (4, .inl a3), (5, .inl (w32 (r1 + r9))), (6, .inr (.inl v46)), (8, .inl x49)] [] h50 0 0 := by
        intro μ
        induction μ using Nat.strongRecOn with
        | ind μ ih52 =>
          intro x49 h50 hm53 O54 F55 f56 p57
          refine g_iload C 6 rfl dX12_seeks_102 ?_
          refine g_aload_n C rfl 0 rfl dX12_seeks_104 ?_
          have e58 : Tg h50 a0 = 12 := (fxT F55 e45)
          obtain ⟨v59, e60⟩ : ∃ z, Iv h50 a0 40 = z := ⟨_, rfl⟩
          have f61 := ok_I O54 e58 rI_12_40 e60
          refine gf_I C fk_LandSurveyModel_423 rfl e58 e60 dX12_seeks_105 ?_
          refine g_icmp_ge C (iw f56 (by decide) (by decide)) (iw f61 (by decide) (by decide)) 148 (by decide) dX12_seeks_108 (fun q62 => ?_) (fun q63 => ?_)
          · exact g_vret C hr ⟨O54, ((((((Fx.rf (wr := wr_k_seeks_2)).call F6 rfl).call F14 rfl).call F33 rfl).call F40 rfl).call F55 rfl), p57⟩ (by decide) (by decide) dX12_seeks_148
          · have f64 : (0 : Int) ≤ x49 ∧ x49 ≤ (39 : Int) := r_lt f56 f61 q63 (by decide) (by decide)
            have f65 : (1 : Int) ≤ v59 ∧ v59 ≤ (40 : Int) := r_gt f61 f56 q63 (by decide) (by decide)
            refine g_iload C 3 rfl dX12_seeks_111 ?_
            refine g_iconst C dX12_seeks_113 ?_
            refine g_icmp_ge C (iw fa3 (by decide) (by decide)) (iw (il 3) (by decide) (by decide)) 148 (by decide) dX12_seeks_114 (fun q66 => ?_) (fun q67 => ?_)
            · exact (no_le (il 3) fa3 q66 (by decide)).elim
            · refine g_lload C 5 rfl dX12_seeks_117 ?_
              refine g_iload C 6 rfl dX12_seeks_119 ?_
              refine g_callI (st := []) (gc_S C lk_LandSurveyModel_487 (k_X12_isIn l D cy w z0 O54 f48 (iw f64 (by decide) (by decide))) rfl ⟨by decide, by decide⟩ (Nat.le_of_ble_eq_true rfl) dX12_seeks_121 ⟨(by decide), (by decide)⟩) (fun r68 h69 f71 K70 => ?_)
              obtain ⟨O72, F73, f74⟩ := K70
              refine g_if_eq C (iw f74 (by decide) (by decide)) 142 (by decide) dX12_seeks_124 (fun q75 => ?_) (fun q76 => ?_)
              · have f77 : (0 : Int) ≤ r68 ∧ r68 ≤ (0 : Int) := ii f74 (r_eq (il 0) q75) (by decide) (by decide)
                have f78 : (1 : Int) ≤ (x49 + 1) ∧ (x49 + 1) ≤ (40 : Int) := ia_add f64 (il 1) (by decide) (by decide)
                refine g_iinc C [(8, .inl (x49 + 1)), (0, .inr (.inr a0)), (1, .inl a1), (2, .inr (.inl a2)), (4, .inl a3), (5, .inl (w32 (r1 + r9))), (6, .inr (.inl v46))] 6 rfl (by decide) rfl dX12_seeks_142 ?_
                refine g_goto C 102 (by decide) dX12_seeks_145 ?_
                refine GW.sub [1, 2, 3, 4, 5, 6, 0] rfl ?_
                have p79 := (IG.trans p57 (IG_fx O54 F73 e58 rfl))
                exact ih52 _ (by omega) (x49 + 1) h69 rfl O72 (F55.call F73 rfl) (iw f78 (by decide) (by decide)) p79
              · have f80 : (1 : Int) ≤ r68 ∧ r68 ≤ (1 : Int) := r_nl f74 q76
                refine g_aload_n C rfl 0 rfl dX12_seeks_127 ?_
                refine g_iload_n C rfl 1 rfl dX12_seeks_128 ?_
                refine g_lload_n C rfl 2 rfl dX12_seeks_129 ?_
                refine g_lconst (z := 1) C (by decide) dX12_seeks_130 ?_
                refine g_iload C 6 rfl dX12_seeks_131 ?_
                refine g_lshl C dX12_seeks_133 ?_
                have f81 : (-9223372036854775808 : Int) ≤ (lShl 1 x49) ∧ (lShl 1 x49) ≤ (9223372036854775807 : Int) := inL_of _
                refine g_lor C dX12_seeks_134 ?_
                have f82 : (-9223372036854775808 : Int) ≤ (lOr a2 (lShl 1 x49)) ∧ (lOr a2 (lShl 1 x49)) ≤ (9223372036854775807 : Int) := inL_of _
                refine g_iload C 3 rfl dX12_seeks_135 ?_
                refine g_iconst C dX12_seeks_137 ?_
                have f83 : (3 : Int) ≤ (a3 + 1) ∧ (a3 + 1) ≤ (3 : Int) := ia_add fa3 (il 1) (by decide) (by decide)
                refine g_iadd C dX12_seeks_138 ?_
                have e84 : Tg h69 a0 = 12 := (fxT F73 e58)
                refine g_callV (st := []) (gc_V C lk_LandSurveyModel_530 (k_seeks_3 l D cy w z0 O72 e84 fa1 f82 f83) e84 rfl rfl rfl ⟨by decide, by decide⟩ (Nat.le_of_ble_eq_true rfl) dX12_seeks_139 ⟨(by decide), (by decide)⟩) (fun h86 K87 => ?_)
                obtain ⟨O89, F90, p91⟩ := K87
                have f92 : (1 : Int) ≤ (x49 + 1) ∧ (x49 + 1) ≤ (40 : Int) := ia_add f64 (il 1) (by decide) (by decide)
                refine g_iinc C [(8, .inl (x49 + 1)), (0, .inr (.inr a0)), (1, .inl a1), (2, .inr (.inl a2)), (4, .inl a3), (5, .inl (w32 (r1 + r9))), (6, .inr (.inl v46))] 6 rfl (by decide) rfl dX12_seeks_142 ?_
                refine g_goto C 102 (by decide) dX12_seeks_145 ?_
                refine GW.sub [1, 2, 3, 4, 5, 6, 0] rfl ?_
                have p93 := (IG.trans (IG.trans p57 (IG_fx O54 F73 e58 rfl)) p91)
                exact ih52 _ (by omega) (x49 + 1) h86 rfl O89 ((F55.call F73 rfl).call F90 rfl) (iw f92 (by decide) (by decide)) p93
      have p94 := (IG.trans (IG.trans (IG.trans (IG.trans (IG.rf (h := h) (m := a0) (s := a1)) (IG_fx O F6 ta0 rfl)) (IG_fx O5 F14 e8 rfl)) (IG_fx O13 F33 e17 rfl)) (IG_fx O32 F40 e34 rfl))
      exact L51 _ 0 h36 rfl O39 Fx.rf (iw (il 0) (by decide) (by decide)) p94
    · have f95 : (1 : Int) ≤ r35 ∧ r35 ≤ (1 : Int) := r_nl f41 q43
      refine g_aload_n C rfl 1 rfl dX12_seeks_70 ?_
      have e96 : Tg h36 a0 = 12 := (fxT F40 e34)
      have e97 : Rv h36 a0 70 = v18 := ((fxR F40 e34 rfl).trans ((fxR F33 e17 rfl).trans e19))
      refine gf_R C fk_LandSurveyModel_251 rfl e96 e97 dX12_seeks_71 ?_
      refine g_iload_n C rfl 2 rfl dX12_seeks_74 ?_
      refine g_iconst C dX12_seeks_75 ?_
      have e98 : Tg h36 v18 = 170101 := (fxT F40 (fxT F33 t20))
      have e99 : Tg h29 v18 = 170101 := (fxT F33 t20)
      have e100 : Ln h36 v18 = 16 := ((fxL F40 e99).trans ((fxL F33 t20).trans l21))
      refine g_zast C e98 rfl e100 (ix fa1 (by decide) (by decide)) (iw (il 1) (by decide) (by decide)) dX12_seeks_76 (fun h102 hh101 => ?_)
      have O103 := O39.pIa e98 ar_170101 hh101 rI_170101_0 (iw (il 1) (by decide) (by decide)) nofun
      refine g_aload_n C rfl 1 rfl dX12_seeks_77 ?_
      have e104 : Tg h102 a0 = 12 := ((pIT hh101).trans e96)
      obtain ⟨v105, e106⟩ : ∃ z, Rv h102 a0 71 = z := ⟨_, rfl⟩
      have t107 := ok_R O103 e104 rE_12_71 e106
      have l108 := ok_L O103 e104 rE_12_71 e106
      refine gf_R C fk_LandSurveyModel_254 rfl e104 e106 dX12_seeks_78 ?_
      refine g_iload_n C rfl 2 rfl dX12_seeks_81 ?_
      refine g_iload C 0 rfl dX12_seeks_82 ?_
      refine g_iast C t107 rfl l108 (ix fa1 (by decide) (by decide)) f16 dX12_seeks_84 (fun h110 hh109 => ?_)
      have O111 := O103.pIa t107 ar_171100 hh109 rI_171100_0 f16 nofun
      refine g_aload_n C rfl 1 rfl dX12_seeks_85 ?_
      have e112 : Tg h110 a0 = 12 := ((pIT hh109).trans e104)
      obtain ⟨v113, e114⟩ : ∃ z, Rv h110 a0 72 = z := ⟨_, rfl⟩
      have t115 := ok_R O111 e112 rE_12_72 e114
      have l116 := ok_L O111 e112 rE_12_72 e114
      refine gf_R C fk_LandSurveyModel_257 rfl e112 e114 dX12_seeks_86 ?_
      refine g_iload_n C rfl 2 rfl dX12_seeks_89 ?_
      refine g_lload_n C rfl 3 rfl dX12_seeks_90 ?_
      refine g_last C t115 rfl l116 (ix fa1 (by decide) (by decide)) fa2 dX12_seeks_91 (fun h118 hh117 => ?_)
      have O119 := O111.pJ hh117 fa2
      have p120 := (IG.trans (IG.trans (IG.trans (IG.trans (IG.trans (IG.trans (IG.trans (IG.rf (h := h) (m := a0) (s := a1)) (IG_fx O F6 ta0 rfl)) (IG_fx O5 F14 e8 rfl)) (IG_fx O13 F33 e17 rfl)) (IG_fx O32 F40 e34 rfl)) (IG_w hh101 (by omega))) (IG_fx O103 ((Fx.rf (wr := [34220000]) (h := h102)).pIa t107 ar_171100 hh109 rfl) e104 rfl)) (IG_fx O111 ((Fx.rf (wr := [34420400]) (h := h110)).pJa t115 ar_172102 hh117 rfl) e112 rfl))
      exact g_vret C hr ⟨O119, ((((((((Fx.rf (wr := wr_k_seeks_2)).call F6 rfl).call F14 rfl).call F33 rfl).call F40 rfl).pIa e98 ar_170101 hh101 rfl).pIa t107 ar_171100 hh109 rfl).pJa t115 ar_172102 hh117 rfl), p120⟩ (by decide) (by decide) dX12_seeks_92
  · have f121 : (1 : Int) ≤ v22 ∧ v22 ≤ (1 : Int) := r_nl f24 q26
    refine g_iload C 0 rfl dX12_seeks_22 ?_
    refine g_aload_n C rfl 1 rfl dX12_seeks_24 ?_
    obtain ⟨v122, e123⟩ : ∃ z, Rv h10 a0 71 = z := ⟨_, rfl⟩
    have t124 := ok_R O13 e17 rE_12_71 e123
    have l125 := ok_L O13 e17 rE_12_71 e123
    refine gf_R C fk_LandSurveyModel_254 rfl e17 e123 dX12_seeks_25 ?_
    refine g_iload_n C rfl 2 rfl dX12_seeks_28 ?_
    obtain ⟨v126, e127⟩ : ∃ z, Iv h10 v122 a1.toNat = z := ⟨_, rfl⟩
    have f128 := ok_Ia O13 t124 ar_171100 rI_171100_0 e127
    refine g_iald C t124 rfl l125 (ix fa1 (by decide) (by decide)) e127 dX12_seeks_29 ?_
    refine g_icmp_gt C f16 f128 55 (by decide) dX12_seeks_30 (fun q129 => ?_) (fun q130 => ?_)
    · have f131 : (-2147483648 : Int) ≤ v126 ∧ v126 ≤ (2147483646 : Int) := r_lt f128 f16 q129 (by decide) (by decide)
      have f132 : (-2147483647 : Int) ≤ (w32 (r1 + r9)) ∧ (w32 (r1 + r9)) ≤ (2147483647 : Int) := r_gt f16 f128 q129 (by decide) (by decide)
      have p133 := (IG.trans (IG.trans (IG.rf (h := h) (m := a0) (s := a1)) (IG_fx O F6 ta0 rfl)) (IG_fx O5 F14 e8 rfl))
      exact g_vret C hr ⟨O13, (((Fx.rf (wr := wr_k_seeks_2)).call F6 rfl).call F14 rfl), p133⟩ (by decide) (by decide) dX12_seeks_55
    · refine g_iload C 0 rfl dX12_seeks_33 ?_
      refine g_aload_n C rfl 1 rfl dX12_seeks_35 ?_
      refine gf_R C fk_LandSurveyModel_254 rfl e17 e123 dX12_seeks_36 ?_
      refine g_iload_n C rfl 2 rfl dX12_seeks_39 ?_
      refine g_iald C t124 rfl l125 (ix fa1 (by decide) (by decide)) e127 dX12_seeks_40 ?_
      refine g_icmp_ne C f16 f128 56 (by decide) dX12_seeks_41 (fun q134 => ?_) (fun q135 => ?_)
      · refine g_aload_n C rfl 1 rfl dX12_seeks_56 ?_
        refine g_iload_n C rfl 2 rfl dX12_seeks_57 ?_
        refine g_lload_n C rfl 3 rfl dX12_seeks_58 ?_
        refine g_iconst C dX12_seeks_59 ?_
        refine g_callV (st := []) (gc_V C lk_LandSurveyModel_523 (k_X12_findBounds l D cy w z0 O13 e17 fa1 fa2 (iw (il 1) (by decide) (by decide))) e17 rfl rfl rfl ⟨by decide, by decide⟩ (Nat.le_of_ble_eq_true rfl) dX12_seeks_60 ⟨(by decide), (by decide)⟩) (fun h137 K138 => ?_)
        obtain ⟨O140, F141⟩ := K138
        refine g_aload_n C rfl 1 rfl dX12_seeks_63 ?_
        have e142 : Tg h137 a0 = 12 := (fxT F141 e17)
        refine g_callI (st := []) (gc_V C lk_LandSurveyModel_527 (k_X12_goesTogether l D cy w z0 O140 e142) e142 rfl rfl rfl ⟨by decide, by decide⟩ (Nat.le_of_ble_eq_true rfl) dX12_seeks_64 ⟨(by decide), (by decide)⟩) (fun r143 h144 f146 K145 => ?_)
        obtain ⟨O147, F148, f149⟩ := K145
        refine g_if_eq C (iw f149 (by decide) (by decide)) 93 (by decide) dX12_seeks_67 (fun q150 => ?_) (fun q151 => ?_)
        · have f152 : (0 : Int) ≤ r143 ∧ r143 ≤ (0 : Int) := ii f149 (r_eq (il 0) q150) (by decide) (by decide)
          refine g_aload_n C rfl 1 rfl dX12_seeks_93 ?_
          have e153 : Tg h144 a0 = 12 := (fxT F148 e142)
          obtain ⟨v154, e155⟩ : ∃ z, Jv h144 a0 69 = z := ⟨_, rfl⟩
          have f156 := inL_J O147 e155
          refine gf_J C fk_LandSurveyModel_512 rfl e153 e155 dX12_seeks_94 ?_
          refine g_lstore C [(6, .inr (.inl v154)), (5, .inl (w32 (r1 + r9))), (0, .inr (.inr a0)), (1, .inl a1), (2, .inr (.inl a2)), (4, .inl a3)] (by decide) rfl dX12_seeks_97 ?_
          refine g_iconst C dX12_seeks_99 ?_
          refine g_istore C [(8, .inl 0), (6, .inr (.inl v154)), (5, .inl (w32 (r1 + r9))), (0, .inr (.inr a0)), (1, .inl a1), (2, .inr (.inl a2)), (4, .inl a3)] (by decide) rfl dX12_seeks_100 ?_
          refine GW.sub [3, 4, 5, 6, 2, 1, 0] rfl ?_
          -- loop at 102
          have L159 : ∀ (μ : Nat) (x157 : Int) (h158 : Hp), (40 - x157).toNat = μ → Okh h158 → Fx [2462, 2469, 32620000, 32820000, 33020000, 33220000, 33420000, 33620000, 34020200, 34220000, 34420400] h144 h158 → ((0 : Int) ≤ x157 ∧ x157 ≤ (40 : Int)) → (IG h h158 a0 a1) → GW p l e (rmm 7 173 0 0) s m (List.map toV [.inr (.inr a0), .inl a1, .inr (.inl a2), .inl a3]).toArray below meth c D cy z0 9 (MQ below (QV D cy z0 (fun h1 => Okh h1 ∧ Fx wr_k_seeks_2 h h1 ∧ (IG h h1 a0 a1))) (List.map toV [.inr (.inr a0), .inl a1, .inr (.inl a2), .inl a3]).toArray s 0 0 (Aof z0)) 102 [(0, .inr (.inr a0)), (1, .inl a1), (2, .inr (.inl a2)), (4, .inl a3), (5, .inl (w32 (r1 + r9))), (6, .inr (.inl v154)), (8, .inl x157)] [] h158 0 0 := by
            intro μ
            induction μ using Nat.strongRecOn with
            | ind μ ih160 =>
              intro x157 h158 hm161 O162 F163 f164 p165
              refine g_iload C 6 rfl dX12_seeks_102 ?_
              refine g_aload_n C rfl 0 rfl dX12_seeks_104 ?_
              have e166 : Tg h158 a0 = 12 := (fxT F163 e153)
              obtain ⟨v167, e168⟩ : ∃ z, Iv h158 a0 40 = z := ⟨_, rfl⟩
              have f169 := ok_I O162 e166 rI_12_40 e168
              refine gf_I C fk_LandSurveyModel_423 rfl e166 e168 dX12_seeks_105 ?_
              refine g_icmp_ge C (iw f164 (by decide) (by decide)) (iw f169 (by decide) (by decide)) 148 (by decide) dX12_seeks_108 (fun q170 => ?_) (fun q171 => ?_)
              · exact g_vret C hr ⟨O162, ((((((Fx.rf (wr := wr_k_seeks_2)).call F6 rfl).call F14 rfl).call F141 rfl).call F148 rfl).call F163 rfl), p165⟩ (by decide) (by decide) dX12_seeks_148
              · have f172 : (0 : Int) ≤ x157 ∧ x157 ≤ (39 : Int) := r_lt f164 f169 q171 (by decide) (by decide)
                have f173 : (1 : Int) ≤ v167 ∧ v167 ≤ (40 : Int) := r_gt f169 f164 q171 (by decide) (by decide)
                refine g_iload C 3 rfl dX12_seeks_111 ?_
                refine g_iconst C dX12_seeks_113 ?_
                refine g_icmp_ge C (iw fa3 (by decide) (by decide)) (iw (il 3) (by decide) (by decide)) 148 (by decide) dX12_seeks_114 (fun q174 => ?_) (fun q175 => ?_)
                · exact (no_le (il 3) fa3 q174 (by decide)).elim
                · refine g_lload C 5 rfl dX12_seeks_117 ?_
                  refine g_iload C 6 rfl dX12_seeks_119 ?_
                  refine g_callI (st := []) (gc_S C lk_LandSurveyModel_487 (k_X12_isIn l D cy w z0 O162 f156 (iw f172 (by decide) (by decide))) rfl ⟨by decide, by decide⟩ (Nat.le_of_ble_eq_true rfl) dX12_seeks_121 ⟨(by decide), (by decide)⟩) (fun r176 h177 f179 K178 => ?_)
                  obtain ⟨O180, F181, f182⟩ := K178
                  refine g_if_eq C (iw f182 (by decide) (by decide)) 142 (by decide) dX12_seeks_124 (fun q183 => ?_) (fun q184 => ?_)
                  · have f185 : (0 : Int) ≤ r176 ∧ r176 ≤ (0 : Int) := ii f182 (r_eq (il 0) q183) (by decide) (by decide)
                    have f186 : (1 : Int) ≤ (x157 + 1) ∧ (x157 + 1) ≤ (40 : Int) := ia_add f172 (il 1) (by decide) (by decide)
                    refine g_iinc C [(8, .inl (x157 + 1)), (0, .inr (.inr a0)), (1, .inl a1), (2, .inr (.inl a2)), (4, .inl a3), (5, .inl (w32 (r1 + r9))), (6, .inr (.inl v154))] 6 rfl (by decide) rfl dX12_seeks_142 ?_
                    refine g_goto C 102 (by decide) dX12_seeks_145 ?_
                    refine GW.sub [1, 2, 3, 4, 5, 6, 0] rfl ?_
                    have p187 := (IG.trans p165 (IG_fx O162 F181 e166 rfl))
                    exact ih160 _ (by omega) (x157 + 1) h177 rfl O180 (F163.call F181 rfl) (iw f186 (by decide) (by decide)) p187
                  · have f188 : (1 : Int) ≤ r176 ∧ r176 ≤ (1 : Int) := r_nl f182 q184
                    refine g_aload_n C rfl 0 rfl dX12_seeks_127 ?_
                    refine g_iload_n C rfl 1 rfl dX12_seeks_128 ?_
                    refine g_lload_n C rfl 2 rfl dX12_seeks_129 ?_
                    refine g_lconst (z := 1) C (by decide) dX12_seeks_130 ?_
                    refine g_iload C 6 rfl dX12_seeks_131 ?_
                    refine g_lshl C dX12_seeks_133 ?_
                    have f189 : (-9223372036854775808 : Int) ≤ (lShl 1 x157) ∧ (lShl 1 x157) ≤ (9223372036854775807 : Int) := inL_of _
                    refine g_lor C dX12_seeks_134 ?_
                    have f190 : (-9223372036854775808 : Int) ≤ (lOr a2 (lShl 1 x157)) ∧ (lOr a2 (lShl 1 x157)) ≤ (9223372036854775807 : Int) := inL_of _
                    refine g_iload C 3 rfl dX12_seeks_135 ?_
                    refine g_iconst C dX12_seeks_137 ?_
                    have f191 : (3 : Int) ≤ (a3 + 1) ∧ (a3 + 1) ≤ (3 : Int) := ia_add fa3 (il 1) (by decide) (by decide)
                    refine g_iadd C dX12_seeks_138 ?_
                    have e192 : Tg h177 a0 = 12 := (fxT F181 e166)
                    refine g_callV (st := []) (gc_V C lk_LandSurveyModel_530 (k_seeks_3 l D cy w z0 O180 e192 fa1 f190 f191) e192 rfl rfl rfl ⟨by decide, by decide⟩ (Nat.le_of_ble_eq_true rfl) dX12_seeks_139 ⟨(by decide), (by decide)⟩) (fun h194 K195 => ?_)
                    obtain ⟨O197, F198, p199⟩ := K195
                    have f200 : (1 : Int) ≤ (x157 + 1) ∧ (x157 + 1) ≤ (40 : Int) := ia_add f172 (il 1) (by decide) (by decide)
                    refine g_iinc C [(8, .inl (x157 + 1)), (0, .inr (.inr a0)), (1, .inl a1), (2, .inr (.inl a2)), (4, .inl a3), (5, .inl (w32 (r1 + r9))), (6, .inr (.inl v154))] 6 rfl (by decide) rfl dX12_seeks_142 ?_
                    refine g_goto C 102 (by decide) dX12_seeks_145 ?_
                    refine GW.sub [1, 2, 3, 4, 5, 6, 0] rfl ?_
                    have p201 := (IG.trans (IG.trans p165 (IG_fx O162 F181 e166 rfl)) p199)
                    exact ih160 _ (by omega) (x157 + 1) h194 rfl O197 ((F163.call F181 rfl).call F198 rfl) (iw f200 (by decide) (by decide)) p201
          have p202 := (IG.trans (IG.trans (IG.trans (IG.trans (IG.rf (h := h) (m := a0) (s := a1)) (IG_fx O F6 ta0 rfl)) (IG_fx O5 F14 e8 rfl)) (IG_fx O13 F141 e17 rfl)) (IG_fx O140 F148 e142 rfl))
          exact L159 _ 0 h144 rfl O147 Fx.rf (iw (il 0) (by decide) (by decide)) p202
        · have f203 : (1 : Int) ≤ r143 ∧ r143 ≤ (1 : Int) := r_nl f149 q151
          refine g_aload_n C rfl 1 rfl dX12_seeks_70 ?_
          have e204 : Tg h144 a0 = 12 := (fxT F148 e142)
          have e205 : Rv h144 a0 70 = v18 := ((fxR F148 e142 rfl).trans ((fxR F141 e17 rfl).trans e19))
          refine gf_R C fk_LandSurveyModel_251 rfl e204 e205 dX12_seeks_71 ?_
          refine g_iload_n C rfl 2 rfl dX12_seeks_74 ?_
          refine g_iconst C dX12_seeks_75 ?_
          have e206 : Tg h144 v18 = 170101 := (fxT F148 (fxT F141 t20))
          have e207 : Tg h137 v18 = 170101 := (fxT F141 t20)
          have e208 : Ln h144 v18 = 16 := ((fxL F148 e207).trans ((fxL F141 t20).trans l21))
          refine g_zast C e206 rfl e208 (ix fa1 (by decide) (by decide)) (iw (il 1) (by decide) (by decide)) dX12_seeks_76 (fun h210 hh209 => ?_)
          have O211 := O147.pIa e206 ar_170101 hh209 rI_170101_0 (iw (il 1) (by decide) (by decide)) nofun
          refine g_aload_n C rfl 1 rfl dX12_seeks_77 ?_
          have e212 : Tg h210 a0 = 12 := ((pIT hh209).trans e204)
          have e213 : Rv h210 a0 71 = v122 := ((pIR hh209).trans ((fxR F148 e142 rfl).trans ((fxR F141 e17 rfl).trans e123)))
          refine gf_R C fk_LandSurveyModel_254 rfl e212 e213 dX12_seeks_78 ?_
          refine g_iload_n C rfl 2 rfl dX12_seeks_81 ?_
          refine g_iload C 0 rfl dX12_seeks_82 ?_
          have e214 : Tg h210 v122 = 171100 := ((pIT hh209).trans (fxT F148 (fxT F141 t124)))
          have e215 : Tg h137 v122 = 171100 := (fxT F141 t124)
          have e216 : Ln h210 v122 = 16 := ((pIL hh209).trans ((fxL F148 e215).trans ((fxL F141 t124).trans l125)))
          refine g_iast C e214 rfl e216 (ix fa1 (by decide) (by decide)) f16 dX12_seeks_84 (fun h218 hh217 => ?_)
          have O219 := O211.pIa e214 ar_171100 hh217 rI_171100_0 f16 nofun
          refine g_aload_n C rfl 1 rfl dX12_seeks_85 ?_
          have e220 : Tg h218 a0 = 12 := ((pIT hh217).trans e212)
          obtain ⟨v221, e222⟩ : ∃ z, Rv h218 a0 72 = z := ⟨_, rfl⟩
          have t223 := ok_R O219 e220 rE_12_72 e222
          have l224 := ok_L O219 e220 rE_12_72 e222
          refine gf_R C fk_LandSurveyModel_257 rfl e220 e222 dX12_seeks_86 ?_
          refine g_iload_n C rfl 2 rfl dX12_seeks_89 ?_
          refine g_lload_n C rfl 3 rfl dX12_seeks_90 ?_
          refine g_last C t223 rfl l224 (ix fa1 (by decide) (by decide)) fa2 dX12_seeks_91 (fun h226 hh225 => ?_)
          have O227 := O219.pJ hh225 fa2
          have p228 := (IG.trans (IG.trans (IG.trans (IG.trans (IG.trans (IG.trans (IG.trans (IG.rf (h := h) (m := a0) (s := a1)) (IG_fx O F6 ta0 rfl)) (IG_fx O5 F14 e8 rfl)) (IG_fx O13 F141 e17 rfl)) (IG_fx O140 F148 e142 rfl)) (IG_w hh209 (by omega))) (IG_fx O211 ((Fx.rf (wr := [34220000]) (h := h210)).pIa e214 ar_171100 hh217 rfl) e212 rfl)) (IG_fx O219 ((Fx.rf (wr := [34420400]) (h := h218)).pJa t223 ar_172102 hh225 rfl) e220 rfl))
          exact g_vret C hr ⟨O227, ((((((((Fx.rf (wr := wr_k_seeks_2)).call F6 rfl).call F14 rfl).call F141 rfl).call F148 rfl).pIa e206 ar_170101 hh209 rfl).pIa e214 ar_171100 hh217 rfl).pJa t223 ar_172102 hh225 rfl), p228⟩ (by decide) (by decide) dX12_seeks_92
      · refine g_lload_n C rfl 3 rfl dX12_seeks_44 ?_
        refine g_aload_n C rfl 1 rfl dX12_seeks_45 ?_
        obtain ⟨v229, e230⟩ : ∃ z, Rv h10 a0 72 = z := ⟨_, rfl⟩
        have t231 := ok_R O13 e17 rE_12_72 e230
        have l232 := ok_L O13 e17 rE_12_72 e230
        refine gf_R C fk_LandSurveyModel_257 rfl e17 e230 dX12_seeks_46 ?_
        refine g_iload_n C rfl 2 rfl dX12_seeks_49 ?_
        obtain ⟨v233, e234⟩ : ∃ z, Jv h10 v229 a1.toNat = z := ⟨_, rfl⟩
        have f235 := inL_J O13 e234
        refine g_lald C t231 rfl l232 (ix fa1 (by decide) (by decide)) e234 dX12_seeks_50 ?_
        refine g_lcmp C fa2 f235 dX12_seeks_51 ?_
        have f236 : (-1 : Int) ≤ (lC a2 v233) ∧ (lC a2 v233) ≤ (1 : Int) := lC_rng _ _
        refine g_if_lt C (iw f236 (by decide) (by decide)) 56 (by decide) dX12_seeks_52 (fun q237 => ?_) (fun q238 => ?_)
        · have q239 : a2 < v233 := lC_lt.mp q237
          have f240 : (-9223372036854775808 : Int) ≤ a2 ∧ a2 ≤ (9223372036854775806 : Int) := r_lt fa2 f235 q239 (by decide) (by decide)
          have f241 : (-9223372036854775807 : Int) ≤ v233 ∧ v233 ≤ (9223372036854775807 : Int) := r_gt f235 fa2 q239 (by decide) (by decide)
          refine g_aload_n C rfl 1 rfl dX12_seeks_56 ?_
          refine g_iload_n C rfl 2 rfl dX12_seeks_57 ?_
          refine g_lload_n C rfl 3 rfl dX12_seeks_58 ?_
          refine g_iconst C dX12_seeks_59 ?_
          refine g_callV (st := []) (gc_V C lk_LandSurveyModel_523 (k_X12_findBounds l D cy w z0 O13 e17 fa1 (iw f240 (by decide) (by decide)) (iw (il 1) (by decide) (by decide))) e17 rfl rfl rfl ⟨by decide, by decide⟩ (Nat.le_of_ble_eq_true rfl) dX12_seeks_60 ⟨(by decide), (by decide)⟩) (fun h243 K244 => ?_)
          obtain ⟨O246, F247⟩ := K244
          refine g_aload_n C rfl 1 rfl dX12_seeks_63 ?_
          have e248 : Tg h243 a0 = 12 := (fxT F247 e17)
          refine g_callI (st := []) (gc_V C lk_LandSurveyModel_527 (k_X12_goesTogether l D cy w z0 O246 e248) e248 rfl rfl rfl ⟨by decide, by decide⟩ (Nat.le_of_ble_eq_true rfl) dX12_seeks_64 ⟨(by decide), (by decide)⟩) (fun r249 h250 f252 K251 => ?_)
          obtain ⟨O253, F254, f255⟩ := K251
          refine g_if_eq C (iw f255 (by decide) (by decide)) 93 (by decide) dX12_seeks_67 (fun q256 => ?_) (fun q257 => ?_)
          · have f258 : (0 : Int) ≤ r249 ∧ r249 ≤ (0 : Int) := ii f255 (r_eq (il 0) q256) (by decide) (by decide)
            refine g_aload_n C rfl 1 rfl dX12_seeks_93 ?_
            have e259 : Tg h250 a0 = 12 := (fxT F254 e248)
            obtain ⟨v260, e261⟩ : ∃ z, Jv h250 a0 69 = z := ⟨_, rfl⟩
            have f262 := inL_J O253 e261
            refine gf_J C fk_LandSurveyModel_512 rfl e259 e261 dX12_seeks_94 ?_
            refine g_lstore C [(6, .inr (.inl v260)), (5, .inl (w32 (r1 + r9))), (0, .inr (.inr a0)), (1, .inl a1), (2, .inr (.inl a2)), (4, .inl a3)] (by decide) rfl dX12_seeks_97 ?_
            refine g_iconst C dX12_seeks_99 ?_
            refine g_istore C [(8, .inl 0), (6, .inr (.inl v260)), (5, .inl (w32 (r1 + r9))), (0, .inr (.inr a0)), (1, .inl a1), (2, .inr (.inl a2)), (4, .inl a3)] (by decide) rfl dX12_seeks_100 ?_
            refine GW.sub [3, 4, 5, 6, 2, 1, 0] rfl ?_
            -- loop at 102
            have L265 : ∀ (μ : Nat) (x263 : Int) (h264 : Hp), (40 - x263).toNat = μ → Okh h264 → Fx [2462, 2469, 32620000, 32820000, 33020000, 33220000, 33420000, 33620000, 34020200, 34220000, 34420400] h250 h264 → ((0 : Int) ≤ x263 ∧ x263 ≤ (40 : Int)) → (IG h h264 a0 a1) → GW p l e (rmm 7 173 0 0) s m (List.map toV [.inr (.inr a0), .inl a1, .inr (.inl a2), .inl a3]).toArray below meth c D cy z0 9 (MQ below (QV D cy z0 (fun h1 => Okh h1 ∧ Fx wr_k_seeks_2 h h1 ∧ (IG h h1 a0 a1))) (List.map toV [.inr (.inr a0), .inl a1, .inr (.inl a2), .inl a3]).toArray s 0 0 (Aof z0)) 102 [(0, .inr (.inr a0)), (1, .inl a1), (2, .inr (.inl a2)), (4, .inl a3), (5, .inl (w32 (r1 + r9))), (6, .inr (.inl v260)), (8, .inl x263)] [] h264 0 0 := by
              intro μ
              induction μ using Nat.strongRecOn with
              | ind μ ih266 =>
                intro x263 h264 hm267 O268 F269 f270 p271
                refine g_iload C 6 rfl dX12_seeks_102 ?_
                refine g_aload_n C rfl 0 rfl dX12_seeks_104 ?_
                have e272 : Tg h264 a0 = 12 := (fxT F269 e259)
                obtain ⟨v273, e274⟩ : ∃ z, Iv h264 a0 40 = z := ⟨_, rfl⟩
                have f275 := ok_I O268 e272 rI_12_40 e274
                refine gf_I C fk_LandSurveyModel_423 rfl e272 e274 dX12_seeks_105 ?_
                refine g_icmp_ge C (iw f270 (by decide) (by decide)) (iw f275 (by decide) (by decide)) 148 (by decide) dX12_seeks_108 (fun q276 => ?_) (fun q277 => ?_)
                · exact g_vret C hr ⟨O268, ((((((Fx.rf (wr := wr_k_seeks_2)).call F6 rfl).call F14 rfl).call F247 rfl).call F254 rfl).call F269 rfl), p271⟩ (by decide) (by decide) dX12_seeks_148
                · have f278 : (0 : Int) ≤ x263 ∧ x263 ≤ (39 : Int) := r_lt f270 f275 q277 (by decide) (by decide)
                  have f279 : (1 : Int) ≤ v273 ∧ v273 ≤ (40 : Int) := r_gt f275 f270 q277 (by decide) (by decide)
                  refine g_iload C 3 rfl dX12_seeks_111 ?_
                  refine g_iconst C dX12_seeks_113 ?_
                  refine g_icmp_ge C (iw fa3 (by decide) (by decide)) (iw (il 3) (by decide) (by decide)) 148 (by decide) dX12_seeks_114 (fun q280 => ?_) (fun q281 => ?_)
                  · exact (no_le (il 3) fa3 q280 (by decide)).elim
                  · refine g_lload C 5 rfl dX12_seeks_117 ?_
                    refine g_iload C 6 rfl dX12_seeks_119 ?_
                    refine g_callI (st := []) (gc_S C lk_LandSurveyModel_487 (k_X12_isIn l D cy w z0 O268 f262 (iw f278 (by decide) (by decide))) rfl ⟨by decide, by decide⟩ (Nat.le_of_ble_eq_true rfl) dX12_seeks_121 ⟨(by decide), (by decide)⟩) (fun r282 h283 f285 K284 => ?_)
                    obtain ⟨O286, F287, f288⟩ := K284
                    refine g_if_eq C (iw f288 (by decide) (by decide)) 142 (by decide) dX12_seeks_124 (fun q289 => ?_) (fun q290 => ?_)
                    · have f291 : (0 : Int) ≤ r282 ∧ r282 ≤ (0 : Int) := ii f288 (r_eq (il 0) q289) (by decide) (by decide)
                      have f292 : (1 : Int) ≤ (x263 + 1) ∧ (x263 + 1) ≤ (40 : Int) := ia_add f278 (il 1) (by decide) (by decide)
                      refine g_iinc C [(8, .inl (x263 + 1)), (0, .inr (.inr a0)), (1, .inl a1), (2, .inr (.inl a2)), (4, .inl a3), (5, .inl (w32 (r1 + r9))), (6, .inr (.inl v260))] 6 rfl (by decide) rfl dX12_seeks_142 ?_
                      refine g_goto C 102 (by decide) dX12_seeks_145 ?_
                      refine GW.sub [1, 2, 3, 4, 5, 6, 0] rfl ?_
                      have p293 := (IG.trans p271 (IG_fx O268 F287 e272 rfl))
                      exact ih266 _ (by omega) (x263 + 1) h283 rfl O286 (F269.call F287 rfl) (iw f292 (by decide) (by decide)) p293
                    · have f294 : (1 : Int) ≤ r282 ∧ r282 ≤ (1 : Int) := r_nl f288 q290
                      refine g_aload_n C rfl 0 rfl dX12_seeks_127 ?_
                      refine g_iload_n C rfl 1 rfl dX12_seeks_128 ?_
                      refine g_lload_n C rfl 2 rfl dX12_seeks_129 ?_
                      refine g_lconst (z := 1) C (by decide) dX12_seeks_130 ?_
                      refine g_iload C 6 rfl dX12_seeks_131 ?_
                      refine g_lshl C dX12_seeks_133 ?_
                      have f295 : (-9223372036854775808 : Int) ≤ (lShl 1 x263) ∧ (lShl 1 x263) ≤ (9223372036854775807 : Int) := inL_of _
                      refine g_lor C dX12_seeks_134 ?_
                      have f296 : (-9223372036854775808 : Int) ≤ (lOr a2 (lShl 1 x263)) ∧ (lOr a2 (lShl 1 x263)) ≤ (9223372036854775807 : Int) := inL_of _
                      refine g_iload C 3 rfl dX12_seeks_135 ?_
                      refine g_iconst C dX12_seeks_137 ?_
                      have f297 : (3 : Int) ≤ (a3 + 1) ∧ (a3 + 1) ≤ (3 : Int) := ia_add fa3 (il 1) (by decide) (by decide)
                      refine g_iadd C dX12_seeks_138 ?_
                      have e298 : Tg h283 a0 = 12 := (fxT F287 e272)
                      refine g_callV (st := []) (gc_V C lk_LandSurveyModel_530 (k_seeks_3 l D cy w z0 O286 e298 fa1 f296 f297) e298 rfl rfl rfl ⟨by decide, by decide⟩ (Nat.le_of_ble_eq_true rfl) dX12_seeks_139 ⟨(by decide), (by decide)⟩) (fun h300 K301 => ?_)
                      obtain ⟨O303, F304, p305⟩ := K301
                      have f306 : (1 : Int) ≤ (x263 + 1) ∧ (x263 + 1) ≤ (40 : Int) := ia_add f278 (il 1) (by decide) (by decide)
                      refine g_iinc C [(8, .inl (x263 + 1)), (0, .inr (.inr a0)), (1, .inl a1), (2, .inr (.inl a2)), (4, .inl a3), (5, .inl (w32 (r1 + r9))), (6, .inr (.inl v260))] 6 rfl (by decide) rfl dX12_seeks_142 ?_
                      refine g_goto C 102 (by decide) dX12_seeks_145 ?_
                      refine GW.sub [1, 2, 3, 4, 5, 6, 0] rfl ?_
                      have p307 := (IG.trans (IG.trans p271 (IG_fx O268 F287 e272 rfl)) p305)
                      exact ih266 _ (by omega) (x263 + 1) h300 rfl O303 ((F269.call F287 rfl).call F304 rfl) (iw f306 (by decide) (by decide)) p307
            have p308 := (IG.trans (IG.trans (IG.trans (IG.trans (IG.rf (h := h) (m := a0) (s := a1)) (IG_fx O F6 ta0 rfl)) (IG_fx O5 F14 e8 rfl)) (IG_fx O13 F247 e17 rfl)) (IG_fx O246 F254 e248 rfl))
            exact L265 _ 0 h250 rfl O253 Fx.rf (iw (il 0) (by decide) (by decide)) p308
          · have f309 : (1 : Int) ≤ r249 ∧ r249 ≤ (1 : Int) := r_nl f255 q257
            refine g_aload_n C rfl 1 rfl dX12_seeks_70 ?_
            have e310 : Tg h250 a0 = 12 := (fxT F254 e248)
            have e311 : Rv h250 a0 70 = v18 := ((fxR F254 e248 rfl).trans ((fxR F247 e17 rfl).trans e19))
            refine gf_R C fk_LandSurveyModel_251 rfl e310 e311 dX12_seeks_71 ?_
            refine g_iload_n C rfl 2 rfl dX12_seeks_74 ?_
            refine g_iconst C dX12_seeks_75 ?_
            have e312 : Tg h250 v18 = 170101 := (fxT F254 (fxT F247 t20))
            have e313 : Tg h243 v18 = 170101 := (fxT F247 t20)
            have e314 : Ln h250 v18 = 16 := ((fxL F254 e313).trans ((fxL F247 t20).trans l21))
            refine g_zast C e312 rfl e314 (ix fa1 (by decide) (by decide)) (iw (il 1) (by decide) (by decide)) dX12_seeks_76 (fun h316 hh315 => ?_)
            have O317 := O253.pIa e312 ar_170101 hh315 rI_170101_0 (iw (il 1) (by decide) (by decide)) nofun
            refine g_aload_n C rfl 1 rfl dX12_seeks_77 ?_
            have e318 : Tg h316 a0 = 12 := ((pIT hh315).trans e310)
            have e319 : Rv h316 a0 71 = v122 := ((pIR hh315).trans ((fxR F254 e248 rfl).trans ((fxR F247 e17 rfl).trans e123)))
            refine gf_R C fk_LandSurveyModel_254 rfl e318 e319 dX12_seeks_78 ?_
            refine g_iload_n C rfl 2 rfl dX12_seeks_81 ?_
            refine g_iload C 0 rfl dX12_seeks_82 ?_
            have e320 : Tg h316 v122 = 171100 := ((pIT hh315).trans (fxT F254 (fxT F247 t124)))
            have e321 : Tg h243 v122 = 171100 := (fxT F247 t124)
            have e322 : Ln h316 v122 = 16 := ((pIL hh315).trans ((fxL F254 e321).trans ((fxL F247 t124).trans l125)))
            refine g_iast C e320 rfl e322 (ix fa1 (by decide) (by decide)) f16 dX12_seeks_84 (fun h324 hh323 => ?_)
            have O325 := O317.pIa e320 ar_171100 hh323 rI_171100_0 f16 nofun
            refine g_aload_n C rfl 1 rfl dX12_seeks_85 ?_
            have e326 : Tg h324 a0 = 12 := ((pIT hh323).trans e318)
            have e327 : Rv h324 a0 72 = v229 := ((pIR hh323).trans ((pIR hh315).trans ((fxR F254 e248 rfl).trans ((fxR F247 e17 rfl).trans e230))))
            refine gf_R C fk_LandSurveyModel_257 rfl e326 e327 dX12_seeks_86 ?_
            refine g_iload_n C rfl 2 rfl dX12_seeks_89 ?_
            refine g_lload_n C rfl 3 rfl dX12_seeks_90 ?_
            have e328 : Tg h324 v229 = 172102 := ((pIT hh323).trans ((pIT hh315).trans (fxT F254 (fxT F247 t231))))
            have e329 : Tg h243 v229 = 172102 := (fxT F247 t231)
            have e330 : Ln h324 v229 = 16 := ((pIL hh323).trans ((pIL hh315).trans ((fxL F254 e329).trans ((fxL F247 t231).trans l232))))
            refine g_last C e328 rfl e330 (ix fa1 (by decide) (by decide)) (iw f240 (by decide) (by decide)) dX12_seeks_91 (fun h332 hh331 => ?_)
            have O333 := O325.pJ hh331 (iw f240 (by decide) (by decide))
            have p334 := (IG.trans (IG.trans (IG.trans (IG.trans (IG.trans (IG.trans (IG.trans (IG.rf (h := h) (m := a0) (s := a1)) (IG_fx O F6 ta0 rfl)) (IG_fx O5 F14 e8 rfl)) (IG_fx O13 F247 e17 rfl)) (IG_fx O246 F254 e248 rfl)) (IG_w hh315 (by omega))) (IG_fx O317 ((Fx.rf (wr := [34220000]) (h := h316)).pIa e320 ar_171100 hh323 rfl) e318 rfl)) (IG_fx O325 ((Fx.rf (wr := [34420400]) (h := h324)).pJa e328 ar_172102 hh331 rfl) e326 rfl))
            exact g_vret C hr ⟨O333, ((((((((Fx.rf (wr := wr_k_seeks_2)).call F6 rfl).call F14 rfl).call F247 rfl).call F254 rfl).pIa e312 ar_170101 hh315 rfl).pIa e320 ar_171100 hh323 rfl).pJa e328 ar_172102 hh331 rfl), p334⟩ (by decide) (by decide) dX12_seeks_92
        · have q335 : v233 ≤ a2 := lC_ge.mp q238
          have p336 := (IG.trans (IG.trans (IG.rf (h := h) (m := a0) (s := a1)) (IG_fx O F6 ta0 rfl)) (IG_fx O5 F14 e8 rfl))
          exact g_vret C hr ⟨O13, (((Fx.rf (wr := wr_k_seeks_2)).call F6 rfl).call F14 rfl), p336⟩ (by decide) (by decide) dX12_seeks_55
def wr_k_seeks_1 : List Nat := [2462, 2469, 32620000, 32820000, 33020000, 33220000, 33420000, 33620000, 34020200, 34220000, 34420400]
set_option maxRecDepth 100000 in
set_option maxHeartbeats 4000000 in
theorem k_seeks_1 (l : Launch) (D : va_G) (cy : Nat → ClassId) (w : Nat → Nat) (z0 : Nat)  {h : Hp} {a0 : Nat} {a1 : Int} {a2 : Int} {a3 : Int}  (O : Okh h) (ta0 : Tg h a0 = 12) (fa1 : 0 ≤ a1 ∧ a1 ≤ 15) (fa2 : (-9223372036854775808) ≤ a2 ∧ a2 ≤ 9223372036854775807) (fa3 : 1 ≤ a3 ∧ a3 ≤ 1) : MV l D cy w z0 yX12_seeks cX12_seeks 9 none 8 201 0 0 [.inr (.inr a0), .inl a1, .inr (.inl a2), .inl a3] h (fun h1 => Okh h1 ∧ Fx wr_k_seeks_1 h h1 ∧ (IG h h1 a0 a1)) := by
  refine hm_go (by decide +kernel) (Nat.le_of_ble_eq_true rfl) (fun p e s m below meth c C hr hn => ?_)
  refine g_aload_n C rfl 0 rfl dX12_seeks_0 ?_
  refine g_iload_n C rfl 1 rfl dX12_seeks_1 ?_
  refine g_callI (st := []) (gc_V C lk_LandSurveyModel_516 (k_X12_breaksCost l D cy w z0 O ta0 (iw fa1 (by decide) (by decide))) ta0 rfl rfl rfl ⟨by decide, by decide⟩ (Nat.le_of_ble_eq_true rfl) dX12_seeks_2 ⟨(by decide), (by decide)⟩) (fun r1 h2 f4 K3 => ?_)
  obtain ⟨O5, F6, f7⟩ := K3
  refine g_aload_n C rfl 0 rfl dX12_seeks_5 ?_
  refine g_lload_n C rfl 2 rfl dX12_seeks_6 ?_
  have e8 : Tg h2 a0 = 12 := (fxT F6 ta0)
  refine g_callI (st := [.inl r1]) (gc_V C lk_LandSurveyModel_519 (k_X12_costOf l D cy w z0 O5 e8 fa2) e8 rfl rfl rfl ⟨by decide, by decide⟩ (Nat.le_of_ble_eq_true rfl) dX12_seeks_7 ⟨(by decide), (by decide)⟩) (fun r9 h10 f12 K11 => ?_)
  obtain ⟨O13, F14, f15⟩ := K11
  have f16 : (-2147483648 : Int) ≤ (w32 (r1 + r9)) ∧ (w32 (r1 + r9)) ≤ (2147483647 : Int) := w32_inR _
  refine g_iaddW C dX12_seeks_10 ?_
  refine g_istore C [(5, .inl (w32 (r1 + r9))), (0, .inr (.inr a0)), (1, .inl a1), (2, .inr (.inl a2)), (4, .inl a3)] (by decide) rfl dX12_seeks_11 ?_
  refine g_aload_n C rfl 1 rfl dX12_seeks_13 ?_
  have e17 : Tg h10 a0 = 12 := (fxT F14 e8)
  obtain ⟨v18, e19⟩ : ∃ z, Rv h10 a0 70 = z := ⟨_, rfl⟩
  have t20 := ok_R O13 e17 rE_12_70 e19
  have l21 := ok_L O13 e17 rE_12_70 e19
  refine gf_R C fk_LandSurveyModel_251 rfl e17 e19 dX12_seeks_14 ?_
  refine g_iload_n C rfl 2 rfl dX12_seeks_17 ?_
  obtain ⟨v22, e23⟩ : ∃ z, Iv h10 v18 a1.toNat = z := ⟨_, rfl⟩
  have f24 := ok_Ia O13 t20 ar_170101 rI_170101_0 e23
  refine g_zald C t20 rfl l21 (ix fa1 (by decide) (by decide)) e23 dX12_seeks_18 ?_
  refine g_if_eq C (iw f24 (by decide) (by decide)) 56 (by decide) dX12_seeks_19 (fun q25 => ?_) (fun q26 => ?_)
  · have f27 : (0 : Int) ≤ v22 ∧ v22 ≤ (0 : Int) := ii f24 (r_eq (il 0) q25) (by decide) (by decide)
    refine g_aload_n C rfl 1 rfl dX12_seeks_56 ?_
    refine g_iload_n C rfl 2 rfl dX12_seeks_57 ?_
    refine g_lload_n C rfl 3 rfl dX12_seeks_58 ?_
    refine g_iconst C dX12_seeks_59 ?_
    refine g_callV (st := []) (gc_V C lk_LandSurveyModel_523 (k_X12_findBounds l D cy w z0 O13 e17 fa1 fa2 (iw (il 1) (by decide) (by decide))) e17 rfl rfl rfl ⟨by decide, by decide⟩ (Nat.le_of_ble_eq_true rfl) dX12_seeks_60 ⟨(by decide), (by decide)⟩) (fun h29 K30 => ?_)
    obtain ⟨O32, F33⟩ := K30
    refine g_aload_n C rfl 1 rfl dX12_seeks_63 ?_
    have e34 : Tg h29 a0 = 12 := (fxT F33 e17)
    refine g_callI (st := []) (gc_V C lk_LandSurveyModel_527 (k_X12_goesTogether l D cy w z0 O32 e34) e34 rfl rfl rfl ⟨by decide, by decide⟩ (Nat.le_of_ble_eq_true rfl) dX12_seeks_64 ⟨(by decide), (by decide)⟩) (fun r35 h36 f38 K37 => ?_)
    obtain ⟨O39, F40, f41⟩ := K37
    refine g_if_eq C (iw f41 (by decide) (by decide)) 93 (by decide) dX12_seeks_67 (fun q42 => ?_) (fun q43 => ?_)
    · have f44 : (0 : Int) ≤ r35 ∧ r35 ≤ (0 : Int) := ii f41 (r_eq (il 0) q42) (by decide) (by decide)
      refine g_aload_n C rfl 1 rfl dX12_seeks_93 ?_
      have e45 : Tg h36 a0 = 12 := (fxT F40 e34)
      obtain ⟨v46, e47⟩ : ∃ z, Jv h36 a0 69 = z := ⟨_, rfl⟩
      have f48 := inL_J O39 e47
      refine gf_J C fk_LandSurveyModel_512 rfl e45 e47 dX12_seeks_94 ?_
      refine g_lstore C [(6, .inr (.inl v46)), (5, .inl (w32 (r1 + r9))), (0, .inr (.inr a0)), (1, .inl a1), (2, .inr (.inl a2)), (4, .inl a3)] (by decide) rfl dX12_seeks_97 ?_
      refine g_iconst C dX12_seeks_99 ?_
      refine g_istore C [(8, .inl 0), (6, .inr (.inl v46)), (5, .inl (w32 (r1 + r9))), (0, .inr (.inr a0)), (1, .inl a1), (2, .inr (.inl a2)), (4, .inl a3)] (by decide) rfl dX12_seeks_100 ?_
      refine GW.sub [3, 4, 5, 6, 2, 1, 0] rfl ?_
      -- loop at 102
      have L51 : ∀ (μ : Nat) (x49 : Int) (h50 : Hp), (40 - x49).toNat = μ → Okh h50 → Fx [2462, 2469, 32620000, 32820000, 33020000, 33220000, 33420000, 33620000, 34020200, 34220000, 34420400] h36 h50 → ((0 : Int) ≤ x49 ∧ x49 ≤ (40 : Int)) → (IG h h50 a0 a1) → GW p l e (rmm 8 201 0 0) s m (List.map toV [.inr (.inr a0), .inl a1, .inr (.inl a2), .inl a3]).toArray below meth c D cy z0 9 (MQ below (QV D cy z0 (fun h1 => Okh h1 ∧ Fx wr_k_seeks_1 h h1 ∧ (IG h h1 a0 a1))) (List.map toV [.inr (.inr a0), .inl a1, .inr (.inl a2), .inl a3]).toArray s 0 0 (Aof z0)) 102 [(0, .inr (.inr a0)), (1, .inl a1), (2, .inr (.inl a2)), (4, .inl a3), (5, .inl (w32 (r1 + r9))), (6, .inr (.inl v46)), (8, .inl x49)] [] h50 0 0 := by
        intro μ
        induction μ using Nat.strongRecOn with
        | ind μ ih52 =>
          intro x49 h50 hm53 O54 F55 f56 p57
          refine g_iload C 6 rfl dX12_seeks_102 ?_
          refine g_aload_n C rfl 0 rfl dX12_seeks_104 ?_
          have e58 : Tg h50 a0 = 12 := (fxT F55 e45)
          obtain ⟨v59, e60⟩ : ∃ z, Iv h50 a0 40 = z := ⟨_, rfl⟩
          have f61 := ok_I O54 e58 rI_12_40 e60
          refine gf_I C fk_LandSurveyModel_423 rfl e58 e60 dX12_seeks_105 ?_
          refine g_icmp_ge C (iw f56 (by decide) (by decide)) (iw f61 (by decide) (by decide)) 148 (by decide) dX12_seeks_108 (fun q62 => ?_) (fun q63 => ?_)
          · exact g_vret C hr ⟨O54, ((((((Fx.rf (wr := wr_k_seeks_1)).call F6 rfl).call F14 rfl).call F33 rfl).call F40 rfl).call F55 rfl), p57⟩ (by decide) (by decide) dX12_seeks_148
          · have f64 : (0 : Int) ≤ x49 ∧ x49 ≤ (39 : Int) := r_lt f56 f61 q63 (by decide) (by decide)
            have f65 : (1 : Int) ≤ v59 ∧ v59 ≤ (40 : Int) := r_gt f61 f56 q63 (by decide) (by decide)
            refine g_iload C 3 rfl dX12_seeks_111 ?_
            refine g_iconst C dX12_seeks_113 ?_
            refine g_icmp_ge C (iw fa3 (by decide) (by decide)) (iw (il 3) (by decide) (by decide)) 148 (by decide) dX12_seeks_114 (fun q66 => ?_) (fun q67 => ?_)
            · exact (no_le (il 3) fa3 q66 (by decide)).elim
            · refine g_lload C 5 rfl dX12_seeks_117 ?_
              refine g_iload C 6 rfl dX12_seeks_119 ?_
              refine g_callI (st := []) (gc_S C lk_LandSurveyModel_487 (k_X12_isIn l D cy w z0 O54 f48 (iw f64 (by decide) (by decide))) rfl ⟨by decide, by decide⟩ (Nat.le_of_ble_eq_true rfl) dX12_seeks_121 ⟨(by decide), (by decide)⟩) (fun r68 h69 f71 K70 => ?_)
              obtain ⟨O72, F73, f74⟩ := K70
              refine g_if_eq C (iw f74 (by decide) (by decide)) 142 (by decide) dX12_seeks_124 (fun q75 => ?_) (fun q76 => ?_)
              · have f77 : (0 : Int) ≤ r68 ∧ r68 ≤ (0 : Int) := ii f74 (r_eq (il 0) q75) (by decide) (by decide)
                have f78 : (1 : Int) ≤ (x49 + 1) ∧ (x49 + 1) ≤ (40 : Int) := ia_add f64 (il 1) (by decide) (by decide)
                refine g_iinc C [(8, .inl (x49 + 1)), (0, .inr (.inr a0)), (1, .inl a1), (2, .inr (.inl a2)), (4, .inl a3), (5, .inl (w32 (r1 + r9))), (6, .inr (.inl v46))] 6 rfl (by decide) rfl dX12_seeks_142 ?_
                refine g_goto C 102 (by decide) dX12_seeks_145 ?_
                refine GW.sub [1, 2, 3, 4, 5, 6, 0] rfl ?_
                have p79 := (IG.trans p57 (IG_fx O54 F73 e58 rfl))
                exact ih52 _ (by omega) (x49 + 1) h69 rfl O72 (F55.call F73 rfl) (iw f78 (by decide) (by decide)) p79
              · have f80 : (1 : Int) ≤ r68 ∧ r68 ≤ (1 : Int) := r_nl f74 q76
                refine g_aload_n C rfl 0 rfl dX12_seeks_127 ?_
                refine g_iload_n C rfl 1 rfl dX12_seeks_128 ?_
                refine g_lload_n C rfl 2 rfl dX12_seeks_129 ?_
                refine g_lconst (z := 1) C (by decide) dX12_seeks_130 ?_
                refine g_iload C 6 rfl dX12_seeks_131 ?_
                refine g_lshl C dX12_seeks_133 ?_
                have f81 : (-9223372036854775808 : Int) ≤ (lShl 1 x49) ∧ (lShl 1 x49) ≤ (9223372036854775807 : Int) := inL_of _
                refine g_lor C dX12_seeks_134 ?_
                have f82 : (-9223372036854775808 : Int) ≤ (lOr a2 (lShl 1 x49)) ∧ (lOr a2 (lShl 1 x49)) ≤ (9223372036854775807 : Int) := inL_of _
                refine g_iload C 3 rfl dX12_seeks_135 ?_
                refine g_iconst C dX12_seeks_137 ?_
                have f83 : (2 : Int) ≤ (a3 + 1) ∧ (a3 + 1) ≤ (2 : Int) := ia_add fa3 (il 1) (by decide) (by decide)
                refine g_iadd C dX12_seeks_138 ?_
                have e84 : Tg h69 a0 = 12 := (fxT F73 e58)
                refine g_callV (st := []) (gc_V C lk_LandSurveyModel_530 (k_seeks_2 l D cy w z0 O72 e84 fa1 f82 f83) e84 rfl rfl rfl ⟨by decide, by decide⟩ (Nat.le_of_ble_eq_true rfl) dX12_seeks_139 ⟨(by decide), (by decide)⟩) (fun h86 K87 => ?_)
                obtain ⟨O89, F90, p91⟩ := K87
                have f92 : (1 : Int) ≤ (x49 + 1) ∧ (x49 + 1) ≤ (40 : Int) := ia_add f64 (il 1) (by decide) (by decide)
                refine g_iinc C [(8, .inl (x49 + 1)), (0, .inr (.inr a0)), (1, .inl a1), (2, .inr (.inl a2)), (4, .inl a3), (5, .inl (w32 (r1 + r9))), (6, .inr (.inl v46))] 6 rfl (by decide) rfl dX12_seeks_142 ?_
                refine g_goto C 102 (by decide) dX12_seeks_145 ?_
                refine GW.sub [1, 2, 3, 4, 5, 6, 0] rfl ?_
                have p93 := (IG.trans (IG.trans p57 (IG_fx O54 F73 e58 rfl)) p91)
                exact ih52 _ (by omega) (x49 + 1) h86 rfl O89 ((F55.call F73 rfl).call F90 rfl) (iw f92 (by decide) (by decide)) p93
      have p94 := (IG.trans (IG.trans (IG.trans (IG.trans (IG.rf (h := h) (m := a0) (s := a1)) (IG_fx O F6 ta0 rfl)) (IG_fx O5 F14 e8 rfl)) (IG_fx O13 F33 e17 rfl)) (IG_fx O32 F40 e34 rfl))
      exact L51 _ 0 h36 rfl O39 Fx.rf (iw (il 0) (by decide) (by decide)) p94
    · have f95 : (1 : Int) ≤ r35 ∧ r35 ≤ (1 : Int) := r_nl f41 q43
      refine g_aload_n C rfl 1 rfl dX12_seeks_70 ?_
      have e96 : Tg h36 a0 = 12 := (fxT F40 e34)
      have e97 : Rv h36 a0 70 = v18 := ((fxR F40 e34 rfl).trans ((fxR F33 e17 rfl).trans e19))
      refine gf_R C fk_LandSurveyModel_251 rfl e96 e97 dX12_seeks_71 ?_
      refine g_iload_n C rfl 2 rfl dX12_seeks_74 ?_
      refine g_iconst C dX12_seeks_75 ?_
      have e98 : Tg h36 v18 = 170101 := (fxT F40 (fxT F33 t20))
      have e99 : Tg h29 v18 = 170101 := (fxT F33 t20)
      have e100 : Ln h36 v18 = 16 := ((fxL F40 e99).trans ((fxL F33 t20).trans l21))
      refine g_zast C e98 rfl e100 (ix fa1 (by decide) (by decide)) (iw (il 1) (by decide) (by decide)) dX12_seeks_76 (fun h102 hh101 => ?_)
      have O103 := O39.pIa e98 ar_170101 hh101 rI_170101_0 (iw (il 1) (by decide) (by decide)) nofun
      refine g_aload_n C rfl 1 rfl dX12_seeks_77 ?_
      have e104 : Tg h102 a0 = 12 := ((pIT hh101).trans e96)
      obtain ⟨v105, e106⟩ : ∃ z, Rv h102 a0 71 = z := ⟨_, rfl⟩
      have t107 := ok_R O103 e104 rE_12_71 e106
      have l108 := ok_L O103 e104 rE_12_71 e106
      refine gf_R C fk_LandSurveyModel_254 rfl e104 e106 dX12_seeks_78 ?_
      refine g_iload_n C rfl 2 rfl dX12_seeks_81 ?_
      refine g_iload C 0 rfl dX12_seeks_82 ?_
      refine g_iast C t107 rfl l108 (ix fa1 (by decide) (by decide)) f16 dX12_seeks_84 (fun h110 hh109 => ?_)
      have O111 := O103.pIa t107 ar_171100 hh109 rI_171100_0 f16 nofun
      refine g_aload_n C rfl 1 rfl dX12_seeks_85 ?_
      have e112 : Tg h110 a0 = 12 := ((pIT hh109).trans e104)
      obtain ⟨v113, e114⟩ : ∃ z, Rv h110 a0 72 = z := ⟨_, rfl⟩
      have t115 := ok_R O111 e112 rE_12_72 e114
      have l116 := ok_L O111 e112 rE_12_72 e114
      refine gf_R C fk_LandSurveyModel_257 rfl e112 e114 dX12_seeks_86 ?_
      refine g_iload_n C rfl 2 rfl dX12_seeks_89 ?_
      refine g_lload_n C rfl 3 rfl dX12_seeks_90 ?_
      refine g_last C t115 rfl l116 (ix fa1 (by decide) (by decide)) fa2 dX12_seeks_91 (fun h118 hh117 => ?_)
      have O119 := O111.pJ hh117 fa2
      have p120 := (IG.trans (IG.trans (IG.trans (IG.trans (IG.trans (IG.trans (IG.trans (IG.rf (h := h) (m := a0) (s := a1)) (IG_fx O F6 ta0 rfl)) (IG_fx O5 F14 e8 rfl)) (IG_fx O13 F33 e17 rfl)) (IG_fx O32 F40 e34 rfl)) (IG_w hh101 (by omega))) (IG_fx O103 ((Fx.rf (wr := [34220000]) (h := h102)).pIa t107 ar_171100 hh109 rfl) e104 rfl)) (IG_fx O111 ((Fx.rf (wr := [34420400]) (h := h110)).pJa t115 ar_172102 hh117 rfl) e112 rfl))
      exact g_vret C hr ⟨O119, ((((((((Fx.rf (wr := wr_k_seeks_1)).call F6 rfl).call F14 rfl).call F33 rfl).call F40 rfl).pIa e98 ar_170101 hh101 rfl).pIa t107 ar_171100 hh109 rfl).pJa t115 ar_172102 hh117 rfl), p120⟩ (by decide) (by decide) dX12_seeks_92
  · have f121 : (1 : Int) ≤ v22 ∧ v22 ≤ (1 : Int) := r_nl f24 q26
    refine g_iload C 0 rfl dX12_seeks_22 ?_
    refine g_aload_n C rfl 1 rfl dX12_seeks_24 ?_
    obtain ⟨v122, e123⟩ : ∃ z, Rv h10 a0 71 = z := ⟨_, rfl⟩
    have t124 := ok_R O13 e17 rE_12_71 e123
    have l125 := ok_L O13 e17 rE_12_71 e123
    refine gf_R C fk_LandSurveyModel_254 rfl e17 e123 dX12_seeks_25 ?_
    refine g_iload_n C rfl 2 rfl dX12_seeks_28 ?_
    obtain ⟨v126, e127⟩ : ∃ z, Iv h10 v122 a1.toNat = z := ⟨_, rfl⟩
    have f128 := ok_Ia O13 t124 ar_171100 rI_171100_0 e127
    refine g_iald C t124 rfl l125 (ix fa1 (by decide) (by decide)) e127 dX12_seeks_29 ?_
    refine g_icmp_gt C f16 f128 55 (by decide) dX12_seeks_30 (fun q129 => ?_) (fun q130 => ?_)
    · have f131 : (-2147483648 : Int) ≤ v126 ∧ v126 ≤ (2147483646 : Int) := r_lt f128 f16 q129 (by decide) (by decide)
      have f132 : (-2147483647 : Int) ≤ (w32 (r1 + r9)) ∧ (w32 (r1 + r9)) ≤ (2147483647 : Int) := r_gt f16 f128 q129 (by decide) (by decide)
      have p133 := (IG.trans (IG.trans (IG.rf (h := h) (m := a0) (s := a1)) (IG_fx O F6 ta0 rfl)) (IG_fx O5 F14 e8 rfl))
      exact g_vret C hr ⟨O13, (((Fx.rf (wr := wr_k_seeks_1)).call F6 rfl).call F14 rfl), p133⟩ (by decide) (by decide) dX12_seeks_55
    · refine g_iload C 0 rfl dX12_seeks_33 ?_
      refine g_aload_n C rfl 1 rfl dX12_seeks_35 ?_
      refine gf_R C fk_LandSurveyModel_254 rfl e17 e123 dX12_seeks_36 ?_
      refine g_iload_n C rfl 2 rfl dX12_seeks_39 ?_
      refine g_iald C t124 rfl l125 (ix fa1 (by decide) (by decide)) e127 dX12_seeks_40 ?_
      refine g_icmp_ne C f16 f128 56 (by decide) dX12_seeks_41 (fun q134 => ?_) (fun q135 => ?_)
      · refine g_aload_n C rfl 1 rfl dX12_seeks_56 ?_
        refine g_iload_n C rfl 2 rfl dX12_seeks_57 ?_
        refine g_lload_n C rfl 3 rfl dX12_seeks_58 ?_
        refine g_iconst C dX12_seeks_59 ?_
        refine g_callV (st := []) (gc_V C lk_LandSurveyModel_523 (k_X12_findBounds l D cy w z0 O13 e17 fa1 fa2 (iw (il 1) (by decide) (by decide))) e17 rfl rfl rfl ⟨by decide, by decide⟩ (Nat.le_of_ble_eq_true rfl) dX12_seeks_60 ⟨(by decide), (by decide)⟩) (fun h137 K138 => ?_)
        obtain ⟨O140, F141⟩ := K138
        refine g_aload_n C rfl 1 rfl dX12_seeks_63 ?_
        have e142 : Tg h137 a0 = 12 := (fxT F141 e17)
        refine g_callI (st := []) (gc_V C lk_LandSurveyModel_527 (k_X12_goesTogether l D cy w z0 O140 e142) e142 rfl rfl rfl ⟨by decide, by decide⟩ (Nat.le_of_ble_eq_true rfl) dX12_seeks_64 ⟨(by decide), (by decide)⟩) (fun r143 h144 f146 K145 => ?_)
        obtain ⟨O147, F148, f149⟩ := K145
        refine g_if_eq C (iw f149 (by decide) (by decide)) 93 (by decide) dX12_seeks_67 (fun q150 => ?_) (fun q151 => ?_)
        · have f152 : (0 : Int) ≤ r143 ∧ r143 ≤ (0 : Int) := ii f149 (r_eq (il 0) q150) (by decide) (by decide)
          refine g_aload_n C rfl 1 rfl dX12_seeks_93 ?_
          have e153 : Tg h144 a0 = 12 := (fxT F148 e142)
          obtain ⟨v154, e155⟩ : ∃ z, Jv h144 a0 69 = z := ⟨_, rfl⟩
          have f156 := inL_J O147 e155
          refine gf_J C fk_LandSurveyModel_512 rfl e153 e155 dX12_seeks_94 ?_
          refine g_lstore C [(6, .inr (.inl v154)), (5, .inl (w32 (r1 + r9))), (0, .inr (.inr a0)), (1, .inl a1), (2, .inr (.inl a2)), (4, .inl a3)] (by decide) rfl dX12_seeks_97 ?_
          refine g_iconst C dX12_seeks_99 ?_
          refine g_istore C [(8, .inl 0), (6, .inr (.inl v154)), (5, .inl (w32 (r1 + r9))), (0, .inr (.inr a0)), (1, .inl a1), (2, .inr (.inl a2)), (4, .inl a3)] (by decide) rfl dX12_seeks_100 ?_
          refine GW.sub [3, 4, 5, 6, 2, 1, 0] rfl ?_
          -- loop at 102
          have L159 : ∀ (μ : Nat) (x157 : Int) (h158 : Hp), (40 - x157).toNat = μ → Okh h158 → Fx [2462, 2469, 32620000, 32820000, 33020000, 33220000, 33420000, 33620000, 34020200, 34220000, 34420400] h144 h158 → ((0 : Int) ≤ x157 ∧ x157 ≤ (40 : Int)) → (IG h h158 a0 a1) → GW p l e (rmm 8 201 0 0) s m (List.map toV [.inr (.inr a0), .inl a1, .inr (.inl a2), .inl a3]).toArray below meth c D cy z0 9 (MQ below (QV D cy z0 (fun h1 => Okh h1 ∧ Fx wr_k_seeks_1 h h1 ∧ (IG h h1 a0 a1))) (List.map toV [.inr (.inr a0), .inl a1, .inr (.inl a2), .inl a3]).toArray s 0 0 (Aof z0)) 102 [(0, .inr (.inr a0)), (1, .inl a1), (2, .inr (.inl a2)), (4, .inl a3), (5, .inl (w32 (r1 + r9))), (6, .inr (.inl v154)), (8, .inl x157)] [] h158 0 0 := by
            intro μ
            induction μ using Nat.strongRecOn with
            | ind μ ih160 =>
              intro x157 h158 hm161 O162 F163 f164 p165
              refine g_iload C 6 rfl dX12_seeks_102 ?_
              refine g_aload_n C rfl 0 rfl dX12_seeks_104 ?_
              have e166 : Tg h158 a0 = 12 := (fxT F163 e153)
              obtain ⟨v167, e168⟩ : ∃ z, Iv h158 a0 40 = z := ⟨_, rfl⟩
              have f169 := ok_I O162 e166 rI_12_40 e168
              refine gf_I C fk_LandSurveyModel_423 rfl e166 e168 dX12_seeks_105 ?_
              refine g_icmp_ge C (iw f164 (by decide) (by decide)) (iw f169 (by decide) (by decide)) 148 (by decide) dX12_seeks_108 (fun q170 => ?_) (fun q171 => ?_)
              · exact g_vret C hr ⟨O162, ((((((Fx.rf (wr := wr_k_seeks_1)).call F6 rfl).call F14 rfl).call F141 rfl).call F148 rfl).call F163 rfl), p165⟩ (by decide) (by decide) dX12_seeks_148
              · have f172 : (0 : Int) ≤ x157 ∧ x157 ≤ (39 : Int) := r_lt f164 f169 q171 (by decide) (by decide)
                have f173 : (1 : Int) ≤ v167 ∧ v167 ≤ (40 : Int) := r_gt f169 f164 q171 (by decide) (by decide)
                refine g_iload C 3 rfl dX12_seeks_111 ?_
                refine g_iconst C dX12_seeks_113 ?_
                refine g_icmp_ge C (iw fa3 (by decide) (by decide)) (iw (il 3) (by decide) (by decide)) 148 (by decide) dX12_seeks_114 (fun q174 => ?_) (fun q175 => ?_)
                · exact (no_le (il 3) fa3 q174 (by decide)).elim
                · refine g_lload C 5 rfl dX12_seeks_117 ?_
                  refine g_iload C 6 rfl dX12_seeks_119 ?_
                  refine g_callI (st := []) (gc_S C lk_LandSurveyModel_487 (k_X12_isIn l D cy w z0 O162 f156 (iw f172 (by decide) (by decide))) rfl ⟨by decide, by decide⟩ (Nat.le_of_ble_eq_true rfl) dX12_seeks_121 ⟨(by decide), (by decide)⟩) (fun r176 h177 f179 K178 => ?_)
                  obtain ⟨O180, F181, f182⟩ := K178
                  refine g_if_eq C (iw f182 (by decide) (by decide)) 142 (by decide) dX12_seeks_124 (fun q183 => ?_) (fun q184 => ?_)
                  · have f185 : (0 : Int) ≤ r176 ∧ r176 ≤ (0 : Int) := ii f182 (r_eq (il 0) q183) (by decide) (by decide)
                    have f186 : (1 : Int) ≤ (x157 + 1) ∧ (x157 + 1) ≤ (40 : Int) := ia_add f172 (il 1) (by decide) (by decide)
                    refine g_iinc C [(8, .inl (x157 + 1)), (0, .inr (.inr a0)), (1, .inl a1), (2, .inr (.inl a2)), (4, .inl a3), (5, .inl (w32 (r1 + r9))), (6, .inr (.inl v154))] 6 rfl (by decide) rfl dX12_seeks_142 ?_
                    refine g_goto C 102 (by decide) dX12_seeks_145 ?_
                    refine GW.sub [1, 2, 3, 4, 5, 6, 0] rfl ?_
                    have p187 := (IG.trans p165 (IG_fx O162 F181 e166 rfl))
                    exact ih160 _ (by omega) (x157 + 1) h177 rfl O180 (F163.call F181 rfl) (iw f186 (by decide) (by decide)) p187
                  · have f188 : (1 : Int) ≤ r176 ∧ r176 ≤ (1 : Int) := r_nl f182 q184
                    refine g_aload_n C rfl 0 rfl dX12_seeks_127 ?_
                    refine g_iload_n C rfl 1 rfl dX12_seeks_128 ?_
                    refine g_lload_n C rfl 2 rfl dX12_seeks_129 ?_
                    refine g_lconst (z := 1) C (by decide) dX12_seeks_130 ?_
                    refine g_iload C 6 rfl dX12_seeks_131 ?_
                    refine g_lshl C dX12_seeks_133 ?_
                    have f189 : (-9223372036854775808 : Int) ≤ (lShl 1 x157) ∧ (lShl 1 x157) ≤ (9223372036854775807 : Int) := inL_of _
                    refine g_lor C dX12_seeks_134 ?_
                    have f190 : (-9223372036854775808 : Int) ≤ (lOr a2 (lShl 1 x157)) ∧ (lOr a2 (lShl 1 x157)) ≤ (9223372036854775807 : Int) := inL_of _
                    refine g_iload C 3 rfl dX12_seeks_135 ?_
                    refine g_iconst C dX12_seeks_137 ?_
                    have f191 : (2 : Int) ≤ (a3 + 1) ∧ (a3 + 1) ≤ (2 : Int) := ia_add fa3 (il 1) (by decide) (by decide)
                    refine g_iadd C dX12_seeks_138 ?_
                    have e192 : Tg h177 a0 = 12 := (fxT F181 e166)
                    refine g_callV (st := []) (gc_V C lk_LandSurveyModel_530 (k_seeks_2 l D cy w z0 O180 e192 fa1 f190 f191) e192 rfl rfl rfl ⟨by decide, by decide⟩ (Nat.le_of_ble_eq_true rfl) dX12_seeks_139 ⟨(by decide), (by decide)⟩) (fun h194 K195 => ?_)
                    obtain ⟨O197, F198, p199⟩ := K195
                    have f200 : (1 : Int) ≤ (x157 + 1) ∧ (x157 + 1) ≤ (40 : Int) := ia_add f172 (il 1) (by decide) (by decide)
                    refine g_iinc C [(8, .inl (x157 + 1)), (0, .inr (.inr a0)), (1, .inl a1), (2, .inr (.inl a2)), (4, .inl a3), (5, .inl (w32 (r1 + r9))), (6, .inr (.inl v154))] 6 rfl (by decide) rfl dX12_seeks_142 ?_
                    refine g_goto C 102 (by decide) dX12_seeks_145 ?_
                    refine GW.sub [1, 2, 3, 4, 5, 6, 0] rfl ?_
                    have p201 := (IG.trans (IG.trans p165 (IG_fx O162 F181 e166 rfl)) p199)
                    exact ih160 _ (by omega) (x157 + 1) h194 rfl O197 ((F163.call F181 rfl).call F198 rfl) (iw f200 (by decide) (by decide)) p201
          have p202 := (IG.trans (IG.trans (IG.trans (IG.trans (IG.rf (h := h) (m := a0) (s := a1)) (IG_fx O F6 ta0 rfl)) (IG_fx O5 F14 e8 rfl)) (IG_fx O13 F141 e17 rfl)) (IG_fx O140 F148 e142 rfl))
          exact L159 _ 0 h144 rfl O147 Fx.rf (iw (il 0) (by decide) (by decide)) p202
        · have f203 : (1 : Int) ≤ r143 ∧ r143 ≤ (1 : Int) := r_nl f149 q151
          refine g_aload_n C rfl 1 rfl dX12_seeks_70 ?_
          have e204 : Tg h144 a0 = 12 := (fxT F148 e142)
          have e205 : Rv h144 a0 70 = v18 := ((fxR F148 e142 rfl).trans ((fxR F141 e17 rfl).trans e19))
          refine gf_R C fk_LandSurveyModel_251 rfl e204 e205 dX12_seeks_71 ?_
          refine g_iload_n C rfl 2 rfl dX12_seeks_74 ?_
          refine g_iconst C dX12_seeks_75 ?_
          have e206 : Tg h144 v18 = 170101 := (fxT F148 (fxT F141 t20))
          have e207 : Tg h137 v18 = 170101 := (fxT F141 t20)
          have e208 : Ln h144 v18 = 16 := ((fxL F148 e207).trans ((fxL F141 t20).trans l21))
          refine g_zast C e206 rfl e208 (ix fa1 (by decide) (by decide)) (iw (il 1) (by decide) (by decide)) dX12_seeks_76 (fun h210 hh209 => ?_)
          have O211 := O147.pIa e206 ar_170101 hh209 rI_170101_0 (iw (il 1) (by decide) (by decide)) nofun
          refine g_aload_n C rfl 1 rfl dX12_seeks_77 ?_
          have e212 : Tg h210 a0 = 12 := ((pIT hh209).trans e204)
          have e213 : Rv h210 a0 71 = v122 := ((pIR hh209).trans ((fxR F148 e142 rfl).trans ((fxR F141 e17 rfl).trans e123)))
          refine gf_R C fk_LandSurveyModel_254 rfl e212 e213 dX12_seeks_78 ?_
          refine g_iload_n C rfl 2 rfl dX12_seeks_81 ?_
          refine g_iload C 0 rfl dX12_seeks_82 ?_
          have e214 : Tg h210 v122 = 171100 := ((pIT hh209).trans (fxT F148 (fxT F141 t124)))
          have e215 : Tg h137 v122 = 171100 := (fxT F141 t124)
          have e216 : Ln h210 v122 = 16 := ((pIL hh209).trans ((fxL F148 e215).trans ((fxL F141 t124).trans l125)))
          refine g_iast C e214 rfl e216 (ix fa1 (by decide) (by decide)) f16 dX12_seeks_84 (fun h218 hh217 => ?_)
          have O219 := O211.pIa e214 ar_171100 hh217 rI_171100_0 f16 nofun
          refine g_aload_n C rfl 1 rfl dX12_seeks_85 ?_
          have e220 : Tg h218 a0 = 12 := ((pIT hh217).trans e212)
          obtain ⟨v221, e222⟩ : ∃ z, Rv h218 a0 72 = z := ⟨_, rfl⟩
          have t223 := ok_R O219 e220 rE_12_72 e222
          have l224 := ok_L O219 e220 rE_12_72 e222
          refine gf_R C fk_LandSurveyModel_257 rfl e220 e222 dX12_seeks_86 ?_
          refine g_iload_n C rfl 2 rfl dX12_seeks_89 ?_
          refine g_lload_n C rfl 3 rfl dX12_seeks_90 ?_
          refine g_last C t223 rfl l224 (ix fa1 (by decide) (by decide)) fa2 dX12_seeks_91 (fun h226 hh225 => ?_)
          have O227 := O219.pJ hh225 fa2
          have p228 := (IG.trans (IG.trans (IG.trans (IG.trans (IG.trans (IG.trans (IG.trans (IG.rf (h := h) (m := a0) (s := a1)) (IG_fx O F6 ta0 rfl)) (IG_fx O5 F14 e8 rfl)) (IG_fx O13 F141 e17 rfl)) (IG_fx O140 F148 e142 rfl)) (IG_w hh209 (by omega))) (IG_fx O211 ((Fx.rf (wr := [34220000]) (h := h210)).pIa e214 ar_171100 hh217 rfl) e212 rfl)) (IG_fx O219 ((Fx.rf (wr := [34420400]) (h := h218)).pJa t223 ar_172102 hh225 rfl) e220 rfl))
          exact g_vret C hr ⟨O227, ((((((((Fx.rf (wr := wr_k_seeks_1)).call F6 rfl).call F14 rfl).call F141 rfl).call F148 rfl).pIa e206 ar_170101 hh209 rfl).pIa e214 ar_171100 hh217 rfl).pJa t223 ar_172102 hh225 rfl), p228⟩ (by decide) (by decide) dX12_seeks_92
      · refine g_lload_n C rfl 3 rfl dX12_seeks_44 ?_
        refine g_aload_n C rfl 1 rfl dX12_seeks_45 ?_
        obtain ⟨v229, e230⟩ : ∃ z, Rv h10 a0 72 = z := ⟨_, rfl⟩
        have t231 := ok_R O13 e17 rE_12_72 e230
        have l232 := ok_L O13 e17 rE_12_72 e230
        refine gf_R C fk_LandSurveyModel_257 rfl e17 e230 dX12_seeks_46 ?_
        refine g_iload_n C rfl 2 rfl dX12_seeks_49 ?_
        obtain ⟨v233, e234⟩ : ∃ z, Jv h10 v229 a1.toNat = z := ⟨_, rfl⟩
        have f235 := inL_J O13 e234
        refine g_lald C t231 rfl l232 (ix fa1 (by decide) (by decide)) e234 dX12_seeks_50 ?_
        refine g_lcmp C fa2 f235 dX12_seeks_51 ?_
        have f236 : (-1 : Int) ≤ (lC a2 v233) ∧ (lC a2 v233) ≤ (1 : Int) := lC_rng _ _
        refine g_if_lt C (iw f236 (by decide) (by decide)) 56 (by decide) dX12_seeks_52 (fun q237 => ?_) (fun q238 => ?_)
        · have q239 : a2 < v233 := lC_lt.mp q237
          have f240 : (-9223372036854775808 : Int) ≤ a2 ∧ a2 ≤ (9223372036854775806 : Int) := r_lt fa2 f235 q239 (by decide) (by decide)
          have f241 : (-9223372036854775807 : Int) ≤ v233 ∧ v233 ≤ (9223372036854775807 : Int) := r_gt f235 fa2 q239 (by decide) (by decide)
          refine g_aload_n C rfl 1 rfl dX12_seeks_56 ?_
          refine g_iload_n C rfl 2 rfl dX12_seeks_57 ?_
          refine g_lload_n C rfl 3 rfl dX12_seeks_58 ?_
          refine g_iconst C dX12_seeks_59 ?_
          refine g_callV (st := []) (gc_V C lk_LandSurveyModel_523 (k_X12_findBounds l D cy w z0 O13 e17 fa1 (iw f240 (by decide) (by decide)) (iw (il 1) (by decide) (by decide))) e17 rfl rfl rfl ⟨by decide, by decide⟩ (Nat.le_of_ble_eq_true rfl) dX12_seeks_60 ⟨(by decide), (by decide)⟩) (fun h243 K244 => ?_)
          obtain ⟨O246, F247⟩ := K244
          refine g_aload_n C rfl 1 rfl dX12_seeks_63 ?_
          have e248 : Tg h243 a0 = 12 := (fxT F247 e17)
          refine g_callI (st := []) (gc_V C lk_LandSurveyModel_527 (k_X12_goesTogether l D cy w z0 O246 e248) e248 rfl rfl rfl ⟨by decide, by decide⟩ (Nat.le_of_ble_eq_true rfl) dX12_seeks_64 ⟨(by decide), (by decide)⟩) (fun r249 h250 f252 K251 => ?_)
          obtain ⟨O253, F254, f255⟩ := K251
          refine g_if_eq C (iw f255 (by decide) (by decide)) 93 (by decide) dX12_seeks_67 (fun q256 => ?_) (fun q257 => ?_)
          · have f258 : (0 : Int) ≤ r249 ∧ r249 ≤ (0 : Int) := ii f255 (r_eq (il 0) q256) (by decide) (by decide)
            refine g_aload_n C rfl 1 rfl dX12_seeks_93 ?_
            have e259 : Tg h250 a0 = 12 := (fxT F254 e248)
            obtain ⟨v260, e261⟩ : ∃ z, Jv h250 a0 69 = z := ⟨_, rfl⟩
            have f262 := inL_J O253 e261
            refine gf_J C fk_LandSurveyModel_512 rfl e259 e261 dX12_seeks_94 ?_
            refine g_lstore C [(6, .inr (.inl v260)), (5, .inl (w32 (r1 + r9))), (0, .inr (.inr a0)), (1, .inl a1), (2, .inr (.inl a2)), (4, .inl a3)] (by decide) rfl dX12_seeks_97 ?_
            refine g_iconst C dX12_seeks_99 ?_
            refine g_istore C [(8, .inl 0), (6, .inr (.inl v260)), (5, .inl (w32 (r1 + r9))), (0, .inr (.inr a0)), (1, .inl a1), (2, .inr (.inl a2)), (4, .inl a3)] (by decide) rfl dX12_seeks_100 ?_
            refine GW.sub [3, 4, 5, 6, 2, 1, 0] rfl ?_
            -- loop at 102
            have L265 : ∀ (μ : Nat) (x263 : Int) (h264 : Hp), (40 - x263).toNat = μ → Okh h264 → Fx [2462, 2469, 32620000, 32820000, 33020000, 33220000, 33420000, 33620000, 34020200, 34220000, 34420400] h250 h264 → ((0 : Int) ≤ x263 ∧ x263 ≤ (40 : Int)) → (IG h h264 a0 a1) → GW p l e (rmm 8 201 0 0) s m (List.map toV [.inr (.inr a0), .inl a1, .inr (.inl a2), .inl a3]).toArray below meth c D cy z0 9 (MQ below (QV D cy z0 (fun h1 => Okh h1 ∧ Fx wr_k_seeks_1 h h1 ∧ (IG h h1 a0 a1))) (List.map toV [.inr (.inr a0), .inl a1, .inr (.inl a2), .inl a3]).toArray s 0 0 (Aof z0)) 102 [(0, .inr (.inr a0)), (1, .inl a1), (2, .inr (.inl a2)), (4, .inl a3), (5, .inl (w32 (r1 + r9))), (6, .inr (.inl v260)), (8, .inl x263)] [] h264 0 0 := by
              intro μ
              induction μ using Nat.strongRecOn with
              | ind μ ih266 =>
                intro x263 h264 hm267 O268 F269 f270 p271
                refine g_iload C 6 rfl dX12_seeks_102 ?_
                refine g_aload_n C rfl 0 rfl dX12_seeks_104 ?_
                have e272 : Tg h264 a0 = 12 := (fxT F269 e259)
                obtain ⟨v273, e274⟩ : ∃ z, Iv h264 a0 40 = z := ⟨_, rfl⟩
                have f275 := ok_I O268 e272 rI_12_40 e274
                refine gf_I C fk_LandSurveyModel_423 rfl e272 e274 dX12_seeks_105 ?_
                refine g_icmp_ge C (iw f270 (by decide) (by decide)) (iw f275 (by decide) (by decide)) 148 (by decide) dX12_seeks_108 (fun q276 => ?_) (fun q277 => ?_)
                · exact g_vret C hr ⟨O268, ((((((Fx.rf (wr := wr_k_seeks_1)).call F6 rfl).call F14 rfl).call F247 rfl).call F254 rfl).call F269 rfl), p271⟩ (by decide) (by decide) dX12_seeks_148
                · have f278 : (0 : Int) ≤ x263 ∧ x263 ≤ (39 : Int) := r_lt f270 f275 q277 (by decide) (by decide)
                  have f279 : (1 : Int) ≤ v273 ∧ v273 ≤ (40 : Int) := r_gt f275 f270 q277 (by decide) (by decide)
                  refine g_iload C 3 rfl dX12_seeks_111 ?_
                  refine g_iconst C dX12_seeks_113 ?_
                  refine g_icmp_ge C (iw fa3 (by decide) (by decide)) (iw (il 3) (by decide) (by decide)) 148 (by decide) dX12_seeks_114 (fun q280 => ?_) (fun q281 => ?_)
                  · exact (no_le (il 3) fa3 q280 (by decide)).elim
                  · refine g_lload C 5 rfl dX12_seeks_117 ?_
                    refine g_iload C 6 rfl dX12_seeks_119 ?_
                    refine g_callI (st := []) (gc_S C lk_LandSurveyModel_487 (k_X12_isIn l D cy w z0 O268 f262 (iw f278 (by decide) (by decide))) rfl ⟨by decide, by decide⟩ (Nat.le_of_ble_eq_true rfl) dX12_seeks_121 ⟨(by decide), (by decide)⟩) (fun r282 h283 f285 K284 => ?_)
                    obtain ⟨O286, F287, f288⟩ := K284
                    refine g_if_eq C (iw f288 (by decide) (by decide)) 142 (by decide) dX12_seeks_124 (fun q289 => ?_) (fun q290 => ?_)
                    · have f291 : (0 : Int) ≤ r282 ∧ r282 ≤ (0 : Int) := ii f288 (r_eq (il 0) q289) (by decide) (by decide)
                      have f292 : (1 : Int) ≤ (x263 + 1) ∧ (x263 + 1) ≤ (40 : Int) := ia_add f278 (il 1) (by decide) (by decide)
                      refine g_iinc C [(8, .inl (x263 + 1)), (0, .inr (.inr a0)), (1, .inl a1), (2, .inr (.inl a2)), (4, .inl a3), (5, .inl (w32 (r1 + r9))), (6, .inr (.inl v260))] 6 rfl (by decide) rfl dX12_seeks_142 ?_
                      refine g_goto C 102 (by decide) dX12_seeks_145 ?_
                      refine GW.sub [1, 2, 3, 4, 5, 6, 0] rfl ?_
                      have p293 := (IG.trans p271 (IG_fx O268 F287 e272 rfl))
                      exact ih266 _ (by omega) (x263 + 1) h283 rfl O286 (F269.call F287 rfl) (iw f292 (by decide) (by decide)) p293
                    · have f294 : (1 : Int) ≤ r282 ∧ r282 ≤ (1 : Int) := r_nl f288 q290
                      refine g_aload_n C rfl 0 rfl dX12_seeks_127 ?_
                      refine g_iload_n C rfl 1 rfl dX12_seeks_128 ?_
                      refine g_lload_n C rfl 2 rfl dX12_seeks_129 ?_
                      refine g_lconst (z := 1) C (by decide) dX12_seeks_130 ?_
                      refine g_iload C 6 rfl dX12_seeks_131 ?_
                      refine g_lshl C dX12_seeks_133 ?_
                      have f295 : (-9223372036854775808 : Int) ≤ (lShl 1 x263) ∧ (lShl 1 x263) ≤ (9223372036854775807 : Int) := inL_of _
                      refine g_lor C dX12_seeks_134 ?_
                      have f296 : (-9223372036854775808 : Int) ≤ (lOr a2 (lShl 1 x263)) ∧ (lOr a2 (lShl 1 x263)) ≤ (9223372036854775807 : Int) := inL_of _
                      refine g_iload C 3 rfl dX12_seeks_135 ?_
                      refine g_iconst C dX12_seeks_137 ?_
                      have f297 : (2 : Int) ≤ (a3 + 1) ∧ (a3 + 1) ≤ (2 : Int) := ia_add fa3 (il 1) (by decide) (by decide)
                      refine g_iadd C dX12_seeks_138 ?_
                      have e298 : Tg h283 a0 = 12 := (fxT F287 e272)
                      refine g_callV (st := []) (gc_V C lk_LandSurveyModel_530 (k_seeks_2 l D cy w z0 O286 e298 fa1 f296 f297) e298 rfl rfl rfl ⟨by decide, by decide⟩ (Nat.le_of_ble_eq_true rfl) dX12_seeks_139 ⟨(by decide), (by decide)⟩) (fun h300 K301 => ?_)
                      obtain ⟨O303, F304, p305⟩ := K301
                      have f306 : (1 : Int) ≤ (x263 + 1) ∧ (x263 + 1) ≤ (40 : Int) := ia_add f278 (il 1) (by decide) (by decide)
                      refine g_iinc C [(8, .inl (x263 + 1)), (0, .inr (.inr a0)), (1, .inl a1), (2, .inr (.inl a2)), (4, .inl a3), (5, .inl (w32 (r1 + r9))), (6, .inr (.inl v260))] 6 rfl (by decide) rfl dX12_seeks_142 ?_
                      refine g_goto C 102 (by decide) dX12_seeks_145 ?_
                      refine GW.sub [1, 2, 3, 4, 5, 6, 0] rfl ?_
                      have p307 := (IG.trans (IG.trans p271 (IG_fx O268 F287 e272 rfl)) p305)
                      exact ih266 _ (by omega) (x263 + 1) h300 rfl O303 ((F269.call F287 rfl).call F304 rfl) (iw f306 (by decide) (by decide)) p307
            have p308 := (IG.trans (IG.trans (IG.trans (IG.trans (IG.rf (h := h) (m := a0) (s := a1)) (IG_fx O F6 ta0 rfl)) (IG_fx O5 F14 e8 rfl)) (IG_fx O13 F247 e17 rfl)) (IG_fx O246 F254 e248 rfl))
            exact L265 _ 0 h250 rfl O253 Fx.rf (iw (il 0) (by decide) (by decide)) p308
          · have f309 : (1 : Int) ≤ r249 ∧ r249 ≤ (1 : Int) := r_nl f255 q257
            refine g_aload_n C rfl 1 rfl dX12_seeks_70 ?_
            have e310 : Tg h250 a0 = 12 := (fxT F254 e248)
            have e311 : Rv h250 a0 70 = v18 := ((fxR F254 e248 rfl).trans ((fxR F247 e17 rfl).trans e19))
            refine gf_R C fk_LandSurveyModel_251 rfl e310 e311 dX12_seeks_71 ?_
            refine g_iload_n C rfl 2 rfl dX12_seeks_74 ?_
            refine g_iconst C dX12_seeks_75 ?_
            have e312 : Tg h250 v18 = 170101 := (fxT F254 (fxT F247 t20))
            have e313 : Tg h243 v18 = 170101 := (fxT F247 t20)
            have e314 : Ln h250 v18 = 16 := ((fxL F254 e313).trans ((fxL F247 t20).trans l21))
            refine g_zast C e312 rfl e314 (ix fa1 (by decide) (by decide)) (iw (il 1) (by decide) (by decide)) dX12_seeks_76 (fun h316 hh315 => ?_)
            have O317 := O253.pIa e312 ar_170101 hh315 rI_170101_0 (iw (il 1) (by decide) (by decide)) nofun
            refine g_aload_n C rfl 1 rfl dX12_seeks_77 ?_
            have e318 : Tg h316 a0 = 12 := ((pIT hh315).trans e310)
            have e319 : Rv h316 a0 71 = v122 := ((pIR hh315).trans ((fxR F254 e248 rfl).trans ((fxR F247 e17 rfl).trans e123)))
            refine gf_R C fk_LandSurveyModel_254 rfl e318 e319 dX12_seeks_78 ?_
            refine g_iload_n C rfl 2 rfl dX12_seeks_81 ?_
            refine g_iload C 0 rfl dX12_seeks_82 ?_
            have e320 : Tg h316 v122 = 171100 := ((pIT hh315).trans (fxT F254 (fxT F247 t124)))
            have e321 : Tg h243 v122 = 171100 := (fxT F247 t124)
            have e322 : Ln h316 v122 = 16 := ((pIL hh315).trans ((fxL F254 e321).trans ((fxL F247 t124).trans l125)))
            refine g_iast C e320 rfl e322 (ix fa1 (by decide) (by decide)) f16 dX12_seeks_84 (fun h324 hh323 => ?_)
            have O325 := O317.pIa e320 ar_171100 hh323 rI_171100_0 f16 nofun
            refine g_aload_n C rfl 1 rfl dX12_seeks_85 ?_
            have e326 : Tg h324 a0 = 12 := ((pIT hh323).trans e318)
            have e327 : Rv h324 a0 72 = v229 := ((pIR hh323).trans ((pIR hh315).trans ((fxR F254 e248 rfl).trans ((fxR F247 e17 rfl).trans e230))))
            refine gf_R C fk_LandSurveyModel_257 rfl e326 e327 dX12_seeks_86 ?_
            refine g_iload_n C rfl 2 rfl dX12_seeks_89 ?_
            refine g_lload_n C rfl 3 rfl dX12_seeks_90 ?_
            have e328 : Tg h324 v229 = 172102 := ((pIT hh323).trans ((pIT hh315).trans (fxT F254 (fxT F247 t231))))
            have e329 : Tg h243 v229 = 172102 := (fxT F247 t231)
            have e330 : Ln h324 v229 = 16 := ((pIL hh323).trans ((pIL hh315).trans ((fxL F254 e329).trans ((fxL F247 t231).trans l232))))
            refine g_last C e328 rfl e330 (ix fa1 (by decide) (by decide)) (iw f240 (by decide) (by decide)) dX12_seeks_91 (fun h332 hh331 => ?_)
            have O333 := O325.pJ hh331 (iw f240 (by decide) (by decide))
            have p334 := (IG.trans (IG.trans (IG.trans (IG.trans (IG.trans (IG.trans (IG.trans (IG.rf (h := h) (m := a0) (s := a1)) (IG_fx O F6 ta0 rfl)) (IG_fx O5 F14 e8 rfl)) (IG_fx O13 F247 e17 rfl)) (IG_fx O246 F254 e248 rfl)) (IG_w hh315 (by omega))) (IG_fx O317 ((Fx.rf (wr := [34220000]) (h := h316)).pIa e320 ar_171100 hh323 rfl) e318 rfl)) (IG_fx O325 ((Fx.rf (wr := [34420400]) (h := h324)).pJa e328 ar_172102 hh331 rfl) e326 rfl))
            exact g_vret C hr ⟨O333, ((((((((Fx.rf (wr := wr_k_seeks_1)).call F6 rfl).call F14 rfl).call F247 rfl).call F254 rfl).pIa e312 ar_170101 hh315 rfl).pIa e320 ar_171100 hh323 rfl).pJa e328 ar_172102 hh331 rfl), p334⟩ (by decide) (by decide) dX12_seeks_92
        · have q335 : v233 ≤ a2 := lC_ge.mp q238
          have p336 := (IG.trans (IG.trans (IG.rf (h := h) (m := a0) (s := a1)) (IG_fx O F6 ta0 rfl)) (IG_fx O5 F14 e8 rfl))
          exact g_vret C hr ⟨O13, (((Fx.rf (wr := wr_k_seeks_1)).call F6 rfl).call F14 rfl), p336⟩ (by decide) (by decide) dX12_seeks_55
def wr_k_seeks_0 : List Nat := [2462, 2469, 32620000, 32820000, 33020000, 33220000, 33420000, 33620000, 34020200, 34220000, 34420400]
set_option maxRecDepth 100000 in
set_option maxHeartbeats 4000000 in
theorem k_seeks_0 (l : Launch) (D : va_G) (cy : Nat → ClassId) (w : Nat → Nat) (z0 : Nat)  {h : Hp} {a0 : Nat} {a1 : Int} {a2 : Int} {a3 : Int}  (O : Okh h) (ta0 : Tg h a0 = 12) (fa1 : 0 ≤ a1 ∧ a1 ≤ 15) (fa2 : (-9223372036854775808) ≤ a2 ∧ a2 ≤ 9223372036854775807) (fa3 : 0 ≤ a3 ∧ a3 ≤ 0) : MV l D cy w z0 yX12_seeks cX12_seeks 9 none 9 229 0 0 [.inr (.inr a0), .inl a1, .inr (.inl a2), .inl a3] h (fun h1 => Okh h1 ∧ Fx wr_k_seeks_0 h h1 ∧ (IG h h1 a0 a1)) := by
  refine hm_go (by decide +kernel) (Nat.le_of_ble_eq_true rfl) (fun p e s m below meth c C hr hn => ?_)
  refine g_aload_n C rfl 0 rfl dX12_seeks_0 ?_
  refine g_iload_n C rfl 1 rfl dX12_seeks_1 ?_
  refine g_callI (st := []) (gc_V C lk_LandSurveyModel_516 (k_X12_breaksCost l D cy w z0 O ta0 (iw fa1 (by decide) (by decide))) ta0 rfl rfl rfl ⟨by decide, by decide⟩ (Nat.le_of_ble_eq_true rfl) dX12_seeks_2 ⟨(by decide), (by decide)⟩) (fun r1 h2 f4 K3 => ?_)
  obtain ⟨O5, F6, f7⟩ := K3
  refine g_aload_n C rfl 0 rfl dX12_seeks_5 ?_
  refine g_lload_n C rfl 2 rfl dX12_seeks_6 ?_
  have e8 : Tg h2 a0 = 12 := (fxT F6 ta0)
  refine g_callI (st := [.inl r1]) (gc_V C lk_LandSurveyModel_519 (k_X12_costOf l D cy w z0 O5 e8 fa2) e8 rfl rfl rfl ⟨by decide, by decide⟩ (Nat.le_of_ble_eq_true rfl) dX12_seeks_7 ⟨(by decide), (by decide)⟩) (fun r9 h10 f12 K11 => ?_)
  obtain ⟨O13, F14, f15⟩ := K11
  have f16 : (-2147483648 : Int) ≤ (w32 (r1 + r9)) ∧ (w32 (r1 + r9)) ≤ (2147483647 : Int) := w32_inR _
  refine g_iaddW C dX12_seeks_10 ?_
  refine g_istore C [(5, .inl (w32 (r1 + r9))), (0, .inr (.inr a0)), (1, .inl a1), (2, .inr (.inl a2)), (4, .inl a3)] (by decide) rfl dX12_seeks_11 ?_
  refine g_aload_n C rfl 1 rfl dX12_seeks_13 ?_
  have e17 : Tg h10 a0 = 12 := (fxT F14 e8)
  obtain ⟨v18, e19⟩ : ∃ z, Rv h10 a0 70 = z := ⟨_, rfl⟩
  have t20 := ok_R O13 e17 rE_12_70 e19
  have l21 := ok_L O13 e17 rE_12_70 e19
  refine gf_R C fk_LandSurveyModel_251 rfl e17 e19 dX12_seeks_14 ?_
  refine g_iload_n C rfl 2 rfl dX12_seeks_17 ?_
  obtain ⟨v22, e23⟩ : ∃ z, Iv h10 v18 a1.toNat = z := ⟨_, rfl⟩
  have f24 := ok_Ia O13 t20 ar_170101 rI_170101_0 e23
  refine g_zald C t20 rfl l21 (ix fa1 (by decide) (by decide)) e23 dX12_seeks_18 ?_
  refine g_if_eq C (iw f24 (by decide) (by decide)) 56 (by decide) dX12_seeks_19 (fun q25 => ?_) (fun q26 => ?_)
  · have f27 : (0 : Int) ≤ v22 ∧ v22 ≤ (0 : Int) := ii f24 (r_eq (il 0) q25) (by decide) (by decide)
    refine g_aload_n C rfl 1 rfl dX12_seeks_56 ?_
    refine g_iload_n C rfl 2 rfl dX12_seeks_57 ?_
    refine g_lload_n C rfl 3 rfl dX12_seeks_58 ?_
    refine g_iconst C dX12_seeks_59 ?_
    refine g_callV (st := []) (gc_V C lk_LandSurveyModel_523 (k_X12_findBounds l D cy w z0 O13 e17 fa1 fa2 (iw (il 1) (by decide) (by decide))) e17 rfl rfl rfl ⟨by decide, by decide⟩ (Nat.le_of_ble_eq_true rfl) dX12_seeks_60 ⟨(by decide), (by decide)⟩) (fun h29 K30 => ?_)
    obtain ⟨O32, F33⟩ := K30
    refine g_aload_n C rfl 1 rfl dX12_seeks_63 ?_
    have e34 : Tg h29 a0 = 12 := (fxT F33 e17)
    refine g_callI (st := []) (gc_V C lk_LandSurveyModel_527 (k_X12_goesTogether l D cy w z0 O32 e34) e34 rfl rfl rfl ⟨by decide, by decide⟩ (Nat.le_of_ble_eq_true rfl) dX12_seeks_64 ⟨(by decide), (by decide)⟩) (fun r35 h36 f38 K37 => ?_)
    obtain ⟨O39, F40, f41⟩ := K37
    refine g_if_eq C (iw f41 (by decide) (by decide)) 93 (by decide) dX12_seeks_67 (fun q42 => ?_) (fun q43 => ?_)
    · have f44 : (0 : Int) ≤ r35 ∧ r35 ≤ (0 : Int) := ii f41 (r_eq (il 0) q42) (by decide) (by decide)
      refine g_aload_n C rfl 1 rfl dX12_seeks_93 ?_
      have e45 : Tg h36 a0 = 12 := (fxT F40 e34)
      obtain ⟨v46, e47⟩ : ∃ z, Jv h36 a0 69 = z := ⟨_, rfl⟩
      have f48 := inL_J O39 e47
      refine gf_J C fk_LandSurveyModel_512 rfl e45 e47 dX12_seeks_94 ?_
      refine g_lstore C [(6, .inr (.inl v46)), (5, .inl (w32 (r1 + r9))), (0, .inr (.inr a0)), (1, .inl a1), (2, .inr (.inl a2)), (4, .inl a3)] (by decide) rfl dX12_seeks_97 ?_
      refine g_iconst C dX12_seeks_99 ?_
      refine g_istore C [(8, .inl 0), (6, .inr (.inl v46)), (5, .inl (w32 (r1 + r9))), (0, .inr (.inr a0)), (1, .inl a1), (2, .inr (.inl a2)), (4, .inl a3)] (by decide) rfl dX12_seeks_100 ?_
      refine GW.sub [3, 4, 5, 6, 2, 1, 0] rfl ?_
      -- loop at 102
      have L51 : ∀ (μ : Nat) (x49 : Int) (h50 : Hp), (40 - x49).toNat = μ → Okh h50 → Fx [2462, 2469, 32620000, 32820000, 33020000, 33220000, 33420000, 33620000, 34020200, 34220000, 34420400] h36 h50 → ((0 : Int) ≤ x49 ∧ x49 ≤ (40 : Int)) → (IG h h50 a0 a1) → GW p l e (rmm 9 229 0 0) s m (List.map toV [.inr (.inr a0), .inl a1, .inr (.inl a2), .inl a3]).toArray below meth c D cy z0 9 (MQ below (QV D cy z0 (fun h1 => Okh h1 ∧ Fx wr_k_seeks_0 h h1 ∧ (IG h h1 a0 a1))) (List.map toV [.inr (.inr a0), .inl a1, .inr (.inl a2), .inl a3]).toArray s 0 0 (Aof z0)) 102 [(0, .inr (.inr a0)), (1, .inl a1), (2, .inr (.inl a2)), (4, .inl a3), (5, .inl (w32 (r1 + r9))), (6, .inr (.inl v46)), (8, .inl x49)] [] h50 0 0 := by
        intro μ
        induction μ using Nat.strongRecOn with
        | ind μ ih52 =>
          intro x49 h50 hm53 O54 F55 f56 p57
          refine g_iload C 6 rfl dX12_seeks_102 ?_
          refine g_aload_n C rfl 0 rfl dX12_seeks_104 ?_
          have e58 : Tg h50 a0 = 12 := (fxT F55 e45)
          obtain ⟨v59, e60⟩ : ∃ z, Iv h50 a0 40 = z := ⟨_, rfl⟩
          have f61 := ok_I O54 e58 rI_12_40 e60
          refine gf_I C fk_LandSurveyModel_423 rfl e58 e60 dX12_seeks_105 ?_
          refine g_icmp_ge C (iw f56 (by decide) (by decide)) (iw f61 (by decide) (by decide)) 148 (by decide) dX12_seeks_108 (fun q62 => ?_) (fun q63 => ?_)
          · exact g_vret C hr ⟨O54, ((((((Fx.rf (wr := wr_k_seeks_0)).call F6 rfl).call F14 rfl).call F33 rfl).call F40 rfl).call F55 rfl), p57⟩ (by decide) (by decide) dX12_seeks_148
          · have f64 : (0 : Int) ≤ x49 ∧ x49 ≤ (39 : Int) := r_lt f56 f61 q63 (by decide) (by decide)
            have f65 : (1 : Int) ≤ v59 ∧ v59 ≤ (40 : Int) := r_gt f61 f56 q63 (by decide) (by decide)
            refine g_iload C 3 rfl dX12_seeks_111 ?_
            refine g_iconst C dX12_seeks_113 ?_
            refine g_icmp_ge C (iw fa3 (by decide) (by decide)) (iw (il 3) (by decide) (by decide)) 148 (by decide) dX12_seeks_114 (fun q66 => ?_) (fun q67 => ?_)
            · exact (no_le (il 3) fa3 q66 (by decide)).elim
            · refine g_lload C 5 rfl dX12_seeks_117 ?_
              refine g_iload C 6 rfl dX12_seeks_119 ?_
              refine g_callI (st := []) (gc_S C lk_LandSurveyModel_487 (k_X12_isIn l D cy w z0 O54 f48 (iw f64 (by decide) (by decide))) rfl ⟨by decide, by decide⟩ (Nat.le_of_ble_eq_true rfl) dX12_seeks_121 ⟨(by decide), (by decide)⟩) (fun r68 h69 f71 K70 => ?_)
              obtain ⟨O72, F73, f74⟩ := K70
              refine g_if_eq C (iw f74 (by decide) (by decide)) 142 (by decide) dX12_seeks_124 (fun q75 => ?_) (fun q76 => ?_)
              · have f77 : (0 : Int) ≤ r68 ∧ r68 ≤ (0 : Int) := ii f74 (r_eq (il 0) q75) (by decide) (by decide)
                have f78 : (1 : Int) ≤ (x49 + 1) ∧ (x49 + 1) ≤ (40 : Int) := ia_add f64 (il 1) (by decide) (by decide)
                refine g_iinc C [(8, .inl (x49 + 1)), (0, .inr (.inr a0)), (1, .inl a1), (2, .inr (.inl a2)), (4, .inl a3), (5, .inl (w32 (r1 + r9))), (6, .inr (.inl v46))] 6 rfl (by decide) rfl dX12_seeks_142 ?_
                refine g_goto C 102 (by decide) dX12_seeks_145 ?_
                refine GW.sub [1, 2, 3, 4, 5, 6, 0] rfl ?_
                have p79 := (IG.trans p57 (IG_fx O54 F73 e58 rfl))
                exact ih52 _ (by omega) (x49 + 1) h69 rfl O72 (F55.call F73 rfl) (iw f78 (by decide) (by decide)) p79
              · have f80 : (1 : Int) ≤ r68 ∧ r68 ≤ (1 : Int) := r_nl f74 q76
                refine g_aload_n C rfl 0 rfl dX12_seeks_127 ?_
                refine g_iload_n C rfl 1 rfl dX12_seeks_128 ?_
                refine g_lload_n C rfl 2 rfl dX12_seeks_129 ?_
                refine g_lconst (z := 1) C (by decide) dX12_seeks_130 ?_
                refine g_iload C 6 rfl dX12_seeks_131 ?_
                refine g_lshl C dX12_seeks_133 ?_
                have f81 : (-9223372036854775808 : Int) ≤ (lShl 1 x49) ∧ (lShl 1 x49) ≤ (9223372036854775807 : Int) := inL_of _
                refine g_lor C dX12_seeks_134 ?_
                have f82 : (-9223372036854775808 : Int) ≤ (lOr a2 (lShl 1 x49)) ∧ (lOr a2 (lShl 1 x49)) ≤ (9223372036854775807 : Int) := inL_of _
                refine g_iload C 3 rfl dX12_seeks_135 ?_
                refine g_iconst C dX12_seeks_137 ?_
                have f83 : (1 : Int) ≤ (a3 + 1) ∧ (a3 + 1) ≤ (1 : Int) := ia_add fa3 (il 1) (by decide) (by decide)
                refine g_iadd C dX12_seeks_138 ?_
                have e84 : Tg h69 a0 = 12 := (fxT F73 e58)
                refine g_callV (st := []) (gc_V C lk_LandSurveyModel_530 (k_seeks_1 l D cy w z0 O72 e84 fa1 f82 f83) e84 rfl rfl rfl ⟨by decide, by decide⟩ (Nat.le_of_ble_eq_true rfl) dX12_seeks_139 ⟨(by decide), (by decide)⟩) (fun h86 K87 => ?_)
                obtain ⟨O89, F90, p91⟩ := K87
                have f92 : (1 : Int) ≤ (x49 + 1) ∧ (x49 + 1) ≤ (40 : Int) := ia_add f64 (il 1) (by decide) (by decide)
                refine g_iinc C [(8, .inl (x49 + 1)), (0, .inr (.inr a0)), (1, .inl a1), (2, .inr (.inl a2)), (4, .inl a3), (5, .inl (w32 (r1 + r9))), (6, .inr (.inl v46))] 6 rfl (by decide) rfl dX12_seeks_142 ?_
                refine g_goto C 102 (by decide) dX12_seeks_145 ?_
                refine GW.sub [1, 2, 3, 4, 5, 6, 0] rfl ?_
                have p93 := (IG.trans (IG.trans p57 (IG_fx O54 F73 e58 rfl)) p91)
                exact ih52 _ (by omega) (x49 + 1) h86 rfl O89 ((F55.call F73 rfl).call F90 rfl) (iw f92 (by decide) (by decide)) p93
      have p94 := (IG.trans (IG.trans (IG.trans (IG.trans (IG.rf (h := h) (m := a0) (s := a1)) (IG_fx O F6 ta0 rfl)) (IG_fx O5 F14 e8 rfl)) (IG_fx O13 F33 e17 rfl)) (IG_fx O32 F40 e34 rfl))
      exact L51 _ 0 h36 rfl O39 Fx.rf (iw (il 0) (by decide) (by decide)) p94
    · have f95 : (1 : Int) ≤ r35 ∧ r35 ≤ (1 : Int) := r_nl f41 q43
      refine g_aload_n C rfl 1 rfl dX12_seeks_70 ?_
      have e96 : Tg h36 a0 = 12 := (fxT F40 e34)
      have e97 : Rv h36 a0 70 = v18 := ((fxR F40 e34 rfl).trans ((fxR F33 e17 rfl).trans e19))
      refine gf_R C fk_LandSurveyModel_251 rfl e96 e97 dX12_seeks_71 ?_
      refine g_iload_n C rfl 2 rfl dX12_seeks_74 ?_
      refine g_iconst C dX12_seeks_75 ?_
      have e98 : Tg h36 v18 = 170101 := (fxT F40 (fxT F33 t20))
      have e99 : Tg h29 v18 = 170101 := (fxT F33 t20)
      have e100 : Ln h36 v18 = 16 := ((fxL F40 e99).trans ((fxL F33 t20).trans l21))
      refine g_zast C e98 rfl e100 (ix fa1 (by decide) (by decide)) (iw (il 1) (by decide) (by decide)) dX12_seeks_76 (fun h102 hh101 => ?_)
      have O103 := O39.pIa e98 ar_170101 hh101 rI_170101_0 (iw (il 1) (by decide) (by decide)) nofun
      refine g_aload_n C rfl 1 rfl dX12_seeks_77 ?_
      have e104 : Tg h102 a0 = 12 := ((pIT hh101).trans e96)
      obtain ⟨v105, e106⟩ : ∃ z, Rv h102 a0 71 = z := ⟨_, rfl⟩
      have t107 := ok_R O103 e104 rE_12_71 e106
      have l108 := ok_L O103 e104 rE_12_71 e106
      refine gf_R C fk_LandSurveyModel_254 rfl e104 e106 dX12_seeks_78 ?_
      refine g_iload_n C rfl 2 rfl dX12_seeks_81 ?_
      refine g_iload C 0 rfl dX12_seeks_82 ?_
      refine g_iast C t107 rfl l108 (ix fa1 (by decide) (by decide)) f16 dX12_seeks_84 (fun h110 hh109 => ?_)
      have O111 := O103.pIa t107 ar_171100 hh109 rI_171100_0 f16 nofun
      refine g_aload_n C rfl 1 rfl dX12_seeks_85 ?_
      have e112 : Tg h110 a0 = 12 := ((pIT hh109).trans e104)
      obtain ⟨v113, e114⟩ : ∃ z, Rv h110 a0 72 = z := ⟨_, rfl⟩
      have t115 := ok_R O111 e112 rE_12_72 e114
      have l116 := ok_L O111 e112 rE_12_72 e114
      refine gf_R C fk_LandSurveyModel_257 rfl e112 e114 dX12_seeks_86 ?_
      refine g_iload_n C rfl 2 rfl dX12_seeks_89 ?_
      refine g_lload_n C rfl 3 rfl dX12_seeks_90 ?_
      refine g_last C t115 rfl l116 (ix fa1 (by decide) (by decide)) fa2 dX12_seeks_91 (fun h118 hh117 => ?_)
      have O119 := O111.pJ hh117 fa2
      have p120 := (IG.trans (IG.trans (IG.trans (IG.trans (IG.trans (IG.trans (IG.trans (IG.rf (h := h) (m := a0) (s := a1)) (IG_fx O F6 ta0 rfl)) (IG_fx O5 F14 e8 rfl)) (IG_fx O13 F33 e17 rfl)) (IG_fx O32 F40 e34 rfl)) (IG_w hh101 (by omega))) (IG_fx O103 ((Fx.rf (wr := [34220000]) (h := h102)).pIa t107 ar_171100 hh109 rfl) e104 rfl)) (IG_fx O111 ((Fx.rf (wr := [34420400]) (h := h110)).pJa t115 ar_172102 hh117 rfl) e112 rfl))
      exact g_vret C hr ⟨O119, ((((((((Fx.rf (wr := wr_k_seeks_0)).call F6 rfl).call F14 rfl).call F33 rfl).call F40 rfl).pIa e98 ar_170101 hh101 rfl).pIa t107 ar_171100 hh109 rfl).pJa t115 ar_172102 hh117 rfl), p120⟩ (by decide) (by decide) dX12_seeks_92
  · have f121 : (1 : Int) ≤ v22 ∧ v22 ≤ (1 : Int) := r_nl f24 q26
    refine g_iload C 0 rfl dX12_seeks_22 ?_
    refine g_aload_n C rfl 1 rfl dX12_seeks_24 ?_
    obtain ⟨v122, e123⟩ : ∃ z, Rv h10 a0 71 = z := ⟨_, rfl⟩
    have t124 := ok_R O13 e17 rE_12_71 e123
    have l125 := ok_L O13 e17 rE_12_71 e123
    refine gf_R C fk_LandSurveyModel_254 rfl e17 e123 dX12_seeks_25 ?_
    refine g_iload_n C rfl 2 rfl dX12_seeks_28 ?_
    obtain ⟨v126, e127⟩ : ∃ z, Iv h10 v122 a1.toNat = z := ⟨_, rfl⟩
    have f128 := ok_Ia O13 t124 ar_171100 rI_171100_0 e127
    refine g_iald C t124 rfl l125 (ix fa1 (by decide) (by decide)) e127 dX12_seeks_29 ?_
    refine g_icmp_gt C f16 f128 55 (by decide) dX12_seeks_30 (fun q129 => ?_) (fun q130 => ?_)
    · have f131 : (-2147483648 : Int) ≤ v126 ∧ v126 ≤ (2147483646 : Int) := r_lt f128 f16 q129 (by decide) (by decide)
      have f132 : (-2147483647 : Int) ≤ (w32 (r1 + r9)) ∧ (w32 (r1 + r9)) ≤ (2147483647 : Int) := r_gt f16 f128 q129 (by decide) (by decide)
      have p133 := (IG.trans (IG.trans (IG.rf (h := h) (m := a0) (s := a1)) (IG_fx O F6 ta0 rfl)) (IG_fx O5 F14 e8 rfl))
      exact g_vret C hr ⟨O13, (((Fx.rf (wr := wr_k_seeks_0)).call F6 rfl).call F14 rfl), p133⟩ (by decide) (by decide) dX12_seeks_55
    · refine g_iload C 0 rfl dX12_seeks_33 ?_
      refine g_aload_n C rfl 1 rfl dX12_seeks_35 ?_
      refine gf_R C fk_LandSurveyModel_254 rfl e17 e123 dX12_seeks_36 ?_
      refine g_iload_n C rfl 2 rfl dX12_seeks_39 ?_
      refine g_iald C t124 rfl l125 (ix fa1 (by decide) (by decide)) e127 dX12_seeks_40 ?_
      refine g_icmp_ne C f16 f128 56 (by decide) dX12_seeks_41 (fun q134 => ?_) (fun q135 => ?_)
      · refine g_aload_n C rfl 1 rfl dX12_seeks_56 ?_
        refine g_iload_n C rfl 2 rfl dX12_seeks_57 ?_
        refine g_lload_n C rfl 3 rfl dX12_seeks_58 ?_
        refine g_iconst C dX12_seeks_59 ?_
        refine g_callV (st := []) (gc_V C lk_LandSurveyModel_523 (k_X12_findBounds l D cy w z0 O13 e17 fa1 fa2 (iw (il 1) (by decide) (by decide))) e17 rfl rfl rfl ⟨by decide, by decide⟩ (Nat.le_of_ble_eq_true rfl) dX12_seeks_60 ⟨(by decide), (by decide)⟩) (fun h137 K138 => ?_)
        obtain ⟨O140, F141⟩ := K138
        refine g_aload_n C rfl 1 rfl dX12_seeks_63 ?_
        have e142 : Tg h137 a0 = 12 := (fxT F141 e17)
        refine g_callI (st := []) (gc_V C lk_LandSurveyModel_527 (k_X12_goesTogether l D cy w z0 O140 e142) e142 rfl rfl rfl ⟨by decide, by decide⟩ (Nat.le_of_ble_eq_true rfl) dX12_seeks_64 ⟨(by decide), (by decide)⟩) (fun r143 h144 f146 K145 => ?_)
        obtain ⟨O147, F148, f149⟩ := K145
        refine g_if_eq C (iw f149 (by decide) (by decide)) 93 (by decide) dX12_seeks_67 (fun q150 => ?_) (fun q151 => ?_)
        · have f152 : (0 : Int) ≤ r143 ∧ r143 ≤ (0 : Int) := ii f149 (r_eq (il 0) q150) (by decide) (by decide)
          refine g_aload_n C rfl 1 rfl dX12_seeks_93 ?_
          have e153 : Tg h144 a0 = 12 := (fxT F148 e142)
          obtain ⟨v154, e155⟩ : ∃ z, Jv h144 a0 69 = z := ⟨_, rfl⟩
          have f156 := inL_J O147 e155
          refine gf_J C fk_LandSurveyModel_512 rfl e153 e155 dX12_seeks_94 ?_
          refine g_lstore C [(6, .inr (.inl v154)), (5, .inl (w32 (r1 + r9))), (0, .inr (.inr a0)), (1, .inl a1), (2, .inr (.inl a2)), (4, .inl a3)] (by decide) rfl dX12_seeks_97 ?_
          refine g_iconst C dX12_seeks_99 ?_
          refine g_istore C [(8, .inl 0), (6, .inr (.inl v154)), (5, .inl (w32 (r1 + r9))), (0, .inr (.inr a0)), (1, .inl a1), (2, .inr (.inl a2)), (4, .inl a3)] (by decide) rfl dX12_seeks_100 ?_
          refine GW.sub [3, 4, 5, 6, 2, 1, 0] rfl ?_
          -- loop at 102
          have L159 : ∀ (μ : Nat) (x157 : Int) (h158 : Hp), (40 - x157).toNat = μ → Okh h158 → Fx [2462, 2469, 32620000, 32820000, 33020000, 33220000, 33420000, 33620000, 34020200, 34220000, 34420400] h144 h158 → ((0 : Int) ≤ x157 ∧ x157 ≤ (40 : Int)) → (IG h h158 a0 a1) → GW p l e (rmm 9 229 0 0) s m (List.map toV [.inr (.inr a0), .inl a1, .inr (.inl a2), .inl a3]).toArray below meth c D cy z0 9 (MQ below (QV D cy z0 (fun h1 => Okh h1 ∧ Fx wr_k_seeks_0 h h1 ∧ (IG h h1 a0 a1))) (List.map toV [.inr (.inr a0), .inl a1, .inr (.inl a2), .inl a3]).toArray s 0 0 (Aof z0)) 102 [(0, .inr (.inr a0)), (1, .inl a1), (2, .inr (.inl a2)), (4, .inl a3), (5, .inl (w32 (r1 + r9))), (6, .inr (.inl v154)), (8, .inl x157)] [] h158 0 0 := by
            intro μ
            induction μ using Nat.strongRecOn with
            | ind μ ih160 =>
              intro x157 h158 hm161 O162 F163 f164 p165
              refine g_iload C 6 rfl dX12_seeks_102 ?_
              refine g_aload_n C rfl 0 rfl dX12_seeks_104 ?_
              have e166 : Tg h158 a0 = 12 := (fxT F163 e153)
              obtain ⟨v167, e168⟩ : ∃ z, Iv h158 a0 40 = z := ⟨_, rfl⟩
              have f169 := ok_I O162 e166 rI_12_40 e168
              refine gf_I C fk_LandSurveyModel_423 rfl e166 e168 dX12_seeks_105 ?_
              refine g_icmp_ge C (iw f164 (by decide) (by decide)) (iw f169 (by decide) (by decide)) 148 (by decide) dX12_seeks_108 (fun q170 => ?_) (fun q171 => ?_)
              · exact g_vret C hr ⟨O162, ((((((Fx.rf (wr := wr_k_seeks_0)).call F6 rfl).call F14 rfl).call F141 rfl).call F148 rfl).call F163 rfl), p165⟩ (by decide) (by decide) dX12_seeks_148
              · have f172 : (0 : Int) ≤ x157 ∧ x157 ≤ (39 : Int) := r_lt f164 f169 q171 (by decide) (by decide)
                have f173 : (1 : Int) ≤ v167 ∧ v167 ≤ (40 : Int) := r_gt f169 f164 q171 (by decide) (by decide)
                refine g_iload C 3 rfl dX12_seeks_111 ?_
                refine g_iconst C dX12_seeks_113 ?_
                refine g_icmp_ge C (iw fa3 (by decide) (by decide)) (iw (il 3) (by decide) (by decide)) 148 (by decide) dX12_seeks_114 (fun q174 => ?_) (fun q175 => ?_)
                · exact (no_le (il 3) fa3 q174 (by decide)).elim
                · refine g_lload C 5 rfl dX12_seeks_117 ?_
                  refine g_iload C 6 rfl dX12_seeks_119 ?_
                  refine g_callI (st := []) (gc_S C lk_LandSurveyModel_487 (k_X12_isIn l D cy w z0 O162 f156 (iw f172 (by decide) (by decide))) rfl ⟨by decide, by decide⟩ (Nat.le_of_ble_eq_true rfl) dX12_seeks_121 ⟨(by decide), (by decide)⟩) (fun r176 h177 f179 K178 => ?_)
                  obtain ⟨O180, F181, f182⟩ := K178
                  refine g_if_eq C (iw f182 (by decide) (by decide)) 142 (by decide) dX12_seeks_124 (fun q183 => ?_) (fun q184 => ?_)
                  · have f185 : (0 : Int) ≤ r176 ∧ r176 ≤ (0 : Int) := ii f182 (r_eq (il 0) q183) (by decide) (by decide)
                    have f186 : (1 : Int) ≤ (x157 + 1) ∧ (x157 + 1) ≤ (40 : Int) := ia_add f172 (il 1) (by decide) (by decide)
                    refine g_iinc C [(8, .inl (x157 + 1)), (0, .inr (.inr a0)), (1, .inl a1), (2, .inr (.inl a2)), (4, .inl a3), (5, .inl (w32 (r1 + r9))), (6, .inr (.inl v154))] 6 rfl (by decide) rfl dX12_seeks_142 ?_
                    refine g_goto C 102 (by decide) dX12_seeks_145 ?_
                    refine GW.sub [1, 2, 3, 4, 5, 6, 0] rfl ?_
                    have p187 := (IG.trans p165 (IG_fx O162 F181 e166 rfl))
                    exact ih160 _ (by omega) (x157 + 1) h177 rfl O180 (F163.call F181 rfl) (iw f186 (by decide) (by decide)) p187
                  · have f188 : (1 : Int) ≤ r176 ∧ r176 ≤ (1 : Int) := r_nl f182 q184
                    refine g_aload_n C rfl 0 rfl dX12_seeks_127 ?_
                    refine g_iload_n C rfl 1 rfl dX12_seeks_128 ?_
                    refine g_lload_n C rfl 2 rfl dX12_seeks_129 ?_
                    refine g_lconst (z := 1) C (by decide) dX12_seeks_130 ?_
                    refine g_iload C 6 rfl dX12_seeks_131 ?_
                    refine g_lshl C dX12_seeks_133 ?_
                    have f189 : (-9223372036854775808 : Int) ≤ (lShl 1 x157) ∧ (lShl 1 x157) ≤ (9223372036854775807 : Int) := inL_of _
                    refine g_lor C dX12_seeks_134 ?_
                    have f190 : (-9223372036854775808 : Int) ≤ (lOr a2 (lShl 1 x157)) ∧ (lOr a2 (lShl 1 x157)) ≤ (9223372036854775807 : Int) := inL_of _
                    refine g_iload C 3 rfl dX12_seeks_135 ?_
                    refine g_iconst C dX12_seeks_137 ?_
                    have f191 : (1 : Int) ≤ (a3 + 1) ∧ (a3 + 1) ≤ (1 : Int) := ia_add fa3 (il 1) (by decide) (by decide)
                    refine g_iadd C dX12_seeks_138 ?_
                    have e192 : Tg h177 a0 = 12 := (fxT F181 e166)
                    refine g_callV (st := []) (gc_V C lk_LandSurveyModel_530 (k_seeks_1 l D cy w z0 O180 e192 fa1 f190 f191) e192 rfl rfl rfl ⟨by decide, by decide⟩ (Nat.le_of_ble_eq_true rfl) dX12_seeks_139 ⟨(by decide), (by decide)⟩) (fun h194 K195 => ?_)
                    obtain ⟨O197, F198, p199⟩ := K195
                    have f200 : (1 : Int) ≤ (x157 + 1) ∧ (x157 + 1) ≤ (40 : Int) := ia_add f172 (il 1) (by decide) (by decide)
                    refine g_iinc C [(8, .inl (x157 + 1)), (0, .inr (.inr a0)), (1, .inl a1), (2, .inr (.inl a2)), (4, .inl a3), (5, .inl (w32 (r1 + r9))), (6, .inr (.inl v154))] 6 rfl (by decide) rfl dX12_seeks_142 ?_
                    refine g_goto C 102 (by decide) dX12_seeks_145 ?_
                    refine GW.sub [1, 2, 3, 4, 5, 6, 0] rfl ?_
                    have p201 := (IG.trans (IG.trans p165 (IG_fx O162 F181 e166 rfl)) p199)
                    exact ih160 _ (by omega) (x157 + 1) h194 rfl O197 ((F163.call F181 rfl).call F198 rfl) (iw f200 (by decide) (by decide)) p201
          have p202 := (IG.trans (IG.trans (IG.trans (IG.trans (IG.rf (h := h) (m := a0) (s := a1)) (IG_fx O F6 ta0 rfl)) (IG_fx O5 F14 e8 rfl)) (IG_fx O13 F141 e17 rfl)) (IG_fx O140 F148 e142 rfl))
          exact L159 _ 0 h144 rfl O147 Fx.rf (iw (il 0) (by decide) (by decide)) p202
        · have f203 : (1 : Int) ≤ r143 ∧ r143 ≤ (1 : Int) := r_nl f149 q151
          refine g_aload_n C rfl 1 rfl dX12_seeks_70 ?_
          have e204 : Tg h144 a0 = 12 := (fxT F148 e142)
          have e205 : Rv h144 a0 70 = v18 := ((fxR F148 e142 rfl).trans ((fxR F141 e17 rfl).trans e19))
          refine gf_R C fk_LandSurveyModel_251 rfl e204 e205 dX12_seeks_71 ?_
          refine g_iload_n C rfl 2 rfl dX12_seeks_74 ?_
          refine g_iconst C dX12_seeks_75 ?_
          have e206 : Tg h144 v18 = 170101 := (fxT F148 (fxT F141 t20))
          have e207 : Tg h137 v18 = 170101 := (fxT F141 t20)
          have e208 : Ln h144 v18 = 16 := ((fxL F148 e207).trans ((fxL F141 t20).trans l21))
          refine g_zast C e206 rfl e208 (ix fa1 (by decide) (by decide)) (iw (il 1) (by decide) (by decide)) dX12_seeks_76 (fun h210 hh209 => ?_)
          have O211 := O147.pIa e206 ar_170101 hh209 rI_170101_0 (iw (il 1) (by decide) (by decide)) nofun
          refine g_aload_n C rfl 1 rfl dX12_seeks_77 ?_
          have e212 : Tg h210 a0 = 12 := ((pIT hh209).trans e204)
          have e213 : Rv h210 a0 71 = v122 := ((pIR hh209).trans ((fxR F148 e142 rfl).trans ((fxR F141 e17 rfl).trans e123)))
          refine gf_R C fk_LandSurveyModel_254 rfl e212 e213 dX12_seeks_78 ?_
          refine g_iload_n C rfl 2 rfl dX12_seeks_81 ?_
          refine g_iload C 0 rfl dX12_seeks_82 ?_
          have e214 : Tg h210 v122 = 171100 := ((pIT hh209).trans (fxT F148 (fxT F141 t124)))
          have e215 : Tg h137 v122 = 171100 := (fxT F141 t124)
          have e216 : Ln h210 v122 = 16 := ((pIL hh209).trans ((fxL F148 e215).trans ((fxL F141 t124).trans l125)))
          refine g_iast C e214 rfl e216 (ix fa1 (by decide) (by decide)) f16 dX12_seeks_84 (fun h218 hh217 => ?_)
          have O219 := O211.pIa e214 ar_171100 hh217 rI_171100_0 f16 nofun
          refine g_aload_n C rfl 1 rfl dX12_seeks_85 ?_
          have e220 : Tg h218 a0 = 12 := ((pIT hh217).trans e212)
          obtain ⟨v221, e222⟩ : ∃ z, Rv h218 a0 72 = z := ⟨_, rfl⟩
          have t223 := ok_R O219 e220 rE_12_72 e222
          have l224 := ok_L O219 e220 rE_12_72 e222
          refine gf_R C fk_LandSurveyModel_257 rfl e220 e222 dX12_seeks_86 ?_
          refine g_iload_n C rfl 2 rfl dX12_seeks_89 ?_
          refine g_lload_n C rfl 3 rfl dX12_seeks_90 ?_
          refine g_last C t223 rfl l224 (ix fa1 (by decide) (by decide)) fa2 dX12_seeks_91 (fun h226 hh225 => ?_)
          have O227 := O219.pJ hh225 fa2
          have p228 := (IG.trans (IG.trans (IG.trans (IG.trans (IG.trans (IG.trans (IG.trans (IG.rf (h := h) (m := a0) (s := a1)) (IG_fx O F6 ta0 rfl)) (IG_fx O5 F14 e8 rfl)) (IG_fx O13 F141 e17 rfl)) (IG_fx O140 F148 e142 rfl)) (IG_w hh209 (by omega))) (IG_fx O211 ((Fx.rf (wr := [34220000]) (h := h210)).pIa e214 ar_171100 hh217 rfl) e212 rfl)) (IG_fx O219 ((Fx.rf (wr := [34420400]) (h := h218)).pJa t223 ar_172102 hh225 rfl) e220 rfl))
          exact g_vret C hr ⟨O227, ((((((((Fx.rf (wr := wr_k_seeks_0)).call F6 rfl).call F14 rfl).call F141 rfl).call F148 rfl).pIa e206 ar_170101 hh209 rfl).pIa e214 ar_171100 hh217 rfl).pJa t223 ar_172102 hh225 rfl), p228⟩ (by decide) (by decide) dX12_seeks_92
      · refine g_lload_n C rfl 3 rfl dX12_seeks_44 ?_
        refine g_aload_n C rfl 1 rfl dX12_seeks_45 ?_
        obtain ⟨v229, e230⟩ : ∃ z, Rv h10 a0 72 = z := ⟨_, rfl⟩
        have t231 := ok_R O13 e17 rE_12_72 e230
        have l232 := ok_L O13 e17 rE_12_72 e230
        refine gf_R C fk_LandSurveyModel_257 rfl e17 e230 dX12_seeks_46 ?_
        refine g_iload_n C rfl 2 rfl dX12_seeks_49 ?_
        obtain ⟨v233, e234⟩ : ∃ z, Jv h10 v229 a1.toNat = z := ⟨_, rfl⟩
        have f235 := inL_J O13 e234
        refine g_lald C t231 rfl l232 (ix fa1 (by decide) (by decide)) e234 dX12_seeks_50 ?_
        refine g_lcmp C fa2 f235 dX12_seeks_51 ?_
        have f236 : (-1 : Int) ≤ (lC a2 v233) ∧ (lC a2 v233) ≤ (1 : Int) := lC_rng _ _
        refine g_if_lt C (iw f236 (by decide) (by decide)) 56 (by decide) dX12_seeks_52 (fun q237 => ?_) (fun q238 => ?_)
        · have q239 : a2 < v233 := lC_lt.mp q237
          have f240 : (-9223372036854775808 : Int) ≤ a2 ∧ a2 ≤ (9223372036854775806 : Int) := r_lt fa2 f235 q239 (by decide) (by decide)
          have f241 : (-9223372036854775807 : Int) ≤ v233 ∧ v233 ≤ (9223372036854775807 : Int) := r_gt f235 fa2 q239 (by decide) (by decide)
          refine g_aload_n C rfl 1 rfl dX12_seeks_56 ?_
          refine g_iload_n C rfl 2 rfl dX12_seeks_57 ?_
          refine g_lload_n C rfl 3 rfl dX12_seeks_58 ?_
          refine g_iconst C dX12_seeks_59 ?_
          refine g_callV (st := []) (gc_V C lk_LandSurveyModel_523 (k_X12_findBounds l D cy w z0 O13 e17 fa1 (iw f240 (by decide) (by decide)) (iw (il 1) (by decide) (by decide))) e17 rfl rfl rfl ⟨by decide, by decide⟩ (Nat.le_of_ble_eq_true rfl) dX12_seeks_60 ⟨(by decide), (by decide)⟩) (fun h243 K244 => ?_)
          obtain ⟨O246, F247⟩ := K244
          refine g_aload_n C rfl 1 rfl dX12_seeks_63 ?_
          have e248 : Tg h243 a0 = 12 := (fxT F247 e17)
          refine g_callI (st := []) (gc_V C lk_LandSurveyModel_527 (k_X12_goesTogether l D cy w z0 O246 e248) e248 rfl rfl rfl ⟨by decide, by decide⟩ (Nat.le_of_ble_eq_true rfl) dX12_seeks_64 ⟨(by decide), (by decide)⟩) (fun r249 h250 f252 K251 => ?_)
          obtain ⟨O253, F254, f255⟩ := K251
          refine g_if_eq C (iw f255 (by decide) (by decide)) 93 (by decide) dX12_seeks_67 (fun q256 => ?_) (fun q257 => ?_)
          · have f258 : (0 : Int) ≤ r249 ∧ r249 ≤ (0 : Int) := ii f255 (r_eq (il 0) q256) (by decide) (by decide)
            refine g_aload_n C rfl 1 rfl dX12_seeks_93 ?_
            have e259 : Tg h250 a0 = 12 := (fxT F254 e248)
            obtain ⟨v260, e261⟩ : ∃ z, Jv h250 a0 69 = z := ⟨_, rfl⟩
            have f262 := inL_J O253 e261
            refine gf_J C fk_LandSurveyModel_512 rfl e259 e261 dX12_seeks_94 ?_
            refine g_lstore C [(6, .inr (.inl v260)), (5, .inl (w32 (r1 + r9))), (0, .inr (.inr a0)), (1, .inl a1), (2, .inr (.inl a2)), (4, .inl a3)] (by decide) rfl dX12_seeks_97 ?_
            refine g_iconst C dX12_seeks_99 ?_
            refine g_istore C [(8, .inl 0), (6, .inr (.inl v260)), (5, .inl (w32 (r1 + r9))), (0, .inr (.inr a0)), (1, .inl a1), (2, .inr (.inl a2)), (4, .inl a3)] (by decide) rfl dX12_seeks_100 ?_
            refine GW.sub [3, 4, 5, 6, 2, 1, 0] rfl ?_
            -- loop at 102
            have L265 : ∀ (μ : Nat) (x263 : Int) (h264 : Hp), (40 - x263).toNat = μ → Okh h264 → Fx [2462, 2469, 32620000, 32820000, 33020000, 33220000, 33420000, 33620000, 34020200, 34220000, 34420400] h250 h264 → ((0 : Int) ≤ x263 ∧ x263 ≤ (40 : Int)) → (IG h h264 a0 a1) → GW p l e (rmm 9 229 0 0) s m (List.map toV [.inr (.inr a0), .inl a1, .inr (.inl a2), .inl a3]).toArray below meth c D cy z0 9 (MQ below (QV D cy z0 (fun h1 => Okh h1 ∧ Fx wr_k_seeks_0 h h1 ∧ (IG h h1 a0 a1))) (List.map toV [.inr (.inr a0), .inl a1, .inr (.inl a2), .inl a3]).toArray s 0 0 (Aof z0)) 102 [(0, .inr (.inr a0)), (1, .inl a1), (2, .inr (.inl a2)), (4, .inl a3), (5, .inl (w32 (r1 + r9))), (6, .inr (.inl v260)), (8, .inl x263)] [] h264 0 0 := by
              intro μ
              induction μ using Nat.strongRecOn with
              | ind μ ih266 =>
                intro x263 h264 hm267 O268 F269 f270 p271
                refine g_iload C 6 rfl dX12_seeks_102 ?_
                refine g_aload_n C rfl 0 rfl dX12_seeks_104 ?_
                have e272 : Tg h264 a0 = 12 := (fxT F269 e259)
                obtain ⟨v273, e274⟩ : ∃ z, Iv h264 a0 40 = z := ⟨_, rfl⟩
                have f275 := ok_I O268 e272 rI_12_40 e274
                refine gf_I C fk_LandSurveyModel_423 rfl e272 e274 dX12_seeks_105 ?_
                refine g_icmp_ge C (iw f270 (by decide) (by decide)) (iw f275 (by decide) (by decide)) 148 (by decide) dX12_seeks_108 (fun q276 => ?_) (fun q277 => ?_)
                · exact g_vret C hr ⟨O268, ((((((Fx.rf (wr := wr_k_seeks_0)).call F6 rfl).call F14 rfl).call F247 rfl).call F254 rfl).call F269 rfl), p271⟩ (by decide) (by decide) dX12_seeks_148
                · have f278 : (0 : Int) ≤ x263 ∧ x263 ≤ (39 : Int) := r_lt f270 f275 q277 (by decide) (by decide)
                  have f279 : (1 : Int) ≤ v273 ∧ v273 ≤ (40 : Int) := r_gt f275 f270 q277 (by decide) (by decide)
                  refine g_iload C 3 rfl dX12_seeks_111 ?_
                  refine g_iconst C dX12_seeks_113 ?_
                  refine g_icmp_ge C (iw fa3 (by decide) (by decide)) (iw (il 3) (by decide) (by decide)) 148 (by decide) dX12_seeks_114 (fun q280 => ?_) (fun q281 => ?_)
                  · exact (no_le (il 3) fa3 q280 (by decide)).elim
                  · refine g_lload C 5 rfl dX12_seeks_117 ?_
                    refine g_iload C 6 rfl dX12_seeks_119 ?_
                    refine g_callI (st := []) (gc_S C lk_LandSurveyModel_487 (k_X12_isIn l D cy w z0 O268 f262 (iw f278 (by decide) (by decide))) rfl ⟨by decide, by decide⟩ (Nat.le_of_ble_eq_true rfl) dX12_seeks_121 ⟨(by decide), (by decide)⟩) (fun r282 h283 f285 K284 => ?_)
                    obtain ⟨O286, F287, f288⟩ := K284
                    refine g_if_eq C (iw f288 (by decide) (by decide)) 142 (by decide) dX12_seeks_124 (fun q289 => ?_) (fun q290 => ?_)
                    · have f291 : (0 : Int) ≤ r282 ∧ r282 ≤ (0 : Int) := ii f288 (r_eq (il 0) q289) (by decide) (by decide)
                      have f292 : (1 : Int) ≤ (x263 + 1) ∧ (x263 + 1) ≤ (40 : Int) := ia_add f278 (il 1) (by decide) (by decide)
                      refine g_iinc C [(8, .inl (x263 + 1)), (0, .inr (.inr a0)), (1, .inl a1), (2, .inr (.inl a2)), (4, .inl a3), (5, .inl (w32 (r1 + r9))), (6, .inr (.inl v260))] 6 rfl (by decide) rfl dX12_seeks_142 ?_
                      refine g_goto C 102 (by decide) dX12_seeks_145 ?_
                      refine GW.sub [1, 2, 3, 4, 5, 6, 0] rfl ?_
                      have p293 := (IG.trans p271 (IG_fx O268 F287 e272 rfl))
                      exact ih266 _ (by omega) (x263 + 1) h283 rfl O286 (F269.call F287 rfl) (iw f292 (by decide) (by decide)) p293
                    · have f294 : (1 : Int) ≤ r282 ∧ r282 ≤ (1 : Int) := r_nl f288 q290
                      refine g_aload_n C rfl 0 rfl dX12_seeks_127 ?_
                      refine g_iload_n C rfl 1 rfl dX12_seeks_128 ?_
                      refine g_lload_n C rfl 2 rfl dX12_seeks_129 ?_
                      refine g_lconst (z := 1) C (by decide) dX12_seeks_130 ?_
                      refine g_iload C 6 rfl dX12_seeks_131 ?_
                      refine g_lshl C dX12_seeks_133 ?_
                      have f295 : (-9223372036854775808 : Int) ≤ (lShl 1 x263) ∧ (lShl 1 x263) ≤ (9223372036854775807 : Int) := inL_of _
                      refine g_lor C dX12_seeks_134 ?_
                      have f296 : (-9223372036854775808 : Int) ≤ (lOr a2 (lShl 1 x263)) ∧ (lOr a2 (lShl 1 x263)) ≤ (9223372036854775807 : Int) := inL_of _
                      refine g_iload C 3 rfl dX12_seeks_135 ?_
                      refine g_iconst C dX12_seeks_137 ?_
                      have f297 : (1 : Int) ≤ (a3 + 1) ∧ (a3 + 1) ≤ (1 : Int) := ia_add fa3 (il 1) (by decide) (by decide)
                      refine g_iadd C dX12_seeks_138 ?_
                      have e298 : Tg h283 a0 = 12 := (fxT F287 e272)
                      refine g_callV (st := []) (gc_V C lk_LandSurveyModel_530 (k_seeks_1 l D cy w z0 O286 e298 fa1 f296 f297) e298 rfl rfl rfl ⟨by decide, by decide⟩ (Nat.le_of_ble_eq_true rfl) dX12_seeks_139 ⟨(by decide), (by decide)⟩) (fun h300 K301 => ?_)
                      obtain ⟨O303, F304, p305⟩ := K301
                      have f306 : (1 : Int) ≤ (x263 + 1) ∧ (x263 + 1) ≤ (40 : Int) := ia_add f278 (il 1) (by decide) (by decide)
                      refine g_iinc C [(8, .inl (x263 + 1)), (0, .inr (.inr a0)), (1, .inl a1), (2, .inr (.inl a2)), (4, .inl a3), (5, .inl (w32 (r1 + r9))), (6, .inr (.inl v260))] 6 rfl (by decide) rfl dX12_seeks_142 ?_
                      refine g_goto C 102 (by decide) dX12_seeks_145 ?_
                      refine GW.sub [1, 2, 3, 4, 5, 6, 0] rfl ?_
                      have p307 := (IG.trans (IG.trans p271 (IG_fx O268 F287 e272 rfl)) p305)
                      exact ih266 _ (by omega) (x263 + 1) h300 rfl O303 ((F269.call F287 rfl).call F304 rfl) (iw f306 (by decide) (by decide)) p307
            have p308 := (IG.trans (IG.trans (IG.trans (IG.trans (IG.rf (h := h) (m := a0) (s := a1)) (IG_fx O F6 ta0 rfl)) (IG_fx O5 F14 e8 rfl)) (IG_fx O13 F247 e17 rfl)) (IG_fx O246 F254 e248 rfl))
            exact L265 _ 0 h250 rfl O253 Fx.rf (iw (il 0) (by decide) (by decide)) p308
          · have f309 : (1 : Int) ≤ r249 ∧ r249 ≤ (1 : Int) := r_nl f255 q257
            refine g_aload_n C rfl 1 rfl dX12_seeks_70 ?_
            have e310 : Tg h250 a0 = 12 := (fxT F254 e248)
            have e311 : Rv h250 a0 70 = v18 := ((fxR F254 e248 rfl).trans ((fxR F247 e17 rfl).trans e19))
            refine gf_R C fk_LandSurveyModel_251 rfl e310 e311 dX12_seeks_71 ?_
            refine g_iload_n C rfl 2 rfl dX12_seeks_74 ?_
            refine g_iconst C dX12_seeks_75 ?_
            have e312 : Tg h250 v18 = 170101 := (fxT F254 (fxT F247 t20))
            have e313 : Tg h243 v18 = 170101 := (fxT F247 t20)
            have e314 : Ln h250 v18 = 16 := ((fxL F254 e313).trans ((fxL F247 t20).trans l21))
            refine g_zast C e312 rfl e314 (ix fa1 (by decide) (by decide)) (iw (il 1) (by decide) (by decide)) dX12_seeks_76 (fun h316 hh315 => ?_)
            have O317 := O253.pIa e312 ar_170101 hh315 rI_170101_0 (iw (il 1) (by decide) (by decide)) nofun
            refine g_aload_n C rfl 1 rfl dX12_seeks_77 ?_
            have e318 : Tg h316 a0 = 12 := ((pIT hh315).trans e310)
            have e319 : Rv h316 a0 71 = v122 := ((pIR hh315).trans ((fxR F254 e248 rfl).trans ((fxR F247 e17 rfl).trans e123)))
            refine gf_R C fk_LandSurveyModel_254 rfl e318 e319 dX12_seeks_78 ?_
            refine g_iload_n C rfl 2 rfl dX12_seeks_81 ?_
            refine g_iload C 0 rfl dX12_seeks_82 ?_
            have e320 : Tg h316 v122 = 171100 := ((pIT hh315).trans (fxT F254 (fxT F247 t124)))
            have e321 : Tg h243 v122 = 171100 := (fxT F247 t124)
            have e322 : Ln h316 v122 = 16 := ((pIL hh315).trans ((fxL F254 e321).trans ((fxL F247 t124).trans l125)))
            refine g_iast C e320 rfl e322 (ix fa1 (by decide) (by decide)) f16 dX12_seeks_84 (fun h324 hh323 => ?_)
            have O325 := O317.pIa e320 ar_171100 hh323 rI_171100_0 f16 nofun
            refine g_aload_n C rfl 1 rfl dX12_seeks_85 ?_
            have e326 : Tg h324 a0 = 12 := ((pIT hh323).trans e318)
            have e327 : Rv h324 a0 72 = v229 := ((pIR hh323).trans ((pIR hh315).trans ((fxR F254 e248 rfl).trans ((fxR F247 e17 rfl).trans e230))))
            refine gf_R C fk_LandSurveyModel_257 rfl e326 e327 dX12_seeks_86 ?_
            refine g_iload_n C rfl 2 rfl dX12_seeks_89 ?_
            refine g_lload_n C rfl 3 rfl dX12_seeks_90 ?_
            have e328 : Tg h324 v229 = 172102 := ((pIT hh323).trans ((pIT hh315).trans (fxT F254 (fxT F247 t231))))
            have e329 : Tg h243 v229 = 172102 := (fxT F247 t231)
            have e330 : Ln h324 v229 = 16 := ((pIL hh323).trans ((pIL hh315).trans ((fxL F254 e329).trans ((fxL F247 t231).trans l232))))
            refine g_last C e328 rfl e330 (ix fa1 (by decide) (by decide)) (iw f240 (by decide) (by decide)) dX12_seeks_91 (fun h332 hh331 => ?_)
            have O333 := O325.pJ hh331 (iw f240 (by decide) (by decide))
            have p334 := (IG.trans (IG.trans (IG.trans (IG.trans (IG.trans (IG.trans (IG.trans (IG.rf (h := h) (m := a0) (s := a1)) (IG_fx O F6 ta0 rfl)) (IG_fx O5 F14 e8 rfl)) (IG_fx O13 F247 e17 rfl)) (IG_fx O246 F254 e248 rfl)) (IG_w hh315 (by omega))) (IG_fx O317 ((Fx.rf (wr := [34220000]) (h := h316)).pIa e320 ar_171100 hh323 rfl) e318 rfl)) (IG_fx O325 ((Fx.rf (wr := [34420400]) (h := h324)).pJa e328 ar_172102 hh331 rfl) e326 rfl))
            exact g_vret C hr ⟨O333, ((((((((Fx.rf (wr := wr_k_seeks_0)).call F6 rfl).call F14 rfl).call F247 rfl).call F254 rfl).pIa e312 ar_170101 hh315 rfl).pIa e320 ar_171100 hh323 rfl).pJa e328 ar_172102 hh331 rfl), p334⟩ (by decide) (by decide) dX12_seeks_92
        · have q335 : v233 ≤ a2 := lC_ge.mp q238
          have p336 := (IG.trans (IG.trans (IG.rf (h := h) (m := a0) (s := a1)) (IG_fx O F6 ta0 rfl)) (IG_fx O5 F14 e8 rfl))
          exact g_vret C hr ⟨O13, (((Fx.rf (wr := wr_k_seeks_0)).call F6 rfl).call F14 rfl), p336⟩ (by decide) (by decide) dX12_seeks_55
def wr_k_X12_findBase : List Nat := [2462, 32620000, 32820000, 33020000, 33220000, 33420000, 34820200, 35020000, 35220000]
set_option maxRecDepth 100000 in
set_option maxHeartbeats 4000000 in
theorem k_X12_findBase (l : Launch) (D : va_G) (cy : Nat → ClassId) (w : Nat → Nat) (z0 : Nat)  {h : Hp} {a0 : Nat} {a1 : Int}  (O : Okh h) (ta0 : Tg h a0 = 12) (fa1 : 0 ≤ a1 ∧ a1 ≤ 15) : MV l D cy w z0 yX12_findBase cX12_findBase 3 none 6 145 0 0 [.inr (.inr a0), .inl a1] h (fun h1 => Okh h1 ∧ Fx wr_k_X12_findBase h h1) := by
  refine hm_go (by decide +kernel) (Nat.le_of_ble_eq_true rfl) (fun p e s m below meth c C hr hn => ?_)
  refine g_aload_n C rfl 0 rfl dX12_findBase_0 ?_
  obtain ⟨v1, e2⟩ : ∃ z, Rv h a0 74 = z := ⟨_, rfl⟩
  have t3 := ok_R O ta0 rE_12_74 e2
  have l4 := ok_L O ta0 rE_12_74 e2
  refine gf_R C fk_LandSurveyModel_263 rfl ta0 e2 dX12_findBase_1 ?_
  refine g_iload_n C rfl 1 rfl dX12_findBase_4 ?_
  refine g_iconst C dX12_findBase_5 ?_
  refine g_zast C t3 rfl l4 (ix fa1 (by decide) (by decide)) (iw (il 0) (by decide) (by decide)) dX12_findBase_6 (fun h6 hh5 => ?_)
  have O7 := O.pIa t3 ar_174101 hh5 rI_174101_0 (iw (il 0) (by decide) (by decide)) nofun
  refine g_iconst C dX12_findBase_7 ?_
  refine g_istore_n C [(2, .inl 0), (0, .inr (.inr a0)), (1, .inl a1)] rfl (by decide) rfl dX12_findBase_8 ?_
  refine GW.sub [1, 2, 0] rfl ?_
  -- loop at 9
  have L10 : ∀ (μ : Nat) (x8 : Int) (h9 : Hp), (40 - x8).toNat = μ → Okh h9 → Fx [34820200] h6 h9 → ((0 : Int) ≤ x8 ∧ x8 ≤ (40 : Int)) → GW p l e (rmm 6 145 0 0) s m (List.map toV [.inr (.inr a0), .inl a1]).toArray below meth c D cy z0 3 (MQ below (QV D cy z0 (fun h1 => Okh h1 ∧ Fx wr_k_X12_findBase h h1)) (List.map toV [.inr (.inr a0), .inl a1]).toArray s 0 0 (Aof z0)) 9 [(0, .inr (.inr a0)), (1, .inl a1), (2, .inl x8)] [] h9 0 0 := by
    intro μ
    induction μ using Nat.strongRecOn with
    | ind μ ih11 =>
      intro x8 h9 hm12 O13 F14 f15
      refine g_iload_n C rfl 2 rfl dX12_findBase_9 ?_
      refine g_aload_n C rfl 0 rfl dX12_findBase_10 ?_
      have e16 : Tg h9 a0 = 12 := (fxT F14 ((pIT hh5).trans ta0))
      obtain ⟨v17, e18⟩ : ∃ z, Iv h9 a0 40 = z := ⟨_, rfl⟩
      have f19 := ok_I O13 e16 rI_12_40 e18
      refine gf_I C fk_LandSurveyModel_423 rfl e16 e18 dX12_findBase_11 ?_
      refine g_icmp_ge C (iw f15 (by decide) (by decide)) (iw f19 (by decide) (by decide)) 65 (by decide) dX12_findBase_14 (fun q20 => ?_) (fun q21 => ?_)
      · refine g_aload_n C rfl 0 rfl dX12_findBase_65 ?_
        have e22 : Tg h6 a0 = 12 := ((pIT hh5).trans ta0)
        have e23 : Rv h9 a0 74 = v1 := ((fxR F14 e22 rfl).trans ((pIR hh5).trans e2))
        refine gf_R C fk_LandSurveyModel_263 rfl e16 e23 dX12_findBase_66 ?_
        refine g_iload_n C rfl 1 rfl dX12_findBase_69 ?_
        have e24 : Tg h9 v1 = 174101 := (fxT F14 ((pIT hh5).trans t3))
        have e25 : Tg h6 v1 = 174101 := ((pIT hh5).trans t3)
        have e26 : Ln h9 v1 = 16 := ((fxL F14 e25).trans ((pIL hh5).trans l4))
        obtain ⟨v27, e28⟩ : ∃ z, Iv h9 v1 a1.toNat = z := ⟨_, rfl⟩
        have f29 := ok_Ia O13 e24 ar_174101 rI_174101_0 e28
        refine g_zald C e24 rfl e26 (ix fa1 (by decide) (by decide)) e28 dX12_findBase_70 ?_
        refine g_if_eq C (iw f29 (by decide) (by decide)) 163 (by decide) dX12_findBase_71 (fun q30 => ?_) (fun q31 => ?_)
        · have f32 : (0 : Int) ≤ v27 ∧ v27 ≤ (0 : Int) := ii f29 (r_eq (il 0) q30) (by decide) (by decide)
          exact g_vret C hr ⟨O13, (((Fx.rf (wr := wr_k_X12_findBase)).pIa t3 ar_174101 hh5 rfl).call F14 rfl)⟩ (by decide) (by decide) dX12_findBase_163
        · have f33 : (1 : Int) ≤ v27 ∧ v27 ≤ (1 : Int) := r_nl f29 q31
          refine g_aload_n C rfl 0 rfl dX12_findBase_74 ?_
          refine g_iload_n C rfl 1 rfl dX12_findBase_75 ?_
          refine g_aload_n C rfl 0 rfl dX12_findBase_76 ?_
          obtain ⟨v34, e35⟩ : ∃ z, Rv h9 a0 72 = z := ⟨_, rfl⟩
          have t36 := ok_R O13 e16 rE_12_72 e35
          have l37 := ok_L O13 e16 rE_12_72 e35
          refine gf_R C fk_LandSurveyModel_257 rfl e16 e35 dX12_findBase_77 ?_
          refine g_iload_n C rfl 1 rfl dX12_findBase_80 ?_
          obtain ⟨v38, e39⟩ : ∃ z, Jv h9 v34 a1.toNat = z := ⟨_, rfl⟩
          have f40 := inL_J O13 e39
          refine g_lald C t36 rfl l37 (ix fa1 (by decide) (by decide)) e39 dX12_findBase_81 ?_
          refine g_iconst C dX12_findBase_82 ?_
          refine g_callV (st := []) (gc_V C lk_LandSurveyModel_523 (k_X12_findBounds l D cy w z0 O13 e16 fa1 f40 (iw (il 1) (by decide) (by decide))) e16 rfl rfl rfl ⟨by decide, by decide⟩ (Nat.le_of_ble_eq_true rfl) dX12_findBase_83 ⟨(by decide), (by decide)⟩) (fun h42 K43 => ?_)
          obtain ⟨O45, F46⟩ := K43
          refine g_aload_n C rfl 0 rfl dX12_findBase_86 ?_
          refine g_bipush C (by decide) dX12_findBase_87 ?_
          refine g_iconst C dX12_findBase_89 ?_
          have e47 : Tg h42 a0 = 12 := (fxT F46 e16)
          refine g_callV (st := []) (gc_V C lk_LandSurveyModel_553 (k_X12_findWays l D cy w z0 O45 e47 (iw (il 96) (by decide) (by decide)) (iw (il 0) (by decide) (by decide))) e47 rfl rfl rfl ⟨by decide, by decide⟩ (Nat.le_of_ble_eq_true rfl) dX12_findBase_90 ⟨(by decide), (by decide)⟩) (fun h49 K50 => ?_)
          obtain ⟨O52, F53⟩ := K50
          refine g_iconst C dX12_findBase_93 ?_
          refine g_istore_n C [(2, .inl 0), (0, .inr (.inr a0)), (1, .inl a1)] rfl (by decide) rfl dX12_findBase_94 ?_
          refine GW.sub [1, 2, 0] rfl ?_
          -- loop at 95
          have L56 : ∀ (μ : Nat) (x54 : Int) (h55 : Hp), (96 - x54).toNat = μ → Okh h55 → Fx [35220000] h49 h55 → ((0 : Int) ≤ x54 ∧ x54 ≤ (96 : Int)) → GW p l e (rmm 6 145 0 0) s m (List.map toV [.inr (.inr a0), .inl a1]).toArray below meth c D cy z0 3 (MQ below (QV D cy z0 (fun h1 => Okh h1 ∧ Fx wr_k_X12_findBase h h1)) (List.map toV [.inr (.inr a0), .inl a1]).toArray s 0 0 (Aof z0)) 95 [(0, .inr (.inr a0)), (1, .inl a1), (2, .inl x54)] [] h55 0 0 := by
            intro μ
            induction μ using Nat.strongRecOn with
            | ind μ ih57 =>
              intro x54 h55 hm58 O59 F60 f61
              refine g_iload_n C rfl 2 rfl dX12_findBase_95 ?_
              refine g_bipush C (by decide) dX12_findBase_96 ?_
              refine g_icmp_ge C (iw f61 (by decide) (by decide)) (iw (il 96) (by decide) (by decide)) 124 (by decide) dX12_findBase_98 (fun q62 => ?_) (fun q63 => ?_)
              · have f64 : (96 : Int) ≤ x54 ∧ x54 ≤ (96 : Int) := r_ge f61 (il 96) q62 (by decide) (by decide)
                refine g_aload_n C rfl 0 rfl dX12_findBase_124 ?_
                refine g_bipush C (by decide) dX12_findBase_125 ?_
                refine g_iconst C dX12_findBase_127 ?_
                have e65 : Tg h55 a0 = 12 := (fxT F60 (fxT F53 e47))
                refine g_callV (st := []) (gc_V C lk_LandSurveyModel_553 (k_X12_findWays l D cy w z0 O59 e65 (iw (il 96) (by decide) (by decide)) (iw (il 1) (by decide) (by decide))) e65 rfl rfl rfl ⟨by decide, by decide⟩ (Nat.le_of_ble_eq_true rfl) dX12_findBase_128 ⟨(by decide), (by decide)⟩) (fun h67 K68 => ?_)
                obtain ⟨O70, F71⟩ := K68
                refine g_iconst C dX12_findBase_131 ?_
                refine g_istore_n C [(2, .inl 0), (0, .inr (.inr a0)), (1, .inl a1)] rfl (by decide) rfl dX12_findBase_132 ?_
                refine GW.sub [1, 2, 0] rfl ?_
                -- loop at 133
                have L74 : ∀ (μ : Nat) (x72 : Int) (h73 : Hp), (96 - x72).toNat = μ → Okh h73 → Fx [35020000] h67 h73 → ((0 : Int) ≤ x72 ∧ x72 ≤ (96 : Int)) → GW p l e (rmm 6 145 0 0) s m (List.map toV [.inr (.inr a0), .inl a1]).toArray below meth c D cy z0 3 (MQ below (QV D cy z0 (fun h1 => Okh h1 ∧ Fx wr_k_X12_findBase h h1)) (List.map toV [.inr (.inr a0), .inl a1]).toArray s 0 0 (Aof z0)) 133 [(0, .inr (.inr a0)), (1, .inl a1), (2, .inl x72)] [] h73 0 0 := by
                  intro μ
                  induction μ using Nat.strongRecOn with
                  | ind μ ih75 =>
                    intro x72 h73 hm76 O77 F78 f79
                    refine g_iload_n C rfl 2 rfl dX12_findBase_133 ?_
                    refine g_bipush C (by decide) dX12_findBase_134 ?_
                    refine g_icmp_ge C (iw f79 (by decide) (by decide)) (iw (il 96) (by decide) (by decide)) 163 (by decide) dX12_findBase_136 (fun q80 => ?_) (fun q81 => ?_)
                    · have f82 : (96 : Int) ≤ x72 ∧ x72 ≤ (96 : Int) := r_ge f79 (il 96) q80 (by decide) (by decide)
                      exact g_vret C hr ⟨O77, ((((((((Fx.rf (wr := wr_k_X12_findBase)).pIa t3 ar_174101 hh5 rfl).call F14 rfl).call F46 rfl).call F53 rfl).call F60 rfl).call F71 rfl).call F78 rfl)⟩ (by decide) (by decide) dX12_findBase_163
                    · have f83 : (0 : Int) ≤ x72 ∧ x72 ≤ (95 : Int) := r_lt f79 (il 96) q81 (by decide) (by decide)
                      refine g_aload_n C rfl 0 rfl dX12_findBase_139 ?_
                      have e84 : Tg h73 a0 = 12 := (fxT F78 (fxT F71 e65))
                      obtain ⟨v85, e86⟩ : ∃ z, Rv h73 a0 75 = z := ⟨_, rfl⟩
                      have t87 := ok_R O77 e84 rE_12_75 e86
                      have l88 := ok_L O77 e84 rE_12_75 e86
                      refine gf_R C fk_LandSurveyModel_266 rfl e84 e86 dX12_findBase_140 ?_
                      refine g_bipush C (by decide) dX12_findBase_143 ?_
                      refine g_iload_n C rfl 1 rfl dX12_findBase_145 ?_
                      have f89 : (0 : Int) ≤ (96 * a1) ∧ (96 * a1) ≤ (1440 : Int) := ia_mul (by decide) fa1 (by decide) (by decide)
                      refine g_imul C dX12_findBase_146 ?_
                      refine g_iload_n C rfl 2 rfl dX12_findBase_147 ?_
                      have f90 : (0 : Int) ≤ ((96 * a1) + x72) ∧ ((96 * a1) + x72) ≤ (1535 : Int) := ia_add f89 f83 (by decide) (by decide)
                      refine g_iadd C dX12_findBase_148 ?_
                      refine g_aload_n C rfl 0 rfl dX12_findBase_149 ?_
                      obtain ⟨v91, e92⟩ : ∃ z, Rv h73 a0 67 = z := ⟨_, rfl⟩
                      have t93 := ok_R O77 e84 rE_12_67 e92
                      have l94 := ok_L O77 e84 rE_12_67 e92
                      refine gf_R C fk_LandSurveyModel_245 rfl e84 e92 dX12_findBase_150 ?_
                      refine g_iload_n C rfl 2 rfl dX12_findBase_153 ?_
                      obtain ⟨v95, e96⟩ : ∃ z, Iv h73 v91 x72.toNat = z := ⟨_, rfl⟩
                      have f97 := ok_Ia O77 t93 ar_167100 rI_167100_0 e96
                      refine g_iald C t93 rfl l94 (ix f83 (by decide) (by decide)) e96 dX12_findBase_154 ?_
                      refine g_inegW C dX12_findBase_155 ?_
                      have f98 : (-2147483648 : Int) ≤ (w32 (-v95)) ∧ (w32 (-v95)) ≤ (2147483647 : Int) := w32_inR _
                      refine g_iast C t87 rfl l88 (ix f90 (by decide) (by decide)) f98 dX12_findBase_156 (fun h100 hh99 => ?_)
                      have O101 := O77.pIa t87 ar_175100 hh99 rI_175100_0 f98 nofun
                      have f102 : (1 : Int) ≤ (x72 + 1) ∧ (x72 + 1) ≤ (96 : Int) := ia_add f83 (il 1) (by decide) (by decide)
                      refine g_iinc C [(2, .inl (x72 + 1)), (0, .inr (.inr a0)), (1, .inl a1)] 2 rfl (by decide) rfl dX12_findBase_157 ?_
                      refine g_goto C 133 (by decide) dX12_findBase_160 ?_
                      refine GW.sub [1, 2, 0] rfl ?_
                      exact ih75 _ (by omega) (x72 + 1) h100 rfl O101 (F78.pIa t87 ar_175100 hh99 rfl) (iw f102 (by decide) (by decide))
                exact L74 _ 0 h67 rfl O70 Fx.rf (iw (il 0) (by decide) (by decide))
              · have f103 : (0 : Int) ≤ x54 ∧ x54 ≤ (95 : Int) := r_lt f61 (il 96) q63 (by decide) (by decide)
                refine g_aload_n C rfl 0 rfl dX12_findBase_101 ?_
                have e104 : Tg h55 a0 = 12 := (fxT F60 (fxT F53 e47))
                obtain ⟨v105, e106⟩ : ∃ z, Rv h55 a0 76 = z := ⟨_, rfl⟩
                have t107 := ok_R O59 e104 rE_12_76 e106
                have l108 := ok_L O59 e104 rE_12_76 e106
                refine gf_R C fk_LandSurveyModel_269 rfl e104 e106 dX12_findBase_102 ?_
                refine g_bipush C (by decide) dX12_findBase_105 ?_
                refine g_iload_n C rfl 1 rfl dX12_findBase_107 ?_
                have f109 : (0 : Int) ≤ (96 * a1) ∧ (96 * a1) ≤ (1440 : Int) := ia_mul (by decide) fa1 (by decide) (by decide)
                refine g_imul C dX12_findBase_108 ?_
                refine g_iload_n C rfl 2 rfl dX12_findBase_109 ?_
                have f110 : (0 : Int) ≤ ((96 * a1) + x54) ∧ ((96 * a1) + x54) ≤ (1535 : Int) := ia_add f109 f103 (by decide) (by decide)
                refine g_iadd C dX12_findBase_110 ?_
                refine g_aload_n C rfl 0 rfl dX12_findBase_111 ?_
                obtain ⟨v111, e112⟩ : ∃ z, Rv h55 a0 67 = z := ⟨_, rfl⟩
                have t113 := ok_R O59 e104 rE_12_67 e112
                have l114 := ok_L O59 e104 rE_12_67 e112
                refine gf_R C fk_LandSurveyModel_245 rfl e104 e112 dX12_findBase_112 ?_
                refine g_iload_n C rfl 2 rfl dX12_findBase_115 ?_
                obtain ⟨v115, e116⟩ : ∃ z, Iv h55 v111 x54.toNat = z := ⟨_, rfl⟩
                have f117 := ok_Ia O59 t113 ar_167100 rI_167100_0 e116
                refine g_iald C t113 rfl l114 (ix f103 (by decide) (by decide)) e116 dX12_findBase_116 ?_
                refine g_iast C t107 rfl l108 (ix f110 (by decide) (by decide)) f117 dX12_findBase_117 (fun h119 hh118 => ?_)
                have O120 := O59.pIa t107 ar_176100 hh118 rI_176100_0 f117 nofun
                have f121 : (1 : Int) ≤ (x54 + 1) ∧ (x54 + 1) ≤ (96 : Int) := ia_add f103 (il 1) (by decide) (by decide)
                refine g_iinc C [(2, .inl (x54 + 1)), (0, .inr (.inr a0)), (1, .inl a1)] 2 rfl (by decide) rfl dX12_findBase_118 ?_
                refine g_goto C 95 (by decide) dX12_findBase_121 ?_
                refine GW.sub [1, 2, 0] rfl ?_
                exact ih57 _ (by omega) (x54 + 1) h119 rfl O120 (F60.pIa t107 ar_176100 hh118 rfl) (iw f121 (by decide) (by decide))
          exact L56 _ 0 h49 rfl O52 Fx.rf (iw (il 0) (by decide) (by decide))
      · have f122 : (0 : Int) ≤ x8 ∧ x8 ≤ (39 : Int) := r_lt f15 f19 q21 (by decide) (by decide)
        have f123 : (1 : Int) ≤ v17 ∧ v17 ≤ (40 : Int) := r_gt f19 f15 q21 (by decide) (by decide)
        refine g_aload_n C rfl 0 rfl dX12_findBase_17 ?_
        have e124 : Tg h6 a0 = 12 := ((pIT hh5).trans ta0)
        have e125 : Rv h9 a0 74 = v1 := ((fxR F14 e124 rfl).trans ((pIR hh5).trans e2))
        refine gf_R C fk_LandSurveyModel_263 rfl e16 e125 dX12_findBase_18 ?_
        refine g_iload_n C rfl 1 rfl dX12_findBase_21 ?_
        refine g_aload_n C rfl 0 rfl dX12_findBase_22 ?_
        refine gf_R C fk_LandSurveyModel_263 rfl e16 e125 dX12_findBase_23 ?_
        refine g_iload_n C rfl 1 rfl dX12_findBase_26 ?_
        have e126 : Tg h9 v1 = 174101 := (fxT F14 ((pIT hh5).trans t3))
        have e127 : Tg h6 v1 = 174101 := ((pIT hh5).trans t3)
        have e128 : Ln h9 v1 = 16 := ((fxL F14 e127).trans ((pIL hh5).trans l4))
        obtain ⟨v129, e130⟩ : ∃ z, Iv h9 v1 a1.toNat = z := ⟨_, rfl⟩
        have f131 := ok_Ia O13 e126 ar_174101 rI_174101_0 e130
        refine g_zald C e126 rfl e128 (ix fa1 (by decide) (by decide)) e130 dX12_findBase_27 ?_
        refine g_if_ne C (iw f131 (by decide) (by decide)) 53 (by decide) dX12_findBase_28 (fun q132 => ?_) (fun q133 => ?_)
        · have f134 : (1 : Int) ≤ v129 ∧ v129 ≤ (1 : Int) := r_nl f131 q132
          refine g_iconst C dX12_findBase_53 ?_
          refine g_goto C 58 (by decide) dX12_findBase_54 ?_
          refine g_zast C e126 rfl e128 (ix fa1 (by decide) (by decide)) (iw (il 1) (by decide) (by decide)) dX12_findBase_58 (fun h136 hh135 => ?_)
          have O137 := O13.pIa e126 ar_174101 hh135 rI_174101_0 (iw (il 1) (by decide) (by decide)) nofun
          have f138 : (1 : Int) ≤ (x8 + 1) ∧ (x8 + 1) ≤ (40 : Int) := ia_add f122 (il 1) (by decide) (by decide)
          refine g_iinc C [(2, .inl (x8 + 1)), (0, .inr (.inr a0)), (1, .inl a1)] 2 rfl (by decide) rfl dX12_findBase_59 ?_
          refine g_goto C 9 (by decide) dX12_findBase_62 ?_
          refine GW.sub [1, 2, 0] rfl ?_
          exact ih11 _ (by omega) (x8 + 1) h136 rfl O137 (F14.pIa e126 ar_174101 hh135 rfl) (iw f138 (by decide) (by decide))
        · have f139 : (0 : Int) ≤ v129 ∧ v129 ≤ (0 : Int) := ii f131 (r_eq (il 0) q133) (by decide) (by decide)
          refine g_aload_n C rfl 0 rfl dX12_findBase_31 ?_
          obtain ⟨v140, e141⟩ : ∃ z, Rv h9 a0 53 = z := ⟨_, rfl⟩
          have t142 := ok_R O13 e16 rE_12_53 e141
          have l143 := ok_L O13 e16 rE_12_53 e141
          refine gf_R C fk_LandSurveyModel_209 rfl e16 e141 dX12_findBase_32 ?_
          refine g_iload_n C rfl 2 rfl dX12_findBase_35 ?_
          obtain ⟨v144, e145⟩ : ∃ z, Iv h9 v140 x8.toNat = z := ⟨_, rfl⟩
          have f146 := ok_Ia O13 t142 ar_153101 rI_153101_0 e145
          refine g_zald C t142 rfl l143 (ix f122 (by decide) (by decide)) e145 dX12_findBase_36 ?_
          refine g_if_eq C (iw f146 (by decide) (by decide)) 57 (by decide) dX12_findBase_37 (fun q147 => ?_) (fun q148 => ?_)
          · have f149 : (0 : Int) ≤ v144 ∧ v144 ≤ (0 : Int) := ii f146 (r_eq (il 0) q147) (by decide) (by decide)
            refine g_iconst C dX12_findBase_57 ?_
            refine g_zast C e126 rfl e128 (ix fa1 (by decide) (by decide)) (iw (il 0) (by decide) (by decide)) dX12_findBase_58 (fun h151 hh150 => ?_)
            have O152 := O13.pIa e126 ar_174101 hh150 rI_174101_0 (iw (il 0) (by decide) (by decide)) nofun
            have f153 : (1 : Int) ≤ (x8 + 1) ∧ (x8 + 1) ≤ (40 : Int) := ia_add f122 (il 1) (by decide) (by decide)
            refine g_iinc C [(2, .inl (x8 + 1)), (0, .inr (.inr a0)), (1, .inl a1)] 2 rfl (by decide) rfl dX12_findBase_59 ?_
            refine g_goto C 9 (by decide) dX12_findBase_62 ?_
            refine GW.sub [1, 2, 0] rfl ?_
            exact ih11 _ (by omega) (x8 + 1) h151 rfl O152 (F14.pIa e126 ar_174101 hh150 rfl) (iw f153 (by decide) (by decide))
          · have f154 : (1 : Int) ≤ v144 ∧ v144 ≤ (1 : Int) := r_nl f146 q148
            refine g_aload_n C rfl 0 rfl dX12_findBase_40 ?_
            obtain ⟨v155, e156⟩ : ∃ z, Rv h9 a0 72 = z := ⟨_, rfl⟩
            have t157 := ok_R O13 e16 rE_12_72 e156
            have l158 := ok_L O13 e16 rE_12_72 e156
            refine gf_R C fk_LandSurveyModel_257 rfl e16 e156 dX12_findBase_41 ?_
            refine g_iload_n C rfl 1 rfl dX12_findBase_44 ?_
            obtain ⟨v159, e160⟩ : ∃ z, Jv h9 v155 a1.toNat = z := ⟨_, rfl⟩
            have f161 := inL_J O13 e160
            refine g_lald C t157 rfl l158 (ix fa1 (by decide) (by decide)) e160 dX12_findBase_45 ?_
            refine g_iload_n C rfl 2 rfl dX12_findBase_46 ?_
            refine g_callI (st := [.inl a1, .inr (.inr v1)]) (gc_S C lk_LandSurveyModel_487 (k_X12_isIn l D cy w z0 O13 f161 (iw f122 (by decide) (by decide))) rfl ⟨by decide, by decide⟩ (Nat.le_of_ble_eq_true rfl) dX12_findBase_47 ⟨(by decide), (by decide)⟩) (fun r162 h163 f165 K164 => ?_)
            obtain ⟨O166, F167, f168⟩ := K164
            refine g_if_ne C (iw f168 (by decide) (by decide)) 57 (by decide) dX12_findBase_50 (fun q169 => ?_) (fun q170 => ?_)
            · have f171 : (1 : Int) ≤ r162 ∧ r162 ≤ (1 : Int) := r_nl f168 q169
              refine g_iconst C dX12_findBase_57 ?_
              have e172 : Tg h163 v1 = 174101 := (fxT F167 e126)
              have e173 : Ln h163 v1 = 16 := ((fxL F167 e126).trans e128)
              refine g_zast C e172 rfl e173 (ix fa1 (by decide) (by decide)) (iw (il 0) (by decide) (by decide)) dX12_findBase_58 (fun h175 hh174 => ?_)
              have O176 := O166.pIa e172 ar_174101 hh174 rI_174101_0 (iw (il 0) (by decide) (by decide)) nofun
              have f177 : (1 : Int) ≤ (x8 + 1) ∧ (x8 + 1) ≤ (40 : Int) := ia_add f122 (il 1) (by decide) (by decide)
              refine g_iinc C [(2, .inl (x8 + 1)), (0, .inr (.inr a0)), (1, .inl a1)] 2 rfl (by decide) rfl dX12_findBase_59 ?_
              refine g_goto C 9 (by decide) dX12_findBase_62 ?_
              refine GW.sub [1, 2, 0] rfl ?_
              exact ih11 _ (by omega) (x8 + 1) h175 rfl O176 ((F14.call F167 rfl).pIa e172 ar_174101 hh174 rfl) (iw f177 (by decide) (by decide))
            · have f178 : (0 : Int) ≤ r162 ∧ r162 ≤ (0 : Int) := ii f168 (r_eq (il 0) q170) (by decide) (by decide)
              refine g_iconst C dX12_findBase_53 ?_
              refine g_goto C 58 (by decide) dX12_findBase_54 ?_
              have e179 : Tg h163 v1 = 174101 := (fxT F167 e126)
              have e180 : Ln h163 v1 = 16 := ((fxL F167 e126).trans e128)
              refine g_zast C e179 rfl e180 (ix fa1 (by decide) (by decide)) (iw (il 1) (by decide) (by decide)) dX12_findBase_58 (fun h182 hh181 => ?_)
              have O183 := O166.pIa e179 ar_174101 hh181 rI_174101_0 (iw (il 1) (by decide) (by decide)) nofun
              have f184 : (1 : Int) ≤ (x8 + 1) ∧ (x8 + 1) ≤ (40 : Int) := ia_add f122 (il 1) (by decide) (by decide)
              refine g_iinc C [(2, .inl (x8 + 1)), (0, .inr (.inr a0)), (1, .inl a1)] 2 rfl (by decide) rfl dX12_findBase_59 ?_
              refine g_goto C 9 (by decide) dX12_findBase_62 ?_
              refine GW.sub [1, 2, 0] rfl ?_
              exact ih11 _ (by omega) (x8 + 1) h182 rfl O183 ((F14.call F167 rfl).pIa e179 ar_174101 hh181 rfl) (iw f184 (by decide) (by decide))
  exact L10 _ 0 h6 rfl O7 Fx.rf (iw (il 0) (by decide) (by decide))
def wr_k_X12_findKept : List Nat := [2478, 34620200]
set_option maxRecDepth 100000 in
set_option maxHeartbeats 4000000 in
theorem k_X12_findKept (l : Launch) (D : va_G) (cy : Nat → ClassId) (w : Nat → Nat) (z0 : Nat)  {h : Hp} {a0 : Nat}  (O : Okh h) (ta0 : Tg h a0 = 12) (P_bg3 : BG h a0 (bShl 1 (Iv h a0 57))) : MV l D cy w z0 yX12_findKept cX12_findKept 2 none 0 0 0 0 [.inr (.inr a0)] h (fun h1 => Okh h1 ∧ Fx wr_k_X12_findKept h h1) := by
  refine hm_go (by decide +kernel) (Nat.le_of_ble_eq_true rfl) (fun p e s m below meth c C hr hn => ?_)
  obtain ⟨v1, e2⟩ : ∃ z, Iv h a0 57 = z := ⟨_, rfl⟩
  have f3 := ok_I O ta0 rI_12_57 e2
  refine g_aload_n C rfl 0 rfl dX12_findKept_0 ?_
  refine g_iconst C dX12_findKept_1 ?_
  refine gp_I C fk_LandSurveyModel_546 pk_LandSurveyModel_78 rfl ta0 (iw (il 0) (by decide) (by decide)) (nf_i _) dX12_findKept_2 (fun h5 hh4 => ?_)
  have O6 := O.pI ta0 hh4 rI_12_78 (iw (il 0) (by decide) (by decide)) nofun
  refine g_iconst C dX12_findKept_5 ?_
  refine g_istore_n C [(1, .inl 0), (0, .inr (.inr a0))] rfl (by decide) rfl dX12_findKept_6 ?_
  refine GW.sub [1, 0] rfl ?_
  -- loop at 7
  have L9 : ∀ (μ : Nat) (x7 : Int) (h8 : Hp), (16 - x7).toNat = μ → Okh h8 → Fx [2478, 34620200] h5 h8 → ((0 : Int) ≤ x7 ∧ x7 ≤ (16 : Int)) → (Iv h8 a0 78 ≤ x7) → GW p l e (rmm 0 0 0 0) s m (List.map toV [.inr (.inr a0)]).toArray below meth c D cy z0 2 (MQ below (QV D cy z0 (fun h1 => Okh h1 ∧ Fx wr_k_X12_findKept h h1)) (List.map toV [.inr (.inr a0)]).toArray s 0 0 (Aof z0)) 7 [(0, .inr (.inr a0)), (1, .inl x7)] [] h8 0 0 := by
    intro μ
    induction μ using Nat.strongRecOn with
    | ind μ ih10 =>
      intro x7 h8 hm11 O12 F13 f14 p15
      have e16 : Tg h5 a0 = 12 := ((pIT hh4).trans ta0)
      obtain ⟨v17, e18⟩ : ∃ z, Iv h8 a0 78 = z := ⟨_, rfl⟩
      have e19 : Tg h8 a0 = 12 := (fxT F13 e16)
      have f20 := ok_I O12 e19 rI_12_78 e18
      rw [e18] at p15
      have e21 : Iv h8 a0 57 = v1 := ((fxI F13 e16 rfl).trans ((pI_j hh4 (by decide)).trans e2))
      have f22 : (1 : Int) ≤ (bShl 1 v1) ∧ (bShl 1 v1) ≤ (16 : Int) := bShl_4 f3
      refine g_iload_n C rfl 1 rfl dX12_findKept_7 ?_
      refine g_iconst C dX12_findKept_8 ?_
      refine g_aload_n C rfl 0 rfl dX12_findKept_9 ?_
      refine gf_I C fk_LandSurveyModel_477 rfl e19 e21 dX12_findKept_10 ?_
      refine g_ishl C dX12_findKept_13 ?_
      refine g_icmp_ge C (iw f14 (by decide) (by decide)) (iw f22 (by decide) (by decide)) 89 (by decide) dX12_findKept_14 (fun q23 => ?_) (fun q24 => ?_)
      · have f25 : (1 : Int) ≤ x7 ∧ x7 ≤ (16 : Int) := r_ge f14 f22 q23 (by decide) (by decide)
        exact g_vret C hr ⟨O12, (((Fx.rf (wr := wr_k_X12_findKept)).pI ta0 hh4 rfl).call F13 rfl)⟩ (by decide) (by decide) dX12_findKept_89
      · have f26 : (0 : Int) ≤ x7 ∧ x7 ≤ (15 : Int) := r_lt f14 f22 q24 (by decide) (by decide)
        refine g_aload_n C rfl 0 rfl dX12_findKept_17 ?_
        obtain ⟨v27, e28⟩ : ∃ z, Rv h8 a0 73 = z := ⟨_, rfl⟩
        have t29 := ok_R O12 e19 rE_12_73 e28
        have l30 := ok_L O12 e19 rE_12_73 e28
        refine gf_R C fk_LandSurveyModel_260 rfl e19 e28 dX12_findKept_18 ?_
        refine g_iload_n C rfl 1 rfl dX12_findKept_21 ?_
        refine g_aload_n C rfl 0 rfl dX12_findKept_22 ?_
        obtain ⟨v31, e32⟩ : ∃ z, Rv h8 a0 70 = z := ⟨_, rfl⟩
        have t33 := ok_R O12 e19 rE_12_70 e32
        have l34 := ok_L O12 e19 rE_12_70 e32
        refine gf_R C fk_LandSurveyModel_251 rfl e19 e32 dX12_findKept_23 ?_
        refine g_iload_n C rfl 1 rfl dX12_findKept_26 ?_
        obtain ⟨v35, e36⟩ : ∃ z, Iv h8 v31 x7.toNat = z := ⟨_, rfl⟩
        have f37 := ok_Ia O12 t33 ar_170101 rI_170101_0 e36
        refine g_zald C t33 rfl l34 (ix f26 (by decide) (by decide)) e36 dX12_findKept_27 ?_
        refine g_if_eq C (iw f37 (by decide) (by decide)) 58 (by decide) dX12_findKept_28 (fun q38 => ?_) (fun q39 => ?_)
        · have f40 : (0 : Int) ≤ v35 ∧ v35 ≤ (0 : Int) := ii f37 (r_eq (il 0) q38) (by decide) (by decide)
          refine g_iconst C dX12_findKept_58 ?_
          refine g_zast C t29 rfl l30 (ix f26 (by decide) (by decide)) (iw (il 0) (by decide) (by decide)) dX12_findKept_59 (fun h42 hh41 => ?_)
          have O43 := O12.pIa t29 ar_173101 hh41 rI_173101_0 (iw (il 0) (by decide) (by decide)) nofun
          refine g_aload_n C rfl 0 rfl dX12_findKept_60 ?_
          refine g_dup C rfl dX12_findKept_61 ?_
          have e44 : Tg h42 a0 = 12 := ((pIT hh41).trans e19)
          have e45 : Iv h42 a0 78 = v17 := ((pI_n hh41 (ne_tag e19 t29 (by decide))).trans e18)
          refine gf_I C fk_LandSurveyModel_546 rfl e44 e45 dX12_findKept_62 ?_
          refine g_aload_n C rfl 0 rfl dX12_findKept_65 ?_
          have e46 : Rv h42 a0 73 = v27 := ((pIR hh41).trans e28)
          refine gf_R C fk_LandSurveyModel_260 rfl e44 e46 dX12_findKept_66 ?_
          refine g_iload_n C rfl 1 rfl dX12_findKept_69 ?_
          have e47 : Tg h42 v27 = 173101 := ((pIT hh41).trans t29)
          have e48 : Ln h42 v27 = 16 := ((pIL hh41).trans l30)
          refine g_zald C e47 rfl e48 (ix f26 (by decide) (by decide)) (pI_e hh41) dX12_findKept_70 ?_
          refine g_if_eq C (iw (il 0) (by decide) (by decide)) 78 (by decide) dX12_findKept_71 (fun q49 => ?_) (fun q50 => ?_)
          · refine g_iconst C dX12_findKept_78 ?_
            have f51 : (0 : Int) ≤ (v17 + 0) ∧ (v17 + 0) ≤ (16 : Int) := ia_add f20 (il 0) (by decide) (by decide)
            refine g_iadd C dX12_findKept_79 ?_
            refine gp_I C fk_LandSurveyModel_546 pk_LandSurveyModel_78 rfl e44 (iw f51 (by decide) (by decide)) (nf_i _) dX12_findKept_80 (fun h53 hh52 => ?_)
            have O54 := O43.pI e44 hh52 rI_12_78 f51 nofun
            have f55 : (1 : Int) ≤ (x7 + 1) ∧ (x7 + 1) ≤ (16 : Int) := ia_add f26 (il 1) (by decide) (by decide)
            refine g_iinc C [(1, .inl (x7 + 1)), (0, .inr (.inr a0))] 1 rfl (by decide) rfl dX12_findKept_83 ?_
            refine g_goto C 7 (by decide) dX12_findKept_86 ?_
            refine GW.sub [1, 0] rfl ?_
            exact ih10 _ (by omega) (x7 + 1) h53 rfl O54 ((F13.pIa t29 ar_173101 hh41 rfl).pI e44 hh52 rfl) (iw f55 (by decide) (by decide)) (by rw [(pI_e hh52)]; omega)
          · exact (no_ne (il 0) (il 0) q50 (by decide)).elim
        · have f56 : (1 : Int) ≤ v35 ∧ v35 ≤ (1 : Int) := r_nl f37 q39
          obtain ⟨v57, e58⟩ : ∃ z, Iv h8 a0 77 = z := ⟨_, rfl⟩
          have f59 := ok_I O12 e19 rI_12_77 e58
          have p60 := (BG_fx O6 F13 e16 rfl (BG_fx O ((Fx.rf (wr := [2478]) (h := h)).pI ta0 hh4 rfl) ta0 rfl P_bg3))
          have z61 := BG_get p60 (by rw [e2]; omega) e32 e36 (by omega) e58
          have f62 : (0 : Int) ≤ v57 ∧ v57 ≤ (15 : Int) := by omega
          refine g_aload_n C rfl 0 rfl dX12_findKept_31 ?_
          obtain ⟨v63, e64⟩ : ∃ z, Rv h8 a0 71 = z := ⟨_, rfl⟩
          have t65 := ok_R O12 e19 rE_12_71 e64
          have l66 := ok_L O12 e19 rE_12_71 e64
          refine gf_R C fk_LandSurveyModel_254 rfl e19 e64 dX12_findKept_32 ?_
          refine g_iload_n C rfl 1 rfl dX12_findKept_35 ?_
          obtain ⟨v67, e68⟩ : ∃ z, Iv h8 v63 x7.toNat = z := ⟨_, rfl⟩
          have f69 := ok_Ia O12 t65 ar_171100 rI_171100_0 e68
          refine g_iald C t65 rfl l66 (ix f26 (by decide) (by decide)) e68 dX12_findKept_36 ?_
          refine g_aload_n C rfl 0 rfl dX12_findKept_37 ?_
          refine gf_R C fk_LandSurveyModel_254 rfl e19 e64 dX12_findKept_38 ?_
          refine g_aload_n C rfl 0 rfl dX12_findKept_41 ?_
          refine gf_I C fk_LandSurveyModel_537 rfl e19 e58 dX12_findKept_42 ?_
          obtain ⟨v70, e71⟩ : ∃ z, Iv h8 v63 v57.toNat = z := ⟨_, rfl⟩
          have f72 := ok_Ia O12 t65 ar_171100 rI_171100_0 e71
          refine g_iald C t65 rfl l66 (ix f62 (by decide) (by decide)) e71 dX12_findKept_45 ?_
          refine g_aload_n C rfl 0 rfl dX12_findKept_46 ?_
          obtain ⟨v73, e74⟩ : ∃ z, Iv h8 a0 79 = z := ⟨_, rfl⟩
          have f75 := ok_I O12 e19 rI_12_79 e74
          refine gf_I C fk_LandSurveyModel_549 rfl e19 e74 dX12_findKept_47 ?_
          have f76 : (-2147483648 : Int) ≤ (w32 (v70 + v73)) ∧ (w32 (v70 + v73)) ≤ (2147483647 : Int) := w32_inR _
          refine g_iaddW C dX12_findKept_50 ?_
          refine g_icmp_gt C f69 f76 58 (by decide) dX12_findKept_51 (fun q77 => ?_) (fun q78 => ?_)
          · have f79 : (-2147483648 : Int) ≤ (w32 (v70 + v73)) ∧ (w32 (v70 + v73)) ≤ (2147483646 : Int) := r_lt f76 f69 q77 (by decide) (by decide)
            have f80 : (-2147483647 : Int) ≤ v67 ∧ v67 ≤ (2147483647 : Int) := r_gt f69 f76 q77 (by decide) (by decide)
            refine g_iconst C dX12_findKept_58 ?_
            refine g_zast C t29 rfl l30 (ix f26 (by decide) (by decide)) (iw (il 0) (by decide) (by decide)) dX12_findKept_59 (fun h82 hh81 => ?_)
            have O83 := O12.pIa t29 ar_173101 hh81 rI_173101_0 (iw (il 0) (by decide) (by decide)) nofun
            refine g_aload_n C rfl 0 rfl dX12_findKept_60 ?_
            refine g_dup C rfl dX12_findKept_61 ?_
            have e84 : Tg h82 a0 = 12 := ((pIT hh81).trans e19)
            have e85 : Iv h82 a0 78 = v17 := ((pI_n hh81 (ne_tag e19 t29 (by decide))).trans e18)
            refine gf_I C fk_LandSurveyModel_546 rfl e84 e85 dX12_findKept_62 ?_
            refine g_aload_n C rfl 0 rfl dX12_findKept_65 ?_
            have e86 : Rv h82 a0 73 = v27 := ((pIR hh81).trans e28)
            refine gf_R C fk_LandSurveyModel_260 rfl e84 e86 dX12_findKept_66 ?_
            refine g_iload_n C rfl 1 rfl dX12_findKept_69 ?_
            have e87 : Tg h82 v27 = 173101 := ((pIT hh81).trans t29)
            have e88 : Ln h82 v27 = 16 := ((pIL hh81).trans l30)
            refine g_zald C e87 rfl e88 (ix f26 (by decide) (by decide)) (pI_e hh81) dX12_findKept_70 ?_
            refine g_if_eq C (iw (il 0) (by decide) (by decide)) 78 (by decide) dX12_findKept_71 (fun q89 => ?_) (fun q90 => ?_)
            · refine g_iconst C dX12_findKept_78 ?_
              have f91 : (0 : Int) ≤ (v17 + 0) ∧ (v17 + 0) ≤ (16 : Int) := ia_add f20 (il 0) (by decide) (by decide)
              refine g_iadd C dX12_findKept_79 ?_
              refine gp_I C fk_LandSurveyModel_546 pk_LandSurveyModel_78 rfl e84 (iw f91 (by decide) (by decide)) (nf_i _) dX12_findKept_80 (fun h93 hh92 => ?_)
              have O94 := O83.pI e84 hh92 rI_12_78 f91 nofun
              have f95 : (1 : Int) ≤ (x7 + 1) ∧ (x7 + 1) ≤ (16 : Int) := ia_add f26 (il 1) (by decide) (by decide)
              refine g_iinc C [(1, .inl (x7 + 1)), (0, .inr (.inr a0))] 1 rfl (by decide) rfl dX12_findKept_83 ?_
              refine g_goto C 7 (by decide) dX12_findKept_86 ?_
              refine GW.sub [1, 0] rfl ?_
              exact ih10 _ (by omega) (x7 + 1) h93 rfl O94 ((F13.pIa t29 ar_173101 hh81 rfl).pI e84 hh92 rfl) (iw f95 (by decide) (by decide)) (by rw [(pI_e hh92)]; omega)
            · exact (no_ne (il 0) (il 0) q90 (by decide)).elim
          · refine g_iconst C dX12_findKept_54 ?_
            refine g_goto C 59 (by decide) dX12_findKept_55 ?_
            refine g_zast C t29 rfl l30 (ix f26 (by decide) (by decide)) (iw (il 1) (by decide) (by decide)) dX12_findKept_59 (fun h97 hh96 => ?_)
            have O98 := O12.pIa t29 ar_173101 hh96 rI_173101_0 (iw (il 1) (by decide) (by decide)) nofun
            refine g_aload_n C rfl 0 rfl dX12_findKept_60 ?_
            refine g_dup C rfl dX12_findKept_61 ?_
            have e99 : Tg h97 a0 = 12 := ((pIT hh96).trans e19)
            have e100 : Iv h97 a0 78 = v17 := ((pI_n hh96 (ne_tag e19 t29 (by decide))).trans e18)
            refine gf_I C fk_LandSurveyModel_546 rfl e99 e100 dX12_findKept_62 ?_
            refine g_aload_n C rfl 0 rfl dX12_findKept_65 ?_
            have e101 : Rv h97 a0 73 = v27 := ((pIR hh96).trans e28)
            refine gf_R C fk_LandSurveyModel_260 rfl e99 e101 dX12_findKept_66 ?_
            refine g_iload_n C rfl 1 rfl dX12_findKept_69 ?_
            have e102 : Tg h97 v27 = 173101 := ((pIT hh96).trans t29)
            have e103 : Ln h97 v27 = 16 := ((pIL hh96).trans l30)
            refine g_zald C e102 rfl e103 (ix f26 (by decide) (by decide)) (pI_e hh96) dX12_findKept_70 ?_
            refine g_if_eq C (iw (il 1) (by decide) (by decide)) 78 (by decide) dX12_findKept_71 (fun q104 => ?_) (fun q105 => ?_)
            · exact (no_eq (il 1) (il 0) q104 (by decide)).elim
            · refine g_iconst C dX12_findKept_74 ?_
              refine g_goto C 79 (by decide) dX12_findKept_75 ?_
              have f106 : (1 : Int) ≤ (v17 + 1) ∧ (v17 + 1) ≤ (17 : Int) := ia_add f20 (il 1) (by decide) (by decide)
              refine g_iadd C dX12_findKept_79 ?_
              refine gp_I C fk_LandSurveyModel_546 pk_LandSurveyModel_78 rfl e99 (iw f106 (by decide) (by decide)) (nf_i _) dX12_findKept_80 (fun h108 hh107 => ?_)
              have O109 := O98.pI e99 hh107 rI_12_78 (by omega) nofun
              have f110 : (1 : Int) ≤ (x7 + 1) ∧ (x7 + 1) ≤ (16 : Int) := ia_add f26 (il 1) (by decide) (by decide)
              refine g_iinc C [(1, .inl (x7 + 1)), (0, .inr (.inr a0))] 1 rfl (by decide) rfl dX12_findKept_83 ?_
              refine g_goto C 7 (by decide) dX12_findKept_86 ?_
              refine GW.sub [1, 0] rfl ?_
              exact ih10 _ (by omega) (x7 + 1) h108 rfl O109 ((F13.pIa t29 ar_173101 hh96 rfl).pI e99 hh107 rfl) (iw f110 (by decide) (by decide)) (by rw [(pI_e hh107)]; omega)
  exact L9 _ 0 h5 rfl O6 Fx.rf (iw (il 0) (by decide) (by decide)) (by rw [(pI_e hh4)]; omega)
def wr_k_X12_findGrounds : List Nat := [2435, 2462, 2469, 2477, 2478, 26220000, 26420000, 30620200, 30820000, 31020000, 31220000, 32620000, 32820000, 33020000, 33220000, 33420000, 33620000, 34020200, 34220000, 34420400, 34620200, 34820200, 35020000, 35220000]
set_option maxRecDepth 100000 in
set_option maxHeartbeats 4000000 in
theorem k_X12_findGrounds (l : Launch) (D : va_G) (cy : Nat → ClassId) (w : Nat → Nat) (z0 : Nat)  {h : Hp} {a0 : Nat}  (O : Okh h) (ta0 : Tg h a0 = 12) (P_MInv : MInv h a0) : MV l D cy w z0 yX12_findGrounds cX12_findGrounds 2 none 10 257 0 0 [.inr (.inr a0)] h (fun h1 => Okh h1 ∧ Fx wr_k_X12_findGrounds h h1) := by
  refine hm_go (by decide +kernel) (Nat.le_of_ble_eq_true rfl) (fun p e s m below meth c C hr hn => ?_)
  refine g_aload_n C rfl 0 rfl dX12_findGrounds_0 ?_
  obtain ⟨v1, e2⟩ : ∃ z, Iv h a0 35 = z := ⟨_, rfl⟩
  have f3 := ok_I O ta0 rI_12_35 e2
  refine gf_I C fk_LandSurveyModel_290 rfl ta0 e2 dX12_findGrounds_1 ?_
  refine g_if_ne C (iw f3 (by decide) (by decide)) 8 (by decide) dX12_findGrounds_4 (fun q4 => ?_) (fun q5 => ?_)
  · have f6 : (1 : Int) ≤ v1 ∧ v1 ≤ (1 : Int) := r_nl f3 q4
    refine g_aload_n C rfl 0 rfl dX12_findGrounds_8 ?_
    refine g_iconst C dX12_findGrounds_9 ?_
    refine gp_I C fk_LandSurveyModel_290 pk_LandSurveyModel_35 rfl ta0 (iw (il 0) (by decide) (by decide)) (nar_z2 (iw (il 0) (by decide) (by decide))) dX12_findGrounds_10 (fun h8 hh7 => ?_)
    have O9 := O.pI ta0 hh7 rI_12_35 (iw (il 0) (by decide) (by decide)) nofun
    refine g_aload_n C rfl 0 rfl dX12_findGrounds_13 ?_
    have e10 : Tg h8 a0 = 12 := ((pIT hh7).trans ta0)
    have p11 := (MInv_fx O ((Fx.rf (wr := [2435]) (h := h)).pI ta0 hh7 rfl) ta0 rfl P_MInv)
    refine g_callV (st := []) (gc_V C lk_LandSurveyModel_534 (k_X12_findSaid l D cy w z0 O9 e10 p11) e10 rfl rfl rfl ⟨by decide, by decide⟩ (Nat.le_of_ble_eq_true rfl) dX12_findGrounds_14 ⟨(by decide), (by decide)⟩) (fun h13 K14 => ?_)
    obtain ⟨O16, F17⟩ := K14
    refine g_aload_n C rfl 0 rfl dX12_findGrounds_17 ?_
    refine g_iconst C dX12_findGrounds_18 ?_
    have e18 : Tg h13 a0 = 12 := (fxT F17 e10)
    refine gp_I C fk_LandSurveyModel_537 pk_LandSurveyModel_77 rfl e18 (iw (il (-1)) (by decide) (by decide)) (nf_i _) dX12_findGrounds_19 (fun h20 hh19 => ?_)
    have O21 := O16.pI e18 hh19 rI_12_77 (iw (il (-1)) (by decide) (by decide)) nofun
    refine g_iconst C dX12_findGrounds_22 ?_
    refine g_istore_n C [(1, .inl 0), (0, .inr (.inr a0))] rfl (by decide) rfl dX12_findGrounds_23 ?_
    refine GW.sub [1, 0] rfl ?_
    -- loop at 24
    have L24 : ∀ (μ : Nat) (x22 : Int) (h23 : Hp), (16 - x22).toNat = μ → Okh h23 → Fx [2462, 2469, 2477, 32620000, 32820000, 33020000, 33220000, 33420000, 33620000, 34020200, 34220000, 34420400, 34820200, 35020000, 35220000] h20 h23 → ((0 : Int) ≤ x22 ∧ x22 ≤ (16 : Int)) → (BG h23 a0 x22) → GW p l e (rmm 10 257 0 0) s m (List.map toV [.inr (.inr a0)]).toArray below meth c D cy z0 2 (MQ below (QV D cy z0 (fun h1 => Okh h1 ∧ Fx wr_k_X12_findGrounds h h1)) (List.map toV [.inr (.inr a0)]).toArray s 0 0 (Aof z0)) 24 [(0, .inr (.inr a0)), (1, .inl x22)] [] h23 0 0 := by
      intro μ
      induction μ using Nat.strongRecOn with
      | ind μ ih25 =>
        intro x22 h23 hm26 O27 F28 f29 p30
        obtain ⟨v31, e32⟩ : ∃ z, Iv h23 a0 57 = z := ⟨_, rfl⟩
        have e33 : Tg h23 a0 = 12 := (fxT F28 ((pIT hh19).trans e18))
        have f34 := ok_I O27 e33 rI_12_57 e32
        have f35 : (1 : Int) ≤ (bShl 1 v31) ∧ (bShl 1 v31) ≤ (16 : Int) := bShl_4 f34
        have e36 : Tg h20 a0 = 12 := ((pIT hh19).trans e18)
        obtain ⟨v37, e38⟩ : ∃ z, Iv h23 a0 77 = z := ⟨_, rfl⟩
        have f39 := ok_I O27 e33 rI_12_77 e38
        refine g_iload_n C rfl 1 rfl dX12_findGrounds_24 ?_
        refine g_iconst C dX12_findGrounds_25 ?_
        refine g_aload_n C rfl 0 rfl dX12_findGrounds_26 ?_
        refine gf_I C fk_LandSurveyModel_477 rfl e33 e32 dX12_findGrounds_27 ?_
        refine g_ishl C dX12_findGrounds_30 ?_
        refine g_icmp_ge C (iw f29 (by decide) (by decide)) (iw f35 (by decide) (by decide)) 105 (by decide) dX12_findGrounds_31 (fun q40 => ?_) (fun q41 => ?_)
        · have f42 : (1 : Int) ≤ x22 ∧ x22 ≤ (16 : Int) := r_ge f29 f35 q40 (by decide) (by decide)
          refine g_aload_n C rfl 0 rfl dX12_findGrounds_105 ?_
          refine g_callV (st := []) (gc_V C lk_LandSurveyModel_543 (k_X12_findKept l D cy w z0 O27 e33 (by rw [e32]; exact (fun z j hj => p30 z j (by omega)))) e33 rfl rfl rfl ⟨by decide, by decide⟩ (Nat.le_of_ble_eq_true rfl) dX12_findGrounds_106 ⟨(by decide), (by decide)⟩) (fun h44 K45 => ?_)
          obtain ⟨O47, F48⟩ := K45
          exact g_vret C hr ⟨O47, ((((((Fx.rf (wr := wr_k_X12_findGrounds)).pI ta0 hh7 rfl).call F17 rfl).pI e18 hh19 rfl).call F28 rfl).call F48 rfl)⟩ (by decide) (by decide) dX12_findGrounds_109
        · have f49 : (0 : Int) ≤ x22 ∧ x22 ≤ (15 : Int) := r_lt f29 f35 q41 (by decide) (by decide)
          refine g_aload_n C rfl 0 rfl dX12_findGrounds_34 ?_
          obtain ⟨v50, e51⟩ : ∃ z, Rv h23 a0 70 = z := ⟨_, rfl⟩
          have t52 := ok_R O27 e33 rE_12_70 e51
          have l53 := ok_L O27 e33 rE_12_70 e51
          refine gf_R C fk_LandSurveyModel_251 rfl e33 e51 dX12_findGrounds_35 ?_
          refine g_iload_n C rfl 1 rfl dX12_findGrounds_38 ?_
          refine g_iconst C dX12_findGrounds_39 ?_
          refine g_zast C t52 rfl l53 (ix f49 (by decide) (by decide)) (iw (il 0) (by decide) (by decide)) dX12_findGrounds_40 (fun h55 hh54 => ?_)
          have O56 := O27.pIa t52 ar_170101 hh54 rI_170101_0 (iw (il 0) (by decide) (by decide)) nofun
          refine g_aload_n C rfl 0 rfl dX12_findGrounds_41 ?_
          refine g_iload_n C rfl 1 rfl dX12_findGrounds_42 ?_
          refine g_lconst (z := 0) C (by decide) dX12_findGrounds_43 ?_
          refine g_iconst C dX12_findGrounds_44 ?_
          have e57 : Tg h55 a0 = 12 := ((pIT hh54).trans e33)
          refine g_callV (st := []) (gc_V C lk_LandSurveyModel_530 (k_seeks_0 l D cy w z0 O56 e57 f49 (iw (il 0) (by decide) (by decide)) (il 0)) e57 rfl rfl rfl ⟨by decide, by decide⟩ (Nat.le_of_ble_eq_true rfl) dX12_findGrounds_45 ⟨(by decide), (by decide)⟩) (fun h59 K60 => ?_)
          obtain ⟨O62, F63, p64⟩ := K60
          refine g_aload_n C rfl 0 rfl dX12_findGrounds_48 ?_
          have e65 : Tg h59 a0 = 12 := (fxT F63 e57)
          have e66 : Rv h59 a0 70 = v50 := ((fxR F63 e57 rfl).trans ((pIR hh54).trans e51))
          refine gf_R C fk_LandSurveyModel_251 rfl e65 e66 dX12_findGrounds_49 ?_
          refine g_iload_n C rfl 1 rfl dX12_findGrounds_52 ?_
          have e67 : Tg h59 v50 = 170101 := (fxT F63 ((pIT hh54).trans t52))
          have e68 : Tg h55 v50 = 170101 := ((pIT hh54).trans t52)
          have e69 : Ln h59 v50 = 16 := ((fxL F63 e68).trans ((pIL hh54).trans l53))
          obtain ⟨v70, e71⟩ : ∃ z, Iv h59 v50 x22.toNat = z := ⟨_, rfl⟩
          have f72 := ok_Ia O62 e67 ar_170101 rI_170101_0 e71
          refine g_zald C e67 rfl e69 (ix f49 (by decide) (by decide)) e71 dX12_findGrounds_53 ?_
          refine g_if_eq C (iw f72 (by decide) (by decide)) 99 (by decide) dX12_findGrounds_54 (fun q73 => ?_) (fun q74 => ?_)
          · have f75 : (0 : Int) ≤ v70 ∧ v70 ≤ (0 : Int) := ii f72 (r_eq (il 0) q73) (by decide) (by decide)
            have f76 : (1 : Int) ≤ (x22 + 1) ∧ (x22 + 1) ≤ (16 : Int) := ia_add f49 (il 1) (by decide) (by decide)
            refine g_iinc C [(1, .inl (x22 + 1)), (0, .inr (.inr a0))] 1 rfl (by decide) rfl dX12_findGrounds_99 ?_
            refine g_goto C 24 (by decide) dX12_findGrounds_102 ?_
            refine GW.sub [1, 0] rfl ?_
            have e77 : Iv h59 a0 77 = v37 := ((fxI F63 e57 rfl).trans ((pI_n hh54 (ne_tag e33 t52 (by decide))).trans e38))
            exact ih25 _ (by omega) (x22 + 1) h59 rfl O62 ((F28.pIa t52 ar_170101 hh54 rfl).call F63 rfl) (iw f76 (by decide) (by decide)) (BG_step (b := 0) (v := v70) (by omega) p30 (e38.trans e77.symm) (IG.trans (IG.trans IG.rf (IG_w hh54 (by omega))) p64) (by rw [e66]; exact e71) (by omega))
          · have f79 : (1 : Int) ≤ v70 ∧ v70 ≤ (1 : Int) := r_nl f72 q74
            refine g_aload_n C rfl 0 rfl dX12_findGrounds_57 ?_
            refine g_aload_n C rfl 0 rfl dX12_findGrounds_58 ?_
            have e80 : Iv h59 a0 77 = v37 := ((fxI F63 e57 rfl).trans ((pI_n hh54 (ne_tag e33 t52 (by decide))).trans e38))
            refine gf_I C fk_LandSurveyModel_537 rfl e65 e80 dX12_findGrounds_59 ?_
            refine g_if_lt C (iw f39 (by decide) (by decide)) 83 (by decide) dX12_findGrounds_62 (fun q81 => ?_) (fun q82 => ?_)
            · have f83 : (-1 : Int) ≤ v37 ∧ v37 ≤ (-1 : Int) := r_lt f39 (il 0) q81 (by decide) (by decide)
              refine g_iload_n C rfl 1 rfl dX12_findGrounds_83 ?_
              refine g_goto C 91 (by decide) dX12_findGrounds_84 ?_
              refine gp_I C fk_LandSurveyModel_537 pk_LandSurveyModel_77 rfl e65 (iw f49 (by decide) (by decide)) (nf_i _) dX12_findGrounds_91 (fun h85 hh84 => ?_)
              have O86 := O62.pI e65 hh84 rI_12_77 (iw f49 (by decide) (by decide)) nofun
              refine g_aload_n C rfl 0 rfl dX12_findGrounds_94 ?_
              refine g_iload_n C rfl 1 rfl dX12_findGrounds_95 ?_
              have e87 : Tg h85 a0 = 12 := ((pIT hh84).trans e65)
              refine g_callV (st := []) (gc_V C lk_LandSurveyModel_540 (k_X12_findBase l D cy w z0 O86 e87 f49) e87 rfl rfl rfl ⟨by decide, by decide⟩ (Nat.le_of_ble_eq_true rfl) dX12_findGrounds_96 ⟨(by decide), (by decide)⟩) (fun h89 K90 => ?_)
              obtain ⟨O92, F93⟩ := K90
              have f94 : (1 : Int) ≤ (x22 + 1) ∧ (x22 + 1) ≤ (16 : Int) := ia_add f49 (il 1) (by decide) (by decide)
              refine g_iinc C [(1, .inl (x22 + 1)), (0, .inr (.inr a0))] 1 rfl (by decide) rfl dX12_findGrounds_99 ?_
              refine g_goto C 24 (by decide) dX12_findGrounds_102 ?_
              refine GW.sub [1, 0] rfl ?_
              have e95 : Iv h89 a0 77 = x22 := ((fxI F93 e87 rfl).trans (pI_e hh84))
              exact ih25 _ (by omega) (x22 + 1) h89 rfl O92 ((((F28.pIa t52 ar_170101 hh54 rfl).call F63 rfl).pI e65 hh84 rfl).call F93 rfl) (iw f94 (by decide) (by decide)) (fun z => absurd z (by rw [e95]; omega))
            · have f96 : (0 : Int) ≤ v37 ∧ v37 ≤ (15 : Int) := r_ge f39 (il 0) q82 (by decide) (by decide)
              refine g_aload_n C rfl 0 rfl dX12_findGrounds_65 ?_
              obtain ⟨v97, e98⟩ : ∃ z, Rv h59 a0 71 = z := ⟨_, rfl⟩
              have t99 := ok_R O62 e65 rE_12_71 e98
              have l100 := ok_L O62 e65 rE_12_71 e98
              refine gf_R C fk_LandSurveyModel_254 rfl e65 e98 dX12_findGrounds_66 ?_
              refine g_iload_n C rfl 1 rfl dX12_findGrounds_69 ?_
              obtain ⟨v101, e102⟩ : ∃ z, Iv h59 v97 x22.toNat = z := ⟨_, rfl⟩
              have f103 := ok_Ia O62 t99 ar_171100 rI_171100_0 e102
              refine g_iald C t99 rfl l100 (ix f49 (by decide) (by decide)) e102 dX12_findGrounds_70 ?_
              refine g_aload_n C rfl 0 rfl dX12_findGrounds_71 ?_
              refine gf_R C fk_LandSurveyModel_254 rfl e65 e98 dX12_findGrounds_72 ?_
              refine g_aload_n C rfl 0 rfl dX12_findGrounds_75 ?_
              refine gf_I C fk_LandSurveyModel_537 rfl e65 e80 dX12_findGrounds_76 ?_
              obtain ⟨v104, e105⟩ : ∃ z, Iv h59 v97 v37.toNat = z := ⟨_, rfl⟩
              have f106 := ok_Ia O62 t99 ar_171100 rI_171100_0 e105
              refine g_iald C t99 rfl l100 (ix f96 (by decide) (by decide)) e105 dX12_findGrounds_79 ?_
              refine g_icmp_ge C f103 f106 87 (by decide) dX12_findGrounds_80 (fun q107 => ?_) (fun q108 => ?_)
              · refine g_aload_n C rfl 0 rfl dX12_findGrounds_87 ?_
                refine gf_I C fk_LandSurveyModel_537 rfl e65 e80 dX12_findGrounds_88 ?_
                refine gp_I C fk_LandSurveyModel_537 pk_LandSurveyModel_77 rfl e65 (iw f96 (by decide) (by decide)) (nf_i _) dX12_findGrounds_91 (fun h110 hh109 => ?_)
                have O111 := O62.pI e65 hh109 rI_12_77 (iw f96 (by decide) (by decide)) nofun
                refine g_aload_n C rfl 0 rfl dX12_findGrounds_94 ?_
                refine g_iload_n C rfl 1 rfl dX12_findGrounds_95 ?_
                have e112 : Tg h110 a0 = 12 := ((pIT hh109).trans e65)
                refine g_callV (st := []) (gc_V C lk_LandSurveyModel_540 (k_X12_findBase l D cy w z0 O111 e112 f49) e112 rfl rfl rfl ⟨by decide, by decide⟩ (Nat.le_of_ble_eq_true rfl) dX12_findGrounds_96 ⟨(by decide), (by decide)⟩) (fun h114 K115 => ?_)
                obtain ⟨O117, F118⟩ := K115
                have f119 : (1 : Int) ≤ (x22 + 1) ∧ (x22 + 1) ≤ (16 : Int) := ia_add f49 (il 1) (by decide) (by decide)
                refine g_iinc C [(1, .inl (x22 + 1)), (0, .inr (.inr a0))] 1 rfl (by decide) rfl dX12_findGrounds_99 ?_
                refine g_goto C 24 (by decide) dX12_findGrounds_102 ?_
                refine GW.sub [1, 0] rfl ?_
                have e120 : Iv h114 a0 77 = v37 := ((fxI F118 e112 rfl).trans (pI_e hh109))
                exact ih25 _ (by omega) (x22 + 1) h114 rfl O117 ((((F28.pIa t52 ar_170101 hh54 rfl).call F63 rfl).pI e65 hh109 rfl).call F118 rfl) (iw f119 (by decide) (by decide)) (fun z => absurd z (by rw [e120]; omega))
              · have f121 : (-2147483648 : Int) ≤ v101 ∧ v101 ≤ (2147483646 : Int) := r_lt f103 f106 q108 (by decide) (by decide)
                have f122 : (-2147483647 : Int) ≤ v104 ∧ v104 ≤ (2147483647 : Int) := r_gt f106 f103 q108 (by decide) (by decide)
                refine g_iload_n C rfl 1 rfl dX12_findGrounds_83 ?_
                refine g_goto C 91 (by decide) dX12_findGrounds_84 ?_
                refine gp_I C fk_LandSurveyModel_537 pk_LandSurveyModel_77 rfl e65 (iw f49 (by decide) (by decide)) (nf_i _) dX12_findGrounds_91 (fun h124 hh123 => ?_)
                have O125 := O62.pI e65 hh123 rI_12_77 (iw f49 (by decide) (by decide)) nofun
                refine g_aload_n C rfl 0 rfl dX12_findGrounds_94 ?_
                refine g_iload_n C rfl 1 rfl dX12_findGrounds_95 ?_
                have e126 : Tg h124 a0 = 12 := ((pIT hh123).trans e65)
                refine g_callV (st := []) (gc_V C lk_LandSurveyModel_540 (k_X12_findBase l D cy w z0 O125 e126 f49) e126 rfl rfl rfl ⟨by decide, by decide⟩ (Nat.le_of_ble_eq_true rfl) dX12_findGrounds_96 ⟨(by decide), (by decide)⟩) (fun h128 K129 => ?_)
                obtain ⟨O131, F132⟩ := K129
                have f133 : (1 : Int) ≤ (x22 + 1) ∧ (x22 + 1) ≤ (16 : Int) := ia_add f49 (il 1) (by decide) (by decide)
                refine g_iinc C [(1, .inl (x22 + 1)), (0, .inr (.inr a0))] 1 rfl (by decide) rfl dX12_findGrounds_99 ?_
                refine g_goto C 24 (by decide) dX12_findGrounds_102 ?_
                refine GW.sub [1, 0] rfl ?_
                have e134 : Iv h128 a0 77 = x22 := ((fxI F132 e126 rfl).trans (pI_e hh123))
                exact ih25 _ (by omega) (x22 + 1) h128 rfl O131 ((((F28.pIa t52 ar_170101 hh54 rfl).call F63 rfl).pI e65 hh123 rfl).call F132 rfl) (iw f133 (by decide) (by decide)) (fun z => absurd z (by rw [e134]; omega))
    exact L24 _ 0 h20 rfl O21 Fx.rf (iw (il 0) (by decide) (by decide)) (fun z j hj => absurd hj (by omega))
  · have f135 : (0 : Int) ≤ v1 ∧ v1 ≤ (0 : Int) := ii f3 (r_eq (il 0) q5) (by decide) (by decide)
    exact g_vret C hr ⟨O, Fx.rf⟩ (by decide) (by decide) dX12_findGrounds_7
