abbrev cX5_rockNamed : ByteArray := prog_7_method_2_code
def yX5_rockNamed : MethodName := ⟨RX5, "rockNamed", "(J)I"⟩
theorem okX5_rockNamed : yok yX5_rockNamed 1 := by decide +kernel
theorem dX5_rockNamed_0 : decode cX5_rockNamed 0 = .ok (.iconst 0, 1) := by decide +kernel
theorem dX5_rockNamed_1 : decode cX5_rockNamed 1 = .ok (.istore_n 3, 1) := by decide +kernel
theorem kw_294 : Cond.fieldLink "LandSurvey$Rules" 62 "LandSurvey$Rules" "rocks" "I" ∈ uu := uu_in (i := 294) (by decide +kernel) (by decide +kernel)
theorem fk_LandSurvey_Rules_62 : fkI "LandSurvey$Rules" 62 5 0 RX5 TX5 19 := ⟨rfl, rfl, inX5, by decide, kw_294, by decide⟩
theorem dX5_rockNamed_2 : decode cX5_rockNamed 2 = .ok (.iload_n 3, 1) := by decide +kernel
theorem dX5_rockNamed_3 : decode cX5_rockNamed 3 = .ok (.aload_n 0, 1) := by decide +kernel
theorem dX5_rockNamed_4 : decode cX5_rockNamed 4 = .ok (.getfield 62, 3) := by decide +kernel
theorem dX5_rockNamed_7 : decode cX5_rockNamed 7 = .ok (.if_icmp .ge 22, 3) := by decide +kernel
theorem dX5_rockNamed_29 : decode cX5_rockNamed 29 = .ok (.iconst (-1), 1) := by decide +kernel
theorem dX5_rockNamed_30 : decode cX5_rockNamed 30 = .ok (.ireturn, 1) := by decide +kernel
theorem dX5_rockNamed_10 : decode cX5_rockNamed 10 = .ok (.aload_n 0, 1) := by decide +kernel
theorem dX5_rockNamed_11 : decode cX5_rockNamed 11 = .ok (.getfield 9, 3) := by decide +kernel
theorem kw_297 : Cond.fieldLink "LandSurvey$Rules" 9 "LandSurvey$Rules" "names" "[J" ∈ uu := uu_in (i := 297) (by decide +kernel) (by decide +kernel)
theorem fk_LandSurvey_Rules_9 : fkR "LandSurvey$Rules" 9 5 1 RX5 TX5 19 := ⟨rfl, rfl, inX5, by decide, kw_297, by decide⟩
theorem dX5_rockNamed_14 : decode cX5_rockNamed 14 = .ok (.iload_n 3, 1) := by decide +kernel
theorem dX5_rockNamed_15 : decode cX5_rockNamed 15 = .ok (.laload, 1) := by decide +kernel
theorem dX5_rockNamed_16 : decode cX5_rockNamed 16 = .ok (.lload_n 1, 1) := by decide +kernel
theorem dX5_rockNamed_17 : decode cX5_rockNamed 17 = .ok (.lcmp, 1) := by decide +kernel
theorem dX5_rockNamed_18 : decode cX5_rockNamed 18 = .ok (.ifCond .ne 5, 3) := by decide +kernel
theorem dX5_rockNamed_23 : decode cX5_rockNamed 23 = .ok (.iinc 3 1, 3) := by decide +kernel
theorem dX5_rockNamed_26 : decode cX5_rockNamed 26 = .ok (.goto (-24), 3) := by decide +kernel
theorem dX5_rockNamed_21 : decode cX5_rockNamed 21 = .ok (.iload_n 3, 1) := by decide +kernel
theorem dX5_rockNamed_22 : decode cX5_rockNamed 22 = .ok (.ireturn, 1) := by decide +kernel
abbrev cX5_holdsWater : ByteArray := prog_7_method_3_code
def yX5_holdsWater : MethodName := ⟨RX5, "holdsWater", "(I)Z"⟩
theorem okX5_holdsWater : yok yX5_holdsWater 1 := by decide +kernel
theorem dX5_holdsWater_0 : decode cX5_holdsWater 0 = .ok (.aload_n 0, 1) := by decide +kernel
theorem dX5_holdsWater_1 : decode cX5_holdsWater 1 = .ok (.getfield 65, 3) := by decide +kernel
theorem kw_315 : Cond.fieldLink "LandSurvey$Rules" 65 "LandSurvey$Rules" "holding" "I" ∈ uu := uu_in (i := 315) (by decide +kernel) (by decide +kernel)
theorem fk_LandSurvey_Rules_65 : fkI "LandSurvey$Rules" 65 5 9 RX5 TX5 19 := ⟨rfl, rfl, inX5, by decide, kw_315, by decide⟩
theorem dX5_holdsWater_4 : decode cX5_holdsWater 4 = .ok (.iload_n 1, 1) := by decide +kernel
theorem dX5_holdsWater_5 : decode cX5_holdsWater 5 = .ok (.ishr, 1) := by decide +kernel
theorem dX5_holdsWater_6 : decode cX5_holdsWater 6 = .ok (.iconst 1, 1) := by decide +kernel
theorem dX5_holdsWater_7 : decode cX5_holdsWater 7 = .ok (.iand, 1) := by decide +kernel
theorem dX5_holdsWater_8 : decode cX5_holdsWater 8 = .ok (.ifCond .eq 7, 3) := by decide +kernel
theorem dX5_holdsWater_15 : decode cX5_holdsWater 15 = .ok (.iconst 0, 1) := by decide +kernel
theorem dX5_holdsWater_16 : decode cX5_holdsWater 16 = .ok (.ireturn, 1) := by decide +kernel
theorem dX5_holdsWater_11 : decode cX5_holdsWater 11 = .ok (.iconst 1, 1) := by decide +kernel
theorem dX5_holdsWater_12 : decode cX5_holdsWater 12 = .ok (.goto 4, 3) := by decide +kernel
abbrev cX5_isTight : ByteArray := prog_7_method_4_code
def yX5_isTight : MethodName := ⟨RX5, "isTight", "(I)Z"⟩
theorem okX5_isTight : yok yX5_isTight 1 := by decide +kernel
theorem dX5_isTight_0 : decode cX5_isTight 0 = .ok (.aload_n 0, 1) := by decide +kernel
theorem dX5_isTight_1 : decode cX5_isTight 1 = .ok (.getfield 68, 3) := by decide +kernel
theorem kw_317 : Cond.fieldLink "LandSurvey$Rules" 68 "LandSurvey$Rules" "tightOnes" "I" ∈ uu := uu_in (i := 317) (by decide +kernel) (by decide +kernel)
theorem fk_LandSurvey_Rules_68 : fkI "LandSurvey$Rules" 68 5 10 RX5 TX5 19 := ⟨rfl, rfl, inX5, by decide, kw_317, by decide⟩
theorem dX5_isTight_4 : decode cX5_isTight 4 = .ok (.iload_n 1, 1) := by decide +kernel
theorem dX5_isTight_5 : decode cX5_isTight 5 = .ok (.ishr, 1) := by decide +kernel
theorem dX5_isTight_6 : decode cX5_isTight 6 = .ok (.iconst 1, 1) := by decide +kernel
theorem dX5_isTight_7 : decode cX5_isTight 7 = .ok (.iand, 1) := by decide +kernel
theorem dX5_isTight_8 : decode cX5_isTight 8 = .ok (.ifCond .eq 7, 3) := by decide +kernel
theorem dX5_isTight_15 : decode cX5_isTight 15 = .ok (.iconst 0, 1) := by decide +kernel
theorem dX5_isTight_16 : decode cX5_isTight 16 = .ok (.ireturn, 1) := by decide +kernel
theorem dX5_isTight_11 : decode cX5_isTight 11 = .ok (.iconst 1, 1) := by decide +kernel
theorem dX5_isTight_12 : decode cX5_isTight 12 = .ok (.goto 4, 3) := by decide +kernel
abbrev cX5_addUp : ByteArray := prog_7_method_5_code
def yX5_addUp : MethodName := ⟨RX5, "addUp", "()V"⟩
theorem okX5_addUp : yok yX5_addUp 0 := by decide +kernel
theorem kw_307 : Cond.fieldLink "LandSurvey$Rules" 71 "LandSurvey$Rules" "leastOfAll" "I" ∈ uu := uu_in (i := 307) (by decide +kernel) (by decide +kernel)
theorem fk_LandSurvey_Rules_71 : fkI "LandSurvey$Rules" 71 5 6 RX5 TX5 19 := ⟨rfl, rfl, inX5, by decide, kw_307, by decide⟩
theorem dX5_addUp_0 : decode cX5_addUp 0 = .ok (.iconst 1, 1) := by decide +kernel
theorem dX5_addUp_1 : decode cX5_addUp 1 = .ok (.istore_n 1, 1) := by decide +kernel
theorem dX5_addUp_2 : decode cX5_addUp 2 = .ok (.iload_n 1, 1) := by decide +kernel
theorem dX5_addUp_3 : decode cX5_addUp 3 = .ok (.aload_n 0, 1) := by decide +kernel
theorem dX5_addUp_4 : decode cX5_addUp 4 = .ok (.getfield 62, 3) := by decide +kernel
theorem dX5_addUp_7 : decode cX5_addUp 7 = .ok (.if_icmp .ge 67, 3) := by decide +kernel
theorem dX5_addUp_74 : decode cX5_addUp 74 = .ok (.aload_n 0, 1) := by decide +kernel
theorem dX5_addUp_75 : decode cX5_addUp 75 = .ok (.getfield 62, 3) := by decide +kernel
theorem dX5_addUp_78 : decode cX5_addUp 78 = .ok (.iconst 2, 1) := by decide +kernel
theorem dX5_addUp_79 : decode cX5_addUp 79 = .ok (.isub, 1) := by decide +kernel
theorem dX5_addUp_80 : decode cX5_addUp 80 = .ok (.istore_n 1, 1) := by decide +kernel
theorem dX5_addUp_81 : decode cX5_addUp 81 = .ok (.iload_n 1, 1) := by decide +kernel
theorem dX5_addUp_82 : decode cX5_addUp 82 = .ok (.ifCond .lt 55, 3) := by decide +kernel
theorem dX5_addUp_137 : decode cX5_addUp 137 = .ok (.aload_n 0, 1) := by decide +kernel
theorem dX5_addUp_138 : decode cX5_addUp 138 = .ok (.aload_n 0, 1) := by decide +kernel
theorem dX5_addUp_139 : decode cX5_addUp 139 = .ok (.getfield 62, 3) := by decide +kernel
theorem dX5_addUp_142 : decode cX5_addUp 142 = .ok (.ifCond .ne 7, 3) := by decide +kernel
theorem dX5_addUp_149 : decode cX5_addUp 149 = .ok (.aload_n 0, 1) := by decide +kernel
theorem dX5_addUp_150 : decode cX5_addUp 150 = .ok (.getfield 22, 3) := by decide +kernel
theorem kw_305 : Cond.fieldLink "LandSurvey$Rules" 22 "LandSurvey$Rules" "leastBelow" "[I" ∈ uu := uu_in (i := 305) (by decide +kernel) (by decide +kernel)
theorem fk_LandSurvey_Rules_22 : fkR "LandSurvey$Rules" 22 5 4 RX5 TX5 19 := ⟨rfl, rfl, inX5, by decide, kw_305, by decide⟩
theorem dX5_addUp_153 : decode cX5_addUp 153 = .ok (.iconst 0, 1) := by decide +kernel
theorem dX5_addUp_154 : decode cX5_addUp 154 = .ok (.iaload, 1) := by decide +kernel
theorem dX5_addUp_155 : decode cX5_addUp 155 = .ok (.aload_n 0, 1) := by decide +kernel
theorem dX5_addUp_156 : decode cX5_addUp 156 = .ok (.getfield 15, 3) := by decide +kernel
theorem kw_299 : Cond.fieldLink "LandSurvey$Rules" 15 "LandSurvey$Rules" "thin" "[I" ∈ uu := uu_in (i := 299) (by decide +kernel) (by decide +kernel)
theorem fk_LandSurvey_Rules_15 : fkR "LandSurvey$Rules" 15 5 2 RX5 TX5 19 := ⟨rfl, rfl, inX5, by decide, kw_299, by decide⟩
theorem dX5_addUp_159 : decode cX5_addUp 159 = .ok (.iconst 0, 1) := by decide +kernel
theorem dX5_addUp_160 : decode cX5_addUp 160 = .ok (.iaload, 1) := by decide +kernel
theorem dX5_addUp_161 : decode cX5_addUp 161 = .ok (.iadd, 1) := by decide +kernel
theorem dX5_addUp_162 : decode cX5_addUp 162 = .ok (.putfield 71, 3) := by decide +kernel
theorem pk_LandSurvey_Rules_6 : pk RX5 TX5 19 6 tyX5 false := ⟨tyX5_ok, nmX5, rfl⟩
theorem dX5_addUp_165 : decode cX5_addUp 165 = .ok (.return_, 1) := by decide +kernel
theorem dX5_addUp_145 : decode cX5_addUp 145 = .ok (.iconst 0, 1) := by decide +kernel
theorem dX5_addUp_146 : decode cX5_addUp 146 = .ok (.goto 16, 3) := by decide +kernel
theorem dX5_addUp_85 : decode cX5_addUp 85 = .ok (.aload_n 0, 1) := by decide +kernel
theorem dX5_addUp_86 : decode cX5_addUp 86 = .ok (.getfield 22, 3) := by decide +kernel
theorem dX5_addUp_89 : decode cX5_addUp 89 = .ok (.iload_n 1, 1) := by decide +kernel
theorem dX5_addUp_90 : decode cX5_addUp 90 = .ok (.aload_n 0, 1) := by decide +kernel
theorem dX5_addUp_91 : decode cX5_addUp 91 = .ok (.getfield 22, 3) := by decide +kernel
theorem dX5_addUp_94 : decode cX5_addUp 94 = .ok (.iload_n 1, 1) := by decide +kernel
theorem dX5_addUp_95 : decode cX5_addUp 95 = .ok (.iconst 1, 1) := by decide +kernel
theorem dX5_addUp_96 : decode cX5_addUp 96 = .ok (.iadd, 1) := by decide +kernel
theorem dX5_addUp_97 : decode cX5_addUp 97 = .ok (.iaload, 1) := by decide +kernel
theorem dX5_addUp_98 : decode cX5_addUp 98 = .ok (.aload_n 0, 1) := by decide +kernel
theorem dX5_addUp_99 : decode cX5_addUp 99 = .ok (.getfield 15, 3) := by decide +kernel
theorem dX5_addUp_102 : decode cX5_addUp 102 = .ok (.iload_n 1, 1) := by decide +kernel
theorem dX5_addUp_103 : decode cX5_addUp 103 = .ok (.iconst 1, 1) := by decide +kernel
theorem dX5_addUp_104 : decode cX5_addUp 104 = .ok (.iadd, 1) := by decide +kernel
theorem dX5_addUp_105 : decode cX5_addUp 105 = .ok (.iaload, 1) := by decide +kernel
theorem dX5_addUp_106 : decode cX5_addUp 106 = .ok (.iadd, 1) := by decide +kernel
theorem dX5_addUp_107 : decode cX5_addUp 107 = .ok (.iastore, 1) := by decide +kernel
theorem dX5_addUp_108 : decode cX5_addUp 108 = .ok (.aload_n 0, 1) := by decide +kernel
theorem dX5_addUp_109 : decode cX5_addUp 109 = .ok (.getfield 25, 3) := by decide +kernel
theorem kw_306 : Cond.fieldLink "LandSurvey$Rules" 25 "LandSurvey$Rules" "mostBelow" "[I" ∈ uu := uu_in (i := 306) (by decide +kernel) (by decide +kernel)
theorem fk_LandSurvey_Rules_25 : fkR "LandSurvey$Rules" 25 5 5 RX5 TX5 19 := ⟨rfl, rfl, inX5, by decide, kw_306, by decide⟩
theorem dX5_addUp_112 : decode cX5_addUp 112 = .ok (.iload_n 1, 1) := by decide +kernel
theorem dX5_addUp_113 : decode cX5_addUp 113 = .ok (.aload_n 0, 1) := by decide +kernel
theorem dX5_addUp_114 : decode cX5_addUp 114 = .ok (.getfield 25, 3) := by decide +kernel
theorem dX5_addUp_117 : decode cX5_addUp 117 = .ok (.iload_n 1, 1) := by decide +kernel
theorem dX5_addUp_118 : decode cX5_addUp 118 = .ok (.iconst 1, 1) := by decide +kernel
theorem dX5_addUp_119 : decode cX5_addUp 119 = .ok (.iadd, 1) := by decide +kernel
theorem dX5_addUp_120 : decode cX5_addUp 120 = .ok (.iaload, 1) := by decide +kernel
theorem dX5_addUp_121 : decode cX5_addUp 121 = .ok (.aload_n 0, 1) := by decide +kernel
theorem dX5_addUp_122 : decode cX5_addUp 122 = .ok (.getfield 19, 3) := by decide +kernel
theorem kw_302 : Cond.fieldLink "LandSurvey$Rules" 19 "LandSurvey$Rules" "thick" "[I" ∈ uu := uu_in (i := 302) (by decide +kernel) (by decide +kernel)
theorem fk_LandSurvey_Rules_19 : fkR "LandSurvey$Rules" 19 5 3 RX5 TX5 19 := ⟨rfl, rfl, inX5, by decide, kw_302, by decide⟩
theorem dX5_addUp_125 : decode cX5_addUp 125 = .ok (.iload_n 1, 1) := by decide +kernel
theorem dX5_addUp_126 : decode cX5_addUp 126 = .ok (.iconst 1, 1) := by decide +kernel
theorem dX5_addUp_127 : decode cX5_addUp 127 = .ok (.iadd, 1) := by decide +kernel
theorem dX5_addUp_128 : decode cX5_addUp 128 = .ok (.iaload, 1) := by decide +kernel
theorem dX5_addUp_129 : decode cX5_addUp 129 = .ok (.iadd, 1) := by decide +kernel
theorem dX5_addUp_130 : decode cX5_addUp 130 = .ok (.iastore, 1) := by decide +kernel
theorem dX5_addUp_131 : decode cX5_addUp 131 = .ok (.iinc 1 (-1), 3) := by decide +kernel
theorem dX5_addUp_134 : decode cX5_addUp 134 = .ok (.goto (-53), 3) := by decide +kernel
theorem dX5_addUp_10 : decode cX5_addUp 10 = .ok (.aload_n 0, 1) := by decide +kernel
theorem dX5_addUp_11 : decode cX5_addUp 11 = .ok (.getfield 22, 3) := by decide +kernel
theorem dX5_addUp_14 : decode cX5_addUp 14 = .ok (.bipush 10, 2) := by decide +kernel
theorem dX5_addUp_16 : decode cX5_addUp 16 = .ok (.iload_n 1, 1) := by decide +kernel
theorem dX5_addUp_17 : decode cX5_addUp 17 = .ok (.iadd, 1) := by decide +kernel
theorem dX5_addUp_18 : decode cX5_addUp 18 = .ok (.aload_n 0, 1) := by decide +kernel
theorem dX5_addUp_19 : decode cX5_addUp 19 = .ok (.getfield 22, 3) := by decide +kernel
theorem dX5_addUp_22 : decode cX5_addUp 22 = .ok (.bipush 10, 2) := by decide +kernel
theorem dX5_addUp_24 : decode cX5_addUp 24 = .ok (.iload_n 1, 1) := by decide +kernel
theorem dX5_addUp_25 : decode cX5_addUp 25 = .ok (.iadd, 1) := by decide +kernel
theorem dX5_addUp_26 : decode cX5_addUp 26 = .ok (.iconst 1, 1) := by decide +kernel
theorem dX5_addUp_27 : decode cX5_addUp 27 = .ok (.isub, 1) := by decide +kernel
theorem dX5_addUp_28 : decode cX5_addUp 28 = .ok (.iaload, 1) := by decide +kernel
theorem dX5_addUp_29 : decode cX5_addUp 29 = .ok (.aload_n 0, 1) := by decide +kernel
theorem dX5_addUp_30 : decode cX5_addUp 30 = .ok (.getfield 15, 3) := by decide +kernel
theorem dX5_addUp_33 : decode cX5_addUp 33 = .ok (.iload_n 1, 1) := by decide +kernel
theorem dX5_addUp_34 : decode cX5_addUp 34 = .ok (.iconst 1, 1) := by decide +kernel
theorem dX5_addUp_35 : decode cX5_addUp 35 = .ok (.isub, 1) := by decide +kernel
theorem dX5_addUp_36 : decode cX5_addUp 36 = .ok (.iaload, 1) := by decide +kernel
theorem dX5_addUp_37 : decode cX5_addUp 37 = .ok (.iadd, 1) := by decide +kernel
theorem dX5_addUp_38 : decode cX5_addUp 38 = .ok (.iastore, 1) := by decide +kernel
theorem dX5_addUp_39 : decode cX5_addUp 39 = .ok (.aload_n 0, 1) := by decide +kernel
theorem dX5_addUp_40 : decode cX5_addUp 40 = .ok (.getfield 25, 3) := by decide +kernel
theorem dX5_addUp_43 : decode cX5_addUp 43 = .ok (.bipush 10, 2) := by decide +kernel
theorem dX5_addUp_45 : decode cX5_addUp 45 = .ok (.iload_n 1, 1) := by decide +kernel
theorem dX5_addUp_46 : decode cX5_addUp 46 = .ok (.iadd, 1) := by decide +kernel
theorem dX5_addUp_47 : decode cX5_addUp 47 = .ok (.aload_n 0, 1) := by decide +kernel
theorem dX5_addUp_48 : decode cX5_addUp 48 = .ok (.getfield 25, 3) := by decide +kernel
theorem dX5_addUp_51 : decode cX5_addUp 51 = .ok (.bipush 10, 2) := by decide +kernel
theorem dX5_addUp_53 : decode cX5_addUp 53 = .ok (.iload_n 1, 1) := by decide +kernel
theorem dX5_addUp_54 : decode cX5_addUp 54 = .ok (.iadd, 1) := by decide +kernel
theorem dX5_addUp_55 : decode cX5_addUp 55 = .ok (.iconst 1, 1) := by decide +kernel
theorem dX5_addUp_56 : decode cX5_addUp 56 = .ok (.isub, 1) := by decide +kernel
theorem dX5_addUp_57 : decode cX5_addUp 57 = .ok (.iaload, 1) := by decide +kernel
theorem dX5_addUp_58 : decode cX5_addUp 58 = .ok (.aload_n 0, 1) := by decide +kernel
theorem dX5_addUp_59 : decode cX5_addUp 59 = .ok (.getfield 19, 3) := by decide +kernel
theorem dX5_addUp_62 : decode cX5_addUp 62 = .ok (.iload_n 1, 1) := by decide +kernel
theorem dX5_addUp_63 : decode cX5_addUp 63 = .ok (.iconst 1, 1) := by decide +kernel
theorem dX5_addUp_64 : decode cX5_addUp 64 = .ok (.isub, 1) := by decide +kernel
theorem dX5_addUp_65 : decode cX5_addUp 65 = .ok (.iaload, 1) := by decide +kernel
theorem dX5_addUp_66 : decode cX5_addUp 66 = .ok (.iadd, 1) := by decide +kernel
theorem dX5_addUp_67 : decode cX5_addUp 67 = .ok (.iastore, 1) := by decide +kernel
theorem dX5_addUp_68 : decode cX5_addUp 68 = .ok (.iinc 1 1, 3) := by decide +kernel
theorem dX5_addUp_71 : decode cX5_addUp 71 = .ok (.goto (-69), 3) := by decide +kernel
abbrev cX5_underLeast : ByteArray := prog_7_method_6_code
def yX5_underLeast : MethodName := ⟨RX5, "underLeast", "(IZ)I"⟩
theorem okX5_underLeast : yok yX5_underLeast 2 := by decide +kernel
theorem dX5_underLeast_0 : decode cX5_underLeast 0 = .ok (.aload_n 0, 1) := by decide +kernel
theorem dX5_underLeast_1 : decode cX5_underLeast 1 = .ok (.getfield 22, 3) := by decide +kernel
theorem dX5_underLeast_4 : decode cX5_underLeast 4 = .ok (.iload_n 2, 1) := by decide +kernel
theorem dX5_underLeast_5 : decode cX5_underLeast 5 = .ok (.ifCond .eq 10, 3) := by decide +kernel
theorem dX5_underLeast_15 : decode cX5_underLeast 15 = .ok (.iload_n 1, 1) := by decide +kernel
theorem dX5_underLeast_16 : decode cX5_underLeast 16 = .ok (.iaload, 1) := by decide +kernel
theorem dX5_underLeast_17 : decode cX5_underLeast 17 = .ok (.ireturn, 1) := by decide +kernel
theorem dX5_underLeast_8 : decode cX5_underLeast 8 = .ok (.bipush 10, 2) := by decide +kernel
theorem dX5_underLeast_10 : decode cX5_underLeast 10 = .ok (.iload_n 1, 1) := by decide +kernel
theorem dX5_underLeast_11 : decode cX5_underLeast 11 = .ok (.iadd, 1) := by decide +kernel
theorem dX5_underLeast_12 : decode cX5_underLeast 12 = .ok (.goto 4, 3) := by decide +kernel
abbrev cX5_underMost : ByteArray := prog_7_method_7_code
def yX5_underMost : MethodName := ⟨RX5, "underMost", "(IZ)I"⟩
theorem okX5_underMost : yok yX5_underMost 2 := by decide +kernel
theorem dX5_underMost_0 : decode cX5_underMost 0 = .ok (.aload_n 0, 1) := by decide +kernel
theorem dX5_underMost_1 : decode cX5_underMost 1 = .ok (.getfield 25, 3) := by decide +kernel
theorem dX5_underMost_4 : decode cX5_underMost 4 = .ok (.iload_n 2, 1) := by decide +kernel
theorem dX5_underMost_5 : decode cX5_underMost 5 = .ok (.ifCond .eq 10, 3) := by decide +kernel
theorem dX5_underMost_15 : decode cX5_underMost 15 = .ok (.iload_n 1, 1) := by decide +kernel
theorem dX5_underMost_16 : decode cX5_underMost 16 = .ok (.iaload, 1) := by decide +kernel
theorem dX5_underMost_17 : decode cX5_underMost 17 = .ok (.ireturn, 1) := by decide +kernel
theorem dX5_underMost_8 : decode cX5_underMost 8 = .ok (.bipush 10, 2) := by decide +kernel
theorem dX5_underMost_10 : decode cX5_underMost 10 = .ok (.iload_n 1, 1) := by decide +kernel
theorem dX5_underMost_11 : decode cX5_underMost 11 = .ok (.iadd, 1) := by decide +kernel
theorem dX5_underMost_12 : decode cX5_underMost 12 = .ok (.goto 4, 3) := by decide +kernel
abbrev cX5_leastBase : ByteArray := prog_7_method_8_code
def yX5_leastBase : MethodName := ⟨RX5, "leastBase", "(IZI)I"⟩
theorem okX5_leastBase : yok yX5_leastBase 3 := by decide +kernel
theorem dX5_leastBase_0 : decode cX5_leastBase 0 = .ok (.iload_n 3, 1) := by decide +kernel
theorem dX5_leastBase_1 : decode cX5_leastBase 1 = .ok (.aload_n 0, 1) := by decide +kernel
theorem dX5_leastBase_2 : decode cX5_leastBase 2 = .ok (.iload_n 1, 1) := by decide +kernel
theorem dX5_leastBase_3 : decode cX5_leastBase 3 = .ok (.iload_n 2, 1) := by decide +kernel
theorem dX5_leastBase_4 : decode cX5_leastBase 4 = .ok (.invokevirtual 74, 3) := by decide +kernel
theorem kw_999 : Cond.code yX5_underMost prog_7_method_7_code 3 (some .int) ∈ uu := uu_in (i := 999) (by decide +kernel) (by decide +kernel)
theorem kw_149 : Cond.initialized "LandSurvey$Rules" ∈ uu := uu_in (i := 149) (by decide +kernel) (by decide +kernel)
theorem kw_996 : Cond.methodLink "LandSurvey$Rules" 74 yX5_underMost ∈ uu := uu_in (i := 996) (by decide +kernel) (by decide +kernel)
theorem kw_997 : Cond.instanceMethod yX5_underMost ∈ uu := uu_in (i := 997) (by decide +kernel) (by decide +kernel)
theorem kw_998 : Cond.selects "LandSurvey$Rules" yX5_underMost yX5_underMost ∈ uu := uu_in (i := 998) (by decide +kernel) (by decide +kernel)
theorem lk_LandSurvey_Rules_74 : lkV "LandSurvey$Rules" 74 yX5_underMost cX5_underMost 3 (some .int) 2 := ⟨kw_996, kw_997, kw_998, kw_149, kw_999, okX5_underMost⟩
theorem dX5_leastBase_7 : decode cX5_leastBase 7 = .ok (.isub, 1) := by decide +kernel
theorem dX5_leastBase_8 : decode cX5_leastBase 8 = .ok (.aload_n 0, 1) := by decide +kernel
theorem dX5_leastBase_9 : decode cX5_leastBase 9 = .ok (.getfield 19, 3) := by decide +kernel
theorem dX5_leastBase_12 : decode cX5_leastBase 12 = .ok (.iload_n 1, 1) := by decide +kernel
theorem dX5_leastBase_13 : decode cX5_leastBase 13 = .ok (.iaload, 1) := by decide +kernel
theorem dX5_leastBase_14 : decode cX5_leastBase 14 = .ok (.isub, 1) := by decide +kernel
theorem dX5_leastBase_15 : decode cX5_leastBase 15 = .ok (.ireturn, 1) := by decide +kernel
abbrev cX5_mostBase : ByteArray := prog_7_method_9_code
def yX5_mostBase : MethodName := ⟨RX5, "mostBase", "(IZI)I"⟩
theorem okX5_mostBase : yok yX5_mostBase 3 := by decide +kernel
theorem dX5_mostBase_0 : decode cX5_mostBase 0 = .ok (.iload_n 3, 1) := by decide +kernel
theorem dX5_mostBase_1 : decode cX5_mostBase 1 = .ok (.aload_n 0, 1) := by decide +kernel
theorem dX5_mostBase_2 : decode cX5_mostBase 2 = .ok (.iload_n 1, 1) := by decide +kernel
theorem dX5_mostBase_3 : decode cX5_mostBase 3 = .ok (.iload_n 2, 1) := by decide +kernel
theorem dX5_mostBase_4 : decode cX5_mostBase 4 = .ok (.invokevirtual 78, 3) := by decide +kernel
theorem kw_1007 : Cond.code yX5_underLeast prog_7_method_6_code 3 (some .int) ∈ uu := uu_in (i := 1007) (by decide +kernel) (by decide +kernel)
theorem kw_1004 : Cond.methodLink "LandSurvey$Rules" 78 yX5_underLeast ∈ uu := uu_in (i := 1004) (by decide +kernel) (by decide +kernel)
theorem kw_1005 : Cond.instanceMethod yX5_underLeast ∈ uu := uu_in (i := 1005) (by decide +kernel) (by decide +kernel)
theorem kw_1006 : Cond.selects "LandSurvey$Rules" yX5_underLeast yX5_underLeast ∈ uu := uu_in (i := 1006) (by decide +kernel) (by decide +kernel)
theorem lk_LandSurvey_Rules_78 : lkV "LandSurvey$Rules" 78 yX5_underLeast cX5_underLeast 3 (some .int) 2 := ⟨kw_1004, kw_1005, kw_1006, kw_149, kw_1007, okX5_underLeast⟩
theorem dX5_mostBase_7 : decode cX5_mostBase 7 = .ok (.isub, 1) := by decide +kernel
theorem dX5_mostBase_8 : decode cX5_mostBase 8 = .ok (.ireturn, 1) := by decide +kernel
abbrev cX5_worked : ByteArray := prog_7_method_11_code
def yX5_worked : MethodName := ⟨RX5, "worked", "(I[I)I"⟩
theorem okX5_worked : yok yX5_worked 2 := by decide +kernel
theorem dX5_worked_0 : decode cX5_worked 0 = .ok (.iconst 0, 1) := by decide +kernel
theorem dX5_worked_1 : decode cX5_worked 1 = .ok (.istore_n 3, 1) := by decide +kernel
theorem dX5_worked_2 : decode cX5_worked 2 = .ok (.iload_n 1, 1) := by decide +kernel
theorem dX5_worked_3 : decode cX5_worked 3 = .ok (.ifCond .ne 7, 3) := by decide +kernel
theorem dX5_worked_10 : decode cX5_worked 10 = .ok (.aload_n 0, 1) := by decide +kernel
theorem dX5_worked_11 : decode cX5_worked 11 = .ok (.getfield 47, 3) := by decide +kernel
theorem kw_332 : Cond.fieldLink "LandSurvey$Rules" 47 "LandSurvey$Rules" "lineEnd" "[I" ∈ uu := uu_in (i := 332) (by decide +kernel) (by decide +kernel)
theorem fk_LandSurvey_Rules_47 : fkR "LandSurvey$Rules" 47 5 16 RX5 TX5 19 := ⟨rfl, rfl, inX5, by decide, kw_332, by decide⟩
theorem dX5_worked_14 : decode cX5_worked 14 = .ok (.iload_n 1, 1) := by decide +kernel
theorem dX5_worked_15 : decode cX5_worked 15 = .ok (.iconst 1, 1) := by decide +kernel
theorem dX5_worked_16 : decode cX5_worked 16 = .ok (.isub, 1) := by decide +kernel
theorem dX5_worked_17 : decode cX5_worked 17 = .ok (.iaload, 1) := by decide +kernel
theorem dX5_worked_18 : decode cX5_worked 18 = .ok (.istore 4, 2) := by decide +kernel
theorem dX5_worked_20 : decode cX5_worked 20 = .ok (.iload 4, 2) := by decide +kernel
theorem dX5_worked_22 : decode cX5_worked 22 = .ok (.aload_n 0, 1) := by decide +kernel
theorem dX5_worked_23 : decode cX5_worked 23 = .ok (.getfield 47, 3) := by decide +kernel
theorem dX5_worked_26 : decode cX5_worked 26 = .ok (.iload_n 1, 1) := by decide +kernel
theorem dX5_worked_27 : decode cX5_worked 27 = .ok (.iaload, 1) := by decide +kernel
theorem dX5_worked_28 : decode cX5_worked 28 = .ok (.if_icmp .ge 133, 3) := by decide +kernel
theorem dX5_worked_161 : decode cX5_worked 161 = .ok (.iload_n 3, 1) := by decide +kernel
theorem dX5_worked_162 : decode cX5_worked 162 = .ok (.ifCond .ne 7, 3) := by decide +kernel
theorem dX5_worked_169 : decode cX5_worked 169 = .ok (.aload_n 0, 1) := by decide +kernel
theorem dX5_worked_170 : decode cX5_worked 170 = .ok (.getfield 53, 3) := by decide +kernel
theorem kw_336 : Cond.fieldLink "LandSurvey$Rules" 53 "LandSurvey$Rules" "stack" "[I" ∈ uu := uu_in (i := 336) (by decide +kernel) (by decide +kernel)
theorem fk_LandSurvey_Rules_53 : fkR "LandSurvey$Rules" 53 5 18 RX5 TX5 19 := ⟨rfl, rfl, inX5, by decide, kw_336, by decide⟩
theorem dX5_worked_173 : decode cX5_worked 173 = .ok (.iconst 0, 1) := by decide +kernel
theorem dX5_worked_174 : decode cX5_worked 174 = .ok (.iaload, 1) := by decide +kernel
theorem dX5_worked_175 : decode cX5_worked 175 = .ok (.ireturn, 1) := by decide +kernel
theorem dX5_worked_165 : decode cX5_worked 165 = .ok (.iconst 0, 1) := by decide +kernel
theorem dX5_worked_166 : decode cX5_worked 166 = .ok (.goto 9, 3) := by decide +kernel
theorem dX5_worked_31 : decode cX5_worked 31 = .ok (.aload_n 0, 1) := by decide +kernel
theorem dX5_worked_32 : decode cX5_worked 32 = .ok (.getfield 50, 3) := by decide +kernel
theorem kw_334 : Cond.fieldLink "LandSurvey$Rules" 50 "LandSurvey$Rules" "code" "[I" ∈ uu := uu_in (i := 334) (by decide +kernel) (by decide +kernel)
theorem fk_LandSurvey_Rules_50 : fkR "LandSurvey$Rules" 50 5 17 RX5 TX5 19 := ⟨rfl, rfl, inX5, by decide, kw_334, by decide⟩
theorem dX5_worked_35 : decode cX5_worked 35 = .ok (.iload 4, 2) := by decide +kernel
theorem dX5_worked_37 : decode cX5_worked 37 = .ok (.iaload, 1) := by decide +kernel
theorem dX5_worked_38 : decode cX5_worked 38 = .ok (.istore 5, 2) := by decide +kernel
theorem dX5_worked_40 : decode cX5_worked 40 = .ok (.iload 5, 2) := by decide +kernel
theorem dX5_worked_42 : decode cX5_worked 42 = .ok (.bipush (-21), 2) := by decide +kernel
theorem dX5_worked_44 : decode cX5_worked 44 = .ok (.if_icmp .le 37, 3) := by decide +kernel
theorem dX5_worked_81 : decode cX5_worked 81 = .ok (.iload 5, 2) := by decide +kernel
theorem dX5_worked_83 : decode cX5_worked 83 = .ok (.bipush (-27), 2) := by decide +kernel
theorem dX5_worked_85 : decode cX5_worked 85 = .ok (.if_icmp .ne 35, 3) := by decide +kernel
theorem dX5_worked_120 : decode cX5_worked 120 = .ok (.iload_n 3, 1) := by decide +kernel
theorem dX5_worked_121 : decode cX5_worked 121 = .ok (.iconst 2, 1) := by decide +kernel
theorem dX5_worked_122 : decode cX5_worked 122 = .ok (.if_icmp .lt 33, 3) := by decide +kernel
theorem dX5_worked_155 : decode cX5_worked 155 = .ok (.iinc 4 1, 3) := by decide +kernel
theorem dX5_worked_158 : decode cX5_worked 158 = .ok (.goto (-138), 3) := by decide +kernel
theorem dX5_worked_125 : decode cX5_worked 125 = .ok (.iinc 3 (-1), 3) := by decide +kernel
theorem dX5_worked_128 : decode cX5_worked 128 = .ok (.aload_n 0, 1) := by decide +kernel
theorem dX5_worked_129 : decode cX5_worked 129 = .ok (.getfield 53, 3) := by decide +kernel
theorem dX5_worked_132 : decode cX5_worked 132 = .ok (.iload_n 3, 1) := by decide +kernel
theorem dX5_worked_133 : decode cX5_worked 133 = .ok (.iconst 1, 1) := by decide +kernel
theorem dX5_worked_134 : decode cX5_worked 134 = .ok (.isub, 1) := by decide +kernel
theorem dX5_worked_135 : decode cX5_worked 135 = .ok (.iload 5, 2) := by decide +kernel
theorem dX5_worked_137 : decode cX5_worked 137 = .ok (.aload_n 0, 1) := by decide +kernel
theorem dX5_worked_138 : decode cX5_worked 138 = .ok (.getfield 53, 3) := by decide +kernel
theorem dX5_worked_141 : decode cX5_worked 141 = .ok (.iload_n 3, 1) := by decide +kernel
theorem dX5_worked_142 : decode cX5_worked 142 = .ok (.iconst 1, 1) := by decide +kernel
theorem dX5_worked_143 : decode cX5_worked 143 = .ok (.isub, 1) := by decide +kernel
theorem dX5_worked_144 : decode cX5_worked 144 = .ok (.iaload, 1) := by decide +kernel
theorem dX5_worked_145 : decode cX5_worked 145 = .ok (.aload_n 0, 1) := by decide +kernel
theorem dX5_worked_146 : decode cX5_worked 146 = .ok (.getfield 53, 3) := by decide +kernel
theorem dX5_worked_149 : decode cX5_worked 149 = .ok (.iload_n 3, 1) := by decide +kernel
theorem dX5_worked_150 : decode cX5_worked 150 = .ok (.iaload, 1) := by decide +kernel
theorem dX5_worked_151 : decode cX5_worked 151 = .ok (.invokestatic 88, 3) := by decide +kernel
theorem kw_987 : Cond.code yX5_joined prog_7_method_12_code 3 (some .int) ∈ uu := uu_in (i := 987) (by decide +kernel) (by decide +kernel)
theorem kw_985 : Cond.methodLink "LandSurvey$Rules" 88 yX5_joined ∈ uu := uu_in (i := 985) (by decide +kernel) (by decide +kernel)
theorem kw_986 : Cond.static yX5_joined ∈ uu := uu_in (i := 986) (by decide +kernel) (by decide +kernel)
theorem lk_LandSurvey_Rules_88 : lkS "LandSurvey$Rules" 88 yX5_joined cX5_joined 3 (some .int) 3 := ⟨kw_985, kw_986, kw_149, kw_987, okX5_joined⟩
theorem dX5_worked_154 : decode cX5_worked 154 = .ok (.iastore, 1) := by decide +kernel
theorem dX5_worked_88 : decode cX5_worked 88 = .ok (.iload_n 3, 1) := by decide +kernel
theorem dX5_worked_89 : decode cX5_worked 89 = .ok (.iconst 1, 1) := by decide +kernel
theorem dX5_worked_90 : decode cX5_worked 90 = .ok (.if_icmp .lt 30, 3) := by decide +kernel
theorem dX5_worked_93 : decode cX5_worked 93 = .ok (.aload_n 0, 1) := by decide +kernel
theorem dX5_worked_94 : decode cX5_worked 94 = .ok (.getfield 53, 3) := by decide +kernel
theorem dX5_worked_97 : decode cX5_worked 97 = .ok (.iload_n 3, 1) := by decide +kernel
theorem dX5_worked_98 : decode cX5_worked 98 = .ok (.iconst 1, 1) := by decide +kernel
theorem dX5_worked_99 : decode cX5_worked 99 = .ok (.isub, 1) := by decide +kernel
theorem dX5_worked_100 : decode cX5_worked 100 = .ok (.aload_n 0, 1) := by decide +kernel
theorem dX5_worked_101 : decode cX5_worked 101 = .ok (.getfield 53, 3) := by decide +kernel
theorem dX5_worked_104 : decode cX5_worked 104 = .ok (.iload_n 3, 1) := by decide +kernel
theorem dX5_worked_105 : decode cX5_worked 105 = .ok (.iconst 1, 1) := by decide +kernel
theorem dX5_worked_106 : decode cX5_worked 106 = .ok (.isub, 1) := by decide +kernel
theorem dX5_worked_107 : decode cX5_worked 107 = .ok (.iaload, 1) := by decide +kernel
theorem dX5_worked_108 : decode cX5_worked 108 = .ok (.ifCond .ne 7, 3) := by decide +kernel
theorem dX5_worked_115 : decode cX5_worked 115 = .ok (.iconst 0, 1) := by decide +kernel
theorem dX5_worked_116 : decode cX5_worked 116 = .ok (.iastore, 1) := by decide +kernel
theorem dX5_worked_117 : decode cX5_worked 117 = .ok (.goto 38, 3) := by decide +kernel
theorem dX5_worked_111 : decode cX5_worked 111 = .ok (.iconst 1, 1) := by decide +kernel
theorem dX5_worked_112 : decode cX5_worked 112 = .ok (.goto 4, 3) := by decide +kernel
theorem dX5_worked_47 : decode cX5_worked 47 = .ok (.iload_n 3, 1) := by decide +kernel
theorem dX5_worked_48 : decode cX5_worked 48 = .ok (.bipush 32, 2) := by decide +kernel
theorem dX5_worked_50 : decode cX5_worked 50 = .ok (.if_icmp .ge 31, 3) := by decide +kernel
theorem dX5_worked_53 : decode cX5_worked 53 = .ok (.aload_n 0, 1) := by decide +kernel
theorem dX5_worked_54 : decode cX5_worked 54 = .ok (.getfield 53, 3) := by decide +kernel
theorem dX5_worked_57 : decode cX5_worked 57 = .ok (.iload_n 3, 1) := by decide +kernel
theorem dX5_worked_58 : decode cX5_worked 58 = .ok (.iload 5, 2) := by decide +kernel
theorem dX5_worked_60 : decode cX5_worked 60 = .ok (.ifCond .lt 8, 3) := by decide +kernel
theorem dX5_worked_68 : decode cX5_worked 68 = .ok (.aload_n 2, 1) := by decide +kernel
theorem dX5_worked_69 : decode cX5_worked 69 = .ok (.iconst (-1), 1) := by decide +kernel
theorem dX5_worked_70 : decode cX5_worked 70 = .ok (.iload 5, 2) := by decide +kernel
theorem dX5_worked_72 : decode cX5_worked 72 = .ok (.isub, 1) := by decide +kernel
theorem dX5_worked_73 : decode cX5_worked 73 = .ok (.iaload, 1) := by decide +kernel
theorem dX5_worked_74 : decode cX5_worked 74 = .ok (.iastore, 1) := by decide +kernel
theorem dX5_worked_75 : decode cX5_worked 75 = .ok (.iinc 3 1, 3) := by decide +kernel
theorem dX5_worked_78 : decode cX5_worked 78 = .ok (.goto 77, 3) := by decide +kernel
theorem dX5_worked_63 : decode cX5_worked 63 = .ok (.iload 5, 2) := by decide +kernel
theorem dX5_worked_65 : decode cX5_worked 65 = .ok (.goto 9, 3) := by decide +kernel
theorem dX5_worked_6 : decode cX5_worked 6 = .ok (.iconst 0, 1) := by decide +kernel
theorem dX5_worked_7 : decode cX5_worked 7 = .ok (.goto 11, 3) := by decide +kernel
def wr_k_X5_rockNamed : List Nat := []
set_option maxRecDepth 100000 in
set_option maxHeartbeats 4000000 in
theorem k_X5_rockNamed (l : Launch) (D : va_G) (cy : Nat → ClassId) (w : Nat → Nat) (z0 : Nat)  {h : Hp} {a0 : Nat} {a1 : Int}  (O : Okh h) (ta0 : Tg h a0 = 2006) (fa1 : (-9223372036854775808) ≤ a1 ∧ a1 ≤ 9223372036854775807) : MI l D cy w z0 yX5_rockNamed cX5_rockNamed 4 (some .int) 0 0 0 0 [.inr (.inr a0), .inr (.inl a1)] h (fun v h1 => Okh h1 ∧ Fx wr_k_X5_rockNamed h h1 ∧ ((-1) ≤ v ∧ v ≤ 9)) := by
  refine hm_go (by decide +kernel) (Nat.le_of_ble_eq_true rfl) (fun p e s m below meth c C hr hn => ?_)
  refine g_iconst C dX5_rockNamed_0 ?_
  refine g_istore_n C [(3, .inl 0), (0, .inr (.inr a0)), (1, .inr (.inl a1))] rfl (by decide) rfl dX5_rockNamed_1 ?_
  refine GW.sub [1, 2, 0] rfl ?_
  -- loop at 2
  have L2 : ∀ (μ : Nat) (x1 : Int), (10 - x1).toNat = μ → ((0 : Int) ≤ x1 ∧ x1 ≤ (10 : Int)) → GW p l e (rmm 0 0 0 0) s m (List.map toV [.inr (.inr a0), .inr (.inl a1)]).toArray below meth c D cy z0 4 (MQ below (QI D cy z0 (fun v h1 => Okh h1 ∧ Fx wr_k_X5_rockNamed h h1 ∧ ((-1) ≤ v ∧ v ≤ 9))) (List.map toV [.inr (.inr a0), .inr (.inl a1)]).toArray s 0 0 (Aof z0)) 2 [(0, .inr (.inr a0)), (1, .inr (.inl a1)), (3, .inl x1)] [] h 0 0 := by
    intro μ
    induction μ using Nat.strongRecOn with
    | ind μ ih3 =>
      intro x1 hm4 f5
      refine g_iload_n C rfl 2 rfl dX5_rockNamed_2 ?_
      refine g_aload_n C rfl 0 rfl dX5_rockNamed_3 ?_
      obtain ⟨v6, e7⟩ : ∃ z, Iv h a0 0 = z := ⟨_, rfl⟩
      have f8 := ok_I O ta0 rI_2006_0 e7
      refine gf_I C fk_LandSurvey_Rules_62 rfl ta0 e7 dX5_rockNamed_4 ?_
      refine g_icmp_ge C (iw f5 (by decide) (by decide)) (iw f8 (by decide) (by decide)) 29 (by decide) dX5_rockNamed_7 (fun q9 => ?_) (fun q10 => ?_)
      · refine g_iconst C dX5_rockNamed_29 ?_
        exact g_iret C hr rfl (iw (il (-1)) (by decide) (by decide)) ⟨O, Fx.rf, (iw (il (-1)) (by decide) (by decide))⟩ (by decide) (by decide) dX5_rockNamed_30
      · have f11 : (0 : Int) ≤ x1 ∧ x1 ≤ (9 : Int) := r_lt f5 f8 q10 (by decide) (by decide)
        have f12 : (1 : Int) ≤ v6 ∧ v6 ≤ (10 : Int) := r_gt f8 f5 q10 (by decide) (by decide)
        refine g_aload_n C rfl 0 rfl dX5_rockNamed_10 ?_
        obtain ⟨v13, e14⟩ : ∃ z, Rv h a0 1 = z := ⟨_, rfl⟩
        have t15 := ok_R O ta0 rE_2006_1 e14
        have l16 := ok_L O ta0 rE_2006_1 e14
        refine gf_R C fk_LandSurvey_Rules_9 rfl ta0 e14 dX5_rockNamed_11 ?_
        refine g_iload_n C rfl 2 rfl dX5_rockNamed_14 ?_
        obtain ⟨v17, e18⟩ : ∃ z, Jv h v13 x1.toNat = z := ⟨_, rfl⟩
        have f19 := inL_J O e18
        refine g_lald C t15 rfl l16 (ix f11 (by decide) (by decide)) e18 dX5_rockNamed_15 ?_
        refine g_lload_n C rfl 1 rfl dX5_rockNamed_16 ?_
        refine g_lcmp C f19 fa1 dX5_rockNamed_17 ?_
        have f20 : (-1 : Int) ≤ (lC v17 a1) ∧ (lC v17 a1) ≤ (1 : Int) := lC_rng _ _
        refine g_if_ne C (iw f20 (by decide) (by decide)) 23 (by decide) dX5_rockNamed_18 (fun q21 => ?_) (fun q22 => ?_)
        · have q23 : ¬ v17 = a1 := fun z => q21 (lC_eq.mpr z)
          have f24 : (1 : Int) ≤ (x1 + 1) ∧ (x1 + 1) ≤ (10 : Int) := ia_add f11 (il 1) (by decide) (by decide)
          refine g_iinc C [(3, .inl (x1 + 1)), (0, .inr (.inr a0)), (1, .inr (.inl a1))] 2 rfl (by decide) rfl dX5_rockNamed_23 ?_
          refine g_goto C 2 (by decide) dX5_rockNamed_26 ?_
          refine GW.sub [1, 2, 0] rfl ?_
          exact ih3 _ (by omega) (x1 + 1) rfl (iw f24 (by decide) (by decide))
        · have q25 : v17 = a1 := lC_eq.mp q22
          refine g_iload_n C rfl 2 rfl dX5_rockNamed_21 ?_
          exact g_iret C hr rfl (iw f11 (by decide) (by decide)) ⟨O, Fx.rf, (iw f11 (by decide) (by decide))⟩ (by decide) (by decide) dX5_rockNamed_22
  exact L2 _ 0 rfl (iw (il 0) (by decide) (by decide))
def wr_k_X5_holdsWater : List Nat := []
set_option maxRecDepth 100000 in
set_option maxHeartbeats 4000000 in
theorem k_X5_holdsWater (l : Launch) (D : va_G) (cy : Nat → ClassId) (w : Nat → Nat) (z0 : Nat)  {h : Hp} {a0 : Nat} {a1 : Int}  (O : Okh h) (ta0 : Tg h a0 = 6) (fa1 : (-2147483648) ≤ a1 ∧ a1 ≤ 2147483647) : MI l D cy w z0 yX5_holdsWater cX5_holdsWater 2 (some .boolean) 0 0 0 0 [.inr (.inr a0), .inl a1] h (fun v h1 => Okh h1 ∧ Fx wr_k_X5_holdsWater h h1 ∧ (0 ≤ v ∧ v ≤ 1)) := by
  refine hm_go (by decide +kernel) (Nat.le_of_ble_eq_true rfl) (fun p e s m below meth c C hr hn => ?_)
  refine g_aload_n C rfl 0 rfl dX5_holdsWater_0 ?_
  obtain ⟨v1, e2⟩ : ∃ z, Iv h a0 9 = z := ⟨_, rfl⟩
  have f3 := ok_I O ta0 rI_6_9 e2
  refine gf_I C fk_LandSurvey_Rules_65 rfl ta0 e2 dX5_holdsWater_1 ?_
  refine g_iload_n C rfl 1 rfl dX5_holdsWater_4 ?_
  refine g_ishr C dX5_holdsWater_5 ?_
  have f4 : (-2147483648 : Int) ≤ (bShr v1 a1) ∧ (bShr v1 a1) ≤ (2147483647 : Int) := inR_of _
  refine g_iconst C dX5_holdsWater_6 ?_
  refine g_iand C dX5_holdsWater_7 ?_
  have f5 : (0 : Int) ≤ (bAnd (bShr v1 a1) 1) ∧ (bAnd (bShr v1 a1) 1) ≤ (1 : Int) := bAnd_1 _
  refine g_if_eq C (iw f5 (by decide) (by decide)) 15 (by decide) dX5_holdsWater_8 (fun q6 => ?_) (fun q7 => ?_)
  · have f8 : (0 : Int) ≤ (bAnd (bShr v1 a1) 1) ∧ (bAnd (bShr v1 a1) 1) ≤ (0 : Int) := ii f5 (r_eq (il 0) q6) (by decide) (by decide)
    refine g_iconst C dX5_holdsWater_15 ?_
    exact g_iret C hr (nar_z2 (iw (il 0) (by decide) (by decide))).1 (iw (il 0) (by decide) (by decide)) ⟨O, Fx.rf, (iw (il 0) (by decide) (by decide))⟩ (by decide) (by decide) dX5_holdsWater_16
  · have f9 : (1 : Int) ≤ (bAnd (bShr v1 a1) 1) ∧ (bAnd (bShr v1 a1) 1) ≤ (1 : Int) := r_nl f5 q7
    refine g_iconst C dX5_holdsWater_11 ?_
    refine g_goto C 16 (by decide) dX5_holdsWater_12 ?_
    exact g_iret C hr (nar_z2 (iw (il 1) (by decide) (by decide))).1 (iw (il 1) (by decide) (by decide)) ⟨O, Fx.rf, (iw (il 1) (by decide) (by decide))⟩ (by decide) (by decide) dX5_holdsWater_16
def wr_k_X5_isTight : List Nat := []
set_option maxRecDepth 100000 in
set_option maxHeartbeats 4000000 in
theorem k_X5_isTight (l : Launch) (D : va_G) (cy : Nat → ClassId) (w : Nat → Nat) (z0 : Nat)  {h : Hp} {a0 : Nat} {a1 : Int}  (O : Okh h) (ta0 : Tg h a0 = 6) (fa1 : (-2147483648) ≤ a1 ∧ a1 ≤ 2147483647) : MI l D cy w z0 yX5_isTight cX5_isTight 2 (some .boolean) 0 0 0 0 [.inr (.inr a0), .inl a1] h (fun v h1 => Okh h1 ∧ Fx wr_k_X5_isTight h h1 ∧ (0 ≤ v ∧ v ≤ 1)) := by
  refine hm_go (by decide +kernel) (Nat.le_of_ble_eq_true rfl) (fun p e s m below meth c C hr hn => ?_)
  refine g_aload_n C rfl 0 rfl dX5_isTight_0 ?_
  obtain ⟨v1, e2⟩ : ∃ z, Iv h a0 10 = z := ⟨_, rfl⟩
  have f3 := ok_I O ta0 rI_6_10 e2
  refine gf_I C fk_LandSurvey_Rules_68 rfl ta0 e2 dX5_isTight_1 ?_
  refine g_iload_n C rfl 1 rfl dX5_isTight_4 ?_
  refine g_ishr C dX5_isTight_5 ?_
  have f4 : (-2147483648 : Int) ≤ (bShr v1 a1) ∧ (bShr v1 a1) ≤ (2147483647 : Int) := inR_of _
  refine g_iconst C dX5_isTight_6 ?_
  refine g_iand C dX5_isTight_7 ?_
  have f5 : (0 : Int) ≤ (bAnd (bShr v1 a1) 1) ∧ (bAnd (bShr v1 a1) 1) ≤ (1 : Int) := bAnd_1 _
  refine g_if_eq C (iw f5 (by decide) (by decide)) 15 (by decide) dX5_isTight_8 (fun q6 => ?_) (fun q7 => ?_)
  · have f8 : (0 : Int) ≤ (bAnd (bShr v1 a1) 1) ∧ (bAnd (bShr v1 a1) 1) ≤ (0 : Int) := ii f5 (r_eq (il 0) q6) (by decide) (by decide)
    refine g_iconst C dX5_isTight_15 ?_
    exact g_iret C hr (nar_z2 (iw (il 0) (by decide) (by decide))).1 (iw (il 0) (by decide) (by decide)) ⟨O, Fx.rf, (iw (il 0) (by decide) (by decide))⟩ (by decide) (by decide) dX5_isTight_16
  · have f9 : (1 : Int) ≤ (bAnd (bShr v1 a1) 1) ∧ (bAnd (bShr v1 a1) 1) ≤ (1 : Int) := r_nl f5 q7
    refine g_iconst C dX5_isTight_11 ?_
    refine g_goto C 16 (by decide) dX5_isTight_12 ?_
    exact g_iret C hr (nar_z2 (iw (il 1) (by decide) (by decide))).1 (iw (il 1) (by decide) (by decide)) ⟨O, Fx.rf, (iw (il 1) (by decide) (by decide))⟩ (by decide) (by decide) dX5_isTight_16
def wr_k_X5_addUp : List Nat := [401206, 5220000, 5420000]
set_option maxRecDepth 100000 in
set_option maxHeartbeats 4000000 in
theorem k_X5_addUp (l : Launch) (D : va_G) (cy : Nat → ClassId) (w : Nat → Nat) (z0 : Nat)  {h : Hp} {a0 : Nat}  (O : Okh h) (ta0 : Tg h a0 = 2006) : MV l D cy w z0 yX5_addUp cX5_addUp 2 none 0 0 0 0 [.inr (.inr a0)] h (fun h1 => Okh h1 ∧ Fx wr_k_X5_addUp h h1) := by
  refine hm_go (by decide +kernel) (Nat.le_of_ble_eq_true rfl) (fun p e s m below meth c C hr hn => ?_)
  refine g_iconst C dX5_addUp_0 ?_
  refine g_istore_n C [(1, .inl 1), (0, .inr (.inr a0))] rfl (by decide) rfl dX5_addUp_1 ?_
  refine GW.sub [1, 0] rfl ?_
  -- loop at 2
  have L3 : ∀ (μ : Nat) (x1 : Int) (h2 : Hp), (10 - x1).toNat = μ → Okh h2 → Fx [5220000, 5420000] h h2 → ((1 : Int) ≤ x1 ∧ x1 ≤ (10 : Int)) → GW p l e (rmm 0 0 0 0) s m (List.map toV [.inr (.inr a0)]).toArray below meth c D cy z0 2 (MQ below (QV D cy z0 (fun h1 => Okh h1 ∧ Fx wr_k_X5_addUp h h1)) (List.map toV [.inr (.inr a0)]).toArray s 0 0 (Aof z0)) 2 [(0, .inr (.inr a0)), (1, .inl x1)] [] h2 0 0 := by
    intro μ
    induction μ using Nat.strongRecOn with
    | ind μ ih4 =>
      intro x1 h2 hm5 O6 F7 f8
      refine g_iload_n C rfl 1 rfl dX5_addUp_2 ?_
      refine g_aload_n C rfl 0 rfl dX5_addUp_3 ?_
      have e9 : Tg h2 a0 = 2006 := (fxT F7 ta0)
      obtain ⟨v10, e11⟩ : ∃ z, Iv h2 a0 0 = z := ⟨_, rfl⟩
      have f12 := ok_I O6 e9 rI_2006_0 e11
      refine gf_I C fk_LandSurvey_Rules_62 rfl e9 e11 dX5_addUp_4 ?_
      refine g_icmp_ge C (iw f8 (by decide) (by decide)) (iw f12 (by decide) (by decide)) 74 (by decide) dX5_addUp_7 (fun q13 => ?_) (fun q14 => ?_)
      · refine g_aload_n C rfl 0 rfl dX5_addUp_74 ?_
        refine gf_I C fk_LandSurvey_Rules_62 rfl e9 e11 dX5_addUp_75 ?_
        refine g_iconst C dX5_addUp_78 ?_
        have f15 : (-2 : Int) ≤ (v10 - 2) ∧ (v10 - 2) ≤ (8 : Int) := ia_sub f12 (il 2) (by decide) (by decide)
        refine g_isub C dX5_addUp_79 ?_
        refine g_istore_n C [(1, .inl (v10 - 2)), (0, .inr (.inr a0))] rfl (by decide) rfl dX5_addUp_80 ?_
        refine GW.sub [1, 0] rfl ?_
        -- loop at 81
        have L18 : ∀ (μ : Nat) (x16 : Int) (h17 : Hp), (x16 - (-2)).toNat = μ → Okh h17 → Fx [5220000, 5420000] h2 h17 → ((-2 : Int) ≤ x16 ∧ x16 ≤ (8 : Int)) → GW p l e (rmm 0 0 0 0) s m (List.map toV [.inr (.inr a0)]).toArray below meth c D cy z0 2 (MQ below (QV D cy z0 (fun h1 => Okh h1 ∧ Fx wr_k_X5_addUp h h1)) (List.map toV [.inr (.inr a0)]).toArray s 0 0 (Aof z0)) 81 [(0, .inr (.inr a0)), (1, .inl x16)] [] h17 0 0 := by
          intro μ
          induction μ using Nat.strongRecOn with
          | ind μ ih19 =>
            intro x16 h17 hm20 O21 F22 f23
            refine g_iload_n C rfl 1 rfl dX5_addUp_81 ?_
            refine g_if_lt C (iw f23 (by decide) (by decide)) 137 (by decide) dX5_addUp_82 (fun q24 => ?_) (fun q25 => ?_)
            · have f26 : (-2 : Int) ≤ x16 ∧ x16 ≤ (-1 : Int) := r_lt f23 (il 0) q24 (by decide) (by decide)
              refine g_aload_n C rfl 0 rfl dX5_addUp_137 ?_
              refine g_aload_n C rfl 0 rfl dX5_addUp_138 ?_
              have e27 : Tg h17 a0 = 2006 := (fxT F22 e9)
              have e28 : Iv h17 a0 0 = v10 := ((fxI F22 e9 rfl).trans e11)
              refine gf_I C fk_LandSurvey_Rules_62 rfl e27 e28 dX5_addUp_139 ?_
              refine g_if_ne C (iw f12 (by decide) (by decide)) 149 (by decide) dX5_addUp_142 (fun q29 => ?_) (fun q30 => ?_)
              · have f31 : (1 : Int) ≤ v10 ∧ v10 ≤ (10 : Int) := r_nl f12 q29
                refine g_aload_n C rfl 0 rfl dX5_addUp_149 ?_
                obtain ⟨v32, e33⟩ : ∃ z, Rv h17 a0 4 = z := ⟨_, rfl⟩
                have t34 := ok_R O21 e27 rE_2006_4 e33
                have l35 := ok_L O21 e27 rE_2006_4 e33
                refine gf_R C fk_LandSurvey_Rules_22 rfl e27 e33 dX5_addUp_150 ?_
                refine g_iconst C dX5_addUp_153 ?_
                obtain ⟨v36, e37⟩ : ∃ z, Iv h17 v32 ((0 : Int).toNat) = z := ⟨_, rfl⟩
                have f38 := ok_Ia O21 t34 ar_26100 rI_26100_0 e37
                refine g_iald C t34 rfl l35 (ix (il 0) (by decide) (by decide)) e37 dX5_addUp_154 ?_
                refine g_aload_n C rfl 0 rfl dX5_addUp_155 ?_
                obtain ⟨v39, e40⟩ : ∃ z, Rv h17 a0 2 = z := ⟨_, rfl⟩
                have t41 := ok_R O21 e27 rE_2006_2 e40
                have l42 := ok_L O21 e27 rE_2006_2 e40
                refine gf_R C fk_LandSurvey_Rules_15 rfl e27 e40 dX5_addUp_156 ?_
                refine g_iconst C dX5_addUp_159 ?_
                obtain ⟨v43, e44⟩ : ∃ z, Iv h17 v39 ((0 : Int).toNat) = z := ⟨_, rfl⟩
                have f45 := ok_Ia O21 t41 ar_24100 rI_24100_0 e44
                refine g_iald C t41 rfl l42 (ix (il 0) (by decide) (by decide)) e44 dX5_addUp_160 ?_
                have f46 : (-2147483648 : Int) ≤ (w32 (v36 + v43)) ∧ (w32 (v36 + v43)) ≤ (2147483647 : Int) := w32_inR _
                refine g_iaddW C dX5_addUp_161 ?_
                refine gp_I C fk_LandSurvey_Rules_71 pk_LandSurvey_Rules_6 rfl e27 f46 (nf_i _) dX5_addUp_162 (fun h48 hh47 => ?_)
                have O49 := O21.pI e27 hh47 rI_2006_6 f46 nofun
                exact g_vret C hr ⟨O49, ((((Fx.rf (wr := wr_k_X5_addUp)).call F7 rfl).call F22 rfl).pI e27 hh47 rfl)⟩ (by decide) (by decide) dX5_addUp_165
              · have f50 : (0 : Int) ≤ v10 ∧ v10 ≤ (0 : Int) := ii f12 (r_eq (il 0) q30) (by decide) (by decide)
                refine g_iconst C dX5_addUp_145 ?_
                refine g_goto C 162 (by decide) dX5_addUp_146 ?_
                refine gp_I C fk_LandSurvey_Rules_71 pk_LandSurvey_Rules_6 rfl e27 (iw (il 0) (by decide) (by decide)) (nf_i _) dX5_addUp_162 (fun h52 hh51 => ?_)
                have O53 := O21.pI e27 hh51 rI_2006_6 (iw (il 0) (by decide) (by decide)) nofun
                exact g_vret C hr ⟨O53, ((((Fx.rf (wr := wr_k_X5_addUp)).call F7 rfl).call F22 rfl).pI e27 hh51 rfl)⟩ (by decide) (by decide) dX5_addUp_165
            · have f54 : (0 : Int) ≤ x16 ∧ x16 ≤ (8 : Int) := r_ge f23 (il 0) q25 (by decide) (by decide)
              refine g_aload_n C rfl 0 rfl dX5_addUp_85 ?_
              have e55 : Tg h17 a0 = 2006 := (fxT F22 e9)
              obtain ⟨v56, e57⟩ : ∃ z, Rv h17 a0 4 = z := ⟨_, rfl⟩
              have t58 := ok_R O21 e55 rE_2006_4 e57
              have l59 := ok_L O21 e55 rE_2006_4 e57
              refine gf_R C fk_LandSurvey_Rules_22 rfl e55 e57 dX5_addUp_86 ?_
              refine g_iload_n C rfl 1 rfl dX5_addUp_89 ?_
              refine g_aload_n C rfl 0 rfl dX5_addUp_90 ?_
              refine gf_R C fk_LandSurvey_Rules_22 rfl e55 e57 dX5_addUp_91 ?_
              refine g_iload_n C rfl 1 rfl dX5_addUp_94 ?_
              refine g_iconst C dX5_addUp_95 ?_
              have f60 : (1 : Int) ≤ (x16 + 1) ∧ (x16 + 1) ≤ (9 : Int) := ia_add f54 (il 1) (by decide) (by decide)
              refine g_iadd C dX5_addUp_96 ?_
              obtain ⟨v61, e62⟩ : ∃ z, Iv h17 v56 ((x16 + 1).toNat) = z := ⟨_, rfl⟩
              have f63 := ok_Ia O21 t58 ar_26100 rI_26100_0 e62
              refine g_iald C t58 rfl l59 (ix f60 (by decide) (by decide)) e62 dX5_addUp_97 ?_
              refine g_aload_n C rfl 0 rfl dX5_addUp_98 ?_
              obtain ⟨v64, e65⟩ : ∃ z, Rv h17 a0 2 = z := ⟨_, rfl⟩
              have t66 := ok_R O21 e55 rE_2006_2 e65
              have l67 := ok_L O21 e55 rE_2006_2 e65
              refine gf_R C fk_LandSurvey_Rules_15 rfl e55 e65 dX5_addUp_99 ?_
              refine g_iload_n C rfl 1 rfl dX5_addUp_102 ?_
              refine g_iconst C dX5_addUp_103 ?_
              refine g_iadd C dX5_addUp_104 ?_
              obtain ⟨v68, e69⟩ : ∃ z, Iv h17 v64 ((x16 + 1).toNat) = z := ⟨_, rfl⟩
              have f70 := ok_Ia O21 t66 ar_24100 rI_24100_0 e69
              refine g_iald C t66 rfl l67 (ix f60 (by decide) (by decide)) e69 dX5_addUp_105 ?_
              have f71 : (-2147483648 : Int) ≤ (w32 (v61 + v68)) ∧ (w32 (v61 + v68)) ≤ (2147483647 : Int) := w32_inR _
              refine g_iaddW C dX5_addUp_106 ?_
              refine g_iast C t58 rfl l59 (ix f54 (by decide) (by decide)) f71 dX5_addUp_107 (fun h73 hh72 => ?_)
              have O74 := O21.pIa t58 ar_26100 hh72 rI_26100_0 f71 nofun
              refine g_aload_n C rfl 0 rfl dX5_addUp_108 ?_
              have e75 : Tg h73 a0 = 2006 := ((pIT hh72).trans e55)
              obtain ⟨v76, e77⟩ : ∃ z, Rv h73 a0 5 = z := ⟨_, rfl⟩
              have t78 := ok_R O74 e75 rE_2006_5 e77
              have l79 := ok_L O74 e75 rE_2006_5 e77
              refine gf_R C fk_LandSurvey_Rules_25 rfl e75 e77 dX5_addUp_109 ?_
              refine g_iload_n C rfl 1 rfl dX5_addUp_112 ?_
              refine g_aload_n C rfl 0 rfl dX5_addUp_113 ?_
              refine gf_R C fk_LandSurvey_Rules_25 rfl e75 e77 dX5_addUp_114 ?_
              refine g_iload_n C rfl 1 rfl dX5_addUp_117 ?_
              refine g_iconst C dX5_addUp_118 ?_
              refine g_iadd C dX5_addUp_119 ?_
              obtain ⟨v80, e81⟩ : ∃ z, Iv h73 v76 ((x16 + 1).toNat) = z := ⟨_, rfl⟩
              have f82 := ok_Ia O74 t78 ar_27100 rI_27100_0 e81
              refine g_iald C t78 rfl l79 (ix f60 (by decide) (by decide)) e81 dX5_addUp_120 ?_
              refine g_aload_n C rfl 0 rfl dX5_addUp_121 ?_
              obtain ⟨v83, e84⟩ : ∃ z, Rv h73 a0 3 = z := ⟨_, rfl⟩
              have t85 := ok_R O74 e75 rE_2006_3 e84
              have l86 := ok_L O74 e75 rE_2006_3 e84
              refine gf_R C fk_LandSurvey_Rules_19 rfl e75 e84 dX5_addUp_122 ?_
              refine g_iload_n C rfl 1 rfl dX5_addUp_125 ?_
              refine g_iconst C dX5_addUp_126 ?_
              refine g_iadd C dX5_addUp_127 ?_
              obtain ⟨v87, e88⟩ : ∃ z, Iv h73 v83 ((x16 + 1).toNat) = z := ⟨_, rfl⟩
              have f89 := ok_Ia O74 t85 ar_25100 rI_25100_0 e88
              refine g_iald C t85 rfl l86 (ix f60 (by decide) (by decide)) e88 dX5_addUp_128 ?_
              have f90 : (-2147483648 : Int) ≤ (w32 (v80 + v87)) ∧ (w32 (v80 + v87)) ≤ (2147483647 : Int) := w32_inR _
              refine g_iaddW C dX5_addUp_129 ?_
              refine g_iast C t78 rfl l79 (ix f54 (by decide) (by decide)) f90 dX5_addUp_130 (fun h92 hh91 => ?_)
              have O93 := O74.pIa t78 ar_27100 hh91 rI_27100_0 f90 nofun
              have f94 : (-1 : Int) ≤ (x16 + (-1)) ∧ (x16 + (-1)) ≤ (7 : Int) := ia_add f54 (il (-1)) (by decide) (by decide)
              refine g_iinc C [(1, .inl (x16 + (-1))), (0, .inr (.inr a0))] 1 rfl (by decide) rfl dX5_addUp_131 ?_
              refine g_goto C 81 (by decide) dX5_addUp_134 ?_
              refine GW.sub [1, 0] rfl ?_
              exact ih19 _ (by omega) (x16 + (-1)) h92 rfl O93 ((F22.pIa t58 ar_26100 hh72 rfl).pIa t78 ar_27100 hh91 rfl) (iw f94 (by decide) (by decide))
        exact L18 _ (v10 - 2) h2 rfl O6 Fx.rf f15
      · have f95 : (1 : Int) ≤ x1 ∧ x1 ≤ (9 : Int) := r_lt f8 f12 q14 (by decide) (by decide)
        have f96 : (2 : Int) ≤ v10 ∧ v10 ≤ (10 : Int) := r_gt f12 f8 q14 (by decide) (by decide)
        refine g_aload_n C rfl 0 rfl dX5_addUp_10 ?_
        obtain ⟨v97, e98⟩ : ∃ z, Rv h2 a0 4 = z := ⟨_, rfl⟩
        have t99 := ok_R O6 e9 rE_2006_4 e98
        have l100 := ok_L O6 e9 rE_2006_4 e98
        refine gf_R C fk_LandSurvey_Rules_22 rfl e9 e98 dX5_addUp_11 ?_
        refine g_bipush C (by decide) dX5_addUp_14 ?_
        refine g_iload_n C rfl 1 rfl dX5_addUp_16 ?_
        have f101 : (11 : Int) ≤ (10 + x1) ∧ (10 + x1) ≤ (19 : Int) := ia_add (il 10) f95 (by decide) (by decide)
        refine g_iadd C dX5_addUp_17 ?_
        refine g_aload_n C rfl 0 rfl dX5_addUp_18 ?_
        refine gf_R C fk_LandSurvey_Rules_22 rfl e9 e98 dX5_addUp_19 ?_
        refine g_bipush C (by decide) dX5_addUp_22 ?_
        refine g_iload_n C rfl 1 rfl dX5_addUp_24 ?_
        refine g_iadd C dX5_addUp_25 ?_
        refine g_iconst C dX5_addUp_26 ?_
        have f102 : (10 : Int) ≤ ((10 + x1) - 1) ∧ ((10 + x1) - 1) ≤ (18 : Int) := ia_sub f101 (il 1) (by decide) (by decide)
        refine g_isub C dX5_addUp_27 ?_
        obtain ⟨v103, e104⟩ : ∃ z, Iv h2 v97 (((10 + x1) - 1).toNat) = z := ⟨_, rfl⟩
        have f105 := ok_Ia O6 t99 ar_26100 rI_26100_0 e104
        refine g_iald C t99 rfl l100 (ix f102 (by decide) (by decide)) e104 dX5_addUp_28 ?_
        refine g_aload_n C rfl 0 rfl dX5_addUp_29 ?_
        obtain ⟨v106, e107⟩ : ∃ z, Rv h2 a0 2 = z := ⟨_, rfl⟩
        have t108 := ok_R O6 e9 rE_2006_2 e107
        have l109 := ok_L O6 e9 rE_2006_2 e107
        refine gf_R C fk_LandSurvey_Rules_15 rfl e9 e107 dX5_addUp_30 ?_
        refine g_iload_n C rfl 1 rfl dX5_addUp_33 ?_
        refine g_iconst C dX5_addUp_34 ?_
        have f110 : (0 : Int) ≤ (x1 - 1) ∧ (x1 - 1) ≤ (8 : Int) := ia_sub f95 (il 1) (by decide) (by decide)
        refine g_isub C dX5_addUp_35 ?_
        obtain ⟨v111, e112⟩ : ∃ z, Iv h2 v106 ((x1 - 1).toNat) = z := ⟨_, rfl⟩
        have f113 := ok_Ia O6 t108 ar_24100 rI_24100_0 e112
        refine g_iald C t108 rfl l109 (ix f110 (by decide) (by decide)) e112 dX5_addUp_36 ?_
        have f114 : (-2147483648 : Int) ≤ (w32 (v103 + v111)) ∧ (w32 (v103 + v111)) ≤ (2147483647 : Int) := w32_inR _
        refine g_iaddW C dX5_addUp_37 ?_
        refine g_iast C t99 rfl l100 (ix f101 (by decide) (by decide)) f114 dX5_addUp_38 (fun h116 hh115 => ?_)
        have O117 := O6.pIa t99 ar_26100 hh115 rI_26100_0 f114 nofun
        refine g_aload_n C rfl 0 rfl dX5_addUp_39 ?_
        have e118 : Tg h116 a0 = 2006 := ((pIT hh115).trans e9)
        obtain ⟨v119, e120⟩ : ∃ z, Rv h116 a0 5 = z := ⟨_, rfl⟩
        have t121 := ok_R O117 e118 rE_2006_5 e120
        have l122 := ok_L O117 e118 rE_2006_5 e120
        refine gf_R C fk_LandSurvey_Rules_25 rfl e118 e120 dX5_addUp_40 ?_
        refine g_bipush C (by decide) dX5_addUp_43 ?_
        refine g_iload_n C rfl 1 rfl dX5_addUp_45 ?_
        refine g_iadd C dX5_addUp_46 ?_
        refine g_aload_n C rfl 0 rfl dX5_addUp_47 ?_
        refine gf_R C fk_LandSurvey_Rules_25 rfl e118 e120 dX5_addUp_48 ?_
        refine g_bipush C (by decide) dX5_addUp_51 ?_
        refine g_iload_n C rfl 1 rfl dX5_addUp_53 ?_
        refine g_iadd C dX5_addUp_54 ?_
        refine g_iconst C dX5_addUp_55 ?_
        refine g_isub C dX5_addUp_56 ?_
        obtain ⟨v123, e124⟩ : ∃ z, Iv h116 v119 (((10 + x1) - 1).toNat) = z := ⟨_, rfl⟩
        have f125 := ok_Ia O117 t121 ar_27100 rI_27100_0 e124
        refine g_iald C t121 rfl l122 (ix f102 (by decide) (by decide)) e124 dX5_addUp_57 ?_
        refine g_aload_n C rfl 0 rfl dX5_addUp_58 ?_
        obtain ⟨v126, e127⟩ : ∃ z, Rv h116 a0 3 = z := ⟨_, rfl⟩
        have t128 := ok_R O117 e118 rE_2006_3 e127
        have l129 := ok_L O117 e118 rE_2006_3 e127
        refine gf_R C fk_LandSurvey_Rules_19 rfl e118 e127 dX5_addUp_59 ?_
        refine g_iload_n C rfl 1 rfl dX5_addUp_62 ?_
        refine g_iconst C dX5_addUp_63 ?_
        refine g_isub C dX5_addUp_64 ?_
        obtain ⟨v130, e131⟩ : ∃ z, Iv h116 v126 ((x1 - 1).toNat) = z := ⟨_, rfl⟩
        have f132 := ok_Ia O117 t128 ar_25100 rI_25100_0 e131
        refine g_iald C t128 rfl l129 (ix f110 (by decide) (by decide)) e131 dX5_addUp_65 ?_
        have f133 : (-2147483648 : Int) ≤ (w32 (v123 + v130)) ∧ (w32 (v123 + v130)) ≤ (2147483647 : Int) := w32_inR _
        refine g_iaddW C dX5_addUp_66 ?_
        refine g_iast C t121 rfl l122 (ix f101 (by decide) (by decide)) f133 dX5_addUp_67 (fun h135 hh134 => ?_)
        have O136 := O117.pIa t121 ar_27100 hh134 rI_27100_0 f133 nofun
        have f137 : (2 : Int) ≤ (x1 + 1) ∧ (x1 + 1) ≤ (10 : Int) := ia_add f95 (il 1) (by decide) (by decide)
        refine g_iinc C [(1, .inl (x1 + 1)), (0, .inr (.inr a0))] 1 rfl (by decide) rfl dX5_addUp_68 ?_
        refine g_goto C 2 (by decide) dX5_addUp_71 ?_
        refine GW.sub [1, 0] rfl ?_
        exact ih4 _ (by omega) (x1 + 1) h135 rfl O136 ((F7.pIa t99 ar_26100 hh115 rfl).pIa t121 ar_27100 hh134 rfl) (iw f137 (by decide) (by decide))
  exact L3 _ 1 h rfl O Fx.rf (iw (il 1) (by decide) (by decide))
def wr_k_X5_underLeast : List Nat := []
set_option maxRecDepth 100000 in
set_option maxHeartbeats 4000000 in
theorem k_X5_underLeast (l : Launch) (D : va_G) (cy : Nat → ClassId) (w : Nat → Nat) (z0 : Nat)  {h : Hp} {a0 : Nat} {a1 : Int} {a2 : Int}  (O : Okh h) (ta0 : Tg h a0 = 6) (fa1 : 0 ≤ a1 ∧ a1 ≤ 9) (fa2 : 0 ≤ a2 ∧ a2 ≤ 1) : MI l D cy w z0 yX5_underLeast cX5_underLeast 3 (some .int) 0 0 0 0 [.inr (.inr a0), .inl a1, .inl a2] h (fun v h1 => Okh h1 ∧ Fx wr_k_X5_underLeast h h1 ∧ ((-2147483648) ≤ v ∧ v ≤ 2147483647)) := by
  refine hm_go (by decide +kernel) (Nat.le_of_ble_eq_true rfl) (fun p e s m below meth c C hr hn => ?_)
  refine g_aload_n C rfl 0 rfl dX5_underLeast_0 ?_
  obtain ⟨v1, e2⟩ : ∃ z, Rv h a0 4 = z := ⟨_, rfl⟩
  have t3 := ok_R O ta0 rE_6_4 e2
  have l4 := ok_L O ta0 rE_6_4 e2
  refine gf_R C fk_LandSurvey_Rules_22 rfl ta0 e2 dX5_underLeast_1 ?_
  refine g_iload_n C rfl 2 rfl dX5_underLeast_4 ?_
  refine g_if_eq C (iw fa2 (by decide) (by decide)) 15 (by decide) dX5_underLeast_5 (fun q5 => ?_) (fun q6 => ?_)
  · have f7 : (0 : Int) ≤ a2 ∧ a2 ≤ (0 : Int) := ii fa2 (r_eq (il 0) q5) (by decide) (by decide)
    refine g_iload_n C rfl 1 rfl dX5_underLeast_15 ?_
    obtain ⟨v8, e9⟩ : ∃ z, Iv h v1 a1.toNat = z := ⟨_, rfl⟩
    have f10 := ok_Ia O t3 ar_26100 rI_26100_0 e9
    refine g_iald C t3 rfl l4 (ix fa1 (by decide) (by decide)) e9 dX5_underLeast_16 ?_
    exact g_iret C hr rfl f10 ⟨O, Fx.rf, f10⟩ (by decide) (by decide) dX5_underLeast_17
  · have f11 : (1 : Int) ≤ a2 ∧ a2 ≤ (1 : Int) := r_nl fa2 q6
    refine g_bipush C (by decide) dX5_underLeast_8 ?_
    refine g_iload_n C rfl 1 rfl dX5_underLeast_10 ?_
    have f12 : (10 : Int) ≤ (10 + a1) ∧ (10 + a1) ≤ (19 : Int) := ia_add (il 10) fa1 (by decide) (by decide)
    refine g_iadd C dX5_underLeast_11 ?_
    refine g_goto C 16 (by decide) dX5_underLeast_12 ?_
    obtain ⟨v13, e14⟩ : ∃ z, Iv h v1 ((10 + a1).toNat) = z := ⟨_, rfl⟩
    have f15 := ok_Ia O t3 ar_26100 rI_26100_0 e14
    refine g_iald C t3 rfl l4 (ix f12 (by decide) (by decide)) e14 dX5_underLeast_16 ?_
    exact g_iret C hr rfl f15 ⟨O, Fx.rf, f15⟩ (by decide) (by decide) dX5_underLeast_17
def wr_k_X5_underMost : List Nat := []
set_option maxRecDepth 100000 in
set_option maxHeartbeats 4000000 in
theorem k_X5_underMost (l : Launch) (D : va_G) (cy : Nat → ClassId) (w : Nat → Nat) (z0 : Nat)  {h : Hp} {a0 : Nat} {a1 : Int} {a2 : Int}  (O : Okh h) (ta0 : Tg h a0 = 6) (fa1 : 0 ≤ a1 ∧ a1 ≤ 9) (fa2 : 0 ≤ a2 ∧ a2 ≤ 1) : MI l D cy w z0 yX5_underMost cX5_underMost 3 (some .int) 0 0 0 0 [.inr (.inr a0), .inl a1, .inl a2] h (fun v h1 => Okh h1 ∧ Fx wr_k_X5_underMost h h1 ∧ ((-2147483648) ≤ v ∧ v ≤ 2147483647)) := by
  refine hm_go (by decide +kernel) (Nat.le_of_ble_eq_true rfl) (fun p e s m below meth c C hr hn => ?_)
  refine g_aload_n C rfl 0 rfl dX5_underMost_0 ?_
  obtain ⟨v1, e2⟩ : ∃ z, Rv h a0 5 = z := ⟨_, rfl⟩
  have t3 := ok_R O ta0 rE_6_5 e2
  have l4 := ok_L O ta0 rE_6_5 e2
  refine gf_R C fk_LandSurvey_Rules_25 rfl ta0 e2 dX5_underMost_1 ?_
  refine g_iload_n C rfl 2 rfl dX5_underMost_4 ?_
  refine g_if_eq C (iw fa2 (by decide) (by decide)) 15 (by decide) dX5_underMost_5 (fun q5 => ?_) (fun q6 => ?_)
  · have f7 : (0 : Int) ≤ a2 ∧ a2 ≤ (0 : Int) := ii fa2 (r_eq (il 0) q5) (by decide) (by decide)
    refine g_iload_n C rfl 1 rfl dX5_underMost_15 ?_
    obtain ⟨v8, e9⟩ : ∃ z, Iv h v1 a1.toNat = z := ⟨_, rfl⟩
    have f10 := ok_Ia O t3 ar_27100 rI_27100_0 e9
    refine g_iald C t3 rfl l4 (ix fa1 (by decide) (by decide)) e9 dX5_underMost_16 ?_
    exact g_iret C hr rfl f10 ⟨O, Fx.rf, f10⟩ (by decide) (by decide) dX5_underMost_17
  · have f11 : (1 : Int) ≤ a2 ∧ a2 ≤ (1 : Int) := r_nl fa2 q6
    refine g_bipush C (by decide) dX5_underMost_8 ?_
    refine g_iload_n C rfl 1 rfl dX5_underMost_10 ?_
    have f12 : (10 : Int) ≤ (10 + a1) ∧ (10 + a1) ≤ (19 : Int) := ia_add (il 10) fa1 (by decide) (by decide)
    refine g_iadd C dX5_underMost_11 ?_
    refine g_goto C 16 (by decide) dX5_underMost_12 ?_
    obtain ⟨v13, e14⟩ : ∃ z, Iv h v1 ((10 + a1).toNat) = z := ⟨_, rfl⟩
    have f15 := ok_Ia O t3 ar_27100 rI_27100_0 e14
    refine g_iald C t3 rfl l4 (ix f12 (by decide) (by decide)) e14 dX5_underMost_16 ?_
    exact g_iret C hr rfl f15 ⟨O, Fx.rf, f15⟩ (by decide) (by decide) dX5_underMost_17
def wr_k_X5_leastBase : List Nat := []
set_option maxRecDepth 100000 in
set_option maxHeartbeats 4000000 in
theorem k_X5_leastBase (l : Launch) (D : va_G) (cy : Nat → ClassId) (w : Nat → Nat) (z0 : Nat)  {h : Hp} {a0 : Nat} {a1 : Int} {a2 : Int} {a3 : Int}  (O : Okh h) (ta0 : Tg h a0 = 6) (fa1 : 0 ≤ a1 ∧ a1 ≤ 9) (fa2 : 0 ≤ a2 ∧ a2 ≤ 1) (fa3 : (-2147483648) ≤ a3 ∧ a3 ≤ 2147483647) : MI l D cy w z0 yX5_leastBase cX5_leastBase 4 (some .int) 1 22 0 0 [.inr (.inr a0), .inl a1, .inl a2, .inl a3] h (fun v h1 => Okh h1 ∧ Fx wr_k_X5_leastBase h h1 ∧ ((-2147483648) ≤ v ∧ v ≤ 2147483647)) := by
  refine hm_go (by decide +kernel) (Nat.le_of_ble_eq_true rfl) (fun p e s m below meth c C hr hn => ?_)
  refine g_iload_n C rfl 3 rfl dX5_leastBase_0 ?_
  refine g_aload_n C rfl 0 rfl dX5_leastBase_1 ?_
  refine g_iload_n C rfl 1 rfl dX5_leastBase_2 ?_
  refine g_iload_n C rfl 2 rfl dX5_leastBase_3 ?_
  refine g_callI (st := [.inl a3]) (gc_V C lk_LandSurvey_Rules_74 (k_X5_underMost l D cy w z0 O ta0 fa1 fa2) ta0 rfl rfl rfl ⟨by decide, by decide⟩ (Nat.le_of_ble_eq_true rfl) dX5_leastBase_4 ⟨(by decide), (by decide)⟩) (fun r1 h2 f4 K3 => ?_)
  obtain ⟨O5, F6, f7⟩ := K3
  have f8 : (-2147483648 : Int) ≤ (w32 (a3 - r1)) ∧ (w32 (a3 - r1)) ≤ (2147483647 : Int) := w32_inR _
  refine g_isubW C dX5_leastBase_7 ?_
  refine g_aload_n C rfl 0 rfl dX5_leastBase_8 ?_
  have e9 : Tg h2 a0 = 6 := (fxT F6 ta0)
  obtain ⟨v10, e11⟩ : ∃ z, Rv h2 a0 3 = z := ⟨_, rfl⟩
  have t12 := ok_R O5 e9 rE_6_3 e11
  have l13 := ok_L O5 e9 rE_6_3 e11
  refine gf_R C fk_LandSurvey_Rules_19 rfl e9 e11 dX5_leastBase_9 ?_
  refine g_iload_n C rfl 1 rfl dX5_leastBase_12 ?_
  obtain ⟨v14, e15⟩ : ∃ z, Iv h2 v10 a1.toNat = z := ⟨_, rfl⟩
  have f16 := ok_Ia O5 t12 ar_25100 rI_25100_0 e15
  refine g_iald C t12 rfl l13 (ix fa1 (by decide) (by decide)) e15 dX5_leastBase_13 ?_
  have f17 : (-2147483648 : Int) ≤ (w32 ((w32 (a3 - r1)) - v14)) ∧ (w32 ((w32 (a3 - r1)) - v14)) ≤ (2147483647 : Int) := w32_inR _
  refine g_isubW C dX5_leastBase_14 ?_
  exact g_iret C hr rfl f17 ⟨O5, ((Fx.rf (wr := wr_k_X5_leastBase)).call F6 rfl), f17⟩ (by decide) (by decide) dX5_leastBase_15
def wr_k_X5_mostBase : List Nat := []
set_option maxRecDepth 100000 in
set_option maxHeartbeats 4000000 in
theorem k_X5_mostBase (l : Launch) (D : va_G) (cy : Nat → ClassId) (w : Nat → Nat) (z0 : Nat)  {h : Hp} {a0 : Nat} {a1 : Int} {a2 : Int} {a3 : Int}  (O : Okh h) (ta0 : Tg h a0 = 6) (fa1 : 0 ≤ a1 ∧ a1 ≤ 9) (fa2 : 0 ≤ a2 ∧ a2 ≤ 1) (fa3 : (-2147483648) ≤ a3 ∧ a3 ≤ 2147483647) : MI l D cy w z0 yX5_mostBase cX5_mostBase 4 (some .int) 1 22 0 0 [.inr (.inr a0), .inl a1, .inl a2, .inl a3] h (fun v h1 => Okh h1 ∧ Fx wr_k_X5_mostBase h h1 ∧ ((-2147483648) ≤ v ∧ v ≤ 2147483647)) := by
  refine hm_go (by decide +kernel) (Nat.le_of_ble_eq_true rfl) (fun p e s m below meth c C hr hn => ?_)
  refine g_iload_n C rfl 3 rfl dX5_mostBase_0 ?_
  refine g_aload_n C rfl 0 rfl dX5_mostBase_1 ?_
  refine g_iload_n C rfl 1 rfl dX5_mostBase_2 ?_
  refine g_iload_n C rfl 2 rfl dX5_mostBase_3 ?_
  refine g_callI (st := [.inl a3]) (gc_V C lk_LandSurvey_Rules_78 (k_X5_underLeast l D cy w z0 O ta0 fa1 fa2) ta0 rfl rfl rfl ⟨by decide, by decide⟩ (Nat.le_of_ble_eq_true rfl) dX5_mostBase_4 ⟨(by decide), (by decide)⟩) (fun r1 h2 f4 K3 => ?_)
  obtain ⟨O5, F6, f7⟩ := K3
  have f8 : (-2147483648 : Int) ≤ (w32 (a3 - r1)) ∧ (w32 (a3 - r1)) ≤ (2147483647 : Int) := w32_inR _
  refine g_isubW C dX5_mostBase_7 ?_
  exact g_iret C hr rfl f8 ⟨O5, ((Fx.rf (wr := wr_k_X5_mostBase)).call F6 rfl), f8⟩ (by decide) (by decide) dX5_mostBase_8
def wr_k_X5_worked : List Nat := [7420000]
set_option maxRecDepth 100000 in
set_option maxHeartbeats 4000000 in
theorem k_X5_worked (l : Launch) (D : va_G) (cy : Nat → ClassId) (w : Nat → Nat) (z0 : Nat)  {h : Hp} {a0 : Nat} {a1 : Int} {a2 : Nat}  (O : Okh h) (ta0 : Tg h a0 = 6) (fa1 : 0 ≤ a1 ∧ a1 ≤ 23) (ta2 : Tg h a2 = 50100) (la2 : Ln h a2 = 12) (P_RulesOk : RulesOk h a0) (P_nlines : a1 < Iv h a0 13) : MI l D cy w z0 yX5_worked cX5_worked 6 (some .int) 1 22 0 0 [.inr (.inr a0), .inl a1, .inr (.inr a2)] h (fun v h1 => Okh h1 ∧ Fx wr_k_X5_worked h h1 ∧ ((-2147483648) ≤ v ∧ v ≤ 2147483647)) := by
  obtain ⟨v1, e2⟩ : ∃ z, Iv h a0 13 = z := ⟨_, rfl⟩
  have f3 := ok_I O ta0 rI_6_13 e2
  obtain ⟨v4, e5⟩ : ∃ z, Rv h a0 14 = z := ⟨_, rfl⟩
  have t6 := ok_R O ta0 rE_6_14 e5
  have l7 := ok_L O ta0 rE_6_14 e5
  obtain ⟨v8, e9⟩ : ∃ z, Rv h a0 15 = z := ⟨_, rfl⟩
  have t10 := ok_R O ta0 rE_6_15 e9
  have l11 := ok_L O ta0 rE_6_15 e9
  obtain ⟨v12, e13⟩ : ∃ z, Rv h a0 16 = z := ⟨_, rfl⟩
  have t14 := ok_R O ta0 rE_6_16 e13
  have l15 := ok_L O ta0 rE_6_16 e13
  obtain ⟨v16, e17⟩ : ∃ z, Rv h a0 17 = z := ⟨_, rfl⟩
  have t18 := ok_R O ta0 rE_6_17 e17
  have p19 := P_RulesOk
  unfold RulesOk at p19
  rw [e2, e5, e9, e13, e17] at p19
  have p20 := (p19 a1.toNat (by omega)).2
  obtain ⟨v21, e22⟩ : ∃ z, Iv h v12 a1.toNat = z := ⟨_, rfl⟩
  have f23 := ok_Ia O t14 ar_34100 rI_34100_0 e22
  obtain ⟨L24, l25⟩ : ∃ z, Ln h v16 = z := ⟨_, rfl⟩
  rw [e22, l25] at p20
  refine hm_go (by decide +kernel) (Nat.le_of_ble_eq_true rfl) (fun p e s m below meth c C hr hn => ?_)
  refine g_iconst C dX5_worked_0 ?_
  refine g_istore_n C [(3, .inl 0), (0, .inr (.inr a0)), (1, .inl a1), (2, .inr (.inr a2))] rfl (by decide) rfl dX5_worked_1 ?_
  refine g_iload_n C rfl 2 rfl dX5_worked_2 ?_
  refine g_if_ne C (iw fa1 (by decide) (by decide)) 10 (by decide) dX5_worked_3 (fun q26 => ?_) (fun q27 => ?_)
  · have f28 : (1 : Int) ≤ a1 ∧ a1 ≤ (23 : Int) := r_nl fa1 q26
    refine g_aload_n C rfl 1 rfl dX5_worked_10 ?_
    refine gf_R C fk_LandSurvey_Rules_47 rfl ta0 e13 dX5_worked_11 ?_
    refine g_iload_n C rfl 2 rfl dX5_worked_14 ?_
    refine g_iconst C dX5_worked_15 ?_
    have f29 : (0 : Int) ≤ (a1 - 1) ∧ (a1 - 1) ≤ (22 : Int) := ia_sub f28 (il 1) (by decide) (by decide)
    refine g_isub C dX5_worked_16 ?_
    obtain ⟨v30, e31⟩ : ∃ z, Iv h v12 ((a1 - 1).toNat) = z := ⟨_, rfl⟩
    have f32 := ok_Ia O t14 ar_34100 rI_34100_0 e31
    refine g_iald C t14 rfl l15 (ix f29 (by decide) (by decide)) e31 dX5_worked_17 ?_
    refine g_istore C [(4, .inl v30), (3, .inl 0), (0, .inr (.inr a0)), (1, .inl a1), (2, .inr (.inr a2))] (by decide) rfl dX5_worked_18 ?_
    refine GW.sub [2, 3, 4, 1, 0] rfl ?_
    -- loop at 20
    have L36 : ∀ (μ : Nat) (x33 : Int) (x34 : Int) (h35 : Hp), (1500 - x34).toNat = μ → Okh h35 → Fx [7420000] h h35 → ((0 : Int) ≤ x33 ∧ x33 ≤ (32 : Int)) → ((0 : Int) ≤ x34 ∧ x34 ≤ (1500 : Int)) → GW p l e (rmm 1 22 0 0) s m (List.map toV [.inr (.inr a0), .inl a1, .inr (.inr a2)]).toArray below meth c D cy z0 6 (MQ below (QI D cy z0 (fun v h1 => Okh h1 ∧ Fx wr_k_X5_worked h h1 ∧ ((-2147483648) ≤ v ∧ v ≤ 2147483647))) (List.map toV [.inr (.inr a0), .inl a1, .inr (.inr a2)]).toArray s 0 0 (Aof z0)) 20 [(0, .inr (.inr a0)), (1, .inl a1), (2, .inr (.inr a2)), (3, .inl x33), (4, .inl x34)] [] h35 0 0 := by
      intro μ
      induction μ using Nat.strongRecOn with
      | ind μ ih37 =>
        intro x33 x34 h35 hm38 O39 F40 f41 f42
        refine g_iload C 4 rfl dX5_worked_20 ?_
        refine g_aload_n C rfl 0 rfl dX5_worked_22 ?_
        have e43 : Tg h35 a0 = 6 := (fxT F40 ta0)
        have e44 : Rv h35 a0 16 = v12 := ((fxR F40 ta0 rfl).trans e13)
        refine gf_R C fk_LandSurvey_Rules_47 rfl e43 e44 dX5_worked_23 ?_
        refine g_iload_n C rfl 1 rfl dX5_worked_26 ?_
        have e45 : Tg h35 v12 = 34100 := (fxT F40 t14)
        have e46 : Ln h35 v12 = 24 := ((fxL F40 t14).trans l15)
        have e47 : Iv h35 v12 a1.toNat = v21 := ((fxIa F40 t14 ar_34100 rfl).trans e22)
        refine g_iald C e45 rfl e46 (ix f28 (by decide) (by decide)) e47 dX5_worked_27 ?_
        refine g_icmp_ge C (iw f42 (by decide) (by decide)) (iw f23 (by decide) (by decide)) 161 (by decide) dX5_worked_28 (fun q48 => ?_) (fun q49 => ?_)
        · refine g_iload_n C rfl 3 rfl dX5_worked_161 ?_
          refine g_if_ne C (iw f41 (by decide) (by decide)) 169 (by decide) dX5_worked_162 (fun q50 => ?_) (fun q51 => ?_)
          · have f52 : (1 : Int) ≤ x33 ∧ x33 ≤ (32 : Int) := r_nl f41 q50
            refine g_aload_n C rfl 0 rfl dX5_worked_169 ?_
            obtain ⟨v53, e54⟩ : ∃ z, Rv h35 a0 18 = z := ⟨_, rfl⟩
            have t55 := ok_R O39 e43 rE_6_18 e54
            have l56 := ok_L O39 e43 rE_6_18 e54
            refine gf_R C fk_LandSurvey_Rules_53 rfl e43 e54 dX5_worked_170 ?_
            refine g_iconst C dX5_worked_173 ?_
            obtain ⟨v57, e58⟩ : ∃ z, Iv h35 v53 ((0 : Int).toNat) = z := ⟨_, rfl⟩
            have f59 := ok_Ia O39 t55 ar_37100 rI_37100_0 e58
            refine g_iald C t55 rfl l56 (ix (il 0) (by decide) (by decide)) e58 dX5_worked_174 ?_
            exact g_iret C hr rfl f59 ⟨O39, ((Fx.rf (wr := wr_k_X5_worked)).call F40 rfl), f59⟩ (by decide) (by decide) dX5_worked_175
          · have f60 : (0 : Int) ≤ x33 ∧ x33 ≤ (0 : Int) := ii f41 (r_eq (il 0) q51) (by decide) (by decide)
            refine g_iconst C dX5_worked_165 ?_
            refine g_goto C 175 (by decide) dX5_worked_166 ?_
            exact g_iret C hr rfl (iw (il 0) (by decide) (by decide)) ⟨O39, ((Fx.rf (wr := wr_k_X5_worked)).call F40 rfl), (iw (il 0) (by decide) (by decide))⟩ (by decide) (by decide) dX5_worked_175
        · have f61 : (0 : Int) ≤ x34 ∧ x34 ≤ (1499 : Int) := r_lt f42 f23 q49 (by decide) (by decide)
          have f62 : (1 : Int) ≤ v21 ∧ v21 ≤ (1500 : Int) := r_gt f23 f42 q49 (by decide) (by decide)
          refine g_aload_n C rfl 0 rfl dX5_worked_31 ?_
          have e63 : Rv h35 a0 17 = v16 := ((fxR F40 ta0 rfl).trans e17)
          refine gf_R C fk_LandSurvey_Rules_50 rfl e43 e63 dX5_worked_32 ?_
          refine g_iload C 4 rfl dX5_worked_35 ?_
          have e64 : Tg h35 v16 = 36100 := (fxT F40 t18)
          have e65 : Ln h35 v16 = L24 := ((fxL F40 t18).trans l25)
          obtain ⟨v66, e67⟩ : ∃ z, Iv h35 v16 x34.toNat = z := ⟨_, rfl⟩
          have f68 := ok_Ia O39 e64 ar_36100 rI_36100_0 e67
          have g69 := ok_Ha O39 e64 ar_36100 rI_36100_0 e67
          refine g_iald C e64 rfl e65 (by omega) e67 dX5_worked_37 ?_
          refine g_istore C [(5, .inl v66), (0, .inr (.inr a0)), (1, .inl a1), (2, .inr (.inr a2)), (3, .inl x33), (4, .inl x34)] (by decide) rfl dX5_worked_38 ?_
          refine g_iload C 0 rfl dX5_worked_40 ?_
          refine g_bipush C (by decide) dX5_worked_42 ?_
          refine g_icmp_le C f68 (iw (il (-21)) (by decide) (by decide)) 81 (by decide) dX5_worked_44 (fun q70 => ?_) (fun q71 => ?_)
          · have f72 : (-2147483648 : Int) ≤ v66 ∧ v66 ≤ (-21 : Int) := r_le f68 (il (-21)) q70 (by decide) (by decide)
            refine g_iload C 0 rfl dX5_worked_81 ?_
            refine g_bipush C (by decide) dX5_worked_83 ?_
            refine g_icmp_ne C (iw f72 (by decide) (by decide)) (iw (il (-27)) (by decide) (by decide)) 120 (by decide) dX5_worked_85 (fun q73 => ?_) (fun q74 => ?_)
            · refine g_iload_n C rfl 4 rfl dX5_worked_120 ?_
              refine g_iconst C dX5_worked_121 ?_
              refine g_icmp_lt C (iw f41 (by decide) (by decide)) (iw (il 2) (by decide) (by decide)) 155 (by decide) dX5_worked_122 (fun q75 => ?_) (fun q76 => ?_)
              · have f77 : (0 : Int) ≤ x33 ∧ x33 ≤ (1 : Int) := r_lt f41 (il 2) q75 (by decide) (by decide)
                have f78 : (1 : Int) ≤ (x34 + 1) ∧ (x34 + 1) ≤ (1500 : Int) := ia_add f61 (il 1) (by decide) (by decide)
                refine g_iinc C [(4, .inl (x34 + 1)), (5, .inl v66), (0, .inr (.inr a0)), (1, .inl a1), (2, .inr (.inr a2)), (3, .inl x33)] 5 rfl (by decide) rfl dX5_worked_155 ?_
                refine g_goto C 20 (by decide) dX5_worked_158 ?_
                refine GW.sub [2, 3, 4, 5, 0] rfl ?_
                exact ih37 _ (by omega) x33 (x34 + 1) h35 rfl O39 F40 (iw f77 (by decide) (by decide)) (iw f78 (by decide) (by decide))
              · have f79 : (2 : Int) ≤ x33 ∧ x33 ≤ (32 : Int) := r_ge f41 (il 2) q76 (by decide) (by decide)
                have f80 : (1 : Int) ≤ (x33 + (-1)) ∧ (x33 + (-1)) ≤ (31 : Int) := ia_add f79 (il (-1)) (by decide) (by decide)
                refine g_iinc C [(3, .inl (x33 + (-1))), (5, .inl v66), (0, .inr (.inr a0)), (1, .inl a1), (2, .inr (.inr a2)), (4, .inl x34)] 4 rfl (by decide) rfl dX5_worked_125 ?_
                refine g_aload_n C rfl 2 rfl dX5_worked_128 ?_
                obtain ⟨v81, e82⟩ : ∃ z, Rv h35 a0 18 = z := ⟨_, rfl⟩
                have t83 := ok_R O39 e43 rE_6_18 e82
                have l84 := ok_L O39 e43 rE_6_18 e82
                refine gf_R C fk_LandSurvey_Rules_53 rfl e43 e82 dX5_worked_129 ?_
                refine g_iload_n C rfl 0 rfl dX5_worked_132 ?_
                refine g_iconst C dX5_worked_133 ?_
                have f85 : (0 : Int) ≤ ((x33 + (-1)) - 1) ∧ ((x33 + (-1)) - 1) ≤ (30 : Int) := ia_sub f80 (il 1) (by decide) (by decide)
                refine g_isub C dX5_worked_134 ?_
                refine g_iload C 1 rfl dX5_worked_135 ?_
                refine g_aload_n C rfl 2 rfl dX5_worked_137 ?_
                refine gf_R C fk_LandSurvey_Rules_53 rfl e43 e82 dX5_worked_138 ?_
                refine g_iload_n C rfl 0 rfl dX5_worked_141 ?_
                refine g_iconst C dX5_worked_142 ?_
                refine g_isub C dX5_worked_143 ?_
                obtain ⟨v86, e87⟩ : ∃ z, Iv h35 v81 (((x33 + (-1)) - 1).toNat) = z := ⟨_, rfl⟩
                have f88 := ok_Ia O39 t83 ar_37100 rI_37100_0 e87
                refine g_iald C t83 rfl l84 (ix f85 (by decide) (by decide)) e87 dX5_worked_144 ?_
                refine g_aload_n C rfl 2 rfl dX5_worked_145 ?_
                refine gf_R C fk_LandSurvey_Rules_53 rfl e43 e82 dX5_worked_146 ?_
                refine g_iload_n C rfl 0 rfl dX5_worked_149 ?_
                obtain ⟨v89, e90⟩ : ∃ z, Iv h35 v81 ((x33 + (-1)).toNat) = z := ⟨_, rfl⟩
                have f91 := ok_Ia O39 t83 ar_37100 rI_37100_0 e90
                refine g_iald C t83 rfl l84 (ix f80 (by decide) (by decide)) e90 dX5_worked_150 ?_
                refine g_callI (st := [.inl ((x33 + (-1)) - 1), .inr (.inr v81)]) (gc_S C lk_LandSurvey_Rules_88 (k_X5_joined l D cy w z0 O39 (iw f72 (by decide) (by decide)) f88 f91) rfl ⟨by decide, by decide⟩ (Nat.le_of_ble_eq_true rfl) dX5_worked_151 ⟨(by decide), (by decide)⟩) (fun r92 h93 f95 K94 => ?_)
                obtain ⟨O96, F97, f98⟩ := K94
                have e99 : Tg h93 v81 = 37100 := (fxT F97 t83)
                have e100 : Ln h93 v81 = 32 := ((fxL F97 t83).trans l84)
                refine g_iast C e99 rfl e100 (ix f85 (by decide) (by decide)) f98 dX5_worked_154 (fun h102 hh101 => ?_)
                have O103 := O96.pIa e99 ar_37100 hh101 rI_37100_0 f98 nofun
                have f104 : (1 : Int) ≤ (x34 + 1) ∧ (x34 + 1) ≤ (1500 : Int) := ia_add f61 (il 1) (by decide) (by decide)
                refine g_iinc C [(4, .inl (x34 + 1)), (3, .inl (x33 + (-1))), (5, .inl v66), (0, .inr (.inr a0)), (1, .inl a1), (2, .inr (.inr a2))] 5 rfl (by decide) rfl dX5_worked_155 ?_
                refine g_goto C 20 (by decide) dX5_worked_158 ?_
                refine GW.sub [3, 4, 5, 1, 0] rfl ?_
                exact ih37 _ (by omega) (x33 + (-1)) (x34 + 1) h102 rfl O103 ((F40.call F97 rfl).pIa e99 ar_37100 hh101 rfl) (iw f80 (by decide) (by decide)) (iw f104 (by decide) (by decide))
            · have f105 : (-27 : Int) ≤ v66 ∧ v66 ≤ (-27 : Int) := ii f72 (r_eq (il (-27)) q74) (by decide) (by decide)
              refine g_iload_n C rfl 4 rfl dX5_worked_88 ?_
              refine g_iconst C dX5_worked_89 ?_
              refine g_icmp_lt C (iw f41 (by decide) (by decide)) (iw (il 1) (by decide) (by decide)) 120 (by decide) dX5_worked_90 (fun q106 => ?_) (fun q107 => ?_)
              · have f108 : (0 : Int) ≤ x33 ∧ x33 ≤ (0 : Int) := r_lt f41 (il 1) q106 (by decide) (by decide)
                refine g_iload_n C rfl 4 rfl dX5_worked_120 ?_
                refine g_iconst C dX5_worked_121 ?_
                refine g_icmp_lt C (iw f108 (by decide) (by decide)) (iw (il 2) (by decide) (by decide)) 155 (by decide) dX5_worked_122 (fun q109 => ?_) (fun q110 => ?_)
                · have f111 : (1 : Int) ≤ (x34 + 1) ∧ (x34 + 1) ≤ (1500 : Int) := ia_add f61 (il 1) (by decide) (by decide)
                  refine g_iinc C [(4, .inl (x34 + 1)), (5, .inl v66), (0, .inr (.inr a0)), (1, .inl a1), (2, .inr (.inr a2)), (3, .inl x33)] 5 rfl (by decide) rfl dX5_worked_155 ?_
                  refine g_goto C 20 (by decide) dX5_worked_158 ?_
                  refine GW.sub [2, 3, 4, 5, 0] rfl ?_
                  exact ih37 _ (by omega) x33 (x34 + 1) h35 rfl O39 F40 (iw f108 (by decide) (by decide)) (iw f111 (by decide) (by decide))
                · exact (no_le (il 2) f108 q110 (by decide)).elim
              · have f112 : (1 : Int) ≤ x33 ∧ x33 ≤ (32 : Int) := r_ge f41 (il 1) q107 (by decide) (by decide)
                refine g_aload_n C rfl 1 rfl dX5_worked_93 ?_
                obtain ⟨v113, e114⟩ : ∃ z, Rv h35 a0 18 = z := ⟨_, rfl⟩
                have t115 := ok_R O39 e43 rE_6_18 e114
                have l116 := ok_L O39 e43 rE_6_18 e114
                refine gf_R C fk_LandSurvey_Rules_53 rfl e43 e114 dX5_worked_94 ?_
                refine g_iload_n C rfl 4 rfl dX5_worked_97 ?_
                refine g_iconst C dX5_worked_98 ?_
                have f117 : (0 : Int) ≤ (x33 - 1) ∧ (x33 - 1) ≤ (31 : Int) := ia_sub f112 (il 1) (by decide) (by decide)
                refine g_isub C dX5_worked_99 ?_
                refine g_aload_n C rfl 1 rfl dX5_worked_100 ?_
                refine gf_R C fk_LandSurvey_Rules_53 rfl e43 e114 dX5_worked_101 ?_
                refine g_iload_n C rfl 4 rfl dX5_worked_104 ?_
                refine g_iconst C dX5_worked_105 ?_
                refine g_isub C dX5_worked_106 ?_
                obtain ⟨v118, e119⟩ : ∃ z, Iv h35 v113 ((x33 - 1).toNat) = z := ⟨_, rfl⟩
                have f120 := ok_Ia O39 t115 ar_37100 rI_37100_0 e119
                refine g_iald C t115 rfl l116 (ix f117 (by decide) (by decide)) e119 dX5_worked_107 ?_
                refine g_if_ne C f120 115 (by decide) dX5_worked_108 (fun q121 => ?_) (fun q122 => ?_)
                · refine g_iconst C dX5_worked_115 ?_
                  refine g_iast C t115 rfl l116 (ix f117 (by decide) (by decide)) (iw (il 0) (by decide) (by decide)) dX5_worked_116 (fun h124 hh123 => ?_)
                  have O125 := O39.pIa t115 ar_37100 hh123 rI_37100_0 (iw (il 0) (by decide) (by decide)) nofun
                  refine g_goto C 155 (by decide) dX5_worked_117 ?_
                  have f126 : (1 : Int) ≤ (x34 + 1) ∧ (x34 + 1) ≤ (1500 : Int) := ia_add f61 (il 1) (by decide) (by decide)
                  refine g_iinc C [(4, .inl (x34 + 1)), (5, .inl v66), (0, .inr (.inr a0)), (1, .inl a1), (2, .inr (.inr a2)), (3, .inl x33)] 5 rfl (by decide) rfl dX5_worked_155 ?_
                  refine g_goto C 20 (by decide) dX5_worked_158 ?_
                  refine GW.sub [2, 3, 4, 5, 0] rfl ?_
                  exact ih37 _ (by omega) x33 (x34 + 1) h124 rfl O125 (F40.pIa t115 ar_37100 hh123 rfl) (iw f112 (by decide) (by decide)) (iw f126 (by decide) (by decide))
                · have f127 : (0 : Int) ≤ v118 ∧ v118 ≤ (0 : Int) := ii f120 (r_eq (il 0) q122) (by decide) (by decide)
                  refine g_iconst C dX5_worked_111 ?_
                  refine g_goto C 116 (by decide) dX5_worked_112 ?_
                  refine g_iast C t115 rfl l116 (ix f117 (by decide) (by decide)) (iw (il 1) (by decide) (by decide)) dX5_worked_116 (fun h129 hh128 => ?_)
                  have O130 := O39.pIa t115 ar_37100 hh128 rI_37100_0 (iw (il 1) (by decide) (by decide)) nofun
                  refine g_goto C 155 (by decide) dX5_worked_117 ?_
                  have f131 : (1 : Int) ≤ (x34 + 1) ∧ (x34 + 1) ≤ (1500 : Int) := ia_add f61 (il 1) (by decide) (by decide)
                  refine g_iinc C [(4, .inl (x34 + 1)), (5, .inl v66), (0, .inr (.inr a0)), (1, .inl a1), (2, .inr (.inr a2)), (3, .inl x33)] 5 rfl (by decide) rfl dX5_worked_155 ?_
                  refine g_goto C 20 (by decide) dX5_worked_158 ?_
                  refine GW.sub [2, 3, 4, 5, 0] rfl ?_
                  exact ih37 _ (by omega) x33 (x34 + 1) h129 rfl O130 (F40.pIa t115 ar_37100 hh128 rfl) (iw f112 (by decide) (by decide)) (iw f131 (by decide) (by decide))
          · have f132 : (-20 : Int) ≤ v66 ∧ v66 ≤ (2147483647 : Int) := r_gt f68 (il (-21)) q71 (by decide) (by decide)
            refine g_iload_n C rfl 4 rfl dX5_worked_47 ?_
            refine g_bipush C (by decide) dX5_worked_48 ?_
            refine g_icmp_ge C (iw f41 (by decide) (by decide)) (iw (il 32) (by decide) (by decide)) 81 (by decide) dX5_worked_50 (fun q133 => ?_) (fun q134 => ?_)
            · have f135 : (32 : Int) ≤ x33 ∧ x33 ≤ (32 : Int) := r_ge f41 (il 32) q133 (by decide) (by decide)
              refine g_iload C 0 rfl dX5_worked_81 ?_
              refine g_bipush C (by decide) dX5_worked_83 ?_
              refine g_icmp_ne C (iw f132 (by decide) (by decide)) (iw (il (-27)) (by decide) (by decide)) 120 (by decide) dX5_worked_85 (fun q136 => ?_) (fun q137 => ?_)
              · refine g_iload_n C rfl 4 rfl dX5_worked_120 ?_
                refine g_iconst C dX5_worked_121 ?_
                refine g_icmp_lt C (iw f135 (by decide) (by decide)) (iw (il 2) (by decide) (by decide)) 155 (by decide) dX5_worked_122 (fun q138 => ?_) (fun q139 => ?_)
                · exact (no_lt f135 (il 2) q138 (by decide)).elim
                · have f140 : (31 : Int) ≤ (x33 + (-1)) ∧ (x33 + (-1)) ≤ (31 : Int) := ia_add f135 (il (-1)) (by decide) (by decide)
                  refine g_iinc C [(3, .inl (x33 + (-1))), (5, .inl v66), (0, .inr (.inr a0)), (1, .inl a1), (2, .inr (.inr a2)), (4, .inl x34)] 4 rfl (by decide) rfl dX5_worked_125 ?_
                  refine g_aload_n C rfl 2 rfl dX5_worked_128 ?_
                  obtain ⟨v141, e142⟩ : ∃ z, Rv h35 a0 18 = z := ⟨_, rfl⟩
                  have t143 := ok_R O39 e43 rE_6_18 e142
                  have l144 := ok_L O39 e43 rE_6_18 e142
                  refine gf_R C fk_LandSurvey_Rules_53 rfl e43 e142 dX5_worked_129 ?_
                  refine g_iload_n C rfl 0 rfl dX5_worked_132 ?_
                  refine g_iconst C dX5_worked_133 ?_
                  have f145 : (30 : Int) ≤ ((x33 + (-1)) - 1) ∧ ((x33 + (-1)) - 1) ≤ (30 : Int) := ia_sub f140 (il 1) (by decide) (by decide)
                  refine g_isub C dX5_worked_134 ?_
                  refine g_iload C 1 rfl dX5_worked_135 ?_
                  refine g_aload_n C rfl 2 rfl dX5_worked_137 ?_
                  refine gf_R C fk_LandSurvey_Rules_53 rfl e43 e142 dX5_worked_138 ?_
                  refine g_iload_n C rfl 0 rfl dX5_worked_141 ?_
                  refine g_iconst C dX5_worked_142 ?_
                  refine g_isub C dX5_worked_143 ?_
                  obtain ⟨v146, e147⟩ : ∃ z, Iv h35 v141 (((x33 + (-1)) - 1).toNat) = z := ⟨_, rfl⟩
                  have f148 := ok_Ia O39 t143 ar_37100 rI_37100_0 e147
                  refine g_iald C t143 rfl l144 (ix f145 (by decide) (by decide)) e147 dX5_worked_144 ?_
                  refine g_aload_n C rfl 2 rfl dX5_worked_145 ?_
                  refine gf_R C fk_LandSurvey_Rules_53 rfl e43 e142 dX5_worked_146 ?_
                  refine g_iload_n C rfl 0 rfl dX5_worked_149 ?_
                  obtain ⟨v149, e150⟩ : ∃ z, Iv h35 v141 ((x33 + (-1)).toNat) = z := ⟨_, rfl⟩
                  have f151 := ok_Ia O39 t143 ar_37100 rI_37100_0 e150
                  refine g_iald C t143 rfl l144 (ix f140 (by decide) (by decide)) e150 dX5_worked_150 ?_
                  refine g_callI (st := [.inl ((x33 + (-1)) - 1), .inr (.inr v141)]) (gc_S C lk_LandSurvey_Rules_88 (k_X5_joined l D cy w z0 O39 (iw f132 (by decide) (by decide)) f148 f151) rfl ⟨by decide, by decide⟩ (Nat.le_of_ble_eq_true rfl) dX5_worked_151 ⟨(by decide), (by decide)⟩) (fun r152 h153 f155 K154 => ?_)
                  obtain ⟨O156, F157, f158⟩ := K154
                  have e159 : Tg h153 v141 = 37100 := (fxT F157 t143)
                  have e160 : Ln h153 v141 = 32 := ((fxL F157 t143).trans l144)
                  refine g_iast C e159 rfl e160 (ix f145 (by decide) (by decide)) f158 dX5_worked_154 (fun h162 hh161 => ?_)
                  have O163 := O156.pIa e159 ar_37100 hh161 rI_37100_0 f158 nofun
                  have f164 : (1 : Int) ≤ (x34 + 1) ∧ (x34 + 1) ≤ (1500 : Int) := ia_add f61 (il 1) (by decide) (by decide)
                  refine g_iinc C [(4, .inl (x34 + 1)), (3, .inl (x33 + (-1))), (5, .inl v66), (0, .inr (.inr a0)), (1, .inl a1), (2, .inr (.inr a2))] 5 rfl (by decide) rfl dX5_worked_155 ?_
                  refine g_goto C 20 (by decide) dX5_worked_158 ?_
                  refine GW.sub [3, 4, 5, 1, 0] rfl ?_
                  exact ih37 _ (by omega) (x33 + (-1)) (x34 + 1) h162 rfl O163 ((F40.call F157 rfl).pIa e159 ar_37100 hh161 rfl) (iw f140 (by decide) (by decide)) (iw f164 (by decide) (by decide))
              · exact (no_eq f132 (il (-27)) q137 (by decide)).elim
            · have f165 : (0 : Int) ≤ x33 ∧ x33 ≤ (31 : Int) := r_lt f41 (il 32) q134 (by decide) (by decide)
              refine g_aload_n C rfl 1 rfl dX5_worked_53 ?_
              obtain ⟨v166, e167⟩ : ∃ z, Rv h35 a0 18 = z := ⟨_, rfl⟩
              have t168 := ok_R O39 e43 rE_6_18 e167
              have l169 := ok_L O39 e43 rE_6_18 e167
              refine gf_R C fk_LandSurvey_Rules_53 rfl e43 e167 dX5_worked_54 ?_
              refine g_iload_n C rfl 4 rfl dX5_worked_57 ?_
              refine g_iload C 0 rfl dX5_worked_58 ?_
              refine g_if_lt C (iw f132 (by decide) (by decide)) 68 (by decide) dX5_worked_60 (fun q170 => ?_) (fun q171 => ?_)
              · have f172 : (-20 : Int) ≤ v66 ∧ v66 ≤ (-1 : Int) := r_lt f132 (il 0) q170 (by decide) (by decide)
                refine g_aload_n C rfl 3 rfl dX5_worked_68 ?_
                refine g_iconst C dX5_worked_69 ?_
                refine g_iload C 0 rfl dX5_worked_70 ?_
                have f173 : (0 : Int) ≤ ((-1) - v66) ∧ ((-1) - v66) ≤ (19 : Int) := ia_sub (il (-1)) f172 (by decide) (by decide)
                refine g_isub C dX5_worked_72 ?_
                have e174 : Tg h35 a2 = 50100 := (fxT F40 ta2)
                have e175 : Ln h35 a2 = 12 := ((fxL F40 ta2).trans la2)
                obtain ⟨v176, e177⟩ : ∃ z, Iv h35 a2 (((-1) - v66).toNat) = z := ⟨_, rfl⟩
                have f178 := ok_Ia O39 e174 ar_50100 rI_50100_0 e177
                refine g_iald C e174 rfl e175 (by omega) e177 dX5_worked_73 ?_
                refine g_iast C t168 rfl l169 (ix f165 (by decide) (by decide)) f178 dX5_worked_74 (fun h180 hh179 => ?_)
                have O181 := O39.pIa t168 ar_37100 hh179 rI_37100_0 f178 nofun
                have f182 : (1 : Int) ≤ (x33 + 1) ∧ (x33 + 1) ≤ (32 : Int) := ia_add f165 (il 1) (by decide) (by decide)
                refine g_iinc C [(3, .inl (x33 + 1)), (5, .inl v66), (0, .inr (.inr a0)), (1, .inl a1), (2, .inr (.inr a2)), (4, .inl x34)] 4 rfl (by decide) rfl dX5_worked_75 ?_
                refine g_goto C 155 (by decide) dX5_worked_78 ?_
                have f183 : (1 : Int) ≤ (x34 + 1) ∧ (x34 + 1) ≤ (1500 : Int) := ia_add f61 (il 1) (by decide) (by decide)
                refine g_iinc C [(4, .inl (x34 + 1)), (3, .inl (x33 + 1)), (5, .inl v66), (0, .inr (.inr a0)), (1, .inl a1), (2, .inr (.inr a2))] 5 rfl (by decide) rfl dX5_worked_155 ?_
                refine g_goto C 20 (by decide) dX5_worked_158 ?_
                refine GW.sub [3, 4, 5, 1, 0] rfl ?_
                exact ih37 _ (by omega) (x33 + 1) (x34 + 1) h180 rfl O181 (F40.pIa t168 ar_37100 hh179 rfl) (iw f182 (by decide) (by decide)) (iw f183 (by decide) (by decide))
              · have f184 : (0 : Int) ≤ v66 ∧ v66 ≤ (2147483647 : Int) := r_ge f132 (il 0) q171 (by decide) (by decide)
                refine g_iload C 0 rfl dX5_worked_63 ?_
                refine g_goto C 74 (by decide) dX5_worked_65 ?_
                refine g_iast C t168 rfl l169 (ix f165 (by decide) (by decide)) (iw f184 (by decide) (by decide)) dX5_worked_74 (fun h186 hh185 => ?_)
                have O187 := O39.pIa t168 ar_37100 hh185 rI_37100_0 (iw f184 (by decide) (by decide)) nofun
                have f188 : (1 : Int) ≤ (x33 + 1) ∧ (x33 + 1) ≤ (32 : Int) := ia_add f165 (il 1) (by decide) (by decide)
                refine g_iinc C [(3, .inl (x33 + 1)), (5, .inl v66), (0, .inr (.inr a0)), (1, .inl a1), (2, .inr (.inr a2)), (4, .inl x34)] 4 rfl (by decide) rfl dX5_worked_75 ?_
                refine g_goto C 155 (by decide) dX5_worked_78 ?_
                have f189 : (1 : Int) ≤ (x34 + 1) ∧ (x34 + 1) ≤ (1500 : Int) := ia_add f61 (il 1) (by decide) (by decide)
                refine g_iinc C [(4, .inl (x34 + 1)), (3, .inl (x33 + 1)), (5, .inl v66), (0, .inr (.inr a0)), (1, .inl a1), (2, .inr (.inr a2))] 5 rfl (by decide) rfl dX5_worked_155 ?_
                refine g_goto C 20 (by decide) dX5_worked_158 ?_
                refine GW.sub [3, 4, 5, 1, 0] rfl ?_
                exact ih37 _ (by omega) (x33 + 1) (x34 + 1) h186 rfl O187 (F40.pIa t168 ar_37100 hh185 rfl) (iw f188 (by decide) (by decide)) (iw f189 (by decide) (by decide))
    exact L36 _ 0 v30 h rfl O Fx.rf (iw (il 0) (by decide) (by decide)) f32
  · have f190 : (0 : Int) ≤ a1 ∧ a1 ≤ (0 : Int) := ii fa1 (r_eq (il 0) q27) (by decide) (by decide)
    refine g_iconst C dX5_worked_6 ?_
    refine g_goto C 18 (by decide) dX5_worked_7 ?_
    refine g_istore C [(4, .inl 0), (3, .inl 0), (0, .inr (.inr a0)), (1, .inl a1), (2, .inr (.inr a2))] (by decide) rfl dX5_worked_18 ?_
    refine GW.sub [2, 3, 4, 1, 0] rfl ?_
    -- loop at 20
    have L194 : ∀ (μ : Nat) (x191 : Int) (x192 : Int) (h193 : Hp), (1500 - x192).toNat = μ → Okh h193 → Fx [7420000] h h193 → ((0 : Int) ≤ x191 ∧ x191 ≤ (32 : Int)) → ((0 : Int) ≤ x192 ∧ x192 ≤ (1500 : Int)) → GW p l e (rmm 1 22 0 0) s m (List.map toV [.inr (.inr a0), .inl a1, .inr (.inr a2)]).toArray below meth c D cy z0 6 (MQ below (QI D cy z0 (fun v h1 => Okh h1 ∧ Fx wr_k_X5_worked h h1 ∧ ((-2147483648) ≤ v ∧ v ≤ 2147483647))) (List.map toV [.inr (.inr a0), .inl a1, .inr (.inr a2)]).toArray s 0 0 (Aof z0)) 20 [(0, .inr (.inr a0)), (1, .inl a1), (2, .inr (.inr a2)), (3, .inl x191), (4, .inl x192)] [] h193 0 0 := by
      intro μ
      induction μ using Nat.strongRecOn with
      | ind μ ih195 =>
        intro x191 x192 h193 hm196 O197 F198 f199 f200
        refine g_iload C 4 rfl dX5_worked_20 ?_
        refine g_aload_n C rfl 0 rfl dX5_worked_22 ?_
        have e201 : Tg h193 a0 = 6 := (fxT F198 ta0)
        have e202 : Rv h193 a0 16 = v12 := ((fxR F198 ta0 rfl).trans e13)
        refine gf_R C fk_LandSurvey_Rules_47 rfl e201 e202 dX5_worked_23 ?_
        refine g_iload_n C rfl 1 rfl dX5_worked_26 ?_
        have e203 : Tg h193 v12 = 34100 := (fxT F198 t14)
        have e204 : Ln h193 v12 = 24 := ((fxL F198 t14).trans l15)
        have e205 : Iv h193 v12 a1.toNat = v21 := ((fxIa F198 t14 ar_34100 rfl).trans e22)
        refine g_iald C e203 rfl e204 (ix f190 (by decide) (by decide)) e205 dX5_worked_27 ?_
        refine g_icmp_ge C (iw f200 (by decide) (by decide)) (iw f23 (by decide) (by decide)) 161 (by decide) dX5_worked_28 (fun q206 => ?_) (fun q207 => ?_)
        · refine g_iload_n C rfl 3 rfl dX5_worked_161 ?_
          refine g_if_ne C (iw f199 (by decide) (by decide)) 169 (by decide) dX5_worked_162 (fun q208 => ?_) (fun q209 => ?_)
          · have f210 : (1 : Int) ≤ x191 ∧ x191 ≤ (32 : Int) := r_nl f199 q208
            refine g_aload_n C rfl 0 rfl dX5_worked_169 ?_
            obtain ⟨v211, e212⟩ : ∃ z, Rv h193 a0 18 = z := ⟨_, rfl⟩
            have t213 := ok_R O197 e201 rE_6_18 e212
            have l214 := ok_L O197 e201 rE_6_18 e212
            refine gf_R C fk_LandSurvey_Rules_53 rfl e201 e212 dX5_worked_170 ?_
            refine g_iconst C dX5_worked_173 ?_
            obtain ⟨v215, e216⟩ : ∃ z, Iv h193 v211 ((0 : Int).toNat) = z := ⟨_, rfl⟩
            have f217 := ok_Ia O197 t213 ar_37100 rI_37100_0 e216
            refine g_iald C t213 rfl l214 (ix (il 0) (by decide) (by decide)) e216 dX5_worked_174 ?_
            exact g_iret C hr rfl f217 ⟨O197, ((Fx.rf (wr := wr_k_X5_worked)).call F198 rfl), f217⟩ (by decide) (by decide) dX5_worked_175
          · have f218 : (0 : Int) ≤ x191 ∧ x191 ≤ (0 : Int) := ii f199 (r_eq (il 0) q209) (by decide) (by decide)
            refine g_iconst C dX5_worked_165 ?_
            refine g_goto C 175 (by decide) dX5_worked_166 ?_
            exact g_iret C hr rfl (iw (il 0) (by decide) (by decide)) ⟨O197, ((Fx.rf (wr := wr_k_X5_worked)).call F198 rfl), (iw (il 0) (by decide) (by decide))⟩ (by decide) (by decide) dX5_worked_175
        · have f219 : (0 : Int) ≤ x192 ∧ x192 ≤ (1499 : Int) := r_lt f200 f23 q207 (by decide) (by decide)
          have f220 : (1 : Int) ≤ v21 ∧ v21 ≤ (1500 : Int) := r_gt f23 f200 q207 (by decide) (by decide)
          refine g_aload_n C rfl 0 rfl dX5_worked_31 ?_
          have e221 : Rv h193 a0 17 = v16 := ((fxR F198 ta0 rfl).trans e17)
          refine gf_R C fk_LandSurvey_Rules_50 rfl e201 e221 dX5_worked_32 ?_
          refine g_iload C 4 rfl dX5_worked_35 ?_
          have e222 : Tg h193 v16 = 36100 := (fxT F198 t18)
          have e223 : Ln h193 v16 = L24 := ((fxL F198 t18).trans l25)
          obtain ⟨v224, e225⟩ : ∃ z, Iv h193 v16 x192.toNat = z := ⟨_, rfl⟩
          have f226 := ok_Ia O197 e222 ar_36100 rI_36100_0 e225
          have g227 := ok_Ha O197 e222 ar_36100 rI_36100_0 e225
          refine g_iald C e222 rfl e223 (by omega) e225 dX5_worked_37 ?_
          refine g_istore C [(5, .inl v224), (0, .inr (.inr a0)), (1, .inl a1), (2, .inr (.inr a2)), (3, .inl x191), (4, .inl x192)] (by decide) rfl dX5_worked_38 ?_
          refine g_iload C 0 rfl dX5_worked_40 ?_
          refine g_bipush C (by decide) dX5_worked_42 ?_
          refine g_icmp_le C f226 (iw (il (-21)) (by decide) (by decide)) 81 (by decide) dX5_worked_44 (fun q228 => ?_) (fun q229 => ?_)
          · have f230 : (-2147483648 : Int) ≤ v224 ∧ v224 ≤ (-21 : Int) := r_le f226 (il (-21)) q228 (by decide) (by decide)
            refine g_iload C 0 rfl dX5_worked_81 ?_
            refine g_bipush C (by decide) dX5_worked_83 ?_
            refine g_icmp_ne C (iw f230 (by decide) (by decide)) (iw (il (-27)) (by decide) (by decide)) 120 (by decide) dX5_worked_85 (fun q231 => ?_) (fun q232 => ?_)
            · refine g_iload_n C rfl 4 rfl dX5_worked_120 ?_
              refine g_iconst C dX5_worked_121 ?_
              refine g_icmp_lt C (iw f199 (by decide) (by decide)) (iw (il 2) (by decide) (by decide)) 155 (by decide) dX5_worked_122 (fun q233 => ?_) (fun q234 => ?_)
              · have f235 : (0 : Int) ≤ x191 ∧ x191 ≤ (1 : Int) := r_lt f199 (il 2) q233 (by decide) (by decide)
                have f236 : (1 : Int) ≤ (x192 + 1) ∧ (x192 + 1) ≤ (1500 : Int) := ia_add f219 (il 1) (by decide) (by decide)
                refine g_iinc C [(4, .inl (x192 + 1)), (5, .inl v224), (0, .inr (.inr a0)), (1, .inl a1), (2, .inr (.inr a2)), (3, .inl x191)] 5 rfl (by decide) rfl dX5_worked_155 ?_
                refine g_goto C 20 (by decide) dX5_worked_158 ?_
                refine GW.sub [2, 3, 4, 5, 0] rfl ?_
                exact ih195 _ (by omega) x191 (x192 + 1) h193 rfl O197 F198 (iw f235 (by decide) (by decide)) (iw f236 (by decide) (by decide))
              · have f237 : (2 : Int) ≤ x191 ∧ x191 ≤ (32 : Int) := r_ge f199 (il 2) q234 (by decide) (by decide)
                have f238 : (1 : Int) ≤ (x191 + (-1)) ∧ (x191 + (-1)) ≤ (31 : Int) := ia_add f237 (il (-1)) (by decide) (by decide)
                refine g_iinc C [(3, .inl (x191 + (-1))), (5, .inl v224), (0, .inr (.inr a0)), (1, .inl a1), (2, .inr (.inr a2)), (4, .inl x192)] 4 rfl (by decide) rfl dX5_worked_125 ?_
                refine g_aload_n C rfl 2 rfl dX5_worked_128 ?_
                obtain ⟨v239, e240⟩ : ∃ z, Rv h193 a0 18 = z := ⟨_, rfl⟩
                have t241 := ok_R O197 e201 rE_6_18 e240
                have l242 := ok_L O197 e201 rE_6_18 e240
                refine gf_R C fk_LandSurvey_Rules_53 rfl e201 e240 dX5_worked_129 ?_
                refine g_iload_n C rfl 0 rfl dX5_worked_132 ?_
                refine g_iconst C dX5_worked_133 ?_
                have f243 : (0 : Int) ≤ ((x191 + (-1)) - 1) ∧ ((x191 + (-1)) - 1) ≤ (30 : Int) := ia_sub f238 (il 1) (by decide) (by decide)
                refine g_isub C dX5_worked_134 ?_
                refine g_iload C 1 rfl dX5_worked_135 ?_
                refine g_aload_n C rfl 2 rfl dX5_worked_137 ?_
                refine gf_R C fk_LandSurvey_Rules_53 rfl e201 e240 dX5_worked_138 ?_
                refine g_iload_n C rfl 0 rfl dX5_worked_141 ?_
                refine g_iconst C dX5_worked_142 ?_
                refine g_isub C dX5_worked_143 ?_
                obtain ⟨v244, e245⟩ : ∃ z, Iv h193 v239 (((x191 + (-1)) - 1).toNat) = z := ⟨_, rfl⟩
                have f246 := ok_Ia O197 t241 ar_37100 rI_37100_0 e245
                refine g_iald C t241 rfl l242 (ix f243 (by decide) (by decide)) e245 dX5_worked_144 ?_
                refine g_aload_n C rfl 2 rfl dX5_worked_145 ?_
                refine gf_R C fk_LandSurvey_Rules_53 rfl e201 e240 dX5_worked_146 ?_
                refine g_iload_n C rfl 0 rfl dX5_worked_149 ?_
                obtain ⟨v247, e248⟩ : ∃ z, Iv h193 v239 ((x191 + (-1)).toNat) = z := ⟨_, rfl⟩
                have f249 := ok_Ia O197 t241 ar_37100 rI_37100_0 e248
                refine g_iald C t241 rfl l242 (ix f238 (by decide) (by decide)) e248 dX5_worked_150 ?_
                refine g_callI (st := [.inl ((x191 + (-1)) - 1), .inr (.inr v239)]) (gc_S C lk_LandSurvey_Rules_88 (k_X5_joined l D cy w z0 O197 (iw f230 (by decide) (by decide)) f246 f249) rfl ⟨by decide, by decide⟩ (Nat.le_of_ble_eq_true rfl) dX5_worked_151 ⟨(by decide), (by decide)⟩) (fun r250 h251 f253 K252 => ?_)
                obtain ⟨O254, F255, f256⟩ := K252
                have e257 : Tg h251 v239 = 37100 := (fxT F255 t241)
                have e258 : Ln h251 v239 = 32 := ((fxL F255 t241).trans l242)
                refine g_iast C e257 rfl e258 (ix f243 (by decide) (by decide)) f256 dX5_worked_154 (fun h260 hh259 => ?_)
                have O261 := O254.pIa e257 ar_37100 hh259 rI_37100_0 f256 nofun
                have f262 : (1 : Int) ≤ (x192 + 1) ∧ (x192 + 1) ≤ (1500 : Int) := ia_add f219 (il 1) (by decide) (by decide)
                refine g_iinc C [(4, .inl (x192 + 1)), (3, .inl (x191 + (-1))), (5, .inl v224), (0, .inr (.inr a0)), (1, .inl a1), (2, .inr (.inr a2))] 5 rfl (by decide) rfl dX5_worked_155 ?_
                refine g_goto C 20 (by decide) dX5_worked_158 ?_
                refine GW.sub [3, 4, 5, 1, 0] rfl ?_
                exact ih195 _ (by omega) (x191 + (-1)) (x192 + 1) h260 rfl O261 ((F198.call F255 rfl).pIa e257 ar_37100 hh259 rfl) (iw f238 (by decide) (by decide)) (iw f262 (by decide) (by decide))
            · have f263 : (-27 : Int) ≤ v224 ∧ v224 ≤ (-27 : Int) := ii f230 (r_eq (il (-27)) q232) (by decide) (by decide)
              refine g_iload_n C rfl 4 rfl dX5_worked_88 ?_
              refine g_iconst C dX5_worked_89 ?_
              refine g_icmp_lt C (iw f199 (by decide) (by decide)) (iw (il 1) (by decide) (by decide)) 120 (by decide) dX5_worked_90 (fun q264 => ?_) (fun q265 => ?_)
              · have f266 : (0 : Int) ≤ x191 ∧ x191 ≤ (0 : Int) := r_lt f199 (il 1) q264 (by decide) (by decide)
                refine g_iload_n C rfl 4 rfl dX5_worked_120 ?_
                refine g_iconst C dX5_worked_121 ?_
                refine g_icmp_lt C (iw f266 (by decide) (by decide)) (iw (il 2) (by decide) (by decide)) 155 (by decide) dX5_worked_122 (fun q267 => ?_) (fun q268 => ?_)
                · have f269 : (1 : Int) ≤ (x192 + 1) ∧ (x192 + 1) ≤ (1500 : Int) := ia_add f219 (il 1) (by decide) (by decide)
                  refine g_iinc C [(4, .inl (x192 + 1)), (5, .inl v224), (0, .inr (.inr a0)), (1, .inl a1), (2, .inr (.inr a2)), (3, .inl x191)] 5 rfl (by decide) rfl dX5_worked_155 ?_
                  refine g_goto C 20 (by decide) dX5_worked_158 ?_
                  refine GW.sub [2, 3, 4, 5, 0] rfl ?_
                  exact ih195 _ (by omega) x191 (x192 + 1) h193 rfl O197 F198 (iw f266 (by decide) (by decide)) (iw f269 (by decide) (by decide))
                · exact (no_le (il 2) f266 q268 (by decide)).elim
              · have f270 : (1 : Int) ≤ x191 ∧ x191 ≤ (32 : Int) := r_ge f199 (il 1) q265 (by decide) (by decide)
                refine g_aload_n C rfl 1 rfl dX5_worked_93 ?_
                obtain ⟨v271, e272⟩ : ∃ z, Rv h193 a0 18 = z := ⟨_, rfl⟩
                have t273 := ok_R O197 e201 rE_6_18 e272
                have l274 := ok_L O197 e201 rE_6_18 e272
                refine gf_R C fk_LandSurvey_Rules_53 rfl e201 e272 dX5_worked_94 ?_
                refine g_iload_n C rfl 4 rfl dX5_worked_97 ?_
                refine g_iconst C dX5_worked_98 ?_
                have f275 : (0 : Int) ≤ (x191 - 1) ∧ (x191 - 1) ≤ (31 : Int) := ia_sub f270 (il 1) (by decide) (by decide)
                refine g_isub C dX5_worked_99 ?_
                refine g_aload_n C rfl 1 rfl dX5_worked_100 ?_
                refine gf_R C fk_LandSurvey_Rules_53 rfl e201 e272 dX5_worked_101 ?_
                refine g_iload_n C rfl 4 rfl dX5_worked_104 ?_
                refine g_iconst C dX5_worked_105 ?_
                refine g_isub C dX5_worked_106 ?_
                obtain ⟨v276, e277⟩ : ∃ z, Iv h193 v271 ((x191 - 1).toNat) = z := ⟨_, rfl⟩
                have f278 := ok_Ia O197 t273 ar_37100 rI_37100_0 e277
                refine g_iald C t273 rfl l274 (ix f275 (by decide) (by decide)) e277 dX5_worked_107 ?_
                refine g_if_ne C f278 115 (by decide) dX5_worked_108 (fun q279 => ?_) (fun q280 => ?_)
                · refine g_iconst C dX5_worked_115 ?_
                  refine g_iast C t273 rfl l274 (ix f275 (by decide) (by decide)) (iw (il 0) (by decide) (by decide)) dX5_worked_116 (fun h282 hh281 => ?_)
                  have O283 := O197.pIa t273 ar_37100 hh281 rI_37100_0 (iw (il 0) (by decide) (by decide)) nofun
                  refine g_goto C 155 (by decide) dX5_worked_117 ?_
                  have f284 : (1 : Int) ≤ (x192 + 1) ∧ (x192 + 1) ≤ (1500 : Int) := ia_add f219 (il 1) (by decide) (by decide)
                  refine g_iinc C [(4, .inl (x192 + 1)), (5, .inl v224), (0, .inr (.inr a0)), (1, .inl a1), (2, .inr (.inr a2)), (3, .inl x191)] 5 rfl (by decide) rfl dX5_worked_155 ?_
                  refine g_goto C 20 (by decide) dX5_worked_158 ?_
                  refine GW.sub [2, 3, 4, 5, 0] rfl ?_
                  exact ih195 _ (by omega) x191 (x192 + 1) h282 rfl O283 (F198.pIa t273 ar_37100 hh281 rfl) (iw f270 (by decide) (by decide)) (iw f284 (by decide) (by decide))
                · have f285 : (0 : Int) ≤ v276 ∧ v276 ≤ (0 : Int) := ii f278 (r_eq (il 0) q280) (by decide) (by decide)
                  refine g_iconst C dX5_worked_111 ?_
                  refine g_goto C 116 (by decide) dX5_worked_112 ?_
                  refine g_iast C t273 rfl l274 (ix f275 (by decide) (by decide)) (iw (il 1) (by decide) (by decide)) dX5_worked_116 (fun h287 hh286 => ?_)
                  have O288 := O197.pIa t273 ar_37100 hh286 rI_37100_0 (iw (il 1) (by decide) (by decide)) nofun
                  refine g_goto C 155 (by decide) dX5_worked_117 ?_
                  have f289 : (1 : Int) ≤ (x192 + 1) ∧ (x192 + 1) ≤ (1500 : Int) := ia_add f219 (il 1) (by decide) (by decide)
                  refine g_iinc C [(4, .inl (x192 + 1)), (5, .inl v224), (0, .inr (.inr a0)), (1, .inl a1), (2, .inr (.inr a2)), (3, .inl x191)] 5 rfl (by decide) rfl dX5_worked_155 ?_
                  refine g_goto C 20 (by decide) dX5_worked_158 ?_
                  refine GW.sub [2, 3, 4, 5, 0] rfl ?_
                  exact ih195 _ (by omega) x191 (x192 + 1) h287 rfl O288 (F198.pIa t273 ar_37100 hh286 rfl) (iw f270 (by decide) (by decide)) (iw f289 (by decide) (by decide))
          · have f290 : (-20 : Int) ≤ v224 ∧ v224 ≤ (2147483647 : Int) := r_gt f226 (il (-21)) q229 (by decide) (by decide)
            refine g_iload_n C rfl 4 rfl dX5_worked_47 ?_
            refine g_bipush C (by decide) dX5_worked_48 ?_
            refine g_icmp_ge C (iw f199 (by decide) (by decide)) (iw (il 32) (by decide) (by decide)) 81 (by decide) dX5_worked_50 (fun q291 => ?_) (fun q292 => ?_)
            · have f293 : (32 : Int) ≤ x191 ∧ x191 ≤ (32 : Int) := r_ge f199 (il 32) q291 (by decide) (by decide)
              refine g_iload C 0 rfl dX5_worked_81 ?_
              refine g_bipush C (by decide) dX5_worked_83 ?_
              refine g_icmp_ne C (iw f290 (by decide) (by decide)) (iw (il (-27)) (by decide) (by decide)) 120 (by decide) dX5_worked_85 (fun q294 => ?_) (fun q295 => ?_)
              · refine g_iload_n C rfl 4 rfl dX5_worked_120 ?_
                refine g_iconst C dX5_worked_121 ?_
                refine g_icmp_lt C (iw f293 (by decide) (by decide)) (iw (il 2) (by decide) (by decide)) 155 (by decide) dX5_worked_122 (fun q296 => ?_) (fun q297 => ?_)
                · exact (no_lt f293 (il 2) q296 (by decide)).elim
                · have f298 : (31 : Int) ≤ (x191 + (-1)) ∧ (x191 + (-1)) ≤ (31 : Int) := ia_add f293 (il (-1)) (by decide) (by decide)
                  refine g_iinc C [(3, .inl (x191 + (-1))), (5, .inl v224), (0, .inr (.inr a0)), (1, .inl a1), (2, .inr (.inr a2)), (4, .inl x192)] 4 rfl (by decide) rfl dX5_worked_125 ?_
                  refine g_aload_n C rfl 2 rfl dX5_worked_128 ?_
                  obtain ⟨v299, e300⟩ : ∃ z, Rv h193 a0 18 = z := ⟨_, rfl⟩
                  have t301 := ok_R O197 e201 rE_6_18 e300
                  have l302 := ok_L O197 e201 rE_6_18 e300
                  refine gf_R C fk_LandSurvey_Rules_53 rfl e201 e300 dX5_worked_129 ?_
                  refine g_iload_n C rfl 0 rfl dX5_worked_132 ?_
                  refine g_iconst C dX5_worked_133 ?_
                  have f303 : (30 : Int) ≤ ((x191 + (-1)) - 1) ∧ ((x191 + (-1)) - 1) ≤ (30 : Int) := ia_sub f298 (il 1) (by decide) (by decide)
                  refine g_isub C dX5_worked_134 ?_
                  refine g_iload C 1 rfl dX5_worked_135 ?_
                  refine g_aload_n C rfl 2 rfl dX5_worked_137 ?_
                  refine gf_R C fk_LandSurvey_Rules_53 rfl e201 e300 dX5_worked_138 ?_
                  refine g_iload_n C rfl 0 rfl dX5_worked_141 ?_
                  refine g_iconst C dX5_worked_142 ?_
                  refine g_isub C dX5_worked_143 ?_
                  obtain ⟨v304, e305⟩ : ∃ z, Iv h193 v299 (((x191 + (-1)) - 1).toNat) = z := ⟨_, rfl⟩
                  have f306 := ok_Ia O197 t301 ar_37100 rI_37100_0 e305
                  refine g_iald C t301 rfl l302 (ix f303 (by decide) (by decide)) e305 dX5_worked_144 ?_
                  refine g_aload_n C rfl 2 rfl dX5_worked_145 ?_
                  refine gf_R C fk_LandSurvey_Rules_53 rfl e201 e300 dX5_worked_146 ?_
                  refine g_iload_n C rfl 0 rfl dX5_worked_149 ?_
                  obtain ⟨v307, e308⟩ : ∃ z, Iv h193 v299 ((x191 + (-1)).toNat) = z := ⟨_, rfl⟩
                  have f309 := ok_Ia O197 t301 ar_37100 rI_37100_0 e308
                  refine g_iald C t301 rfl l302 (ix f298 (by decide) (by decide)) e308 dX5_worked_150 ?_
                  refine g_callI (st := [.inl ((x191 + (-1)) - 1), .inr (.inr v299)]) (gc_S C lk_LandSurvey_Rules_88 (k_X5_joined l D cy w z0 O197 (iw f290 (by decide) (by decide)) f306 f309) rfl ⟨by decide, by decide⟩ (Nat.le_of_ble_eq_true rfl) dX5_worked_151 ⟨(by decide), (by decide)⟩) (fun r310 h311 f313 K312 => ?_)
                  obtain ⟨O314, F315, f316⟩ := K312
                  have e317 : Tg h311 v299 = 37100 := (fxT F315 t301)
                  have e318 : Ln h311 v299 = 32 := ((fxL F315 t301).trans l302)
                  refine g_iast C e317 rfl e318 (ix f303 (by decide) (by decide)) f316 dX5_worked_154 (fun h320 hh319 => ?_)
                  have O321 := O314.pIa e317 ar_37100 hh319 rI_37100_0 f316 nofun
                  have f322 : (1 : Int) ≤ (x192 + 1) ∧ (x192 + 1) ≤ (1500 : Int) := ia_add f219 (il 1) (by decide) (by decide)
                  refine g_iinc C [(4, .inl (x192 + 1)), (3, .inl (x191 + (-1))), (5, .inl v224), (0, .inr (.inr a0)), (1, .inl a1), (2, .inr (.inr a2))] 5 rfl (by decide) rfl dX5_worked_155 ?_
                  refine g_goto C 20 (by decide) dX5_worked_158 ?_
                  refine GW.sub [3, 4, 5, 1, 0] rfl ?_
                  exact ih195 _ (by omega) (x191 + (-1)) (x192 + 1) h320 rfl O321 ((F198.call F315 rfl).pIa e317 ar_37100 hh319 rfl) (iw f298 (by decide) (by decide)) (iw f322 (by decide) (by decide))
              · exact (no_eq f290 (il (-27)) q295 (by decide)).elim
            · have f323 : (0 : Int) ≤ x191 ∧ x191 ≤ (31 : Int) := r_lt f199 (il 32) q292 (by decide) (by decide)
              refine g_aload_n C rfl 1 rfl dX5_worked_53 ?_
              obtain ⟨v324, e325⟩ : ∃ z, Rv h193 a0 18 = z := ⟨_, rfl⟩
              have t326 := ok_R O197 e201 rE_6_18 e325
              have l327 := ok_L O197 e201 rE_6_18 e325
              refine gf_R C fk_LandSurvey_Rules_53 rfl e201 e325 dX5_worked_54 ?_
              refine g_iload_n C rfl 4 rfl dX5_worked_57 ?_
              refine g_iload C 0 rfl dX5_worked_58 ?_
              refine g_if_lt C (iw f290 (by decide) (by decide)) 68 (by decide) dX5_worked_60 (fun q328 => ?_) (fun q329 => ?_)
              · have f330 : (-20 : Int) ≤ v224 ∧ v224 ≤ (-1 : Int) := r_lt f290 (il 0) q328 (by decide) (by decide)
                refine g_aload_n C rfl 3 rfl dX5_worked_68 ?_
                refine g_iconst C dX5_worked_69 ?_
                refine g_iload C 0 rfl dX5_worked_70 ?_
                have f331 : (0 : Int) ≤ ((-1) - v224) ∧ ((-1) - v224) ≤ (19 : Int) := ia_sub (il (-1)) f330 (by decide) (by decide)
                refine g_isub C dX5_worked_72 ?_
                have e332 : Tg h193 a2 = 50100 := (fxT F198 ta2)
                have e333 : Ln h193 a2 = 12 := ((fxL F198 ta2).trans la2)
                obtain ⟨v334, e335⟩ : ∃ z, Iv h193 a2 (((-1) - v224).toNat) = z := ⟨_, rfl⟩
                have f336 := ok_Ia O197 e332 ar_50100 rI_50100_0 e335
                refine g_iald C e332 rfl e333 (by omega) e335 dX5_worked_73 ?_
                refine g_iast C t326 rfl l327 (ix f323 (by decide) (by decide)) f336 dX5_worked_74 (fun h338 hh337 => ?_)
                have O339 := O197.pIa t326 ar_37100 hh337 rI_37100_0 f336 nofun
                have f340 : (1 : Int) ≤ (x191 + 1) ∧ (x191 + 1) ≤ (32 : Int) := ia_add f323 (il 1) (by decide) (by decide)
                refine g_iinc C [(3, .inl (x191 + 1)), (5, .inl v224), (0, .inr (.inr a0)), (1, .inl a1), (2, .inr (.inr a2)), (4, .inl x192)] 4 rfl (by decide) rfl dX5_worked_75 ?_
                refine g_goto C 155 (by decide) dX5_worked_78 ?_
                have f341 : (1 : Int) ≤ (x192 + 1) ∧ (x192 + 1) ≤ (1500 : Int) := ia_add f219 (il 1) (by decide) (by decide)
                refine g_iinc C [(4, .inl (x192 + 1)), (3, .inl (x191 + 1)), (5, .inl v224), (0, .inr (.inr a0)), (1, .inl a1), (2, .inr (.inr a2))] 5 rfl (by decide) rfl dX5_worked_155 ?_
                refine g_goto C 20 (by decide) dX5_worked_158 ?_
                refine GW.sub [3, 4, 5, 1, 0] rfl ?_
                exact ih195 _ (by omega) (x191 + 1) (x192 + 1) h338 rfl O339 (F198.pIa t326 ar_37100 hh337 rfl) (iw f340 (by decide) (by decide)) (iw f341 (by decide) (by decide))
              · have f342 : (0 : Int) ≤ v224 ∧ v224 ≤ (2147483647 : Int) := r_ge f290 (il 0) q329 (by decide) (by decide)
                refine g_iload C 0 rfl dX5_worked_63 ?_
                refine g_goto C 74 (by decide) dX5_worked_65 ?_
                refine g_iast C t326 rfl l327 (ix f323 (by decide) (by decide)) (iw f342 (by decide) (by decide)) dX5_worked_74 (fun h344 hh343 => ?_)
                have O345 := O197.pIa t326 ar_37100 hh343 rI_37100_0 (iw f342 (by decide) (by decide)) nofun
                have f346 : (1 : Int) ≤ (x191 + 1) ∧ (x191 + 1) ≤ (32 : Int) := ia_add f323 (il 1) (by decide) (by decide)
                refine g_iinc C [(3, .inl (x191 + 1)), (5, .inl v224), (0, .inr (.inr a0)), (1, .inl a1), (2, .inr (.inr a2)), (4, .inl x192)] 4 rfl (by decide) rfl dX5_worked_75 ?_
                refine g_goto C 155 (by decide) dX5_worked_78 ?_
                have f347 : (1 : Int) ≤ (x192 + 1) ∧ (x192 + 1) ≤ (1500 : Int) := ia_add f219 (il 1) (by decide) (by decide)
                refine g_iinc C [(4, .inl (x192 + 1)), (3, .inl (x191 + 1)), (5, .inl v224), (0, .inr (.inr a0)), (1, .inl a1), (2, .inr (.inr a2))] 5 rfl (by decide) rfl dX5_worked_155 ?_
                refine g_goto C 20 (by decide) dX5_worked_158 ?_
                refine GW.sub [3, 4, 5, 1, 0] rfl ?_
                exact ih195 _ (by omega) (x191 + 1) (x192 + 1) h344 rfl O345 (F198.pIa t326 ar_37100 hh343 rfl) (iw f346 (by decide) (by decide)) (iw f347 (by decide) (by decide))
    exact L194 _ 0 0 h rfl O Fx.rf (iw (il 0) (by decide) (by decide)) (iw (il 0) (by decide) (by decide))
