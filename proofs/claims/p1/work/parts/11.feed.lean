abbrev cX3_takeSigns : ByteArray := prog_5_method_2_code
def yX3_takeSigns : MethodName := ⟨RX3, "takeSigns", "(J)V"⟩
theorem okX3_takeSigns : yok yX3_takeSigns 1 := by decide +kernel
abbrev cX12_lay : ByteArray := prog_14_method_3_code
def yX12_lay : MethodName := ⟨RX12, "lay", "(J)V"⟩
theorem okX12_lay : yok yX12_lay 1 := by decide +kernel
abbrev cX11_feed : ByteArray := prog_1_method_11_code
def yX11_feed : MethodName := ⟨RX11, "feed", "(JJJ)I"⟩
theorem okX11_feed : yok yX11_feed 3 := by decide +kernel
abbrev cX12_feed : ByteArray := prog_14_method_2_code
def yX12_feed : MethodName := ⟨RX12, "feed", "(JJJ)I"⟩
theorem okX12_feed : yok yX12_feed 3 := by decide +kernel
abbrev cJ7_copyOf_59c91 : ByteArray := prog_28_method_123_code
def yJ7_copyOf_59c91 : MethodName := ⟨"java/util/Arrays", "copyOf", "([II)[I"⟩
theorem okJ7_copyOf_59c91 : yok yJ7_copyOf_59c91 2 := by decide +kernel
abbrev cJ9_min_7cf53 : ByteArray := prog_21_method_69_code
def yJ9_min_7cf53 : MethodName := ⟨"java/lang/Math", "min", "(II)I"⟩
theorem okJ9_min_7cf53 : yok yJ9_min_7cf53 2 := by decide +kernel
abbrev cX5_addUp : ByteArray := prog_7_method_5_code
def yX5_addUp : MethodName := ⟨RX5, "addUp", "()V"⟩
theorem okX5_addUp : yok yX5_addUp 0 := by decide +kernel
abbrev cX3_advance : ByteArray := prog_5_method_4_code
def yX3_advance : MethodName := ⟨RX3, "advance", "()V"⟩
theorem okX3_advance : yok yX3_advance 0 := by decide +kernel
abbrev cX3_readTape : ByteArray := prog_5_method_3_code
def yX3_readTape : MethodName := ⟨RX3, "readTape", "()I"⟩
theorem okX3_readTape : yok yX3_readTape 0 := by decide +kernel
abbrev cX4_enact : ByteArray := prog_6_method_3_code
def yX4_enact : MethodName := ⟨RX4, "enact", "(ILLandSurvey$Rules;)Z"⟩
theorem okX4_enact : yok yX4_enact 2 := by decide +kernel
abbrev cX11_rules : ByteArray := prog_1_method_12_code
def yX11_rules : MethodName := ⟨RX11, "rules", "()I"⟩
theorem okX11_rules : yok yX11_rules 0 := by decide +kernel
abbrev cX11_fault : ByteArray := prog_1_method_13_code
def yX11_fault : MethodName := ⟨RX11, "fault", "(IIZIIII)I"⟩
theorem okX11_fault : yok yX11_fault 7 := by decide +kernel
theorem kw_235 : Cond.fieldLink "LandSurvey$Reader" 19 "LandSurvey$Reader" "length" "I" ∈ uu := uu_in (i := 235) (by decide +kernel) (by decide +kernel)
theorem kw_1512 : Cond.fieldLink "LandSurveyModel" 11 "LandSurveyModel" "taped" "I" ∈ uu := uu_in (i := 1512) (by decide +kernel) (by decide +kernel)
theorem kw_1511 : Cond.fieldLink "LandSurveyModel" 14 "LandSurveyModel" "tape" "[I" ∈ uu := uu_in (i := 1511) (by decide +kernel) (by decide +kernel)
theorem kw_662 : Cond.code yX3_takeSigns prog_5_method_2_code 6 none ∈ uu := uu_in (i := 662) (by decide +kernel) (by decide +kernel)
theorem kw_659 : Cond.methodLink "LandSurvey" 139 yX3_takeSigns ∈ uu := uu_in (i := 659) (by decide +kernel) (by decide +kernel)
theorem kw_660 : Cond.instanceMethod yX3_takeSigns ∈ uu := uu_in (i := 660) (by decide +kernel) (by decide +kernel)
theorem kw_661 : Cond.selects "LandSurvey$Reader" yX3_takeSigns yX3_takeSigns ∈ uu := uu_in (i := 661) (by decide +kernel) (by decide +kernel)
theorem kw_236 : Cond.fieldLink "LandSurvey" 143 "LandSurvey$Reader" "length" "I" ∈ uu := uu_in (i := 236) (by decide +kernel) (by decide +kernel)
theorem kw_1474 : Cond.code yX12_lay prog_14_method_3_code 5 none ∈ uu := uu_in (i := 1474) (by decide +kernel) (by decide +kernel)
theorem kw_1470 : Cond.methodLink "LandSurveyModel" 7 yX12_lay ∈ uu := uu_in (i := 1470) (by decide +kernel) (by decide +kernel)
theorem kw_1472 : Cond.instanceMethod yX12_lay ∈ uu := uu_in (i := 1472) (by decide +kernel) (by decide +kernel)
theorem kw_63 : Cond.selects "LandSurveyModel" yX12_lay yX12_lay ∈ uu := uu_in (i := 63) (by decide +kernel) (by decide +kernel)
theorem kw_897 : Cond.methodLink "java/util/Arrays" 304 yJ9_min_7cf53 ∈ uu := uu_in (i := 897) (by decide +kernel) (by decide +kernel)
theorem kw_717 : Cond.static yJ9_min_7cf53 ∈ uu := uu_in (i := 717) (by decide +kernel) (by decide +kernel)
theorem kw_158 : Cond.initialized "java/lang/Math" ∈ uu := uu_in (i := 158) (by decide +kernel) (by decide +kernel)
theorem kw_718 : Cond.code yJ9_min_7cf53 prog_21_method_69_code 2 (some .int) ∈ uu := uu_in (i := 718) (by decide +kernel) (by decide +kernel)
theorem kw_898 : Cond.methodLink "java/util/Arrays" 150 (⟨"java/lang/System", "arraycopy", "(Ljava/lang/Object;ILjava/lang/Object;II)V"⟩ : MethodName) ∈ uu := uu_in (i := 898) (by decide +kernel) (by decide +kernel)
theorem kw_900 : Cond.native (⟨"java/lang/System", "arraycopy", "(Ljava/lang/Object;ILjava/lang/Object;II)V"⟩ : MethodName) ∈ uu := uu_in (i := 900) (by decide +kernel) (by decide +kernel)
theorem kw_899 : Cond.static (⟨"java/lang/System", "arraycopy", "(Ljava/lang/Object;ILjava/lang/Object;II)V"⟩ : MethodName) ∈ uu := uu_in (i := 899) (by decide +kernel) (by decide +kernel)
theorem kw_162 : Cond.initialized "java/lang/System" ∈ uu := uu_in (i := 162) (by decide +kernel) (by decide +kernel)
theorem kw_294 : Cond.fieldLink "LandSurvey$Rules" 62 "LandSurvey$Rules" "rocks" "I" ∈ uu := uu_in (i := 294) (by decide +kernel) (by decide +kernel)
theorem kw_307 : Cond.fieldLink "LandSurvey$Rules" 71 "LandSurvey$Rules" "leastOfAll" "I" ∈ uu := uu_in (i := 307) (by decide +kernel) (by decide +kernel)
theorem kw_237 : Cond.fieldLink "LandSurvey$Reader" 30 "LandSurvey$Reader" "at" "I" ∈ uu := uu_in (i := 237) (by decide +kernel) (by decide +kernel)
theorem kw_238 : Cond.fieldLink "LandSurvey$Reader" 66 "LandSurvey$Reader" "place" "I" ∈ uu := uu_in (i := 238) (by decide +kernel) (by decide +kernel)
theorem kw_241 : Cond.fieldLink "LandSurvey$Reader" 69 "LandSurvey$Reader" "word" "LLandSurvey$Word;" ∈ uu := uu_in (i := 241) (by decide +kernel) (by decide +kernel)
theorem kw_240 : Cond.fieldLink "LandSurvey$Reader" 73 "LandSurvey$Reader" "value" "J" ∈ uu := uu_in (i := 240) (by decide +kernel) (by decide +kernel)
theorem kw_239 : Cond.fieldLink "LandSurvey$Reader" 49 "LandSurvey$Reader" "kind" "I" ∈ uu := uu_in (i := 239) (by decide +kernel) (by decide +kernel)
theorem kw_671 : Cond.classLink "LandSurvey$Reader" 23 "LandSurvey$Rules" ∈ uu := uu_in (i := 671) (by decide +kernel) (by decide +kernel)
theorem kw_672 : Cond.methodLink "LandSurvey$Reader" 25 yX5_init ∈ uu := uu_in (i := 672) (by decide +kernel) (by decide +kernel)
theorem kw_248 : Cond.fieldLink "LandSurvey$Reader" 26 "LandSurvey$Reader" "made" "LLandSurvey$Rules;" ∈ uu := uu_in (i := 248) (by decide +kernel) (by decide +kernel)
theorem kw_242 : Cond.fieldLink "LandSurvey$Reader" 33 "LandSurvey$Reader" "fault" "I" ∈ uu := uu_in (i := 242) (by decide +kernel) (by decide +kernel)
theorem kw_247 : Cond.fieldLink "LandSurvey$Reader" 36 "LandSurvey$Reader" "codeLength" "I" ∈ uu := uu_in (i := 247) (by decide +kernel) (by decide +kernel)
theorem kw_244 : Cond.fieldLink "LandSurvey$Reader" 39 "LandSurvey$Reader" "steepTold" "Z" ∈ uu := uu_in (i := 244) (by decide +kernel) (by decide +kernel)
theorem kw_245 : Cond.fieldLink "LandSurvey$Reader" 43 "LandSurvey$Reader" "driftTold" "Z" ∈ uu := uu_in (i := 245) (by decide +kernel) (by decide +kernel)
theorem kw_676 : Cond.code yX3_advance prog_5_method_4_code 2 none ∈ uu := uu_in (i := 676) (by decide +kernel) (by decide +kernel)
theorem kw_673 : Cond.methodLink "LandSurvey$Reader" 46 yX3_advance ∈ uu := uu_in (i := 673) (by decide +kernel) (by decide +kernel)
theorem kw_675 : Cond.instanceMethod yX3_advance ∈ uu := uu_in (i := 675) (by decide +kernel) (by decide +kernel)
theorem kw_1 : Cond.selects "LandSurvey$Reader" yX3_advance yX3_advance ∈ uu := uu_in (i := 1) (by decide +kernel) (by decide +kernel)
theorem kw_889 : Cond.code yJ7_copyOf_59c91 prog_28_method_123_code 3 (some (.array .int)) ∈ uu := uu_in (i := 889) (by decide +kernel) (by decide +kernel)
theorem kw_887 : Cond.methodLink "LandSurvey$Reader" 56 yJ7_copyOf_59c91 ∈ uu := uu_in (i := 887) (by decide +kernel) (by decide +kernel)
theorem kw_888 : Cond.static yJ7_copyOf_59c91 ∈ uu := uu_in (i := 888) (by decide +kernel) (by decide +kernel)
theorem kw_335 : Cond.fieldLink "LandSurvey$Reader" 62 "LandSurvey$Rules" "code" "[I" ∈ uu := uu_in (i := 335) (by decide +kernel) (by decide +kernel)
theorem kw_904 : Cond.code yX5_addUp prog_7_method_5_code 2 none ∈ uu := uu_in (i := 904) (by decide +kernel) (by decide +kernel)
theorem kw_901 : Cond.methodLink "LandSurvey$Reader" 63 yX5_addUp ∈ uu := uu_in (i := 901) (by decide +kernel) (by decide +kernel)
theorem kw_902 : Cond.instanceMethod yX5_addUp ∈ uu := uu_in (i := 902) (by decide +kernel) (by decide +kernel)
theorem kw_903 : Cond.selects "LandSurvey$Rules" yX5_addUp yX5_addUp ∈ uu := uu_in (i := 903) (by decide +kernel) (by decide +kernel)
theorem kw_379 : Cond.fieldLink "LandSurvey$RuleBook" 26 "LandSurvey$RuleBook" "size" "I" ∈ uu := uu_in (i := 379) (by decide +kernel) (by decide +kernel)
theorem kw_670 : Cond.code yX3_readTape prog_5_method_3_code 2 (some .int) ∈ uu := uu_in (i := 670) (by decide +kernel) (by decide +kernel)
theorem kw_667 : Cond.methodLink "LandSurvey" 146 yX3_readTape ∈ uu := uu_in (i := 667) (by decide +kernel) (by decide +kernel)
theorem kw_668 : Cond.instanceMethod yX3_readTape ∈ uu := uu_in (i := 668) (by decide +kernel) (by decide +kernel)
theorem kw_669 : Cond.selects "LandSurvey$Reader" yX3_readTape yX3_readTape ∈ uu := uu_in (i := 669) (by decide +kernel) (by decide +kernel)
theorem kw_249 : Cond.fieldLink "LandSurvey" 150 "LandSurvey$Reader" "made" "LLandSurvey$Rules;" ∈ uu := uu_in (i := 249) (by decide +kernel) (by decide +kernel)
theorem kw_908 : Cond.code yX4_enact prog_6_method_3_code 4 (some .boolean) ∈ uu := uu_in (i := 908) (by decide +kernel) (by decide +kernel)
theorem kw_905 : Cond.methodLink "LandSurvey" 153 yX4_enact ∈ uu := uu_in (i := 905) (by decide +kernel) (by decide +kernel)
theorem kw_906 : Cond.instanceMethod yX4_enact ∈ uu := uu_in (i := 906) (by decide +kernel) (by decide +kernel)
theorem kw_907 : Cond.selects "LandSurvey$RuleBook" yX4_enact yX4_enact ∈ uu := uu_in (i := 907) (by decide +kernel) (by decide +kernel)
theorem kw_477 : Cond.fieldLink "LandSurvey" 157 "LandSurvey" "breakCount" "I" ∈ uu := uu_in (i := 477) (by decide +kernel) (by decide +kernel)
theorem kw_914 : Cond.instantiable "LandSurvey$Break" 6 ∈ uu := uu_in (i := 914) (by decide +kernel) (by decide +kernel)
theorem kw_163 : Cond.initialized "LandSurvey$Break" ∈ uu := uu_in (i := 163) (by decide +kernel) (by decide +kernel)
theorem kw_917 : Cond.code yX0_init prog_2_method_1_code 7 none ∈ uu := uu_in (i := 917) (by decide +kernel) (by decide +kernel)
theorem kw_915 : Cond.methodLink "LandSurvey" 160 yX0_init ∈ uu := uu_in (i := 915) (by decide +kernel) (by decide +kernel)
theorem kw_916 : Cond.instanceMethod yX0_init ∈ uu := uu_in (i := 916) (by decide +kernel) (by decide +kernel)
theorem dX3_takeSigns_0 : decode cX3_takeSigns 0 = .ok (.bipush 56, 2) := by decide +kernel
theorem dX3_takeSigns_2 : decode cX3_takeSigns 2 = .ok (.istore_n 3, 1) := by decide +kernel
theorem dX3_takeSigns_3 : decode cX3_takeSigns 3 = .ok (.iload_n 3, 1) := by decide +kernel
theorem dX3_takeSigns_4 : decode cX3_takeSigns 4 = .ok (.ifCond .lt 84, 3) := by decide +kernel
theorem dX3_takeSigns_88 : decode cX3_takeSigns 88 = .ok (.return_, 1) := by decide +kernel
theorem dX3_takeSigns_7 : decode cX3_takeSigns 7 = .ok (.lload_n 1, 1) := by decide +kernel
theorem dX3_takeSigns_8 : decode cX3_takeSigns 8 = .ok (.iload_n 3, 1) := by decide +kernel
theorem dX3_takeSigns_9 : decode cX3_takeSigns 9 = .ok (.lushr, 1) := by decide +kernel
theorem dX3_takeSigns_10 : decode cX3_takeSigns 10 = .ok (.l2i, 1) := by decide +kernel
theorem dX3_takeSigns_11 : decode cX3_takeSigns 11 = .ok (.sipush 255, 3) := by decide +kernel
theorem dX3_takeSigns_14 : decode cX3_takeSigns 14 = .ok (.iand, 1) := by decide +kernel
theorem dX3_takeSigns_15 : decode cX3_takeSigns 15 = .ok (.istore 4, 2) := by decide +kernel
theorem dX3_takeSigns_17 : decode cX3_takeSigns 17 = .ok (.iload 4, 2) := by decide +kernel
theorem dX3_takeSigns_19 : decode cX3_takeSigns 19 = .ok (.bipush 10, 2) := by decide +kernel
theorem dX3_takeSigns_21 : decode cX3_takeSigns 21 = .ok (.if_icmp .eq 17, 3) := by decide +kernel
theorem dX3_takeSigns_38 : decode cX3_takeSigns 38 = .ok (.iconst 1, 1) := by decide +kernel
theorem dX3_takeSigns_39 : decode cX3_takeSigns 39 = .ok (.goto 4, 3) := by decide +kernel
theorem dX3_takeSigns_43 : decode cX3_takeSigns 43 = .ok (.istore 5, 2) := by decide +kernel
theorem dX3_takeSigns_45 : decode cX3_takeSigns 45 = .ok (.iload 5, 2) := by decide +kernel
theorem dX3_takeSigns_47 : decode cX3_takeSigns 47 = .ok (.ifCond .eq 35, 3) := by decide +kernel
theorem dX3_takeSigns_50 : decode cX3_takeSigns 50 = .ok (.aload_n 0, 1) := by decide +kernel
theorem dX3_takeSigns_51 : decode cX3_takeSigns 51 = .ok (.getfield 19, 3) := by decide +kernel
theorem dX3_takeSigns_54 : decode cX3_takeSigns 54 = .ok (.sipush 1500, 3) := by decide +kernel
theorem dX3_takeSigns_57 : decode cX3_takeSigns 57 = .ok (.if_icmp .ge 25, 3) := by decide +kernel
theorem dX3_takeSigns_82 : decode cX3_takeSigns 82 = .ok (.iinc 3 (-8), 3) := by decide +kernel
theorem dX3_takeSigns_85 : decode cX3_takeSigns 85 = .ok (.goto (-82), 3) := by decide +kernel
theorem dX3_takeSigns_60 : decode cX3_takeSigns 60 = .ok (.aload_n 0, 1) := by decide +kernel
theorem dX3_takeSigns_61 : decode cX3_takeSigns 61 = .ok (.getfield 9, 3) := by decide +kernel
theorem dX3_takeSigns_64 : decode cX3_takeSigns 64 = .ok (.aload_n 0, 1) := by decide +kernel
theorem dX3_takeSigns_65 : decode cX3_takeSigns 65 = .ok (.getfield 19, 3) := by decide +kernel
theorem dX3_takeSigns_68 : decode cX3_takeSigns 68 = .ok (.iload 4, 2) := by decide +kernel
theorem dX3_takeSigns_70 : decode cX3_takeSigns 70 = .ok (.i2c, 1) := by decide +kernel
theorem dX3_takeSigns_71 : decode cX3_takeSigns 71 = .ok (.castore, 1) := by decide +kernel
theorem dX3_takeSigns_72 : decode cX3_takeSigns 72 = .ok (.aload_n 0, 1) := by decide +kernel
theorem dX3_takeSigns_73 : decode cX3_takeSigns 73 = .ok (.dup, 1) := by decide +kernel
theorem dX3_takeSigns_74 : decode cX3_takeSigns 74 = .ok (.getfield 19, 3) := by decide +kernel
theorem dX3_takeSigns_77 : decode cX3_takeSigns 77 = .ok (.iconst 1, 1) := by decide +kernel
theorem dX3_takeSigns_78 : decode cX3_takeSigns 78 = .ok (.iadd, 1) := by decide +kernel
theorem dX3_takeSigns_79 : decode cX3_takeSigns 79 = .ok (.putfield 19, 3) := by decide +kernel
theorem dX3_takeSigns_24 : decode cX3_takeSigns 24 = .ok (.iload 4, 2) := by decide +kernel
theorem dX3_takeSigns_26 : decode cX3_takeSigns 26 = .ok (.bipush 32, 2) := by decide +kernel
theorem dX3_takeSigns_28 : decode cX3_takeSigns 28 = .ok (.if_icmp .lt 14, 3) := by decide +kernel
theorem dX3_takeSigns_42 : decode cX3_takeSigns 42 = .ok (.iconst 0, 1) := by decide +kernel
theorem dX3_takeSigns_31 : decode cX3_takeSigns 31 = .ok (.iload 4, 2) := by decide +kernel
theorem dX3_takeSigns_33 : decode cX3_takeSigns 33 = .ok (.bipush 126, 2) := by decide +kernel
theorem dX3_takeSigns_35 : decode cX3_takeSigns 35 = .ok (.if_icmp .gt 7, 3) := by decide +kernel
theorem dX12_lay_0 : decode cX12_lay 0 = .ok (.bipush 56, 2) := by decide +kernel
theorem dX12_lay_2 : decode cX12_lay 2 = .ok (.istore_n 3, 1) := by decide +kernel
theorem dX12_lay_3 : decode cX12_lay 3 = .ok (.iload_n 3, 1) := by decide +kernel
theorem dX12_lay_4 : decode cX12_lay 4 = .ok (.ifCond .lt 71, 3) := by decide +kernel
theorem dX12_lay_75 : decode cX12_lay 75 = .ok (.return_, 1) := by decide +kernel
theorem dX12_lay_7 : decode cX12_lay 7 = .ok (.lload_n 1, 1) := by decide +kernel
theorem dX12_lay_8 : decode cX12_lay 8 = .ok (.iload_n 3, 1) := by decide +kernel
theorem dX12_lay_9 : decode cX12_lay 9 = .ok (.lshr, 1) := by decide +kernel
theorem dX12_lay_10 : decode cX12_lay 10 = .ok (.l2i, 1) := by decide +kernel
theorem dX12_lay_11 : decode cX12_lay 11 = .ok (.sipush 255, 3) := by decide +kernel
theorem dX12_lay_14 : decode cX12_lay 14 = .ok (.iand, 1) := by decide +kernel
theorem dX12_lay_15 : decode cX12_lay 15 = .ok (.istore 4, 2) := by decide +kernel
theorem dX12_lay_17 : decode cX12_lay 17 = .ok (.iload 4, 2) := by decide +kernel
theorem dX12_lay_19 : decode cX12_lay 19 = .ok (.bipush 10, 2) := by decide +kernel
theorem dX12_lay_21 : decode cX12_lay 21 = .ok (.if_icmp .eq 17, 3) := by decide +kernel
theorem dX12_lay_38 : decode cX12_lay 38 = .ok (.aload_n 0, 1) := by decide +kernel
theorem dX12_lay_39 : decode cX12_lay 39 = .ok (.getfield 11, 3) := by decide +kernel
theorem dX12_lay_42 : decode cX12_lay 42 = .ok (.sipush 1500, 3) := by decide +kernel
theorem dX12_lay_45 : decode cX12_lay 45 = .ok (.if_icmp .ge 24, 3) := by decide +kernel
theorem dX12_lay_69 : decode cX12_lay 69 = .ok (.iinc 3 (-8), 3) := by decide +kernel
theorem dX12_lay_72 : decode cX12_lay 72 = .ok (.goto (-69), 3) := by decide +kernel
theorem dX12_lay_48 : decode cX12_lay 48 = .ok (.aload_n 0, 1) := by decide +kernel
theorem dX12_lay_49 : decode cX12_lay 49 = .ok (.getfield 14, 3) := by decide +kernel
theorem dX12_lay_52 : decode cX12_lay 52 = .ok (.aload_n 0, 1) := by decide +kernel
theorem dX12_lay_53 : decode cX12_lay 53 = .ok (.getfield 11, 3) := by decide +kernel
theorem dX12_lay_56 : decode cX12_lay 56 = .ok (.iload 4, 2) := by decide +kernel
theorem dX12_lay_58 : decode cX12_lay 58 = .ok (.iastore, 1) := by decide +kernel
theorem dX12_lay_59 : decode cX12_lay 59 = .ok (.aload_n 0, 1) := by decide +kernel
theorem dX12_lay_60 : decode cX12_lay 60 = .ok (.dup, 1) := by decide +kernel
theorem dX12_lay_61 : decode cX12_lay 61 = .ok (.getfield 11, 3) := by decide +kernel
theorem dX12_lay_64 : decode cX12_lay 64 = .ok (.iconst 1, 1) := by decide +kernel
theorem dX12_lay_65 : decode cX12_lay 65 = .ok (.iadd, 1) := by decide +kernel
theorem dX12_lay_66 : decode cX12_lay 66 = .ok (.putfield 11, 3) := by decide +kernel
theorem dX12_lay_24 : decode cX12_lay 24 = .ok (.iload 4, 2) := by decide +kernel
theorem dX12_lay_26 : decode cX12_lay 26 = .ok (.bipush 32, 2) := by decide +kernel
theorem dX12_lay_28 : decode cX12_lay 28 = .ok (.if_icmp .lt 41, 3) := by decide +kernel
theorem dX12_lay_31 : decode cX12_lay 31 = .ok (.iload 4, 2) := by decide +kernel
theorem dX12_lay_33 : decode cX12_lay 33 = .ok (.bipush 126, 2) := by decide +kernel
theorem dX12_lay_35 : decode cX12_lay 35 = .ok (.if_icmp .gt 34, 3) := by decide +kernel
theorem dX11_feed_0 : decode cX11_feed 0 = .ok (.aload_n 0, 1) := by decide +kernel
theorem dX11_feed_1 : decode cX11_feed 1 = .ok (.getfield 29, 3) := by decide +kernel
theorem dX11_feed_4 : decode cX11_feed 4 = .ok (.lload_n 1, 1) := by decide +kernel
theorem dX11_feed_5 : decode cX11_feed 5 = .ok (.invokevirtual 139, 3) := by decide +kernel
theorem dX11_feed_8 : decode cX11_feed 8 = .ok (.aload_n 0, 1) := by decide +kernel
theorem dX11_feed_9 : decode cX11_feed 9 = .ok (.getfield 29, 3) := by decide +kernel
theorem dX11_feed_12 : decode cX11_feed 12 = .ok (.lload_n 3, 1) := by decide +kernel
theorem dX11_feed_13 : decode cX11_feed 13 = .ok (.invokevirtual 139, 3) := by decide +kernel
theorem dX11_feed_16 : decode cX11_feed 16 = .ok (.aload_n 0, 1) := by decide +kernel
theorem dX11_feed_17 : decode cX11_feed 17 = .ok (.getfield 29, 3) := by decide +kernel
theorem dX11_feed_20 : decode cX11_feed 20 = .ok (.lload 5, 2) := by decide +kernel
theorem dX11_feed_22 : decode cX11_feed 22 = .ok (.invokevirtual 139, 3) := by decide +kernel
theorem dX11_feed_25 : decode cX11_feed 25 = .ok (.aload_n 0, 1) := by decide +kernel
theorem dX11_feed_26 : decode cX11_feed 26 = .ok (.getfield 29, 3) := by decide +kernel
theorem dX11_feed_29 : decode cX11_feed 29 = .ok (.getfield 143, 3) := by decide +kernel
theorem dX11_feed_32 : decode cX11_feed 32 = .ok (.ireturn, 1) := by decide +kernel
theorem dX12_feed_0 : decode cX12_feed 0 = .ok (.aload_n 0, 1) := by decide +kernel
theorem dX12_feed_1 : decode cX12_feed 1 = .ok (.iconst 0, 1) := by decide +kernel
theorem dX12_feed_2 : decode cX12_feed 2 = .ok (.putfield 1, 3) := by decide +kernel
theorem dX12_feed_5 : decode cX12_feed 5 = .ok (.aload_n 0, 1) := by decide +kernel
theorem dX12_feed_6 : decode cX12_feed 6 = .ok (.lload_n 1, 1) := by decide +kernel
theorem dX12_feed_7 : decode cX12_feed 7 = .ok (.invokevirtual 7, 3) := by decide +kernel
theorem dX12_feed_10 : decode cX12_feed 10 = .ok (.aload_n 0, 1) := by decide +kernel
theorem dX12_feed_11 : decode cX12_feed 11 = .ok (.lload_n 3, 1) := by decide +kernel
theorem dX12_feed_12 : decode cX12_feed 12 = .ok (.invokevirtual 7, 3) := by decide +kernel
theorem dX12_feed_15 : decode cX12_feed 15 = .ok (.aload_n 0, 1) := by decide +kernel
theorem dX12_feed_16 : decode cX12_feed 16 = .ok (.lload 5, 2) := by decide +kernel
theorem dX12_feed_18 : decode cX12_feed 18 = .ok (.invokevirtual 7, 3) := by decide +kernel
theorem dX12_feed_21 : decode cX12_feed 21 = .ok (.aload_n 0, 1) := by decide +kernel
theorem dX12_feed_22 : decode cX12_feed 22 = .ok (.getfield 11, 3) := by decide +kernel
theorem dX12_feed_25 : decode cX12_feed 25 = .ok (.ireturn, 1) := by decide +kernel
theorem dJ7_copyOf_59c91_0 : decode cJ7_copyOf_59c91 0 = .ok (.iload_n 1, 1) := by decide +kernel
theorem dJ7_copyOf_59c91_1 : decode cJ7_copyOf_59c91 1 = .ok (.aload_n 0, 1) := by decide +kernel
theorem dJ7_copyOf_59c91_2 : decode cJ7_copyOf_59c91 2 = .ok (.arraylength, 1) := by decide +kernel
theorem dJ7_copyOf_59c91_3 : decode cJ7_copyOf_59c91 3 = .ok (.if_icmp .ne 11, 3) := by decide +kernel
theorem dJ7_copyOf_59c91_14 : decode cJ7_copyOf_59c91 14 = .ok (.iload_n 1, 1) := by decide +kernel
theorem dJ7_copyOf_59c91_15 : decode cJ7_copyOf_59c91 15 = .ok (.newarray .int, 2) := by decide +kernel
theorem dJ7_copyOf_59c91_17 : decode cJ7_copyOf_59c91 17 = .ok (.astore_n 2, 1) := by decide +kernel
theorem dJ7_copyOf_59c91_18 : decode cJ7_copyOf_59c91 18 = .ok (.aload_n 0, 1) := by decide +kernel
theorem dJ7_copyOf_59c91_19 : decode cJ7_copyOf_59c91 19 = .ok (.iconst 0, 1) := by decide +kernel
theorem dJ7_copyOf_59c91_20 : decode cJ7_copyOf_59c91 20 = .ok (.aload_n 2, 1) := by decide +kernel
theorem dJ7_copyOf_59c91_21 : decode cJ7_copyOf_59c91 21 = .ok (.iconst 0, 1) := by decide +kernel
theorem dJ7_copyOf_59c91_22 : decode cJ7_copyOf_59c91 22 = .ok (.aload_n 0, 1) := by decide +kernel
theorem dJ7_copyOf_59c91_23 : decode cJ7_copyOf_59c91 23 = .ok (.arraylength, 1) := by decide +kernel
theorem dJ7_copyOf_59c91_24 : decode cJ7_copyOf_59c91 24 = .ok (.iload_n 1, 1) := by decide +kernel
theorem dJ7_copyOf_59c91_25 : decode cJ7_copyOf_59c91 25 = .ok (.invokestatic 304, 3) := by decide +kernel
theorem dJ7_copyOf_59c91_28 : decode cJ7_copyOf_59c91 28 = .ok (.invokestatic 150, 3) := by decide +kernel
theorem dJ7_copyOf_59c91_31 : decode cJ7_copyOf_59c91 31 = .ok (.aload_n 2, 1) := by decide +kernel
theorem dJ7_copyOf_59c91_32 : decode cJ7_copyOf_59c91 32 = .ok (.areturn, 1) := by decide +kernel
theorem dX5_addUp_0 : decode cX5_addUp 0 = .ok (.iconst 1, 1) := by decide +kernel
theorem dX5_addUp_1 : decode cX5_addUp 1 = .ok (.istore_n 1, 1) := by decide +kernel
theorem dX5_addUp_2 : decode cX5_addUp 2 = .ok (.iload_n 1, 1) := by decide +kernel
theorem dX5_addUp_3 : decode cX5_addUp 3 = .ok (.aload_n 0, 1) := by decide +kernel
theorem dX5_addUp_4 : decode cX5_addUp 4 = .ok (.getfield 62, 3) := by decide +kernel
theorem dX5_addUp_7 : decode cX5_addUp 7 = .ok (.if_icmp .ge 67, 3) := by decide +kernel
theorem dX5_addUp_74 : decode cX5_addUp 74 = .ok (.aload_n 0, 1) := by decide +kernel
theorem dX5_addUp_75 : decode cX5_addUp 75 = .ok (.getfield 62, 3) := by decide +kernel
theorem dX5_addUp_78 : decode cX5_addUp 78 = .ok (.iconst 2, 1) := by decide +kernel
theorem dX5_addUp_79 : decode cX5_addUp 79 = .ok (.isub, 1) := by decide +kernel
theorem dX5_addUp_80 : decode cX5_addUp 80 = .ok (.istore_n 1, 1) := by decide +kernel
theorem dX5_addUp_81 : decode cX5_addUp 81 = .ok (.iload_n 1, 1) := by decide +kernel
theorem dX5_addUp_82 : decode cX5_addUp 82 = .ok (.ifCond .lt 55, 3) := by decide +kernel
theorem dX5_addUp_137 : decode cX5_addUp 137 = .ok (.aload_n 0, 1) := by decide +kernel
theorem dX5_addUp_138 : decode cX5_addUp 138 = .ok (.aload_n 0, 1) := by decide +kernel
theorem dX5_addUp_139 : decode cX5_addUp 139 = .ok (.getfield 62, 3) := by decide +kernel
theorem dX5_addUp_142 : decode cX5_addUp 142 = .ok (.ifCond .ne 7, 3) := by decide +kernel
theorem dX5_addUp_145 : decode cX5_addUp 145 = .ok (.iconst 0, 1) := by decide +kernel
theorem dX5_addUp_146 : decode cX5_addUp 146 = .ok (.goto 16, 3) := by decide +kernel
theorem dX5_addUp_162 : decode cX5_addUp 162 = .ok (.putfield 71, 3) := by decide +kernel
theorem dX5_addUp_165 : decode cX5_addUp 165 = .ok (.return_, 1) := by decide +kernel
theorem dX3_advance_0 : decode cX3_advance 0 = .ok (.aload_n 0, 1) := by decide +kernel
theorem dX3_advance_1 : decode cX3_advance 1 = .ok (.getfield 30, 3) := by decide +kernel
theorem dX3_advance_4 : decode cX3_advance 4 = .ok (.aload_n 0, 1) := by decide +kernel
theorem dX3_advance_5 : decode cX3_advance 5 = .ok (.getfield 19, 3) := by decide +kernel
theorem dX3_advance_8 : decode cX3_advance 8 = .ok (.if_icmp .ge 44, 3) := by decide +kernel
theorem dX3_advance_52 : decode cX3_advance 52 = .ok (.aload_n 0, 1) := by decide +kernel
theorem dX3_advance_53 : decode cX3_advance 53 = .ok (.aload_n 0, 1) := by decide +kernel
theorem dX3_advance_54 : decode cX3_advance 54 = .ok (.getfield 30, 3) := by decide +kernel
theorem dX3_advance_57 : decode cX3_advance 57 = .ok (.putfield 66, 3) := by decide +kernel
theorem dX3_advance_60 : decode cX3_advance 60 = .ok (.aload_n 0, 1) := by decide +kernel
theorem dX3_advance_61 : decode cX3_advance 61 = .ok (.aconst_null, 1) := by decide +kernel
theorem dX3_advance_62 : decode cX3_advance 62 = .ok (.putfield 69, 3) := by decide +kernel
theorem dX3_advance_65 : decode cX3_advance 65 = .ok (.aload_n 0, 1) := by decide +kernel
theorem dX3_advance_66 : decode cX3_advance 66 = .ok (.lconst 0, 1) := by decide +kernel
theorem dX3_advance_67 : decode cX3_advance 67 = .ok (.putfield 73, 3) := by decide +kernel
theorem dX3_advance_70 : decode cX3_advance 70 = .ok (.aload_n 0, 1) := by decide +kernel
theorem dX3_advance_71 : decode cX3_advance 71 = .ok (.getfield 30, 3) := by decide +kernel
theorem dX3_advance_74 : decode cX3_advance 74 = .ok (.aload_n 0, 1) := by decide +kernel
theorem dX3_advance_75 : decode cX3_advance 75 = .ok (.getfield 19, 3) := by decide +kernel
theorem dX3_advance_78 : decode cX3_advance 78 = .ok (.if_icmp .ge 15, 3) := by decide +kernel
theorem dX3_advance_93 : decode cX3_advance 93 = .ok (.iconst 0, 1) := by decide +kernel
theorem dX3_advance_94 : decode cX3_advance 94 = .ok (.istore_n 1, 1) := by decide +kernel
theorem dX3_advance_95 : decode cX3_advance 95 = .ok (.aload_n 0, 1) := by decide +kernel
theorem dX3_advance_96 : decode cX3_advance 96 = .ok (.getfield 30, 3) := by decide +kernel
theorem dX3_advance_99 : decode cX3_advance 99 = .ok (.aload_n 0, 1) := by decide +kernel
theorem dX3_advance_100 : decode cX3_advance 100 = .ok (.getfield 19, 3) := by decide +kernel
theorem dX3_advance_103 : decode cX3_advance 103 = .ok (.if_icmp .lt 11, 3) := by decide +kernel
theorem dX3_advance_106 : decode cX3_advance 106 = .ok (.aload_n 0, 1) := by decide +kernel
theorem dX3_advance_107 : decode cX3_advance 107 = .ok (.iconst 0, 1) := by decide +kernel
theorem dX3_advance_108 : decode cX3_advance 108 = .ok (.putfield 49, 3) := by decide +kernel
theorem dX3_advance_111 : decode cX3_advance 111 = .ok (.goto 293, 3) := by decide +kernel
theorem dX3_advance_404 : decode cX3_advance 404 = .ok (.return_, 1) := by decide +kernel
theorem dX3_readTape_0 : decode cX3_readTape 0 = .ok (.aload_n 0, 1) := by decide +kernel
theorem dX3_readTape_1 : decode cX3_readTape 1 = .ok (.new 23, 3) := by decide +kernel
theorem dX3_readTape_4 : decode cX3_readTape 4 = .ok (.dup, 1) := by decide +kernel
theorem dX3_readTape_5 : decode cX3_readTape 5 = .ok (.invokespecial 25, 3) := by decide +kernel
theorem dX3_readTape_8 : decode cX3_readTape 8 = .ok (.putfield 26, 3) := by decide +kernel
theorem dX3_readTape_11 : decode cX3_readTape 11 = .ok (.aload_n 0, 1) := by decide +kernel
theorem dX3_readTape_12 : decode cX3_readTape 12 = .ok (.iconst 0, 1) := by decide +kernel
theorem dX3_readTape_13 : decode cX3_readTape 13 = .ok (.putfield 30, 3) := by decide +kernel
theorem dX3_readTape_16 : decode cX3_readTape 16 = .ok (.aload_n 0, 1) := by decide +kernel
theorem dX3_readTape_17 : decode cX3_readTape 17 = .ok (.iconst 0, 1) := by decide +kernel
theorem dX3_readTape_18 : decode cX3_readTape 18 = .ok (.putfield 33, 3) := by decide +kernel
theorem dX3_readTape_21 : decode cX3_readTape 21 = .ok (.aload_n 0, 1) := by decide +kernel
theorem dX3_readTape_22 : decode cX3_readTape 22 = .ok (.iconst 0, 1) := by decide +kernel
theorem dX3_readTape_23 : decode cX3_readTape 23 = .ok (.putfield 36, 3) := by decide +kernel
theorem dX3_readTape_26 : decode cX3_readTape 26 = .ok (.aload_n 0, 1) := by decide +kernel
theorem dX3_readTape_27 : decode cX3_readTape 27 = .ok (.iconst 0, 1) := by decide +kernel
theorem dX3_readTape_28 : decode cX3_readTape 28 = .ok (.putfield 39, 3) := by decide +kernel
theorem dX3_readTape_31 : decode cX3_readTape 31 = .ok (.aload_n 0, 1) := by decide +kernel
theorem dX3_readTape_32 : decode cX3_readTape 32 = .ok (.iconst 0, 1) := by decide +kernel
theorem dX3_readTape_33 : decode cX3_readTape 33 = .ok (.putfield 43, 3) := by decide +kernel
theorem dX3_readTape_36 : decode cX3_readTape 36 = .ok (.aload_n 0, 1) := by decide +kernel
theorem dX3_readTape_37 : decode cX3_readTape 37 = .ok (.invokevirtual 46, 3) := by decide +kernel
theorem dX3_readTape_40 : decode cX3_readTape 40 = .ok (.iconst 0, 1) := by decide +kernel
theorem dX3_readTape_41 : decode cX3_readTape 41 = .ok (.istore_n 1, 1) := by decide +kernel
theorem dX3_readTape_42 : decode cX3_readTape 42 = .ok (.iload_n 1, 1) := by decide +kernel
theorem dX3_readTape_43 : decode cX3_readTape 43 = .ok (.sipush 1500, 3) := by decide +kernel
theorem dX3_readTape_46 : decode cX3_readTape 46 = .ok (.if_icmp .gt 28, 3) := by decide +kernel
theorem dX3_readTape_49 : decode cX3_readTape 49 = .ok (.aload_n 0, 1) := by decide +kernel
theorem dX3_readTape_50 : decode cX3_readTape 50 = .ok (.getfield 49, 3) := by decide +kernel
theorem dX3_readTape_53 : decode cX3_readTape 53 = .ok (.ifCond .eq 21, 3) := by decide +kernel
theorem dX3_readTape_74 : decode cX3_readTape 74 = .ok (.aload_n 0, 1) := by decide +kernel
theorem dX3_readTape_75 : decode cX3_readTape 75 = .ok (.iconst 0, 1) := by decide +kernel
theorem dX3_readTape_76 : decode cX3_readTape 76 = .ok (.putfield 19, 3) := by decide +kernel
theorem dX3_readTape_79 : decode cX3_readTape 79 = .ok (.aload_n 0, 1) := by decide +kernel
theorem dX3_readTape_80 : decode cX3_readTape 80 = .ok (.getfield 33, 3) := by decide +kernel
theorem dX3_readTape_83 : decode cX3_readTape 83 = .ok (.ifCond .ne 28, 3) := by decide +kernel
theorem dX3_readTape_86 : decode cX3_readTape 86 = .ok (.aload_n 0, 1) := by decide +kernel
theorem dX3_readTape_87 : decode cX3_readTape 87 = .ok (.getfield 26, 3) := by decide +kernel
theorem dX3_readTape_90 : decode cX3_readTape 90 = .ok (.aload_n 0, 1) := by decide +kernel
theorem dX3_readTape_91 : decode cX3_readTape 91 = .ok (.getfield 15, 3) := by decide +kernel
theorem dX3_readTape_94 : decode cX3_readTape 94 = .ok (.aload_n 0, 1) := by decide +kernel
theorem dX3_readTape_95 : decode cX3_readTape 95 = .ok (.getfield 36, 3) := by decide +kernel
theorem dX3_readTape_98 : decode cX3_readTape 98 = .ok (.invokestatic 56, 3) := by decide +kernel
theorem dX3_readTape_101 : decode cX3_readTape 101 = .ok (.putfield 62, 3) := by decide +kernel
theorem dX3_readTape_104 : decode cX3_readTape 104 = .ok (.aload_n 0, 1) := by decide +kernel
theorem dX3_readTape_105 : decode cX3_readTape 105 = .ok (.getfield 26, 3) := by decide +kernel
theorem dX3_readTape_108 : decode cX3_readTape 108 = .ok (.invokevirtual 63, 3) := by decide +kernel
theorem dX3_readTape_111 : decode cX3_readTape 111 = .ok (.aload_n 0, 1) := by decide +kernel
theorem dX3_readTape_112 : decode cX3_readTape 112 = .ok (.getfield 33, 3) := by decide +kernel
theorem dX3_readTape_115 : decode cX3_readTape 115 = .ok (.ireturn, 1) := by decide +kernel
theorem dX4_enact_0 : decode cX4_enact 0 = .ok (.aload_n 0, 1) := by decide +kernel
theorem dX4_enact_1 : decode cX4_enact 1 = .ok (.getfield 26, 3) := by decide +kernel
theorem dX4_enact_4 : decode cX4_enact 4 = .ok (.ifCond .le 22, 3) := by decide +kernel
theorem dX4_enact_26 : decode cX4_enact 26 = .ok (.iconst 0, 1) := by decide +kernel
theorem dX4_enact_27 : decode cX4_enact 27 = .ok (.istore_n 3, 1) := by decide +kernel
theorem dX4_enact_28 : decode cX4_enact 28 = .ok (.iload_n 3, 1) := by decide +kernel
theorem dX4_enact_29 : decode cX4_enact 29 = .ok (.ifCond .ne 24, 3) := by decide +kernel
theorem dX4_enact_32 : decode cX4_enact 32 = .ok (.aload_n 0, 1) := by decide +kernel
theorem dX4_enact_33 : decode cX4_enact 33 = .ok (.getfield 26, 3) := by decide +kernel
theorem dX4_enact_36 : decode cX4_enact 36 = .ok (.bipush 8, 2) := by decide +kernel
theorem dX4_enact_38 : decode cX4_enact 38 = .ok (.if_icmp .lt 5, 3) := by decide +kernel
theorem dX4_enact_43 : decode cX4_enact 43 = .ok (.aload_n 0, 1) := by decide +kernel
theorem dX4_enact_44 : decode cX4_enact 44 = .ok (.dup, 1) := by decide +kernel
theorem dX4_enact_45 : decode cX4_enact 45 = .ok (.getfield 26, 3) := by decide +kernel
theorem dX4_enact_48 : decode cX4_enact 48 = .ok (.iconst 1, 1) := by decide +kernel
theorem dX4_enact_49 : decode cX4_enact 49 = .ok (.iadd, 1) := by decide +kernel
theorem dX4_enact_50 : decode cX4_enact 50 = .ok (.putfield 26, 3) := by decide +kernel
theorem dX4_enact_53 : decode cX4_enact 53 = .ok (.aload_n 0, 1) := by decide +kernel
theorem dX4_enact_54 : decode cX4_enact 54 = .ok (.getfield 9, 3) := by decide +kernel
theorem dX4_enact_57 : decode cX4_enact 57 = .ok (.aload_n 0, 1) := by decide +kernel
theorem dX4_enact_58 : decode cX4_enact 58 = .ok (.getfield 26, 3) := by decide +kernel
theorem dX4_enact_61 : decode cX4_enact 61 = .ok (.iconst 1, 1) := by decide +kernel
theorem dX4_enact_62 : decode cX4_enact 62 = .ok (.isub, 1) := by decide +kernel
theorem dX4_enact_63 : decode cX4_enact 63 = .ok (.iload_n 1, 1) := by decide +kernel
theorem dX4_enact_64 : decode cX4_enact 64 = .ok (.iastore, 1) := by decide +kernel
theorem dX4_enact_65 : decode cX4_enact 65 = .ok (.aload_n 0, 1) := by decide +kernel
theorem dX4_enact_66 : decode cX4_enact 66 = .ok (.getfield 17, 3) := by decide +kernel
theorem dX4_enact_69 : decode cX4_enact 69 = .ok (.aload_n 0, 1) := by decide +kernel
theorem dX4_enact_70 : decode cX4_enact 70 = .ok (.getfield 26, 3) := by decide +kernel
theorem dX4_enact_73 : decode cX4_enact 73 = .ok (.iconst 1, 1) := by decide +kernel
theorem dX4_enact_74 : decode cX4_enact 74 = .ok (.isub, 1) := by decide +kernel
theorem dX4_enact_75 : decode cX4_enact 75 = .ok (.aload_n 2, 1) := by decide +kernel
theorem dX4_enact_76 : decode cX4_enact 76 = .ok (.aastore, 1) := by decide +kernel
theorem dX4_enact_77 : decode cX4_enact 77 = .ok (.iconst 1, 1) := by decide +kernel
theorem dX4_enact_78 : decode cX4_enact 78 = .ok (.ireturn, 1) := by decide +kernel
theorem dX11_rules_0 : decode cX11_rules 0 = .ok (.aload_n 0, 1) := by decide +kernel
theorem dX11_rules_1 : decode cX11_rules 1 = .ok (.getfield 29, 3) := by decide +kernel
theorem dX11_rules_4 : decode cX11_rules 4 = .ok (.invokevirtual 146, 3) := by decide +kernel
theorem dX11_rules_7 : decode cX11_rules 7 = .ok (.istore_n 1, 1) := by decide +kernel
theorem dX11_rules_8 : decode cX11_rules 8 = .ok (.iload_n 1, 1) := by decide +kernel
theorem dX11_rules_9 : decode cX11_rules 9 = .ok (.ifCond .eq 5, 3) := by decide +kernel
theorem dX11_rules_14 : decode cX11_rules 14 = .ok (.aload_n 0, 1) := by decide +kernel
theorem dX11_rules_15 : decode cX11_rules 15 = .ok (.getfield 36, 3) := by decide +kernel
theorem dX11_rules_18 : decode cX11_rules 18 = .ok (.aload_n 0, 1) := by decide +kernel
theorem dX11_rules_19 : decode cX11_rules 19 = .ok (.getfield 78, 3) := by decide +kernel
theorem dX11_rules_22 : decode cX11_rules 22 = .ok (.aload_n 0, 1) := by decide +kernel
theorem dX11_rules_23 : decode cX11_rules 23 = .ok (.getfield 29, 3) := by decide +kernel
theorem dX11_rules_26 : decode cX11_rules 26 = .ok (.getfield 150, 3) := by decide +kernel
theorem dX11_rules_29 : decode cX11_rules 29 = .ok (.invokevirtual 153, 3) := by decide +kernel
theorem dX11_rules_32 : decode cX11_rules 32 = .ok (.ifCond .ne 5, 3) := by decide +kernel
theorem dX11_rules_37 : decode cX11_rules 37 = .ok (.aload_n 0, 1) := by decide +kernel
theorem dX11_rules_38 : decode cX11_rules 38 = .ok (.iconst 0, 1) := by decide +kernel
theorem dX11_rules_39 : decode cX11_rules 39 = .ok (.putfield 81, 3) := by decide +kernel
theorem dX11_rules_42 : decode cX11_rules 42 = .ok (.iconst 0, 1) := by decide +kernel
theorem dX11_rules_43 : decode cX11_rules 43 = .ok (.ireturn, 1) := by decide +kernel
theorem dX11_fault_0 : decode cX11_fault 0 = .ok (.iload_n 1, 1) := by decide +kernel
theorem dX11_fault_1 : decode cX11_fault 1 = .ok (.iload_n 2, 1) := by decide +kernel
theorem dX11_fault_2 : decode cX11_fault 2 = .ok (.invokestatic 85, 3) := by decide +kernel
theorem dX11_fault_5 : decode cX11_fault 5 = .ok (.istore 8, 2) := by decide +kernel
theorem dX11_fault_7 : decode cX11_fault 7 = .ok (.iload 8, 2) := by decide +kernel
theorem dX11_fault_9 : decode cX11_fault 9 = .ok (.iconst (-1), 1) := by decide +kernel
theorem dX11_fault_10 : decode cX11_fault 10 = .ok (.if_icmp .eq 24, 3) := by decide +kernel
theorem dX11_fault_34 : decode cX11_fault 34 = .ok (.iconst (-1), 1) := by decide +kernel
theorem dX11_fault_35 : decode cX11_fault 35 = .ok (.ireturn, 1) := by decide +kernel
theorem dX11_fault_13 : decode cX11_fault 13 = .ok (.aload_n 0, 1) := by decide +kernel
theorem dX11_fault_14 : decode cX11_fault 14 = .ok (.getfield 157, 3) := by decide +kernel
theorem dX11_fault_17 : decode cX11_fault 17 = .ok (.iconst 4, 1) := by decide +kernel
theorem dX11_fault_18 : decode cX11_fault 18 = .ok (.if_icmp .ge 16, 3) := by decide +kernel
theorem dX11_fault_21 : decode cX11_fault 21 = .ok (.iload 4, 2) := by decide +kernel
theorem dX11_fault_23 : decode cX11_fault 23 = .ok (.iconst 1, 1) := by decide +kernel
theorem dX11_fault_24 : decode cX11_fault 24 = .ok (.if_icmp .lt 10, 3) := by decide +kernel
theorem dX11_fault_27 : decode cX11_fault 27 = .ok (.iload 4, 2) := by decide +kernel
theorem dX11_fault_29 : decode cX11_fault 29 = .ok (.bipush 12, 2) := by decide +kernel
theorem dX11_fault_31 : decode cX11_fault 31 = .ok (.if_icmp .le 5, 3) := by decide +kernel
theorem dX11_fault_36 : decode cX11_fault 36 = .ok (.iload 5, 2) := by decide +kernel
theorem dX11_fault_38 : decode cX11_fault 38 = .ok (.sipush (-300), 3) := by decide +kernel
theorem dX11_fault_41 : decode cX11_fault 41 = .ok (.if_icmp .lt 31, 3) := by decide +kernel
theorem dX11_fault_72 : decode cX11_fault 72 = .ok (.iconst (-1), 1) := by decide +kernel
theorem dX11_fault_73 : decode cX11_fault 73 = .ok (.ireturn, 1) := by decide +kernel
theorem dX11_fault_44 : decode cX11_fault 44 = .ok (.iload 6, 2) := by decide +kernel
theorem dX11_fault_46 : decode cX11_fault 46 = .ok (.sipush 300, 3) := by decide +kernel
theorem dX11_fault_49 : decode cX11_fault 49 = .ok (.if_icmp .gt 23, 3) := by decide +kernel
theorem dX11_fault_52 : decode cX11_fault 52 = .ok (.iload 5, 2) := by decide +kernel
theorem dX11_fault_54 : decode cX11_fault 54 = .ok (.iload 6, 2) := by decide +kernel
theorem dX11_fault_56 : decode cX11_fault 56 = .ok (.if_icmp .gt 16, 3) := by decide +kernel
theorem dX11_fault_59 : decode cX11_fault 59 = .ok (.iload 7, 2) := by decide +kernel
theorem dX11_fault_61 : decode cX11_fault 61 = .ok (.iconst 1, 1) := by decide +kernel
theorem dX11_fault_62 : decode cX11_fault 62 = .ok (.if_icmp .lt 10, 3) := by decide +kernel
theorem dX11_fault_65 : decode cX11_fault 65 = .ok (.iload 7, 2) := by decide +kernel
theorem dX11_fault_67 : decode cX11_fault 67 = .ok (.bipush 99, 2) := by decide +kernel
theorem dX11_fault_69 : decode cX11_fault 69 = .ok (.if_icmp .le 5, 3) := by decide +kernel
theorem dX11_fault_74 : decode cX11_fault 74 = .ok (.iload_n 3, 1) := by decide +kernel
theorem dX11_fault_75 : decode cX11_fault 75 = .ok (.ifCond .eq 28, 3) := by decide +kernel
theorem dX11_fault_103 : decode cX11_fault 103 = .ok (.iload_n 2, 1) := by decide +kernel
theorem dX11_fault_104 : decode cX11_fault 104 = .ok (.iconst 1, 1) := by decide +kernel
theorem dX11_fault_105 : decode cX11_fault 105 = .ok (.iadd, 1) := by decide +kernel
theorem dX11_fault_106 : decode cX11_fault 106 = .ok (.bipush 8, 2) := by decide +kernel
theorem dX11_fault_108 : decode cX11_fault 108 = .ok (.if_icmp .ge 16, 3) := by decide +kernel
theorem dX11_fault_124 : decode cX11_fault 124 = .ok (.iconst 0, 1) := by decide +kernel
theorem dX11_fault_125 : decode cX11_fault 125 = .ok (.istore 9, 2) := by decide +kernel
theorem dX11_fault_127 : decode cX11_fault 127 = .ok (.iload 9, 2) := by decide +kernel
theorem dX11_fault_129 : decode cX11_fault 129 = .ok (.ifCond .ne 5, 3) := by decide +kernel
theorem dX11_fault_132 : decode cX11_fault 132 = .ok (.iconst (-1), 1) := by decide +kernel
theorem dX11_fault_133 : decode cX11_fault 133 = .ok (.ireturn, 1) := by decide +kernel
theorem dX11_fault_111 : decode cX11_fault 111 = .ok (.iload_n 1, 1) := by decide +kernel
theorem dX11_fault_112 : decode cX11_fault 112 = .ok (.iload 4, 2) := by decide +kernel
theorem dX11_fault_114 : decode cX11_fault 114 = .ok (.iadd, 1) := by decide +kernel
theorem dX11_fault_115 : decode cX11_fault 115 = .ok (.bipush 12, 2) := by decide +kernel
theorem dX11_fault_117 : decode cX11_fault 117 = .ok (.if_icmp .gt 7, 3) := by decide +kernel
theorem dX11_fault_120 : decode cX11_fault 120 = .ok (.iconst 1, 1) := by decide +kernel
theorem dX11_fault_121 : decode cX11_fault 121 = .ok (.goto 4, 3) := by decide +kernel
theorem dX11_fault_134 : decode cX11_fault 134 = .ok (.aload_n 0, 1) := by decide +kernel
theorem dX11_fault_135 : decode cX11_fault 135 = .ok (.getfield 49, 3) := by decide +kernel
theorem dX11_fault_138 : decode cX11_fault 138 = .ok (.aload_n 0, 1) := by decide +kernel
theorem dX11_fault_139 : decode cX11_fault 139 = .ok (.getfield 157, 3) := by decide +kernel
theorem dX11_fault_142 : decode cX11_fault 142 = .ok (.new 47, 3) := by decide +kernel
theorem dX11_fault_145 : decode cX11_fault 145 = .ok (.dup, 1) := by decide +kernel
theorem dX11_fault_146 : decode cX11_fault 146 = .ok (.iload 8, 2) := by decide +kernel
theorem dX11_fault_148 : decode cX11_fault 148 = .ok (.iload_n 3, 1) := by decide +kernel
theorem dX11_fault_149 : decode cX11_fault 149 = .ok (.iload 4, 2) := by decide +kernel
theorem dX11_fault_151 : decode cX11_fault 151 = .ok (.iload 5, 2) := by decide +kernel
theorem dX11_fault_153 : decode cX11_fault 153 = .ok (.iload 6, 2) := by decide +kernel
theorem dX11_fault_155 : decode cX11_fault 155 = .ok (.iload 7, 2) := by decide +kernel
theorem dX11_fault_157 : decode cX11_fault 157 = .ok (.invokespecial 160, 3) := by decide +kernel
theorem dX11_fault_160 : decode cX11_fault 160 = .ok (.aastore, 1) := by decide +kernel
theorem dX11_fault_161 : decode cX11_fault 161 = .ok (.aload_n 0, 1) := by decide +kernel
theorem dX11_fault_162 : decode cX11_fault 162 = .ok (.iconst 0, 1) := by decide +kernel
theorem dX11_fault_163 : decode cX11_fault 163 = .ok (.putfield 81, 3) := by decide +kernel
theorem dX11_fault_166 : decode cX11_fault 166 = .ok (.aload_n 0, 1) := by decide +kernel
theorem dX11_fault_167 : decode cX11_fault 167 = .ok (.dup, 1) := by decide +kernel
theorem dX11_fault_168 : decode cX11_fault 168 = .ok (.getfield 157, 3) := by decide +kernel
theorem dX11_fault_171 : decode cX11_fault 171 = .ok (.dup_x1, 1) := by decide +kernel
theorem dX11_fault_172 : decode cX11_fault 172 = .ok (.iconst 1, 1) := by decide +kernel
theorem dX11_fault_173 : decode cX11_fault 173 = .ok (.iadd, 1) := by decide +kernel
theorem dX11_fault_174 : decode cX11_fault 174 = .ok (.putfield 157, 3) := by decide +kernel
theorem dX11_fault_177 : decode cX11_fault 177 = .ok (.ireturn, 1) := by decide +kernel
theorem dX11_fault_78 : decode cX11_fault 78 = .ok (.iload_n 1, 1) := by decide +kernel
theorem dX11_fault_79 : decode cX11_fault 79 = .ok (.iconst 1, 1) := by decide +kernel
theorem dX11_fault_80 : decode cX11_fault 80 = .ok (.iadd, 1) := by decide +kernel
theorem dX11_fault_81 : decode cX11_fault 81 = .ok (.bipush 12, 2) := by decide +kernel
theorem dX11_fault_83 : decode cX11_fault 83 = .ok (.if_icmp .ge 16, 3) := by decide +kernel
theorem dX11_fault_99 : decode cX11_fault 99 = .ok (.iconst 0, 1) := by decide +kernel
theorem dX11_fault_100 : decode cX11_fault 100 = .ok (.goto 25, 3) := by decide +kernel
theorem dX11_fault_86 : decode cX11_fault 86 = .ok (.iload_n 2, 1) := by decide +kernel
theorem dX11_fault_87 : decode cX11_fault 87 = .ok (.iload 4, 2) := by decide +kernel
theorem dX11_fault_89 : decode cX11_fault 89 = .ok (.iadd, 1) := by decide +kernel
theorem dX11_fault_90 : decode cX11_fault 90 = .ok (.bipush 8, 2) := by decide +kernel
theorem dX11_fault_92 : decode cX11_fault 92 = .ok (.if_icmp .gt 7, 3) := by decide +kernel
theorem dX11_fault_95 : decode cX11_fault 95 = .ok (.iconst 1, 1) := by decide +kernel
theorem dX11_fault_96 : decode cX11_fault 96 = .ok (.goto 29, 3) := by decide +kernel
set_option maxHeartbeats 4000000 in
set_option maxRecDepth 100000 in
theorem kX3_takeSigns (l : Launch) (D : va_G) (cy : Nat → ClassId) (x : Nat → Nat) (v : Int64) (n0 : Nat) (f : Nat → Int32) (hn0 : n0 ≤ 1400) : CV l D cy yX3_takeSigns cX3_takeSigns 6 none 0 0 0 0 [.ref (x 10), .long v] [((x 10), .inr (3, [.ref (x 11), .int (nI (n0)), .int 0, .int 0, .int 0, .long 0, .null, .int 0, .int 0, .int 0, .int 0, .ref (x 12), .int 0, .null])), ((x 11), .inl (cy 3, 1500, .inl f))] (fun (u : (Nat → Int32)) => True) (fun (u : (Nat → Int32)) => [((x 10), .inr (3, [.ref (x 11), .int (nI (n0 + cnt8 v 8)), .int 0, .int 0, .int 0, .long 0, .null, .int 0, .int 0, .int 0, .int 0, .ref (x 12), .int 0, .null])), ((x 11), .inl (cy 3, 1500, .inl (u)))]) := by
  refine cv_go (by decide) (Nat.le_of_ble_eq_true rfl) (fun p e s m below meth c ls A hA S hr hlk hnm hP hK hD hl => ?_)
  have hS : va_S A s.heap s.heap [] := va_S.rf
  have hl : lv_has ls 6 [(0, .ref (x 10)), (1, .long v)] := hl
  refine lv_bipush (v := 56) S.1 S.2.1 dX3_takeSigns_0 (by decide) ?_
  refine lv_istore_n (lv' := [(3, .int 56), (0, .ref (x 10)), (1, .long v)]) S.1 S.2.1 dX3_takeSigns_2 rfl hl (by decide) rfl (fun ls hl => ?_)
  refine loopN (σ := (Nat → Int32)) 3 8 (fun k xs9 => [((x 10), .inr (3, [.ref (x 11), .int (nI (n0 + cnt8 v k)), .int 0, .int 0, .int 0, .long 0, .null, .int 0, .int 0, .int 0, .int 0, .ref (x 12), .int 0, .null])), ((x 11), .inl (cy 3, 1500, .inl (xs9)))]) (fun k xs9 => [(3, .int (nI (64 - 8 * k) + (-8))), (0, .ref (x 10)), (1, .long v)]) (fun k xs9 => True) (fun xs9 hJ H locs ls hP hD hS hl => ?_) (fun k xs9 hk hJ H locs ls hP hD hS hl ih => ?_) f trivial (hP.sub [0, 1] rfl) (hD.sub [0, 1] (by decide) rfl) hS (lv_sub hl [0, 1, 2] rfl)
  · obtain ⟨g, rfl⟩ : ∃ z, z = xs9 := ⟨_, rfl⟩
    have hP : va_P D vwCl [((x 10), .inr (3, [.ref (x 11), .int (nI (n0 + cnt8 v 8)), .int 0, .int 0, .int 0, .long 0, .null, .int 0, .int 0, .int 0, .int 0, .ref (x 12), .int 0, .null])), ((x 11), .inl (cy 3, 1500, .inl g))] H := hP
    have hD : va_D A [((x 10), .inr (3, [.ref (x 11), .int (nI (n0 + cnt8 v 8)), .int 0, .int 0, .int 0, .long 0, .null, .int 0, .int 0, .int 0, .int 0, .ref (x 12), .int 0, .null])), ((x 11), .inl (cy 3, 1500, .inl g))] := hD
    have hl : lv_has ls 6 [(3, .int (-8)), (0, .ref (x 10)), (1, .long v)] := hl
    refine lv_iload_n S.1 S.2.1 dX3_takeSigns_3 rfl (lv_at hl 0 rfl) ?_
    refine r_if_lt S (-8) rfl dX3_takeSigns_4 (tgt := 88) (by decide) (fun _ => ?_) (fun c => absurd c (by decide))
    exact cv_ret (u := g) S hr hlk hK (hP.sub [0, 1] rfl) (hD.sub [0, 1] (by decide) rfl) hS (trivial) (by decide) (by decide) dX3_takeSigns_88
  · obtain ⟨g, rfl⟩ : ∃ z, z = xs9 := ⟨_, rfl⟩
    have hP : va_P D vwCl [((x 10), .inr (3, [.ref (x 11), .int (nI (n0 + cnt8 v k)), .int 0, .int 0, .int 0, .long 0, .null, .int 0, .int 0, .int 0, .int 0, .ref (x 12), .int 0, .null])), ((x 11), .inl (cy 3, 1500, .inl g))] H := hP
    have hD : va_D A [((x 10), .inr (3, [.ref (x 11), .int (nI (n0 + cnt8 v k)), .int 0, .int 0, .int 0, .long 0, .null, .int 0, .int 0, .int 0, .int 0, .ref (x 12), .int 0, .null])), ((x 11), .inl (cy 3, 1500, .inl g))] := hD
    have hl : lv_has ls 6 [(3, .int (nI (64 - 8 * k) + (-8))), (0, .ref (x 10)), (1, .long v)] := hl
    have e8 : nI (64 - 8 * k) + (-8) = nI (56 - 8 * k) := by rw [m8 (by omega)]; congr 1; omega
    have hc8 := cnt8_le v k
    have hl : lv_has ls 6 [(3, .int (nI (56 - 8 * k))), (0, .ref (x 10)), (1, .long v)] := by rw [← e8]; exact hl
    refine lv_iload_n S.1 S.2.1 dX3_takeSigns_3 rfl (lv_at hl 0 rfl) ?_
    refine r_if_lt S ((56 - 8 * k : Nat) : Int) (nI_toInt (by omega)) dX3_takeSigns_4 (tgt := 88) (by decide) (fun c => absurd c (by omega)) (fun _ => ?_)
    refine lv_lload_n S.1 S.2.1 dX3_takeSigns_7 rfl (lv_at hl 2 rfl) ?_
    refine lv_iload_n S.1 S.2.1 dX3_takeSigns_8 rfl (lv_at hl 0 rfl) ?_
    refine r_lushr S dX3_takeSigns_9 (v := ((v).toUInt64 >>> (((nI (56 - 8 * k)) : Int32).toInt64.toUInt64 &&& Int64.toUInt64 63)).toInt64) rfl ?_
    refine lv_l2i (v := (((v).toUInt64 >>> (((nI (56 - 8 * k)) : Int32).toInt64.toUInt64 &&& Int64.toUInt64 63)).toInt64).toInt32) S.1 S.2.1 dX3_takeSigns_10 rfl ?_
    refine lv_sipush (v := 255) S.1 S.2.1 dX3_takeSigns_11 (by decide) ?_
    refine r_iand S dX3_takeSigns_14 (v := ((((v).toUInt64 >>> (((nI (56 - 8 * k)) : Int32).toInt64.toUInt64 &&& Int64.toUInt64 63)).toInt64).toInt32 &&& 255)) rfl ?_
    refine lv_istore (lv' := [(4, .int ((((v).toUInt64 >>> (((nI (56 - 8 * k)) : Int32).toInt64.toUInt64 &&& Int64.toUInt64 63)).toInt64).toInt32 &&& 255)), (3, .int (nI (56 - 8 * k))), (0, .ref (x 10)), (1, .long v)]) S.1 S.2.1 dX3_takeSigns_15 hl (by decide) rfl (fun ls hl => ?_)
    refine lv_iload S.1 S.2.1 dX3_takeSigns_17 (lv_at hl 0 rfl) ?_
    refine lv_bipush (v := 10) S.1 S.2.1 dX3_takeSigns_19 (by decide) ?_
    refine r_icmp_eq S (byC v (56 - 8 * k)).toInt 10 rfl rfl dX3_takeSigns_21 (tgt := 38) (by decide) (fun e_21_1 => ?_) (fun e_21_1 => ?_)
    · refine lv_iconst (v := 1) S.1 S.2.1 dX3_takeSigns_38 (by decide) ?_
      refine lv_goto (tgt := 43) S.1 S.2.1 dX3_takeSigns_39 (by decide) ?_
      refine lv_istore (lv' := [(5, .int 1), (4, .int ((((v).toUInt64 >>> (((nI (56 - 8 * k)) : Int32).toInt64.toUInt64 &&& Int64.toUInt64 63)).toInt64).toInt32 &&& 255)), (3, .int (nI (56 - 8 * k))), (0, .ref (x 10)), (1, .long v)]) S.1 S.2.1 dX3_takeSigns_43 hl (by decide) rfl (fun ls hl => ?_)
      refine lv_iload S.1 S.2.1 dX3_takeSigns_45 (lv_at hl 0 rfl) ?_
      refine r_if_eq S 1 rfl dX3_takeSigns_47 (tgt := 82) (by decide) (fun c => absurd c (by decide)) (fun _ => ?_)
      refine lv_aload_n S.1 S.2.1 dX3_takeSigns_50 rfl (lv_at hl 3 rfl) ?_
      refine r_get S hK hP 0 3 rfl rfl inX3 1 (by decide) kw_235 (v := .int (nI (n0 + cnt8 v k))) rfl dX3_takeSigns_51 ?_
      refine lv_sipush (v := 1500) S.1 S.2.1 dX3_takeSigns_54 (by decide) ?_
      refine r_icmp_ge S ((n0 + cnt8 v k : Nat) : Int) 1500 (nI_toInt (by omega)) rfl dX3_takeSigns_57 (tgt := 82) (by decide) (fun e_57_2 => ?_) (fun e_57_2 => ?_)
      · refine lv_iinc (v := (nI (64 - 8 * (k + 1)) + (-8))) (lv' := [(3, .int (nI (64 - 8 * (k + 1)) + (-8))), (5, .int 1), (4, .int ((((v).toUInt64 >>> (((nI (56 - 8 * k)) : Int32).toInt64.toUInt64 &&& Int64.toUInt64 63)).toInt64).toInt32 &&& 255)), (0, .ref (x 10)), (1, .long v)]) S.1 S.2.1 dX3_takeSigns_82 hl (k := 2) rfl (by rw [show 64 - 8 * (k + 1) = 56 - 8 * k from by omega]; rfl) (by decide) rfl (fun ls hl => ?_)
        refine lv_goto (tgt := 3) S.1 S.2.1 dX3_takeSigns_85 (by decide) ?_
        have e9 : n0 + cnt8 v k = n0 + cnt8 v (k + 1) := by rw [cnt8_no (by omega)]
        rw [e9] at hP hD
        exact ih g _ _ _ trivial (hP.sub [0, 1] rfl) (hD.sub [0, 1] (by decide) rfl) hS (lv_sub hl [0, 3, 4] rfl)
      · refine lv_aload_n S.1 S.2.1 dX3_takeSigns_60 rfl (lv_at hl 3 rfl) ?_
        refine r_get S hK hP 0 3 rfl rfl inX3 0 (by decide) kw_234 (v := .ref (x 11)) rfl dX3_takeSigns_61 ?_
        refine lv_aload_n S.1 S.2.1 dX3_takeSigns_64 rfl (lv_at hl 3 rfl) ?_
        refine r_get S hK hP 0 3 rfl rfl inX3 1 (by decide) kw_235 (v := .int (nI (n0 + cnt8 v k))) rfl dX3_takeSigns_65 ?_
        refine lv_iload S.1 S.2.1 dX3_takeSigns_68 (lv_at hl 1 rfl) ?_
        refine lv_i2c (v := ((((((v).toUInt64 >>> (((nI (56 - 8 * k)) : Int32).toInt64.toUInt64 &&& Int64.toUInt64 63)).toInt64).toInt32 &&& 255)).toUInt32 % 65536).toInt32) S.1 S.2.1 dX3_takeSigns_70 rfl ?_
        refine r_cast S hK hP hD hS 1 3 rfl rfl ((n0 + cnt8 v k)) rfl (by omega) (by decide) dX3_takeSigns_71 (fun H locs hP hD hS => ?_)
        have hP : va_P D vwCl [((x 10), .inr (3, [.ref (x 11), .int (nI (n0 + cnt8 v k)), .int 0, .int 0, .int 0, .long 0, .null, .int 0, .int 0, .int 0, .int 0, .ref (x 12), .int 0, .null])), ((x 11), .inl (cy 3, 1500, .inl (upd g ((n0 + cnt8 v k)) (vp_nar .char ((((((v).toUInt64 >>> (((nI (56 - 8 * k)) : Int32).toInt64.toUInt64 &&& Int64.toUInt64 63)).toInt64).toInt32 &&& 255)).toUInt32 % 65536).toInt32))))] H := hP
        have hD : va_D A [((x 10), .inr (3, [.ref (x 11), .int (nI (n0 + cnt8 v k)), .int 0, .int 0, .int 0, .long 0, .null, .int 0, .int 0, .int 0, .int 0, .ref (x 12), .int 0, .null])), ((x 11), .inl (cy 3, 1500, .inl (upd g ((n0 + cnt8 v k)) (vp_nar .char ((((((v).toUInt64 >>> (((nI (56 - 8 * k)) : Int32).toInt64.toUInt64 &&& Int64.toUInt64 63)).toInt64).toInt32 &&& 255)).toUInt32 % 65536).toInt32))))] := hD
        refine lv_aload_n S.1 S.2.1 dX3_takeSigns_72 rfl (lv_at hl 3 rfl) ?_
        refine lv_dup S.1 S.2.1 dX3_takeSigns_73 rfl ?_
        refine r_get S hK hP 0 3 rfl rfl inX3 1 (by decide) kw_235 (v := .int (nI (n0 + cnt8 v k))) rfl dX3_takeSigns_74 ?_
        refine lv_iconst (v := 1) S.1 S.2.1 dX3_takeSigns_77 (by decide) ?_
        refine r_iadd S dX3_takeSigns_78 (v := (nI ((n0 + cnt8 v k) + 1))) (nI_add ((n0 + cnt8 v k)) (1)) ?_
        refine r_put S hK hP hD hS 0 3 rfl rfl inX3 1 (by decide) tyX3 tyX3_ok nmX3 kw_235 (v := .int (nI ((n0 + cnt8 v k) + 1))) rfl rfl rfl (Nat.le_of_ble_eq_true rfl) dX3_takeSigns_79 (fun H locs hP hD hS => ?_)
        have hP : va_P D vwCl [((x 10), .inr (3, [.ref (x 11), .int (nI ((n0 + cnt8 v k) + 1)), .int 0, .int 0, .int 0, .long 0, .null, .int 0, .int 0, .int 0, .int 0, .ref (x 12), .int 0, .null])), ((x 11), .inl (cy 3, 1500, .inl (upd g ((n0 + cnt8 v k)) (vp_nar .char ((((((v).toUInt64 >>> (((nI (56 - 8 * k)) : Int32).toInt64.toUInt64 &&& Int64.toUInt64 63)).toInt64).toInt32 &&& 255)).toUInt32 % 65536).toInt32))))] H := hP
        have hD : va_D A [((x 10), .inr (3, [.ref (x 11), .int (nI ((n0 + cnt8 v k) + 1)), .int 0, .int 0, .int 0, .long 0, .null, .int 0, .int 0, .int 0, .int 0, .ref (x 12), .int 0, .null])), ((x 11), .inl (cy 3, 1500, .inl (upd g ((n0 + cnt8 v k)) (vp_nar .char ((((((v).toUInt64 >>> (((nI (56 - 8 * k)) : Int32).toInt64.toUInt64 &&& Int64.toUInt64 63)).toInt64).toInt32 &&& 255)).toUInt32 % 65536).toInt32))))] := hD
        refine lv_iinc (v := (nI (64 - 8 * (k + 1)) + (-8))) (lv' := [(3, .int (nI (64 - 8 * (k + 1)) + (-8))), (5, .int 1), (4, .int ((((v).toUInt64 >>> (((nI (56 - 8 * k)) : Int32).toInt64.toUInt64 &&& Int64.toUInt64 63)).toInt64).toInt32 &&& 255)), (0, .ref (x 10)), (1, .long v)]) S.1 S.2.1 dX3_takeSigns_82 hl (k := 2) rfl (by rw [show 64 - 8 * (k + 1) = 56 - 8 * k from by omega]; rfl) (by decide) rfl (fun ls hl => ?_)
        refine lv_goto (tgt := 3) S.1 S.2.1 dX3_takeSigns_85 (by decide) ?_
        have e9 : (n0 + cnt8 v k) + 1 = n0 + cnt8 v (k + 1) := by rw [cnt8_yes (by omega)]; omega
        rw [e9] at hP hD
        exact ih (upd g ((n0 + cnt8 v k)) (vp_nar .char ((((((v).toUInt64 >>> (((nI (56 - 8 * k)) : Int32).toInt64.toUInt64 &&& Int64.toUInt64 63)).toInt64).toInt32 &&& 255)).toUInt32 % 65536).toInt32)) _ _ _ trivial (hP.sub [0, 1] rfl) (hD.sub [0, 1] (by decide) rfl) hS (lv_sub hl [0, 3, 4] rfl)
    · refine lv_iload S.1 S.2.1 dX3_takeSigns_24 (lv_at hl 0 rfl) ?_
      refine lv_bipush (v := 32) S.1 S.2.1 dX3_takeSigns_26 (by decide) ?_
      refine r_icmp_lt S (byC v (56 - 8 * k)).toInt 32 rfl rfl dX3_takeSigns_28 (tgt := 42) (by decide) (fun e_28_2 => ?_) (fun e_28_2 => ?_)
      · refine lv_iconst (v := 0) S.1 S.2.1 dX3_takeSigns_42 (by decide) ?_
        refine lv_istore (lv' := [(5, .int 0), (4, .int ((((v).toUInt64 >>> (((nI (56 - 8 * k)) : Int32).toInt64.toUInt64 &&& Int64.toUInt64 63)).toInt64).toInt32 &&& 255)), (3, .int (nI (56 - 8 * k))), (0, .ref (x 10)), (1, .long v)]) S.1 S.2.1 dX3_takeSigns_43 hl (by decide) rfl (fun ls hl => ?_)
        refine lv_iload S.1 S.2.1 dX3_takeSigns_45 (lv_at hl 0 rfl) ?_
        refine r_if_eq S 0 rfl dX3_takeSigns_47 (tgt := 82) (by decide) (fun _ => ?_) (fun c => absurd c (by decide))
        refine lv_iinc (v := (nI (64 - 8 * (k + 1)) + (-8))) (lv' := [(3, .int (nI (64 - 8 * (k + 1)) + (-8))), (5, .int 0), (4, .int ((((v).toUInt64 >>> (((nI (56 - 8 * k)) : Int32).toInt64.toUInt64 &&& Int64.toUInt64 63)).toInt64).toInt32 &&& 255)), (0, .ref (x 10)), (1, .long v)]) S.1 S.2.1 dX3_takeSigns_82 hl (k := 2) rfl (by rw [show 64 - 8 * (k + 1) = 56 - 8 * k from by omega]; rfl) (by decide) rfl (fun ls hl => ?_)
        refine lv_goto (tgt := 3) S.1 S.2.1 dX3_takeSigns_85 (by decide) ?_
        have e9 : n0 + cnt8 v k = n0 + cnt8 v (k + 1) := by rw [cnt8_no (by omega)]
        rw [e9] at hP hD
        exact ih g _ _ _ trivial (hP.sub [0, 1] rfl) (hD.sub [0, 1] (by decide) rfl) hS (lv_sub hl [0, 3, 4] rfl)
      · refine lv_iload S.1 S.2.1 dX3_takeSigns_31 (lv_at hl 0 rfl) ?_
        refine lv_bipush (v := 126) S.1 S.2.1 dX3_takeSigns_33 (by decide) ?_
        refine r_icmp_gt S (byC v (56 - 8 * k)).toInt 126 rfl rfl dX3_takeSigns_35 (tgt := 42) (by decide) (fun e_35_3 => ?_) (fun e_35_3 => ?_)
        · refine lv_iconst (v := 0) S.1 S.2.1 dX3_takeSigns_42 (by decide) ?_
          refine lv_istore (lv' := [(5, .int 0), (4, .int ((((v).toUInt64 >>> (((nI (56 - 8 * k)) : Int32).toInt64.toUInt64 &&& Int64.toUInt64 63)).toInt64).toInt32 &&& 255)), (3, .int (nI (56 - 8 * k))), (0, .ref (x 10)), (1, .long v)]) S.1 S.2.1 dX3_takeSigns_43 hl (by decide) rfl (fun ls hl => ?_)
          refine lv_iload S.1 S.2.1 dX3_takeSigns_45 (lv_at hl 0 rfl) ?_
          refine r_if_eq S 0 rfl dX3_takeSigns_47 (tgt := 82) (by decide) (fun _ => ?_) (fun c => absurd c (by decide))
          refine lv_iinc (v := (nI (64 - 8 * (k + 1)) + (-8))) (lv' := [(3, .int (nI (64 - 8 * (k + 1)) + (-8))), (5, .int 0), (4, .int ((((v).toUInt64 >>> (((nI (56 - 8 * k)) : Int32).toInt64.toUInt64 &&& Int64.toUInt64 63)).toInt64).toInt32 &&& 255)), (0, .ref (x 10)), (1, .long v)]) S.1 S.2.1 dX3_takeSigns_82 hl (k := 2) rfl (by rw [show 64 - 8 * (k + 1) = 56 - 8 * k from by omega]; rfl) (by decide) rfl (fun ls hl => ?_)
          refine lv_goto (tgt := 3) S.1 S.2.1 dX3_takeSigns_85 (by decide) ?_
          have e9 : n0 + cnt8 v k = n0 + cnt8 v (k + 1) := by rw [cnt8_no (by omega)]
          rw [e9] at hP hD
          exact ih g _ _ _ trivial (hP.sub [0, 1] rfl) (hD.sub [0, 1] (by decide) rfl) hS (lv_sub hl [0, 3, 4] rfl)
        · refine lv_iconst (v := 1) S.1 S.2.1 dX3_takeSigns_38 (by decide) ?_
          refine lv_goto (tgt := 43) S.1 S.2.1 dX3_takeSigns_39 (by decide) ?_
          refine lv_istore (lv' := [(5, .int 1), (4, .int ((((v).toUInt64 >>> (((nI (56 - 8 * k)) : Int32).toInt64.toUInt64 &&& Int64.toUInt64 63)).toInt64).toInt32 &&& 255)), (3, .int (nI (56 - 8 * k))), (0, .ref (x 10)), (1, .long v)]) S.1 S.2.1 dX3_takeSigns_43 hl (by decide) rfl (fun ls hl => ?_)
          refine lv_iload S.1 S.2.1 dX3_takeSigns_45 (lv_at hl 0 rfl) ?_
          refine r_if_eq S 1 rfl dX3_takeSigns_47 (tgt := 82) (by decide) (fun c => absurd c (by decide)) (fun _ => ?_)
          refine lv_aload_n S.1 S.2.1 dX3_takeSigns_50 rfl (lv_at hl 3 rfl) ?_
          refine r_get S hK hP 0 3 rfl rfl inX3 1 (by decide) kw_235 (v := .int (nI (n0 + cnt8 v k))) rfl dX3_takeSigns_51 ?_
          refine lv_sipush (v := 1500) S.1 S.2.1 dX3_takeSigns_54 (by decide) ?_
          refine r_icmp_ge S ((n0 + cnt8 v k : Nat) : Int) 1500 (nI_toInt (by omega)) rfl dX3_takeSigns_57 (tgt := 82) (by decide) (fun e_57_4 => ?_) (fun e_57_4 => ?_)
          · refine lv_iinc (v := (nI (64 - 8 * (k + 1)) + (-8))) (lv' := [(3, .int (nI (64 - 8 * (k + 1)) + (-8))), (5, .int 1), (4, .int ((((v).toUInt64 >>> (((nI (56 - 8 * k)) : Int32).toInt64.toUInt64 &&& Int64.toUInt64 63)).toInt64).toInt32 &&& 255)), (0, .ref (x 10)), (1, .long v)]) S.1 S.2.1 dX3_takeSigns_82 hl (k := 2) rfl (by rw [show 64 - 8 * (k + 1) = 56 - 8 * k from by omega]; rfl) (by decide) rfl (fun ls hl => ?_)
            refine lv_goto (tgt := 3) S.1 S.2.1 dX3_takeSigns_85 (by decide) ?_
            have e9 : n0 + cnt8 v k = n0 + cnt8 v (k + 1) := by rw [cnt8_no (by omega)]
            rw [e9] at hP hD
            exact ih g _ _ _ trivial (hP.sub [0, 1] rfl) (hD.sub [0, 1] (by decide) rfl) hS (lv_sub hl [0, 3, 4] rfl)
          · refine lv_aload_n S.1 S.2.1 dX3_takeSigns_60 rfl (lv_at hl 3 rfl) ?_
            refine r_get S hK hP 0 3 rfl rfl inX3 0 (by decide) kw_234 (v := .ref (x 11)) rfl dX3_takeSigns_61 ?_
            refine lv_aload_n S.1 S.2.1 dX3_takeSigns_64 rfl (lv_at hl 3 rfl) ?_
            refine r_get S hK hP 0 3 rfl rfl inX3 1 (by decide) kw_235 (v := .int (nI (n0 + cnt8 v k))) rfl dX3_takeSigns_65 ?_
            refine lv_iload S.1 S.2.1 dX3_takeSigns_68 (lv_at hl 1 rfl) ?_
            refine lv_i2c (v := ((((((v).toUInt64 >>> (((nI (56 - 8 * k)) : Int32).toInt64.toUInt64 &&& Int64.toUInt64 63)).toInt64).toInt32 &&& 255)).toUInt32 % 65536).toInt32) S.1 S.2.1 dX3_takeSigns_70 rfl ?_
            refine r_cast S hK hP hD hS 1 3 rfl rfl ((n0 + cnt8 v k)) rfl (by omega) (by decide) dX3_takeSigns_71 (fun H locs hP hD hS => ?_)
            have hP : va_P D vwCl [((x 10), .inr (3, [.ref (x 11), .int (nI (n0 + cnt8 v k)), .int 0, .int 0, .int 0, .long 0, .null, .int 0, .int 0, .int 0, .int 0, .ref (x 12), .int 0, .null])), ((x 11), .inl (cy 3, 1500, .inl (upd g ((n0 + cnt8 v k)) (vp_nar .char ((((((v).toUInt64 >>> (((nI (56 - 8 * k)) : Int32).toInt64.toUInt64 &&& Int64.toUInt64 63)).toInt64).toInt32 &&& 255)).toUInt32 % 65536).toInt32))))] H := hP
            have hD : va_D A [((x 10), .inr (3, [.ref (x 11), .int (nI (n0 + cnt8 v k)), .int 0, .int 0, .int 0, .long 0, .null, .int 0, .int 0, .int 0, .int 0, .ref (x 12), .int 0, .null])), ((x 11), .inl (cy 3, 1500, .inl (upd g ((n0 + cnt8 v k)) (vp_nar .char ((((((v).toUInt64 >>> (((nI (56 - 8 * k)) : Int32).toInt64.toUInt64 &&& Int64.toUInt64 63)).toInt64).toInt32 &&& 255)).toUInt32 % 65536).toInt32))))] := hD
            refine lv_aload_n S.1 S.2.1 dX3_takeSigns_72 rfl (lv_at hl 3 rfl) ?_
            refine lv_dup S.1 S.2.1 dX3_takeSigns_73 rfl ?_
            refine r_get S hK hP 0 3 rfl rfl inX3 1 (by decide) kw_235 (v := .int (nI (n0 + cnt8 v k))) rfl dX3_takeSigns_74 ?_
            refine lv_iconst (v := 1) S.1 S.2.1 dX3_takeSigns_77 (by decide) ?_
            refine r_iadd S dX3_takeSigns_78 (v := (nI ((n0 + cnt8 v k) + 1))) (nI_add ((n0 + cnt8 v k)) (1)) ?_
            refine r_put S hK hP hD hS 0 3 rfl rfl inX3 1 (by decide) tyX3 tyX3_ok nmX3 kw_235 (v := .int (nI ((n0 + cnt8 v k) + 1))) rfl rfl rfl (Nat.le_of_ble_eq_true rfl) dX3_takeSigns_79 (fun H locs hP hD hS => ?_)
            have hP : va_P D vwCl [((x 10), .inr (3, [.ref (x 11), .int (nI ((n0 + cnt8 v k) + 1)), .int 0, .int 0, .int 0, .long 0, .null, .int 0, .int 0, .int 0, .int 0, .ref (x 12), .int 0, .null])), ((x 11), .inl (cy 3, 1500, .inl (upd g ((n0 + cnt8 v k)) (vp_nar .char ((((((v).toUInt64 >>> (((nI (56 - 8 * k)) : Int32).toInt64.toUInt64 &&& Int64.toUInt64 63)).toInt64).toInt32 &&& 255)).toUInt32 % 65536).toInt32))))] H := hP
            have hD : va_D A [((x 10), .inr (3, [.ref (x 11), .int (nI ((n0 + cnt8 v k) + 1)), .int 0, .int 0, .int 0, .long 0, .null, .int 0, .int 0, .int 0, .int 0, .ref (x 12), .int 0, .null])), ((x 11), .inl (cy 3, 1500, .inl (upd g ((n0 + cnt8 v k)) (vp_nar .char ((((((v).toUInt64 >>> (((nI (56 - 8 * k)) : Int32).toInt64.toUInt64 &&& Int64.toUInt64 63)).toInt64).toInt32 &&& 255)).toUInt32 % 65536).toInt32))))] := hD
            refine lv_iinc (v := (nI (64 - 8 * (k + 1)) + (-8))) (lv' := [(3, .int (nI (64 - 8 * (k + 1)) + (-8))), (5, .int 1), (4, .int ((((v).toUInt64 >>> (((nI (56 - 8 * k)) : Int32).toInt64.toUInt64 &&& Int64.toUInt64 63)).toInt64).toInt32 &&& 255)), (0, .ref (x 10)), (1, .long v)]) S.1 S.2.1 dX3_takeSigns_82 hl (k := 2) rfl (by rw [show 64 - 8 * (k + 1) = 56 - 8 * k from by omega]; rfl) (by decide) rfl (fun ls hl => ?_)
            refine lv_goto (tgt := 3) S.1 S.2.1 dX3_takeSigns_85 (by decide) ?_
            have e9 : (n0 + cnt8 v k) + 1 = n0 + cnt8 v (k + 1) := by rw [cnt8_yes (by omega)]; omega
            rw [e9] at hP hD
            exact ih (upd g ((n0 + cnt8 v k)) (vp_nar .char ((((((v).toUInt64 >>> (((nI (56 - 8 * k)) : Int32).toInt64.toUInt64 &&& Int64.toUInt64 63)).toInt64).toInt32 &&& 255)).toUInt32 % 65536).toInt32)) _ _ _ trivial (hP.sub [0, 1] rfl) (hD.sub [0, 1] (by decide) rfl) hS (lv_sub hl [0, 3, 4] rfl)
set_option maxHeartbeats 4000000 in
set_option maxRecDepth 100000 in
theorem kX12_lay (l : Launch) (D : va_G) (cy : Nat → ClassId) (q : Nat → Nat) (v : Int64) (n0 : Nat) (f : Nat → Int32) (hn0 : n0 ≤ 1400) : CV l D cy yX12_lay cX12_lay 5 none 0 0 0 0 [.ref (q 0), .long v] [((q 0), .inr (11, (mO q 0 (nI (n0)) 0 0 0 0 0 0 (-1) 1 0 0 0 0 0 0 0 0 0))), ((q 1), .inl (cy 0, 1500, .inl f))] (fun (u : (Nat → Int32)) => True) (fun (u : (Nat → Int32)) => [((q 0), .inr (11, (mO q 0 (nI (n0 + cnt8 v 8)) 0 0 0 0 0 0 (-1) 1 0 0 0 0 0 0 0 0 0))), ((q 1), .inl (cy 0, 1500, .inl (u)))]) := by
  refine cv_go (by decide) (Nat.le_of_ble_eq_true rfl) (fun p e s m below meth c ls A hA S hr hlk hnm hP hK hD hl => ?_)
  have hS : va_S A s.heap s.heap [] := va_S.rf
  have hl : lv_has ls 5 [(0, .ref (q 0)), (1, .long v)] := hl
  refine lv_bipush (v := 56) S.1 S.2.1 dX12_lay_0 (by decide) ?_
  refine lv_istore_n (lv' := [(3, .int 56), (0, .ref (q 0)), (1, .long v)]) S.1 S.2.1 dX12_lay_2 rfl hl (by decide) rfl (fun ls hl => ?_)
  refine loopN (σ := (Nat → Int32)) 3 8 (fun k xs9 => [((q 0), .inr (11, (mO q 0 (nI (n0 + cnt8 v k)) 0 0 0 0 0 0 (-1) 1 0 0 0 0 0 0 0 0 0))), ((q 1), .inl (cy 0, 1500, .inl (xs9)))]) (fun k xs9 => [(3, .int (nI (64 - 8 * k) + (-8))), (0, .ref (q 0)), (1, .long v)]) (fun k xs9 => True) (fun xs9 hJ H locs ls hP hD hS hl => ?_) (fun k xs9 hk hJ H locs ls hP hD hS hl ih => ?_) f trivial (hP.sub [0, 1] rfl) (hD.sub [0, 1] (by decide) rfl) hS (lv_sub hl [0, 1, 2] rfl)
  · obtain ⟨g, rfl⟩ : ∃ z, z = xs9 := ⟨_, rfl⟩
    have hP : va_P D vwCl [((q 0), .inr (11, (mO q 0 (nI (n0 + cnt8 v 8)) 0 0 0 0 0 0 (-1) 1 0 0 0 0 0 0 0 0 0))), ((q 1), .inl (cy 0, 1500, .inl g))] H := hP
    have hD : va_D A [((q 0), .inr (11, (mO q 0 (nI (n0 + cnt8 v 8)) 0 0 0 0 0 0 (-1) 1 0 0 0 0 0 0 0 0 0))), ((q 1), .inl (cy 0, 1500, .inl g))] := hD
    have hl : lv_has ls 5 [(3, .int (-8)), (0, .ref (q 0)), (1, .long v)] := hl
    refine lv_iload_n S.1 S.2.1 dX12_lay_3 rfl (lv_at hl 0 rfl) ?_
    refine r_if_lt S (-8) rfl dX12_lay_4 (tgt := 75) (by decide) (fun _ => ?_) (fun c => absurd c (by decide))
    exact cv_ret (u := g) S hr hlk hK (hP.sub [0, 1] rfl) (hD.sub [0, 1] (by decide) rfl) hS (trivial) (by decide) (by decide) dX12_lay_75
  · obtain ⟨g, rfl⟩ : ∃ z, z = xs9 := ⟨_, rfl⟩
    have hP : va_P D vwCl [((q 0), .inr (11, (mO q 0 (nI (n0 + cnt8 v k)) 0 0 0 0 0 0 (-1) 1 0 0 0 0 0 0 0 0 0))), ((q 1), .inl (cy 0, 1500, .inl g))] H := hP
    have hD : va_D A [((q 0), .inr (11, (mO q 0 (nI (n0 + cnt8 v k)) 0 0 0 0 0 0 (-1) 1 0 0 0 0 0 0 0 0 0))), ((q 1), .inl (cy 0, 1500, .inl g))] := hD
    have hl : lv_has ls 5 [(3, .int (nI (64 - 8 * k) + (-8))), (0, .ref (q 0)), (1, .long v)] := hl
    have e8 : nI (64 - 8 * k) + (-8) = nI (56 - 8 * k) := by rw [m8 (by omega)]; congr 1; omega
    have hc8 := cnt8_le v k
    have hl : lv_has ls 5 [(3, .int (nI (56 - 8 * k))), (0, .ref (q 0)), (1, .long v)] := by rw [← e8]; exact hl
    refine lv_iload_n S.1 S.2.1 dX12_lay_3 rfl (lv_at hl 0 rfl) ?_
    refine r_if_lt S ((56 - 8 * k : Nat) : Int) (nI_toInt (by omega)) dX12_lay_4 (tgt := 75) (by decide) (fun c => absurd c (by omega)) (fun _ => ?_)
    refine lv_lload_n S.1 S.2.1 dX12_lay_7 rfl (lv_at hl 2 rfl) ?_
    refine lv_iload_n S.1 S.2.1 dX12_lay_8 rfl (lv_at hl 0 rfl) ?_
    refine r_lshr S dX12_lay_9 (v := (v >>> (((nI (56 - 8 * k)) : Int32).toInt64 &&& 63))) rfl ?_
    refine lv_l2i (v := ((v >>> (((nI (56 - 8 * k)) : Int32).toInt64 &&& 63))).toInt32) S.1 S.2.1 dX12_lay_10 rfl ?_
    refine lv_sipush (v := 255) S.1 S.2.1 dX12_lay_11 (by decide) ?_
    refine r_iand S dX12_lay_14 (v := (((v >>> (((nI (56 - 8 * k)) : Int32).toInt64 &&& 63))).toInt32 &&& 255)) rfl ?_
    refine lv_istore (lv' := [(4, .int (((v >>> (((nI (56 - 8 * k)) : Int32).toInt64 &&& 63))).toInt32 &&& 255)), (3, .int (nI (56 - 8 * k))), (0, .ref (q 0)), (1, .long v)]) S.1 S.2.1 dX12_lay_15 hl (by decide) rfl (fun ls hl => ?_)
    refine lv_iload S.1 S.2.1 dX12_lay_17 (lv_at hl 0 rfl) ?_
    refine lv_bipush (v := 10) S.1 S.2.1 dX12_lay_19 (by decide) ?_
    refine r_icmp_eq S (byC v (56 - 8 * k)).toInt 10 (congrArg Int32.toInt (by_eq v (by omega))) rfl dX12_lay_21 (tgt := 38) (by decide) (fun e_21_1 => ?_) (fun e_21_1 => ?_)
    · refine lv_aload_n S.1 S.2.1 dX12_lay_38 rfl (lv_at hl 2 rfl) ?_
      refine r_get S hK hP 0 11 rfl rfl inX12 2 (by decide) kw_1512 (v := .int (nI (n0 + cnt8 v k))) rfl dX12_lay_39 ?_
      refine lv_sipush (v := 1500) S.1 S.2.1 dX12_lay_42 (by decide) ?_
      refine r_icmp_ge S ((n0 + cnt8 v k : Nat) : Int) 1500 (nI_toInt (by omega)) rfl dX12_lay_45 (tgt := 69) (by decide) (fun e_45_2 => ?_) (fun e_45_2 => ?_)
      · refine lv_iinc (v := (nI (64 - 8 * (k + 1)) + (-8))) (lv' := [(3, .int (nI (64 - 8 * (k + 1)) + (-8))), (4, .int (((v >>> (((nI (56 - 8 * k)) : Int32).toInt64 &&& 63))).toInt32 &&& 255)), (0, .ref (q 0)), (1, .long v)]) S.1 S.2.1 dX12_lay_69 hl (k := 1) rfl (by rw [show 64 - 8 * (k + 1) = 56 - 8 * k from by omega]; rfl) (by decide) rfl (fun ls hl => ?_)
        refine lv_goto (tgt := 3) S.1 S.2.1 dX12_lay_72 (by decide) ?_
        have e9 : n0 + cnt8 v k = n0 + cnt8 v (k + 1) := by rw [cnt8_no (by omega)]
        rw [e9] at hP hD
        exact ih g _ _ _ trivial (hP.sub [0, 1] rfl) (hD.sub [0, 1] (by decide) rfl) hS (lv_sub hl [0, 2, 3] rfl)
      · refine lv_aload_n S.1 S.2.1 dX12_lay_48 rfl (lv_at hl 2 rfl) ?_
        refine r_get S hK hP 0 11 rfl rfl inX12 1 (by decide) kw_1511 (v := .ref (q 1)) rfl dX12_lay_49 ?_
        refine lv_aload_n S.1 S.2.1 dX12_lay_52 rfl (lv_at hl 2 rfl) ?_
        refine r_get S hK hP 0 11 rfl rfl inX12 2 (by decide) kw_1512 (v := .int (nI (n0 + cnt8 v k))) rfl dX12_lay_53 ?_
        refine lv_iload S.1 S.2.1 dX12_lay_56 (lv_at hl 0 rfl) ?_
        refine r_iast S hK hP hD hS 1 0 rfl rfl ((n0 + cnt8 v k)) rfl (by omega) (by decide) dX12_lay_58 (fun H locs hP hD hS => ?_)
        have hP : va_P D vwCl [((q 0), .inr (11, (mO q 0 (nI (n0 + cnt8 v k)) 0 0 0 0 0 0 (-1) 1 0 0 0 0 0 0 0 0 0))), ((q 1), .inl (cy 0, 1500, .inl (upd g ((n0 + cnt8 v k)) (((v >>> (((nI (56 - 8 * k)) : Int32).toInt64 &&& 63))).toInt32 &&& 255))))] H := hP
        have hD : va_D A [((q 0), .inr (11, (mO q 0 (nI (n0 + cnt8 v k)) 0 0 0 0 0 0 (-1) 1 0 0 0 0 0 0 0 0 0))), ((q 1), .inl (cy 0, 1500, .inl (upd g ((n0 + cnt8 v k)) (((v >>> (((nI (56 - 8 * k)) : Int32).toInt64 &&& 63))).toInt32 &&& 255))))] := hD
        refine lv_aload_n S.1 S.2.1 dX12_lay_59 rfl (lv_at hl 2 rfl) ?_
        refine lv_dup S.1 S.2.1 dX12_lay_60 rfl ?_
        refine r_get S hK hP 0 11 rfl rfl inX12 2 (by decide) kw_1512 (v := .int (nI (n0 + cnt8 v k))) rfl dX12_lay_61 ?_
        refine lv_iconst (v := 1) S.1 S.2.1 dX12_lay_64 (by decide) ?_
        refine r_iadd S dX12_lay_65 (v := (nI ((n0 + cnt8 v k) + 1))) (nI_add ((n0 + cnt8 v k)) (1)) ?_
        refine r_put S hK hP hD hS 0 11 rfl rfl inX12 2 (by decide) tyX12 tyX12_ok nmX12 kw_1512 (v := .int (nI ((n0 + cnt8 v k) + 1))) rfl rfl rfl (Nat.le_of_ble_eq_true rfl) dX12_lay_66 (fun H locs hP hD hS => ?_)
        have hP : va_P D vwCl [((q 0), .inr (11, (mO q 0 (nI ((n0 + cnt8 v k) + 1)) 0 0 0 0 0 0 (-1) 1 0 0 0 0 0 0 0 0 0))), ((q 1), .inl (cy 0, 1500, .inl (upd g ((n0 + cnt8 v k)) (((v >>> (((nI (56 - 8 * k)) : Int32).toInt64 &&& 63))).toInt32 &&& 255))))] H := hP
        have hD : va_D A [((q 0), .inr (11, (mO q 0 (nI ((n0 + cnt8 v k) + 1)) 0 0 0 0 0 0 (-1) 1 0 0 0 0 0 0 0 0 0))), ((q 1), .inl (cy 0, 1500, .inl (upd g ((n0 + cnt8 v k)) (((v >>> (((nI (56 - 8 * k)) : Int32).toInt64 &&& 63))).toInt32 &&& 255))))] := hD
        refine lv_iinc (v := (nI (64 - 8 * (k + 1)) + (-8))) (lv' := [(3, .int (nI (64 - 8 * (k + 1)) + (-8))), (4, .int (((v >>> (((nI (56 - 8 * k)) : Int32).toInt64 &&& 63))).toInt32 &&& 255)), (0, .ref (q 0)), (1, .long v)]) S.1 S.2.1 dX12_lay_69 hl (k := 1) rfl (by rw [show 64 - 8 * (k + 1) = 56 - 8 * k from by omega]; rfl) (by decide) rfl (fun ls hl => ?_)
        refine lv_goto (tgt := 3) S.1 S.2.1 dX12_lay_72 (by decide) ?_
        have e9 : (n0 + cnt8 v k) + 1 = n0 + cnt8 v (k + 1) := by rw [cnt8_yes (by omega)]; omega
        rw [e9] at hP hD
        exact ih (upd g ((n0 + cnt8 v k)) (((v >>> (((nI (56 - 8 * k)) : Int32).toInt64 &&& 63))).toInt32 &&& 255)) _ _ _ trivial (hP.sub [0, 1] rfl) (hD.sub [0, 1] (by decide) rfl) hS (lv_sub hl [0, 2, 3] rfl)
    · refine lv_iload S.1 S.2.1 dX12_lay_24 (lv_at hl 0 rfl) ?_
      refine lv_bipush (v := 32) S.1 S.2.1 dX12_lay_26 (by decide) ?_
      refine r_icmp_lt S (byC v (56 - 8 * k)).toInt 32 (congrArg Int32.toInt (by_eq v (by omega))) rfl dX12_lay_28 (tgt := 69) (by decide) (fun e_28_2 => ?_) (fun e_28_2 => ?_)
      · refine lv_iinc (v := (nI (64 - 8 * (k + 1)) + (-8))) (lv' := [(3, .int (nI (64 - 8 * (k + 1)) + (-8))), (4, .int (((v >>> (((nI (56 - 8 * k)) : Int32).toInt64 &&& 63))).toInt32 &&& 255)), (0, .ref (q 0)), (1, .long v)]) S.1 S.2.1 dX12_lay_69 hl (k := 1) rfl (by rw [show 64 - 8 * (k + 1) = 56 - 8 * k from by omega]; rfl) (by decide) rfl (fun ls hl => ?_)
        refine lv_goto (tgt := 3) S.1 S.2.1 dX12_lay_72 (by decide) ?_
        have e9 : n0 + cnt8 v k = n0 + cnt8 v (k + 1) := by rw [cnt8_no (by omega)]
        rw [e9] at hP hD
        exact ih g _ _ _ trivial (hP.sub [0, 1] rfl) (hD.sub [0, 1] (by decide) rfl) hS (lv_sub hl [0, 2, 3] rfl)
      · refine lv_iload S.1 S.2.1 dX12_lay_31 (lv_at hl 0 rfl) ?_
        refine lv_bipush (v := 126) S.1 S.2.1 dX12_lay_33 (by decide) ?_
        refine r_icmp_gt S (byC v (56 - 8 * k)).toInt 126 (congrArg Int32.toInt (by_eq v (by omega))) rfl dX12_lay_35 (tgt := 69) (by decide) (fun e_35_3 => ?_) (fun e_35_3 => ?_)
        · refine lv_iinc (v := (nI (64 - 8 * (k + 1)) + (-8))) (lv' := [(3, .int (nI (64 - 8 * (k + 1)) + (-8))), (4, .int (((v >>> (((nI (56 - 8 * k)) : Int32).toInt64 &&& 63))).toInt32 &&& 255)), (0, .ref (q 0)), (1, .long v)]) S.1 S.2.1 dX12_lay_69 hl (k := 1) rfl (by rw [show 64 - 8 * (k + 1) = 56 - 8 * k from by omega]; rfl) (by decide) rfl (fun ls hl => ?_)
          refine lv_goto (tgt := 3) S.1 S.2.1 dX12_lay_72 (by decide) ?_
          have e9 : n0 + cnt8 v k = n0 + cnt8 v (k + 1) := by rw [cnt8_no (by omega)]
          rw [e9] at hP hD
          exact ih g _ _ _ trivial (hP.sub [0, 1] rfl) (hD.sub [0, 1] (by decide) rfl) hS (lv_sub hl [0, 2, 3] rfl)
        · refine lv_aload_n S.1 S.2.1 dX12_lay_38 rfl (lv_at hl 2 rfl) ?_
          refine r_get S hK hP 0 11 rfl rfl inX12 2 (by decide) kw_1512 (v := .int (nI (n0 + cnt8 v k))) rfl dX12_lay_39 ?_
          refine lv_sipush (v := 1500) S.1 S.2.1 dX12_lay_42 (by decide) ?_
          refine r_icmp_ge S ((n0 + cnt8 v k : Nat) : Int) 1500 (nI_toInt (by omega)) rfl dX12_lay_45 (tgt := 69) (by decide) (fun e_45_4 => ?_) (fun e_45_4 => ?_)
          · refine lv_iinc (v := (nI (64 - 8 * (k + 1)) + (-8))) (lv' := [(3, .int (nI (64 - 8 * (k + 1)) + (-8))), (4, .int (((v >>> (((nI (56 - 8 * k)) : Int32).toInt64 &&& 63))).toInt32 &&& 255)), (0, .ref (q 0)), (1, .long v)]) S.1 S.2.1 dX12_lay_69 hl (k := 1) rfl (by rw [show 64 - 8 * (k + 1) = 56 - 8 * k from by omega]; rfl) (by decide) rfl (fun ls hl => ?_)
            refine lv_goto (tgt := 3) S.1 S.2.1 dX12_lay_72 (by decide) ?_
            have e9 : n0 + cnt8 v k = n0 + cnt8 v (k + 1) := by rw [cnt8_no (by omega)]
            rw [e9] at hP hD
            exact ih g _ _ _ trivial (hP.sub [0, 1] rfl) (hD.sub [0, 1] (by decide) rfl) hS (lv_sub hl [0, 2, 3] rfl)
          · refine lv_aload_n S.1 S.2.1 dX12_lay_48 rfl (lv_at hl 2 rfl) ?_
            refine r_get S hK hP 0 11 rfl rfl inX12 1 (by decide) kw_1511 (v := .ref (q 1)) rfl dX12_lay_49 ?_
            refine lv_aload_n S.1 S.2.1 dX12_lay_52 rfl (lv_at hl 2 rfl) ?_
            refine r_get S hK hP 0 11 rfl rfl inX12 2 (by decide) kw_1512 (v := .int (nI (n0 + cnt8 v k))) rfl dX12_lay_53 ?_
            refine lv_iload S.1 S.2.1 dX12_lay_56 (lv_at hl 0 rfl) ?_
            refine r_iast S hK hP hD hS 1 0 rfl rfl ((n0 + cnt8 v k)) rfl (by omega) (by decide) dX12_lay_58 (fun H locs hP hD hS => ?_)
            have hP : va_P D vwCl [((q 0), .inr (11, (mO q 0 (nI (n0 + cnt8 v k)) 0 0 0 0 0 0 (-1) 1 0 0 0 0 0 0 0 0 0))), ((q 1), .inl (cy 0, 1500, .inl (upd g ((n0 + cnt8 v k)) (((v >>> (((nI (56 - 8 * k)) : Int32).toInt64 &&& 63))).toInt32 &&& 255))))] H := hP
            have hD : va_D A [((q 0), .inr (11, (mO q 0 (nI (n0 + cnt8 v k)) 0 0 0 0 0 0 (-1) 1 0 0 0 0 0 0 0 0 0))), ((q 1), .inl (cy 0, 1500, .inl (upd g ((n0 + cnt8 v k)) (((v >>> (((nI (56 - 8 * k)) : Int32).toInt64 &&& 63))).toInt32 &&& 255))))] := hD
            refine lv_aload_n S.1 S.2.1 dX12_lay_59 rfl (lv_at hl 2 rfl) ?_
            refine lv_dup S.1 S.2.1 dX12_lay_60 rfl ?_
            refine r_get S hK hP 0 11 rfl rfl inX12 2 (by decide) kw_1512 (v := .int (nI (n0 + cnt8 v k))) rfl dX12_lay_61 ?_
            refine lv_iconst (v := 1) S.1 S.2.1 dX12_lay_64 (by decide) ?_
            refine r_iadd S dX12_lay_65 (v := (nI ((n0 + cnt8 v k) + 1))) (nI_add ((n0 + cnt8 v k)) (1)) ?_
            refine r_put S hK hP hD hS 0 11 rfl rfl inX12 2 (by decide) tyX12 tyX12_ok nmX12 kw_1512 (v := .int (nI ((n0 + cnt8 v k) + 1))) rfl rfl rfl (Nat.le_of_ble_eq_true rfl) dX12_lay_66 (fun H locs hP hD hS => ?_)
            have hP : va_P D vwCl [((q 0), .inr (11, (mO q 0 (nI ((n0 + cnt8 v k) + 1)) 0 0 0 0 0 0 (-1) 1 0 0 0 0 0 0 0 0 0))), ((q 1), .inl (cy 0, 1500, .inl (upd g ((n0 + cnt8 v k)) (((v >>> (((nI (56 - 8 * k)) : Int32).toInt64 &&& 63))).toInt32 &&& 255))))] H := hP
            have hD : va_D A [((q 0), .inr (11, (mO q 0 (nI ((n0 + cnt8 v k) + 1)) 0 0 0 0 0 0 (-1) 1 0 0 0 0 0 0 0 0 0))), ((q 1), .inl (cy 0, 1500, .inl (upd g ((n0 + cnt8 v k)) (((v >>> (((nI (56 - 8 * k)) : Int32).toInt64 &&& 63))).toInt32 &&& 255))))] := hD
            refine lv_iinc (v := (nI (64 - 8 * (k + 1)) + (-8))) (lv' := [(3, .int (nI (64 - 8 * (k + 1)) + (-8))), (4, .int (((v >>> (((nI (56 - 8 * k)) : Int32).toInt64 &&& 63))).toInt32 &&& 255)), (0, .ref (q 0)), (1, .long v)]) S.1 S.2.1 dX12_lay_69 hl (k := 1) rfl (by rw [show 64 - 8 * (k + 1) = 56 - 8 * k from by omega]; rfl) (by decide) rfl (fun ls hl => ?_)
            refine lv_goto (tgt := 3) S.1 S.2.1 dX12_lay_72 (by decide) ?_
            have e9 : (n0 + cnt8 v k) + 1 = n0 + cnt8 v (k + 1) := by rw [cnt8_yes (by omega)]; omega
            rw [e9] at hP hD
            exact ih (upd g ((n0 + cnt8 v k)) (((v >>> (((nI (56 - 8 * k)) : Int32).toInt64 &&& 63))).toInt32 &&& 255)) _ _ _ trivial (hP.sub [0, 1] rfl) (hD.sub [0, 1] (by decide) rfl) hS (lv_sub hl [0, 2, 3] rfl)
set_option maxHeartbeats 4000000 in
set_option maxRecDepth 100000 in
theorem kX11_feed (l : Launch) (D : va_G) (cy : Nat → ClassId) (x : Nat → Nat) (p0 : Int64) (p1 : Int64) (p2 : Int64) : CI l D cy yX11_feed cX11_feed 7 (some .int) 1 25 0 0 [.ref (x 0), .long p0, .long p1, .long p2] [((x 0), .inr (10, [.int 0, .int (-1), .ref (x 1), .ref (x 9), .int 0, .ref (x 10), .ref (x 13), .ref (x 16), .ref (x 29), .int 0, .int 0, .ref (x 30), .int 0, .ref (x 31), .ref (x 42), .int 0, .int 0, .null, .ref (x 43)])), ((x 10), .inr (3, [.ref (x 11), .int 0, .int 0, .int 0, .int 0, .long 0, .null, .int 0, .int 0, .int 0, .int 0, .ref (x 12), .int 0, .null])), ((x 11), .inl (cy 3, 1500, .inl (fun _ => 0)))] (fun (v : Int32) (u : Unit) => v = (nI (((0 + cnt8 p0 8) + cnt8 p1 8) + cnt8 p2 8))) (fun (u : Unit) => []) := by
  refine ci_go (by decide) (Nat.le_of_ble_eq_true rfl) (fun p e s m below meth c ls A hA S hr hlk hnm hP hK hD hl => ?_)
  have hS : va_S A s.heap s.heap [] := va_S.rf
  have hl : lv_has ls 7 [(0, .ref (x 0)), (1, .long p0), (3, .long p1), (5, .long p2)] := hl
  have hc_0 := cnt8_le p0 8
  have hc_1 := cnt8_le p1 8
  have hc_2 := cnt8_le p2 8
  refine lv_aload_n S.1 S.2.1 dX11_feed_0 rfl (lv_at hl 0 rfl) ?_
  refine r_get S hK hP 0 10 rfl rfl inX11 5 (by decide) kw_473 (v := .ref (x 10)) rfl dX11_feed_1 ?_
  refine lv_lload_n S.1 S.2.1 dX11_feed_4 rfl (lv_at hl 1 rfl) ?_
  refine call_v (wr := [((x 0), .inr (10, [.int 0, .int (-1), .ref (x 1), .ref (x 9), .int 0, .ref (x 10), .ref (x 13), .ref (x 16), .ref (x 29), .int 0, .int 0, .ref (x 30), .int 0, .ref (x 31), .ref (x 42), .int 0, .int 0, .null, .ref (x 43)]))]) (runV_C (wc := [((x 10), .inr (3, [.ref (x 11), .int (nI (0)), .int 0, .int 0, .int 0, .long 0, .null, .int 0, .int 0, .int 0, .int 0, .ref (x 12), .int 0, .null])), ((x 11), .inl (cy 3, 1500, .inl (fun _ => 0)))]) (As := [.long p0]) (rest := []) S (kX3_takeSigns l D cy x p0 0 (fun _ => 0) (by omega)) hK hP hD [1, 2] (by decide) rfl 0 3 rfl rfl kw_659 kw_660 kw_661 kw_147 kw_662 okX3_takeSigns rfl (by decide) hl.1 rfl (Nat.le_of_ble_eq_true rfl) dX11_feed_5 (by decide)) hP hD hS hA [1, 2] [0] rfl rfl (by decide) (by decide) (fun u5 H locs w5 hP hD hS => ?_)
  obtain ⟨g_5, rfl⟩ : ∃ z, z = u5 := ⟨_, rfl⟩
  have hP : va_P D vwCl [((x 0), .inr (10, [.int 0, .int (-1), .ref (x 1), .ref (x 9), .int 0, .ref (x 10), .ref (x 13), .ref (x 16), .ref (x 29), .int 0, .int 0, .ref (x 30), .int 0, .ref (x 31), .ref (x 42), .int 0, .int 0, .null, .ref (x 43)])), ((x 10), .inr (3, [.ref (x 11), .int (nI (0 + cnt8 p0 8)), .int 0, .int 0, .int 0, .long 0, .null, .int 0, .int 0, .int 0, .int 0, .ref (x 12), .int 0, .null])), ((x 11), .inl (cy 3, 1500, .inl g_5))] H := hP
  have hD : va_D A [((x 0), .inr (10, [.int 0, .int (-1), .ref (x 1), .ref (x 9), .int 0, .ref (x 10), .ref (x 13), .ref (x 16), .ref (x 29), .int 0, .int 0, .ref (x 30), .int 0, .ref (x 31), .ref (x 42), .int 0, .int 0, .null, .ref (x 43)])), ((x 10), .inr (3, [.ref (x 11), .int (nI (0 + cnt8 p0 8)), .int 0, .int 0, .int 0, .long 0, .null, .int 0, .int 0, .int 0, .int 0, .ref (x 12), .int 0, .null])), ((x 11), .inl (cy 3, 1500, .inl g_5))] := hD
  refine lv_aload_n S.1 S.2.1 dX11_feed_8 rfl (lv_at hl 0 rfl) ?_
  refine r_get S hK hP 0 10 rfl rfl inX11 5 (by decide) kw_473 (v := .ref (x 10)) rfl dX11_feed_9 ?_
  refine lv_lload_n S.1 S.2.1 dX11_feed_12 rfl (lv_at hl 2 rfl) ?_
  refine call_v (wr := [((x 0), .inr (10, [.int 0, .int (-1), .ref (x 1), .ref (x 9), .int 0, .ref (x 10), .ref (x 13), .ref (x 16), .ref (x 29), .int 0, .int 0, .ref (x 30), .int 0, .ref (x 31), .ref (x 42), .int 0, .int 0, .null, .ref (x 43)]))]) (runV_C (wc := [((x 10), .inr (3, [.ref (x 11), .int (nI ((0 + cnt8 p0 8))), .int 0, .int 0, .int 0, .long 0, .null, .int 0, .int 0, .int 0, .int 0, .ref (x 12), .int 0, .null])), ((x 11), .inl (cy 3, 1500, .inl g_5))]) (As := [.long p1]) (rest := []) S (kX3_takeSigns l D cy x p1 (0 + cnt8 p0 8) g_5 (by omega)) hK hP hD [1, 2] (by decide) rfl 0 3 rfl rfl kw_659 kw_660 kw_661 kw_147 kw_662 okX3_takeSigns rfl (by decide) hl.1 rfl (Nat.le_of_ble_eq_true rfl) dX11_feed_13 (by decide)) hP hD hS hA [1, 2] [0] rfl rfl (by decide) (by decide) (fun u13 H locs w13 hP hD hS => ?_)
  obtain ⟨g_13, rfl⟩ : ∃ z, z = u13 := ⟨_, rfl⟩
  have hP : va_P D vwCl [((x 0), .inr (10, [.int 0, .int (-1), .ref (x 1), .ref (x 9), .int 0, .ref (x 10), .ref (x 13), .ref (x 16), .ref (x 29), .int 0, .int 0, .ref (x 30), .int 0, .ref (x 31), .ref (x 42), .int 0, .int 0, .null, .ref (x 43)])), ((x 10), .inr (3, [.ref (x 11), .int (nI ((0 + cnt8 p0 8) + cnt8 p1 8)), .int 0, .int 0, .int 0, .long 0, .null, .int 0, .int 0, .int 0, .int 0, .ref (x 12), .int 0, .null])), ((x 11), .inl (cy 3, 1500, .inl g_13))] H := hP
  have hD : va_D A [((x 0), .inr (10, [.int 0, .int (-1), .ref (x 1), .ref (x 9), .int 0, .ref (x 10), .ref (x 13), .ref (x 16), .ref (x 29), .int 0, .int 0, .ref (x 30), .int 0, .ref (x 31), .ref (x 42), .int 0, .int 0, .null, .ref (x 43)])), ((x 10), .inr (3, [.ref (x 11), .int (nI ((0 + cnt8 p0 8) + cnt8 p1 8)), .int 0, .int 0, .int 0, .long 0, .null, .int 0, .int 0, .int 0, .int 0, .ref (x 12), .int 0, .null])), ((x 11), .inl (cy 3, 1500, .inl g_13))] := hD
  refine lv_aload_n S.1 S.2.1 dX11_feed_16 rfl (lv_at hl 0 rfl) ?_
  refine r_get S hK hP 0 10 rfl rfl inX11 5 (by decide) kw_473 (v := .ref (x 10)) rfl dX11_feed_17 ?_
  refine lv_lload S.1 S.2.1 dX11_feed_20 (lv_at hl 3 rfl) ?_
  refine call_v (wr := [((x 0), .inr (10, [.int 0, .int (-1), .ref (x 1), .ref (x 9), .int 0, .ref (x 10), .ref (x 13), .ref (x 16), .ref (x 29), .int 0, .int 0, .ref (x 30), .int 0, .ref (x 31), .ref (x 42), .int 0, .int 0, .null, .ref (x 43)]))]) (runV_C (wc := [((x 10), .inr (3, [.ref (x 11), .int (nI (((0 + cnt8 p0 8) + cnt8 p1 8))), .int 0, .int 0, .int 0, .long 0, .null, .int 0, .int 0, .int 0, .int 0, .ref (x 12), .int 0, .null])), ((x 11), .inl (cy 3, 1500, .inl g_13))]) (As := [.long p2]) (rest := []) S (kX3_takeSigns l D cy x p2 ((0 + cnt8 p0 8) + cnt8 p1 8) g_13 (by omega)) hK hP hD [1, 2] (by decide) rfl 0 3 rfl rfl kw_659 kw_660 kw_661 kw_147 kw_662 okX3_takeSigns rfl (by decide) hl.1 rfl (Nat.le_of_ble_eq_true rfl) dX11_feed_22 (by decide)) hP hD hS hA [1, 2] [0] rfl rfl (by decide) (by decide) (fun u22 H locs w22 hP hD hS => ?_)
  obtain ⟨g_22, rfl⟩ : ∃ z, z = u22 := ⟨_, rfl⟩
  have hP : va_P D vwCl [((x 0), .inr (10, [.int 0, .int (-1), .ref (x 1), .ref (x 9), .int 0, .ref (x 10), .ref (x 13), .ref (x 16), .ref (x 29), .int 0, .int 0, .ref (x 30), .int 0, .ref (x 31), .ref (x 42), .int 0, .int 0, .null, .ref (x 43)])), ((x 10), .inr (3, [.ref (x 11), .int (nI (((0 + cnt8 p0 8) + cnt8 p1 8) + cnt8 p2 8)), .int 0, .int 0, .int 0, .long 0, .null, .int 0, .int 0, .int 0, .int 0, .ref (x 12), .int 0, .null])), ((x 11), .inl (cy 3, 1500, .inl g_22))] H := hP
  have hD : va_D A [((x 0), .inr (10, [.int 0, .int (-1), .ref (x 1), .ref (x 9), .int 0, .ref (x 10), .ref (x 13), .ref (x 16), .ref (x 29), .int 0, .int 0, .ref (x 30), .int 0, .ref (x 31), .ref (x 42), .int 0, .int 0, .null, .ref (x 43)])), ((x 10), .inr (3, [.ref (x 11), .int (nI (((0 + cnt8 p0 8) + cnt8 p1 8) + cnt8 p2 8)), .int 0, .int 0, .int 0, .long 0, .null, .int 0, .int 0, .int 0, .int 0, .ref (x 12), .int 0, .null])), ((x 11), .inl (cy 3, 1500, .inl g_22))] := hD
  refine lv_aload_n S.1 S.2.1 dX11_feed_25 rfl (lv_at hl 0 rfl) ?_
  refine r_get S hK hP 0 10 rfl rfl inX11 5 (by decide) kw_473 (v := .ref (x 10)) rfl dX11_feed_26 ?_
  refine r_get S hK hP 1 3 rfl rfl inX3 1 (by decide) kw_236 (v := .int (nI (((0 + cnt8 p0 8) + cnt8 p1 8) + cnt8 p2 8))) rfl dX11_feed_29 ?_
  exact ci_ret (u := ()) S hr hlk rfl hK (hP.sub [] rfl) (hD.sub [] (by decide) rfl) hS (rfl) (by decide) (by decide) dX11_feed_32
set_option maxHeartbeats 4000000 in
set_option maxRecDepth 100000 in
theorem kX12_feed (l : Launch) (D : va_G) (cy : Nat → ClassId) (q : Nat → Nat) (p0 : Int64) (p1 : Int64) (p2 : Int64) : CI l D cy yX12_feed cX12_feed 7 (some .int) 1 24 0 0 [.ref (q 0), .long p0, .long p1, .long p2] [((q 0), .inr (11, (mO q 0 0 0 0 0 0 0 0 (-1) 1 0 0 0 0 0 0 0 0 0))), ((q 1), .inl (cy 0, 1500, .inl (fun _ => 0)))] (fun (v : Int32) (u : Unit) => v = (nI (((0 + cnt8 p0 8) + cnt8 p1 8) + cnt8 p2 8))) (fun (u : Unit) => []) := by
  refine ci_go (by decide) (Nat.le_of_ble_eq_true rfl) (fun p e s m below meth c ls A hA S hr hlk hnm hP hK hD hl => ?_)
  have hS : va_S A s.heap s.heap [] := va_S.rf
  have hl : lv_has ls 7 [(0, .ref (q 0)), (1, .long p0), (3, .long p1), (5, .long p2)] := hl
  have hc_0 := cnt8_le p0 8
  have hc_1 := cnt8_le p1 8
  have hc_2 := cnt8_le p2 8
  refine lv_aload_n S.1 S.2.1 dX12_feed_0 rfl (lv_at hl 0 rfl) ?_
  refine lv_iconst (v := 0) S.1 S.2.1 dX12_feed_1 (by decide) ?_
  refine r_put S hK hP hD hS 0 11 rfl rfl inX12 0 (by decide) tyX12 tyX12_ok nmX12 kw_1510 (v := .int 0) rfl rfl rfl (Nat.le_of_ble_eq_true rfl) dX12_feed_2 (fun H locs hP hD hS => ?_)
  have hP : va_P D vwCl [((q 0), .inr (11, (mO q 0 0 0 0 0 0 0 0 (-1) 1 0 0 0 0 0 0 0 0 0))), ((q 1), .inl (cy 0, 1500, .inl (fun _ => 0)))] H := hP
  have hD : va_D A [((q 0), .inr (11, (mO q 0 0 0 0 0 0 0 0 (-1) 1 0 0 0 0 0 0 0 0 0))), ((q 1), .inl (cy 0, 1500, .inl (fun _ => 0)))] := hD
  refine lv_aload_n S.1 S.2.1 dX12_feed_5 rfl (lv_at hl 0 rfl) ?_
  refine lv_lload_n S.1 S.2.1 dX12_feed_6 rfl (lv_at hl 1 rfl) ?_
  refine call_v (wr := []) (runV_C (wc := [((q 0), .inr (11, (mO q 0 (nI (0)) 0 0 0 0 0 0 (-1) 1 0 0 0 0 0 0 0 0 0))), ((q 1), .inl (cy 0, 1500, .inl (fun _ => 0)))]) (As := [.long p0]) (rest := []) S (kX12_lay l D cy q p0 0 (fun _ => 0) (by omega)) hK hP hD [0, 1] (by decide) rfl 0 11 rfl rfl kw_1470 kw_1472 kw_63 kw_152 kw_1474 okX12_lay rfl (by decide) hl.1 rfl (Nat.le_of_ble_eq_true rfl) dX12_feed_7 (by decide)) hP hD hS hA [0, 1] [] rfl rfl (by decide) (by decide) (fun u7 H locs w7 hP hD hS => ?_)
  obtain ⟨g_7, rfl⟩ : ∃ z, z = u7 := ⟨_, rfl⟩
  have hP : va_P D vwCl [((q 0), .inr (11, (mO q 0 (nI (0 + cnt8 p0 8)) 0 0 0 0 0 0 (-1) 1 0 0 0 0 0 0 0 0 0))), ((q 1), .inl (cy 0, 1500, .inl g_7))] H := hP
  have hD : va_D A [((q 0), .inr (11, (mO q 0 (nI (0 + cnt8 p0 8)) 0 0 0 0 0 0 (-1) 1 0 0 0 0 0 0 0 0 0))), ((q 1), .inl (cy 0, 1500, .inl g_7))] := hD
  refine lv_aload_n S.1 S.2.1 dX12_feed_10 rfl (lv_at hl 0 rfl) ?_
  refine lv_lload_n S.1 S.2.1 dX12_feed_11 rfl (lv_at hl 2 rfl) ?_
  refine call_v (wr := []) (runV_C (wc := [((q 0), .inr (11, (mO q 0 (nI ((0 + cnt8 p0 8))) 0 0 0 0 0 0 (-1) 1 0 0 0 0 0 0 0 0 0))), ((q 1), .inl (cy 0, 1500, .inl g_7))]) (As := [.long p1]) (rest := []) S (kX12_lay l D cy q p1 (0 + cnt8 p0 8) g_7 (by omega)) hK hP hD [0, 1] (by decide) rfl 0 11 rfl rfl kw_1470 kw_1472 kw_63 kw_152 kw_1474 okX12_lay rfl (by decide) hl.1 rfl (Nat.le_of_ble_eq_true rfl) dX12_feed_12 (by decide)) hP hD hS hA [0, 1] [] rfl rfl (by decide) (by decide) (fun u12 H locs w12 hP hD hS => ?_)
  obtain ⟨g_12, rfl⟩ : ∃ z, z = u12 := ⟨_, rfl⟩
  have hP : va_P D vwCl [((q 0), .inr (11, (mO q 0 (nI ((0 + cnt8 p0 8) + cnt8 p1 8)) 0 0 0 0 0 0 (-1) 1 0 0 0 0 0 0 0 0 0))), ((q 1), .inl (cy 0, 1500, .inl g_12))] H := hP
  have hD : va_D A [((q 0), .inr (11, (mO q 0 (nI ((0 + cnt8 p0 8) + cnt8 p1 8)) 0 0 0 0 0 0 (-1) 1 0 0 0 0 0 0 0 0 0))), ((q 1), .inl (cy 0, 1500, .inl g_12))] := hD
  refine lv_aload_n S.1 S.2.1 dX12_feed_15 rfl (lv_at hl 0 rfl) ?_
  refine lv_lload S.1 S.2.1 dX12_feed_16 (lv_at hl 3 rfl) ?_
  refine call_v (wr := []) (runV_C (wc := [((q 0), .inr (11, (mO q 0 (nI (((0 + cnt8 p0 8) + cnt8 p1 8))) 0 0 0 0 0 0 (-1) 1 0 0 0 0 0 0 0 0 0))), ((q 1), .inl (cy 0, 1500, .inl g_12))]) (As := [.long p2]) (rest := []) S (kX12_lay l D cy q p2 ((0 + cnt8 p0 8) + cnt8 p1 8) g_12 (by omega)) hK hP hD [0, 1] (by decide) rfl 0 11 rfl rfl kw_1470 kw_1472 kw_63 kw_152 kw_1474 okX12_lay rfl (by decide) hl.1 rfl (Nat.le_of_ble_eq_true rfl) dX12_feed_18 (by decide)) hP hD hS hA [0, 1] [] rfl rfl (by decide) (by decide) (fun u18 H locs w18 hP hD hS => ?_)
  obtain ⟨g_18, rfl⟩ : ∃ z, z = u18 := ⟨_, rfl⟩
  have hP : va_P D vwCl [((q 0), .inr (11, (mO q 0 (nI (((0 + cnt8 p0 8) + cnt8 p1 8) + cnt8 p2 8)) 0 0 0 0 0 0 (-1) 1 0 0 0 0 0 0 0 0 0))), ((q 1), .inl (cy 0, 1500, .inl g_18))] H := hP
  have hD : va_D A [((q 0), .inr (11, (mO q 0 (nI (((0 + cnt8 p0 8) + cnt8 p1 8) + cnt8 p2 8)) 0 0 0 0 0 0 (-1) 1 0 0 0 0 0 0 0 0 0))), ((q 1), .inl (cy 0, 1500, .inl g_18))] := hD
  refine lv_aload_n S.1 S.2.1 dX12_feed_21 rfl (lv_at hl 0 rfl) ?_
  refine r_get S hK hP 0 11 rfl rfl inX12 2 (by decide) kw_1512 (v := .int (nI (((0 + cnt8 p0 8) + cnt8 p1 8) + cnt8 p2 8))) rfl dX12_feed_22 ?_
  exact ci_ret (u := ()) S hr hlk rfl hK (hP.sub [] rfl) (hD.sub [] (by decide) rfl) hS (rfl) (by decide) (by decide) dX12_feed_25
set_option maxHeartbeats 4000000 in
set_option maxRecDepth 100000 in
theorem kJ7_copyOf_59c91 (l : Launch) (D : va_G) (cy : Nat → ClassId) (x : Nat → Nat) : CQ l D cy yJ7_copyOf_59c91 cJ7_copyOf_59c91 3 (some (.array .int)) 1 60 1 0 [.ref (x 12), .int 0] [((x 12), .inl (cy 0, 1500, .inl (fun _ => 0)))] (fun (v : Option Nat) (u : (Nat) × (Nat → Int32)) => v = (some (u.1))) (fun (u : (Nat) × (Nat → Int32)) => [((x 12), .inl (cy 0, 1500, .inl (fun _ => 0))), ((u.1), .inl (cy 0, 0, .inl (u.2)))]) := by
  refine cq_go (by decide) (Nat.le_of_ble_eq_true rfl) (fun p e s m below meth c ls A hA S hr hlk hnm hP hK hD hl => ?_)
  have hS : va_S A s.heap s.heap [] := va_S.rf
  have hl : lv_has ls 3 [(0, .ref (x 12)), (1, .int 0)] := hl
  refine lv_iload_n S.1 S.2.1 dJ7_copyOf_59c91_0 rfl (lv_at hl 1 rfl) ?_
  refine lv_aload_n S.1 S.2.1 dJ7_copyOf_59c91_1 rfl (lv_at hl 0 rfl) ?_
  refine r_alen S hK hP 0 0 rfl rfl (v := 1500) rfl dJ7_copyOf_59c91_2 ?_
  refine r_icmp_ne S 0 1500 rfl rfl dJ7_copyOf_59c91_3 (tgt := 14) (by decide) (fun _ => ?_) (fun c => absurd c (by decide))
  refine lv_iload_n S.1 S.2.1 dJ7_copyOf_59c91_14 rfl (lv_at hl 1 rfl) ?_
  refine r_newa S (atype := .int) (ty := .int) rfl kw_224 hK hP hD hS hA 0 rfl (a0 := (0, .inl (fun _ => 0))) (fun _ => rfl) (by decide) (by decide) (by decide) (by decide) (by decide) dJ7_copyOf_59c91_15 (fun a15_1 H hP hD hS => ?_)
  have hP : va_P D vwCl [((x 12), .inl (cy 0, 1500, .inl (fun _ => 0))), (a15_1, .inl (cy 0, 0, .inl (fun _ => 0)))] H := hP
  have hD : va_D A [((x 12), .inl (cy 0, 1500, .inl (fun _ => 0))), (a15_1, .inl (cy 0, 0, .inl (fun _ => 0)))] := hD
  refine lv_astore_n (lv' := [(2, .ref a15_1), (0, .ref (x 12)), (1, .int 0)]) S.1 S.2.1 dJ7_copyOf_59c91_17 rfl hl (by decide) rfl (fun ls hl => ?_)
  refine lv_aload_n S.1 S.2.1 dJ7_copyOf_59c91_18 rfl (lv_at hl 1 rfl) ?_
  refine lv_iconst (v := 0) S.1 S.2.1 dJ7_copyOf_59c91_19 (by decide) ?_
  refine lv_aload_n S.1 S.2.1 dJ7_copyOf_59c91_20 rfl (lv_at hl 0 rfl) ?_
  refine lv_iconst (v := 0) S.1 S.2.1 dJ7_copyOf_59c91_21 (by decide) ?_
  refine lv_aload_n S.1 S.2.1 dJ7_copyOf_59c91_22 rfl (lv_at hl 1 rfl) ?_
  refine r_alen S hK hP 0 0 rfl rfl (v := 1500) rfl dJ7_copyOf_59c91_23 ?_
  refine lv_iload_n S.1 S.2.1 dJ7_copyOf_59c91_24 rfl (lv_at hl 2 rfl) ?_
  refine r_mmin S hl.1 kw_897 kw_717 kw_158 kw_718 (by decide) (Nat.le_of_ble_eq_true rfl) (by decide) (by decide) dJ7_copyOf_59c91_25 (v := 0) (by decide) ?_
  refine va_copyi S.1 S.2.1 (S.2.2.1.trans hl.1.symm) S.2.2.2.1 (S.2.2.2.2 _ kw_898) (S.2.2.2.2 _ kw_900) (S.2.2.2.2 _ kw_899) (S.2.2.2.2 _ kw_162) hK.1 hP hD hS 0 1 0 0 rfl rfl rfl rfl rfl (by decide) (by decide) (by decide) (by decide) (by decide) (fun i hi => absurd hi (Nat.not_lt_zero i)) (by decide) (by decide) dJ7_copyOf_59c91_28 (fun H locs hP hD hS => ?_)
  have hP : va_P D vwCl [((x 12), .inl (cy 0, 1500, .inl (fun _ => 0))), (a15_1, .inl (cy 0, 0, .inl (va_cpy (fun _ => 0) (fun _ => 0) 0 0 0)))] H := hP
  have hD : va_D A [((x 12), .inl (cy 0, 1500, .inl (fun _ => 0))), (a15_1, .inl (cy 0, 0, .inl (va_cpy (fun _ => 0) (fun _ => 0) 0 0 0)))] := hD
  refine lv_aload_n S.1 S.2.1 dJ7_copyOf_59c91_31 rfl (lv_at hl 0 rfl) ?_
  exact cq_ret (u := (a15_1, (va_cpy (fun _ => 0) (fun _ => 0) 0 0 0))) (v := (some a15_1)) rfl S hr hlk (Or.inr ⟨_, rfl⟩) hK (hP.sub [0, 1] rfl) (hD.sub [0, 1] (by decide) rfl) hS (rfl) (by decide) (by decide) dJ7_copyOf_59c91_32
set_option maxHeartbeats 4000000 in
set_option maxRecDepth 100000 in
theorem kX5_addUp (l : Launch) (D : va_G) (cy : Nat → ClassId) (a : Nat) (n0 : Nat) (n1 : Nat) (n2 : Nat) (n3 : Nat) (n4 : Nat) (n5 : Nat) (n6 : Nat) (n7 : Nat) (n8 : Nat) (n9 : Nat) (n10 : Nat) (n11 : Nat) : CV l D cy yX5_addUp cX5_addUp 2 none 0 0 0 0 [.ref a] [(a, .inr (5, [.int 0, .ref n0, .ref n1, .ref n2, .ref n3, .ref n4, .int 0, .int 10, .int 20, .int 0, .int 0, .ref n5, .ref n6, .int 0, .ref n7, .ref n8, .ref n9, .ref n10, .ref n11]))] (fun (u : Unit) => True) (fun (u : Unit) => [(a, .inr (5, [.int 0, .ref n0, .ref n1, .ref n2, .ref n3, .ref n4, .int 0, .int 10, .int 20, .int 0, .int 0, .ref n5, .ref n6, .int 0, .ref n7, .ref n8, .ref n9, .ref n10, .ref n11]))]) := by
  refine cv_go (by decide) (Nat.le_of_ble_eq_true rfl) (fun p e s m below meth c ls A hA S hr hlk hnm hP hK hD hl => ?_)
  have hS : va_S A s.heap s.heap [] := va_S.rf
  have hl : lv_has ls 2 [(0, .ref a)] := hl
  refine lv_iconst (v := 1) S.1 S.2.1 dX5_addUp_0 (by decide) ?_
  refine lv_istore_n (lv' := [(1, .int 1), (0, .ref a)]) S.1 S.2.1 dX5_addUp_1 rfl hl (by decide) rfl (fun ls hl => ?_)
  refine lv_iload_n S.1 S.2.1 dX5_addUp_2 rfl (lv_at hl 0 rfl) ?_
  refine lv_aload_n S.1 S.2.1 dX5_addUp_3 rfl (lv_at hl 1 rfl) ?_
  refine r_get S hK hP 0 5 rfl rfl inX5 0 (by decide) kw_294 (v := .int 0) rfl dX5_addUp_4 ?_
  refine r_icmp_ge S 1 0 rfl rfl dX5_addUp_7 (tgt := 74) (by decide) (fun _ => ?_) (fun c => absurd c (by decide))
  refine lv_aload_n S.1 S.2.1 dX5_addUp_74 rfl (lv_at hl 1 rfl) ?_
  refine r_get S hK hP 0 5 rfl rfl inX5 0 (by decide) kw_294 (v := .int 0) rfl dX5_addUp_75 ?_
  refine lv_iconst (v := 2) S.1 S.2.1 dX5_addUp_78 (by decide) ?_
  refine r_isub S dX5_addUp_79 (v := (-2)) (by decide) ?_
  refine lv_istore_n (lv' := [(1, .int (-2)), (0, .ref a)]) S.1 S.2.1 dX5_addUp_80 rfl hl (by decide) rfl (fun ls hl => ?_)
  refine lv_iload_n S.1 S.2.1 dX5_addUp_81 rfl (lv_at hl 0 rfl) ?_
  refine r_if_lt S (-2) rfl dX5_addUp_82 (tgt := 137) (by decide) (fun _ => ?_) (fun c => absurd c (by decide))
  refine lv_aload_n S.1 S.2.1 dX5_addUp_137 rfl (lv_at hl 1 rfl) ?_
  refine lv_aload_n S.1 S.2.1 dX5_addUp_138 rfl (lv_at hl 1 rfl) ?_
  refine r_get S hK hP 0 5 rfl rfl inX5 0 (by decide) kw_294 (v := .int 0) rfl dX5_addUp_139 ?_
  refine r_if_ne S 0 rfl dX5_addUp_142 (tgt := 149) (by decide) (fun c => absurd c (by decide)) (fun _ => ?_)
  refine lv_iconst (v := 0) S.1 S.2.1 dX5_addUp_145 (by decide) ?_
  refine lv_goto (tgt := 162) S.1 S.2.1 dX5_addUp_146 (by decide) ?_
  refine r_put S hK hP hD hS 0 5 rfl rfl inX5 6 (by decide) tyX5 tyX5_ok nmX5 kw_307 (v := .int 0) rfl rfl rfl (Nat.le_of_ble_eq_true rfl) dX5_addUp_162 (fun H locs hP hD hS => ?_)
  have hP : va_P D vwCl [(a, .inr (5, [.int 0, .ref n0, .ref n1, .ref n2, .ref n3, .ref n4, .int 0, .int 10, .int 20, .int 0, .int 0, .ref n5, .ref n6, .int 0, .ref n7, .ref n8, .ref n9, .ref n10, .ref n11]))] H := hP
  have hD : va_D A [(a, .inr (5, [.int 0, .ref n0, .ref n1, .ref n2, .ref n3, .ref n4, .int 0, .int 10, .int 20, .int 0, .int 0, .ref n5, .ref n6, .int 0, .ref n7, .ref n8, .ref n9, .ref n10, .ref n11]))] := hD
  exact cv_ret (u := ()) S hr hlk hK (hP.sub [0] rfl) (hD.sub [0] (by decide) rfl) hS (trivial) (by decide) (by decide) dX5_addUp_165
set_option maxHeartbeats 4000000 in
set_option maxRecDepth 100000 in
theorem kX3_advance (l : Launch) (D : va_G) (cy : Nat → ClassId) (x : Nat → Nat) (md : Nat) : CV l D cy yX3_advance cX3_advance 2 none 0 0 0 0 [.ref (x 10)] [((x 10), .inr (3, [.ref (x 11), .int 0, .int 0, .int 0, .int 0, .long 0, .null, .int 0, .int 0, .int 0, .int 0, .ref (x 12), .int 0, .ref md]))] (fun (u : Unit) => True) (fun (u : Unit) => [((x 10), .inr (3, [.ref (x 11), .int 0, .int 0, .int 0, .int 0, .long 0, .null, .int 0, .int 0, .int 0, .int 0, .ref (x 12), .int 0, .ref md]))]) := by
  refine cv_go (by decide) (Nat.le_of_ble_eq_true rfl) (fun p e s m below meth c ls A hA S hr hlk hnm hP hK hD hl => ?_)
  have hS : va_S A s.heap s.heap [] := va_S.rf
  have hl : lv_has ls 2 [(0, .ref (x 10))] := hl
  refine lv_aload_n S.1 S.2.1 dX3_advance_0 rfl (lv_at hl 0 rfl) ?_
  refine r_get S hK hP 0 3 rfl rfl inX3 2 (by decide) kw_237 (v := .int 0) rfl dX3_advance_1 ?_
  refine lv_aload_n S.1 S.2.1 dX3_advance_4 rfl (lv_at hl 0 rfl) ?_
  refine r_get S hK hP 0 3 rfl rfl inX3 1 (by decide) kw_235 (v := .int 0) rfl dX3_advance_5 ?_
  refine r_icmp_ge S 0 0 rfl rfl dX3_advance_8 (tgt := 52) (by decide) (fun _ => ?_) (fun c => absurd c (by decide))
  refine lv_aload_n S.1 S.2.1 dX3_advance_52 rfl (lv_at hl 0 rfl) ?_
  refine lv_aload_n S.1 S.2.1 dX3_advance_53 rfl (lv_at hl 0 rfl) ?_
  refine r_get S hK hP 0 3 rfl rfl inX3 2 (by decide) kw_237 (v := .int 0) rfl dX3_advance_54 ?_
  refine r_put S hK hP hD hS 0 3 rfl rfl inX3 3 (by decide) tyX3 tyX3_ok nmX3 kw_238 (v := .int 0) rfl rfl rfl (Nat.le_of_ble_eq_true rfl) dX3_advance_57 (fun H locs hP hD hS => ?_)
  have hP : va_P D vwCl [((x 10), .inr (3, [.ref (x 11), .int 0, .int 0, .int 0, .int 0, .long 0, .null, .int 0, .int 0, .int 0, .int 0, .ref (x 12), .int 0, .ref md]))] H := hP
  have hD : va_D A [((x 10), .inr (3, [.ref (x 11), .int 0, .int 0, .int 0, .int 0, .long 0, .null, .int 0, .int 0, .int 0, .int 0, .ref (x 12), .int 0, .ref md]))] := hD
  refine lv_aload_n S.1 S.2.1 dX3_advance_60 rfl (lv_at hl 0 rfl) ?_
  refine lv_null S.1 S.2.1 dX3_advance_61 ?_
  refine r_put S hK hP hD hS 0 3 rfl rfl inX3 6 (by decide) tyX3 tyX3_ok nmX3 kw_241 (v := .null) rfl rfl rfl (Nat.le_of_ble_eq_true rfl) dX3_advance_62 (fun H locs hP hD hS => ?_)
  have hP : va_P D vwCl [((x 10), .inr (3, [.ref (x 11), .int 0, .int 0, .int 0, .int 0, .long 0, .null, .int 0, .int 0, .int 0, .int 0, .ref (x 12), .int 0, .ref md]))] H := hP
  have hD : va_D A [((x 10), .inr (3, [.ref (x 11), .int 0, .int 0, .int 0, .int 0, .long 0, .null, .int 0, .int 0, .int 0, .int 0, .ref (x 12), .int 0, .ref md]))] := hD
  refine lv_aload_n S.1 S.2.1 dX3_advance_65 rfl (lv_at hl 0 rfl) ?_
  refine lv_lconst (v := 0) S.1 S.2.1 dX3_advance_66 (by decide) ?_
  refine r_put S hK hP hD hS 0 3 rfl rfl inX3 5 (by decide) tyX3 tyX3_ok nmX3 kw_240 (v := .long 0) rfl rfl rfl (Nat.le_of_ble_eq_true rfl) dX3_advance_67 (fun H locs hP hD hS => ?_)
  have hP : va_P D vwCl [((x 10), .inr (3, [.ref (x 11), .int 0, .int 0, .int 0, .int 0, .long 0, .null, .int 0, .int 0, .int 0, .int 0, .ref (x 12), .int 0, .ref md]))] H := hP
  have hD : va_D A [((x 10), .inr (3, [.ref (x 11), .int 0, .int 0, .int 0, .int 0, .long 0, .null, .int 0, .int 0, .int 0, .int 0, .ref (x 12), .int 0, .ref md]))] := hD
  refine lv_aload_n S.1 S.2.1 dX3_advance_70 rfl (lv_at hl 0 rfl) ?_
  refine r_get S hK hP 0 3 rfl rfl inX3 2 (by decide) kw_237 (v := .int 0) rfl dX3_advance_71 ?_
  refine lv_aload_n S.1 S.2.1 dX3_advance_74 rfl (lv_at hl 0 rfl) ?_
  refine r_get S hK hP 0 3 rfl rfl inX3 1 (by decide) kw_235 (v := .int 0) rfl dX3_advance_75 ?_
  refine r_icmp_ge S 0 0 rfl rfl dX3_advance_78 (tgt := 93) (by decide) (fun _ => ?_) (fun c => absurd c (by decide))
  refine lv_iconst (v := 0) S.1 S.2.1 dX3_advance_93 (by decide) ?_
  refine lv_istore_n (lv' := [(1, .int 0), (0, .ref (x 10))]) S.1 S.2.1 dX3_advance_94 rfl hl (by decide) rfl (fun ls hl => ?_)
  refine lv_aload_n S.1 S.2.1 dX3_advance_95 rfl (lv_at hl 1 rfl) ?_
  refine r_get S hK hP 0 3 rfl rfl inX3 2 (by decide) kw_237 (v := .int 0) rfl dX3_advance_96 ?_
  refine lv_aload_n S.1 S.2.1 dX3_advance_99 rfl (lv_at hl 1 rfl) ?_
  refine r_get S hK hP 0 3 rfl rfl inX3 1 (by decide) kw_235 (v := .int 0) rfl dX3_advance_100 ?_
  refine r_icmp_lt S 0 0 rfl rfl dX3_advance_103 (tgt := 114) (by decide) (fun c => absurd c (by decide)) (fun _ => ?_)
  refine lv_aload_n S.1 S.2.1 dX3_advance_106 rfl (lv_at hl 1 rfl) ?_
  refine lv_iconst (v := 0) S.1 S.2.1 dX3_advance_107 (by decide) ?_
  refine r_put S hK hP hD hS 0 3 rfl rfl inX3 4 (by decide) tyX3 tyX3_ok nmX3 kw_239 (v := .int 0) rfl rfl rfl (Nat.le_of_ble_eq_true rfl) dX3_advance_108 (fun H locs hP hD hS => ?_)
  have hP : va_P D vwCl [((x 10), .inr (3, [.ref (x 11), .int 0, .int 0, .int 0, .int 0, .long 0, .null, .int 0, .int 0, .int 0, .int 0, .ref (x 12), .int 0, .ref md]))] H := hP
  have hD : va_D A [((x 10), .inr (3, [.ref (x 11), .int 0, .int 0, .int 0, .int 0, .long 0, .null, .int 0, .int 0, .int 0, .int 0, .ref (x 12), .int 0, .ref md]))] := hD
  refine lv_goto (tgt := 404) S.1 S.2.1 dX3_advance_111 (by decide) ?_
  exact cv_ret (u := ()) S hr hlk hK (hP.sub [0] rfl) (hD.sub [0] (by decide) rfl) hS (trivial) (by decide) (by decide) dX3_advance_404
set_option maxHeartbeats 4000000 in
set_option maxRecDepth 100000 in
theorem kX3_readTape (l : Launch) (D : va_G) (cy : Nat → ClassId) (x : Nat → Nat) : CI l D cy yX3_readTape cX3_readTape 2 (some .int) 2 82 14 213 [.ref (x 10)] [((x 10), .inr (3, [.ref (x 11), .int 0, .int 0, .int 0, .int 0, .long 0, .null, .int 0, .int 0, .int 0, .int 0, .ref (x 12), .int 0, .null])), ((x 12), .inl (cy 0, 1500, .inl (fun _ => 0)))] (fun (v : Int32) (u : (Nat) × (List Value)) => v = 0) (fun (u : (Nat) × (List Value)) => [((x 10), .inr (3, [.ref (x 11), .int 0, .int 0, .int 0, .int 0, .long 0, .null, .int 0, .int 0, .int 0, .int 0, .ref (x 12), .int 0, .ref (u.1)])), ((u.1), .inr (5, (u.2)))]) := by
  refine ci_go (by decide) (Nat.le_of_ble_eq_true rfl) (fun p e s m below meth c ls A hA S hr hlk hnm hP hK hD hl => ?_)
  have hS : va_S A s.heap s.heap [] := va_S.rf
  have hl : lv_has ls 2 [(0, .ref (x 10))] := hl
  refine lv_aload_n S.1 S.2.1 dX3_readTape_0 rfl (lv_at hl 0 rfl) ?_
  refine r_new S (ci := 5) inX5 tyX5 tyX5_ok kw_671 kw_288 kw_149 hK hP hD hS hA rfl (fs := [.int 0, .null, .null, .null, .null, .null, .int 0, .int 0, .int 0, .int 0, .int 0, .null, .null, .int 0, .null, .null, .null, .null, .null]) rfl (by decide) (by decide) dX3_readTape_1 (fun a1_1 H hP hD hS => ?_)
  have hP : va_P D vwCl [((x 10), .inr (3, [.ref (x 11), .int 0, .int 0, .int 0, .int 0, .long 0, .null, .int 0, .int 0, .int 0, .int 0, .ref (x 12), .int 0, .null])), ((x 12), .inl (cy 0, 1500, .inl (fun _ => 0))), (a1_1, .inr (5, [.int 0, .null, .null, .null, .null, .null, .int 0, .int 0, .int 0, .int 0, .int 0, .null, .null, .int 0, .null, .null, .null, .null, .null]))] H := hP
  have hD : va_D A [((x 10), .inr (3, [.ref (x 11), .int 0, .int 0, .int 0, .int 0, .long 0, .null, .int 0, .int 0, .int 0, .int 0, .ref (x 12), .int 0, .null])), ((x 12), .inl (cy 0, 1500, .inl (fun _ => 0))), (a1_1, .inr (5, [.int 0, .null, .null, .null, .null, .null, .int 0, .int 0, .int 0, .int 0, .int 0, .null, .null, .int 0, .null, .null, .null, .null, .null]))] := hD
  refine lv_dup S.1 S.2.1 dX3_readTape_4 rfl ?_
  refine call_v (wr := [((x 10), .inr (3, [.ref (x 11), .int 0, .int 0, .int 0, .int 0, .long 0, .null, .int 0, .int 0, .int 0, .int 0, .ref (x 12), .int 0, .null])), ((x 12), .inl (cy 0, 1500, .inl (fun _ => 0)))]) (runI_C (wc := [(a1_1, .inr (5, [.int 0, .null, .null, .null, .null, .null, .int 0, .int 0, .int 0, .int 0, .int 0, .null, .null, .int 0, .null, .null, .null, .null, .null]))]) (As := []) (rest := [.ref a1_1, .ref (x 10)]) S (kX5_init l D cy a1_1) hK hP hD [2] (by decide) rfl kw_672 kw_290 kw_149 kw_291 okX5_init rfl rfl (by decide) hl.1 rfl (Nat.le_of_ble_eq_true rfl) dX3_readTape_5 (by decide)) hP hD hS hA [2] [0, 1] rfl rfl (by decide) (by decide) (fun u5 H locs w5 hP hD hS => ?_)
  obtain ⟨names_5, thin_5, thick_5, leastBelow_5, mostBelow_5, remainFrom_5, remainTo_5, lineKind_5, lineSays_5, lineEnd_5, code_5, stack_5⟩ := u5
  have hP : va_P D vwCl [((x 10), .inr (3, [.ref (x 11), .int 0, .int 0, .int 0, .int 0, .long 0, .null, .int 0, .int 0, .int 0, .int 0, .ref (x 12), .int 0, .null])), ((x 12), .inl (cy 0, 1500, .inl (fun _ => 0))), (a1_1, .inr (5, [.int 0, .ref names_5, .ref thin_5, .ref thick_5, .ref leastBelow_5, .ref mostBelow_5, .int 0, .int 10, .int 20, .int 0, .int 0, .ref remainFrom_5, .ref remainTo_5, .int 0, .ref lineKind_5, .ref lineSays_5, .ref lineEnd_5, .ref code_5, .ref stack_5])), (names_5, .inl (cy 2, 10, .inr (.inl (fun _ => 0)))), (thin_5, .inl (cy 0, 10, .inl (fun _ => 0))), (thick_5, .inl (cy 0, 10, .inl (fun _ => 0))), (leastBelow_5, .inl (cy 0, 20, .inl (fun _ => 0))), (mostBelow_5, .inl (cy 0, 20, .inl (fun _ => 0))), (remainFrom_5, .inl (cy 0, 10, .inl (fun _ => (-1)))), (remainTo_5, .inl (cy 0, 10, .inl (fun _ => 0))), (lineKind_5, .inl (cy 0, 24, .inl (fun _ => 0))), (lineSays_5, .inl (cy 0, 24, .inl (fun _ => 0))), (lineEnd_5, .inl (cy 0, 24, .inl (fun _ => 0))), (code_5, .inl (cy 0, 0, .inl (fun _ => 0))), (stack_5, .inl (cy 0, 32, .inl (fun _ => 0)))] H := hP
  have hD : va_D A [((x 10), .inr (3, [.ref (x 11), .int 0, .int 0, .int 0, .int 0, .long 0, .null, .int 0, .int 0, .int 0, .int 0, .ref (x 12), .int 0, .null])), ((x 12), .inl (cy 0, 1500, .inl (fun _ => 0))), (a1_1, .inr (5, [.int 0, .ref names_5, .ref thin_5, .ref thick_5, .ref leastBelow_5, .ref mostBelow_5, .int 0, .int 10, .int 20, .int 0, .int 0, .ref remainFrom_5, .ref remainTo_5, .int 0, .ref lineKind_5, .ref lineSays_5, .ref lineEnd_5, .ref code_5, .ref stack_5])), (names_5, .inl (cy 2, 10, .inr (.inl (fun _ => 0)))), (thin_5, .inl (cy 0, 10, .inl (fun _ => 0))), (thick_5, .inl (cy 0, 10, .inl (fun _ => 0))), (leastBelow_5, .inl (cy 0, 20, .inl (fun _ => 0))), (mostBelow_5, .inl (cy 0, 20, .inl (fun _ => 0))), (remainFrom_5, .inl (cy 0, 10, .inl (fun _ => (-1)))), (remainTo_5, .inl (cy 0, 10, .inl (fun _ => 0))), (lineKind_5, .inl (cy 0, 24, .inl (fun _ => 0))), (lineSays_5, .inl (cy 0, 24, .inl (fun _ => 0))), (lineEnd_5, .inl (cy 0, 24, .inl (fun _ => 0))), (code_5, .inl (cy 0, 0, .inl (fun _ => 0))), (stack_5, .inl (cy 0, 32, .inl (fun _ => 0)))] := hD
  refine r_put S hK hP hD hS 0 3 rfl rfl inX3 13 (by decide) tyX3 tyX3_ok nmX3 kw_248 (v := .ref a1_1) rfl rfl rfl (Nat.le_of_ble_eq_true rfl) dX3_readTape_8 (fun H locs hP hD hS => ?_)
  have hP : va_P D vwCl [((x 10), .inr (3, [.ref (x 11), .int 0, .int 0, .int 0, .int 0, .long 0, .null, .int 0, .int 0, .int 0, .int 0, .ref (x 12), .int 0, .ref a1_1])), ((x 12), .inl (cy 0, 1500, .inl (fun _ => 0))), (a1_1, .inr (5, [.int 0, .ref names_5, .ref thin_5, .ref thick_5, .ref leastBelow_5, .ref mostBelow_5, .int 0, .int 10, .int 20, .int 0, .int 0, .ref remainFrom_5, .ref remainTo_5, .int 0, .ref lineKind_5, .ref lineSays_5, .ref lineEnd_5, .ref code_5, .ref stack_5])), (names_5, .inl (cy 2, 10, .inr (.inl (fun _ => 0)))), (thin_5, .inl (cy 0, 10, .inl (fun _ => 0))), (thick_5, .inl (cy 0, 10, .inl (fun _ => 0))), (leastBelow_5, .inl (cy 0, 20, .inl (fun _ => 0))), (mostBelow_5, .inl (cy 0, 20, .inl (fun _ => 0))), (remainFrom_5, .inl (cy 0, 10, .inl (fun _ => (-1)))), (remainTo_5, .inl (cy 0, 10, .inl (fun _ => 0))), (lineKind_5, .inl (cy 0, 24, .inl (fun _ => 0))), (lineSays_5, .inl (cy 0, 24, .inl (fun _ => 0))), (lineEnd_5, .inl (cy 0, 24, .inl (fun _ => 0))), (code_5, .inl (cy 0, 0, .inl (fun _ => 0))), (stack_5, .inl (cy 0, 32, .inl (fun _ => 0)))] H := hP
  have hD : va_D A [((x 10), .inr (3, [.ref (x 11), .int 0, .int 0, .int 0, .int 0, .long 0, .null, .int 0, .int 0, .int 0, .int 0, .ref (x 12), .int 0, .ref a1_1])), ((x 12), .inl (cy 0, 1500, .inl (fun _ => 0))), (a1_1, .inr (5, [.int 0, .ref names_5, .ref thin_5, .ref thick_5, .ref leastBelow_5, .ref mostBelow_5, .int 0, .int 10, .int 20, .int 0, .int 0, .ref remainFrom_5, .ref remainTo_5, .int 0, .ref lineKind_5, .ref lineSays_5, .ref lineEnd_5, .ref code_5, .ref stack_5])), (names_5, .inl (cy 2, 10, .inr (.inl (fun _ => 0)))), (thin_5, .inl (cy 0, 10, .inl (fun _ => 0))), (thick_5, .inl (cy 0, 10, .inl (fun _ => 0))), (leastBelow_5, .inl (cy 0, 20, .inl (fun _ => 0))), (mostBelow_5, .inl (cy 0, 20, .inl (fun _ => 0))), (remainFrom_5, .inl (cy 0, 10, .inl (fun _ => (-1)))), (remainTo_5, .inl (cy 0, 10, .inl (fun _ => 0))), (lineKind_5, .inl (cy 0, 24, .inl (fun _ => 0))), (lineSays_5, .inl (cy 0, 24, .inl (fun _ => 0))), (lineEnd_5, .inl (cy 0, 24, .inl (fun _ => 0))), (code_5, .inl (cy 0, 0, .inl (fun _ => 0))), (stack_5, .inl (cy 0, 32, .inl (fun _ => 0)))] := hD
  refine lv_aload_n S.1 S.2.1 dX3_readTape_11 rfl (lv_at hl 0 rfl) ?_
  refine lv_iconst (v := 0) S.1 S.2.1 dX3_readTape_12 (by decide) ?_
  refine r_put S hK hP hD hS 0 3 rfl rfl inX3 2 (by decide) tyX3 tyX3_ok nmX3 kw_237 (v := .int 0) rfl rfl rfl (Nat.le_of_ble_eq_true rfl) dX3_readTape_13 (fun H locs hP hD hS => ?_)
  have hP : va_P D vwCl [((x 10), .inr (3, [.ref (x 11), .int 0, .int 0, .int 0, .int 0, .long 0, .null, .int 0, .int 0, .int 0, .int 0, .ref (x 12), .int 0, .ref a1_1])), ((x 12), .inl (cy 0, 1500, .inl (fun _ => 0))), (a1_1, .inr (5, [.int 0, .ref names_5, .ref thin_5, .ref thick_5, .ref leastBelow_5, .ref mostBelow_5, .int 0, .int 10, .int 20, .int 0, .int 0, .ref remainFrom_5, .ref remainTo_5, .int 0, .ref lineKind_5, .ref lineSays_5, .ref lineEnd_5, .ref code_5, .ref stack_5])), (names_5, .inl (cy 2, 10, .inr (.inl (fun _ => 0)))), (thin_5, .inl (cy 0, 10, .inl (fun _ => 0))), (thick_5, .inl (cy 0, 10, .inl (fun _ => 0))), (leastBelow_5, .inl (cy 0, 20, .inl (fun _ => 0))), (mostBelow_5, .inl (cy 0, 20, .inl (fun _ => 0))), (remainFrom_5, .inl (cy 0, 10, .inl (fun _ => (-1)))), (remainTo_5, .inl (cy 0, 10, .inl (fun _ => 0))), (lineKind_5, .inl (cy 0, 24, .inl (fun _ => 0))), (lineSays_5, .inl (cy 0, 24, .inl (fun _ => 0))), (lineEnd_5, .inl (cy 0, 24, .inl (fun _ => 0))), (code_5, .inl (cy 0, 0, .inl (fun _ => 0))), (stack_5, .inl (cy 0, 32, .inl (fun _ => 0)))] H := hP
  have hD : va_D A [((x 10), .inr (3, [.ref (x 11), .int 0, .int 0, .int 0, .int 0, .long 0, .null, .int 0, .int 0, .int 0, .int 0, .ref (x 12), .int 0, .ref a1_1])), ((x 12), .inl (cy 0, 1500, .inl (fun _ => 0))), (a1_1, .inr (5, [.int 0, .ref names_5, .ref thin_5, .ref thick_5, .ref leastBelow_5, .ref mostBelow_5, .int 0, .int 10, .int 20, .int 0, .int 0, .ref remainFrom_5, .ref remainTo_5, .int 0, .ref lineKind_5, .ref lineSays_5, .ref lineEnd_5, .ref code_5, .ref stack_5])), (names_5, .inl (cy 2, 10, .inr (.inl (fun _ => 0)))), (thin_5, .inl (cy 0, 10, .inl (fun _ => 0))), (thick_5, .inl (cy 0, 10, .inl (fun _ => 0))), (leastBelow_5, .inl (cy 0, 20, .inl (fun _ => 0))), (mostBelow_5, .inl (cy 0, 20, .inl (fun _ => 0))), (remainFrom_5, .inl (cy 0, 10, .inl (fun _ => (-1)))), (remainTo_5, .inl (cy 0, 10, .inl (fun _ => 0))), (lineKind_5, .inl (cy 0, 24, .inl (fun _ => 0))), (lineSays_5, .inl (cy 0, 24, .inl (fun _ => 0))), (lineEnd_5, .inl (cy 0, 24, .inl (fun _ => 0))), (code_5, .inl (cy 0, 0, .inl (fun _ => 0))), (stack_5, .inl (cy 0, 32, .inl (fun _ => 0)))] := hD
  refine lv_aload_n S.1 S.2.1 dX3_readTape_16 rfl (lv_at hl 0 rfl) ?_
  refine lv_iconst (v := 0) S.1 S.2.1 dX3_readTape_17 (by decide) ?_
  refine r_put S hK hP hD hS 0 3 rfl rfl inX3 7 (by decide) tyX3 tyX3_ok nmX3 kw_242 (v := .int 0) rfl rfl rfl (Nat.le_of_ble_eq_true rfl) dX3_readTape_18 (fun H locs hP hD hS => ?_)
  have hP : va_P D vwCl [((x 10), .inr (3, [.ref (x 11), .int 0, .int 0, .int 0, .int 0, .long 0, .null, .int 0, .int 0, .int 0, .int 0, .ref (x 12), .int 0, .ref a1_1])), ((x 12), .inl (cy 0, 1500, .inl (fun _ => 0))), (a1_1, .inr (5, [.int 0, .ref names_5, .ref thin_5, .ref thick_5, .ref leastBelow_5, .ref mostBelow_5, .int 0, .int 10, .int 20, .int 0, .int 0, .ref remainFrom_5, .ref remainTo_5, .int 0, .ref lineKind_5, .ref lineSays_5, .ref lineEnd_5, .ref code_5, .ref stack_5])), (names_5, .inl (cy 2, 10, .inr (.inl (fun _ => 0)))), (thin_5, .inl (cy 0, 10, .inl (fun _ => 0))), (thick_5, .inl (cy 0, 10, .inl (fun _ => 0))), (leastBelow_5, .inl (cy 0, 20, .inl (fun _ => 0))), (mostBelow_5, .inl (cy 0, 20, .inl (fun _ => 0))), (remainFrom_5, .inl (cy 0, 10, .inl (fun _ => (-1)))), (remainTo_5, .inl (cy 0, 10, .inl (fun _ => 0))), (lineKind_5, .inl (cy 0, 24, .inl (fun _ => 0))), (lineSays_5, .inl (cy 0, 24, .inl (fun _ => 0))), (lineEnd_5, .inl (cy 0, 24, .inl (fun _ => 0))), (code_5, .inl (cy 0, 0, .inl (fun _ => 0))), (stack_5, .inl (cy 0, 32, .inl (fun _ => 0)))] H := hP
  have hD : va_D A [((x 10), .inr (3, [.ref (x 11), .int 0, .int 0, .int 0, .int 0, .long 0, .null, .int 0, .int 0, .int 0, .int 0, .ref (x 12), .int 0, .ref a1_1])), ((x 12), .inl (cy 0, 1500, .inl (fun _ => 0))), (a1_1, .inr (5, [.int 0, .ref names_5, .ref thin_5, .ref thick_5, .ref leastBelow_5, .ref mostBelow_5, .int 0, .int 10, .int 20, .int 0, .int 0, .ref remainFrom_5, .ref remainTo_5, .int 0, .ref lineKind_5, .ref lineSays_5, .ref lineEnd_5, .ref code_5, .ref stack_5])), (names_5, .inl (cy 2, 10, .inr (.inl (fun _ => 0)))), (thin_5, .inl (cy 0, 10, .inl (fun _ => 0))), (thick_5, .inl (cy 0, 10, .inl (fun _ => 0))), (leastBelow_5, .inl (cy 0, 20, .inl (fun _ => 0))), (mostBelow_5, .inl (cy 0, 20, .inl (fun _ => 0))), (remainFrom_5, .inl (cy 0, 10, .inl (fun _ => (-1)))), (remainTo_5, .inl (cy 0, 10, .inl (fun _ => 0))), (lineKind_5, .inl (cy 0, 24, .inl (fun _ => 0))), (lineSays_5, .inl (cy 0, 24, .inl (fun _ => 0))), (lineEnd_5, .inl (cy 0, 24, .inl (fun _ => 0))), (code_5, .inl (cy 0, 0, .inl (fun _ => 0))), (stack_5, .inl (cy 0, 32, .inl (fun _ => 0)))] := hD
  refine lv_aload_n S.1 S.2.1 dX3_readTape_21 rfl (lv_at hl 0 rfl) ?_
  refine lv_iconst (v := 0) S.1 S.2.1 dX3_readTape_22 (by decide) ?_
  refine r_put S hK hP hD hS 0 3 rfl rfl inX3 12 (by decide) tyX3 tyX3_ok nmX3 kw_247 (v := .int 0) rfl rfl rfl (Nat.le_of_ble_eq_true rfl) dX3_readTape_23 (fun H locs hP hD hS => ?_)
  have hP : va_P D vwCl [((x 10), .inr (3, [.ref (x 11), .int 0, .int 0, .int 0, .int 0, .long 0, .null, .int 0, .int 0, .int 0, .int 0, .ref (x 12), .int 0, .ref a1_1])), ((x 12), .inl (cy 0, 1500, .inl (fun _ => 0))), (a1_1, .inr (5, [.int 0, .ref names_5, .ref thin_5, .ref thick_5, .ref leastBelow_5, .ref mostBelow_5, .int 0, .int 10, .int 20, .int 0, .int 0, .ref remainFrom_5, .ref remainTo_5, .int 0, .ref lineKind_5, .ref lineSays_5, .ref lineEnd_5, .ref code_5, .ref stack_5])), (names_5, .inl (cy 2, 10, .inr (.inl (fun _ => 0)))), (thin_5, .inl (cy 0, 10, .inl (fun _ => 0))), (thick_5, .inl (cy 0, 10, .inl (fun _ => 0))), (leastBelow_5, .inl (cy 0, 20, .inl (fun _ => 0))), (mostBelow_5, .inl (cy 0, 20, .inl (fun _ => 0))), (remainFrom_5, .inl (cy 0, 10, .inl (fun _ => (-1)))), (remainTo_5, .inl (cy 0, 10, .inl (fun _ => 0))), (lineKind_5, .inl (cy 0, 24, .inl (fun _ => 0))), (lineSays_5, .inl (cy 0, 24, .inl (fun _ => 0))), (lineEnd_5, .inl (cy 0, 24, .inl (fun _ => 0))), (code_5, .inl (cy 0, 0, .inl (fun _ => 0))), (stack_5, .inl (cy 0, 32, .inl (fun _ => 0)))] H := hP
  have hD : va_D A [((x 10), .inr (3, [.ref (x 11), .int 0, .int 0, .int 0, .int 0, .long 0, .null, .int 0, .int 0, .int 0, .int 0, .ref (x 12), .int 0, .ref a1_1])), ((x 12), .inl (cy 0, 1500, .inl (fun _ => 0))), (a1_1, .inr (5, [.int 0, .ref names_5, .ref thin_5, .ref thick_5, .ref leastBelow_5, .ref mostBelow_5, .int 0, .int 10, .int 20, .int 0, .int 0, .ref remainFrom_5, .ref remainTo_5, .int 0, .ref lineKind_5, .ref lineSays_5, .ref lineEnd_5, .ref code_5, .ref stack_5])), (names_5, .inl (cy 2, 10, .inr (.inl (fun _ => 0)))), (thin_5, .inl (cy 0, 10, .inl (fun _ => 0))), (thick_5, .inl (cy 0, 10, .inl (fun _ => 0))), (leastBelow_5, .inl (cy 0, 20, .inl (fun _ => 0))), (mostBelow_5, .inl (cy 0, 20, .inl (fun _ => 0))), (remainFrom_5, .inl (cy 0, 10, .inl (fun _ => (-1)))), (remainTo_5, .inl (cy 0, 10, .inl (fun _ => 0))), (lineKind_5, .inl (cy 0, 24, .inl (fun _ => 0))), (lineSays_5, .inl (cy 0, 24, .inl (fun _ => 0))), (lineEnd_5, .inl (cy 0, 24, .inl (fun _ => 0))), (code_5, .inl (cy 0, 0, .inl (fun _ => 0))), (stack_5, .inl (cy 0, 32, .inl (fun _ => 0)))] := hD
  refine lv_aload_n S.1 S.2.1 dX3_readTape_26 rfl (lv_at hl 0 rfl) ?_
  refine lv_iconst (v := 0) S.1 S.2.1 dX3_readTape_27 (by decide) ?_
  refine r_put S hK hP hD hS 0 3 rfl rfl inX3 9 (by decide) tyX3 tyX3_ok nmX3 kw_244 (v := .int 0) rfl (by decide) (by decide) (Nat.le_of_ble_eq_true rfl) dX3_readTape_28 (fun H locs hP hD hS => ?_)
  have hP : va_P D vwCl [((x 10), .inr (3, [.ref (x 11), .int 0, .int 0, .int 0, .int 0, .long 0, .null, .int 0, .int 0, .int 0, .int 0, .ref (x 12), .int 0, .ref a1_1])), ((x 12), .inl (cy 0, 1500, .inl (fun _ => 0))), (a1_1, .inr (5, [.int 0, .ref names_5, .ref thin_5, .ref thick_5, .ref leastBelow_5, .ref mostBelow_5, .int 0, .int 10, .int 20, .int 0, .int 0, .ref remainFrom_5, .ref remainTo_5, .int 0, .ref lineKind_5, .ref lineSays_5, .ref lineEnd_5, .ref code_5, .ref stack_5])), (names_5, .inl (cy 2, 10, .inr (.inl (fun _ => 0)))), (thin_5, .inl (cy 0, 10, .inl (fun _ => 0))), (thick_5, .inl (cy 0, 10, .inl (fun _ => 0))), (leastBelow_5, .inl (cy 0, 20, .inl (fun _ => 0))), (mostBelow_5, .inl (cy 0, 20, .inl (fun _ => 0))), (remainFrom_5, .inl (cy 0, 10, .inl (fun _ => (-1)))), (remainTo_5, .inl (cy 0, 10, .inl (fun _ => 0))), (lineKind_5, .inl (cy 0, 24, .inl (fun _ => 0))), (lineSays_5, .inl (cy 0, 24, .inl (fun _ => 0))), (lineEnd_5, .inl (cy 0, 24, .inl (fun _ => 0))), (code_5, .inl (cy 0, 0, .inl (fun _ => 0))), (stack_5, .inl (cy 0, 32, .inl (fun _ => 0)))] H := hP
  have hD : va_D A [((x 10), .inr (3, [.ref (x 11), .int 0, .int 0, .int 0, .int 0, .long 0, .null, .int 0, .int 0, .int 0, .int 0, .ref (x 12), .int 0, .ref a1_1])), ((x 12), .inl (cy 0, 1500, .inl (fun _ => 0))), (a1_1, .inr (5, [.int 0, .ref names_5, .ref thin_5, .ref thick_5, .ref leastBelow_5, .ref mostBelow_5, .int 0, .int 10, .int 20, .int 0, .int 0, .ref remainFrom_5, .ref remainTo_5, .int 0, .ref lineKind_5, .ref lineSays_5, .ref lineEnd_5, .ref code_5, .ref stack_5])), (names_5, .inl (cy 2, 10, .inr (.inl (fun _ => 0)))), (thin_5, .inl (cy 0, 10, .inl (fun _ => 0))), (thick_5, .inl (cy 0, 10, .inl (fun _ => 0))), (leastBelow_5, .inl (cy 0, 20, .inl (fun _ => 0))), (mostBelow_5, .inl (cy 0, 20, .inl (fun _ => 0))), (remainFrom_5, .inl (cy 0, 10, .inl (fun _ => (-1)))), (remainTo_5, .inl (cy 0, 10, .inl (fun _ => 0))), (lineKind_5, .inl (cy 0, 24, .inl (fun _ => 0))), (lineSays_5, .inl (cy 0, 24, .inl (fun _ => 0))), (lineEnd_5, .inl (cy 0, 24, .inl (fun _ => 0))), (code_5, .inl (cy 0, 0, .inl (fun _ => 0))), (stack_5, .inl (cy 0, 32, .inl (fun _ => 0)))] := hD
  refine lv_aload_n S.1 S.2.1 dX3_readTape_31 rfl (lv_at hl 0 rfl) ?_
  refine lv_iconst (v := 0) S.1 S.2.1 dX3_readTape_32 (by decide) ?_
  refine r_put S hK hP hD hS 0 3 rfl rfl inX3 10 (by decide) tyX3 tyX3_ok nmX3 kw_245 (v := .int 0) rfl (by decide) (by decide) (Nat.le_of_ble_eq_true rfl) dX3_readTape_33 (fun H locs hP hD hS => ?_)
  have hP : va_P D vwCl [((x 10), .inr (3, [.ref (x 11), .int 0, .int 0, .int 0, .int 0, .long 0, .null, .int 0, .int 0, .int 0, .int 0, .ref (x 12), .int 0, .ref a1_1])), ((x 12), .inl (cy 0, 1500, .inl (fun _ => 0))), (a1_1, .inr (5, [.int 0, .ref names_5, .ref thin_5, .ref thick_5, .ref leastBelow_5, .ref mostBelow_5, .int 0, .int 10, .int 20, .int 0, .int 0, .ref remainFrom_5, .ref remainTo_5, .int 0, .ref lineKind_5, .ref lineSays_5, .ref lineEnd_5, .ref code_5, .ref stack_5])), (names_5, .inl (cy 2, 10, .inr (.inl (fun _ => 0)))), (thin_5, .inl (cy 0, 10, .inl (fun _ => 0))), (thick_5, .inl (cy 0, 10, .inl (fun _ => 0))), (leastBelow_5, .inl (cy 0, 20, .inl (fun _ => 0))), (mostBelow_5, .inl (cy 0, 20, .inl (fun _ => 0))), (remainFrom_5, .inl (cy 0, 10, .inl (fun _ => (-1)))), (remainTo_5, .inl (cy 0, 10, .inl (fun _ => 0))), (lineKind_5, .inl (cy 0, 24, .inl (fun _ => 0))), (lineSays_5, .inl (cy 0, 24, .inl (fun _ => 0))), (lineEnd_5, .inl (cy 0, 24, .inl (fun _ => 0))), (code_5, .inl (cy 0, 0, .inl (fun _ => 0))), (stack_5, .inl (cy 0, 32, .inl (fun _ => 0)))] H := hP
  have hD : va_D A [((x 10), .inr (3, [.ref (x 11), .int 0, .int 0, .int 0, .int 0, .long 0, .null, .int 0, .int 0, .int 0, .int 0, .ref (x 12), .int 0, .ref a1_1])), ((x 12), .inl (cy 0, 1500, .inl (fun _ => 0))), (a1_1, .inr (5, [.int 0, .ref names_5, .ref thin_5, .ref thick_5, .ref leastBelow_5, .ref mostBelow_5, .int 0, .int 10, .int 20, .int 0, .int 0, .ref remainFrom_5, .ref remainTo_5, .int 0, .ref lineKind_5, .ref lineSays_5, .ref lineEnd_5, .ref code_5, .ref stack_5])), (names_5, .inl (cy 2, 10, .inr (.inl (fun _ => 0)))), (thin_5, .inl (cy 0, 10, .inl (fun _ => 0))), (thick_5, .inl (cy 0, 10, .inl (fun _ => 0))), (leastBelow_5, .inl (cy 0, 20, .inl (fun _ => 0))), (mostBelow_5, .inl (cy 0, 20, .inl (fun _ => 0))), (remainFrom_5, .inl (cy 0, 10, .inl (fun _ => (-1)))), (remainTo_5, .inl (cy 0, 10, .inl (fun _ => 0))), (lineKind_5, .inl (cy 0, 24, .inl (fun _ => 0))), (lineSays_5, .inl (cy 0, 24, .inl (fun _ => 0))), (lineEnd_5, .inl (cy 0, 24, .inl (fun _ => 0))), (code_5, .inl (cy 0, 0, .inl (fun _ => 0))), (stack_5, .inl (cy 0, 32, .inl (fun _ => 0)))] := hD
  refine lv_aload_n S.1 S.2.1 dX3_readTape_36 rfl (lv_at hl 0 rfl) ?_
  refine call_v (wr := [((x 12), .inl (cy 0, 1500, .inl (fun _ => 0))), (a1_1, .inr (5, [.int 0, .ref names_5, .ref thin_5, .ref thick_5, .ref leastBelow_5, .ref mostBelow_5, .int 0, .int 10, .int 20, .int 0, .int 0, .ref remainFrom_5, .ref remainTo_5, .int 0, .ref lineKind_5, .ref lineSays_5, .ref lineEnd_5, .ref code_5, .ref stack_5])), (names_5, .inl (cy 2, 10, .inr (.inl (fun _ => 0)))), (thin_5, .inl (cy 0, 10, .inl (fun _ => 0))), (thick_5, .inl (cy 0, 10, .inl (fun _ => 0))), (leastBelow_5, .inl (cy 0, 20, .inl (fun _ => 0))), (mostBelow_5, .inl (cy 0, 20, .inl (fun _ => 0))), (remainFrom_5, .inl (cy 0, 10, .inl (fun _ => (-1)))), (remainTo_5, .inl (cy 0, 10, .inl (fun _ => 0))), (lineKind_5, .inl (cy 0, 24, .inl (fun _ => 0))), (lineSays_5, .inl (cy 0, 24, .inl (fun _ => 0))), (lineEnd_5, .inl (cy 0, 24, .inl (fun _ => 0))), (code_5, .inl (cy 0, 0, .inl (fun _ => 0))), (stack_5, .inl (cy 0, 32, .inl (fun _ => 0)))]) (runV_C (wc := [((x 10), .inr (3, [.ref (x 11), .int 0, .int 0, .int 0, .int 0, .long 0, .null, .int 0, .int 0, .int 0, .int 0, .ref (x 12), .int 0, .ref a1_1]))]) (As := []) (rest := []) S (kX3_advance l D cy x a1_1) hK hP hD [0] (by decide) rfl 0 3 rfl rfl kw_673 kw_675 kw_1 kw_147 kw_676 okX3_advance rfl (by decide) hl.1 rfl (Nat.le_of_ble_eq_true rfl) dX3_readTape_37 (by decide)) hP hD hS hA [0] [1, 2, 3, 4, 5, 6, 7, 8, 9, 10, 11, 12, 13, 14] rfl rfl (by decide) (by decide) (fun u37 H locs w37 hP hD hS => ?_)
  have hP : va_P D vwCl [((x 12), .inl (cy 0, 1500, .inl (fun _ => 0))), (a1_1, .inr (5, [.int 0, .ref names_5, .ref thin_5, .ref thick_5, .ref leastBelow_5, .ref mostBelow_5, .int 0, .int 10, .int 20, .int 0, .int 0, .ref remainFrom_5, .ref remainTo_5, .int 0, .ref lineKind_5, .ref lineSays_5, .ref lineEnd_5, .ref code_5, .ref stack_5])), (names_5, .inl (cy 2, 10, .inr (.inl (fun _ => 0)))), (thin_5, .inl (cy 0, 10, .inl (fun _ => 0))), (thick_5, .inl (cy 0, 10, .inl (fun _ => 0))), (leastBelow_5, .inl (cy 0, 20, .inl (fun _ => 0))), (mostBelow_5, .inl (cy 0, 20, .inl (fun _ => 0))), (remainFrom_5, .inl (cy 0, 10, .inl (fun _ => (-1)))), (remainTo_5, .inl (cy 0, 10, .inl (fun _ => 0))), (lineKind_5, .inl (cy 0, 24, .inl (fun _ => 0))), (lineSays_5, .inl (cy 0, 24, .inl (fun _ => 0))), (lineEnd_5, .inl (cy 0, 24, .inl (fun _ => 0))), (code_5, .inl (cy 0, 0, .inl (fun _ => 0))), (stack_5, .inl (cy 0, 32, .inl (fun _ => 0))), ((x 10), .inr (3, [.ref (x 11), .int 0, .int 0, .int 0, .int 0, .long 0, .null, .int 0, .int 0, .int 0, .int 0, .ref (x 12), .int 0, .ref a1_1]))] H := hP
  have hD : va_D A [((x 12), .inl (cy 0, 1500, .inl (fun _ => 0))), (a1_1, .inr (5, [.int 0, .ref names_5, .ref thin_5, .ref thick_5, .ref leastBelow_5, .ref mostBelow_5, .int 0, .int 10, .int 20, .int 0, .int 0, .ref remainFrom_5, .ref remainTo_5, .int 0, .ref lineKind_5, .ref lineSays_5, .ref lineEnd_5, .ref code_5, .ref stack_5])), (names_5, .inl (cy 2, 10, .inr (.inl (fun _ => 0)))), (thin_5, .inl (cy 0, 10, .inl (fun _ => 0))), (thick_5, .inl (cy 0, 10, .inl (fun _ => 0))), (leastBelow_5, .inl (cy 0, 20, .inl (fun _ => 0))), (mostBelow_5, .inl (cy 0, 20, .inl (fun _ => 0))), (remainFrom_5, .inl (cy 0, 10, .inl (fun _ => (-1)))), (remainTo_5, .inl (cy 0, 10, .inl (fun _ => 0))), (lineKind_5, .inl (cy 0, 24, .inl (fun _ => 0))), (lineSays_5, .inl (cy 0, 24, .inl (fun _ => 0))), (lineEnd_5, .inl (cy 0, 24, .inl (fun _ => 0))), (code_5, .inl (cy 0, 0, .inl (fun _ => 0))), (stack_5, .inl (cy 0, 32, .inl (fun _ => 0))), ((x 10), .inr (3, [.ref (x 11), .int 0, .int 0, .int 0, .int 0, .long 0, .null, .int 0, .int 0, .int 0, .int 0, .ref (x 12), .int 0, .ref a1_1]))] := hD
  refine lv_iconst (v := 0) S.1 S.2.1 dX3_readTape_40 (by decide) ?_
  refine lv_istore_n (lv' := [(1, .int 0), (0, .ref (x 10))]) S.1 S.2.1 dX3_readTape_41 rfl hl (by decide) rfl (fun ls hl => ?_)
  refine lv_iload_n S.1 S.2.1 dX3_readTape_42 rfl (lv_at hl 0 rfl) ?_
  refine lv_sipush (v := 1500) S.1 S.2.1 dX3_readTape_43 (by decide) ?_
  refine r_icmp_gt S 0 1500 rfl rfl dX3_readTape_46 (tgt := 74) (by decide) (fun c => absurd c (by decide)) (fun _ => ?_)
  refine lv_aload_n S.1 S.2.1 dX3_readTape_49 rfl (lv_at hl 1 rfl) ?_
  refine r_get S hK hP 14 3 rfl rfl inX3 4 (by decide) kw_239 (v := .int 0) rfl dX3_readTape_50 ?_
  refine r_if_eq S 0 rfl dX3_readTape_53 (tgt := 74) (by decide) (fun _ => ?_) (fun c => absurd c (by decide))
  refine lv_aload_n S.1 S.2.1 dX3_readTape_74 rfl (lv_at hl 1 rfl) ?_
  refine lv_iconst (v := 0) S.1 S.2.1 dX3_readTape_75 (by decide) ?_
  refine r_put S hK hP hD hS 14 3 rfl rfl inX3 1 (by decide) tyX3 tyX3_ok nmX3 kw_235 (v := .int 0) rfl rfl rfl (Nat.le_of_ble_eq_true rfl) dX3_readTape_76 (fun H locs hP hD hS => ?_)
  have hP : va_P D vwCl [((x 12), .inl (cy 0, 1500, .inl (fun _ => 0))), (a1_1, .inr (5, [.int 0, .ref names_5, .ref thin_5, .ref thick_5, .ref leastBelow_5, .ref mostBelow_5, .int 0, .int 10, .int 20, .int 0, .int 0, .ref remainFrom_5, .ref remainTo_5, .int 0, .ref lineKind_5, .ref lineSays_5, .ref lineEnd_5, .ref code_5, .ref stack_5])), (names_5, .inl (cy 2, 10, .inr (.inl (fun _ => 0)))), (thin_5, .inl (cy 0, 10, .inl (fun _ => 0))), (thick_5, .inl (cy 0, 10, .inl (fun _ => 0))), (leastBelow_5, .inl (cy 0, 20, .inl (fun _ => 0))), (mostBelow_5, .inl (cy 0, 20, .inl (fun _ => 0))), (remainFrom_5, .inl (cy 0, 10, .inl (fun _ => (-1)))), (remainTo_5, .inl (cy 0, 10, .inl (fun _ => 0))), (lineKind_5, .inl (cy 0, 24, .inl (fun _ => 0))), (lineSays_5, .inl (cy 0, 24, .inl (fun _ => 0))), (lineEnd_5, .inl (cy 0, 24, .inl (fun _ => 0))), (code_5, .inl (cy 0, 0, .inl (fun _ => 0))), (stack_5, .inl (cy 0, 32, .inl (fun _ => 0))), ((x 10), .inr (3, [.ref (x 11), .int 0, .int 0, .int 0, .int 0, .long 0, .null, .int 0, .int 0, .int 0, .int 0, .ref (x 12), .int 0, .ref a1_1]))] H := hP
  have hD : va_D A [((x 12), .inl (cy 0, 1500, .inl (fun _ => 0))), (a1_1, .inr (5, [.int 0, .ref names_5, .ref thin_5, .ref thick_5, .ref leastBelow_5, .ref mostBelow_5, .int 0, .int 10, .int 20, .int 0, .int 0, .ref remainFrom_5, .ref remainTo_5, .int 0, .ref lineKind_5, .ref lineSays_5, .ref lineEnd_5, .ref code_5, .ref stack_5])), (names_5, .inl (cy 2, 10, .inr (.inl (fun _ => 0)))), (thin_5, .inl (cy 0, 10, .inl (fun _ => 0))), (thick_5, .inl (cy 0, 10, .inl (fun _ => 0))), (leastBelow_5, .inl (cy 0, 20, .inl (fun _ => 0))), (mostBelow_5, .inl (cy 0, 20, .inl (fun _ => 0))), (remainFrom_5, .inl (cy 0, 10, .inl (fun _ => (-1)))), (remainTo_5, .inl (cy 0, 10, .inl (fun _ => 0))), (lineKind_5, .inl (cy 0, 24, .inl (fun _ => 0))), (lineSays_5, .inl (cy 0, 24, .inl (fun _ => 0))), (lineEnd_5, .inl (cy 0, 24, .inl (fun _ => 0))), (code_5, .inl (cy 0, 0, .inl (fun _ => 0))), (stack_5, .inl (cy 0, 32, .inl (fun _ => 0))), ((x 10), .inr (3, [.ref (x 11), .int 0, .int 0, .int 0, .int 0, .long 0, .null, .int 0, .int 0, .int 0, .int 0, .ref (x 12), .int 0, .ref a1_1]))] := hD
  refine lv_aload_n S.1 S.2.1 dX3_readTape_79 rfl (lv_at hl 1 rfl) ?_
  refine r_get S hK hP 14 3 rfl rfl inX3 7 (by decide) kw_242 (v := .int 0) rfl dX3_readTape_80 ?_
  refine r_if_ne S 0 rfl dX3_readTape_83 (tgt := 111) (by decide) (fun c => absurd c (by decide)) (fun _ => ?_)
  refine lv_aload_n S.1 S.2.1 dX3_readTape_86 rfl (lv_at hl 1 rfl) ?_
  refine r_get S hK hP 14 3 rfl rfl inX3 13 (by decide) kw_248 (v := .ref a1_1) rfl dX3_readTape_87 ?_
  refine lv_aload_n S.1 S.2.1 dX3_readTape_90 rfl (lv_at hl 1 rfl) ?_
  refine r_get S hK hP 14 3 rfl rfl inX3 11 (by decide) kw_246 (v := .ref (x 12)) rfl dX3_readTape_91 ?_
  refine lv_aload_n S.1 S.2.1 dX3_readTape_94 rfl (lv_at hl 1 rfl) ?_
  refine r_get S hK hP 14 3 rfl rfl inX3 12 (by decide) kw_247 (v := .int 0) rfl dX3_readTape_95 ?_
  refine call_q (wr := [(a1_1, .inr (5, [.int 0, .ref names_5, .ref thin_5, .ref thick_5, .ref leastBelow_5, .ref mostBelow_5, .int 0, .int 10, .int 20, .int 0, .int 0, .ref remainFrom_5, .ref remainTo_5, .int 0, .ref lineKind_5, .ref lineSays_5, .ref lineEnd_5, .ref code_5, .ref stack_5])), (names_5, .inl (cy 2, 10, .inr (.inl (fun _ => 0)))), (thin_5, .inl (cy 0, 10, .inl (fun _ => 0))), (thick_5, .inl (cy 0, 10, .inl (fun _ => 0))), (leastBelow_5, .inl (cy 0, 20, .inl (fun _ => 0))), (mostBelow_5, .inl (cy 0, 20, .inl (fun _ => 0))), (remainFrom_5, .inl (cy 0, 10, .inl (fun _ => (-1)))), (remainTo_5, .inl (cy 0, 10, .inl (fun _ => 0))), (lineKind_5, .inl (cy 0, 24, .inl (fun _ => 0))), (lineSays_5, .inl (cy 0, 24, .inl (fun _ => 0))), (lineEnd_5, .inl (cy 0, 24, .inl (fun _ => 0))), (code_5, .inl (cy 0, 0, .inl (fun _ => 0))), (stack_5, .inl (cy 0, 32, .inl (fun _ => 0))), ((x 10), .inr (3, [.ref (x 11), .int 0, .int 0, .int 0, .int 0, .long 0, .null, .int 0, .int 0, .int 0, .int 0, .ref (x 12), .int 0, .ref a1_1]))]) (runS_C (wc := [((x 12), .inl (cy 0, 1500, .inl (fun _ => 0)))]) (As := [.ref (x 12), .int 0]) (rest := [.ref a1_1]) S (kJ7_copyOf_59c91 l D cy x) hK hP hD [0] (by decide) rfl kw_887 kw_888 kw_146 kw_889 okJ7_copyOf_59c91 rfl (by decide) hl.1 rfl (Nat.le_of_ble_eq_true rfl) dX3_readTape_98 (by decide)) hP hD hS hA [0] [1, 2, 3, 4, 5, 6, 7, 8, 9, 10, 11, 12, 13, 14] rfl rfl (by decide) (by decide) (fun v98 u98 H locs w98 hP hD hS => ?_)
  obtain ⟨b_98, g_98⟩ := u98
  have hP : va_P D vwCl [(a1_1, .inr (5, [.int 0, .ref names_5, .ref thin_5, .ref thick_5, .ref leastBelow_5, .ref mostBelow_5, .int 0, .int 10, .int 20, .int 0, .int 0, .ref remainFrom_5, .ref remainTo_5, .int 0, .ref lineKind_5, .ref lineSays_5, .ref lineEnd_5, .ref code_5, .ref stack_5])), (names_5, .inl (cy 2, 10, .inr (.inl (fun _ => 0)))), (thin_5, .inl (cy 0, 10, .inl (fun _ => 0))), (thick_5, .inl (cy 0, 10, .inl (fun _ => 0))), (leastBelow_5, .inl (cy 0, 20, .inl (fun _ => 0))), (mostBelow_5, .inl (cy 0, 20, .inl (fun _ => 0))), (remainFrom_5, .inl (cy 0, 10, .inl (fun _ => (-1)))), (remainTo_5, .inl (cy 0, 10, .inl (fun _ => 0))), (lineKind_5, .inl (cy 0, 24, .inl (fun _ => 0))), (lineSays_5, .inl (cy 0, 24, .inl (fun _ => 0))), (lineEnd_5, .inl (cy 0, 24, .inl (fun _ => 0))), (code_5, .inl (cy 0, 0, .inl (fun _ => 0))), (stack_5, .inl (cy 0, 32, .inl (fun _ => 0))), ((x 10), .inr (3, [.ref (x 11), .int 0, .int 0, .int 0, .int 0, .long 0, .null, .int 0, .int 0, .int 0, .int 0, .ref (x 12), .int 0, .ref a1_1])), ((x 12), .inl (cy 0, 1500, .inl (fun _ => 0))), (b_98, .inl (cy 0, 0, .inl g_98))] H := hP
  have hD : va_D A [(a1_1, .inr (5, [.int 0, .ref names_5, .ref thin_5, .ref thick_5, .ref leastBelow_5, .ref mostBelow_5, .int 0, .int 10, .int 20, .int 0, .int 0, .ref remainFrom_5, .ref remainTo_5, .int 0, .ref lineKind_5, .ref lineSays_5, .ref lineEnd_5, .ref code_5, .ref stack_5])), (names_5, .inl (cy 2, 10, .inr (.inl (fun _ => 0)))), (thin_5, .inl (cy 0, 10, .inl (fun _ => 0))), (thick_5, .inl (cy 0, 10, .inl (fun _ => 0))), (leastBelow_5, .inl (cy 0, 20, .inl (fun _ => 0))), (mostBelow_5, .inl (cy 0, 20, .inl (fun _ => 0))), (remainFrom_5, .inl (cy 0, 10, .inl (fun _ => (-1)))), (remainTo_5, .inl (cy 0, 10, .inl (fun _ => 0))), (lineKind_5, .inl (cy 0, 24, .inl (fun _ => 0))), (lineSays_5, .inl (cy 0, 24, .inl (fun _ => 0))), (lineEnd_5, .inl (cy 0, 24, .inl (fun _ => 0))), (code_5, .inl (cy 0, 0, .inl (fun _ => 0))), (stack_5, .inl (cy 0, 32, .inl (fun _ => 0))), ((x 10), .inr (3, [.ref (x 11), .int 0, .int 0, .int 0, .int 0, .long 0, .null, .int 0, .int 0, .int 0, .int 0, .ref (x 12), .int 0, .ref a1_1])), ((x 12), .inl (cy 0, 1500, .inl (fun _ => 0))), (b_98, .inl (cy 0, 0, .inl g_98))] := hD
  subst w98
  refine r_put S hK hP hD hS 0 5 rfl rfl inX5 17 (by decide) tyX5 tyX5_ok nmX5 kw_335 (v := .ref b_98) rfl rfl rfl (Nat.le_of_ble_eq_true rfl) dX3_readTape_101 (fun H locs hP hD hS => ?_)
  have hP : va_P D vwCl [(a1_1, .inr (5, [.int 0, .ref names_5, .ref thin_5, .ref thick_5, .ref leastBelow_5, .ref mostBelow_5, .int 0, .int 10, .int 20, .int 0, .int 0, .ref remainFrom_5, .ref remainTo_5, .int 0, .ref lineKind_5, .ref lineSays_5, .ref lineEnd_5, .ref b_98, .ref stack_5])), (names_5, .inl (cy 2, 10, .inr (.inl (fun _ => 0)))), (thin_5, .inl (cy 0, 10, .inl (fun _ => 0))), (thick_5, .inl (cy 0, 10, .inl (fun _ => 0))), (leastBelow_5, .inl (cy 0, 20, .inl (fun _ => 0))), (mostBelow_5, .inl (cy 0, 20, .inl (fun _ => 0))), (remainFrom_5, .inl (cy 0, 10, .inl (fun _ => (-1)))), (remainTo_5, .inl (cy 0, 10, .inl (fun _ => 0))), (lineKind_5, .inl (cy 0, 24, .inl (fun _ => 0))), (lineSays_5, .inl (cy 0, 24, .inl (fun _ => 0))), (lineEnd_5, .inl (cy 0, 24, .inl (fun _ => 0))), (code_5, .inl (cy 0, 0, .inl (fun _ => 0))), (stack_5, .inl (cy 0, 32, .inl (fun _ => 0))), ((x 10), .inr (3, [.ref (x 11), .int 0, .int 0, .int 0, .int 0, .long 0, .null, .int 0, .int 0, .int 0, .int 0, .ref (x 12), .int 0, .ref a1_1])), ((x 12), .inl (cy 0, 1500, .inl (fun _ => 0))), (b_98, .inl (cy 0, 0, .inl g_98))] H := hP
  have hD : va_D A [(a1_1, .inr (5, [.int 0, .ref names_5, .ref thin_5, .ref thick_5, .ref leastBelow_5, .ref mostBelow_5, .int 0, .int 10, .int 20, .int 0, .int 0, .ref remainFrom_5, .ref remainTo_5, .int 0, .ref lineKind_5, .ref lineSays_5, .ref lineEnd_5, .ref b_98, .ref stack_5])), (names_5, .inl (cy 2, 10, .inr (.inl (fun _ => 0)))), (thin_5, .inl (cy 0, 10, .inl (fun _ => 0))), (thick_5, .inl (cy 0, 10, .inl (fun _ => 0))), (leastBelow_5, .inl (cy 0, 20, .inl (fun _ => 0))), (mostBelow_5, .inl (cy 0, 20, .inl (fun _ => 0))), (remainFrom_5, .inl (cy 0, 10, .inl (fun _ => (-1)))), (remainTo_5, .inl (cy 0, 10, .inl (fun _ => 0))), (lineKind_5, .inl (cy 0, 24, .inl (fun _ => 0))), (lineSays_5, .inl (cy 0, 24, .inl (fun _ => 0))), (lineEnd_5, .inl (cy 0, 24, .inl (fun _ => 0))), (code_5, .inl (cy 0, 0, .inl (fun _ => 0))), (stack_5, .inl (cy 0, 32, .inl (fun _ => 0))), ((x 10), .inr (3, [.ref (x 11), .int 0, .int 0, .int 0, .int 0, .long 0, .null, .int 0, .int 0, .int 0, .int 0, .ref (x 12), .int 0, .ref a1_1])), ((x 12), .inl (cy 0, 1500, .inl (fun _ => 0))), (b_98, .inl (cy 0, 0, .inl g_98))] := hD
  refine lv_aload_n S.1 S.2.1 dX3_readTape_104 rfl (lv_at hl 1 rfl) ?_
  refine r_get S hK hP 13 3 rfl rfl inX3 13 (by decide) kw_248 (v := .ref a1_1) rfl dX3_readTape_105 ?_
  refine call_v (wr := [(names_5, .inl (cy 2, 10, .inr (.inl (fun _ => 0)))), (thin_5, .inl (cy 0, 10, .inl (fun _ => 0))), (thick_5, .inl (cy 0, 10, .inl (fun _ => 0))), (leastBelow_5, .inl (cy 0, 20, .inl (fun _ => 0))), (mostBelow_5, .inl (cy 0, 20, .inl (fun _ => 0))), (remainFrom_5, .inl (cy 0, 10, .inl (fun _ => (-1)))), (remainTo_5, .inl (cy 0, 10, .inl (fun _ => 0))), (lineKind_5, .inl (cy 0, 24, .inl (fun _ => 0))), (lineSays_5, .inl (cy 0, 24, .inl (fun _ => 0))), (lineEnd_5, .inl (cy 0, 24, .inl (fun _ => 0))), (code_5, .inl (cy 0, 0, .inl (fun _ => 0))), (stack_5, .inl (cy 0, 32, .inl (fun _ => 0))), ((x 10), .inr (3, [.ref (x 11), .int 0, .int 0, .int 0, .int 0, .long 0, .null, .int 0, .int 0, .int 0, .int 0, .ref (x 12), .int 0, .ref a1_1])), ((x 12), .inl (cy 0, 1500, .inl (fun _ => 0))), (b_98, .inl (cy 0, 0, .inl g_98))]) (runV_C (wc := [(a1_1, .inr (5, [.int 0, .ref names_5, .ref thin_5, .ref thick_5, .ref leastBelow_5, .ref mostBelow_5, .int 0, .int 10, .int 20, .int 0, .int 0, .ref remainFrom_5, .ref remainTo_5, .int 0, .ref lineKind_5, .ref lineSays_5, .ref lineEnd_5, .ref b_98, .ref stack_5]))]) (As := []) (rest := []) S (kX5_addUp l D cy a1_1 names_5 thin_5 thick_5 leastBelow_5 mostBelow_5 remainFrom_5 remainTo_5 lineKind_5 lineSays_5 lineEnd_5 b_98 stack_5) hK hP hD [0] (by decide) rfl 0 5 rfl rfl kw_901 kw_902 kw_903 kw_149 kw_904 okX5_addUp rfl (by decide) hl.1 rfl (Nat.le_of_ble_eq_true rfl) dX3_readTape_108 (by decide)) hP hD hS hA [0] [1, 2, 3, 4, 5, 6, 7, 8, 9, 10, 11, 12, 13, 14, 15] rfl rfl (by decide) (by decide) (fun u108 H locs w108 hP hD hS => ?_)
  have hP : va_P D vwCl [(names_5, .inl (cy 2, 10, .inr (.inl (fun _ => 0)))), (thin_5, .inl (cy 0, 10, .inl (fun _ => 0))), (thick_5, .inl (cy 0, 10, .inl (fun _ => 0))), (leastBelow_5, .inl (cy 0, 20, .inl (fun _ => 0))), (mostBelow_5, .inl (cy 0, 20, .inl (fun _ => 0))), (remainFrom_5, .inl (cy 0, 10, .inl (fun _ => (-1)))), (remainTo_5, .inl (cy 0, 10, .inl (fun _ => 0))), (lineKind_5, .inl (cy 0, 24, .inl (fun _ => 0))), (lineSays_5, .inl (cy 0, 24, .inl (fun _ => 0))), (lineEnd_5, .inl (cy 0, 24, .inl (fun _ => 0))), (code_5, .inl (cy 0, 0, .inl (fun _ => 0))), (stack_5, .inl (cy 0, 32, .inl (fun _ => 0))), ((x 10), .inr (3, [.ref (x 11), .int 0, .int 0, .int 0, .int 0, .long 0, .null, .int 0, .int 0, .int 0, .int 0, .ref (x 12), .int 0, .ref a1_1])), ((x 12), .inl (cy 0, 1500, .inl (fun _ => 0))), (b_98, .inl (cy 0, 0, .inl g_98)), (a1_1, .inr (5, [.int 0, .ref names_5, .ref thin_5, .ref thick_5, .ref leastBelow_5, .ref mostBelow_5, .int 0, .int 10, .int 20, .int 0, .int 0, .ref remainFrom_5, .ref remainTo_5, .int 0, .ref lineKind_5, .ref lineSays_5, .ref lineEnd_5, .ref b_98, .ref stack_5]))] H := hP
  have hD : va_D A [(names_5, .inl (cy 2, 10, .inr (.inl (fun _ => 0)))), (thin_5, .inl (cy 0, 10, .inl (fun _ => 0))), (thick_5, .inl (cy 0, 10, .inl (fun _ => 0))), (leastBelow_5, .inl (cy 0, 20, .inl (fun _ => 0))), (mostBelow_5, .inl (cy 0, 20, .inl (fun _ => 0))), (remainFrom_5, .inl (cy 0, 10, .inl (fun _ => (-1)))), (remainTo_5, .inl (cy 0, 10, .inl (fun _ => 0))), (lineKind_5, .inl (cy 0, 24, .inl (fun _ => 0))), (lineSays_5, .inl (cy 0, 24, .inl (fun _ => 0))), (lineEnd_5, .inl (cy 0, 24, .inl (fun _ => 0))), (code_5, .inl (cy 0, 0, .inl (fun _ => 0))), (stack_5, .inl (cy 0, 32, .inl (fun _ => 0))), ((x 10), .inr (3, [.ref (x 11), .int 0, .int 0, .int 0, .int 0, .long 0, .null, .int 0, .int 0, .int 0, .int 0, .ref (x 12), .int 0, .ref a1_1])), ((x 12), .inl (cy 0, 1500, .inl (fun _ => 0))), (b_98, .inl (cy 0, 0, .inl g_98)), (a1_1, .inr (5, [.int 0, .ref names_5, .ref thin_5, .ref thick_5, .ref leastBelow_5, .ref mostBelow_5, .int 0, .int 10, .int 20, .int 0, .int 0, .ref remainFrom_5, .ref remainTo_5, .int 0, .ref lineKind_5, .ref lineSays_5, .ref lineEnd_5, .ref b_98, .ref stack_5]))] := hD
  refine lv_aload_n S.1 S.2.1 dX3_readTape_111 rfl (lv_at hl 1 rfl) ?_
  refine r_get S hK hP 12 3 rfl rfl inX3 7 (by decide) kw_242 (v := .int 0) rfl dX3_readTape_112 ?_
  exact ci_ret (u := (a1_1, [.int 0, .ref names_5, .ref thin_5, .ref thick_5, .ref leastBelow_5, .ref mostBelow_5, .int 0, .int 10, .int 20, .int 0, .int 0, .ref remainFrom_5, .ref remainTo_5, .int 0, .ref lineKind_5, .ref lineSays_5, .ref lineEnd_5, .ref b_98, .ref stack_5])) S hr hlk rfl hK (hP.sub [12, 15] rfl) (hD.sub [12, 15] (by decide) rfl) hS (rfl) (by decide) (by decide) dX3_readTape_115
set_option maxHeartbeats 4000000 in
set_option maxRecDepth 100000 in
theorem kX4_enact (l : Launch) (D : va_G) (cy : Nat → ClassId) (x : Nat → Nat) (md : Nat) (fs : List Value) : CI l D cy yX4_enact cX4_enact 4 (some .boolean) 0 0 0 0 [.ref (x 13), .int 0, .ref md] [((x 13), .inr (4, [.ref (x 14), .ref (x 15), .int 0, .ref (x 16)])), ((x 14), .inl (cy 0, 8, .inl (fun _ => 0))), ((x 15), .inl (cy 8, 8, .inr (.inr (.inr (.inr (fun _ => none)))))), (md, .inr (5, fs))] (fun (v : Int32) (u : Unit) => v = 1) (fun (u : Unit) => []) := by
  refine ci_go (by decide) (Nat.le_of_ble_eq_true rfl) (fun p e s m below meth c ls A hA S hr hlk hnm hP hK hD hl => ?_)
  have hS : va_S A s.heap s.heap [] := va_S.rf
  have hl : lv_has ls 4 [(0, .ref (x 13)), (1, .int 0), (2, .ref md)] := hl
  refine lv_aload_n S.1 S.2.1 dX4_enact_0 rfl (lv_at hl 0 rfl) ?_
  refine r_get S hK hP 0 4 rfl rfl inX4 2 (by decide) kw_379 (v := .int 0) rfl dX4_enact_1 ?_
  refine r_if_le S 0 rfl dX4_enact_4 (tgt := 26) (by decide) (fun _ => ?_) (fun c => absurd c (by decide))
  refine lv_iconst (v := 0) S.1 S.2.1 dX4_enact_26 (by decide) ?_
  refine lv_istore_n (lv' := [(3, .int 0), (0, .ref (x 13)), (1, .int 0), (2, .ref md)]) S.1 S.2.1 dX4_enact_27 rfl hl (by decide) rfl (fun ls hl => ?_)
  refine lv_iload_n S.1 S.2.1 dX4_enact_28 rfl (lv_at hl 0 rfl) ?_
  refine r_if_ne S 0 rfl dX4_enact_29 (tgt := 53) (by decide) (fun c => absurd c (by decide)) (fun _ => ?_)
  refine lv_aload_n S.1 S.2.1 dX4_enact_32 rfl (lv_at hl 1 rfl) ?_
  refine r_get S hK hP 0 4 rfl rfl inX4 2 (by decide) kw_379 (v := .int 0) rfl dX4_enact_33 ?_
  refine lv_bipush (v := 8) S.1 S.2.1 dX4_enact_36 (by decide) ?_
  refine r_icmp_lt S 0 8 rfl rfl dX4_enact_38 (tgt := 43) (by decide) (fun _ => ?_) (fun c => absurd c (by decide))
  refine lv_aload_n S.1 S.2.1 dX4_enact_43 rfl (lv_at hl 1 rfl) ?_
  refine lv_dup S.1 S.2.1 dX4_enact_44 rfl ?_
  refine r_get S hK hP 0 4 rfl rfl inX4 2 (by decide) kw_379 (v := .int 0) rfl dX4_enact_45 ?_
  refine lv_iconst (v := 1) S.1 S.2.1 dX4_enact_48 (by decide) ?_
  refine r_iadd S dX4_enact_49 (v := 1) (by decide) ?_
  refine r_put S hK hP hD hS 0 4 rfl rfl inX4 2 (by decide) tyX4 tyX4_ok nmX4 kw_379 (v := .int 1) rfl rfl rfl (Nat.le_of_ble_eq_true rfl) dX4_enact_50 (fun H locs hP hD hS => ?_)
  have hP : va_P D vwCl [((x 13), .inr (4, [.ref (x 14), .ref (x 15), .int 1, .ref (x 16)])), ((x 14), .inl (cy 0, 8, .inl (fun _ => 0))), ((x 15), .inl (cy 8, 8, .inr (.inr (.inr (.inr (fun _ => none)))))), (md, .inr (5, fs))] H := hP
  have hD : va_D A [((x 13), .inr (4, [.ref (x 14), .ref (x 15), .int 1, .ref (x 16)])), ((x 14), .inl (cy 0, 8, .inl (fun _ => 0))), ((x 15), .inl (cy 8, 8, .inr (.inr (.inr (.inr (fun _ => none)))))), (md, .inr (5, fs))] := hD
  refine lv_aload_n S.1 S.2.1 dX4_enact_53 rfl (lv_at hl 1 rfl) ?_
  refine r_get S hK hP 0 4 rfl rfl inX4 0 (by decide) kw_377 (v := .ref (x 14)) rfl dX4_enact_54 ?_
  refine lv_aload_n S.1 S.2.1 dX4_enact_57 rfl (lv_at hl 1 rfl) ?_
  refine r_get S hK hP 0 4 rfl rfl inX4 2 (by decide) kw_379 (v := .int 1) rfl dX4_enact_58 ?_
  refine lv_iconst (v := 1) S.1 S.2.1 dX4_enact_61 (by decide) ?_
  refine r_isub S dX4_enact_62 (v := 0) (by decide) ?_
  refine lv_iload_n S.1 S.2.1 dX4_enact_63 rfl (lv_at hl 2 rfl) ?_
  refine r_iast S hK hP hD hS 1 0 rfl rfl (0) rfl (by decide) (by decide) dX4_enact_64 (fun H locs hP hD hS => ?_)
  have hP : va_P D vwCl [((x 13), .inr (4, [.ref (x 14), .ref (x 15), .int 1, .ref (x 16)])), ((x 14), .inl (cy 0, 8, .inl (upd (fun _ => 0) (0) 0))), ((x 15), .inl (cy 8, 8, .inr (.inr (.inr (.inr (fun _ => none)))))), (md, .inr (5, fs))] H := hP
  have hD : va_D A [((x 13), .inr (4, [.ref (x 14), .ref (x 15), .int 1, .ref (x 16)])), ((x 14), .inl (cy 0, 8, .inl (upd (fun _ => 0) (0) 0))), ((x 15), .inl (cy 8, 8, .inr (.inr (.inr (.inr (fun _ => none)))))), (md, .inr (5, fs))] := hD
  refine lv_aload_n S.1 S.2.1 dX4_enact_65 rfl (lv_at hl 1 rfl) ?_
  refine r_get S hK hP 0 4 rfl rfl inX4 1 (by decide) kw_378 (v := .ref (x 15)) rfl dX4_enact_66 ?_
  refine lv_aload_n S.1 S.2.1 dX4_enact_69 rfl (lv_at hl 1 rfl) ?_
  refine r_get S hK hP 0 4 rfl rfl inX4 2 (by decide) kw_379 (v := .int 1) rfl dX4_enact_70 ?_
  refine lv_iconst (v := 1) S.1 S.2.1 dX4_enact_73 (by decide) ?_
  refine r_isub S dX4_enact_74 (v := 0) (by decide) ?_
  refine lv_aload_n S.1 S.2.1 dX4_enact_75 rfl (lv_at hl 3 rfl) ?_
  refine r_aast S hK hP hD hS 2 8 3 5 rfl rfl rfl rfl (0) rfl (by decide) (by decide) dX4_enact_76 (fun H locs hP hD hS => ?_)
  have hP : va_P D vwCl [((x 13), .inr (4, [.ref (x 14), .ref (x 15), .int 1, .ref (x 16)])), ((x 14), .inl (cy 0, 8, .inl (upd (fun _ => 0) (0) 0))), ((x 15), .inl (cy 8, 8, .inr (.inr (.inr (.inr (va_up (fun _ => none) (0) (some md))))))), (md, .inr (5, fs))] H := hP
  have hD : va_D A [((x 13), .inr (4, [.ref (x 14), .ref (x 15), .int 1, .ref (x 16)])), ((x 14), .inl (cy 0, 8, .inl (upd (fun _ => 0) (0) 0))), ((x 15), .inl (cy 8, 8, .inr (.inr (.inr (.inr (va_up (fun _ => none) (0) (some md))))))), (md, .inr (5, fs))] := hD
  refine lv_iconst (v := 1) S.1 S.2.1 dX4_enact_77 (by decide) ?_
  exact ci_ret (u := ()) S hr hlk (by decide) hK (hP.sub [] rfl) (hD.sub [] (by decide) rfl) hS (rfl) (by decide) (by decide) dX4_enact_78
set_option maxHeartbeats 4000000 in
set_option maxRecDepth 100000 in
theorem kX11_rules (l : Launch) (D : va_G) (cy : Nat → ClassId) (x : Nat → Nat) : CI l D cy yX11_rules cX11_rules 2 (some .int) 3 103 14 213 [.ref (x 0)] [((x 0), .inr (10, [.int 0, .int (-1), .ref (x 1), .ref (x 9), .int 0, .ref (x 10), .ref (x 13), .ref (x 16), .ref (x 29), .int 0, .int 0, .ref (x 30), .int 0, .ref (x 31), .ref (x 42), .int 0, .int 0, .null, .ref (x 43)])), ((x 10), .inr (3, [.ref (x 11), .int 0, .int 0, .int 0, .int 0, .long 0, .null, .int 0, .int 0, .int 0, .int 0, .ref (x 12), .int 0, .null])), ((x 12), .inl (cy 0, 1500, .inl (fun _ => 0))), ((x 13), .inr (4, [.ref (x 14), .ref (x 15), .int 0, .ref (x 16)])), ((x 14), .inl (cy 0, 8, .inl (fun _ => 0))), ((x 15), .inl (cy 8, 8, .inr (.inr (.inr (.inr (fun _ => none))))))] (fun (v : Int32) (u : Unit) => v = 0) (fun (u : Unit) => []) := by
  refine ci_go (by decide) (Nat.le_of_ble_eq_true rfl) (fun p e s m below meth c ls A hA S hr hlk hnm hP hK hD hl => ?_)
  have hS : va_S A s.heap s.heap [] := va_S.rf
  have hl : lv_has ls 2 [(0, .ref (x 0))] := hl
  refine lv_aload_n S.1 S.2.1 dX11_rules_0 rfl (lv_at hl 0 rfl) ?_
  refine r_get S hK hP 0 10 rfl rfl inX11 5 (by decide) kw_473 (v := .ref (x 10)) rfl dX11_rules_1 ?_
  refine call_i (wr := [((x 0), .inr (10, [.int 0, .int (-1), .ref (x 1), .ref (x 9), .int 0, .ref (x 10), .ref (x 13), .ref (x 16), .ref (x 29), .int 0, .int 0, .ref (x 30), .int 0, .ref (x 31), .ref (x 42), .int 0, .int 0, .null, .ref (x 43)])), ((x 13), .inr (4, [.ref (x 14), .ref (x 15), .int 0, .ref (x 16)])), ((x 14), .inl (cy 0, 8, .inl (fun _ => 0))), ((x 15), .inl (cy 8, 8, .inr (.inr (.inr (.inr (fun _ => none))))))]) (runV_C (wc := [((x 10), .inr (3, [.ref (x 11), .int 0, .int 0, .int 0, .int 0, .long 0, .null, .int 0, .int 0, .int 0, .int 0, .ref (x 12), .int 0, .null])), ((x 12), .inl (cy 0, 1500, .inl (fun _ => 0)))]) (As := []) (rest := []) S (kX3_readTape l D cy x) hK hP hD [1, 2] (by decide) rfl 0 3 rfl rfl kw_667 kw_668 kw_669 kw_147 kw_670 okX3_readTape rfl (by decide) hl.1 rfl (Nat.le_of_ble_eq_true rfl) dX11_rules_4 (by decide)) hP hD hS hA [1, 2] [0, 3, 4, 5] rfl rfl (by decide) (by decide) (fun v4 u4 H locs w4 hP hD hS => ?_)
  obtain ⟨md_4, fs_4⟩ := u4
  have hP : va_P D vwCl [((x 0), .inr (10, [.int 0, .int (-1), .ref (x 1), .ref (x 9), .int 0, .ref (x 10), .ref (x 13), .ref (x 16), .ref (x 29), .int 0, .int 0, .ref (x 30), .int 0, .ref (x 31), .ref (x 42), .int 0, .int 0, .null, .ref (x 43)])), ((x 13), .inr (4, [.ref (x 14), .ref (x 15), .int 0, .ref (x 16)])), ((x 14), .inl (cy 0, 8, .inl (fun _ => 0))), ((x 15), .inl (cy 8, 8, .inr (.inr (.inr (.inr (fun _ => none)))))), ((x 10), .inr (3, [.ref (x 11), .int 0, .int 0, .int 0, .int 0, .long 0, .null, .int 0, .int 0, .int 0, .int 0, .ref (x 12), .int 0, .ref md_4])), (md_4, .inr (5, fs_4))] H := hP
  have hD : va_D A [((x 0), .inr (10, [.int 0, .int (-1), .ref (x 1), .ref (x 9), .int 0, .ref (x 10), .ref (x 13), .ref (x 16), .ref (x 29), .int 0, .int 0, .ref (x 30), .int 0, .ref (x 31), .ref (x 42), .int 0, .int 0, .null, .ref (x 43)])), ((x 13), .inr (4, [.ref (x 14), .ref (x 15), .int 0, .ref (x 16)])), ((x 14), .inl (cy 0, 8, .inl (fun _ => 0))), ((x 15), .inl (cy 8, 8, .inr (.inr (.inr (.inr (fun _ => none)))))), ((x 10), .inr (3, [.ref (x 11), .int 0, .int 0, .int 0, .int 0, .long 0, .null, .int 0, .int 0, .int 0, .int 0, .ref (x 12), .int 0, .ref md_4])), (md_4, .inr (5, fs_4))] := hD
  subst w4
  refine lv_istore_n (lv' := [(1, .int 0), (0, .ref (x 0))]) S.1 S.2.1 dX11_rules_7 rfl hl (by decide) rfl (fun ls hl => ?_)
  refine lv_iload_n S.1 S.2.1 dX11_rules_8 rfl (lv_at hl 0 rfl) ?_
  refine r_if_eq S 0 rfl dX11_rules_9 (tgt := 14) (by decide) (fun _ => ?_) (fun c => absurd c (by decide))
  refine lv_aload_n S.1 S.2.1 dX11_rules_14 rfl (lv_at hl 1 rfl) ?_
  refine r_get S hK hP 0 10 rfl rfl inX11 6 (by decide) kw_474 (v := .ref (x 13)) rfl dX11_rules_15 ?_
  refine lv_aload_n S.1 S.2.1 dX11_rules_18 rfl (lv_at hl 1 rfl) ?_
  refine r_get S hK hP 0 10 rfl rfl inX11 0 (by decide) kw_468 (v := .int 0) rfl dX11_rules_19 ?_
  refine lv_aload_n S.1 S.2.1 dX11_rules_22 rfl (lv_at hl 1 rfl) ?_
  refine r_get S hK hP 0 10 rfl rfl inX11 5 (by decide) kw_473 (v := .ref (x 10)) rfl dX11_rules_23 ?_
  refine r_get S hK hP 4 3 rfl rfl inX3 13 (by decide) kw_249 (v := .ref md_4) rfl dX11_rules_26 ?_
  refine call_i (wr := [((x 0), .inr (10, [.int 0, .int (-1), .ref (x 1), .ref (x 9), .int 0, .ref (x 10), .ref (x 13), .ref (x 16), .ref (x 29), .int 0, .int 0, .ref (x 30), .int 0, .ref (x 31), .ref (x 42), .int 0, .int 0, .null, .ref (x 43)])), ((x 10), .inr (3, [.ref (x 11), .int 0, .int 0, .int 0, .int 0, .long 0, .null, .int 0, .int 0, .int 0, .int 0, .ref (x 12), .int 0, .ref md_4]))]) (runV_C (wc := [((x 13), .inr (4, [.ref (x 14), .ref (x 15), .int 0, .ref (x 16)])), ((x 14), .inl (cy 0, 8, .inl (fun _ => 0))), ((x 15), .inl (cy 8, 8, .inr (.inr (.inr (.inr (fun _ => none)))))), (md_4, .inr (5, fs_4))]) (As := [.int 0, .ref md_4]) (rest := []) S (kX4_enact l D cy x md_4 fs_4) hK hP hD [1, 2, 3, 5] (by decide) rfl 0 4 rfl rfl kw_905 kw_906 kw_907 kw_148 kw_908 okX4_enact rfl (by decide) hl.1 rfl (Nat.le_of_ble_eq_true rfl) dX11_rules_29 (by decide)) hP hD hS hA [1, 2, 3, 5] [0, 4] rfl rfl (by decide) (by decide) (fun v29 u29 H locs w29 hP hD hS => ?_)
  have hP : va_P D vwCl [((x 0), .inr (10, [.int 0, .int (-1), .ref (x 1), .ref (x 9), .int 0, .ref (x 10), .ref (x 13), .ref (x 16), .ref (x 29), .int 0, .int 0, .ref (x 30), .int 0, .ref (x 31), .ref (x 42), .int 0, .int 0, .null, .ref (x 43)])), ((x 10), .inr (3, [.ref (x 11), .int 0, .int 0, .int 0, .int 0, .long 0, .null, .int 0, .int 0, .int 0, .int 0, .ref (x 12), .int 0, .ref md_4]))] H := hP
  have hD : va_D A [((x 0), .inr (10, [.int 0, .int (-1), .ref (x 1), .ref (x 9), .int 0, .ref (x 10), .ref (x 13), .ref (x 16), .ref (x 29), .int 0, .int 0, .ref (x 30), .int 0, .ref (x 31), .ref (x 42), .int 0, .int 0, .null, .ref (x 43)])), ((x 10), .inr (3, [.ref (x 11), .int 0, .int 0, .int 0, .int 0, .long 0, .null, .int 0, .int 0, .int 0, .int 0, .ref (x 12), .int 0, .ref md_4]))] := hD
  subst w29
  refine r_if_ne S 1 rfl dX11_rules_32 (tgt := 37) (by decide) (fun _ => ?_) (fun c => absurd c (by decide))
  refine lv_aload_n S.1 S.2.1 dX11_rules_37 rfl (lv_at hl 1 rfl) ?_
  refine lv_iconst (v := 0) S.1 S.2.1 dX11_rules_38 (by decide) ?_
  refine r_put S hK hP hD hS 0 10 rfl rfl inX11 15 (by decide) tyX11 tyX11_ok nmX11 kw_483 (v := .int 0) rfl (by decide) (by decide) (Nat.le_of_ble_eq_true rfl) dX11_rules_39 (fun H locs hP hD hS => ?_)
  have hP : va_P D vwCl [((x 0), .inr (10, [.int 0, .int (-1), .ref (x 1), .ref (x 9), .int 0, .ref (x 10), .ref (x 13), .ref (x 16), .ref (x 29), .int 0, .int 0, .ref (x 30), .int 0, .ref (x 31), .ref (x 42), .int 0, .int 0, .null, .ref (x 43)])), ((x 10), .inr (3, [.ref (x 11), .int 0, .int 0, .int 0, .int 0, .long 0, .null, .int 0, .int 0, .int 0, .int 0, .ref (x 12), .int 0, .ref md_4]))] H := hP
  have hD : va_D A [((x 0), .inr (10, [.int 0, .int (-1), .ref (x 1), .ref (x 9), .int 0, .ref (x 10), .ref (x 13), .ref (x 16), .ref (x 29), .int 0, .int 0, .ref (x 30), .int 0, .ref (x 31), .ref (x 42), .int 0, .int 0, .null, .ref (x 43)])), ((x 10), .inr (3, [.ref (x 11), .int 0, .int 0, .int 0, .int 0, .long 0, .null, .int 0, .int 0, .int 0, .int 0, .ref (x 12), .int 0, .ref md_4]))] := hD
  refine lv_iconst (v := 0) S.1 S.2.1 dX11_rules_42 (by decide) ?_
  exact ci_ret (u := ()) S hr hlk rfl hK (hP.sub [] rfl) (hD.sub [] (by decide) rfl) hS (rfl) (by decide) (by decide) dX11_rules_43
set_option maxHeartbeats 4000000 in
set_option maxRecDepth 100000 in
theorem kX11_fault (l : Launch) (D : va_G) (cy : Nat → ClassId) (x : Nat → Nat) (p0 : Int32) (p1 : Int32) (p2 : Int32) (p3 : Int32) (p4 : Int32) (p5 : Int32) (p6 : Int32) (z0 : Int) (h0 : p0.toInt = z0) (z1 : Int) (h1 : p1.toInt = z1) (z2 : Int) (h2 : p2.toInt = z2) (z3 : Int) (h3 : p3.toInt = z3) (z4 : Int) (h4 : p4.toInt = z4) (z5 : Int) (h5 : p5.toInt = z5) (z6 : Int) (h6 : p6.toInt = z6) (hb2 : z2 = 0 ∨ z2 = 1) : CI l D cy yX11_fault cX11_fault 10 (some .int) 2 46 1 6 [.ref (x 0), .int p0, .int p1, .int p2, .int p3, .int p4, .int p5, .int p6] [((x 0), .inr (10, [.int 0, .int (-1), .ref (x 1), .ref (x 9), .int 0, .ref (x 10), .ref (x 13), .ref (x 16), .ref (x 29), .int 0, .int 0, .ref (x 30), .int 0, .ref (x 31), .ref (x 42), .int 0, .int 0, .null, .ref (x 43)])), ((x 29), .inl (cy 5, 4, .inr (.inr (.inr (.inr (fun _ => none))))))] (fun (v : Int32) (u : Unit) => (v = 0 ∧ ((0 ≤ z0 ∧ z0 ≤ 11 ∧ 0 ≤ z1 ∧ z1 ≤ 7 ∧ 1 ≤ z3 ∧ z3 ≤ 12 ∧ -300 ≤ z4 ∧ z5 ≤ 300 ∧ z4 ≤ z5 ∧ 1 ≤ z6 ∧ z6 ≤ 99 ∧ (¬ z2 = 0 → z0 + 1 < 12 ∧ z1 + z3 ≤ 8) ∧ (z2 = 0 → z1 + 1 < 8 ∧ z0 + z3 ≤ 12)))) ∨ (v = (-1) ∧ (¬ (0 ≤ z0 ∧ z0 ≤ 11 ∧ 0 ≤ z1 ∧ z1 ≤ 7 ∧ 1 ≤ z3 ∧ z3 ≤ 12 ∧ -300 ≤ z4 ∧ z5 ≤ 300 ∧ z4 ≤ z5 ∧ 1 ≤ z6 ∧ z6 ≤ 99 ∧ (¬ z2 = 0 → z0 + 1 < 12 ∧ z1 + z3 ≤ 8) ∧ (z2 = 0 → z1 + 1 < 8 ∧ z0 + z3 ≤ 12))))) (fun (u : Unit) => []) := by
  refine ci_go (by decide) (Nat.le_of_ble_eq_true rfl) (fun p e s m below meth c ls A hA S hr hlk hnm hP hK hD hl => ?_)
  have hS : va_S A s.heap s.heap [] := va_S.rf
  have hl : lv_has ls 10 [(0, .ref (x 0)), (1, .int p0), (2, .int p1), (3, .int p2), (4, .int p3), (5, .int p4), (6, .int p5), (7, .int p6)] := hl
  refine lv_iload_n S.1 S.2.1 dX11_fault_0 rfl (lv_at hl 1 rfl) ?_
  refine lv_iload_n S.1 S.2.1 dX11_fault_1 rfl (lv_at hl 2 rfl) ?_
  refine call_ri (runS_R (wc := []) (As := [.int p0, .int p1]) (rest := []) S (kX11_cellAt l D cy p0 p1 z0 h0 z1 h1) hK hP [] rfl kw_538 kw_539 kw_144 kw_540 okX11_cellAt rfl (by decide) hl.1 rfl (Nat.le_of_ble_eq_true rfl) dX11_fault_2 (by decide)) (fun v2 w2 => ?_)
  rcases w2 with ⟨rfl, w2_0_0⟩ | ⟨cx_2, cl_2, rfl, w2_1_0, w2_1_1, w2_1_2, w2_1_3⟩
  · refine lv_istore (lv' := [(8, .int (-1)), (0, .ref (x 0)), (1, .int p0), (2, .int p1), (3, .int p2), (4, .int p3), (5, .int p4), (6, .int p5), (7, .int p6)]) S.1 S.2.1 dX11_fault_5 hl (by decide) rfl (fun ls hl => ?_)
    refine lv_iload S.1 S.2.1 dX11_fault_7 (lv_at hl 0 rfl) ?_
    refine lv_iconst (v := (-1)) S.1 S.2.1 dX11_fault_9 (by decide) ?_
    refine r_icmp_eq S (-1) (-1) rfl rfl dX11_fault_10 (tgt := 34) (by decide) (fun _ => ?_) (fun c => absurd c (by decide))
    refine lv_iconst (v := (-1)) S.1 S.2.1 dX11_fault_34 (by decide) ?_
    exact ci_ret (u := ()) S hr hlk rfl hK (hP.sub [] rfl) (hD.sub [] (by decide) rfl) hS (Or.inr (⟨rfl, (by omega)⟩)) (by decide) (by decide) dX11_fault_35
  · refine lv_istore (lv' := [(8, .int (nI (12 * cl_2 + cx_2))), (0, .ref (x 0)), (1, .int p0), (2, .int p1), (3, .int p2), (4, .int p3), (5, .int p4), (6, .int p5), (7, .int p6)]) S.1 S.2.1 dX11_fault_5 hl (by decide) rfl (fun ls hl => ?_)
    refine lv_iload S.1 S.2.1 dX11_fault_7 (lv_at hl 0 rfl) ?_
    refine lv_iconst (v := (-1)) S.1 S.2.1 dX11_fault_9 (by decide) ?_
    refine r_icmp_eq S ((12 * cl_2 + cx_2 : Nat) : Int) (-1) (nI_toInt (by omega)) rfl dX11_fault_10 (tgt := 34) (by decide) (fun c => absurd c (by omega)) (fun _ => ?_)
    refine lv_aload_n S.1 S.2.1 dX11_fault_13 rfl (lv_at hl 1 rfl) ?_
    refine r_get S hK hP 0 10 rfl rfl inX11 9 (by decide) kw_477 (v := .int 0) rfl dX11_fault_14 ?_
    refine lv_iconst (v := 4) S.1 S.2.1 dX11_fault_17 (by decide) ?_
    refine r_icmp_ge S 0 4 rfl rfl dX11_fault_18 (tgt := 34) (by decide) (fun c => absurd c (by decide)) (fun _ => ?_)
    refine lv_iload S.1 S.2.1 dX11_fault_21 (lv_at hl 5 rfl) ?_
    refine lv_iconst (v := 1) S.1 S.2.1 dX11_fault_23 (by decide) ?_
    refine r_icmp_lt S z3 1 h3 rfl dX11_fault_24 (tgt := 34) (by decide) (fun e_24_1 => ?_) (fun e_24_1 => ?_)
    · refine lv_iconst (v := (-1)) S.1 S.2.1 dX11_fault_34 (by decide) ?_
      exact ci_ret (u := ()) S hr hlk rfl hK (hP.sub [] rfl) (hD.sub [] (by decide) rfl) hS (Or.inr (⟨rfl, (by omega)⟩)) (by decide) (by decide) dX11_fault_35
    · refine lv_iload S.1 S.2.1 dX11_fault_27 (lv_at hl 5 rfl) ?_
      refine lv_bipush (v := 12) S.1 S.2.1 dX11_fault_29 (by decide) ?_
      refine r_icmp_le S z3 12 h3 rfl dX11_fault_31 (tgt := 36) (by decide) (fun e_31_2 => ?_) (fun e_31_2 => ?_)
      · refine lv_iload S.1 S.2.1 dX11_fault_36 (lv_at hl 6 rfl) ?_
        refine lv_sipush (v := (-300)) S.1 S.2.1 dX11_fault_38 (by decide) ?_
        refine r_icmp_lt S z4 (-300) h4 rfl dX11_fault_41 (tgt := 72) (by decide) (fun e_41_3 => ?_) (fun e_41_3 => ?_)
        · refine lv_iconst (v := (-1)) S.1 S.2.1 dX11_fault_72 (by decide) ?_
          exact ci_ret (u := ()) S hr hlk rfl hK (hP.sub [] rfl) (hD.sub [] (by decide) rfl) hS (Or.inr (⟨rfl, (by omega)⟩)) (by decide) (by decide) dX11_fault_73
        · refine lv_iload S.1 S.2.1 dX11_fault_44 (lv_at hl 7 rfl) ?_
          refine lv_sipush (v := 300) S.1 S.2.1 dX11_fault_46 (by decide) ?_
          refine r_icmp_gt S z5 300 h5 rfl dX11_fault_49 (tgt := 72) (by decide) (fun e_49_4 => ?_) (fun e_49_4 => ?_)
          · refine lv_iconst (v := (-1)) S.1 S.2.1 dX11_fault_72 (by decide) ?_
            exact ci_ret (u := ()) S hr hlk rfl hK (hP.sub [] rfl) (hD.sub [] (by decide) rfl) hS (Or.inr (⟨rfl, (by omega)⟩)) (by decide) (by decide) dX11_fault_73
          · refine lv_iload S.1 S.2.1 dX11_fault_52 (lv_at hl 6 rfl) ?_
            refine lv_iload S.1 S.2.1 dX11_fault_54 (lv_at hl 7 rfl) ?_
            refine r_icmp_gt S z4 z5 h4 h5 dX11_fault_56 (tgt := 72) (by decide) (fun e_56_5 => ?_) (fun e_56_5 => ?_)
            · refine lv_iconst (v := (-1)) S.1 S.2.1 dX11_fault_72 (by decide) ?_
              exact ci_ret (u := ()) S hr hlk rfl hK (hP.sub [] rfl) (hD.sub [] (by decide) rfl) hS (Or.inr (⟨rfl, (by omega)⟩)) (by decide) (by decide) dX11_fault_73
            · refine lv_iload S.1 S.2.1 dX11_fault_59 (lv_at hl 8 rfl) ?_
              refine lv_iconst (v := 1) S.1 S.2.1 dX11_fault_61 (by decide) ?_
              refine r_icmp_lt S z6 1 h6 rfl dX11_fault_62 (tgt := 72) (by decide) (fun e_62_6 => ?_) (fun e_62_6 => ?_)
              · refine lv_iconst (v := (-1)) S.1 S.2.1 dX11_fault_72 (by decide) ?_
                exact ci_ret (u := ()) S hr hlk rfl hK (hP.sub [] rfl) (hD.sub [] (by decide) rfl) hS (Or.inr (⟨rfl, (by omega)⟩)) (by decide) (by decide) dX11_fault_73
              · refine lv_iload S.1 S.2.1 dX11_fault_65 (lv_at hl 8 rfl) ?_
                refine lv_bipush (v := 99) S.1 S.2.1 dX11_fault_67 (by decide) ?_
                refine r_icmp_le S z6 99 h6 rfl dX11_fault_69 (tgt := 74) (by decide) (fun e_69_7 => ?_) (fun e_69_7 => ?_)
                · refine lv_iload_n S.1 S.2.1 dX11_fault_74 rfl (lv_at hl 4 rfl) ?_
                  refine r_if_eq S z2 h2 dX11_fault_75 (tgt := 103) (by decide) (fun e_75_8 => ?_) (fun e_75_8 => ?_)
                  · refine lv_iload_n S.1 S.2.1 dX11_fault_103 rfl (lv_at hl 3 rfl) ?_
                    refine lv_iconst (v := 1) S.1 S.2.1 dX11_fault_104 (by decide) ?_
                    refine r_iadd S dX11_fault_105 (v := (p1 + 1)) rfl ?_
                    refine lv_bipush (v := 8) S.1 S.2.1 dX11_fault_106 (by decide) ?_
                    refine r_icmp_ge S (z1 + 1) 8 (zadd (x := p1) (y := 1) (X := z1) (Y := 1) h1 rfl (by omega) (by omega)) rfl dX11_fault_108 (tgt := 124) (by decide) (fun e_108_9 => ?_) (fun e_108_9 => ?_)
                    · refine lv_iconst (v := 0) S.1 S.2.1 dX11_fault_124 (by decide) ?_
                      refine lv_istore (lv' := [(9, .int 0), (8, .int (nI (12 * cl_2 + cx_2))), (0, .ref (x 0)), (1, .int p0), (2, .int p1), (3, .int p2), (4, .int p3), (5, .int p4), (6, .int p5), (7, .int p6)]) S.1 S.2.1 dX11_fault_125 hl (by decide) rfl (fun ls hl => ?_)
                      refine lv_iload S.1 S.2.1 dX11_fault_127 (lv_at hl 0 rfl) ?_
                      refine r_if_ne S 0 rfl dX11_fault_129 (tgt := 134) (by decide) (fun c => absurd c (by decide)) (fun _ => ?_)
                      refine lv_iconst (v := (-1)) S.1 S.2.1 dX11_fault_132 (by decide) ?_
                      exact ci_ret (u := ()) S hr hlk rfl hK (hP.sub [] rfl) (hD.sub [] (by decide) rfl) hS (Or.inr (⟨rfl, (by omega)⟩)) (by decide) (by decide) dX11_fault_133
                    · refine lv_iload_n S.1 S.2.1 dX11_fault_111 rfl (lv_at hl 2 rfl) ?_
                      refine lv_iload S.1 S.2.1 dX11_fault_112 (lv_at hl 5 rfl) ?_
                      refine r_iadd S dX11_fault_114 (v := (p0 + p3)) rfl ?_
                      refine lv_bipush (v := 12) S.1 S.2.1 dX11_fault_115 (by decide) ?_
                      refine r_icmp_gt S (z0 + z3) 12 (zadd (x := p0) (y := p3) (X := z0) (Y := z3) h0 h3 (by omega) (by omega)) rfl dX11_fault_117 (tgt := 124) (by decide) (fun e_117_10 => ?_) (fun e_117_10 => ?_)
                      · refine lv_iconst (v := 0) S.1 S.2.1 dX11_fault_124 (by decide) ?_
                        refine lv_istore (lv' := [(9, .int 0), (8, .int (nI (12 * cl_2 + cx_2))), (0, .ref (x 0)), (1, .int p0), (2, .int p1), (3, .int p2), (4, .int p3), (5, .int p4), (6, .int p5), (7, .int p6)]) S.1 S.2.1 dX11_fault_125 hl (by decide) rfl (fun ls hl => ?_)
                        refine lv_iload S.1 S.2.1 dX11_fault_127 (lv_at hl 0 rfl) ?_
                        refine r_if_ne S 0 rfl dX11_fault_129 (tgt := 134) (by decide) (fun c => absurd c (by decide)) (fun _ => ?_)
                        refine lv_iconst (v := (-1)) S.1 S.2.1 dX11_fault_132 (by decide) ?_
                        exact ci_ret (u := ()) S hr hlk rfl hK (hP.sub [] rfl) (hD.sub [] (by decide) rfl) hS (Or.inr (⟨rfl, (by omega)⟩)) (by decide) (by decide) dX11_fault_133
                      · refine lv_iconst (v := 1) S.1 S.2.1 dX11_fault_120 (by decide) ?_
                        refine lv_goto (tgt := 125) S.1 S.2.1 dX11_fault_121 (by decide) ?_
                        refine lv_istore (lv' := [(9, .int 1), (8, .int (nI (12 * cl_2 + cx_2))), (0, .ref (x 0)), (1, .int p0), (2, .int p1), (3, .int p2), (4, .int p3), (5, .int p4), (6, .int p5), (7, .int p6)]) S.1 S.2.1 dX11_fault_125 hl (by decide) rfl (fun ls hl => ?_)
                        refine lv_iload S.1 S.2.1 dX11_fault_127 (lv_at hl 0 rfl) ?_
                        refine r_if_ne S 1 rfl dX11_fault_129 (tgt := 134) (by decide) (fun _ => ?_) (fun c => absurd c (by decide))
                        refine lv_aload_n S.1 S.2.1 dX11_fault_134 rfl (lv_at hl 2 rfl) ?_
                        refine r_get S hK hP 0 10 rfl rfl inX11 8 (by decide) kw_476 (v := .ref (x 29)) rfl dX11_fault_135 ?_
                        refine lv_aload_n S.1 S.2.1 dX11_fault_138 rfl (lv_at hl 2 rfl) ?_
                        refine r_get S hK hP 0 10 rfl rfl inX11 9 (by decide) kw_477 (v := .int 0) rfl dX11_fault_139 ?_
                        refine r_new S (ci := 0) inX0 tyX0 tyX0_ok kw_392 kw_914 kw_163 hK hP hD hS hA rfl (fs := [.int 0, .int 0, .int 0, .int 0, .int 0, .int 0]) rfl (by decide) (by decide) dX11_fault_142 (fun a142_11 H hP hD hS => ?_)
                        have hP : va_P D vwCl [((x 0), .inr (10, [.int 0, .int (-1), .ref (x 1), .ref (x 9), .int 0, .ref (x 10), .ref (x 13), .ref (x 16), .ref (x 29), .int 0, .int 0, .ref (x 30), .int 0, .ref (x 31), .ref (x 42), .int 0, .int 0, .null, .ref (x 43)])), ((x 29), .inl (cy 5, 4, .inr (.inr (.inr (.inr (fun _ => none)))))), (a142_11, .inr (0, [.int 0, .int 0, .int 0, .int 0, .int 0, .int 0]))] H := hP
                        have hD : va_D A [((x 0), .inr (10, [.int 0, .int (-1), .ref (x 1), .ref (x 9), .int 0, .ref (x 10), .ref (x 13), .ref (x 16), .ref (x 29), .int 0, .int 0, .ref (x 30), .int 0, .ref (x 31), .ref (x 42), .int 0, .int 0, .null, .ref (x 43)])), ((x 29), .inl (cy 5, 4, .inr (.inr (.inr (.inr (fun _ => none)))))), (a142_11, .inr (0, [.int 0, .int 0, .int 0, .int 0, .int 0, .int 0]))] := hD
                        refine lv_dup S.1 S.2.1 dX11_fault_145 rfl ?_
                        refine lv_iload S.1 S.2.1 dX11_fault_146 (lv_at hl 1 rfl) ?_
                        refine lv_iload_n S.1 S.2.1 dX11_fault_148 rfl (lv_at hl 5 rfl) ?_
                        refine lv_iload S.1 S.2.1 dX11_fault_149 (lv_at hl 6 rfl) ?_
                        refine lv_iload S.1 S.2.1 dX11_fault_151 (lv_at hl 7 rfl) ?_
                        refine lv_iload S.1 S.2.1 dX11_fault_153 (lv_at hl 8 rfl) ?_
                        refine lv_iload S.1 S.2.1 dX11_fault_155 (lv_at hl 9 rfl) ?_
                        refine call_v (wr := [((x 0), .inr (10, [.int 0, .int (-1), .ref (x 1), .ref (x 9), .int 0, .ref (x 10), .ref (x 13), .ref (x 16), .ref (x 29), .int 0, .int 0, .ref (x 30), .int 0, .ref (x 31), .ref (x 42), .int 0, .int 0, .null, .ref (x 43)])), ((x 29), .inl (cy 5, 4, .inr (.inr (.inr (.inr (fun _ => none))))))]) (runI_C (wc := [(a142_11, .inr (0, [.int 0, .int 0, .int 0, .int 0, .int 0, .int 0]))]) (As := [.int (nI (12 * cl_2 + cx_2)), .int p2, .int p3, .int p4, .int p5, .int p6]) (rest := [.ref a142_11, .int 0, .ref (x 29)]) S (kX0_init l D cy a142_11 (nI (12 * cl_2 + cx_2)) p2 p3 p4 p5 p6 (zbool h2 hb2)) hK hP hD [2] (by decide) rfl kw_915 kw_916 kw_163 kw_917 okX0_init rfl rfl (by decide) hl.1 rfl (Nat.le_of_ble_eq_true rfl) dX11_fault_157 (by decide)) hP hD hS hA [2] [0, 1] rfl rfl (by decide) (by decide) (fun u157 H locs w157 hP hD hS => ?_)
                        have hP : va_P D vwCl [((x 0), .inr (10, [.int 0, .int (-1), .ref (x 1), .ref (x 9), .int 0, .ref (x 10), .ref (x 13), .ref (x 16), .ref (x 29), .int 0, .int 0, .ref (x 30), .int 0, .ref (x 31), .ref (x 42), .int 0, .int 0, .null, .ref (x 43)])), ((x 29), .inl (cy 5, 4, .inr (.inr (.inr (.inr (fun _ => none)))))), (a142_11, .inr (0, [.int (nI (12 * cl_2 + cx_2)), .int p2, .int p3, .int p4, .int p5, .int p6]))] H := hP
                        have hD : va_D A [((x 0), .inr (10, [.int 0, .int (-1), .ref (x 1), .ref (x 9), .int 0, .ref (x 10), .ref (x 13), .ref (x 16), .ref (x 29), .int 0, .int 0, .ref (x 30), .int 0, .ref (x 31), .ref (x 42), .int 0, .int 0, .null, .ref (x 43)])), ((x 29), .inl (cy 5, 4, .inr (.inr (.inr (.inr (fun _ => none)))))), (a142_11, .inr (0, [.int (nI (12 * cl_2 + cx_2)), .int p2, .int p3, .int p4, .int p5, .int p6]))] := hD
                        refine r_aast S hK hP hD hS 1 5 2 0 rfl rfl rfl rfl (0) rfl (by decide) (by decide) dX11_fault_160 (fun H locs hP hD hS => ?_)
                        have hP : va_P D vwCl [((x 0), .inr (10, [.int 0, .int (-1), .ref (x 1), .ref (x 9), .int 0, .ref (x 10), .ref (x 13), .ref (x 16), .ref (x 29), .int 0, .int 0, .ref (x 30), .int 0, .ref (x 31), .ref (x 42), .int 0, .int 0, .null, .ref (x 43)])), ((x 29), .inl (cy 5, 4, .inr (.inr (.inr (.inr (va_up (fun _ => none) (0) (some a142_11))))))), (a142_11, .inr (0, [.int (nI (12 * cl_2 + cx_2)), .int p2, .int p3, .int p4, .int p5, .int p6]))] H := hP
                        have hD : va_D A [((x 0), .inr (10, [.int 0, .int (-1), .ref (x 1), .ref (x 9), .int 0, .ref (x 10), .ref (x 13), .ref (x 16), .ref (x 29), .int 0, .int 0, .ref (x 30), .int 0, .ref (x 31), .ref (x 42), .int 0, .int 0, .null, .ref (x 43)])), ((x 29), .inl (cy 5, 4, .inr (.inr (.inr (.inr (va_up (fun _ => none) (0) (some a142_11))))))), (a142_11, .inr (0, [.int (nI (12 * cl_2 + cx_2)), .int p2, .int p3, .int p4, .int p5, .int p6]))] := hD
                        refine lv_aload_n S.1 S.2.1 dX11_fault_161 rfl (lv_at hl 2 rfl) ?_
                        refine lv_iconst (v := 0) S.1 S.2.1 dX11_fault_162 (by decide) ?_
                        refine r_put S hK hP hD hS 0 10 rfl rfl inX11 15 (by decide) tyX11 tyX11_ok nmX11 kw_483 (v := .int 0) rfl (by decide) (by decide) (Nat.le_of_ble_eq_true rfl) dX11_fault_163 (fun H locs hP hD hS => ?_)
                        have hP : va_P D vwCl [((x 0), .inr (10, [.int 0, .int (-1), .ref (x 1), .ref (x 9), .int 0, .ref (x 10), .ref (x 13), .ref (x 16), .ref (x 29), .int 0, .int 0, .ref (x 30), .int 0, .ref (x 31), .ref (x 42), .int 0, .int 0, .null, .ref (x 43)])), ((x 29), .inl (cy 5, 4, .inr (.inr (.inr (.inr (va_up (fun _ => none) (0) (some a142_11))))))), (a142_11, .inr (0, [.int (nI (12 * cl_2 + cx_2)), .int p2, .int p3, .int p4, .int p5, .int p6]))] H := hP
                        have hD : va_D A [((x 0), .inr (10, [.int 0, .int (-1), .ref (x 1), .ref (x 9), .int 0, .ref (x 10), .ref (x 13), .ref (x 16), .ref (x 29), .int 0, .int 0, .ref (x 30), .int 0, .ref (x 31), .ref (x 42), .int 0, .int 0, .null, .ref (x 43)])), ((x 29), .inl (cy 5, 4, .inr (.inr (.inr (.inr (va_up (fun _ => none) (0) (some a142_11))))))), (a142_11, .inr (0, [.int (nI (12 * cl_2 + cx_2)), .int p2, .int p3, .int p4, .int p5, .int p6]))] := hD
                        refine lv_aload_n S.1 S.2.1 dX11_fault_166 rfl (lv_at hl 2 rfl) ?_
                        refine lv_dup S.1 S.2.1 dX11_fault_167 rfl ?_
                        refine r_get S hK hP 0 10 rfl rfl inX11 9 (by decide) kw_477 (v := .int 0) rfl dX11_fault_168 ?_
                        refine lv_dup_x1 S.1 S.2.1 dX11_fault_171 rfl rfl ?_
                        refine lv_iconst (v := 1) S.1 S.2.1 dX11_fault_172 (by decide) ?_
                        refine r_iadd S dX11_fault_173 (v := 1) (by decide) ?_
                        refine r_put S hK hP hD hS 0 10 rfl rfl inX11 9 (by decide) tyX11 tyX11_ok nmX11 kw_477 (v := .int 1) rfl rfl rfl (Nat.le_of_ble_eq_true rfl) dX11_fault_174 (fun H locs hP hD hS => ?_)
                        have hP : va_P D vwCl [((x 0), .inr (10, [.int 0, .int (-1), .ref (x 1), .ref (x 9), .int 0, .ref (x 10), .ref (x 13), .ref (x 16), .ref (x 29), .int 1, .int 0, .ref (x 30), .int 0, .ref (x 31), .ref (x 42), .int 0, .int 0, .null, .ref (x 43)])), ((x 29), .inl (cy 5, 4, .inr (.inr (.inr (.inr (va_up (fun _ => none) (0) (some a142_11))))))), (a142_11, .inr (0, [.int (nI (12 * cl_2 + cx_2)), .int p2, .int p3, .int p4, .int p5, .int p6]))] H := hP
                        have hD : va_D A [((x 0), .inr (10, [.int 0, .int (-1), .ref (x 1), .ref (x 9), .int 0, .ref (x 10), .ref (x 13), .ref (x 16), .ref (x 29), .int 1, .int 0, .ref (x 30), .int 0, .ref (x 31), .ref (x 42), .int 0, .int 0, .null, .ref (x 43)])), ((x 29), .inl (cy 5, 4, .inr (.inr (.inr (.inr (va_up (fun _ => none) (0) (some a142_11))))))), (a142_11, .inr (0, [.int (nI (12 * cl_2 + cx_2)), .int p2, .int p3, .int p4, .int p5, .int p6]))] := hD
                        exact ci_ret (u := ()) S hr hlk rfl hK (hP.sub [] rfl) (hD.sub [] (by decide) rfl) hS (Or.inl ⟨rfl, (by omega)⟩) (by decide) (by decide) dX11_fault_177
                  · refine lv_iload_n S.1 S.2.1 dX11_fault_78 rfl (lv_at hl 2 rfl) ?_
                    refine lv_iconst (v := 1) S.1 S.2.1 dX11_fault_79 (by decide) ?_
                    refine r_iadd S dX11_fault_80 (v := (p0 + 1)) rfl ?_
                    refine lv_bipush (v := 12) S.1 S.2.1 dX11_fault_81 (by decide) ?_
                    refine r_icmp_ge S (z0 + 1) 12 (zadd (x := p0) (y := 1) (X := z0) (Y := 1) h0 rfl (by omega) (by omega)) rfl dX11_fault_83 (tgt := 99) (by decide) (fun e_83_9 => ?_) (fun e_83_9 => ?_)
                    · refine lv_iconst (v := 0) S.1 S.2.1 dX11_fault_99 (by decide) ?_
                      refine lv_goto (tgt := 125) S.1 S.2.1 dX11_fault_100 (by decide) ?_
                      refine lv_istore (lv' := [(9, .int 0), (8, .int (nI (12 * cl_2 + cx_2))), (0, .ref (x 0)), (1, .int p0), (2, .int p1), (3, .int p2), (4, .int p3), (5, .int p4), (6, .int p5), (7, .int p6)]) S.1 S.2.1 dX11_fault_125 hl (by decide) rfl (fun ls hl => ?_)
                      refine lv_iload S.1 S.2.1 dX11_fault_127 (lv_at hl 0 rfl) ?_
                      refine r_if_ne S 0 rfl dX11_fault_129 (tgt := 134) (by decide) (fun c => absurd c (by decide)) (fun _ => ?_)
                      refine lv_iconst (v := (-1)) S.1 S.2.1 dX11_fault_132 (by decide) ?_
                      exact ci_ret (u := ()) S hr hlk rfl hK (hP.sub [] rfl) (hD.sub [] (by decide) rfl) hS (Or.inr (⟨rfl, (by omega)⟩)) (by decide) (by decide) dX11_fault_133
                    · refine lv_iload_n S.1 S.2.1 dX11_fault_86 rfl (lv_at hl 3 rfl) ?_
                      refine lv_iload S.1 S.2.1 dX11_fault_87 (lv_at hl 5 rfl) ?_
                      refine r_iadd S dX11_fault_89 (v := (p1 + p3)) rfl ?_
                      refine lv_bipush (v := 8) S.1 S.2.1 dX11_fault_90 (by decide) ?_
                      refine r_icmp_gt S (z1 + z3) 8 (zadd (x := p1) (y := p3) (X := z1) (Y := z3) h1 h3 (by omega) (by omega)) rfl dX11_fault_92 (tgt := 99) (by decide) (fun e_92_10 => ?_) (fun e_92_10 => ?_)
                      · refine lv_iconst (v := 0) S.1 S.2.1 dX11_fault_99 (by decide) ?_
                        refine lv_goto (tgt := 125) S.1 S.2.1 dX11_fault_100 (by decide) ?_
                        refine lv_istore (lv' := [(9, .int 0), (8, .int (nI (12 * cl_2 + cx_2))), (0, .ref (x 0)), (1, .int p0), (2, .int p1), (3, .int p2), (4, .int p3), (5, .int p4), (6, .int p5), (7, .int p6)]) S.1 S.2.1 dX11_fault_125 hl (by decide) rfl (fun ls hl => ?_)
                        refine lv_iload S.1 S.2.1 dX11_fault_127 (lv_at hl 0 rfl) ?_
                        refine r_if_ne S 0 rfl dX11_fault_129 (tgt := 134) (by decide) (fun c => absurd c (by decide)) (fun _ => ?_)
                        refine lv_iconst (v := (-1)) S.1 S.2.1 dX11_fault_132 (by decide) ?_
                        exact ci_ret (u := ()) S hr hlk rfl hK (hP.sub [] rfl) (hD.sub [] (by decide) rfl) hS (Or.inr (⟨rfl, (by omega)⟩)) (by decide) (by decide) dX11_fault_133
                      · refine lv_iconst (v := 1) S.1 S.2.1 dX11_fault_95 (by decide) ?_
                        refine lv_goto (tgt := 125) S.1 S.2.1 dX11_fault_96 (by decide) ?_
                        refine lv_istore (lv' := [(9, .int 1), (8, .int (nI (12 * cl_2 + cx_2))), (0, .ref (x 0)), (1, .int p0), (2, .int p1), (3, .int p2), (4, .int p3), (5, .int p4), (6, .int p5), (7, .int p6)]) S.1 S.2.1 dX11_fault_125 hl (by decide) rfl (fun ls hl => ?_)
                        refine lv_iload S.1 S.2.1 dX11_fault_127 (lv_at hl 0 rfl) ?_
                        refine r_if_ne S 1 rfl dX11_fault_129 (tgt := 134) (by decide) (fun _ => ?_) (fun c => absurd c (by decide))
                        refine lv_aload_n S.1 S.2.1 dX11_fault_134 rfl (lv_at hl 2 rfl) ?_
                        refine r_get S hK hP 0 10 rfl rfl inX11 8 (by decide) kw_476 (v := .ref (x 29)) rfl dX11_fault_135 ?_
                        refine lv_aload_n S.1 S.2.1 dX11_fault_138 rfl (lv_at hl 2 rfl) ?_
                        refine r_get S hK hP 0 10 rfl rfl inX11 9 (by decide) kw_477 (v := .int 0) rfl dX11_fault_139 ?_
                        refine r_new S (ci := 0) inX0 tyX0 tyX0_ok kw_392 kw_914 kw_163 hK hP hD hS hA rfl (fs := [.int 0, .int 0, .int 0, .int 0, .int 0, .int 0]) rfl (by decide) (by decide) dX11_fault_142 (fun a142_11 H hP hD hS => ?_)
                        have hP : va_P D vwCl [((x 0), .inr (10, [.int 0, .int (-1), .ref (x 1), .ref (x 9), .int 0, .ref (x 10), .ref (x 13), .ref (x 16), .ref (x 29), .int 0, .int 0, .ref (x 30), .int 0, .ref (x 31), .ref (x 42), .int 0, .int 0, .null, .ref (x 43)])), ((x 29), .inl (cy 5, 4, .inr (.inr (.inr (.inr (fun _ => none)))))), (a142_11, .inr (0, [.int 0, .int 0, .int 0, .int 0, .int 0, .int 0]))] H := hP
                        have hD : va_D A [((x 0), .inr (10, [.int 0, .int (-1), .ref (x 1), .ref (x 9), .int 0, .ref (x 10), .ref (x 13), .ref (x 16), .ref (x 29), .int 0, .int 0, .ref (x 30), .int 0, .ref (x 31), .ref (x 42), .int 0, .int 0, .null, .ref (x 43)])), ((x 29), .inl (cy 5, 4, .inr (.inr (.inr (.inr (fun _ => none)))))), (a142_11, .inr (0, [.int 0, .int 0, .int 0, .int 0, .int 0, .int 0]))] := hD
                        refine lv_dup S.1 S.2.1 dX11_fault_145 rfl ?_
                        refine lv_iload S.1 S.2.1 dX11_fault_146 (lv_at hl 1 rfl) ?_
                        refine lv_iload_n S.1 S.2.1 dX11_fault_148 rfl (lv_at hl 5 rfl) ?_
                        refine lv_iload S.1 S.2.1 dX11_fault_149 (lv_at hl 6 rfl) ?_
                        refine lv_iload S.1 S.2.1 dX11_fault_151 (lv_at hl 7 rfl) ?_
                        refine lv_iload S.1 S.2.1 dX11_fault_153 (lv_at hl 8 rfl) ?_
                        refine lv_iload S.1 S.2.1 dX11_fault_155 (lv_at hl 9 rfl) ?_
                        refine call_v (wr := [((x 0), .inr (10, [.int 0, .int (-1), .ref (x 1), .ref (x 9), .int 0, .ref (x 10), .ref (x 13), .ref (x 16), .ref (x 29), .int 0, .int 0, .ref (x 30), .int 0, .ref (x 31), .ref (x 42), .int 0, .int 0, .null, .ref (x 43)])), ((x 29), .inl (cy 5, 4, .inr (.inr (.inr (.inr (fun _ => none))))))]) (runI_C (wc := [(a142_11, .inr (0, [.int 0, .int 0, .int 0, .int 0, .int 0, .int 0]))]) (As := [.int (nI (12 * cl_2 + cx_2)), .int p2, .int p3, .int p4, .int p5, .int p6]) (rest := [.ref a142_11, .int 0, .ref (x 29)]) S (kX0_init l D cy a142_11 (nI (12 * cl_2 + cx_2)) p2 p3 p4 p5 p6 (zbool h2 hb2)) hK hP hD [2] (by decide) rfl kw_915 kw_916 kw_163 kw_917 okX0_init rfl rfl (by decide) hl.1 rfl (Nat.le_of_ble_eq_true rfl) dX11_fault_157 (by decide)) hP hD hS hA [2] [0, 1] rfl rfl (by decide) (by decide) (fun u157 H locs w157 hP hD hS => ?_)
                        have hP : va_P D vwCl [((x 0), .inr (10, [.int 0, .int (-1), .ref (x 1), .ref (x 9), .int 0, .ref (x 10), .ref (x 13), .ref (x 16), .ref (x 29), .int 0, .int 0, .ref (x 30), .int 0, .ref (x 31), .ref (x 42), .int 0, .int 0, .null, .ref (x 43)])), ((x 29), .inl (cy 5, 4, .inr (.inr (.inr (.inr (fun _ => none)))))), (a142_11, .inr (0, [.int (nI (12 * cl_2 + cx_2)), .int p2, .int p3, .int p4, .int p5, .int p6]))] H := hP
                        have hD : va_D A [((x 0), .inr (10, [.int 0, .int (-1), .ref (x 1), .ref (x 9), .int 0, .ref (x 10), .ref (x 13), .ref (x 16), .ref (x 29), .int 0, .int 0, .ref (x 30), .int 0, .ref (x 31), .ref (x 42), .int 0, .int 0, .null, .ref (x 43)])), ((x 29), .inl (cy 5, 4, .inr (.inr (.inr (.inr (fun _ => none)))))), (a142_11, .inr (0, [.int (nI (12 * cl_2 + cx_2)), .int p2, .int p3, .int p4, .int p5, .int p6]))] := hD
                        refine r_aast S hK hP hD hS 1 5 2 0 rfl rfl rfl rfl (0) rfl (by decide) (by decide) dX11_fault_160 (fun H locs hP hD hS => ?_)
                        have hP : va_P D vwCl [((x 0), .inr (10, [.int 0, .int (-1), .ref (x 1), .ref (x 9), .int 0, .ref (x 10), .ref (x 13), .ref (x 16), .ref (x 29), .int 0, .int 0, .ref (x 30), .int 0, .ref (x 31), .ref (x 42), .int 0, .int 0, .null, .ref (x 43)])), ((x 29), .inl (cy 5, 4, .inr (.inr (.inr (.inr (va_up (fun _ => none) (0) (some a142_11))))))), (a142_11, .inr (0, [.int (nI (12 * cl_2 + cx_2)), .int p2, .int p3, .int p4, .int p5, .int p6]))] H := hP
                        have hD : va_D A [((x 0), .inr (10, [.int 0, .int (-1), .ref (x 1), .ref (x 9), .int 0, .ref (x 10), .ref (x 13), .ref (x 16), .ref (x 29), .int 0, .int 0, .ref (x 30), .int 0, .ref (x 31), .ref (x 42), .int 0, .int 0, .null, .ref (x 43)])), ((x 29), .inl (cy 5, 4, .inr (.inr (.inr (.inr (va_up (fun _ => none) (0) (some a142_11))))))), (a142_11, .inr (0, [.int (nI (12 * cl_2 + cx_2)), .int p2, .int p3, .int p4, .int p5, .int p6]))] := hD
                        refine lv_aload_n S.1 S.2.1 dX11_fault_161 rfl (lv_at hl 2 rfl) ?_
                        refine lv_iconst (v := 0) S.1 S.2.1 dX11_fault_162 (by decide) ?_
                        refine r_put S hK hP hD hS 0 10 rfl rfl inX11 15 (by decide) tyX11 tyX11_ok nmX11 kw_483 (v := .int 0) rfl (by decide) (by decide) (Nat.le_of_ble_eq_true rfl) dX11_fault_163 (fun H locs hP hD hS => ?_)
                        have hP : va_P D vwCl [((x 0), .inr (10, [.int 0, .int (-1), .ref (x 1), .ref (x 9), .int 0, .ref (x 10), .ref (x 13), .ref (x 16), .ref (x 29), .int 0, .int 0, .ref (x 30), .int 0, .ref (x 31), .ref (x 42), .int 0, .int 0, .null, .ref (x 43)])), ((x 29), .inl (cy 5, 4, .inr (.inr (.inr (.inr (va_up (fun _ => none) (0) (some a142_11))))))), (a142_11, .inr (0, [.int (nI (12 * cl_2 + cx_2)), .int p2, .int p3, .int p4, .int p5, .int p6]))] H := hP
                        have hD : va_D A [((x 0), .inr (10, [.int 0, .int (-1), .ref (x 1), .ref (x 9), .int 0, .ref (x 10), .ref (x 13), .ref (x 16), .ref (x 29), .int 0, .int 0, .ref (x 30), .int 0, .ref (x 31), .ref (x 42), .int 0, .int 0, .null, .ref (x 43)])), ((x 29), .inl (cy 5, 4, .inr (.inr (.inr (.inr (va_up (fun _ => none) (0) (some a142_11))))))), (a142_11, .inr (0, [.int (nI (12 * cl_2 + cx_2)), .int p2, .int p3, .int p4, .int p5, .int p6]))] := hD
                        refine lv_aload_n S.1 S.2.1 dX11_fault_166 rfl (lv_at hl 2 rfl) ?_
                        refine lv_dup S.1 S.2.1 dX11_fault_167 rfl ?_
                        refine r_get S hK hP 0 10 rfl rfl inX11 9 (by decide) kw_477 (v := .int 0) rfl dX11_fault_168 ?_
                        refine lv_dup_x1 S.1 S.2.1 dX11_fault_171 rfl rfl ?_
                        refine lv_iconst (v := 1) S.1 S.2.1 dX11_fault_172 (by decide) ?_
                        refine r_iadd S dX11_fault_173 (v := 1) (by decide) ?_
                        refine r_put S hK hP hD hS 0 10 rfl rfl inX11 9 (by decide) tyX11 tyX11_ok nmX11 kw_477 (v := .int 1) rfl rfl rfl (Nat.le_of_ble_eq_true rfl) dX11_fault_174 (fun H locs hP hD hS => ?_)
                        have hP : va_P D vwCl [((x 0), .inr (10, [.int 0, .int (-1), .ref (x 1), .ref (x 9), .int 0, .ref (x 10), .ref (x 13), .ref (x 16), .ref (x 29), .int 1, .int 0, .ref (x 30), .int 0, .ref (x 31), .ref (x 42), .int 0, .int 0, .null, .ref (x 43)])), ((x 29), .inl (cy 5, 4, .inr (.inr (.inr (.inr (va_up (fun _ => none) (0) (some a142_11))))))), (a142_11, .inr (0, [.int (nI (12 * cl_2 + cx_2)), .int p2, .int p3, .int p4, .int p5, .int p6]))] H := hP
                        have hD : va_D A [((x 0), .inr (10, [.int 0, .int (-1), .ref (x 1), .ref (x 9), .int 0, .ref (x 10), .ref (x 13), .ref (x 16), .ref (x 29), .int 1, .int 0, .ref (x 30), .int 0, .ref (x 31), .ref (x 42), .int 0, .int 0, .null, .ref (x 43)])), ((x 29), .inl (cy 5, 4, .inr (.inr (.inr (.inr (va_up (fun _ => none) (0) (some a142_11))))))), (a142_11, .inr (0, [.int (nI (12 * cl_2 + cx_2)), .int p2, .int p3, .int p4, .int p5, .int p6]))] := hD
                        exact ci_ret (u := ()) S hr hlk rfl hK (hP.sub [] rfl) (hD.sub [] (by decide) rfl) hS (Or.inl ⟨rfl, (by omega)⟩) (by decide) (by decide) dX11_fault_177
                · refine lv_iconst (v := (-1)) S.1 S.2.1 dX11_fault_72 (by decide) ?_
                  exact ci_ret (u := ()) S hr hlk rfl hK (hP.sub [] rfl) (hD.sub [] (by decide) rfl) hS (Or.inr (⟨rfl, (by omega)⟩)) (by decide) (by decide) dX11_fault_73
      · refine lv_iconst (v := (-1)) S.1 S.2.1 dX11_fault_34 (by decide) ?_
        exact ci_ret (u := ()) S hr hlk rfl hK (hP.sub [] rfl) (hD.sub [] (by decide) rfl) hS (Or.inr (⟨rfl, (by omega)⟩)) (by decide) (by decide) dX11_fault_35
