abbrev cJ1_canEncode_9a6ad : ByteArray := prog_24_method_4_code
def yJ1_canEncode_9a6ad : MethodName := ⟨"java/lang/StringLatin1", "canEncode", "(I)Z"⟩
theorem okJ1_canEncode_9a6ad : yok yJ1_canEncode_9a6ad 1 := by decide +kernel
theorem dJ1_canEncode_9a6ad_0 : decode cJ1_canEncode_9a6ad 0 = .ok (.iload_n 0, 1) := by decide +kernel
theorem dJ1_canEncode_9a6ad_1 : decode cJ1_canEncode_9a6ad 1 = .ok (.ifCond .lt 14, 3) := by decide +kernel
theorem dJ1_canEncode_9a6ad_15 : decode cJ1_canEncode_9a6ad 15 = .ok (.iconst 0, 1) := by decide +kernel
theorem dJ1_canEncode_9a6ad_16 : decode cJ1_canEncode_9a6ad 16 = .ok (.ireturn, 1) := by decide +kernel
theorem dJ1_canEncode_9a6ad_4 : decode cJ1_canEncode_9a6ad 4 = .ok (.iload_n 0, 1) := by decide +kernel
theorem dJ1_canEncode_9a6ad_5 : decode cJ1_canEncode_9a6ad 5 = .ok (.sipush 255, 3) := by decide +kernel
theorem dJ1_canEncode_9a6ad_8 : decode cJ1_canEncode_9a6ad 8 = .ok (.if_icmp .gt 7, 3) := by decide +kernel
theorem dJ1_canEncode_9a6ad_11 : decode cJ1_canEncode_9a6ad 11 = .ok (.iconst 1, 1) := by decide +kernel
theorem dJ1_canEncode_9a6ad_12 : decode cJ1_canEncode_9a6ad 12 = .ok (.goto 4, 3) := by decide +kernel
abbrev cJ0_isLatin1_aae02 : ByteArray := prog_23_method_154_code
def yJ0_isLatin1_aae02 : MethodName := ⟨"java/lang/String", "isLatin1", "()Z"⟩
theorem okJ0_isLatin1_aae02 : yok yJ0_isLatin1_aae02 0 := by decide +kernel
theorem dJ0_isLatin1_aae02_0 : decode cJ0_isLatin1_aae02 0 = .ok (.getstatic 38, 3) := by decide +kernel
theorem kw_697 : Cond.fieldLink "java/lang/String" 38 "java/lang/String" "COMPACT_STRINGS" "Z" ∈ uu := uu_in (i := 697) (by decide +kernel) (by decide +kernel)
theorem dJ0_isLatin1_aae02_3 : decode cJ0_isLatin1_aae02 3 = .ok (.ifCond .eq 14, 3) := by decide +kernel
theorem dJ0_isLatin1_aae02_6 : decode cJ0_isLatin1_aae02 6 = .ok (.aload_n 0, 1) := by decide +kernel
theorem dJ0_isLatin1_aae02_7 : decode cJ0_isLatin1_aae02 7 = .ok (.getfield 15, 3) := by decide +kernel
theorem kw_2282 : Cond.fieldLink "java/lang/String" 15 "java/lang/String" "coder" "B" ∈ uu := uu_in (i := 2282) (by decide +kernel) (by decide +kernel)
theorem dJ0_isLatin1_aae02_10 : decode cJ0_isLatin1_aae02 10 = .ok (.ifCond .ne 7, 3) := by decide +kernel
theorem dJ0_isLatin1_aae02_13 : decode cJ0_isLatin1_aae02 13 = .ok (.iconst 1, 1) := by decide +kernel
theorem dJ0_isLatin1_aae02_14 : decode cJ0_isLatin1_aae02 14 = .ok (.goto 4, 3) := by decide +kernel
theorem dJ0_isLatin1_aae02_18 : decode cJ0_isLatin1_aae02 18 = .ok (.ireturn, 1) := by decide +kernel
abbrev cJ0_coder_7d493 : ByteArray := prog_23_method_152_code
def yJ0_coder_7d493 : MethodName := ⟨"java/lang/String", "coder", "()B"⟩
theorem okJ0_coder_7d493 : yok yJ0_coder_7d493 0 := by decide +kernel
theorem dJ0_coder_7d493_0 : decode cJ0_coder_7d493 0 = .ok (.getstatic 38, 3) := by decide +kernel
theorem dJ0_coder_7d493_3 : decode cJ0_coder_7d493 3 = .ok (.ifCond .eq 10, 3) := by decide +kernel
theorem dJ0_coder_7d493_6 : decode cJ0_coder_7d493 6 = .ok (.aload_n 0, 1) := by decide +kernel
theorem dJ0_coder_7d493_7 : decode cJ0_coder_7d493 7 = .ok (.getfield 15, 3) := by decide +kernel
theorem dJ0_coder_7d493_10 : decode cJ0_coder_7d493 10 = .ok (.goto 4, 3) := by decide +kernel
theorem dJ0_coder_7d493_14 : decode cJ0_coder_7d493 14 = .ok (.ireturn, 1) := by decide +kernel
abbrev cJ0_length_8abf5 : ByteArray := prog_23_method_54_code
def yJ0_length_8abf5 : MethodName := ⟨"java/lang/String", "length", "()I"⟩
theorem okJ0_length_8abf5 : yok yJ0_length_8abf5 0 := by decide +kernel
theorem dJ0_length_8abf5_0 : decode cJ0_length_8abf5 0 = .ok (.aload_n 0, 1) := by decide +kernel
theorem dJ0_length_8abf5_1 : decode cJ0_length_8abf5 1 = .ok (.getfield 9, 3) := by decide +kernel
theorem kw_2283 : Cond.fieldLink "java/lang/String" 9 "java/lang/String" "value" "[B" ∈ uu := uu_in (i := 2283) (by decide +kernel) (by decide +kernel)
theorem dJ0_length_8abf5_4 : decode cJ0_length_8abf5 4 = .ok (.arraylength, 1) := by decide +kernel
theorem dJ0_length_8abf5_5 : decode cJ0_length_8abf5 5 = .ok (.aload_n 0, 1) := by decide +kernel
theorem dJ0_length_8abf5_6 : decode cJ0_length_8abf5 6 = .ok (.invokevirtual 335, 3) := by decide +kernel
theorem kw_706 : Cond.code yJ0_coder_7d493 prog_23_method_152_code 1 (some .byte) ∈ uu := uu_in (i := 706) (by decide +kernel) (by decide +kernel)
theorem kw_156 : Cond.initialized "java/lang/String" ∈ uu := uu_in (i := 156) (by decide +kernel) (by decide +kernel)
theorem kw_703 : Cond.methodLink "java/lang/String" 335 yJ0_coder_7d493 ∈ uu := uu_in (i := 703) (by decide +kernel) (by decide +kernel)
theorem kw_704 : Cond.instanceMethod yJ0_coder_7d493 ∈ uu := uu_in (i := 704) (by decide +kernel) (by decide +kernel)
theorem kw_705 : Cond.selects "java/lang/String" yJ0_coder_7d493 yJ0_coder_7d493 ∈ uu := uu_in (i := 705) (by decide +kernel) (by decide +kernel)
theorem lk_java_lang_String_335 : lkV "java/lang/String" 335 yJ0_coder_7d493 cJ0_coder_7d493 1 (some .byte) 0 := ⟨kw_703, kw_704, kw_705, kw_156, kw_706, okJ0_coder_7d493⟩
theorem dJ0_length_8abf5_9 : decode cJ0_length_8abf5 9 = .ok (.ishr, 1) := by decide +kernel
theorem dJ0_length_8abf5_10 : decode cJ0_length_8abf5 10 = .ok (.ireturn, 1) := by decide +kernel
abbrev cJ1_indexOfChar_4cfef : ByteArray := prog_24_method_23_code
def yJ1_indexOfChar_4cfef : MethodName := ⟨"java/lang/StringLatin1", "indexOfChar", "([BIII)I"⟩
theorem okJ1_indexOfChar_4cfef : yok yJ1_indexOfChar_4cfef 4 := by decide +kernel
theorem dJ1_indexOfChar_4cfef_0 : decode cJ1_indexOfChar_4cfef 0 = .ok (.iload_n 1, 1) := by decide +kernel
theorem dJ1_indexOfChar_4cfef_1 : decode cJ1_indexOfChar_4cfef 1 = .ok (.i2b, 1) := by decide +kernel
theorem dJ1_indexOfChar_4cfef_2 : decode cJ1_indexOfChar_4cfef 2 = .ok (.istore 4, 2) := by decide +kernel
theorem dJ1_indexOfChar_4cfef_4 : decode cJ1_indexOfChar_4cfef 4 = .ok (.iload_n 2, 1) := by decide +kernel
theorem dJ1_indexOfChar_4cfef_5 : decode cJ1_indexOfChar_4cfef 5 = .ok (.istore 5, 2) := by decide +kernel
theorem dJ1_indexOfChar_4cfef_7 : decode cJ1_indexOfChar_4cfef 7 = .ok (.iload 5, 2) := by decide +kernel
theorem dJ1_indexOfChar_4cfef_9 : decode cJ1_indexOfChar_4cfef 9 = .ok (.iload_n 3, 1) := by decide +kernel
theorem dJ1_indexOfChar_4cfef_10 : decode cJ1_indexOfChar_4cfef 10 = .ok (.if_icmp .ge 21, 3) := by decide +kernel
theorem dJ1_indexOfChar_4cfef_31 : decode cJ1_indexOfChar_4cfef 31 = .ok (.iconst (-1), 1) := by decide +kernel
theorem dJ1_indexOfChar_4cfef_32 : decode cJ1_indexOfChar_4cfef 32 = .ok (.ireturn, 1) := by decide +kernel
theorem dJ1_indexOfChar_4cfef_13 : decode cJ1_indexOfChar_4cfef 13 = .ok (.aload_n 0, 1) := by decide +kernel
theorem dJ1_indexOfChar_4cfef_14 : decode cJ1_indexOfChar_4cfef 14 = .ok (.iload 5, 2) := by decide +kernel
theorem dJ1_indexOfChar_4cfef_16 : decode cJ1_indexOfChar_4cfef 16 = .ok (.baload, 1) := by decide +kernel
theorem dJ1_indexOfChar_4cfef_17 : decode cJ1_indexOfChar_4cfef 17 = .ok (.iload 4, 2) := by decide +kernel
theorem dJ1_indexOfChar_4cfef_19 : decode cJ1_indexOfChar_4cfef 19 = .ok (.if_icmp .ne 6, 3) := by decide +kernel
theorem dJ1_indexOfChar_4cfef_25 : decode cJ1_indexOfChar_4cfef 25 = .ok (.iinc 5 1, 3) := by decide +kernel
theorem dJ1_indexOfChar_4cfef_28 : decode cJ1_indexOfChar_4cfef 28 = .ok (.goto (-21), 3) := by decide +kernel
theorem dJ1_indexOfChar_4cfef_22 : decode cJ1_indexOfChar_4cfef 22 = .ok (.iload 5, 2) := by decide +kernel
theorem dJ1_indexOfChar_4cfef_24 : decode cJ1_indexOfChar_4cfef 24 = .ok (.ireturn, 1) := by decide +kernel
abbrev cJ1_indexOf_4cfef : ByteArray := prog_24_method_22_code
def yJ1_indexOf_4cfef : MethodName := ⟨"java/lang/StringLatin1", "indexOf", "([BIII)I"⟩
theorem okJ1_indexOf_4cfef : yok yJ1_indexOf_4cfef 4 := by decide +kernel
theorem dJ1_indexOf_4cfef_0 : decode cJ1_indexOf_4cfef 0 = .ok (.iload_n 1, 1) := by decide +kernel
theorem dJ1_indexOf_4cfef_1 : decode cJ1_indexOf_4cfef 1 = .ok (.invokestatic 88, 3) := by decide +kernel
theorem kw_712 : Cond.code yJ1_canEncode_9a6ad prog_24_method_4_code 1 (some .boolean) ∈ uu := uu_in (i := 712) (by decide +kernel) (by decide +kernel)
theorem kw_157 : Cond.initialized "java/lang/StringLatin1" ∈ uu := uu_in (i := 157) (by decide +kernel) (by decide +kernel)
theorem kw_710 : Cond.methodLink "java/lang/StringLatin1" 88 yJ1_canEncode_9a6ad ∈ uu := uu_in (i := 710) (by decide +kernel) (by decide +kernel)
theorem kw_711 : Cond.static yJ1_canEncode_9a6ad ∈ uu := uu_in (i := 711) (by decide +kernel) (by decide +kernel)
theorem lk_java_lang_StringLatin1_88 : lkS "java/lang/StringLatin1" 88 yJ1_canEncode_9a6ad cJ1_canEncode_9a6ad 1 (some .boolean) 1 := ⟨kw_710, kw_711, kw_157, kw_712, okJ1_canEncode_9a6ad⟩
theorem dJ1_indexOf_4cfef_4 : decode cJ1_indexOf_4cfef 4 = .ok (.ifCond .ne 5, 3) := by decide +kernel
theorem dJ1_indexOf_4cfef_9 : decode cJ1_indexOf_4cfef 9 = .ok (.iload_n 2, 1) := by decide +kernel
theorem dJ1_indexOf_4cfef_10 : decode cJ1_indexOf_4cfef 10 = .ok (.iconst 0, 1) := by decide +kernel
theorem dJ1_indexOf_4cfef_11 : decode cJ1_indexOf_4cfef 11 = .ok (.invokestatic 92, 3) := by decide +kernel
theorem kw_713 : Cond.methodLink "java/lang/StringLatin1" 92 yJ9_max_7cf53 ∈ uu := uu_in (i := 713) (by decide +kernel) (by decide +kernel)
theorem dJ1_indexOf_4cfef_14 : decode cJ1_indexOf_4cfef 14 = .ok (.istore_n 2, 1) := by decide +kernel
theorem dJ1_indexOf_4cfef_15 : decode cJ1_indexOf_4cfef 15 = .ok (.iload_n 3, 1) := by decide +kernel
theorem dJ1_indexOf_4cfef_16 : decode cJ1_indexOf_4cfef 16 = .ok (.aload_n 0, 1) := by decide +kernel
theorem dJ1_indexOf_4cfef_17 : decode cJ1_indexOf_4cfef 17 = .ok (.arraylength, 1) := by decide +kernel
theorem dJ1_indexOf_4cfef_18 : decode cJ1_indexOf_4cfef 18 = .ok (.invokestatic 38, 3) := by decide +kernel
theorem kw_716 : Cond.methodLink "java/lang/StringLatin1" 38 yJ9_min_7cf53 ∈ uu := uu_in (i := 716) (by decide +kernel) (by decide +kernel)
theorem dJ1_indexOf_4cfef_21 : decode cJ1_indexOf_4cfef 21 = .ok (.istore_n 3, 1) := by decide +kernel
theorem dJ1_indexOf_4cfef_22 : decode cJ1_indexOf_4cfef 22 = .ok (.iload_n 2, 1) := by decide +kernel
theorem dJ1_indexOf_4cfef_23 : decode cJ1_indexOf_4cfef 23 = .ok (.iload_n 3, 1) := by decide +kernel
theorem dJ1_indexOf_4cfef_24 : decode cJ1_indexOf_4cfef 24 = .ok (.if_icmp .lt 5, 3) := by decide +kernel
theorem dJ1_indexOf_4cfef_29 : decode cJ1_indexOf_4cfef 29 = .ok (.aload_n 0, 1) := by decide +kernel
theorem dJ1_indexOf_4cfef_30 : decode cJ1_indexOf_4cfef 30 = .ok (.iload_n 1, 1) := by decide +kernel
theorem dJ1_indexOf_4cfef_31 : decode cJ1_indexOf_4cfef 31 = .ok (.iload_n 2, 1) := by decide +kernel
theorem dJ1_indexOf_4cfef_32 : decode cJ1_indexOf_4cfef 32 = .ok (.iload_n 3, 1) := by decide +kernel
theorem dJ1_indexOf_4cfef_33 : decode cJ1_indexOf_4cfef 33 = .ok (.invokestatic 95, 3) := by decide +kernel
theorem kw_721 : Cond.code yJ1_indexOfChar_4cfef prog_24_method_23_code 6 (some .int) ∈ uu := uu_in (i := 721) (by decide +kernel) (by decide +kernel)
theorem kw_719 : Cond.methodLink "java/lang/StringLatin1" 95 yJ1_indexOfChar_4cfef ∈ uu := uu_in (i := 719) (by decide +kernel) (by decide +kernel)
theorem kw_720 : Cond.static yJ1_indexOfChar_4cfef ∈ uu := uu_in (i := 720) (by decide +kernel) (by decide +kernel)
theorem lk_java_lang_StringLatin1_95 : lkS "java/lang/StringLatin1" 95 yJ1_indexOfChar_4cfef cJ1_indexOfChar_4cfef 6 (some .int) 4 := ⟨kw_719, kw_720, kw_157, kw_721, okJ1_indexOfChar_4cfef⟩
theorem dJ1_indexOf_4cfef_36 : decode cJ1_indexOf_4cfef 36 = .ok (.ireturn, 1) := by decide +kernel
theorem dJ1_indexOf_4cfef_27 : decode cJ1_indexOf_4cfef 27 = .ok (.iconst (-1), 1) := by decide +kernel
theorem dJ1_indexOf_4cfef_28 : decode cJ1_indexOf_4cfef 28 = .ok (.ireturn, 1) := by decide +kernel
theorem dJ1_indexOf_4cfef_7 : decode cJ1_indexOf_4cfef 7 = .ok (.iconst (-1), 1) := by decide +kernel
theorem dJ1_indexOf_4cfef_8 : decode cJ1_indexOf_4cfef 8 = .ok (.ireturn, 1) := by decide +kernel
abbrev cJ0_indexOf_7cf53 : ByteArray := prog_23_method_80_code
def yJ0_indexOf_7cf53 : MethodName := ⟨"java/lang/String", "indexOf", "(II)I"⟩
theorem okJ0_indexOf_7cf53 : yok yJ0_indexOf_7cf53 2 := by decide +kernel
theorem dJ0_indexOf_7cf53_0 : decode cJ0_indexOf_7cf53 0 = .ok (.aload_n 0, 1) := by decide +kernel
theorem dJ0_indexOf_7cf53_1 : decode cJ0_indexOf_7cf53 1 = .ok (.invokevirtual 492, 3) := by decide +kernel
theorem kw_696 : Cond.code yJ0_isLatin1_aae02 prog_23_method_154_code 1 (some .boolean) ∈ uu := uu_in (i := 696) (by decide +kernel) (by decide +kernel)
theorem kw_693 : Cond.methodLink "java/lang/String" 492 yJ0_isLatin1_aae02 ∈ uu := uu_in (i := 693) (by decide +kernel) (by decide +kernel)
theorem kw_694 : Cond.instanceMethod yJ0_isLatin1_aae02 ∈ uu := uu_in (i := 694) (by decide +kernel) (by decide +kernel)
theorem kw_695 : Cond.selects "java/lang/String" yJ0_isLatin1_aae02 yJ0_isLatin1_aae02 ∈ uu := uu_in (i := 695) (by decide +kernel) (by decide +kernel)
theorem lk_java_lang_String_492 : lkV "java/lang/String" 492 yJ0_isLatin1_aae02 cJ0_isLatin1_aae02 1 (some .boolean) 0 := ⟨kw_693, kw_694, kw_695, kw_156, kw_696, okJ0_isLatin1_aae02⟩
theorem dJ0_indexOf_7cf53_4 : decode cJ0_indexOf_7cf53 4 = .ok (.ifCond .eq 19, 3) := by decide +kernel
theorem dJ0_indexOf_7cf53_7 : decode cJ0_indexOf_7cf53 7 = .ok (.aload_n 0, 1) := by decide +kernel
theorem dJ0_indexOf_7cf53_8 : decode cJ0_indexOf_7cf53 8 = .ok (.getfield 9, 3) := by decide +kernel
theorem dJ0_indexOf_7cf53_11 : decode cJ0_indexOf_7cf53 11 = .ok (.iload_n 1, 1) := by decide +kernel
theorem dJ0_indexOf_7cf53_12 : decode cJ0_indexOf_7cf53 12 = .ok (.iload_n 2, 1) := by decide +kernel
theorem dJ0_indexOf_7cf53_13 : decode cJ0_indexOf_7cf53 13 = .ok (.aload_n 0, 1) := by decide +kernel
theorem dJ0_indexOf_7cf53_14 : decode cJ0_indexOf_7cf53 14 = .ok (.invokevirtual 505, 3) := by decide +kernel
theorem kw_702 : Cond.code yJ0_length_8abf5 prog_23_method_54_code 1 (some .int) ∈ uu := uu_in (i := 702) (by decide +kernel) (by decide +kernel)
theorem kw_699 : Cond.methodLink "java/lang/String" 505 yJ0_length_8abf5 ∈ uu := uu_in (i := 699) (by decide +kernel) (by decide +kernel)
theorem kw_700 : Cond.instanceMethod yJ0_length_8abf5 ∈ uu := uu_in (i := 700) (by decide +kernel) (by decide +kernel)
theorem kw_701 : Cond.selects "java/lang/String" yJ0_length_8abf5 yJ0_length_8abf5 ∈ uu := uu_in (i := 701) (by decide +kernel) (by decide +kernel)
theorem lk_java_lang_String_505 : lkV "java/lang/String" 505 yJ0_length_8abf5 cJ0_length_8abf5 1 (some .int) 0 := ⟨kw_699, kw_700, kw_701, kw_156, kw_702, okJ0_length_8abf5⟩
theorem dJ0_indexOf_7cf53_17 : decode cJ0_indexOf_7cf53 17 = .ok (.invokestatic 637, 3) := by decide +kernel
theorem kw_709 : Cond.code yJ1_indexOf_4cfef prog_24_method_22_code 4 (some .int) ∈ uu := uu_in (i := 709) (by decide +kernel) (by decide +kernel)
theorem kw_707 : Cond.methodLink "java/lang/String" 637 yJ1_indexOf_4cfef ∈ uu := uu_in (i := 707) (by decide +kernel) (by decide +kernel)
theorem kw_708 : Cond.static yJ1_indexOf_4cfef ∈ uu := uu_in (i := 708) (by decide +kernel) (by decide +kernel)
theorem lk_java_lang_String_637 : lkS "java/lang/String" 637 yJ1_indexOf_4cfef cJ1_indexOf_4cfef 4 (some .int) 4 := ⟨kw_707, kw_708, kw_157, kw_709, okJ1_indexOf_4cfef⟩
theorem dJ0_indexOf_7cf53_20 : decode cJ0_indexOf_7cf53 20 = .ok (.goto 16, 3) := by decide +kernel
theorem dJ0_indexOf_7cf53_36 : decode cJ0_indexOf_7cf53 36 = .ok (.ireturn, 1) := by decide +kernel
abbrev cJ0_indexOf_0f7a4 : ByteArray := prog_23_method_79_code
def yJ0_indexOf_0f7a4 : MethodName := ⟨"java/lang/String", "indexOf", "(I)I"⟩
theorem okJ0_indexOf_0f7a4 : yok yJ0_indexOf_0f7a4 1 := by decide +kernel
theorem dJ0_indexOf_0f7a4_0 : decode cJ0_indexOf_0f7a4 0 = .ok (.aload_n 0, 1) := by decide +kernel
theorem dJ0_indexOf_0f7a4_1 : decode cJ0_indexOf_0f7a4 1 = .ok (.iload_n 1, 1) := by decide +kernel
theorem dJ0_indexOf_0f7a4_2 : decode cJ0_indexOf_0f7a4 2 = .ok (.iconst 0, 1) := by decide +kernel
theorem dJ0_indexOf_0f7a4_3 : decode cJ0_indexOf_0f7a4 3 = .ok (.invokevirtual 633, 3) := by decide +kernel
theorem kw_692 : Cond.code yJ0_indexOf_7cf53 prog_23_method_80_code 3 (some .int) ∈ uu := uu_in (i := 692) (by decide +kernel) (by decide +kernel)
theorem kw_689 : Cond.methodLink "java/lang/String" 633 yJ0_indexOf_7cf53 ∈ uu := uu_in (i := 689) (by decide +kernel) (by decide +kernel)
theorem kw_690 : Cond.instanceMethod yJ0_indexOf_7cf53 ∈ uu := uu_in (i := 690) (by decide +kernel) (by decide +kernel)
theorem kw_691 : Cond.selects "java/lang/String" yJ0_indexOf_7cf53 yJ0_indexOf_7cf53 ∈ uu := uu_in (i := 691) (by decide +kernel) (by decide +kernel)
theorem lk_java_lang_String_633 : lkV "java/lang/String" 633 yJ0_indexOf_7cf53 cJ0_indexOf_7cf53 3 (some .int) 2 := ⟨kw_689, kw_690, kw_691, kw_156, kw_692, okJ0_indexOf_7cf53⟩
theorem dJ0_indexOf_0f7a4_6 : decode cJ0_indexOf_0f7a4 6 = .ok (.ireturn, 1) := by decide +kernel
abbrev cX10_ofCode : ByteArray := prog_12_method_4_code
def yX10_ofCode : MethodName := ⟨"LandSurvey$Word", "ofCode", "(J)LLandSurvey$Word;"⟩
theorem okX10_ofCode : yok yX10_ofCode 1 := by decide +kernel
theorem dX10_ofCode_0 : decode cX10_ofCode 0 = .ok (.iconst 0, 1) := by decide +kernel
theorem dX10_ofCode_1 : decode cX10_ofCode 1 = .ok (.istore_n 2, 1) := by decide +kernel
theorem dX10_ofCode_2 : decode cX10_ofCode 2 = .ok (.iload_n 2, 1) := by decide +kernel
theorem dX10_ofCode_3 : decode cX10_ofCode 3 = .ok (.getstatic 135, 3) := by decide +kernel
theorem kw_681 : Cond.fieldLink "LandSurvey$Word" 135 "LandSurvey$Word" "ALL" "[LLandSurvey$Word;" ∈ uu := uu_in (i := 681) (by decide +kernel) (by decide +kernel)
theorem dX10_ofCode_6 : decode cX10_ofCode 6 = .ok (.arraylength, 1) := by decide +kernel
theorem dX10_ofCode_7 : decode cX10_ofCode 7 = .ok (.if_icmp .ge 28, 3) := by decide +kernel
theorem dX10_ofCode_35 : decode cX10_ofCode 35 = .ok (.aconst_null, 1) := by decide +kernel
theorem dX10_ofCode_36 : decode cX10_ofCode 36 = .ok (.areturn, 1) := by decide +kernel
theorem dX10_ofCode_10 : decode cX10_ofCode 10 = .ok (.getstatic 135, 3) := by decide +kernel
theorem dX10_ofCode_13 : decode cX10_ofCode 13 = .ok (.iload_n 2, 1) := by decide +kernel
theorem dX10_ofCode_14 : decode cX10_ofCode 14 = .ok (.aaload, 1) := by decide +kernel
theorem dX10_ofCode_15 : decode cX10_ofCode 15 = .ok (.getfield 127, 3) := by decide +kernel
theorem kw_2281 : Cond.fieldLink "LandSurvey$Word" 127 "LandSurvey$Word" "code" "J" ∈ uu := uu_in (i := 2281) (by decide +kernel) (by decide +kernel)
theorem dX10_ofCode_18 : decode cX10_ofCode 18 = .ok (.lload_n 0, 1) := by decide +kernel
theorem dX10_ofCode_19 : decode cX10_ofCode 19 = .ok (.lcmp, 1) := by decide +kernel
theorem dX10_ofCode_20 : decode cX10_ofCode 20 = .ok (.ifCond .ne 9, 3) := by decide +kernel
theorem dX10_ofCode_29 : decode cX10_ofCode 29 = .ok (.iinc 2 1, 3) := by decide +kernel
theorem dX10_ofCode_32 : decode cX10_ofCode 32 = .ok (.goto (-30), 3) := by decide +kernel
theorem dX10_ofCode_23 : decode cX10_ofCode 23 = .ok (.getstatic 135, 3) := by decide +kernel
theorem dX10_ofCode_26 : decode cX10_ofCode 26 = .ok (.iload_n 2, 1) := by decide +kernel
theorem dX10_ofCode_27 : decode cX10_ofCode 27 = .ok (.aaload, 1) := by decide +kernel
theorem dX10_ofCode_28 : decode cX10_ofCode 28 = .ok (.areturn, 1) := by decide +kernel
abbrev cX3_wrong : ByteArray := prog_5_method_5_code
def yX3_wrong : MethodName := ⟨RX3, "wrong", "(I)Z"⟩
theorem okX3_wrong : yok yX3_wrong 1 := by decide +kernel
theorem kw_242 : Cond.fieldLink "LandSurvey$Reader" 33 "LandSurvey$Reader" "fault" "I" ∈ uu := uu_in (i := 242) (by decide +kernel) (by decide +kernel)
theorem fk_LandSurvey_Reader_33 : fkI "LandSurvey$Reader" 33 3 7 RX3 TX3 14 := ⟨rfl, rfl, inX3, by decide, kw_242, by decide⟩
theorem dX3_wrong_0 : decode cX3_wrong 0 = .ok (.aload_n 0, 1) := by decide +kernel
theorem dX3_wrong_1 : decode cX3_wrong 1 = .ok (.iload_n 1, 1) := by decide +kernel
theorem dX3_wrong_2 : decode cX3_wrong 2 = .ok (.bipush 16, 2) := by decide +kernel
theorem dX3_wrong_4 : decode cX3_wrong 4 = .ok (.aload_n 0, 1) := by decide +kernel
theorem dX3_wrong_5 : decode cX3_wrong 5 = .ok (.getfield 66, 3) := by decide +kernel
theorem kw_238 : Cond.fieldLink "LandSurvey$Reader" 66 "LandSurvey$Reader" "place" "I" ∈ uu := uu_in (i := 238) (by decide +kernel) (by decide +kernel)
theorem fk_LandSurvey_Reader_66 : fkI "LandSurvey$Reader" 66 3 3 RX3 TX3 14 := ⟨rfl, rfl, inX3, by decide, kw_238, by decide⟩
theorem dX3_wrong_8 : decode cX3_wrong 8 = .ok (.imul, 1) := by decide +kernel
theorem dX3_wrong_9 : decode cX3_wrong 9 = .ok (.iadd, 1) := by decide +kernel
theorem dX3_wrong_10 : decode cX3_wrong 10 = .ok (.putfield 33, 3) := by decide +kernel
theorem pk_LandSurvey_Reader_7 : pk RX3 TX3 14 7 tyX3 false := ⟨tyX3_ok, nmX3, rfl⟩
theorem dX3_wrong_13 : decode cX3_wrong 13 = .ok (.iconst 0, 1) := by decide +kernel
theorem dX3_wrong_14 : decode cX3_wrong 14 = .ok (.ireturn, 1) := by decide +kernel
abbrev cX3_isNext : ByteArray := prog_5_method_6_code
def yX3_isNext : MethodName := ⟨RX3, "isNext", "(C)Z"⟩
theorem okX3_isNext : yok yX3_isNext 1 := by decide +kernel
theorem dX3_isNext_0 : decode cX3_isNext 0 = .ok (.aload_n 0, 1) := by decide +kernel
theorem dX3_isNext_1 : decode cX3_isNext 1 = .ok (.getfield 49, 3) := by decide +kernel
theorem kw_239 : Cond.fieldLink "LandSurvey$Reader" 49 "LandSurvey$Reader" "kind" "I" ∈ uu := uu_in (i := 239) (by decide +kernel) (by decide +kernel)
theorem fk_LandSurvey_Reader_49 : fkI "LandSurvey$Reader" 49 3 4 RX3 TX3 14 := ⟨rfl, rfl, inX3, by decide, kw_239, by decide⟩
theorem dX3_isNext_4 : decode cX3_isNext 4 = .ok (.iconst 3, 1) := by decide +kernel
theorem dX3_isNext_5 : decode cX3_isNext 5 = .ok (.if_icmp .ne 17, 3) := by decide +kernel
theorem dX3_isNext_22 : decode cX3_isNext 22 = .ok (.iconst 0, 1) := by decide +kernel
theorem dX3_isNext_23 : decode cX3_isNext 23 = .ok (.ireturn, 1) := by decide +kernel
theorem dX3_isNext_8 : decode cX3_isNext 8 = .ok (.aload_n 0, 1) := by decide +kernel
theorem dX3_isNext_9 : decode cX3_isNext 9 = .ok (.getfield 73, 3) := by decide +kernel
theorem kw_240 : Cond.fieldLink "LandSurvey$Reader" 73 "LandSurvey$Reader" "value" "J" ∈ uu := uu_in (i := 240) (by decide +kernel) (by decide +kernel)
theorem fk_LandSurvey_Reader_73 : fkJ "LandSurvey$Reader" 73 3 5 RX3 TX3 14 := ⟨rfl, rfl, inX3, by decide, kw_240, by decide⟩
theorem dX3_isNext_12 : decode cX3_isNext 12 = .ok (.iload_n 1, 1) := by decide +kernel
theorem dX3_isNext_13 : decode cX3_isNext 13 = .ok (.i2l, 1) := by decide +kernel
theorem dX3_isNext_14 : decode cX3_isNext 14 = .ok (.lcmp, 1) := by decide +kernel
theorem dX3_isNext_15 : decode cX3_isNext 15 = .ok (.ifCond .ne 7, 3) := by decide +kernel
theorem dX3_isNext_18 : decode cX3_isNext 18 = .ok (.iconst 1, 1) := by decide +kernel
theorem dX3_isNext_19 : decode cX3_isNext 19 = .ok (.goto 4, 3) := by decide +kernel
abbrev cX3_advance : ByteArray := prog_5_method_4_code
def yX3_advance : MethodName := ⟨RX3, "advance", "()V"⟩
theorem okX3_advance : yok yX3_advance 0 := by decide +kernel
theorem kw_237 : Cond.fieldLink "LandSurvey$Reader" 30 "LandSurvey$Reader" "at" "I" ∈ uu := uu_in (i := 237) (by decide +kernel) (by decide +kernel)
theorem fk_LandSurvey_Reader_30 : fkI "LandSurvey$Reader" 30 3 2 RX3 TX3 14 := ⟨rfl, rfl, inX3, by decide, kw_237, by decide⟩
theorem kw_241 : Cond.fieldLink "LandSurvey$Reader" 69 "LandSurvey$Reader" "word" "LLandSurvey$Word;" ∈ uu := uu_in (i := 241) (by decide +kernel) (by decide +kernel)
theorem fk_LandSurvey_Reader_69 : fkR "LandSurvey$Reader" 69 3 6 RX3 TX3 14 := ⟨rfl, rfl, inX3, by decide, kw_241, by decide⟩
theorem dX3_advance_0 : decode cX3_advance 0 = .ok (.aload_n 0, 1) := by decide +kernel
theorem dX3_advance_1 : decode cX3_advance 1 = .ok (.getfield 30, 3) := by decide +kernel
theorem dX3_advance_4 : decode cX3_advance 4 = .ok (.aload_n 0, 1) := by decide +kernel
theorem dX3_advance_5 : decode cX3_advance 5 = .ok (.getfield 19, 3) := by decide +kernel
theorem dX3_advance_8 : decode cX3_advance 8 = .ok (.if_icmp .ge 44, 3) := by decide +kernel
theorem dX3_advance_52 : decode cX3_advance 52 = .ok (.aload_n 0, 1) := by decide +kernel
theorem dX3_advance_53 : decode cX3_advance 53 = .ok (.aload_n 0, 1) := by decide +kernel
theorem dX3_advance_54 : decode cX3_advance 54 = .ok (.getfield 30, 3) := by decide +kernel
theorem dX3_advance_57 : decode cX3_advance 57 = .ok (.putfield 66, 3) := by decide +kernel
theorem pk_LandSurvey_Reader_3 : pk RX3 TX3 14 3 tyX3 false := ⟨tyX3_ok, nmX3, rfl⟩
theorem dX3_advance_60 : decode cX3_advance 60 = .ok (.aload_n 0, 1) := by decide +kernel
theorem dX3_advance_61 : decode cX3_advance 61 = .ok (.aconst_null, 1) := by decide +kernel
theorem dX3_advance_62 : decode cX3_advance 62 = .ok (.putfield 69, 3) := by decide +kernel
theorem pk_LandSurvey_Reader_6 : pk RX3 TX3 14 6 tyX3 false := ⟨tyX3_ok, nmX3, rfl⟩
theorem dX3_advance_65 : decode cX3_advance 65 = .ok (.aload_n 0, 1) := by decide +kernel
theorem dX3_advance_66 : decode cX3_advance 66 = .ok (.lconst 0, 1) := by decide +kernel
theorem dX3_advance_67 : decode cX3_advance 67 = .ok (.putfield 73, 3) := by decide +kernel
theorem pk_LandSurvey_Reader_5 : pk RX3 TX3 14 5 tyX3 false := ⟨tyX3_ok, nmX3, rfl⟩
theorem dX3_advance_70 : decode cX3_advance 70 = .ok (.aload_n 0, 1) := by decide +kernel
theorem dX3_advance_71 : decode cX3_advance 71 = .ok (.getfield 30, 3) := by decide +kernel
theorem dX3_advance_74 : decode cX3_advance 74 = .ok (.aload_n 0, 1) := by decide +kernel
theorem dX3_advance_75 : decode cX3_advance 75 = .ok (.getfield 19, 3) := by decide +kernel
theorem dX3_advance_78 : decode cX3_advance 78 = .ok (.if_icmp .ge 15, 3) := by decide +kernel
theorem dX3_advance_93 : decode cX3_advance 93 = .ok (.iconst 0, 1) := by decide +kernel
theorem dX3_advance_94 : decode cX3_advance 94 = .ok (.istore_n 1, 1) := by decide +kernel
theorem dX3_advance_95 : decode cX3_advance 95 = .ok (.aload_n 0, 1) := by decide +kernel
theorem dX3_advance_96 : decode cX3_advance 96 = .ok (.getfield 30, 3) := by decide +kernel
theorem dX3_advance_99 : decode cX3_advance 99 = .ok (.aload_n 0, 1) := by decide +kernel
theorem dX3_advance_100 : decode cX3_advance 100 = .ok (.getfield 19, 3) := by decide +kernel
theorem dX3_advance_103 : decode cX3_advance 103 = .ok (.if_icmp .lt 11, 3) := by decide +kernel
theorem dX3_advance_114 : decode cX3_advance 114 = .ok (.iload_n 1, 1) := by decide +kernel
theorem dX3_advance_115 : decode cX3_advance 115 = .ok (.bipush 97, 2) := by decide +kernel
theorem dX3_advance_117 : decode cX3_advance 117 = .ok (.if_icmp .lt 138, 3) := by decide +kernel
theorem dX3_advance_255 : decode cX3_advance 255 = .ok (.iload_n 1, 1) := by decide +kernel
theorem dX3_advance_256 : decode cX3_advance 256 = .ok (.bipush 48, 2) := by decide +kernel
theorem dX3_advance_258 : decode cX3_advance 258 = .ok (.if_icmp .lt 112, 3) := by decide +kernel
theorem dX3_advance_370 : decode cX3_advance 370 = .ok (.aload_n 0, 1) := by decide +kernel
theorem dX3_advance_371 : decode cX3_advance 371 = .ok (.iload_n 1, 1) := by decide +kernel
theorem dX3_advance_372 : decode cX3_advance 372 = .ok (.i2l, 1) := by decide +kernel
theorem dX3_advance_373 : decode cX3_advance 373 = .ok (.putfield 73, 3) := by decide +kernel
theorem dX3_advance_376 : decode cX3_advance 376 = .ok (.aload_n 0, 1) := by decide +kernel
theorem dX3_advance_377 : decode cX3_advance 377 = .ok (.ldc 87, 2) := by decide +kernel
theorem dX3_advance_379 : decode cX3_advance 379 = .ok (.iload_n 1, 1) := by decide +kernel
theorem dX3_advance_380 : decode cX3_advance 380 = .ok (.invokevirtual 89, 3) := by decide +kernel
theorem kw_688 : Cond.code yJ0_indexOf_0f7a4 prog_23_method_79_code 2 (some .int) ∈ uu := uu_in (i := 688) (by decide +kernel) (by decide +kernel)
theorem kw_685 : Cond.methodLink "LandSurvey$Reader" 89 yJ0_indexOf_0f7a4 ∈ uu := uu_in (i := 685) (by decide +kernel) (by decide +kernel)
theorem kw_686 : Cond.instanceMethod yJ0_indexOf_0f7a4 ∈ uu := uu_in (i := 686) (by decide +kernel) (by decide +kernel)
theorem kw_687 : Cond.selects "java/lang/String" yJ0_indexOf_0f7a4 yJ0_indexOf_0f7a4 ∈ uu := uu_in (i := 687) (by decide +kernel) (by decide +kernel)
theorem lk_LandSurvey_Reader_89 : lkV "LandSurvey$Reader" 89 yJ0_indexOf_0f7a4 cJ0_indexOf_0f7a4 2 (some .int) 1 := ⟨kw_685, kw_686, kw_687, kw_156, kw_688, okJ0_indexOf_0f7a4⟩
theorem dX3_advance_383 : decode cX3_advance 383 = .ok (.ifCond .lt 7, 3) := by decide +kernel
theorem dX3_advance_390 : decode cX3_advance 390 = .ok (.iconst 4, 1) := by decide +kernel
theorem dX3_advance_391 : decode cX3_advance 391 = .ok (.putfield 49, 3) := by decide +kernel
theorem pk_LandSurvey_Reader_4 : pk RX3 TX3 14 4 tyX3 false := ⟨tyX3_ok, nmX3, rfl⟩
theorem dX3_advance_394 : decode cX3_advance 394 = .ok (.aload_n 0, 1) := by decide +kernel
theorem dX3_advance_395 : decode cX3_advance 395 = .ok (.dup, 1) := by decide +kernel
theorem dX3_advance_396 : decode cX3_advance 396 = .ok (.getfield 30, 3) := by decide +kernel
theorem dX3_advance_399 : decode cX3_advance 399 = .ok (.iconst 1, 1) := by decide +kernel
theorem dX3_advance_400 : decode cX3_advance 400 = .ok (.iadd, 1) := by decide +kernel
theorem dX3_advance_401 : decode cX3_advance 401 = .ok (.putfield 30, 3) := by decide +kernel
theorem pk_LandSurvey_Reader_2 : pk RX3 TX3 14 2 tyX3 false := ⟨tyX3_ok, nmX3, rfl⟩
theorem dX3_advance_404 : decode cX3_advance 404 = .ok (.return_, 1) := by decide +kernel
theorem dX3_advance_386 : decode cX3_advance 386 = .ok (.iconst 3, 1) := by decide +kernel
theorem dX3_advance_387 : decode cX3_advance 387 = .ok (.goto 4, 3) := by decide +kernel
theorem dX3_advance_106 : decode cX3_advance 106 = .ok (.aload_n 0, 1) := by decide +kernel
theorem dX3_advance_107 : decode cX3_advance 107 = .ok (.iconst 0, 1) := by decide +kernel
theorem dX3_advance_108 : decode cX3_advance 108 = .ok (.putfield 49, 3) := by decide +kernel
theorem dX3_advance_111 : decode cX3_advance 111 = .ok (.goto 293, 3) := by decide +kernel
theorem dX3_advance_81 : decode cX3_advance 81 = .ok (.aload_n 0, 1) := by decide +kernel
theorem dX3_advance_82 : decode cX3_advance 82 = .ok (.getfield 9, 3) := by decide +kernel
theorem dX3_advance_85 : decode cX3_advance 85 = .ok (.aload_n 0, 1) := by decide +kernel
theorem dX3_advance_86 : decode cX3_advance 86 = .ok (.getfield 30, 3) := by decide +kernel
theorem dX3_advance_89 : decode cX3_advance 89 = .ok (.caload, 1) := by decide +kernel
theorem dX3_advance_90 : decode cX3_advance 90 = .ok (.goto 4, 3) := by decide +kernel
theorem dX3_advance_261 : decode cX3_advance 261 = .ok (.iload_n 1, 1) := by decide +kernel
theorem dX3_advance_262 : decode cX3_advance 262 = .ok (.bipush 57, 2) := by decide +kernel
theorem dX3_advance_264 : decode cX3_advance 264 = .ok (.if_icmp .gt 106, 3) := by decide +kernel
theorem dX3_advance_267 : decode cX3_advance 267 = .ok (.aload_n 0, 1) := by decide +kernel
theorem dX3_advance_268 : decode cX3_advance 268 = .ok (.getfield 30, 3) := by decide +kernel
theorem dX3_advance_271 : decode cX3_advance 271 = .ok (.aload_n 0, 1) := by decide +kernel
theorem dX3_advance_272 : decode cX3_advance 272 = .ok (.getfield 19, 3) := by decide +kernel
theorem dX3_advance_275 : decode cX3_advance 275 = .ok (.if_icmp .ge 70, 3) := by decide +kernel
theorem dX3_advance_345 : decode cX3_advance 345 = .ok (.aload_n 0, 1) := by decide +kernel
theorem dX3_advance_346 : decode cX3_advance 346 = .ok (.aload_n 0, 1) := by decide +kernel
theorem dX3_advance_347 : decode cX3_advance 347 = .ok (.getfield 30, 3) := by decide +kernel
theorem dX3_advance_350 : decode cX3_advance 350 = .ok (.aload_n 0, 1) := by decide +kernel
theorem dX3_advance_351 : decode cX3_advance 351 = .ok (.getfield 66, 3) := by decide +kernel
theorem dX3_advance_354 : decode cX3_advance 354 = .ok (.isub, 1) := by decide +kernel
theorem dX3_advance_355 : decode cX3_advance 355 = .ok (.iconst 4, 1) := by decide +kernel
theorem dX3_advance_356 : decode cX3_advance 356 = .ok (.if_icmp .gt 7, 3) := by decide +kernel
theorem dX3_advance_363 : decode cX3_advance 363 = .ok (.iconst 4, 1) := by decide +kernel
theorem dX3_advance_364 : decode cX3_advance 364 = .ok (.putfield 49, 3) := by decide +kernel
theorem dX3_advance_367 : decode cX3_advance 367 = .ok (.goto 37, 3) := by decide +kernel
theorem dX3_advance_359 : decode cX3_advance 359 = .ok (.iconst 2, 1) := by decide +kernel
theorem dX3_advance_360 : decode cX3_advance 360 = .ok (.goto 4, 3) := by decide +kernel
theorem dX3_advance_278 : decode cX3_advance 278 = .ok (.aload_n 0, 1) := by decide +kernel
theorem dX3_advance_279 : decode cX3_advance 279 = .ok (.getfield 9, 3) := by decide +kernel
theorem dX3_advance_282 : decode cX3_advance 282 = .ok (.aload_n 0, 1) := by decide +kernel
theorem dX3_advance_283 : decode cX3_advance 283 = .ok (.getfield 30, 3) := by decide +kernel
theorem dX3_advance_286 : decode cX3_advance 286 = .ok (.caload, 1) := by decide +kernel
theorem dX3_advance_287 : decode cX3_advance 287 = .ok (.bipush 48, 2) := by decide +kernel
theorem dX3_advance_289 : decode cX3_advance 289 = .ok (.if_icmp .lt 56, 3) := by decide +kernel
theorem dX3_advance_292 : decode cX3_advance 292 = .ok (.aload_n 0, 1) := by decide +kernel
theorem dX3_advance_293 : decode cX3_advance 293 = .ok (.getfield 9, 3) := by decide +kernel
theorem dX3_advance_296 : decode cX3_advance 296 = .ok (.aload_n 0, 1) := by decide +kernel
theorem dX3_advance_297 : decode cX3_advance 297 = .ok (.getfield 30, 3) := by decide +kernel
theorem dX3_advance_300 : decode cX3_advance 300 = .ok (.caload, 1) := by decide +kernel
theorem dX3_advance_301 : decode cX3_advance 301 = .ok (.bipush 57, 2) := by decide +kernel
theorem dX3_advance_303 : decode cX3_advance 303 = .ok (.if_icmp .gt 42, 3) := by decide +kernel
theorem dX3_advance_306 : decode cX3_advance 306 = .ok (.aload_n 0, 1) := by decide +kernel
theorem dX3_advance_307 : decode cX3_advance 307 = .ok (.ldc2_w 85, 3) := by decide +kernel
theorem kw_683 : Cond.constantLong "LandSurvey$Reader" 85 (10) ∈ uu := uu_in (i := 683) (by decide +kernel) (by decide +kernel)
theorem dX3_advance_310 : decode cX3_advance 310 = .ok (.aload_n 0, 1) := by decide +kernel
theorem dX3_advance_311 : decode cX3_advance 311 = .ok (.getfield 73, 3) := by decide +kernel
theorem dX3_advance_314 : decode cX3_advance 314 = .ok (.lmul, 1) := by decide +kernel
theorem dX3_advance_315 : decode cX3_advance 315 = .ok (.aload_n 0, 1) := by decide +kernel
theorem dX3_advance_316 : decode cX3_advance 316 = .ok (.getfield 9, 3) := by decide +kernel
theorem dX3_advance_319 : decode cX3_advance 319 = .ok (.aload_n 0, 1) := by decide +kernel
theorem dX3_advance_320 : decode cX3_advance 320 = .ok (.getfield 30, 3) := by decide +kernel
theorem dX3_advance_323 : decode cX3_advance 323 = .ok (.caload, 1) := by decide +kernel
theorem dX3_advance_324 : decode cX3_advance 324 = .ok (.bipush 48, 2) := by decide +kernel
theorem dX3_advance_326 : decode cX3_advance 326 = .ok (.isub, 1) := by decide +kernel
theorem dX3_advance_327 : decode cX3_advance 327 = .ok (.i2l, 1) := by decide +kernel
theorem dX3_advance_328 : decode cX3_advance 328 = .ok (.ladd, 1) := by decide +kernel
theorem dX3_advance_329 : decode cX3_advance 329 = .ok (.putfield 73, 3) := by decide +kernel
theorem dX3_advance_332 : decode cX3_advance 332 = .ok (.aload_n 0, 1) := by decide +kernel
theorem dX3_advance_333 : decode cX3_advance 333 = .ok (.dup, 1) := by decide +kernel
theorem dX3_advance_334 : decode cX3_advance 334 = .ok (.getfield 30, 3) := by decide +kernel
theorem dX3_advance_337 : decode cX3_advance 337 = .ok (.iconst 1, 1) := by decide +kernel
theorem dX3_advance_338 : decode cX3_advance 338 = .ok (.iadd, 1) := by decide +kernel
theorem dX3_advance_339 : decode cX3_advance 339 = .ok (.putfield 30, 3) := by decide +kernel
theorem dX3_advance_342 : decode cX3_advance 342 = .ok (.goto (-75), 3) := by decide +kernel
theorem dX3_advance_120 : decode cX3_advance 120 = .ok (.iload_n 1, 1) := by decide +kernel
theorem dX3_advance_121 : decode cX3_advance 121 = .ok (.bipush 122, 2) := by decide +kernel
theorem dX3_advance_123 : decode cX3_advance 123 = .ok (.if_icmp .gt 132, 3) := by decide +kernel
theorem dX3_advance_126 : decode cX3_advance 126 = .ok (.aload_n 0, 1) := by decide +kernel
theorem dX3_advance_127 : decode cX3_advance 127 = .ok (.getfield 30, 3) := by decide +kernel
theorem dX3_advance_130 : decode cX3_advance 130 = .ok (.aload_n 0, 1) := by decide +kernel
theorem dX3_advance_131 : decode cX3_advance 131 = .ok (.getfield 19, 3) := by decide +kernel
theorem dX3_advance_134 : decode cX3_advance 134 = .ok (.if_icmp .ge 72, 3) := by decide +kernel
theorem dX3_advance_206 : decode cX3_advance 206 = .ok (.aload_n 0, 1) := by decide +kernel
theorem dX3_advance_207 : decode cX3_advance 207 = .ok (.aload_n 0, 1) := by decide +kernel
theorem dX3_advance_208 : decode cX3_advance 208 = .ok (.getfield 30, 3) := by decide +kernel
theorem dX3_advance_211 : decode cX3_advance 211 = .ok (.aload_n 0, 1) := by decide +kernel
theorem dX3_advance_212 : decode cX3_advance 212 = .ok (.getfield 66, 3) := by decide +kernel
theorem dX3_advance_215 : decode cX3_advance 215 = .ok (.isub, 1) := by decide +kernel
theorem dX3_advance_216 : decode cX3_advance 216 = .ok (.bipush 8, 2) := by decide +kernel
theorem dX3_advance_218 : decode cX3_advance 218 = .ok (.if_icmp .gt 7, 3) := by decide +kernel
theorem dX3_advance_225 : decode cX3_advance 225 = .ok (.iconst 4, 1) := by decide +kernel
theorem dX3_advance_226 : decode cX3_advance 226 = .ok (.putfield 49, 3) := by decide +kernel
theorem dX3_advance_229 : decode cX3_advance 229 = .ok (.aload_n 0, 1) := by decide +kernel
theorem dX3_advance_230 : decode cX3_advance 230 = .ok (.aload_n 0, 1) := by decide +kernel
theorem dX3_advance_231 : decode cX3_advance 231 = .ok (.getfield 49, 3) := by decide +kernel
theorem dX3_advance_234 : decode cX3_advance 234 = .ok (.iconst 1, 1) := by decide +kernel
theorem dX3_advance_235 : decode cX3_advance 235 = .ok (.if_icmp .ne 13, 3) := by decide +kernel
theorem dX3_advance_248 : decode cX3_advance 248 = .ok (.aconst_null, 1) := by decide +kernel
theorem dX3_advance_249 : decode cX3_advance 249 = .ok (.putfield 69, 3) := by decide +kernel
theorem dX3_advance_252 : decode cX3_advance 252 = .ok (.goto 152, 3) := by decide +kernel
theorem dX3_advance_221 : decode cX3_advance 221 = .ok (.iconst 1, 1) := by decide +kernel
theorem dX3_advance_222 : decode cX3_advance 222 = .ok (.goto 4, 3) := by decide +kernel
theorem dX3_advance_238 : decode cX3_advance 238 = .ok (.aload_n 0, 1) := by decide +kernel
theorem dX3_advance_239 : decode cX3_advance 239 = .ok (.getfield 73, 3) := by decide +kernel
theorem dX3_advance_242 : decode cX3_advance 242 = .ok (.invokestatic 79, 3) := by decide +kernel
theorem kw_680 : Cond.code yX10_ofCode prog_12_method_4_code 3 (some (.object "LandSurvey$Word")) ∈ uu := uu_in (i := 680) (by decide +kernel) (by decide +kernel)
theorem kw_155 : Cond.initialized "LandSurvey$Word" ∈ uu := uu_in (i := 155) (by decide +kernel) (by decide +kernel)
theorem kw_678 : Cond.methodLink "LandSurvey$Reader" 79 yX10_ofCode ∈ uu := uu_in (i := 678) (by decide +kernel) (by decide +kernel)
theorem kw_679 : Cond.static yX10_ofCode ∈ uu := uu_in (i := 679) (by decide +kernel) (by decide +kernel)
theorem lk_LandSurvey_Reader_79 : lkS "LandSurvey$Reader" 79 yX10_ofCode cX10_ofCode 3 (some (.object "LandSurvey$Word")) 1 := ⟨kw_678, kw_679, kw_155, kw_680, okX10_ofCode⟩
theorem dX3_advance_245 : decode cX3_advance 245 = .ok (.goto 4, 3) := by decide +kernel
theorem dX3_advance_137 : decode cX3_advance 137 = .ok (.aload_n 0, 1) := by decide +kernel
theorem dX3_advance_138 : decode cX3_advance 138 = .ok (.getfield 9, 3) := by decide +kernel
theorem dX3_advance_141 : decode cX3_advance 141 = .ok (.aload_n 0, 1) := by decide +kernel
theorem dX3_advance_142 : decode cX3_advance 142 = .ok (.getfield 30, 3) := by decide +kernel
theorem dX3_advance_145 : decode cX3_advance 145 = .ok (.caload, 1) := by decide +kernel
theorem dX3_advance_146 : decode cX3_advance 146 = .ok (.bipush 97, 2) := by decide +kernel
theorem dX3_advance_148 : decode cX3_advance 148 = .ok (.if_icmp .lt 58, 3) := by decide +kernel
theorem dX3_advance_151 : decode cX3_advance 151 = .ok (.aload_n 0, 1) := by decide +kernel
theorem dX3_advance_152 : decode cX3_advance 152 = .ok (.getfield 9, 3) := by decide +kernel
theorem dX3_advance_155 : decode cX3_advance 155 = .ok (.aload_n 0, 1) := by decide +kernel
theorem dX3_advance_156 : decode cX3_advance 156 = .ok (.getfield 30, 3) := by decide +kernel
theorem dX3_advance_159 : decode cX3_advance 159 = .ok (.caload, 1) := by decide +kernel
theorem dX3_advance_160 : decode cX3_advance 160 = .ok (.bipush 122, 2) := by decide +kernel
theorem dX3_advance_162 : decode cX3_advance 162 = .ok (.if_icmp .gt 44, 3) := by decide +kernel
theorem dX3_advance_165 : decode cX3_advance 165 = .ok (.aload_n 0, 1) := by decide +kernel
theorem dX3_advance_166 : decode cX3_advance 166 = .ok (.ldc2_w 77, 3) := by decide +kernel
theorem kw_677 : Cond.constantLong "LandSurvey$Reader" 77 (27) ∈ uu := uu_in (i := 677) (by decide +kernel) (by decide +kernel)
theorem dX3_advance_169 : decode cX3_advance 169 = .ok (.aload_n 0, 1) := by decide +kernel
theorem dX3_advance_170 : decode cX3_advance 170 = .ok (.getfield 73, 3) := by decide +kernel
theorem dX3_advance_173 : decode cX3_advance 173 = .ok (.lmul, 1) := by decide +kernel
theorem dX3_advance_174 : decode cX3_advance 174 = .ok (.aload_n 0, 1) := by decide +kernel
theorem dX3_advance_175 : decode cX3_advance 175 = .ok (.getfield 9, 3) := by decide +kernel
theorem dX3_advance_178 : decode cX3_advance 178 = .ok (.aload_n 0, 1) := by decide +kernel
theorem dX3_advance_179 : decode cX3_advance 179 = .ok (.getfield 30, 3) := by decide +kernel
theorem dX3_advance_182 : decode cX3_advance 182 = .ok (.caload, 1) := by decide +kernel
theorem dX3_advance_183 : decode cX3_advance 183 = .ok (.bipush 97, 2) := by decide +kernel
theorem dX3_advance_185 : decode cX3_advance 185 = .ok (.isub, 1) := by decide +kernel
theorem dX3_advance_186 : decode cX3_advance 186 = .ok (.iconst 1, 1) := by decide +kernel
theorem dX3_advance_187 : decode cX3_advance 187 = .ok (.iadd, 1) := by decide +kernel
theorem dX3_advance_188 : decode cX3_advance 188 = .ok (.i2l, 1) := by decide +kernel
theorem dX3_advance_189 : decode cX3_advance 189 = .ok (.ladd, 1) := by decide +kernel
theorem dX3_advance_190 : decode cX3_advance 190 = .ok (.putfield 73, 3) := by decide +kernel
theorem dX3_advance_193 : decode cX3_advance 193 = .ok (.aload_n 0, 1) := by decide +kernel
theorem dX3_advance_194 : decode cX3_advance 194 = .ok (.dup, 1) := by decide +kernel
theorem dX3_advance_195 : decode cX3_advance 195 = .ok (.getfield 30, 3) := by decide +kernel
theorem dX3_advance_198 : decode cX3_advance 198 = .ok (.iconst 1, 1) := by decide +kernel
theorem dX3_advance_199 : decode cX3_advance 199 = .ok (.iadd, 1) := by decide +kernel
theorem dX3_advance_200 : decode cX3_advance 200 = .ok (.putfield 30, 3) := by decide +kernel
theorem dX3_advance_203 : decode cX3_advance 203 = .ok (.goto (-77), 3) := by decide +kernel
theorem dX3_advance_11 : decode cX3_advance 11 = .ok (.aload_n 0, 1) := by decide +kernel
theorem dX3_advance_12 : decode cX3_advance 12 = .ok (.getfield 9, 3) := by decide +kernel
theorem dX3_advance_15 : decode cX3_advance 15 = .ok (.aload_n 0, 1) := by decide +kernel
theorem dX3_advance_16 : decode cX3_advance 16 = .ok (.getfield 30, 3) := by decide +kernel
theorem dX3_advance_19 : decode cX3_advance 19 = .ok (.caload, 1) := by decide +kernel
theorem dX3_advance_20 : decode cX3_advance 20 = .ok (.bipush 32, 2) := by decide +kernel
theorem dX3_advance_22 : decode cX3_advance 22 = .ok (.if_icmp .eq 17, 3) := by decide +kernel
theorem dX3_advance_39 : decode cX3_advance 39 = .ok (.aload_n 0, 1) := by decide +kernel
theorem dX3_advance_40 : decode cX3_advance 40 = .ok (.dup, 1) := by decide +kernel
theorem dX3_advance_41 : decode cX3_advance 41 = .ok (.getfield 30, 3) := by decide +kernel
theorem dX3_advance_44 : decode cX3_advance 44 = .ok (.iconst 1, 1) := by decide +kernel
theorem dX3_advance_45 : decode cX3_advance 45 = .ok (.iadd, 1) := by decide +kernel
theorem dX3_advance_46 : decode cX3_advance 46 = .ok (.putfield 30, 3) := by decide +kernel
theorem dX3_advance_49 : decode cX3_advance 49 = .ok (.goto (-49), 3) := by decide +kernel
theorem dX3_advance_25 : decode cX3_advance 25 = .ok (.aload_n 0, 1) := by decide +kernel
theorem dX3_advance_26 : decode cX3_advance 26 = .ok (.getfield 9, 3) := by decide +kernel
theorem dX3_advance_29 : decode cX3_advance 29 = .ok (.aload_n 0, 1) := by decide +kernel
theorem dX3_advance_30 : decode cX3_advance 30 = .ok (.getfield 30, 3) := by decide +kernel
theorem dX3_advance_33 : decode cX3_advance 33 = .ok (.caload, 1) := by decide +kernel
theorem dX3_advance_34 : decode cX3_advance 34 = .ok (.bipush 10, 2) := by decide +kernel
theorem dX3_advance_36 : decode cX3_advance 36 = .ok (.if_icmp .ne 16, 3) := by decide +kernel
abbrev cX3_takeOnly : ByteArray := prog_5_method_7_code
def yX3_takeOnly : MethodName := ⟨RX3, "takeOnly", "(C)Z"⟩
theorem okX3_takeOnly : yok yX3_takeOnly 1 := by decide +kernel
theorem dX3_takeOnly_0 : decode cX3_takeOnly 0 = .ok (.aload_n 0, 1) := by decide +kernel
theorem dX3_takeOnly_1 : decode cX3_takeOnly 1 = .ok (.iload_n 1, 1) := by decide +kernel
theorem dX3_takeOnly_2 : decode cX3_takeOnly 2 = .ok (.invokevirtual 95, 3) := by decide +kernel
theorem kw_806 : Cond.code yX3_isNext prog_5_method_6_code 2 (some .boolean) ∈ uu := uu_in (i := 806) (by decide +kernel) (by decide +kernel)
theorem kw_803 : Cond.methodLink "LandSurvey$Reader" 95 yX3_isNext ∈ uu := uu_in (i := 803) (by decide +kernel) (by decide +kernel)
theorem kw_805 : Cond.instanceMethod yX3_isNext ∈ uu := uu_in (i := 805) (by decide +kernel) (by decide +kernel)
theorem kw_8 : Cond.selects "LandSurvey$Reader" yX3_isNext yX3_isNext ∈ uu := uu_in (i := 8) (by decide +kernel) (by decide +kernel)
theorem lk_LandSurvey_Reader_95 : lkV "LandSurvey$Reader" 95 yX3_isNext cX3_isNext 2 (some .boolean) 1 := ⟨kw_803, kw_805, kw_8, kw_147, kw_806, okX3_isNext⟩
theorem dX3_takeOnly_5 : decode cX3_takeOnly 5 = .ok (.ifCond .ne 9, 3) := by decide +kernel
theorem dX3_takeOnly_14 : decode cX3_takeOnly 14 = .ok (.aload_n 0, 1) := by decide +kernel
theorem dX3_takeOnly_15 : decode cX3_takeOnly 15 = .ok (.invokevirtual 46, 3) := by decide +kernel
theorem kw_676 : Cond.code yX3_advance prog_5_method_4_code 2 none ∈ uu := uu_in (i := 676) (by decide +kernel) (by decide +kernel)
theorem kw_673 : Cond.methodLink "LandSurvey$Reader" 46 yX3_advance ∈ uu := uu_in (i := 673) (by decide +kernel) (by decide +kernel)
theorem kw_675 : Cond.instanceMethod yX3_advance ∈ uu := uu_in (i := 675) (by decide +kernel) (by decide +kernel)
theorem kw_1 : Cond.selects "LandSurvey$Reader" yX3_advance yX3_advance ∈ uu := uu_in (i := 1) (by decide +kernel) (by decide +kernel)
theorem lk_LandSurvey_Reader_46 : lkV "LandSurvey$Reader" 46 yX3_advance cX3_advance 2 none 0 := ⟨kw_673, kw_675, kw_1, kw_147, kw_676, okX3_advance⟩
theorem dX3_takeOnly_18 : decode cX3_takeOnly 18 = .ok (.iconst 1, 1) := by decide +kernel
theorem dX3_takeOnly_19 : decode cX3_takeOnly 19 = .ok (.ireturn, 1) := by decide +kernel
theorem dX3_takeOnly_8 : decode cX3_takeOnly 8 = .ok (.aload_n 0, 1) := by decide +kernel
theorem dX3_takeOnly_9 : decode cX3_takeOnly 9 = .ok (.iconst 1, 1) := by decide +kernel
theorem dX3_takeOnly_10 : decode cX3_takeOnly 10 = .ok (.invokevirtual 99, 3) := by decide +kernel
theorem kw_778 : Cond.code yX3_wrong prog_5_method_5_code 2 (some .boolean) ∈ uu := uu_in (i := 778) (by decide +kernel) (by decide +kernel)
theorem kw_775 : Cond.methodLink "LandSurvey$Reader" 99 yX3_wrong ∈ uu := uu_in (i := 775) (by decide +kernel) (by decide +kernel)
theorem kw_777 : Cond.instanceMethod yX3_wrong ∈ uu := uu_in (i := 777) (by decide +kernel) (by decide +kernel)
theorem kw_3 : Cond.selects "LandSurvey$Reader" yX3_wrong yX3_wrong ∈ uu := uu_in (i := 3) (by decide +kernel) (by decide +kernel)
theorem lk_LandSurvey_Reader_99 : lkV "LandSurvey$Reader" 99 yX3_wrong cX3_wrong 2 (some .boolean) 1 := ⟨kw_775, kw_777, kw_3, kw_147, kw_778, okX3_wrong⟩
theorem dX3_takeOnly_13 : decode cX3_takeOnly 13 = .ok (.ireturn, 1) := by decide +kernel
abbrev cX3_takeOnly_ : ByteArray := prog_5_method_8_code
def yX3_takeOnly_ : MethodName := ⟨RX3, "takeOnly", "(LLandSurvey$Word;)Z"⟩
theorem okX3_takeOnly_ : yok yX3_takeOnly_ 1 := by decide +kernel
theorem dX3_takeOnly__0 : decode cX3_takeOnly_ 0 = .ok (.aload_n 0, 1) := by decide +kernel
theorem dX3_takeOnly__1 : decode cX3_takeOnly_ 1 = .ok (.getfield 69, 3) := by decide +kernel
theorem dX3_takeOnly__4 : decode cX3_takeOnly_ 4 = .ok (.aload_n 1, 1) := by decide +kernel
theorem dX3_takeOnly__5 : decode cX3_takeOnly_ 5 = .ok (.if_acmp .eq 9, 3) := by decide +kernel
theorem dX3_takeOnly__14 : decode cX3_takeOnly_ 14 = .ok (.aload_n 0, 1) := by decide +kernel
theorem dX3_takeOnly__15 : decode cX3_takeOnly_ 15 = .ok (.invokevirtual 46, 3) := by decide +kernel
theorem dX3_takeOnly__18 : decode cX3_takeOnly_ 18 = .ok (.iconst 1, 1) := by decide +kernel
theorem dX3_takeOnly__19 : decode cX3_takeOnly_ 19 = .ok (.ireturn, 1) := by decide +kernel
theorem dX3_takeOnly__8 : decode cX3_takeOnly_ 8 = .ok (.aload_n 0, 1) := by decide +kernel
theorem dX3_takeOnly__9 : decode cX3_takeOnly_ 9 = .ok (.iconst 1, 1) := by decide +kernel
theorem dX3_takeOnly__10 : decode cX3_takeOnly_ 10 = .ok (.invokevirtual 99, 3) := by decide +kernel
theorem dX3_takeOnly__13 : decode cX3_takeOnly_ 13 = .ok (.ireturn, 1) := by decide +kernel
abbrev cX3_takeNumberWithin : ByteArray := prog_5_method_9_code
def yX3_takeNumberWithin : MethodName := ⟨RX3, "takeNumberWithin", "(II)Z"⟩
theorem okX3_takeNumberWithin : yok yX3_takeNumberWithin 2 := by decide +kernel
theorem kw_243 : Cond.fieldLink "LandSurvey$Reader" 103 "LandSurvey$Reader" "taken" "I" ∈ uu := uu_in (i := 243) (by decide +kernel) (by decide +kernel)
theorem fk_LandSurvey_Reader_103 : fkI "LandSurvey$Reader" 103 3 8 RX3 TX3 14 := ⟨rfl, rfl, inX3, by decide, kw_243, by decide⟩
theorem dX3_takeNumberWithin_0 : decode cX3_takeNumberWithin 0 = .ok (.aload_n 0, 1) := by decide +kernel
theorem dX3_takeNumberWithin_1 : decode cX3_takeNumberWithin 1 = .ok (.getfield 49, 3) := by decide +kernel
theorem dX3_takeNumberWithin_4 : decode cX3_takeNumberWithin 4 = .ok (.iconst 2, 1) := by decide +kernel
theorem dX3_takeNumberWithin_5 : decode cX3_takeNumberWithin 5 = .ok (.if_icmp .eq 9, 3) := by decide +kernel
theorem dX3_takeNumberWithin_14 : decode cX3_takeNumberWithin 14 = .ok (.aload_n 0, 1) := by decide +kernel
theorem dX3_takeNumberWithin_15 : decode cX3_takeNumberWithin 15 = .ok (.getfield 73, 3) := by decide +kernel
theorem dX3_takeNumberWithin_18 : decode cX3_takeNumberWithin 18 = .ok (.iload_n 1, 1) := by decide +kernel
theorem dX3_takeNumberWithin_19 : decode cX3_takeNumberWithin 19 = .ok (.i2l, 1) := by decide +kernel
theorem dX3_takeNumberWithin_20 : decode cX3_takeNumberWithin 20 = .ok (.lcmp, 1) := by decide +kernel
theorem dX3_takeNumberWithin_21 : decode cX3_takeNumberWithin 21 = .ok (.ifCond .lt 13, 3) := by decide +kernel
theorem dX3_takeNumberWithin_34 : decode cX3_takeNumberWithin 34 = .ok (.aload_n 0, 1) := by decide +kernel
theorem dX3_takeNumberWithin_35 : decode cX3_takeNumberWithin 35 = .ok (.iconst 4, 1) := by decide +kernel
theorem dX3_takeNumberWithin_36 : decode cX3_takeNumberWithin 36 = .ok (.invokevirtual 99, 3) := by decide +kernel
theorem dX3_takeNumberWithin_39 : decode cX3_takeNumberWithin 39 = .ok (.ireturn, 1) := by decide +kernel
theorem dX3_takeNumberWithin_24 : decode cX3_takeNumberWithin 24 = .ok (.aload_n 0, 1) := by decide +kernel
theorem dX3_takeNumberWithin_25 : decode cX3_takeNumberWithin 25 = .ok (.getfield 73, 3) := by decide +kernel
theorem dX3_takeNumberWithin_28 : decode cX3_takeNumberWithin 28 = .ok (.iload_n 2, 1) := by decide +kernel
theorem dX3_takeNumberWithin_29 : decode cX3_takeNumberWithin 29 = .ok (.i2l, 1) := by decide +kernel
theorem dX3_takeNumberWithin_30 : decode cX3_takeNumberWithin 30 = .ok (.lcmp, 1) := by decide +kernel
theorem dX3_takeNumberWithin_31 : decode cX3_takeNumberWithin 31 = .ok (.ifCond .le 9, 3) := by decide +kernel
theorem dX3_takeNumberWithin_40 : decode cX3_takeNumberWithin 40 = .ok (.aload_n 0, 1) := by decide +kernel
theorem dX3_takeNumberWithin_41 : decode cX3_takeNumberWithin 41 = .ok (.aload_n 0, 1) := by decide +kernel
theorem dX3_takeNumberWithin_42 : decode cX3_takeNumberWithin 42 = .ok (.getfield 73, 3) := by decide +kernel
theorem dX3_takeNumberWithin_45 : decode cX3_takeNumberWithin 45 = .ok (.l2i, 1) := by decide +kernel
theorem dX3_takeNumberWithin_46 : decode cX3_takeNumberWithin 46 = .ok (.putfield 103, 3) := by decide +kernel
theorem pk_LandSurvey_Reader_8 : pk RX3 TX3 14 8 tyX3 false := ⟨tyX3_ok, nmX3, rfl⟩
theorem dX3_takeNumberWithin_49 : decode cX3_takeNumberWithin 49 = .ok (.aload_n 0, 1) := by decide +kernel
theorem dX3_takeNumberWithin_50 : decode cX3_takeNumberWithin 50 = .ok (.invokevirtual 46, 3) := by decide +kernel
theorem dX3_takeNumberWithin_53 : decode cX3_takeNumberWithin 53 = .ok (.iconst 1, 1) := by decide +kernel
theorem dX3_takeNumberWithin_54 : decode cX3_takeNumberWithin 54 = .ok (.ireturn, 1) := by decide +kernel
theorem dX3_takeNumberWithin_8 : decode cX3_takeNumberWithin 8 = .ok (.aload_n 0, 1) := by decide +kernel
theorem dX3_takeNumberWithin_9 : decode cX3_takeNumberWithin 9 = .ok (.iconst 1, 1) := by decide +kernel
theorem dX3_takeNumberWithin_10 : decode cX3_takeNumberWithin 10 = .ok (.invokevirtual 99, 3) := by decide +kernel
theorem dX3_takeNumberWithin_13 : decode cX3_takeNumberWithin 13 = .ok (.ireturn, 1) := by decide +kernel
abbrev cX3_takeRockNotYounger : ByteArray := prog_5_method_10_code
def yX3_takeRockNotYounger : MethodName := ⟨RX3, "takeRockNotYounger", "(I)Z"⟩
theorem okX3_takeRockNotYounger : yok yX3_takeRockNotYounger 1 := by decide +kernel
theorem dX3_takeRockNotYounger_0 : decode cX3_takeRockNotYounger 0 = .ok (.aload_n 0, 1) := by decide +kernel
theorem dX3_takeRockNotYounger_1 : decode cX3_takeRockNotYounger 1 = .ok (.getfield 49, 3) := by decide +kernel
theorem dX3_takeRockNotYounger_4 : decode cX3_takeRockNotYounger 4 = .ok (.iconst 1, 1) := by decide +kernel
theorem dX3_takeRockNotYounger_5 : decode cX3_takeRockNotYounger 5 = .ok (.if_icmp .ne 10, 3) := by decide +kernel
theorem dX3_takeRockNotYounger_15 : decode cX3_takeRockNotYounger 15 = .ok (.aload_n 0, 1) := by decide +kernel
theorem dX3_takeRockNotYounger_16 : decode cX3_takeRockNotYounger 16 = .ok (.iconst 1, 1) := by decide +kernel
theorem dX3_takeRockNotYounger_17 : decode cX3_takeRockNotYounger 17 = .ok (.invokevirtual 99, 3) := by decide +kernel
theorem dX3_takeRockNotYounger_20 : decode cX3_takeRockNotYounger 20 = .ok (.ireturn, 1) := by decide +kernel
theorem dX3_takeRockNotYounger_8 : decode cX3_takeRockNotYounger 8 = .ok (.aload_n 0, 1) := by decide +kernel
theorem dX3_takeRockNotYounger_9 : decode cX3_takeRockNotYounger 9 = .ok (.getfield 69, 3) := by decide +kernel
theorem dX3_takeRockNotYounger_12 : decode cX3_takeRockNotYounger 12 = .ok (.ifnull 9, 3) := by decide +kernel
theorem dX3_takeRockNotYounger_21 : decode cX3_takeRockNotYounger 21 = .ok (.aload_n 0, 1) := by decide +kernel
theorem dX3_takeRockNotYounger_22 : decode cX3_takeRockNotYounger 22 = .ok (.getfield 26, 3) := by decide +kernel
theorem kw_248 : Cond.fieldLink "LandSurvey$Reader" 26 "LandSurvey$Reader" "made" "LLandSurvey$Rules;" ∈ uu := uu_in (i := 248) (by decide +kernel) (by decide +kernel)
theorem fk_LandSurvey_Reader_26 : fkR "LandSurvey$Reader" 26 3 13 RX3 TX3 14 := ⟨rfl, rfl, inX3, by decide, kw_248, by decide⟩
theorem dX3_takeRockNotYounger_25 : decode cX3_takeRockNotYounger 25 = .ok (.aload_n 0, 1) := by decide +kernel
theorem dX3_takeRockNotYounger_26 : decode cX3_takeRockNotYounger 26 = .ok (.getfield 73, 3) := by decide +kernel
theorem dX3_takeRockNotYounger_29 : decode cX3_takeRockNotYounger 29 = .ok (.invokevirtual 106, 3) := by decide +kernel
theorem kw_788 : Cond.code yX5_rockNamed prog_7_method_2_code 4 (some .int) ∈ uu := uu_in (i := 788) (by decide +kernel) (by decide +kernel)
theorem kw_785 : Cond.methodLink "LandSurvey$Reader" 106 yX5_rockNamed ∈ uu := uu_in (i := 785) (by decide +kernel) (by decide +kernel)
theorem kw_786 : Cond.instanceMethod yX5_rockNamed ∈ uu := uu_in (i := 786) (by decide +kernel) (by decide +kernel)
theorem kw_787 : Cond.selects "LandSurvey$Rules" yX5_rockNamed yX5_rockNamed ∈ uu := uu_in (i := 787) (by decide +kernel) (by decide +kernel)
theorem lk_LandSurvey_Reader_106 : lkV "LandSurvey$Reader" 106 yX5_rockNamed cX5_rockNamed 4 (some .int) 1 := ⟨kw_785, kw_786, kw_787, kw_149, kw_788, okX5_rockNamed⟩
theorem dX3_takeRockNotYounger_32 : decode cX3_takeRockNotYounger 32 = .ok (.istore_n 2, 1) := by decide +kernel
theorem dX3_takeRockNotYounger_33 : decode cX3_takeRockNotYounger 33 = .ok (.iload_n 2, 1) := by decide +kernel
theorem dX3_takeRockNotYounger_34 : decode cX3_takeRockNotYounger 34 = .ok (.iconst (-1), 1) := by decide +kernel
theorem dX3_takeRockNotYounger_35 : decode cX3_takeRockNotYounger 35 = .ok (.if_icmp .ne 9, 3) := by decide +kernel
theorem dX3_takeRockNotYounger_44 : decode cX3_takeRockNotYounger 44 = .ok (.iload_n 2, 1) := by decide +kernel
theorem dX3_takeRockNotYounger_45 : decode cX3_takeRockNotYounger 45 = .ok (.iload_n 1, 1) := by decide +kernel
theorem dX3_takeRockNotYounger_46 : decode cX3_takeRockNotYounger 46 = .ok (.if_icmp .ge 9, 3) := by decide +kernel
theorem dX3_takeRockNotYounger_55 : decode cX3_takeRockNotYounger 55 = .ok (.aload_n 0, 1) := by decide +kernel
theorem dX3_takeRockNotYounger_56 : decode cX3_takeRockNotYounger 56 = .ok (.iload_n 2, 1) := by decide +kernel
theorem dX3_takeRockNotYounger_57 : decode cX3_takeRockNotYounger 57 = .ok (.putfield 103, 3) := by decide +kernel
theorem dX3_takeRockNotYounger_60 : decode cX3_takeRockNotYounger 60 = .ok (.aload_n 0, 1) := by decide +kernel
theorem dX3_takeRockNotYounger_61 : decode cX3_takeRockNotYounger 61 = .ok (.invokevirtual 46, 3) := by decide +kernel
theorem dX3_takeRockNotYounger_64 : decode cX3_takeRockNotYounger 64 = .ok (.iconst 1, 1) := by decide +kernel
theorem dX3_takeRockNotYounger_65 : decode cX3_takeRockNotYounger 65 = .ok (.ireturn, 1) := by decide +kernel
theorem dX3_takeRockNotYounger_49 : decode cX3_takeRockNotYounger 49 = .ok (.aload_n 0, 1) := by decide +kernel
theorem dX3_takeRockNotYounger_50 : decode cX3_takeRockNotYounger 50 = .ok (.iconst 4, 1) := by decide +kernel
theorem dX3_takeRockNotYounger_51 : decode cX3_takeRockNotYounger 51 = .ok (.invokevirtual 99, 3) := by decide +kernel
theorem dX3_takeRockNotYounger_54 : decode cX3_takeRockNotYounger 54 = .ok (.ireturn, 1) := by decide +kernel
theorem dX3_takeRockNotYounger_38 : decode cX3_takeRockNotYounger 38 = .ok (.aload_n 0, 1) := by decide +kernel
theorem dX3_takeRockNotYounger_39 : decode cX3_takeRockNotYounger 39 = .ok (.iconst 2, 1) := by decide +kernel
theorem dX3_takeRockNotYounger_40 : decode cX3_takeRockNotYounger 40 = .ok (.invokevirtual 99, 3) := by decide +kernel
theorem dX3_takeRockNotYounger_43 : decode cX3_takeRockNotYounger 43 = .ok (.ireturn, 1) := by decide +kernel
abbrev cX3_mayAddLine : ByteArray := prog_5_method_13_code
def yX3_mayAddLine : MethodName := ⟨RX3, "mayAddLine", "()Z"⟩
theorem okX3_mayAddLine : yok yX3_mayAddLine 0 := by decide +kernel
theorem dX3_mayAddLine_0 : decode cX3_mayAddLine 0 = .ok (.aload_n 0, 1) := by decide +kernel
theorem dX3_mayAddLine_1 : decode cX3_mayAddLine 1 = .ok (.getfield 26, 3) := by decide +kernel
theorem dX3_mayAddLine_4 : decode cX3_mayAddLine 4 = .ok (.getfield 181, 3) := by decide +kernel
theorem kw_326 : Cond.fieldLink "LandSurvey$Reader" 181 "LandSurvey$Rules" "lines" "I" ∈ uu := uu_in (i := 326) (by decide +kernel) (by decide +kernel)
theorem fk_LandSurvey_Reader_181 : fkI "LandSurvey$Reader" 181 5 13 RX5 TX5 19 := ⟨rfl, rfl, inX5, by decide, kw_326, by decide⟩
theorem dX3_mayAddLine_7 : decode cX3_mayAddLine 7 = .ok (.bipush 24, 2) := by decide +kernel
theorem dX3_mayAddLine_9 : decode cX3_mayAddLine 9 = .ok (.if_icmp .lt 9, 3) := by decide +kernel
theorem dX3_mayAddLine_18 : decode cX3_mayAddLine 18 = .ok (.aload_n 0, 1) := by decide +kernel
theorem dX3_mayAddLine_19 : decode cX3_mayAddLine 19 = .ok (.invokevirtual 46, 3) := by decide +kernel
theorem dX3_mayAddLine_22 : decode cX3_mayAddLine 22 = .ok (.iconst 1, 1) := by decide +kernel
theorem dX3_mayAddLine_23 : decode cX3_mayAddLine 23 = .ok (.ireturn, 1) := by decide +kernel
theorem dX3_mayAddLine_12 : decode cX3_mayAddLine 12 = .ok (.aload_n 0, 1) := by decide +kernel
theorem dX3_mayAddLine_13 : decode cX3_mayAddLine 13 = .ok (.iconst 5, 1) := by decide +kernel
theorem dX3_mayAddLine_14 : decode cX3_mayAddLine 14 = .ok (.invokevirtual 99, 3) := by decide +kernel
theorem dX3_mayAddLine_17 : decode cX3_mayAddLine 17 = .ok (.ireturn, 1) := by decide +kernel
abbrev cX3_takeStyle : ByteArray := prog_5_method_14_code
def yX3_takeStyle : MethodName := ⟨RX3, "takeStyle", "()Z"⟩
theorem okX3_takeStyle : yok yX3_takeStyle 0 := by decide +kernel
theorem dX3_takeStyle_0 : decode cX3_takeStyle 0 = .ok (.aload_n 0, 1) := by decide +kernel
theorem dX3_takeStyle_1 : decode cX3_takeStyle 1 = .ok (.getfield 69, 3) := by decide +kernel
theorem dX3_takeStyle_4 : decode cX3_takeStyle 4 = .ok (.getstatic 184, 3) := by decide +kernel
theorem kw_857 : Cond.fieldLink "LandSurvey$Reader" 184 "LandSurvey$Word" "FULL" "LLandSurvey$Word;" ∈ uu := uu_in (i := 857) (by decide +kernel) (by decide +kernel)
theorem dX3_takeStyle_7 : decode cX3_takeStyle 7 = .ok (.if_acmp .ne 11, 3) := by decide +kernel
theorem dX3_takeStyle_18 : decode cX3_takeStyle 18 = .ok (.aload_n 0, 1) := by decide +kernel
theorem dX3_takeStyle_19 : decode cX3_takeStyle 19 = .ok (.getfield 69, 3) := by decide +kernel
theorem dX3_takeStyle_22 : decode cX3_takeStyle 22 = .ok (.getstatic 187, 3) := by decide +kernel
theorem kw_859 : Cond.fieldLink "LandSurvey$Reader" 187 "LandSurvey$Word" "BROKEN" "LLandSurvey$Word;" ∈ uu := uu_in (i := 859) (by decide +kernel) (by decide +kernel)
theorem dX3_takeStyle_25 : decode cX3_takeStyle 25 = .ok (.if_acmp .ne 11, 3) := by decide +kernel
theorem dX3_takeStyle_36 : decode cX3_takeStyle 36 = .ok (.aload_n 0, 1) := by decide +kernel
theorem dX3_takeStyle_37 : decode cX3_takeStyle 37 = .ok (.getfield 69, 3) := by decide +kernel
theorem dX3_takeStyle_40 : decode cX3_takeStyle 40 = .ok (.getstatic 190, 3) := by decide +kernel
theorem kw_861 : Cond.fieldLink "LandSurvey$Reader" 190 "LandSurvey$Word" "DOTTED" "LLandSurvey$Word;" ∈ uu := uu_in (i := 861) (by decide +kernel) (by decide +kernel)
theorem dX3_takeStyle_43 : decode cX3_takeStyle 43 = .ok (.if_acmp .ne 11, 3) := by decide +kernel
theorem dX3_takeStyle_54 : decode cX3_takeStyle 54 = .ok (.aload_n 0, 1) := by decide +kernel
theorem dX3_takeStyle_55 : decode cX3_takeStyle 55 = .ok (.iconst 1, 1) := by decide +kernel
theorem dX3_takeStyle_56 : decode cX3_takeStyle 56 = .ok (.invokevirtual 99, 3) := by decide +kernel
theorem dX3_takeStyle_59 : decode cX3_takeStyle 59 = .ok (.ireturn, 1) := by decide +kernel
theorem dX3_takeStyle_46 : decode cX3_takeStyle 46 = .ok (.aload_n 0, 1) := by decide +kernel
theorem dX3_takeStyle_47 : decode cX3_takeStyle 47 = .ok (.iconst 1, 1) := by decide +kernel
theorem dX3_takeStyle_48 : decode cX3_takeStyle 48 = .ok (.putfield 103, 3) := by decide +kernel
theorem dX3_takeStyle_51 : decode cX3_takeStyle 51 = .ok (.goto 9, 3) := by decide +kernel
theorem dX3_takeStyle_60 : decode cX3_takeStyle 60 = .ok (.aload_n 0, 1) := by decide +kernel
theorem dX3_takeStyle_61 : decode cX3_takeStyle 61 = .ok (.invokevirtual 46, 3) := by decide +kernel
theorem dX3_takeStyle_64 : decode cX3_takeStyle 64 = .ok (.iconst 1, 1) := by decide +kernel
theorem dX3_takeStyle_65 : decode cX3_takeStyle 65 = .ok (.ireturn, 1) := by decide +kernel
theorem dX3_takeStyle_28 : decode cX3_takeStyle 28 = .ok (.aload_n 0, 1) := by decide +kernel
theorem dX3_takeStyle_29 : decode cX3_takeStyle 29 = .ok (.iconst 2, 1) := by decide +kernel
theorem dX3_takeStyle_30 : decode cX3_takeStyle 30 = .ok (.putfield 103, 3) := by decide +kernel
theorem dX3_takeStyle_33 : decode cX3_takeStyle 33 = .ok (.goto 27, 3) := by decide +kernel
theorem dX3_takeStyle_10 : decode cX3_takeStyle 10 = .ok (.aload_n 0, 1) := by decide +kernel
theorem dX3_takeStyle_11 : decode cX3_takeStyle 11 = .ok (.iconst 3, 1) := by decide +kernel
theorem dX3_takeStyle_12 : decode cX3_takeStyle 12 = .ok (.putfield 103, 3) := by decide +kernel
theorem dX3_takeStyle_15 : decode cX3_takeStyle 15 = .ok (.goto 45, 3) := by decide +kernel
abbrev cX3_readRock : ByteArray := prog_5_method_12_code
def yX3_readRock : MethodName := ⟨RX3, "readRock", "()Z"⟩
theorem okX3_readRock : yok yX3_readRock 0 := by decide +kernel
theorem kw_295 : Cond.fieldLink "LandSurvey$Reader" 159 "LandSurvey$Rules" "rocks" "I" ∈ uu := uu_in (i := 295) (by decide +kernel) (by decide +kernel)
theorem fk_LandSurvey_Reader_159 : fkI "LandSurvey$Reader" 159 5 0 RX5 TX5 19 := ⟨rfl, rfl, inX5, by decide, kw_295, by decide⟩
theorem dX3_readRock_0 : decode cX3_readRock 0 = .ok (.aload_n 0, 1) := by decide +kernel
theorem dX3_readRock_1 : decode cX3_readRock 1 = .ok (.getfield 26, 3) := by decide +kernel
theorem dX3_readRock_4 : decode cX3_readRock 4 = .ok (.getfield 159, 3) := by decide +kernel
theorem dX3_readRock_7 : decode cX3_readRock 7 = .ok (.bipush 10, 2) := by decide +kernel
theorem dX3_readRock_9 : decode cX3_readRock 9 = .ok (.if_icmp .lt 9, 3) := by decide +kernel
theorem dX3_readRock_18 : decode cX3_readRock 18 = .ok (.aload_n 0, 1) := by decide +kernel
theorem dX3_readRock_19 : decode cX3_readRock 19 = .ok (.invokevirtual 46, 3) := by decide +kernel
theorem dX3_readRock_22 : decode cX3_readRock 22 = .ok (.aload_n 0, 1) := by decide +kernel
theorem dX3_readRock_23 : decode cX3_readRock 23 = .ok (.getfield 49, 3) := by decide +kernel
theorem dX3_readRock_26 : decode cX3_readRock 26 = .ok (.iconst 1, 1) := by decide +kernel
theorem dX3_readRock_27 : decode cX3_readRock 27 = .ok (.if_icmp .ne 10, 3) := by decide +kernel
theorem dX3_readRock_37 : decode cX3_readRock 37 = .ok (.aload_n 0, 1) := by decide +kernel
theorem dX3_readRock_38 : decode cX3_readRock 38 = .ok (.iconst 1, 1) := by decide +kernel
theorem dX3_readRock_39 : decode cX3_readRock 39 = .ok (.invokevirtual 99, 3) := by decide +kernel
theorem dX3_readRock_42 : decode cX3_readRock 42 = .ok (.ireturn, 1) := by decide +kernel
theorem dX3_readRock_30 : decode cX3_readRock 30 = .ok (.aload_n 0, 1) := by decide +kernel
theorem dX3_readRock_31 : decode cX3_readRock 31 = .ok (.getfield 69, 3) := by decide +kernel
theorem dX3_readRock_34 : decode cX3_readRock 34 = .ok (.ifnull 9, 3) := by decide +kernel
theorem dX3_readRock_43 : decode cX3_readRock 43 = .ok (.aload_n 0, 1) := by decide +kernel
theorem dX3_readRock_44 : decode cX3_readRock 44 = .ok (.getfield 26, 3) := by decide +kernel
theorem dX3_readRock_47 : decode cX3_readRock 47 = .ok (.aload_n 0, 1) := by decide +kernel
theorem dX3_readRock_48 : decode cX3_readRock 48 = .ok (.getfield 73, 3) := by decide +kernel
theorem dX3_readRock_51 : decode cX3_readRock 51 = .ok (.invokevirtual 106, 3) := by decide +kernel
theorem dX3_readRock_54 : decode cX3_readRock 54 = .ok (.iconst (-1), 1) := by decide +kernel
theorem dX3_readRock_55 : decode cX3_readRock 55 = .ok (.if_icmp .eq 9, 3) := by decide +kernel
theorem dX3_readRock_64 : decode cX3_readRock 64 = .ok (.aload_n 0, 1) := by decide +kernel
theorem dX3_readRock_65 : decode cX3_readRock 65 = .ok (.getfield 73, 3) := by decide +kernel
theorem dX3_readRock_68 : decode cX3_readRock 68 = .ok (.lstore_n 1, 1) := by decide +kernel
theorem dX3_readRock_69 : decode cX3_readRock 69 = .ok (.aload_n 0, 1) := by decide +kernel
theorem dX3_readRock_70 : decode cX3_readRock 70 = .ok (.invokevirtual 46, 3) := by decide +kernel
theorem dX3_readRock_73 : decode cX3_readRock 73 = .ok (.aload_n 0, 1) := by decide +kernel
theorem dX3_readRock_74 : decode cX3_readRock 74 = .ok (.iconst 0, 1) := by decide +kernel
theorem dX3_readRock_75 : decode cX3_readRock 75 = .ok (.sipush 200, 3) := by decide +kernel
theorem dX3_readRock_78 : decode cX3_readRock 78 = .ok (.invokevirtual 131, 3) := by decide +kernel
theorem kw_792 : Cond.code yX3_takeNumberWithin prog_5_method_9_code 3 (some .boolean) ∈ uu := uu_in (i := 792) (by decide +kernel) (by decide +kernel)
theorem kw_789 : Cond.methodLink "LandSurvey$Reader" 131 yX3_takeNumberWithin ∈ uu := uu_in (i := 789) (by decide +kernel) (by decide +kernel)
theorem kw_791 : Cond.instanceMethod yX3_takeNumberWithin ∈ uu := uu_in (i := 791) (by decide +kernel) (by decide +kernel)
theorem kw_5 : Cond.selects "LandSurvey$Reader" yX3_takeNumberWithin yX3_takeNumberWithin ∈ uu := uu_in (i := 5) (by decide +kernel) (by decide +kernel)
theorem lk_LandSurvey_Reader_131 : lkV "LandSurvey$Reader" 131 yX3_takeNumberWithin cX3_takeNumberWithin 3 (some .boolean) 2 := ⟨kw_789, kw_791, kw_5, kw_147, kw_792, okX3_takeNumberWithin⟩
theorem dX3_readRock_81 : decode cX3_readRock 81 = .ok (.ifCond .ne 5, 3) := by decide +kernel
theorem dX3_readRock_86 : decode cX3_readRock 86 = .ok (.aload_n 0, 1) := by decide +kernel
theorem dX3_readRock_87 : decode cX3_readRock 87 = .ok (.getfield 103, 3) := by decide +kernel
theorem dX3_readRock_90 : decode cX3_readRock 90 = .ok (.istore_n 3, 1) := by decide +kernel
theorem dX3_readRock_91 : decode cX3_readRock 91 = .ok (.aload_n 0, 1) := by decide +kernel
theorem dX3_readRock_92 : decode cX3_readRock 92 = .ok (.getstatic 162, 3) := by decide +kernel
theorem kw_793 : Cond.fieldLink "LandSurvey$Reader" 162 "LandSurvey$Word" "TO" "LLandSurvey$Word;" ∈ uu := uu_in (i := 793) (by decide +kernel) (by decide +kernel)
theorem dX3_readRock_95 : decode cX3_readRock 95 = .ok (.invokevirtual 165, 3) := by decide +kernel
theorem kw_798 : Cond.code yX3_takeOnly_ prog_5_method_8_code 2 (some .boolean) ∈ uu := uu_in (i := 798) (by decide +kernel) (by decide +kernel)
theorem kw_795 : Cond.methodLink "LandSurvey$Reader" 165 yX3_takeOnly_ ∈ uu := uu_in (i := 795) (by decide +kernel) (by decide +kernel)
theorem kw_797 : Cond.instanceMethod yX3_takeOnly_ ∈ uu := uu_in (i := 797) (by decide +kernel) (by decide +kernel)
theorem kw_6 : Cond.selects "LandSurvey$Reader" yX3_takeOnly_ yX3_takeOnly_ ∈ uu := uu_in (i := 6) (by decide +kernel) (by decide +kernel)
theorem lk_LandSurvey_Reader_165 : lkV "LandSurvey$Reader" 165 yX3_takeOnly_ cX3_takeOnly_ 2 (some .boolean) 1 := ⟨kw_795, kw_797, kw_6, kw_147, kw_798, okX3_takeOnly_⟩
theorem dX3_readRock_98 : decode cX3_readRock 98 = .ok (.ifCond .eq 23, 3) := by decide +kernel
theorem dX3_readRock_121 : decode cX3_readRock 121 = .ok (.iconst 0, 1) := by decide +kernel
theorem dX3_readRock_122 : decode cX3_readRock 122 = .ok (.ireturn, 1) := by decide +kernel
theorem dX3_readRock_101 : decode cX3_readRock 101 = .ok (.aload_n 0, 1) := by decide +kernel
theorem dX3_readRock_102 : decode cX3_readRock 102 = .ok (.iload_n 3, 1) := by decide +kernel
theorem dX3_readRock_103 : decode cX3_readRock 103 = .ok (.sipush 200, 3) := by decide +kernel
theorem dX3_readRock_106 : decode cX3_readRock 106 = .ok (.invokevirtual 131, 3) := by decide +kernel
theorem dX3_readRock_109 : decode cX3_readRock 109 = .ok (.ifCond .eq 12, 3) := by decide +kernel
theorem dX3_readRock_112 : decode cX3_readRock 112 = .ok (.aload_n 0, 1) := by decide +kernel
theorem dX3_readRock_113 : decode cX3_readRock 113 = .ok (.bipush 59, 2) := by decide +kernel
theorem dX3_readRock_115 : decode cX3_readRock 115 = .ok (.invokevirtual 169, 3) := by decide +kernel
theorem kw_802 : Cond.code yX3_takeOnly prog_5_method_7_code 2 (some .boolean) ∈ uu := uu_in (i := 802) (by decide +kernel) (by decide +kernel)
theorem kw_799 : Cond.methodLink "LandSurvey$Reader" 169 yX3_takeOnly ∈ uu := uu_in (i := 799) (by decide +kernel) (by decide +kernel)
theorem kw_801 : Cond.instanceMethod yX3_takeOnly ∈ uu := uu_in (i := 801) (by decide +kernel) (by decide +kernel)
theorem kw_7 : Cond.selects "LandSurvey$Reader" yX3_takeOnly yX3_takeOnly ∈ uu := uu_in (i := 7) (by decide +kernel) (by decide +kernel)
theorem lk_LandSurvey_Reader_169 : lkV "LandSurvey$Reader" 169 yX3_takeOnly cX3_takeOnly 2 (some .boolean) 1 := ⟨kw_799, kw_801, kw_7, kw_147, kw_802, okX3_takeOnly⟩
theorem dX3_readRock_118 : decode cX3_readRock 118 = .ok (.ifCond .ne 5, 3) := by decide +kernel
theorem dX3_readRock_123 : decode cX3_readRock 123 = .ok (.aload_n 0, 1) := by decide +kernel
theorem dX3_readRock_124 : decode cX3_readRock 124 = .ok (.getfield 26, 3) := by decide +kernel
theorem dX3_readRock_127 : decode cX3_readRock 127 = .ok (.getfield 171, 3) := by decide +kernel
theorem kw_298 : Cond.fieldLink "LandSurvey$Reader" 171 "LandSurvey$Rules" "names" "[J" ∈ uu := uu_in (i := 298) (by decide +kernel) (by decide +kernel)
theorem fk_LandSurvey_Reader_171 : fkR "LandSurvey$Reader" 171 5 1 RX5 TX5 19 := ⟨rfl, rfl, inX5, by decide, kw_298, by decide⟩
theorem dX3_readRock_130 : decode cX3_readRock 130 = .ok (.aload_n 0, 1) := by decide +kernel
theorem dX3_readRock_131 : decode cX3_readRock 131 = .ok (.getfield 26, 3) := by decide +kernel
theorem dX3_readRock_134 : decode cX3_readRock 134 = .ok (.getfield 159, 3) := by decide +kernel
theorem dX3_readRock_137 : decode cX3_readRock 137 = .ok (.lload_n 1, 1) := by decide +kernel
theorem dX3_readRock_138 : decode cX3_readRock 138 = .ok (.lastore, 1) := by decide +kernel
theorem dX3_readRock_139 : decode cX3_readRock 139 = .ok (.aload_n 0, 1) := by decide +kernel
theorem dX3_readRock_140 : decode cX3_readRock 140 = .ok (.getfield 26, 3) := by decide +kernel
theorem dX3_readRock_143 : decode cX3_readRock 143 = .ok (.getfield 175, 3) := by decide +kernel
theorem kw_300 : Cond.fieldLink "LandSurvey$Reader" 175 "LandSurvey$Rules" "thin" "[I" ∈ uu := uu_in (i := 300) (by decide +kernel) (by decide +kernel)
theorem fk_LandSurvey_Reader_175 : fkR "LandSurvey$Reader" 175 5 2 RX5 TX5 19 := ⟨rfl, rfl, inX5, by decide, kw_300, by decide⟩
theorem dX3_readRock_146 : decode cX3_readRock 146 = .ok (.aload_n 0, 1) := by decide +kernel
theorem dX3_readRock_147 : decode cX3_readRock 147 = .ok (.getfield 26, 3) := by decide +kernel
theorem dX3_readRock_150 : decode cX3_readRock 150 = .ok (.getfield 159, 3) := by decide +kernel
theorem dX3_readRock_153 : decode cX3_readRock 153 = .ok (.iload_n 3, 1) := by decide +kernel
theorem dX3_readRock_154 : decode cX3_readRock 154 = .ok (.iastore, 1) := by decide +kernel
theorem dX3_readRock_155 : decode cX3_readRock 155 = .ok (.aload_n 0, 1) := by decide +kernel
theorem dX3_readRock_156 : decode cX3_readRock 156 = .ok (.getfield 26, 3) := by decide +kernel
theorem dX3_readRock_159 : decode cX3_readRock 159 = .ok (.getfield 178, 3) := by decide +kernel
theorem kw_303 : Cond.fieldLink "LandSurvey$Reader" 178 "LandSurvey$Rules" "thick" "[I" ∈ uu := uu_in (i := 303) (by decide +kernel) (by decide +kernel)
theorem fk_LandSurvey_Reader_178 : fkR "LandSurvey$Reader" 178 5 3 RX5 TX5 19 := ⟨rfl, rfl, inX5, by decide, kw_303, by decide⟩
theorem dX3_readRock_162 : decode cX3_readRock 162 = .ok (.aload_n 0, 1) := by decide +kernel
theorem dX3_readRock_163 : decode cX3_readRock 163 = .ok (.getfield 26, 3) := by decide +kernel
theorem dX3_readRock_166 : decode cX3_readRock 166 = .ok (.getfield 159, 3) := by decide +kernel
theorem dX3_readRock_169 : decode cX3_readRock 169 = .ok (.aload_n 0, 1) := by decide +kernel
theorem dX3_readRock_170 : decode cX3_readRock 170 = .ok (.getfield 103, 3) := by decide +kernel
theorem dX3_readRock_173 : decode cX3_readRock 173 = .ok (.iastore, 1) := by decide +kernel
theorem dX3_readRock_174 : decode cX3_readRock 174 = .ok (.aload_n 0, 1) := by decide +kernel
theorem dX3_readRock_175 : decode cX3_readRock 175 = .ok (.getfield 26, 3) := by decide +kernel
theorem dX3_readRock_178 : decode cX3_readRock 178 = .ok (.dup, 1) := by decide +kernel
theorem dX3_readRock_179 : decode cX3_readRock 179 = .ok (.getfield 159, 3) := by decide +kernel
theorem dX3_readRock_182 : decode cX3_readRock 182 = .ok (.iconst 1, 1) := by decide +kernel
theorem dX3_readRock_183 : decode cX3_readRock 183 = .ok (.iadd, 1) := by decide +kernel
theorem dX3_readRock_184 : decode cX3_readRock 184 = .ok (.putfield 159, 3) := by decide +kernel
theorem pk_LandSurvey_Rules_0 : pk RX5 TX5 19 0 tyX5 false := ⟨tyX5_ok, nmX5, rfl⟩
theorem dX3_readRock_187 : decode cX3_readRock 187 = .ok (.iconst 1, 1) := by decide +kernel
theorem dX3_readRock_188 : decode cX3_readRock 188 = .ok (.ireturn, 1) := by decide +kernel
theorem dX3_readRock_84 : decode cX3_readRock 84 = .ok (.iconst 0, 1) := by decide +kernel
theorem dX3_readRock_85 : decode cX3_readRock 85 = .ok (.ireturn, 1) := by decide +kernel
theorem dX3_readRock_58 : decode cX3_readRock 58 = .ok (.aload_n 0, 1) := by decide +kernel
theorem dX3_readRock_59 : decode cX3_readRock 59 = .ok (.iconst 3, 1) := by decide +kernel
theorem dX3_readRock_60 : decode cX3_readRock 60 = .ok (.invokevirtual 99, 3) := by decide +kernel
theorem dX3_readRock_63 : decode cX3_readRock 63 = .ok (.ireturn, 1) := by decide +kernel
theorem dX3_readRock_12 : decode cX3_readRock 12 = .ok (.aload_n 0, 1) := by decide +kernel
theorem dX3_readRock_13 : decode cX3_readRock 13 = .ok (.iconst 5, 1) := by decide +kernel
theorem dX3_readRock_14 : decode cX3_readRock 14 = .ok (.invokevirtual 99, 3) := by decide +kernel
theorem dX3_readRock_17 : decode cX3_readRock 17 = .ok (.ireturn, 1) := by decide +kernel
abbrev cX3_readWaterRule : ByteArray := prog_5_method_16_code
def yX3_readWaterRule : MethodName := ⟨RX3, "readWaterRule", "()Z"⟩
theorem okX3_readWaterRule : yok yX3_readWaterRule 0 := by decide +kernel
theorem kw_316 : Cond.fieldLink "LandSurvey$Reader" 208 "LandSurvey$Rules" "holding" "I" ∈ uu := uu_in (i := 316) (by decide +kernel) (by decide +kernel)
theorem fk_LandSurvey_Reader_208 : fkI "LandSurvey$Reader" 208 5 9 RX5 TX5 19 := ⟨rfl, rfl, inX5, by decide, kw_316, by decide⟩
theorem kw_318 : Cond.fieldLink "LandSurvey$Reader" 211 "LandSurvey$Rules" "tightOnes" "I" ∈ uu := uu_in (i := 318) (by decide +kernel) (by decide +kernel)
theorem fk_LandSurvey_Reader_211 : fkI "LandSurvey$Reader" 211 5 10 RX5 TX5 19 := ⟨rfl, rfl, inX5, by decide, kw_318, by decide⟩
theorem dX3_readWaterRule_0 : decode cX3_readWaterRule 0 = .ok (.aload_n 0, 1) := by decide +kernel
theorem dX3_readWaterRule_1 : decode cX3_readWaterRule 1 = .ok (.getfield 69, 3) := by decide +kernel
theorem dX3_readWaterRule_4 : decode cX3_readWaterRule 4 = .ok (.getstatic 147, 3) := by decide +kernel
theorem kw_871 : Cond.fieldLink "LandSurvey$Reader" 147 "LandSurvey$Word" "HOLDS" "LLandSurvey$Word;" ∈ uu := uu_in (i := 871) (by decide +kernel) (by decide +kernel)
theorem dX3_readWaterRule_7 : decode cX3_readWaterRule 7 = .ok (.if_acmp .ne 7, 3) := by decide +kernel
theorem dX3_readWaterRule_14 : decode cX3_readWaterRule 14 = .ok (.iconst 0, 1) := by decide +kernel
theorem dX3_readWaterRule_15 : decode cX3_readWaterRule 15 = .ok (.istore_n 1, 1) := by decide +kernel
theorem dX3_readWaterRule_16 : decode cX3_readWaterRule 16 = .ok (.aload_n 0, 1) := by decide +kernel
theorem dX3_readWaterRule_17 : decode cX3_readWaterRule 17 = .ok (.invokevirtual 46, 3) := by decide +kernel
theorem dX3_readWaterRule_20 : decode cX3_readWaterRule 20 = .ok (.aload_n 0, 1) := by decide +kernel
theorem dX3_readWaterRule_21 : decode cX3_readWaterRule 21 = .ok (.iconst 0, 1) := by decide +kernel
theorem dX3_readWaterRule_22 : decode cX3_readWaterRule 22 = .ok (.invokevirtual 122, 3) := by decide +kernel
theorem kw_816 : Cond.code yX3_takeRockNotYounger prog_5_method_10_code 3 (some .boolean) ∈ uu := uu_in (i := 816) (by decide +kernel) (by decide +kernel)
theorem kw_813 : Cond.methodLink "LandSurvey$Reader" 122 yX3_takeRockNotYounger ∈ uu := uu_in (i := 813) (by decide +kernel) (by decide +kernel)
theorem kw_815 : Cond.instanceMethod yX3_takeRockNotYounger ∈ uu := uu_in (i := 815) (by decide +kernel) (by decide +kernel)
theorem kw_10 : Cond.selects "LandSurvey$Reader" yX3_takeRockNotYounger yX3_takeRockNotYounger ∈ uu := uu_in (i := 10) (by decide +kernel) (by decide +kernel)
theorem lk_LandSurvey_Reader_122 : lkV "LandSurvey$Reader" 122 yX3_takeRockNotYounger cX3_takeRockNotYounger 3 (some .boolean) 1 := ⟨kw_813, kw_815, kw_10, kw_147, kw_816, okX3_takeRockNotYounger⟩
theorem dX3_readWaterRule_25 : decode cX3_readWaterRule 25 = .ok (.ifCond .ne 5, 3) := by decide +kernel
theorem dX3_readWaterRule_30 : decode cX3_readWaterRule 30 = .ok (.iload_n 1, 1) := by decide +kernel
theorem dX3_readWaterRule_31 : decode cX3_readWaterRule 31 = .ok (.ifCond .eq 24, 3) := by decide +kernel
theorem dX3_readWaterRule_55 : decode cX3_readWaterRule 55 = .ok (.aload_n 0, 1) := by decide +kernel
theorem dX3_readWaterRule_56 : decode cX3_readWaterRule 56 = .ok (.getfield 26, 3) := by decide +kernel
theorem dX3_readWaterRule_59 : decode cX3_readWaterRule 59 = .ok (.dup, 1) := by decide +kernel
theorem dX3_readWaterRule_60 : decode cX3_readWaterRule 60 = .ok (.getfield 211, 3) := by decide +kernel
theorem dX3_readWaterRule_63 : decode cX3_readWaterRule 63 = .ok (.iconst 1, 1) := by decide +kernel
theorem dX3_readWaterRule_64 : decode cX3_readWaterRule 64 = .ok (.aload_n 0, 1) := by decide +kernel
theorem dX3_readWaterRule_65 : decode cX3_readWaterRule 65 = .ok (.getfield 103, 3) := by decide +kernel
theorem dX3_readWaterRule_68 : decode cX3_readWaterRule 68 = .ok (.ishl, 1) := by decide +kernel
theorem dX3_readWaterRule_69 : decode cX3_readWaterRule 69 = .ok (.ior, 1) := by decide +kernel
theorem dX3_readWaterRule_70 : decode cX3_readWaterRule 70 = .ok (.putfield 211, 3) := by decide +kernel
theorem pk_LandSurvey_Rules_10 : pk RX5 TX5 19 10 tyX5 false := ⟨tyX5_ok, nmX5, rfl⟩
theorem dX3_readWaterRule_73 : decode cX3_readWaterRule 73 = .ok (.aload_n 0, 1) := by decide +kernel
theorem dX3_readWaterRule_74 : decode cX3_readWaterRule 74 = .ok (.bipush 59, 2) := by decide +kernel
theorem dX3_readWaterRule_76 : decode cX3_readWaterRule 76 = .ok (.invokevirtual 169, 3) := by decide +kernel
theorem dX3_readWaterRule_79 : decode cX3_readWaterRule 79 = .ok (.ireturn, 1) := by decide +kernel
theorem dX3_readWaterRule_28 : decode cX3_readWaterRule 28 = .ok (.iconst 0, 1) := by decide +kernel
theorem dX3_readWaterRule_29 : decode cX3_readWaterRule 29 = .ok (.ireturn, 1) := by decide +kernel
theorem dX3_readWaterRule_10 : decode cX3_readWaterRule 10 = .ok (.iconst 1, 1) := by decide +kernel
theorem dX3_readWaterRule_11 : decode cX3_readWaterRule 11 = .ok (.goto 4, 3) := by decide +kernel
theorem dX3_readWaterRule_34 : decode cX3_readWaterRule 34 = .ok (.aload_n 0, 1) := by decide +kernel
theorem dX3_readWaterRule_35 : decode cX3_readWaterRule 35 = .ok (.getfield 26, 3) := by decide +kernel
theorem dX3_readWaterRule_38 : decode cX3_readWaterRule 38 = .ok (.dup, 1) := by decide +kernel
theorem dX3_readWaterRule_39 : decode cX3_readWaterRule 39 = .ok (.getfield 208, 3) := by decide +kernel
theorem dX3_readWaterRule_42 : decode cX3_readWaterRule 42 = .ok (.iconst 1, 1) := by decide +kernel
theorem dX3_readWaterRule_43 : decode cX3_readWaterRule 43 = .ok (.aload_n 0, 1) := by decide +kernel
theorem dX3_readWaterRule_44 : decode cX3_readWaterRule 44 = .ok (.getfield 103, 3) := by decide +kernel
theorem dX3_readWaterRule_47 : decode cX3_readWaterRule 47 = .ok (.ishl, 1) := by decide +kernel
theorem dX3_readWaterRule_48 : decode cX3_readWaterRule 48 = .ok (.ior, 1) := by decide +kernel
theorem dX3_readWaterRule_49 : decode cX3_readWaterRule 49 = .ok (.putfield 208, 3) := by decide +kernel
theorem pk_LandSurvey_Rules_9 : pk RX5 TX5 19 9 tyX5 false := ⟨tyX5_ok, nmX5, rfl⟩
theorem dX3_readWaterRule_52 : decode cX3_readWaterRule 52 = .ok (.goto 21, 3) := by decide +kernel
abbrev cX3_readSlopeRule : ByteArray := prog_5_method_17_code
def yX3_readSlopeRule : MethodName := ⟨RX3, "readSlopeRule", "()Z"⟩
theorem okX3_readSlopeRule : yok yX3_readSlopeRule 0 := by decide +kernel
theorem kw_244 : Cond.fieldLink "LandSurvey$Reader" 39 "LandSurvey$Reader" "steepTold" "Z" ∈ uu := uu_in (i := 244) (by decide +kernel) (by decide +kernel)
theorem fk_LandSurvey_Reader_39 : fkI "LandSurvey$Reader" 39 3 9 RX3 TX3 14 := ⟨rfl, rfl, inX3, by decide, kw_244, by decide⟩
theorem kw_310 : Cond.fieldLink "LandSurvey$Reader" 220 "LandSurvey$Rules" "steep" "I" ∈ uu := uu_in (i := 310) (by decide +kernel) (by decide +kernel)
theorem fk_LandSurvey_Reader_220 : fkI "LandSurvey$Reader" 220 5 7 RX5 TX5 19 := ⟨rfl, rfl, inX5, by decide, kw_310, by decide⟩
theorem kw_245 : Cond.fieldLink "LandSurvey$Reader" 43 "LandSurvey$Reader" "driftTold" "Z" ∈ uu := uu_in (i := 245) (by decide +kernel) (by decide +kernel)
theorem fk_LandSurvey_Reader_43 : fkI "LandSurvey$Reader" 43 3 10 RX3 TX3 14 := ⟨rfl, rfl, inX3, by decide, kw_245, by decide⟩
theorem kw_313 : Cond.fieldLink "LandSurvey$Reader" 223 "LandSurvey$Rules" "drift" "I" ∈ uu := uu_in (i := 313) (by decide +kernel) (by decide +kernel)
theorem fk_LandSurvey_Reader_223 : fkI "LandSurvey$Reader" 223 5 8 RX5 TX5 19 := ⟨rfl, rfl, inX5, by decide, kw_313, by decide⟩
theorem dX3_readSlopeRule_0 : decode cX3_readSlopeRule 0 = .ok (.aload_n 0, 1) := by decide +kernel
theorem dX3_readSlopeRule_1 : decode cX3_readSlopeRule 1 = .ok (.getfield 69, 3) := by decide +kernel
theorem dX3_readSlopeRule_4 : decode cX3_readSlopeRule 4 = .ok (.getstatic 214, 3) := by decide +kernel
theorem kw_883 : Cond.fieldLink "LandSurvey$Reader" 214 "LandSurvey$Word" "STEEP" "LLandSurvey$Word;" ∈ uu := uu_in (i := 883) (by decide +kernel) (by decide +kernel)
theorem dX3_readSlopeRule_7 : decode cX3_readSlopeRule 7 = .ok (.if_acmp .ne 7, 3) := by decide +kernel
theorem dX3_readSlopeRule_14 : decode cX3_readSlopeRule 14 = .ok (.iconst 0, 1) := by decide +kernel
theorem dX3_readSlopeRule_15 : decode cX3_readSlopeRule 15 = .ok (.istore_n 1, 1) := by decide +kernel
theorem dX3_readSlopeRule_16 : decode cX3_readSlopeRule 16 = .ok (.iload_n 1, 1) := by decide +kernel
theorem dX3_readSlopeRule_17 : decode cX3_readSlopeRule 17 = .ok (.ifCond .ne 19, 3) := by decide +kernel
theorem dX3_readSlopeRule_20 : decode cX3_readSlopeRule 20 = .ok (.aload_n 0, 1) := by decide +kernel
theorem dX3_readSlopeRule_21 : decode cX3_readSlopeRule 21 = .ok (.getfield 69, 3) := by decide +kernel
theorem dX3_readSlopeRule_24 : decode cX3_readSlopeRule 24 = .ok (.getstatic 217, 3) := by decide +kernel
theorem kw_885 : Cond.fieldLink "LandSurvey$Reader" 217 "LandSurvey$Word" "DRIFT" "LLandSurvey$Word;" ∈ uu := uu_in (i := 885) (by decide +kernel) (by decide +kernel)
theorem dX3_readSlopeRule_27 : decode cX3_readSlopeRule 27 = .ok (.if_acmp .eq 9, 3) := by decide +kernel
theorem dX3_readSlopeRule_36 : decode cX3_readSlopeRule 36 = .ok (.iload_n 1, 1) := by decide +kernel
theorem dX3_readSlopeRule_37 : decode cX3_readSlopeRule 37 = .ok (.ifCond .eq 13, 3) := by decide +kernel
theorem dX3_readSlopeRule_50 : decode cX3_readSlopeRule 50 = .ok (.aload_n 0, 1) := by decide +kernel
theorem dX3_readSlopeRule_51 : decode cX3_readSlopeRule 51 = .ok (.getfield 43, 3) := by decide +kernel
theorem dX3_readSlopeRule_54 : decode cX3_readSlopeRule 54 = .ok (.ifCond .eq 9, 3) := by decide +kernel
theorem dX3_readSlopeRule_63 : decode cX3_readSlopeRule 63 = .ok (.aload_n 0, 1) := by decide +kernel
theorem dX3_readSlopeRule_64 : decode cX3_readSlopeRule 64 = .ok (.invokevirtual 46, 3) := by decide +kernel
theorem dX3_readSlopeRule_67 : decode cX3_readSlopeRule 67 = .ok (.aload_n 0, 1) := by decide +kernel
theorem dX3_readSlopeRule_68 : decode cX3_readSlopeRule 68 = .ok (.iconst 0, 1) := by decide +kernel
theorem dX3_readSlopeRule_69 : decode cX3_readSlopeRule 69 = .ok (.bipush 99, 2) := by decide +kernel
theorem dX3_readSlopeRule_71 : decode cX3_readSlopeRule 71 = .ok (.invokevirtual 131, 3) := by decide +kernel
theorem dX3_readSlopeRule_74 : decode cX3_readSlopeRule 74 = .ok (.ifCond .ne 5, 3) := by decide +kernel
theorem dX3_readSlopeRule_79 : decode cX3_readSlopeRule 79 = .ok (.iload_n 1, 1) := by decide +kernel
theorem dX3_readSlopeRule_80 : decode cX3_readSlopeRule 80 = .ok (.ifCond .eq 22, 3) := by decide +kernel
theorem dX3_readSlopeRule_102 : decode cX3_readSlopeRule 102 = .ok (.aload_n 0, 1) := by decide +kernel
theorem dX3_readSlopeRule_103 : decode cX3_readSlopeRule 103 = .ok (.iconst 1, 1) := by decide +kernel
theorem dX3_readSlopeRule_104 : decode cX3_readSlopeRule 104 = .ok (.putfield 43, 3) := by decide +kernel
theorem pk_LandSurvey_Reader_10 : pk RX3 TX3 14 10 tyX3 false := ⟨tyX3_ok, nmX3, rfl⟩
theorem dX3_readSlopeRule_107 : decode cX3_readSlopeRule 107 = .ok (.aload_n 0, 1) := by decide +kernel
theorem dX3_readSlopeRule_108 : decode cX3_readSlopeRule 108 = .ok (.getfield 26, 3) := by decide +kernel
theorem dX3_readSlopeRule_111 : decode cX3_readSlopeRule 111 = .ok (.aload_n 0, 1) := by decide +kernel
theorem dX3_readSlopeRule_112 : decode cX3_readSlopeRule 112 = .ok (.getfield 103, 3) := by decide +kernel
theorem dX3_readSlopeRule_115 : decode cX3_readSlopeRule 115 = .ok (.putfield 223, 3) := by decide +kernel
theorem pk_LandSurvey_Rules_8 : pk RX5 TX5 19 8 tyX5 false := ⟨tyX5_ok, nmX5, rfl⟩
theorem dX3_readSlopeRule_118 : decode cX3_readSlopeRule 118 = .ok (.aload_n 0, 1) := by decide +kernel
theorem dX3_readSlopeRule_119 : decode cX3_readSlopeRule 119 = .ok (.bipush 59, 2) := by decide +kernel
theorem dX3_readSlopeRule_121 : decode cX3_readSlopeRule 121 = .ok (.invokevirtual 169, 3) := by decide +kernel
theorem dX3_readSlopeRule_124 : decode cX3_readSlopeRule 124 = .ok (.ireturn, 1) := by decide +kernel
theorem dX3_readSlopeRule_77 : decode cX3_readSlopeRule 77 = .ok (.iconst 0, 1) := by decide +kernel
theorem dX3_readSlopeRule_78 : decode cX3_readSlopeRule 78 = .ok (.ireturn, 1) := by decide +kernel
theorem dX3_readSlopeRule_57 : decode cX3_readSlopeRule 57 = .ok (.aload_n 0, 1) := by decide +kernel
theorem dX3_readSlopeRule_58 : decode cX3_readSlopeRule 58 = .ok (.iconst 3, 1) := by decide +kernel
theorem dX3_readSlopeRule_59 : decode cX3_readSlopeRule 59 = .ok (.invokevirtual 99, 3) := by decide +kernel
theorem dX3_readSlopeRule_62 : decode cX3_readSlopeRule 62 = .ok (.ireturn, 1) := by decide +kernel
theorem dX3_readSlopeRule_30 : decode cX3_readSlopeRule 30 = .ok (.aload_n 0, 1) := by decide +kernel
theorem dX3_readSlopeRule_31 : decode cX3_readSlopeRule 31 = .ok (.iconst 1, 1) := by decide +kernel
theorem dX3_readSlopeRule_32 : decode cX3_readSlopeRule 32 = .ok (.invokevirtual 99, 3) := by decide +kernel
theorem dX3_readSlopeRule_35 : decode cX3_readSlopeRule 35 = .ok (.ireturn, 1) := by decide +kernel
theorem dX3_readSlopeRule_10 : decode cX3_readSlopeRule 10 = .ok (.iconst 1, 1) := by decide +kernel
theorem dX3_readSlopeRule_11 : decode cX3_readSlopeRule 11 = .ok (.goto 4, 3) := by decide +kernel
theorem dX3_readSlopeRule_40 : decode cX3_readSlopeRule 40 = .ok (.aload_n 0, 1) := by decide +kernel
theorem dX3_readSlopeRule_41 : decode cX3_readSlopeRule 41 = .ok (.getfield 39, 3) := by decide +kernel
theorem dX3_readSlopeRule_44 : decode cX3_readSlopeRule 44 = .ok (.ifCond .eq 19, 3) := by decide +kernel
theorem dX3_readSlopeRule_83 : decode cX3_readSlopeRule 83 = .ok (.aload_n 0, 1) := by decide +kernel
theorem dX3_readSlopeRule_84 : decode cX3_readSlopeRule 84 = .ok (.iconst 1, 1) := by decide +kernel
theorem dX3_readSlopeRule_85 : decode cX3_readSlopeRule 85 = .ok (.putfield 39, 3) := by decide +kernel
theorem pk_LandSurvey_Reader_9 : pk RX3 TX3 14 9 tyX3 false := ⟨tyX3_ok, nmX3, rfl⟩
theorem dX3_readSlopeRule_88 : decode cX3_readSlopeRule 88 = .ok (.aload_n 0, 1) := by decide +kernel
theorem dX3_readSlopeRule_89 : decode cX3_readSlopeRule 89 = .ok (.getfield 26, 3) := by decide +kernel
theorem dX3_readSlopeRule_92 : decode cX3_readSlopeRule 92 = .ok (.aload_n 0, 1) := by decide +kernel
theorem dX3_readSlopeRule_93 : decode cX3_readSlopeRule 93 = .ok (.getfield 103, 3) := by decide +kernel
theorem dX3_readSlopeRule_96 : decode cX3_readSlopeRule 96 = .ok (.putfield 220, 3) := by decide +kernel
theorem pk_LandSurvey_Rules_7 : pk RX5 TX5 19 7 tyX5 false := ⟨tyX5_ok, nmX5, rfl⟩
theorem dX3_readSlopeRule_99 : decode cX3_readSlopeRule 99 = .ok (.goto 19, 3) := by decide +kernel
theorem dX3_readSlopeRule_47 : decode cX3_readSlopeRule 47 = .ok (.goto 10, 3) := by decide +kernel
abbrev cX3_readRemain : ByteArray := prog_5_method_18_code
def yX3_readRemain : MethodName := ⟨RX3, "readRemain", "()Z"⟩
theorem okX3_readRemain : yok yX3_readRemain 0 := by decide +kernel
theorem dX3_readRemain_0 : decode cX3_readRemain 0 = .ok (.aload_n 0, 1) := by decide +kernel
theorem dX3_readRemain_1 : decode cX3_readRemain 1 = .ok (.invokevirtual 46, 3) := by decide +kernel
theorem dX3_readRemain_4 : decode cX3_readRemain 4 = .ok (.aload_n 0, 1) := by decide +kernel
theorem dX3_readRemain_5 : decode cX3_readRemain 5 = .ok (.getfield 49, 3) := by decide +kernel
theorem dX3_readRemain_8 : decode cX3_readRemain 8 = .ok (.iconst 2, 1) := by decide +kernel
theorem dX3_readRemain_9 : decode cX3_readRemain 9 = .ok (.if_icmp .ne 37, 3) := by decide +kernel
theorem dX3_readRemain_46 : decode cX3_readRemain 46 = .ok (.aload_n 0, 1) := by decide +kernel
theorem dX3_readRemain_47 : decode cX3_readRemain 47 = .ok (.iconst 0, 1) := by decide +kernel
theorem dX3_readRemain_48 : decode cX3_readRemain 48 = .ok (.bipush 9, 2) := by decide +kernel
theorem dX3_readRemain_50 : decode cX3_readRemain 50 = .ok (.invokevirtual 131, 3) := by decide +kernel
theorem dX3_readRemain_53 : decode cX3_readRemain 53 = .ok (.ifCond .ne 5, 3) := by decide +kernel
theorem dX3_readRemain_58 : decode cX3_readRemain 58 = .ok (.aload_n 0, 1) := by decide +kernel
theorem dX3_readRemain_59 : decode cX3_readRemain 59 = .ok (.getfield 103, 3) := by decide +kernel
theorem dX3_readRemain_62 : decode cX3_readRemain 62 = .ok (.istore_n 1, 1) := by decide +kernel
theorem dX3_readRemain_63 : decode cX3_readRemain 63 = .ok (.aload_n 0, 1) := by decide +kernel
theorem dX3_readRemain_64 : decode cX3_readRemain 64 = .ok (.getstatic 229, 3) := by decide +kernel
theorem kw_869 : Cond.fieldLink "LandSurvey$Reader" 229 "LandSurvey$Word" "FROM" "LLandSurvey$Word;" ∈ uu := uu_in (i := 869) (by decide +kernel) (by decide +kernel)
theorem dX3_readRemain_67 : decode cX3_readRemain 67 = .ok (.invokevirtual 165, 3) := by decide +kernel
theorem dX3_readRemain_70 : decode cX3_readRemain 70 = .ok (.ifCond .eq 11, 3) := by decide +kernel
theorem dX3_readRemain_81 : decode cX3_readRemain 81 = .ok (.iconst 0, 1) := by decide +kernel
theorem dX3_readRemain_82 : decode cX3_readRemain 82 = .ok (.ireturn, 1) := by decide +kernel
theorem dX3_readRemain_73 : decode cX3_readRemain 73 = .ok (.aload_n 0, 1) := by decide +kernel
theorem dX3_readRemain_74 : decode cX3_readRemain 74 = .ok (.iconst 0, 1) := by decide +kernel
theorem dX3_readRemain_75 : decode cX3_readRemain 75 = .ok (.invokevirtual 122, 3) := by decide +kernel
theorem dX3_readRemain_78 : decode cX3_readRemain 78 = .ok (.ifCond .ne 5, 3) := by decide +kernel
theorem dX3_readRemain_83 : decode cX3_readRemain 83 = .ok (.aload_n 0, 1) := by decide +kernel
theorem dX3_readRemain_84 : decode cX3_readRemain 84 = .ok (.getfield 103, 3) := by decide +kernel
theorem dX3_readRemain_87 : decode cX3_readRemain 87 = .ok (.istore_n 2, 1) := by decide +kernel
theorem dX3_readRemain_88 : decode cX3_readRemain 88 = .ok (.aload_n 0, 1) := by decide +kernel
theorem dX3_readRemain_89 : decode cX3_readRemain 89 = .ok (.getstatic 162, 3) := by decide +kernel
theorem dX3_readRemain_92 : decode cX3_readRemain 92 = .ok (.invokevirtual 165, 3) := by decide +kernel
theorem dX3_readRemain_95 : decode cX3_readRemain 95 = .ok (.ifCond .eq 11, 3) := by decide +kernel
theorem dX3_readRemain_106 : decode cX3_readRemain 106 = .ok (.iconst 0, 1) := by decide +kernel
theorem dX3_readRemain_107 : decode cX3_readRemain 107 = .ok (.ireturn, 1) := by decide +kernel
theorem dX3_readRemain_98 : decode cX3_readRemain 98 = .ok (.aload_n 0, 1) := by decide +kernel
theorem dX3_readRemain_99 : decode cX3_readRemain 99 = .ok (.iload_n 2, 1) := by decide +kernel
theorem dX3_readRemain_100 : decode cX3_readRemain 100 = .ok (.invokevirtual 122, 3) := by decide +kernel
theorem dX3_readRemain_103 : decode cX3_readRemain 103 = .ok (.ifCond .ne 5, 3) := by decide +kernel
theorem dX3_readRemain_108 : decode cX3_readRemain 108 = .ok (.aload_n 0, 1) := by decide +kernel
theorem dX3_readRemain_109 : decode cX3_readRemain 109 = .ok (.getfield 26, 3) := by decide +kernel
theorem dX3_readRemain_112 : decode cX3_readRemain 112 = .ok (.getfield 226, 3) := by decide +kernel
theorem kw_320 : Cond.fieldLink "LandSurvey$Reader" 226 "LandSurvey$Rules" "remainFrom" "[I" ∈ uu := uu_in (i := 320) (by decide +kernel) (by decide +kernel)
theorem fk_LandSurvey_Reader_226 : fkR "LandSurvey$Reader" 226 5 11 RX5 TX5 19 := ⟨rfl, rfl, inX5, by decide, kw_320, by decide⟩
theorem dX3_readRemain_115 : decode cX3_readRemain 115 = .ok (.iload_n 1, 1) := by decide +kernel
theorem dX3_readRemain_116 : decode cX3_readRemain 116 = .ok (.iload_n 2, 1) := by decide +kernel
theorem dX3_readRemain_117 : decode cX3_readRemain 117 = .ok (.iastore, 1) := by decide +kernel
theorem dX3_readRemain_118 : decode cX3_readRemain 118 = .ok (.aload_n 0, 1) := by decide +kernel
theorem dX3_readRemain_119 : decode cX3_readRemain 119 = .ok (.getfield 26, 3) := by decide +kernel
theorem dX3_readRemain_122 : decode cX3_readRemain 122 = .ok (.getfield 232, 3) := by decide +kernel
theorem kw_323 : Cond.fieldLink "LandSurvey$Reader" 232 "LandSurvey$Rules" "remainTo" "[I" ∈ uu := uu_in (i := 323) (by decide +kernel) (by decide +kernel)
theorem fk_LandSurvey_Reader_232 : fkR "LandSurvey$Reader" 232 5 12 RX5 TX5 19 := ⟨rfl, rfl, inX5, by decide, kw_323, by decide⟩
theorem dX3_readRemain_125 : decode cX3_readRemain 125 = .ok (.iload_n 1, 1) := by decide +kernel
theorem dX3_readRemain_126 : decode cX3_readRemain 126 = .ok (.aload_n 0, 1) := by decide +kernel
theorem dX3_readRemain_127 : decode cX3_readRemain 127 = .ok (.getfield 103, 3) := by decide +kernel
theorem dX3_readRemain_130 : decode cX3_readRemain 130 = .ok (.iastore, 1) := by decide +kernel
theorem dX3_readRemain_131 : decode cX3_readRemain 131 = .ok (.aload_n 0, 1) := by decide +kernel
theorem dX3_readRemain_132 : decode cX3_readRemain 132 = .ok (.bipush 59, 2) := by decide +kernel
theorem dX3_readRemain_134 : decode cX3_readRemain 134 = .ok (.invokevirtual 169, 3) := by decide +kernel
theorem dX3_readRemain_137 : decode cX3_readRemain 137 = .ok (.ireturn, 1) := by decide +kernel
theorem dX3_readRemain_56 : decode cX3_readRemain 56 = .ok (.iconst 0, 1) := by decide +kernel
theorem dX3_readRemain_57 : decode cX3_readRemain 57 = .ok (.ireturn, 1) := by decide +kernel
theorem dX3_readRemain_12 : decode cX3_readRemain 12 = .ok (.aload_n 0, 1) := by decide +kernel
theorem dX3_readRemain_13 : decode cX3_readRemain 13 = .ok (.getfield 73, 3) := by decide +kernel
theorem dX3_readRemain_16 : decode cX3_readRemain 16 = .ok (.ldc2_w 85, 3) := by decide +kernel
theorem dX3_readRemain_19 : decode cX3_readRemain 19 = .ok (.lcmp, 1) := by decide +kernel
theorem dX3_readRemain_20 : decode cX3_readRemain 20 = .ok (.ifCond .ge 26, 3) := by decide +kernel
theorem dX3_readRemain_23 : decode cX3_readRemain 23 = .ok (.aload_n 0, 1) := by decide +kernel
theorem dX3_readRemain_24 : decode cX3_readRemain 24 = .ok (.getfield 26, 3) := by decide +kernel
theorem dX3_readRemain_27 : decode cX3_readRemain 27 = .ok (.getfield 226, 3) := by decide +kernel
theorem dX3_readRemain_30 : decode cX3_readRemain 30 = .ok (.aload_n 0, 1) := by decide +kernel
theorem dX3_readRemain_31 : decode cX3_readRemain 31 = .ok (.getfield 73, 3) := by decide +kernel
theorem dX3_readRemain_34 : decode cX3_readRemain 34 = .ok (.l2i, 1) := by decide +kernel
theorem dX3_readRemain_35 : decode cX3_readRemain 35 = .ok (.iaload, 1) := by decide +kernel
theorem dX3_readRemain_36 : decode cX3_readRemain 36 = .ok (.iconst (-1), 1) := by decide +kernel
theorem dX3_readRemain_37 : decode cX3_readRemain 37 = .ok (.if_icmp .eq 9, 3) := by decide +kernel
theorem dX3_readRemain_40 : decode cX3_readRemain 40 = .ok (.aload_n 0, 1) := by decide +kernel
theorem dX3_readRemain_41 : decode cX3_readRemain 41 = .ok (.iconst 3, 1) := by decide +kernel
theorem dX3_readRemain_42 : decode cX3_readRemain 42 = .ok (.invokevirtual 99, 3) := by decide +kernel
theorem dX3_readRemain_45 : decode cX3_readRemain 45 = .ok (.ireturn, 1) := by decide +kernel
def wr_k_J1_canEncode_9a6ad : List Nat := []
set_option maxRecDepth 100000 in
set_option maxHeartbeats 4000000 in
theorem k_J1_canEncode_9a6ad (l : Launch) (D : va_G) (cy : Nat → ClassId) (w : Nat → Nat) (z0 : Nat)  {h : Hp} {a0 : Int}  (O : Okh h) (fa0 : (-2147483648) ≤ a0 ∧ a0 ≤ 2147483647) : MI l D cy w z0 yJ1_canEncode_9a6ad cJ1_canEncode_9a6ad 1 (some .boolean) 0 0 0 0 [.inl a0] h (fun v h1 => Okh h1 ∧ Fx wr_k_J1_canEncode_9a6ad h h1 ∧ (0 ≤ v ∧ v ≤ 1)) := by
  refine hm_go (by decide +kernel) (Nat.le_of_ble_eq_true rfl) (fun p e s m below meth c C hr hn => ?_)
  refine g_iload_n C rfl 0 rfl dJ1_canEncode_9a6ad_0 ?_
  refine g_if_lt C fa0 15 (by decide) dJ1_canEncode_9a6ad_1 (fun q1 => ?_) (fun q2 => ?_)
  · have f3 : (-2147483648 : Int) ≤ a0 ∧ a0 ≤ (-1 : Int) := r_lt fa0 (il 0) q1 (by decide) (by decide)
    refine g_iconst C dJ1_canEncode_9a6ad_15 ?_
    exact g_iret C hr (nar_z2 (iw (il 0) (by decide) (by decide))).1 (iw (il 0) (by decide) (by decide)) ⟨O, Fx.rf, (iw (il 0) (by decide) (by decide))⟩ (by decide) (by decide) dJ1_canEncode_9a6ad_16
  · have f4 : (0 : Int) ≤ a0 ∧ a0 ≤ (2147483647 : Int) := r_ge fa0 (il 0) q2 (by decide) (by decide)
    refine g_iload_n C rfl 0 rfl dJ1_canEncode_9a6ad_4 ?_
    refine g_sipush C (by decide) dJ1_canEncode_9a6ad_5 ?_
    refine g_icmp_gt C (iw f4 (by decide) (by decide)) (iw (il 255) (by decide) (by decide)) 15 (by decide) dJ1_canEncode_9a6ad_8 (fun q5 => ?_) (fun q6 => ?_)
    · have f7 : (256 : Int) ≤ a0 ∧ a0 ≤ (2147483647 : Int) := r_gt f4 (il 255) q5 (by decide) (by decide)
      refine g_iconst C dJ1_canEncode_9a6ad_15 ?_
      exact g_iret C hr (nar_z2 (iw (il 0) (by decide) (by decide))).1 (iw (il 0) (by decide) (by decide)) ⟨O, Fx.rf, (iw (il 0) (by decide) (by decide))⟩ (by decide) (by decide) dJ1_canEncode_9a6ad_16
    · have f8 : (0 : Int) ≤ a0 ∧ a0 ≤ (255 : Int) := r_le f4 (il 255) q6 (by decide) (by decide)
      refine g_iconst C dJ1_canEncode_9a6ad_11 ?_
      refine g_goto C 16 (by decide) dJ1_canEncode_9a6ad_12 ?_
      exact g_iret C hr (nar_z2 (iw (il 1) (by decide) (by decide))).1 (iw (il 1) (by decide) (by decide)) ⟨O, Fx.rf, (iw (il 1) (by decide) (by decide))⟩ (by decide) (by decide) dJ1_canEncode_9a6ad_16
def wr_k_J0_isLatin1_aae02 : List Nat := []
set_option maxRecDepth 100000 in
set_option maxHeartbeats 4000000 in
theorem k_J0_isLatin1_aae02 (l : Launch) (D : va_G) (cy : Nat → ClassId) (w : Nat → Nat) (z0 : Nat)  {h : Hp}  (O : Okh h) : MI l D cy w z0 yJ0_isLatin1_aae02 cJ0_isLatin1_aae02 1 (some .boolean) 0 0 0 0 [.inr (.inr (w 31 + 1))] h (fun v h1 => Okh h1 ∧ Fx wr_k_J0_isLatin1_aae02 h h1 ∧ (1 ≤ v ∧ v ≤ 1)) := by
  refine hm_go (by decide +kernel) (Nat.le_of_ble_eq_true rfl) (fun p e s m below meth c C hr hn => ?_)
  refine g_gets (x := .inl 1) C C.2.2.2.2.2.2.2.2 kw_697 dJ0_isLatin1_aae02_0 ?_
  refine g_if_eq C (iw (il 1) (by decide) (by decide)) 17 (by decide) dJ0_isLatin1_aae02_3 (fun q1 => ?_) (fun q2 => ?_)
  · exact (no_eq (il 1) (il 0) q1 (by decide)).elim
  · refine g_aload_n C rfl 0 rfl dJ0_isLatin1_aae02_6 ?_
    refine g_getf (x := .inl 0) C (C.2.2.2.2.2.2.2.1.1 0 (by decide)).2.1 kw_2282 dJ0_isLatin1_aae02_7 ?_
    refine g_if_ne C (iw (il 0) (by decide) (by decide)) 17 (by decide) dJ0_isLatin1_aae02_10 (fun q3 => ?_) (fun q4 => ?_)
    · exact (no_ne (il 0) (il 0) q3 (by decide)).elim
    · refine g_iconst C dJ0_isLatin1_aae02_13 ?_
      refine g_goto C 18 (by decide) dJ0_isLatin1_aae02_14 ?_
      exact g_iret C hr (nar_z2 (iw (il 1) (by decide) (by decide))).1 (iw (il 1) (by decide) (by decide)) ⟨O, Fx.rf, (il 1)⟩ (by decide) (by decide) dJ0_isLatin1_aae02_18
def wr_k_J0_coder_7d493 : List Nat := []
set_option maxRecDepth 100000 in
set_option maxHeartbeats 4000000 in
theorem k_J0_coder_7d493 (l : Launch) (D : va_G) (cy : Nat → ClassId) (w : Nat → Nat) (z0 : Nat)  {h : Hp}  (O : Okh h) : MI l D cy w z0 yJ0_coder_7d493 cJ0_coder_7d493 1 (some .byte) 0 0 0 0 [.inr (.inr (w 31 + 1))] h (fun v h1 => Okh h1 ∧ Fx wr_k_J0_coder_7d493 h h1 ∧ (0 ≤ v ∧ v ≤ 0)) := by
  refine hm_go (by decide +kernel) (Nat.le_of_ble_eq_true rfl) (fun p e s m below meth c C hr hn => ?_)
  refine g_gets (x := .inl 1) C C.2.2.2.2.2.2.2.2 kw_697 dJ0_coder_7d493_0 ?_
  refine g_if_eq C (iw (il 1) (by decide) (by decide)) 13 (by decide) dJ0_coder_7d493_3 (fun q1 => ?_) (fun q2 => ?_)
  · exact (no_eq (il 1) (il 0) q1 (by decide)).elim
  · refine g_aload_n C rfl 0 rfl dJ0_coder_7d493_6 ?_
    refine g_getf (x := .inl 0) C (C.2.2.2.2.2.2.2.1.1 0 (by decide)).2.1 kw_2282 dJ0_coder_7d493_7 ?_
    refine g_goto C 14 (by decide) dJ0_coder_7d493_10 ?_
    exact g_iret C hr (by decide) (iw (il 0) (by decide) (by decide)) ⟨O, Fx.rf, (il 0)⟩ (by decide) (by decide) dJ0_coder_7d493_14
def wr_k_J0_length_8abf5 : List Nat := []
set_option maxRecDepth 100000 in
set_option maxHeartbeats 4000000 in
theorem k_J0_length_8abf5 (l : Launch) (D : va_G) (cy : Nat → ClassId) (w : Nat → Nat) (z0 : Nat)  {h : Hp}  (O : Okh h) : MI l D cy w z0 yJ0_length_8abf5 cJ0_length_8abf5 1 (some .int) 1 20 0 0 [.inr (.inr (w 31 + 1))] h (fun v h1 => Okh h1 ∧ Fx wr_k_J0_length_8abf5 h h1 ∧ ((-2147483648) ≤ v ∧ v ≤ 2147483647)) := by
  refine hm_go (by decide +kernel) (Nat.le_of_ble_eq_true rfl) (fun p e s m below meth c C hr hn => ?_)
  refine g_aload_n C rfl 0 rfl dJ0_length_8abf5_0 ?_
  refine g_getf (x := .inr (.inr (w 32 + 1))) C (C.2.2.2.2.2.2.2.1.1 0 (by decide)).2.2.1 kw_2283 dJ0_length_8abf5_1 ?_
  refine g_tlen (N := 7) C (C.2.2.2.2.2.2.2.1.1 0 (by decide)).2.2.2 dJ0_length_8abf5_4 ?_
  refine g_aload_n C rfl 0 rfl dJ0_length_8abf5_5 ?_
  refine g_callI (st := [.inl 7]) (gc_VS C lk_java_lang_String_335 rfl (k_J0_coder_7d493 l D cy w z0 O) rfl ⟨by decide, by decide⟩ (Nat.le_of_ble_eq_true rfl) dJ0_length_8abf5_6 ⟨(by decide), (by decide)⟩) (fun r1 h2 f4 K3 => ?_)
  obtain ⟨O5, F6, f7⟩ := K3
  refine g_ishr C dJ0_length_8abf5_9 ?_
  have f8 : (-2147483648 : Int) ≤ (bShr 7 r1) ∧ (bShr 7 r1) ≤ (2147483647 : Int) := inR_of _
  exact g_iret C hr rfl f8 ⟨O5, ((Fx.rf (wr := wr_k_J0_length_8abf5)).call F6 rfl), f8⟩ (by decide) (by decide) dJ0_length_8abf5_10
def wr_k_J1_indexOfChar_4cfef : List Nat := []
set_option maxRecDepth 100000 in
set_option maxHeartbeats 4000000 in
theorem k_J1_indexOfChar_4cfef (l : Launch) (D : va_G) (cy : Nat → ClassId) (w : Nat → Nat) (z0 : Nat)  {h : Hp} {a1 : Int} {a2 : Int} {a3 : Int}  (O : Okh h) (fa1 : (-2147483648) ≤ a1 ∧ a1 ≤ 2147483647) (fa2 : 0 ≤ a2 ∧ a2 ≤ 0) (fa3 : (-2147483648) ≤ a3 ∧ a3 ≤ 7) : MI l D cy w z0 yJ1_indexOfChar_4cfef cJ1_indexOfChar_4cfef 6 (some .int) 0 0 0 0 [.inr (.inr (w 32 + 1)), .inl a1, .inl a2, .inl a3] h (fun v h1 => Okh h1 ∧ Fx wr_k_J1_indexOfChar_4cfef h h1 ∧ ((-2147483648) ≤ v ∧ v ≤ 2147483647)) := by
  refine hm_go (by decide +kernel) (Nat.le_of_ble_eq_true rfl) (fun p e s m below meth c C hr hn => ?_)
  refine g_iload_n C rfl 1 rfl dJ1_indexOfChar_4cfef_0 ?_
  refine g_i2b C dJ1_indexOfChar_4cfef_1 ?_
  have f1 : (-2147483648 : Int) ≤ (iB a1) ∧ (iB a1) ≤ (2147483647 : Int) := inR_of _
  refine g_istore C [(4, .inl (iB a1)), (0, .inr (.inr (w 32 + 1))), (1, .inl a1), (2, .inl a2), (3, .inl a3)] (by decide) rfl dJ1_indexOfChar_4cfef_2 ?_
  refine g_iload_n C rfl 3 rfl dJ1_indexOfChar_4cfef_4 ?_
  refine g_istore C [(5, .inl a2), (4, .inl (iB a1)), (0, .inr (.inr (w 32 + 1))), (1, .inl a1), (2, .inl a2), (3, .inl a3)] (by decide) rfl dJ1_indexOfChar_4cfef_5 ?_
  refine GW.sub [2, 3, 4, 5, 1, 0] rfl ?_
  -- loop at 7
  have L3 : ∀ (μ : Nat) (x2 : Int), (7 - x2).toNat = μ → ((0 : Int) ≤ x2 ∧ x2 ≤ (7 : Int)) → GW p l e (rmm 0 0 0 0) s m (List.map toV [.inr (.inr (w 32 + 1)), .inl a1, .inl a2, .inl a3]).toArray below meth c D cy z0 6 (MQ below (QI D cy z0 (fun v h1 => Okh h1 ∧ Fx wr_k_J1_indexOfChar_4cfef h h1 ∧ ((-2147483648) ≤ v ∧ v ≤ 2147483647))) (List.map toV [.inr (.inr (w 32 + 1)), .inl a1, .inl a2, .inl a3]).toArray s 0 0 (Aof z0)) 7 [(0, .inr (.inr (w 32 + 1))), (1, .inl a1), (2, .inl a2), (3, .inl a3), (4, .inl (iB a1)), (5, .inl x2)] [] h 0 0 := by
    intro μ
    induction μ using Nat.strongRecOn with
    | ind μ ih4 =>
      intro x2 hm5 f6
      refine g_iload C 5 rfl dJ1_indexOfChar_4cfef_7 ?_
      refine g_iload_n C rfl 3 rfl dJ1_indexOfChar_4cfef_9 ?_
      refine g_icmp_ge C (iw f6 (by decide) (by decide)) (iw fa3 (by decide) (by decide)) 31 (by decide) dJ1_indexOfChar_4cfef_10 (fun q7 => ?_) (fun q8 => ?_)
      · refine g_iconst C dJ1_indexOfChar_4cfef_31 ?_
        exact g_iret C hr rfl (iw (il (-1)) (by decide) (by decide)) ⟨O, Fx.rf, (iw (il (-1)) (by decide) (by decide))⟩ (by decide) (by decide) dJ1_indexOfChar_4cfef_32
      · have f9 : (0 : Int) ≤ x2 ∧ x2 ≤ (6 : Int) := r_lt f6 fa3 q8 (by decide) (by decide)
        have f10 : (1 : Int) ≤ a3 ∧ a3 ≤ (7 : Int) := r_gt fa3 f6 q8 (by decide) (by decide)
        refine g_aload_n C rfl 0 rfl dJ1_indexOfChar_4cfef_13 ?_
        refine g_iload C 5 rfl dJ1_indexOfChar_4cfef_14 ?_
        refine g_tb (N := 7) C (by decide) (C.2.2.2.2.2.2.2.1.1 0 (by decide)).2.2.2 (ix f9 (by decide) (by decide)) dJ1_indexOfChar_4cfef_16 (fun v11 f12 => ?_)
        refine g_iload C 4 rfl dJ1_indexOfChar_4cfef_17 ?_
        refine g_icmp_ne C f12 f1 25 (by decide) dJ1_indexOfChar_4cfef_19 (fun q13 => ?_) (fun q14 => ?_)
        · have f15 : (1 : Int) ≤ (x2 + 1) ∧ (x2 + 1) ≤ (7 : Int) := ia_add f9 (il 1) (by decide) (by decide)
          refine g_iinc C [(5, .inl (x2 + 1)), (0, .inr (.inr (w 32 + 1))), (1, .inl a1), (2, .inl a2), (3, .inl a3), (4, .inl (iB a1))] 5 rfl (by decide) rfl dJ1_indexOfChar_4cfef_25 ?_
          refine g_goto C 7 (by decide) dJ1_indexOfChar_4cfef_28 ?_
          refine GW.sub [1, 2, 3, 4, 5, 0] rfl ?_
          exact ih4 _ (by omega) (x2 + 1) rfl (iw f15 (by decide) (by decide))
        · refine g_iload C 5 rfl dJ1_indexOfChar_4cfef_22 ?_
          exact g_iret C hr rfl (iw f9 (by decide) (by decide)) ⟨O, Fx.rf, (iw f9 (by decide) (by decide))⟩ (by decide) (by decide) dJ1_indexOfChar_4cfef_24
  exact L3 _ a2 rfl (iw fa2 (by decide) (by decide))
def wr_k_J1_indexOf_4cfef : List Nat := []
set_option maxRecDepth 100000 in
set_option maxHeartbeats 4000000 in
theorem k_J1_indexOf_4cfef (l : Launch) (D : va_G) (cy : Nat → ClassId) (w : Nat → Nat) (z0 : Nat)  {h : Hp} {a1 : Int} {a2 : Int} {a3 : Int}  (O : Okh h) (fa1 : (-2147483648) ≤ a1 ∧ a1 ≤ 2147483647) (fa2 : 0 ≤ a2 ∧ a2 ≤ 0) (fa3 : (-2147483648) ≤ a3 ∧ a3 ≤ 2147483647) : MI l D cy w z0 yJ1_indexOf_4cfef cJ1_indexOf_4cfef 4 (some .int) 1 25 0 0 [.inr (.inr (w 32 + 1)), .inl a1, .inl a2, .inl a3] h (fun v h1 => Okh h1 ∧ Fx wr_k_J1_indexOf_4cfef h h1 ∧ ((-2147483648) ≤ v ∧ v ≤ 2147483647)) := by
  refine hm_go (by decide +kernel) (Nat.le_of_ble_eq_true rfl) (fun p e s m below meth c C hr hn => ?_)
  refine g_iload_n C rfl 1 rfl dJ1_indexOf_4cfef_0 ?_
  refine g_callI (st := []) (gc_S C lk_java_lang_StringLatin1_88 (k_J1_canEncode_9a6ad l D cy w z0 O fa1) rfl ⟨by decide, by decide⟩ (Nat.le_of_ble_eq_true rfl) dJ1_indexOf_4cfef_1 ⟨(by decide), (by decide)⟩) (fun r1 h2 f4 K3 => ?_)
  obtain ⟨O5, F6, f7⟩ := K3
  refine g_if_ne C (iw f7 (by decide) (by decide)) 9 (by decide) dJ1_indexOf_4cfef_4 (fun q8 => ?_) (fun q9 => ?_)
  · have f10 : (1 : Int) ≤ r1 ∧ r1 ≤ (1 : Int) := r_nl f7 q8
    refine g_iload_n C rfl 2 rfl dJ1_indexOf_4cfef_9 ?_
    refine g_iconst C dJ1_indexOf_4cfef_10 ?_
    refine g_mmax C (iw fa2 (by decide) (by decide)) (iw (il 0) (by decide) (by decide)) kw_713 kw_714 kw_158 kw_715 (by decide) (Nat.le_of_ble_eq_true rfl) (by decide) (by decide) dJ1_indexOf_4cfef_11 (fun v11 q12 => ?_)
    have f13 : (0 : Int) ≤ v11 ∧ v11 ≤ (0 : Int) := mm_rng fa2 (il 0) q12 (by decide) (by decide)
    refine g_istore_n C [(2, .inl v11), (0, .inr (.inr (w 32 + 1))), (1, .inl a1), (3, .inl a3)] rfl (by decide) rfl dJ1_indexOf_4cfef_14 ?_
    refine g_iload_n C rfl 3 rfl dJ1_indexOf_4cfef_15 ?_
    refine g_aload_n C rfl 1 rfl dJ1_indexOf_4cfef_16 ?_
    refine g_tlen (N := 7) C (C.2.2.2.2.2.2.2.1.1 0 (by decide)).2.2.2 dJ1_indexOf_4cfef_17 ?_
    refine g_mmin2 C fa3 (iw (il 7) (by decide) (by decide)) kw_716 kw_717 kw_158 kw_718 (by decide) (Nat.le_of_ble_eq_true rfl) (by decide) (by decide) dJ1_indexOf_4cfef_18 (fun v14 q15 => ?_)
    have f16 : (-2147483648 : Int) ≤ v14 ∧ v14 ≤ (7 : Int) := by omega
    refine g_istore_n C [(3, .inl v14), (2, .inl v11), (0, .inr (.inr (w 32 + 1))), (1, .inl a1)] rfl (by decide) rfl dJ1_indexOf_4cfef_21 ?_
    refine g_iload_n C rfl 1 rfl dJ1_indexOf_4cfef_22 ?_
    refine g_iload_n C rfl 0 rfl dJ1_indexOf_4cfef_23 ?_
    refine g_icmp_lt C (iw f13 (by decide) (by decide)) (iw f16 (by decide) (by decide)) 29 (by decide) dJ1_indexOf_4cfef_24 (fun q17 => ?_) (fun q18 => ?_)
    · have f19 : (1 : Int) ≤ v14 ∧ v14 ≤ (7 : Int) := r_gt f16 f13 q17 (by decide) (by decide)
      refine g_aload_n C rfl 2 rfl dJ1_indexOf_4cfef_29 ?_
      refine g_iload_n C rfl 3 rfl dJ1_indexOf_4cfef_30 ?_
      refine g_iload_n C rfl 1 rfl dJ1_indexOf_4cfef_31 ?_
      refine g_iload_n C rfl 0 rfl dJ1_indexOf_4cfef_32 ?_
      refine g_callI (st := []) (gc_S C lk_java_lang_StringLatin1_95 (k_J1_indexOfChar_4cfef l D cy w z0 O5 fa1 f13 (iw f19 (by decide) (by decide))) rfl ⟨by decide, by decide⟩ (Nat.le_of_ble_eq_true rfl) dJ1_indexOf_4cfef_33 ⟨(by decide), (by decide)⟩) (fun r20 h21 f23 K22 => ?_)
      obtain ⟨O24, F25, f26⟩ := K22
      exact g_iret C hr rfl f26 ⟨O24, (((Fx.rf (wr := wr_k_J1_indexOf_4cfef)).call F6 rfl).call F25 rfl), f26⟩ (by decide) (by decide) dJ1_indexOf_4cfef_36
    · have f27 : (-2147483648 : Int) ≤ v14 ∧ v14 ≤ (0 : Int) := r_le f16 f13 q18 (by decide) (by decide)
      refine g_iconst C dJ1_indexOf_4cfef_27 ?_
      exact g_iret C hr rfl (iw (il (-1)) (by decide) (by decide)) ⟨O5, ((Fx.rf (wr := wr_k_J1_indexOf_4cfef)).call F6 rfl), (iw (il (-1)) (by decide) (by decide))⟩ (by decide) (by decide) dJ1_indexOf_4cfef_28
  · have f28 : (0 : Int) ≤ r1 ∧ r1 ≤ (0 : Int) := ii f7 (r_eq (il 0) q9) (by decide) (by decide)
    refine g_iconst C dJ1_indexOf_4cfef_7 ?_
    exact g_iret C hr rfl (iw (il (-1)) (by decide) (by decide)) ⟨O5, ((Fx.rf (wr := wr_k_J1_indexOf_4cfef)).call F6 rfl), (iw (il (-1)) (by decide) (by decide))⟩ (by decide) (by decide) dJ1_indexOf_4cfef_8
def wr_k_J0_indexOf_7cf53 : List Nat := []
set_option maxRecDepth 100000 in
set_option maxHeartbeats 4000000 in
theorem k_J0_indexOf_7cf53 (l : Launch) (D : va_G) (cy : Nat → ClassId) (w : Nat → Nat) (z0 : Nat)  {h : Hp} {a1 : Int} {a2 : Int}  (O : Okh h) (fa1 : (-2147483648) ≤ a1 ∧ a1 ≤ 2147483647) (fa2 : 0 ≤ a2 ∧ a2 ≤ 0) : MI l D cy w z0 yJ0_indexOf_7cf53 cJ0_indexOf_7cf53 3 (some .int) 2 48 0 0 [.inr (.inr (w 31 + 1)), .inl a1, .inl a2] h (fun v h1 => Okh h1 ∧ Fx wr_k_J0_indexOf_7cf53 h h1 ∧ ((-2147483648) ≤ v ∧ v ≤ 2147483647)) := by
  refine hm_go (by decide +kernel) (Nat.le_of_ble_eq_true rfl) (fun p e s m below meth c C hr hn => ?_)
  refine g_aload_n C rfl 0 rfl dJ0_indexOf_7cf53_0 ?_
  refine g_callI (st := []) (gc_VS C lk_java_lang_String_492 rfl (k_J0_isLatin1_aae02 l D cy w z0 O) rfl ⟨by decide, by decide⟩ (Nat.le_of_ble_eq_true rfl) dJ0_indexOf_7cf53_1 ⟨(by decide), (by decide)⟩) (fun r1 h2 f4 K3 => ?_)
  obtain ⟨O5, F6, f7⟩ := K3
  refine g_if_eq C (iw f7 (by decide) (by decide)) 23 (by decide) dJ0_indexOf_7cf53_4 (fun q8 => ?_) (fun q9 => ?_)
  · exact (no_eq f7 (il 0) q8 (by decide)).elim
  · refine g_aload_n C rfl 0 rfl dJ0_indexOf_7cf53_7 ?_
    refine g_getf (x := .inr (.inr (w 32 + 1))) C (C.2.2.2.2.2.2.2.1.1 0 (by decide)).2.2.1 kw_2283 dJ0_indexOf_7cf53_8 ?_
    refine g_iload_n C rfl 1 rfl dJ0_indexOf_7cf53_11 ?_
    refine g_iload_n C rfl 2 rfl dJ0_indexOf_7cf53_12 ?_
    refine g_aload_n C rfl 0 rfl dJ0_indexOf_7cf53_13 ?_
    refine g_callI (st := [.inl a2, .inl a1, .inr (.inr (w 32 + 1))]) (gc_VS C lk_java_lang_String_505 rfl (k_J0_length_8abf5 l D cy w z0 O5) rfl ⟨by decide, by decide⟩ (Nat.le_of_ble_eq_true rfl) dJ0_indexOf_7cf53_14 ⟨(by decide), (by decide)⟩) (fun r10 h11 f13 K12 => ?_)
    obtain ⟨O14, F15, f16⟩ := K12
    refine g_callI (st := []) (gc_S C lk_java_lang_String_637 (k_J1_indexOf_4cfef l D cy w z0 O14 fa1 fa2 f16) rfl ⟨by decide, by decide⟩ (Nat.le_of_ble_eq_true rfl) dJ0_indexOf_7cf53_17 ⟨(by decide), (by decide)⟩) (fun r17 h18 f20 K19 => ?_)
    obtain ⟨O21, F22, f23⟩ := K19
    refine g_goto C 36 (by decide) dJ0_indexOf_7cf53_20 ?_
    exact g_iret C hr rfl f23 ⟨O21, ((((Fx.rf (wr := wr_k_J0_indexOf_7cf53)).call F6 rfl).call F15 rfl).call F22 rfl), f23⟩ (by decide) (by decide) dJ0_indexOf_7cf53_36
def wr_k_J0_indexOf_0f7a4 : List Nat := []
set_option maxRecDepth 100000 in
set_option maxHeartbeats 4000000 in
theorem k_J0_indexOf_0f7a4 (l : Launch) (D : va_G) (cy : Nat → ClassId) (w : Nat → Nat) (z0 : Nat)  {h : Hp} {a1 : Int}  (O : Okh h) (fa1 : (-2147483648) ≤ a1 ∧ a1 ≤ 2147483647) : MI l D cy w z0 yJ0_indexOf_0f7a4 cJ0_indexOf_0f7a4 2 (some .int) 3 70 0 0 [.inr (.inr (w 31 + 1)), .inl a1] h (fun v h1 => Okh h1 ∧ Fx wr_k_J0_indexOf_0f7a4 h h1 ∧ ((-2147483648) ≤ v ∧ v ≤ 2147483647)) := by
  refine hm_go (by decide +kernel) (Nat.le_of_ble_eq_true rfl) (fun p e s m below meth c C hr hn => ?_)
  refine g_aload_n C rfl 0 rfl dJ0_indexOf_0f7a4_0 ?_
  refine g_iload_n C rfl 1 rfl dJ0_indexOf_0f7a4_1 ?_
  refine g_iconst C dJ0_indexOf_0f7a4_2 ?_
  refine g_callI (st := []) (gc_VS C lk_java_lang_String_633 rfl (k_J0_indexOf_7cf53 l D cy w z0 O fa1 (il 0)) rfl ⟨by decide, by decide⟩ (Nat.le_of_ble_eq_true rfl) dJ0_indexOf_0f7a4_3 ⟨(by decide), (by decide)⟩) (fun r1 h2 f4 K3 => ?_)
  obtain ⟨O5, F6, f7⟩ := K3
  exact g_iret C hr rfl f7 ⟨O5, ((Fx.rf (wr := wr_k_J0_indexOf_0f7a4)).call F6 rfl), f7⟩ (by decide) (by decide) dJ0_indexOf_0f7a4_6
def wr_k_X10_ofCode : List Nat := []
set_option maxRecDepth 100000 in
set_option maxHeartbeats 4000000 in
theorem k_X10_ofCode (l : Launch) (D : va_G) (cy : Nat → ClassId) (w : Nat → Nat) (z0 : Nat)  {h : Hp} {a0 : Int}  (O : Okh h) (fa0 : (-9223372036854775808) ≤ a0 ∧ a0 ≤ 9223372036854775807) : MR l D cy w z0 yX10_ofCode cX10_ofCode 3 (some (.object "LandSurvey$Word")) 0 0 0 0 [.inr (.inl a0)] h (fun v h1 => Okh h1 ∧ Fx wr_k_X10_ofCode h h1 ∧ (WOk w v)) := by
  refine hm_go (by decide +kernel) (Nat.le_of_ble_eq_true rfl) (fun p e s m below meth c C hr hn => ?_)
  refine g_iconst C dX10_ofCode_0 ?_
  refine g_istore_n C [(2, .inl 0), (0, .inr (.inl a0))] rfl (by decide) rfl dX10_ofCode_1 ?_
  refine GW.sub [1, 0] rfl ?_
  -- loop at 2
  have L2 : ∀ (μ : Nat) (x1 : Int), (30 - x1).toNat = μ → ((0 : Int) ≤ x1 ∧ x1 ≤ (30 : Int)) → GW p l e (rmm 0 0 0 0) s m (List.map toV [.inr (.inl a0)]).toArray below meth c D cy z0 3 (MQ below (QR D cy z0 (fun v h1 => Okh h1 ∧ Fx wr_k_X10_ofCode h h1 ∧ (WOk w v))) (List.map toV [.inr (.inl a0)]).toArray s 0 0 (Aof z0)) 2 [(0, .inr (.inl a0)), (2, .inl x1)] [] h 0 0 := by
    intro μ
    induction μ using Nat.strongRecOn with
    | ind μ ih3 =>
      intro x1 hm4 f5
      refine g_iload_n C rfl 1 rfl dX10_ofCode_2 ?_
      refine g_gets (x := .inr (.inr (w 30 + 1))) C C.2.2.2.2.2.2.1.2.2.1 kw_681 dX10_ofCode_3 ?_
      refine g_tlen (N := 30) C C.2.2.2.2.2.2.1.2.2.2 dX10_ofCode_6 ?_
      refine g_icmp_ge C (iw f5 (by decide) (by decide)) (iw (il 30) (by decide) (by decide)) 35 (by decide) dX10_ofCode_7 (fun q6 => ?_) (fun q7 => ?_)
      · have f8 : (30 : Int) ≤ x1 ∧ x1 ≤ (30 : Int) := r_ge f5 (il 30) q6 (by decide) (by decide)
        refine g_null C dX10_ofCode_35 ?_
        exact g_aret C hr (Or.inl ⟨_, rfl⟩) ⟨O, Fx.rf, (Or.inl rfl)⟩ (by decide) (by decide) dX10_ofCode_36
      · have f9 : (0 : Int) ≤ x1 ∧ x1 ≤ (29 : Int) := r_lt f5 (il 30) q7 (by decide) (by decide)
        refine g_gets (x := .inr (.inr (w 30 + 1))) C C.2.2.2.2.2.2.1.2.2.1 kw_681 dX10_ofCode_10 ?_
        refine g_iload_n C rfl 1 rfl dX10_ofCode_13 ?_
        refine g_taq (N := 30) C (by decide) C.2.2.2.2.2.2.1.2.2.2 (ix f9 (by decide) (by decide)) dX10_ofCode_14 ?_
        refine g_getf (x := .inr (.inl (wCo.getD x1.toNat 0))) C (C.2.2.2.2.2.2.1.1 x1.toNat (by omega)).2.1 kw_2281 dX10_ofCode_15 ?_
        have f10 : (-9223372036854775808 : Int) ≤ (wCo.getD x1.toNat 0) ∧ (wCo.getD x1.toNat 0) ≤ (9223372036854775807 : Int) := wCo_in _
        refine g_lload_n C rfl 0 rfl dX10_ofCode_18 ?_
        refine g_lcmp C f10 fa0 dX10_ofCode_19 ?_
        have f11 : (-1 : Int) ≤ (lC (wCo.getD x1.toNat 0) a0) ∧ (lC (wCo.getD x1.toNat 0) a0) ≤ (1 : Int) := lC_rng _ _
        refine g_if_ne C (iw f11 (by decide) (by decide)) 29 (by decide) dX10_ofCode_20 (fun q12 => ?_) (fun q13 => ?_)
        · have q14 : ¬ (wCo.getD x1.toNat 0) = a0 := fun z => q12 (lC_eq.mpr z)
          have f15 : (1 : Int) ≤ (x1 + 1) ∧ (x1 + 1) ≤ (30 : Int) := ia_add f9 (il 1) (by decide) (by decide)
          refine g_iinc C [(2, .inl (x1 + 1)), (0, .inr (.inl a0))] 1 rfl (by decide) rfl dX10_ofCode_29 ?_
          refine g_goto C 2 (by decide) dX10_ofCode_32 ?_
          refine GW.sub [1, 0] rfl ?_
          exact ih3 _ (by omega) (x1 + 1) rfl (iw f15 (by decide) (by decide))
        · have q16 : (wCo.getD x1.toNat 0) = a0 := lC_eq.mp q13
          refine g_gets (x := .inr (.inr (w 30 + 1))) C C.2.2.2.2.2.2.1.2.2.1 kw_681 dX10_ofCode_23 ?_
          refine g_iload_n C rfl 1 rfl dX10_ofCode_26 ?_
          refine g_taq (N := 30) C (by decide) C.2.2.2.2.2.2.1.2.2.2 (ix f9 (by decide) (by decide)) dX10_ofCode_27 ?_
          exact g_aret C hr (Or.inl ⟨_, rfl⟩) ⟨O, Fx.rf, (Or.inr ⟨x1.toNat, (by omega), rfl⟩)⟩ (by decide) (by decide) dX10_ofCode_28
  exact L2 _ 0 rfl (iw (il 0) (by decide) (by decide))
def wr_k_X3_wrong : List Nat := [807]
set_option maxRecDepth 100000 in
set_option maxHeartbeats 4000000 in
theorem k_X3_wrong (l : Launch) (D : va_G) (cy : Nat → ClassId) (w : Nat → Nat) (z0 : Nat)  {h : Hp} {a0 : Nat} {a1 : Int}  (O : Okh h) (ta0 : Tg h a0 = 4) (fa1 : 1 ≤ a1 ∧ a1 ≤ 5) : MI l D cy w z0 yX3_wrong cX3_wrong 2 (some .boolean) 0 0 0 0 [.inr (.inr a0), .inl a1] h (fun v h1 => Okh h1 ∧ Fx wr_k_X3_wrong h h1 ∧ (0 ≤ v ∧ v ≤ 0)) := by
  refine hm_go (by decide +kernel) (Nat.le_of_ble_eq_true rfl) (fun p e s m below meth c C hr hn => ?_)
  refine g_aload_n C rfl 0 rfl dX3_wrong_0 ?_
  refine g_iload_n C rfl 1 rfl dX3_wrong_1 ?_
  refine g_bipush C (by decide) dX3_wrong_2 ?_
  refine g_aload_n C rfl 0 rfl dX3_wrong_4 ?_
  obtain ⟨v1, e2⟩ : ∃ z, Iv h a0 3 = z := ⟨_, rfl⟩
  have f3 := ok_I O ta0 rI_4_3 e2
  refine gf_I C fk_LandSurvey_Reader_66 rfl ta0 e2 dX3_wrong_5 ?_
  have f4 : (0 : Int) ≤ (16 * v1) ∧ (16 * v1) ≤ (24000 : Int) := ia_mul (by decide) f3 (by decide) (by decide)
  refine g_imul C dX3_wrong_8 ?_
  have f5 : (1 : Int) ≤ (a1 + (16 * v1)) ∧ (a1 + (16 * v1)) ≤ (24005 : Int) := ia_add fa1 f4 (by decide) (by decide)
  refine g_iadd C dX3_wrong_9 ?_
  refine gp_I C fk_LandSurvey_Reader_33 pk_LandSurvey_Reader_7 rfl ta0 (iw f5 (by decide) (by decide)) (nf_i _) dX3_wrong_10 (fun h7 hh6 => ?_)
  have O8 := O.pI ta0 hh6 rI_4_7 (iw f5 (by decide) (by decide)) nofun
  refine g_iconst C dX3_wrong_13 ?_
  exact g_iret C hr (nar_z2 (iw (il 0) (by decide) (by decide))).1 (iw (il 0) (by decide) (by decide)) ⟨O8, ((Fx.rf (wr := wr_k_X3_wrong)).pI ta0 hh6 rfl), (il 0)⟩ (by decide) (by decide) dX3_wrong_14
def wr_k_X3_isNext : List Nat := []
set_option maxRecDepth 100000 in
set_option maxHeartbeats 4000000 in
theorem k_X3_isNext (l : Launch) (D : va_G) (cy : Nat → ClassId) (w : Nat → Nat) (z0 : Nat)  {h : Hp} {a0 : Nat} {a1 : Int}  (O : Okh h) (ta0 : Tg h a0 = 4) (fa1 : 0 ≤ a1 ∧ a1 ≤ 65535) : MI l D cy w z0 yX3_isNext cX3_isNext 2 (some .boolean) 0 0 0 0 [.inr (.inr a0), .inl a1] h (fun v h1 => Okh h1 ∧ Fx wr_k_X3_isNext h h1 ∧ (0 ≤ v ∧ v ≤ 1)) := by
  refine hm_go (by decide +kernel) (Nat.le_of_ble_eq_true rfl) (fun p e s m below meth c C hr hn => ?_)
  refine g_aload_n C rfl 0 rfl dX3_isNext_0 ?_
  obtain ⟨v1, e2⟩ : ∃ z, Iv h a0 4 = z := ⟨_, rfl⟩
  have f3 := ok_I O ta0 rI_4_4 e2
  refine gf_I C fk_LandSurvey_Reader_49 rfl ta0 e2 dX3_isNext_1 ?_
  refine g_iconst C dX3_isNext_4 ?_
  refine g_icmp_ne C (iw f3 (by decide) (by decide)) (iw (il 3) (by decide) (by decide)) 22 (by decide) dX3_isNext_5 (fun q4 => ?_) (fun q5 => ?_)
  · refine g_iconst C dX3_isNext_22 ?_
    exact g_iret C hr (nar_z2 (iw (il 0) (by decide) (by decide))).1 (iw (il 0) (by decide) (by decide)) ⟨O, Fx.rf, (iw (il 0) (by decide) (by decide))⟩ (by decide) (by decide) dX3_isNext_23
  · have f6 : (3 : Int) ≤ v1 ∧ v1 ≤ (3 : Int) := ii f3 (r_eq (il 3) q5) (by decide) (by decide)
    refine g_aload_n C rfl 0 rfl dX3_isNext_8 ?_
    obtain ⟨v7, e8⟩ : ∃ z, Jv h a0 5 = z := ⟨_, rfl⟩
    have f9 := inL_J O e8
    refine gf_J C fk_LandSurvey_Reader_73 rfl ta0 e8 dX3_isNext_9 ?_
    refine g_iload_n C rfl 1 rfl dX3_isNext_12 ?_
    refine g_i2l C (iw fa1 (by decide) (by decide)) dX3_isNext_13 ?_
    refine g_lcmp C f9 (iw fa1 (by decide) (by decide)) dX3_isNext_14 ?_
    have f10 : (-1 : Int) ≤ (lC v7 a1) ∧ (lC v7 a1) ≤ (1 : Int) := lC_rng _ _
    refine g_if_ne C (iw f10 (by decide) (by decide)) 22 (by decide) dX3_isNext_15 (fun q11 => ?_) (fun q12 => ?_)
    · have q13 : ¬ v7 = a1 := fun z => q11 (lC_eq.mpr z)
      refine g_iconst C dX3_isNext_22 ?_
      exact g_iret C hr (nar_z2 (iw (il 0) (by decide) (by decide))).1 (iw (il 0) (by decide) (by decide)) ⟨O, Fx.rf, (iw (il 0) (by decide) (by decide))⟩ (by decide) (by decide) dX3_isNext_23
    · have q14 : v7 = a1 := lC_eq.mp q12
      have f15 : (0 : Int) ≤ v7 ∧ v7 ≤ (65535 : Int) := ii f9 (r_eq fa1 q14) (by decide) (by decide)
      refine g_iconst C dX3_isNext_18 ?_
      refine g_goto C 23 (by decide) dX3_isNext_19 ?_
      exact g_iret C hr (nar_z2 (iw (il 1) (by decide) (by decide))).1 (iw (il 1) (by decide) (by decide)) ⟨O, Fx.rf, (iw (il 1) (by decide) (by decide))⟩ (by decide) (by decide) dX3_isNext_23
def wr_k_X3_advance : List Nat := [802, 803, 804, 805, 806]
set_option maxRecDepth 100000 in
set_option maxHeartbeats 4000000 in
theorem k_X3_advance (l : Launch) (D : va_G) (cy : Nat → ClassId) (w : Nat → Nat) (z0 : Nat)  {h : Hp} {a0 : Nat}  (O : Okh h) (ta0 : Tg h a0 = 4) (P_RInv : RInv w h a0) : MV l D cy w z0 yX3_advance cX3_advance 2 none 4 91 0 0 [.inr (.inr a0)] h (fun h1 => Okh h1 ∧ Fx wr_k_X3_advance h h1 ∧ (RInv w h1 a0)) := by
  obtain ⟨v1, e2⟩ : ∃ z, Rv h a0 13 = z := ⟨_, rfl⟩
  have t3 := P_RInv.1
  rw [e2] at t3
  obtain ⟨v4, e5⟩ : ∃ z, Iv h a0 4 = z := ⟨_, rfl⟩
  have f6 := ok_I O ta0 rI_4_4 e5
  obtain ⟨v7, e8⟩ : ∃ z, Jv h a0 5 = z := ⟨_, rfl⟩
  have f9 := inL_J O e8
  obtain ⟨v10, e11⟩ : ∃ z, Rv h a0 6 = z := ⟨_, rfl⟩
  have p12 := P_RInv.2.2.1
  rw [e5, e8] at p12
  have p13 := P_RInv.2.2.2
  rw [e11] at p13
  refine hm_go (by decide +kernel) (Nat.le_of_ble_eq_true rfl) (fun p e s m below meth c C hr hn => ?_)
  refine GW.sub [0] rfl ?_
  -- loop at 0
  have L15 : ∀ (μ : Nat) (h14 : Hp), (1500 - Iv h14 a0 2).toNat = μ → Okh h14 → Fx [802] h h14 → GW p l e (rmm 4 91 0 0) s m (List.map toV [.inr (.inr a0)]).toArray below meth c D cy z0 2 (MQ below (QV D cy z0 (fun h1 => Okh h1 ∧ Fx wr_k_X3_advance h h1 ∧ (RInv w h1 a0))) (List.map toV [.inr (.inr a0)]).toArray s 0 0 (Aof z0)) 0 [(0, .inr (.inr a0))] [] h14 0 0 := by
    intro μ
    induction μ using Nat.strongRecOn with
    | ind μ ih16 =>
      intro h14 hm17 O18 F19
      obtain ⟨v20, e21⟩ : ∃ z, Iv h14 a0 2 = z := ⟨_, rfl⟩
      have e22 : Tg h14 a0 = 4 := (fxT F19 ta0)
      have f23 := ok_I O18 e22 rI_4_2 e21
      refine g_aload_n C rfl 0 rfl dX3_advance_0 ?_
      refine gf_I C fk_LandSurvey_Reader_30 rfl e22 e21 dX3_advance_1 ?_
      refine g_aload_n C rfl 0 rfl dX3_advance_4 ?_
      obtain ⟨v24, e25⟩ : ∃ z, Iv h14 a0 1 = z := ⟨_, rfl⟩
      have f26 := ok_I O18 e22 rI_4_1 e25
      refine gf_I C fk_LandSurvey_Reader_19 rfl e22 e25 dX3_advance_5 ?_
      refine g_icmp_ge C (iw f23 (by decide) (by decide)) (iw f26 (by decide) (by decide)) 52 (by decide) dX3_advance_8 (fun q27 => ?_) (fun q28 => ?_)
      · refine g_aload_n C rfl 0 rfl dX3_advance_52 ?_
        refine g_aload_n C rfl 0 rfl dX3_advance_53 ?_
        refine gf_I C fk_LandSurvey_Reader_30 rfl e22 e21 dX3_advance_54 ?_
        refine gp_I C fk_LandSurvey_Reader_66 pk_LandSurvey_Reader_3 rfl e22 (iw f23 (by decide) (by decide)) (nf_i _) dX3_advance_57 (fun h30 hh29 => ?_)
        have O31 := O18.pI e22 hh29 rI_4_3 f23 nofun
        refine g_aload_n C rfl 0 rfl dX3_advance_60 ?_
        refine g_null C dX3_advance_61 ?_
        have e32 : Tg h30 a0 = 4 := ((pIT hh29).trans e22)
        refine gp_R C fk_LandSurvey_Reader_69 pk_LandSurvey_Reader_6 rfl e32 (nf_o _ _) dX3_advance_62 (fun h34 hh33 => ?_)
        have O35 := O31.pR e32 hh33 (okR_f rE_4_6)
        refine g_aload_n C rfl 0 rfl dX3_advance_65 ?_
        refine g_lconst (z := 0) C (by decide) dX3_advance_66 ?_
        have e36 : Tg h34 a0 = 4 := ((pRT hh33).trans e32)
        refine gp_J C fk_LandSurvey_Reader_73 pk_LandSurvey_Reader_5 rfl e36 rfl (iw (il 0) (by decide) (by decide)) dX3_advance_67 (fun h38 hh37 => ?_)
        have O39 := O35.pJ hh37 (iw (il 0) (by decide) (by decide))
        refine g_aload_n C rfl 0 rfl dX3_advance_70 ?_
        have e40 : Tg h38 a0 = 4 := ((pJT hh37).trans e36)
        have e41 : Iv h38 a0 2 = v20 := ((pJI hh37).trans ((pRI hh33).trans ((pI_j hh29 (by decide)).trans e21)))
        refine gf_I C fk_LandSurvey_Reader_30 rfl e40 e41 dX3_advance_71 ?_
        refine g_aload_n C rfl 0 rfl dX3_advance_74 ?_
        have e42 : Iv h38 a0 1 = v24 := ((pJI hh37).trans ((pRI hh33).trans ((pI_j hh29 (by decide)).trans e25)))
        refine gf_I C fk_LandSurvey_Reader_19 rfl e40 e42 dX3_advance_75 ?_
        refine g_icmp_ge C (iw f23 (by decide) (by decide)) (iw f26 (by decide) (by decide)) 93 (by decide) dX3_advance_78 (fun q43 => ?_) (fun q44 => ?_)
        · refine g_iconst C dX3_advance_93 ?_
          refine g_istore_n C [(1, .inl 0), (0, .inr (.inr a0))] rfl (by decide) rfl dX3_advance_94 ?_
          refine g_aload_n C rfl 1 rfl dX3_advance_95 ?_
          refine gf_I C fk_LandSurvey_Reader_30 rfl e40 e41 dX3_advance_96 ?_
          refine g_aload_n C rfl 1 rfl dX3_advance_99 ?_
          refine gf_I C fk_LandSurvey_Reader_19 rfl e40 e42 dX3_advance_100 ?_
          refine g_icmp_lt C (iw f23 (by decide) (by decide)) (iw f26 (by decide) (by decide)) 114 (by decide) dX3_advance_103 (fun q45 => ?_) (fun q46 => ?_)
          · have f47 : (0 : Int) ≤ v20 ∧ v20 ≤ (1499 : Int) := r_lt f23 f26 q45 (by decide) (by decide)
            have f48 : (1 : Int) ≤ v24 ∧ v24 ≤ (1500 : Int) := r_gt f26 f23 q45 (by decide) (by decide)
            refine g_iload_n C rfl 0 rfl dX3_advance_114 ?_
            refine g_bipush C (by decide) dX3_advance_115 ?_
            refine g_icmp_lt C (iw (il 0) (by decide) (by decide)) (iw (il 97) (by decide) (by decide)) 255 (by decide) dX3_advance_117 (fun q49 => ?_) (fun q50 => ?_)
            · refine g_iload_n C rfl 0 rfl dX3_advance_255 ?_
              refine g_bipush C (by decide) dX3_advance_256 ?_
              refine g_icmp_lt C (iw (il 0) (by decide) (by decide)) (iw (il 48) (by decide) (by decide)) 370 (by decide) dX3_advance_258 (fun q51 => ?_) (fun q52 => ?_)
              · refine g_aload_n C rfl 1 rfl dX3_advance_370 ?_
                refine g_iload_n C rfl 0 rfl dX3_advance_371 ?_
                refine g_i2l C (iw (il 0) (by decide) (by decide)) dX3_advance_372 ?_
                refine gp_J C fk_LandSurvey_Reader_73 pk_LandSurvey_Reader_5 rfl e40 rfl (iw (il 0) (by decide) (by decide)) dX3_advance_373 (fun h54 hh53 => ?_)
                have O55 := O39.pJ hh53 (iw (il 0) (by decide) (by decide))
                refine g_aload_n C rfl 1 rfl dX3_advance_376 ?_
                refine g_ldcS C C.2.2.2.2.1.2 dX3_advance_377 ?_
                refine g_iload_n C rfl 0 rfl dX3_advance_379 ?_
                refine g_callI (st := [.inr (.inr a0)]) (gc_VS C lk_LandSurvey_Reader_89 rfl (k_J0_indexOf_0f7a4 l D cy w z0 O55 (iw (il 0) (by decide) (by decide))) rfl ⟨by decide, by decide⟩ (Nat.le_of_ble_eq_true rfl) dX3_advance_380 ⟨(by decide), (by decide)⟩) (fun r56 h57 f59 K58 => ?_)
                obtain ⟨O60, F61, f62⟩ := K58
                refine g_if_lt C f62 390 (by decide) dX3_advance_383 (fun q63 => ?_) (fun q64 => ?_)
                · have f65 : (-2147483648 : Int) ≤ r56 ∧ r56 ≤ (-1 : Int) := r_lt f62 (il 0) q63 (by decide) (by decide)
                  refine g_iconst C dX3_advance_390 ?_
                  have e66 : Tg h57 a0 = 4 := (fxT F61 ((pJT hh53).trans e40))
                  refine gp_I C fk_LandSurvey_Reader_49 pk_LandSurvey_Reader_4 rfl e66 (iw (il 4) (by decide) (by decide)) (nf_i _) dX3_advance_391 (fun h68 hh67 => ?_)
                  have O69 := O60.pI e66 hh67 rI_4_4 (iw (il 4) (by decide) (by decide)) nofun
                  refine g_aload_n C rfl 1 rfl dX3_advance_394 ?_
                  refine g_dup C rfl dX3_advance_395 ?_
                  have e70 : Tg h68 a0 = 4 := ((pIT hh67).trans e66)
                  have e71 : Tg h54 a0 = 4 := ((pJT hh53).trans e40)
                  have e72 : Iv h68 a0 2 = v20 := ((pI_j hh67 (by decide)).trans ((fxI F61 e71 rfl).trans ((pJI hh53).trans e41)))
                  refine gf_I C fk_LandSurvey_Reader_30 rfl e70 e72 dX3_advance_396 ?_
                  refine g_iconst C dX3_advance_399 ?_
                  have f73 : (1 : Int) ≤ (v20 + 1) ∧ (v20 + 1) ≤ (1500 : Int) := ia_add f47 (il 1) (by decide) (by decide)
                  refine g_iadd C dX3_advance_400 ?_
                  refine gp_I C fk_LandSurvey_Reader_30 pk_LandSurvey_Reader_2 rfl e70 (iw f73 (by decide) (by decide)) (nf_i _) dX3_advance_401 (fun h75 hh74 => ?_)
                  have O76 := O69.pI e70 hh74 rI_4_2 (iw f73 (by decide) (by decide)) nofun
                  have e77 : Rv h75 a0 13 = v1 := ((pIR hh74).trans ((pIR hh67).trans ((fxR F61 e71 rfl).trans ((pJR hh53).trans ((pJR hh37).trans ((pR_j hh33 (by decide)).trans ((pIR hh29).trans ((fxR F19 ta0 rfl).trans e2))))))))
                  have e78 : Iv h75 a0 4 = 4 := ((pI_j hh74 (by decide)).trans (pI_e hh67))
                  have e79 : Jv h75 a0 5 = 0 := ((pIJ hh74).trans ((pIJ hh67).trans ((fxJ F61 e71 rfl).trans (pJ_e hh53))))
                  have e80 : Rv h75 a0 6 = 0 := ((pIR hh74).trans ((pIR hh67).trans ((fxR F61 e71 rfl).trans ((pJR hh53).trans ((pJR hh37).trans (pR_e hh33))))))
                  have e81 : Tg h75 v1 = 2006 := ((pIT hh74).trans ((pIT hh67).trans (fxT F61 ((pJT hh53).trans ((pJT hh37).trans ((pRT hh33).trans ((pIT hh29).trans (fxT F19 t3))))))))
                  have e82 : Rv h14 a0 13 = v1 := ((fxR F19 ta0 rfl).trans e2)
                  have e83 : Tg h14 v1 = 2006 := (fxT F19 t3)
                  have e84 : Rv h30 a0 13 = v1 := ((pIR hh29).trans e82)
                  have e85 : Tg h30 v1 = 2006 := ((pIT hh29).trans e83)
                  have e86 : Rv h34 a0 13 = v1 := ((pR_j hh33 (by decide)).trans e84)
                  have e87 : Tg h34 v1 = 2006 := ((pRT hh33).trans e85)
                  have e88 : Rv h38 a0 13 = v1 := ((pJR hh37).trans e86)
                  have e89 : Tg h38 v1 = 2006 := ((pJT hh37).trans e87)
                  have e90 : Rv h54 a0 13 = v1 := ((pJR hh53).trans e88)
                  have e91 : Tg h54 v1 = 2006 := ((pJT hh53).trans e89)
                  have e92 : Rv h57 a0 13 = v1 := ((fxR F61 e71 rfl).trans e90)
                  have e93 : Tg h57 v1 = 2006 := (fxT F61 e91)
                  have e94 : Rv h68 a0 13 = v1 := ((pIR hh67).trans e92)
                  have e95 : Tg h68 v1 = 2006 := ((pIT hh67).trans e93)
                  have p96 := (DOk_fx O69 ((Fx.rf (wr := [802]) (h := h68)).pI e70 hh74 rfl) e70 (by rw [e94]; exact e95) rfl (DOk_fx O60 ((Fx.rf (wr := [804]) (h := h57)).pI e66 hh67 rfl) e66 (by rw [e92]; exact e93) rfl (DOk_fx O55 F61 e71 (by rw [e90]; exact e91) rfl (DOk_fx O39 ((Fx.rf (wr := [805]) (h := h38)).pJ e40 hh53 rfl) e40 (by rw [e88]; exact e89) rfl (DOk_fx O35 ((Fx.rf (wr := [805]) (h := h34)).pJ e36 hh37 rfl) e36 (by rw [e86]; exact e87) rfl (DOk_fx O31 ((Fx.rf (wr := [806]) (h := h30)).pR e32 hh33 rfl) e32 (by rw [e84]; exact e85) rfl (DOk_fx O18 ((Fx.rf (wr := [803]) (h := h14)).pI e22 hh29 rfl) e22 (by rw [e82]; exact e83) rfl (DOk_fx O F19 ta0 (by rw [e2]; exact t3) rfl P_RInv.2.1))))))))
                  exact g_vret C hr ⟨O76, (((((((((Fx.rf (wr := wr_k_X3_advance)).call F19 rfl).pI e22 hh29 rfl).pR e32 hh33 rfl).pJ e36 hh37 rfl).pJ e40 hh53 rfl).call F61 rfl).pI e66 hh67 rfl).pI e70 hh74 rfl), (by unfold RInv; rw [e77, e78, e79, e80]; exact ⟨e81, p96, by omega, (Or.inl rfl)⟩)⟩ (by decide) (by decide) dX3_advance_404
                · have f97 : (0 : Int) ≤ r56 ∧ r56 ≤ (2147483647 : Int) := r_ge f62 (il 0) q64 (by decide) (by decide)
                  refine g_iconst C dX3_advance_386 ?_
                  refine g_goto C 391 (by decide) dX3_advance_387 ?_
                  have e98 : Tg h57 a0 = 4 := (fxT F61 ((pJT hh53).trans e40))
                  refine gp_I C fk_LandSurvey_Reader_49 pk_LandSurvey_Reader_4 rfl e98 (iw (il 3) (by decide) (by decide)) (nf_i _) dX3_advance_391 (fun h100 hh99 => ?_)
                  have O101 := O60.pI e98 hh99 rI_4_4 (iw (il 3) (by decide) (by decide)) nofun
                  refine g_aload_n C rfl 1 rfl dX3_advance_394 ?_
                  refine g_dup C rfl dX3_advance_395 ?_
                  have e102 : Tg h100 a0 = 4 := ((pIT hh99).trans e98)
                  have e103 : Tg h54 a0 = 4 := ((pJT hh53).trans e40)
                  have e104 : Iv h100 a0 2 = v20 := ((pI_j hh99 (by decide)).trans ((fxI F61 e103 rfl).trans ((pJI hh53).trans e41)))
                  refine gf_I C fk_LandSurvey_Reader_30 rfl e102 e104 dX3_advance_396 ?_
                  refine g_iconst C dX3_advance_399 ?_
                  have f105 : (1 : Int) ≤ (v20 + 1) ∧ (v20 + 1) ≤ (1500 : Int) := ia_add f47 (il 1) (by decide) (by decide)
                  refine g_iadd C dX3_advance_400 ?_
                  refine gp_I C fk_LandSurvey_Reader_30 pk_LandSurvey_Reader_2 rfl e102 (iw f105 (by decide) (by decide)) (nf_i _) dX3_advance_401 (fun h107 hh106 => ?_)
                  have O108 := O101.pI e102 hh106 rI_4_2 (iw f105 (by decide) (by decide)) nofun
                  have e109 : Rv h107 a0 13 = v1 := ((pIR hh106).trans ((pIR hh99).trans ((fxR F61 e103 rfl).trans ((pJR hh53).trans ((pJR hh37).trans ((pR_j hh33 (by decide)).trans ((pIR hh29).trans ((fxR F19 ta0 rfl).trans e2))))))))
                  have e110 : Iv h107 a0 4 = 3 := ((pI_j hh106 (by decide)).trans (pI_e hh99))
                  have e111 : Jv h107 a0 5 = 0 := ((pIJ hh106).trans ((pIJ hh99).trans ((fxJ F61 e103 rfl).trans (pJ_e hh53))))
                  have e112 : Rv h107 a0 6 = 0 := ((pIR hh106).trans ((pIR hh99).trans ((fxR F61 e103 rfl).trans ((pJR hh53).trans ((pJR hh37).trans (pR_e hh33))))))
                  have e113 : Tg h107 v1 = 2006 := ((pIT hh106).trans ((pIT hh99).trans (fxT F61 ((pJT hh53).trans ((pJT hh37).trans ((pRT hh33).trans ((pIT hh29).trans (fxT F19 t3))))))))
                  have e114 : Rv h14 a0 13 = v1 := ((fxR F19 ta0 rfl).trans e2)
                  have e115 : Tg h14 v1 = 2006 := (fxT F19 t3)
                  have e116 : Rv h30 a0 13 = v1 := ((pIR hh29).trans e114)
                  have e117 : Tg h30 v1 = 2006 := ((pIT hh29).trans e115)
                  have e118 : Rv h34 a0 13 = v1 := ((pR_j hh33 (by decide)).trans e116)
                  have e119 : Tg h34 v1 = 2006 := ((pRT hh33).trans e117)
                  have e120 : Rv h38 a0 13 = v1 := ((pJR hh37).trans e118)
                  have e121 : Tg h38 v1 = 2006 := ((pJT hh37).trans e119)
                  have e122 : Rv h54 a0 13 = v1 := ((pJR hh53).trans e120)
                  have e123 : Tg h54 v1 = 2006 := ((pJT hh53).trans e121)
                  have e124 : Rv h57 a0 13 = v1 := ((fxR F61 e103 rfl).trans e122)
                  have e125 : Tg h57 v1 = 2006 := (fxT F61 e123)
                  have e126 : Rv h100 a0 13 = v1 := ((pIR hh99).trans e124)
                  have e127 : Tg h100 v1 = 2006 := ((pIT hh99).trans e125)
                  have p128 := (DOk_fx O101 ((Fx.rf (wr := [802]) (h := h100)).pI e102 hh106 rfl) e102 (by rw [e126]; exact e127) rfl (DOk_fx O60 ((Fx.rf (wr := [804]) (h := h57)).pI e98 hh99 rfl) e98 (by rw [e124]; exact e125) rfl (DOk_fx O55 F61 e103 (by rw [e122]; exact e123) rfl (DOk_fx O39 ((Fx.rf (wr := [805]) (h := h38)).pJ e40 hh53 rfl) e40 (by rw [e120]; exact e121) rfl (DOk_fx O35 ((Fx.rf (wr := [805]) (h := h34)).pJ e36 hh37 rfl) e36 (by rw [e118]; exact e119) rfl (DOk_fx O31 ((Fx.rf (wr := [806]) (h := h30)).pR e32 hh33 rfl) e32 (by rw [e116]; exact e117) rfl (DOk_fx O18 ((Fx.rf (wr := [803]) (h := h14)).pI e22 hh29 rfl) e22 (by rw [e114]; exact e115) rfl (DOk_fx O F19 ta0 (by rw [e2]; exact t3) rfl P_RInv.2.1))))))))
                  exact g_vret C hr ⟨O108, (((((((((Fx.rf (wr := wr_k_X3_advance)).call F19 rfl).pI e22 hh29 rfl).pR e32 hh33 rfl).pJ e36 hh37 rfl).pJ e40 hh53 rfl).call F61 rfl).pI e98 hh99 rfl).pI e102 hh106 rfl), (by unfold RInv; rw [e109, e110, e111, e112]; exact ⟨e113, p128, by omega, (Or.inl rfl)⟩)⟩ (by decide) (by decide) dX3_advance_404
              · exact (no_le (il 48) (il 0) q52 (by decide)).elim
            · exact (no_le (il 97) (il 0) q50 (by decide)).elim
          · refine g_aload_n C rfl 1 rfl dX3_advance_106 ?_
            refine g_iconst C dX3_advance_107 ?_
            refine gp_I C fk_LandSurvey_Reader_49 pk_LandSurvey_Reader_4 rfl e40 (iw (il 0) (by decide) (by decide)) (nf_i _) dX3_advance_108 (fun h130 hh129 => ?_)
            have O131 := O39.pI e40 hh129 rI_4_4 (iw (il 0) (by decide) (by decide)) nofun
            refine g_goto C 404 (by decide) dX3_advance_111 ?_
            have e132 : Rv h130 a0 13 = v1 := ((pIR hh129).trans ((pJR hh37).trans ((pR_j hh33 (by decide)).trans ((pIR hh29).trans ((fxR F19 ta0 rfl).trans e2)))))
            have e133 : Jv h130 a0 5 = 0 := ((pIJ hh129).trans (pJ_e hh37))
            have e134 : Rv h130 a0 6 = 0 := ((pIR hh129).trans ((pJR hh37).trans (pR_e hh33)))
            have e135 : Tg h130 v1 = 2006 := ((pIT hh129).trans ((pJT hh37).trans ((pRT hh33).trans ((pIT hh29).trans (fxT F19 t3)))))
            have e136 : Rv h14 a0 13 = v1 := ((fxR F19 ta0 rfl).trans e2)
            have e137 : Tg h14 v1 = 2006 := (fxT F19 t3)
            have e138 : Rv h30 a0 13 = v1 := ((pIR hh29).trans e136)
            have e139 : Tg h30 v1 = 2006 := ((pIT hh29).trans e137)
            have e140 : Rv h34 a0 13 = v1 := ((pR_j hh33 (by decide)).trans e138)
            have e141 : Tg h34 v1 = 2006 := ((pRT hh33).trans e139)
            have e142 : Rv h38 a0 13 = v1 := ((pJR hh37).trans e140)
            have e143 : Tg h38 v1 = 2006 := ((pJT hh37).trans e141)
            have p144 := (DOk_fx O39 ((Fx.rf (wr := [804]) (h := h38)).pI e40 hh129 rfl) e40 (by rw [e142]; exact e143) rfl (DOk_fx O35 ((Fx.rf (wr := [805]) (h := h34)).pJ e36 hh37 rfl) e36 (by rw [e140]; exact e141) rfl (DOk_fx O31 ((Fx.rf (wr := [806]) (h := h30)).pR e32 hh33 rfl) e32 (by rw [e138]; exact e139) rfl (DOk_fx O18 ((Fx.rf (wr := [803]) (h := h14)).pI e22 hh29 rfl) e22 (by rw [e136]; exact e137) rfl (DOk_fx O F19 ta0 (by rw [e2]; exact t3) rfl P_RInv.2.1)))))
            exact g_vret C hr ⟨O131, ((((((Fx.rf (wr := wr_k_X3_advance)).call F19 rfl).pI e22 hh29 rfl).pR e32 hh33 rfl).pJ e36 hh37 rfl).pI e40 hh129 rfl), (by unfold RInv; rw [e132, (pI_e hh129), e133, e134]; exact ⟨e135, p144, by omega, (Or.inl rfl)⟩)⟩ (by decide) (by decide) dX3_advance_404
        · have f145 : (0 : Int) ≤ v20 ∧ v20 ≤ (1499 : Int) := r_lt f23 f26 q44 (by decide) (by decide)
          have f146 : (1 : Int) ≤ v24 ∧ v24 ≤ (1500 : Int) := r_gt f26 f23 q44 (by decide) (by decide)
          refine g_aload_n C rfl 0 rfl dX3_advance_81 ?_
          obtain ⟨v147, e148⟩ : ∃ z, Rv h38 a0 0 = z := ⟨_, rfl⟩
          have t149 := ok_R O39 e40 rE_4_0 e148
          have l150 := ok_L O39 e40 rE_4_0 e148
          refine gf_R C fk_LandSurvey_Reader_9 rfl e40 e148 dX3_advance_82 ?_
          refine g_aload_n C rfl 0 rfl dX3_advance_85 ?_
          refine gf_I C fk_LandSurvey_Reader_30 rfl e40 e41 dX3_advance_86 ?_
          obtain ⟨v151, e152⟩ : ∃ z, Iv h38 v147 v20.toNat = z := ⟨_, rfl⟩
          have f153 := ok_Ia O39 t149 ar_19103 rI_19103_0 e152
          refine g_cald C t149 rfl l150 (ix f145 (by decide) (by decide)) e152 dX3_advance_89 ?_
          refine g_goto C 94 (by decide) dX3_advance_90 ?_
          refine g_istore_n C [(1, .inl v151), (0, .inr (.inr a0))] rfl (by decide) rfl dX3_advance_94 ?_
          refine g_aload_n C rfl 1 rfl dX3_advance_95 ?_
          refine gf_I C fk_LandSurvey_Reader_30 rfl e40 e41 dX3_advance_96 ?_
          refine g_aload_n C rfl 1 rfl dX3_advance_99 ?_
          refine gf_I C fk_LandSurvey_Reader_19 rfl e40 e42 dX3_advance_100 ?_
          refine g_icmp_lt C (iw f145 (by decide) (by decide)) (iw f146 (by decide) (by decide)) 114 (by decide) dX3_advance_103 (fun q154 => ?_) (fun q155 => ?_)
          · refine g_iload_n C rfl 0 rfl dX3_advance_114 ?_
            refine g_bipush C (by decide) dX3_advance_115 ?_
            refine g_icmp_lt C (iw f153 (by decide) (by decide)) (iw (il 97) (by decide) (by decide)) 255 (by decide) dX3_advance_117 (fun q156 => ?_) (fun q157 => ?_)
            · have f158 : (0 : Int) ≤ v151 ∧ v151 ≤ (96 : Int) := r_lt f153 (il 97) q156 (by decide) (by decide)
              refine g_iload_n C rfl 0 rfl dX3_advance_255 ?_
              refine g_bipush C (by decide) dX3_advance_256 ?_
              refine g_icmp_lt C (iw f158 (by decide) (by decide)) (iw (il 48) (by decide) (by decide)) 370 (by decide) dX3_advance_258 (fun q159 => ?_) (fun q160 => ?_)
              · have f161 : (0 : Int) ≤ v151 ∧ v151 ≤ (47 : Int) := r_lt f158 (il 48) q159 (by decide) (by decide)
                refine g_aload_n C rfl 1 rfl dX3_advance_370 ?_
                refine g_iload_n C rfl 0 rfl dX3_advance_371 ?_
                refine g_i2l C (iw f161 (by decide) (by decide)) dX3_advance_372 ?_
                refine gp_J C fk_LandSurvey_Reader_73 pk_LandSurvey_Reader_5 rfl e40 rfl (iw f161 (by decide) (by decide)) dX3_advance_373 (fun h163 hh162 => ?_)
                have O164 := O39.pJ hh162 (iw f161 (by decide) (by decide))
                refine g_aload_n C rfl 1 rfl dX3_advance_376 ?_
                refine g_ldcS C C.2.2.2.2.1.2 dX3_advance_377 ?_
                refine g_iload_n C rfl 0 rfl dX3_advance_379 ?_
                refine g_callI (st := [.inr (.inr a0)]) (gc_VS C lk_LandSurvey_Reader_89 rfl (k_J0_indexOf_0f7a4 l D cy w z0 O164 (iw f161 (by decide) (by decide))) rfl ⟨by decide, by decide⟩ (Nat.le_of_ble_eq_true rfl) dX3_advance_380 ⟨(by decide), (by decide)⟩) (fun r165 h166 f168 K167 => ?_)
                obtain ⟨O169, F170, f171⟩ := K167
                refine g_if_lt C f171 390 (by decide) dX3_advance_383 (fun q172 => ?_) (fun q173 => ?_)
                · have f174 : (-2147483648 : Int) ≤ r165 ∧ r165 ≤ (-1 : Int) := r_lt f171 (il 0) q172 (by decide) (by decide)
                  refine g_iconst C dX3_advance_390 ?_
                  have e175 : Tg h166 a0 = 4 := (fxT F170 ((pJT hh162).trans e40))
                  refine gp_I C fk_LandSurvey_Reader_49 pk_LandSurvey_Reader_4 rfl e175 (iw (il 4) (by decide) (by decide)) (nf_i _) dX3_advance_391 (fun h177 hh176 => ?_)
                  have O178 := O169.pI e175 hh176 rI_4_4 (iw (il 4) (by decide) (by decide)) nofun
                  refine g_aload_n C rfl 1 rfl dX3_advance_394 ?_
                  refine g_dup C rfl dX3_advance_395 ?_
                  have e179 : Tg h177 a0 = 4 := ((pIT hh176).trans e175)
                  have e180 : Tg h163 a0 = 4 := ((pJT hh162).trans e40)
                  have e181 : Iv h177 a0 2 = v20 := ((pI_j hh176 (by decide)).trans ((fxI F170 e180 rfl).trans ((pJI hh162).trans e41)))
                  refine gf_I C fk_LandSurvey_Reader_30 rfl e179 e181 dX3_advance_396 ?_
                  refine g_iconst C dX3_advance_399 ?_
                  have f182 : (1 : Int) ≤ (v20 + 1) ∧ (v20 + 1) ≤ (1500 : Int) := ia_add f145 (il 1) (by decide) (by decide)
                  refine g_iadd C dX3_advance_400 ?_
                  refine gp_I C fk_LandSurvey_Reader_30 pk_LandSurvey_Reader_2 rfl e179 (iw f182 (by decide) (by decide)) (nf_i _) dX3_advance_401 (fun h184 hh183 => ?_)
                  have O185 := O178.pI e179 hh183 rI_4_2 (iw f182 (by decide) (by decide)) nofun
                  have e186 : Rv h184 a0 13 = v1 := ((pIR hh183).trans ((pIR hh176).trans ((fxR F170 e180 rfl).trans ((pJR hh162).trans ((pJR hh37).trans ((pR_j hh33 (by decide)).trans ((pIR hh29).trans ((fxR F19 ta0 rfl).trans e2))))))))
                  have e187 : Iv h184 a0 4 = 4 := ((pI_j hh183 (by decide)).trans (pI_e hh176))
                  have e188 : Jv h184 a0 5 = v151 := ((pIJ hh183).trans ((pIJ hh176).trans ((fxJ F170 e180 rfl).trans (pJ_e hh162))))
                  have e189 : Rv h184 a0 6 = 0 := ((pIR hh183).trans ((pIR hh176).trans ((fxR F170 e180 rfl).trans ((pJR hh162).trans ((pJR hh37).trans (pR_e hh33))))))
                  have e190 : Tg h184 v1 = 2006 := ((pIT hh183).trans ((pIT hh176).trans (fxT F170 ((pJT hh162).trans ((pJT hh37).trans ((pRT hh33).trans ((pIT hh29).trans (fxT F19 t3))))))))
                  have e191 : Rv h14 a0 13 = v1 := ((fxR F19 ta0 rfl).trans e2)
                  have e192 : Tg h14 v1 = 2006 := (fxT F19 t3)
                  have e193 : Rv h30 a0 13 = v1 := ((pIR hh29).trans e191)
                  have e194 : Tg h30 v1 = 2006 := ((pIT hh29).trans e192)
                  have e195 : Rv h34 a0 13 = v1 := ((pR_j hh33 (by decide)).trans e193)
                  have e196 : Tg h34 v1 = 2006 := ((pRT hh33).trans e194)
                  have e197 : Rv h38 a0 13 = v1 := ((pJR hh37).trans e195)
                  have e198 : Tg h38 v1 = 2006 := ((pJT hh37).trans e196)
                  have e199 : Rv h163 a0 13 = v1 := ((pJR hh162).trans e197)
                  have e200 : Tg h163 v1 = 2006 := ((pJT hh162).trans e198)
                  have e201 : Rv h166 a0 13 = v1 := ((fxR F170 e180 rfl).trans e199)
                  have e202 : Tg h166 v1 = 2006 := (fxT F170 e200)
                  have e203 : Rv h177 a0 13 = v1 := ((pIR hh176).trans e201)
                  have e204 : Tg h177 v1 = 2006 := ((pIT hh176).trans e202)
                  have p205 := (DOk_fx O178 ((Fx.rf (wr := [802]) (h := h177)).pI e179 hh183 rfl) e179 (by rw [e203]; exact e204) rfl (DOk_fx O169 ((Fx.rf (wr := [804]) (h := h166)).pI e175 hh176 rfl) e175 (by rw [e201]; exact e202) rfl (DOk_fx O164 F170 e180 (by rw [e199]; exact e200) rfl (DOk_fx O39 ((Fx.rf (wr := [805]) (h := h38)).pJ e40 hh162 rfl) e40 (by rw [e197]; exact e198) rfl (DOk_fx O35 ((Fx.rf (wr := [805]) (h := h34)).pJ e36 hh37 rfl) e36 (by rw [e195]; exact e196) rfl (DOk_fx O31 ((Fx.rf (wr := [806]) (h := h30)).pR e32 hh33 rfl) e32 (by rw [e193]; exact e194) rfl (DOk_fx O18 ((Fx.rf (wr := [803]) (h := h14)).pI e22 hh29 rfl) e22 (by rw [e191]; exact e192) rfl (DOk_fx O F19 ta0 (by rw [e2]; exact t3) rfl P_RInv.2.1))))))))
                  exact g_vret C hr ⟨O185, (((((((((Fx.rf (wr := wr_k_X3_advance)).call F19 rfl).pI e22 hh29 rfl).pR e32 hh33 rfl).pJ e36 hh37 rfl).pJ e40 hh162 rfl).call F170 rfl).pI e175 hh176 rfl).pI e179 hh183 rfl), (by unfold RInv; rw [e186, e187, e188, e189]; exact ⟨e190, p205, by omega, (Or.inl rfl)⟩)⟩ (by decide) (by decide) dX3_advance_404
                · have f206 : (0 : Int) ≤ r165 ∧ r165 ≤ (2147483647 : Int) := r_ge f171 (il 0) q173 (by decide) (by decide)
                  refine g_iconst C dX3_advance_386 ?_
                  refine g_goto C 391 (by decide) dX3_advance_387 ?_
                  have e207 : Tg h166 a0 = 4 := (fxT F170 ((pJT hh162).trans e40))
                  refine gp_I C fk_LandSurvey_Reader_49 pk_LandSurvey_Reader_4 rfl e207 (iw (il 3) (by decide) (by decide)) (nf_i _) dX3_advance_391 (fun h209 hh208 => ?_)
                  have O210 := O169.pI e207 hh208 rI_4_4 (iw (il 3) (by decide) (by decide)) nofun
                  refine g_aload_n C rfl 1 rfl dX3_advance_394 ?_
                  refine g_dup C rfl dX3_advance_395 ?_
                  have e211 : Tg h209 a0 = 4 := ((pIT hh208).trans e207)
                  have e212 : Tg h163 a0 = 4 := ((pJT hh162).trans e40)
                  have e213 : Iv h209 a0 2 = v20 := ((pI_j hh208 (by decide)).trans ((fxI F170 e212 rfl).trans ((pJI hh162).trans e41)))
                  refine gf_I C fk_LandSurvey_Reader_30 rfl e211 e213 dX3_advance_396 ?_
                  refine g_iconst C dX3_advance_399 ?_
                  have f214 : (1 : Int) ≤ (v20 + 1) ∧ (v20 + 1) ≤ (1500 : Int) := ia_add f145 (il 1) (by decide) (by decide)
                  refine g_iadd C dX3_advance_400 ?_
                  refine gp_I C fk_LandSurvey_Reader_30 pk_LandSurvey_Reader_2 rfl e211 (iw f214 (by decide) (by decide)) (nf_i _) dX3_advance_401 (fun h216 hh215 => ?_)
                  have O217 := O210.pI e211 hh215 rI_4_2 (iw f214 (by decide) (by decide)) nofun
                  have e218 : Rv h216 a0 13 = v1 := ((pIR hh215).trans ((pIR hh208).trans ((fxR F170 e212 rfl).trans ((pJR hh162).trans ((pJR hh37).trans ((pR_j hh33 (by decide)).trans ((pIR hh29).trans ((fxR F19 ta0 rfl).trans e2))))))))
                  have e219 : Iv h216 a0 4 = 3 := ((pI_j hh215 (by decide)).trans (pI_e hh208))
                  have e220 : Jv h216 a0 5 = v151 := ((pIJ hh215).trans ((pIJ hh208).trans ((fxJ F170 e212 rfl).trans (pJ_e hh162))))
                  have e221 : Rv h216 a0 6 = 0 := ((pIR hh215).trans ((pIR hh208).trans ((fxR F170 e212 rfl).trans ((pJR hh162).trans ((pJR hh37).trans (pR_e hh33))))))
                  have e222 : Tg h216 v1 = 2006 := ((pIT hh215).trans ((pIT hh208).trans (fxT F170 ((pJT hh162).trans ((pJT hh37).trans ((pRT hh33).trans ((pIT hh29).trans (fxT F19 t3))))))))
                  have e223 : Rv h14 a0 13 = v1 := ((fxR F19 ta0 rfl).trans e2)
                  have e224 : Tg h14 v1 = 2006 := (fxT F19 t3)
                  have e225 : Rv h30 a0 13 = v1 := ((pIR hh29).trans e223)
                  have e226 : Tg h30 v1 = 2006 := ((pIT hh29).trans e224)
                  have e227 : Rv h34 a0 13 = v1 := ((pR_j hh33 (by decide)).trans e225)
                  have e228 : Tg h34 v1 = 2006 := ((pRT hh33).trans e226)
                  have e229 : Rv h38 a0 13 = v1 := ((pJR hh37).trans e227)
                  have e230 : Tg h38 v1 = 2006 := ((pJT hh37).trans e228)
                  have e231 : Rv h163 a0 13 = v1 := ((pJR hh162).trans e229)
                  have e232 : Tg h163 v1 = 2006 := ((pJT hh162).trans e230)
                  have e233 : Rv h166 a0 13 = v1 := ((fxR F170 e212 rfl).trans e231)
                  have e234 : Tg h166 v1 = 2006 := (fxT F170 e232)
                  have e235 : Rv h209 a0 13 = v1 := ((pIR hh208).trans e233)
                  have e236 : Tg h209 v1 = 2006 := ((pIT hh208).trans e234)
                  have p237 := (DOk_fx O210 ((Fx.rf (wr := [802]) (h := h209)).pI e211 hh215 rfl) e211 (by rw [e235]; exact e236) rfl (DOk_fx O169 ((Fx.rf (wr := [804]) (h := h166)).pI e207 hh208 rfl) e207 (by rw [e233]; exact e234) rfl (DOk_fx O164 F170 e212 (by rw [e231]; exact e232) rfl (DOk_fx O39 ((Fx.rf (wr := [805]) (h := h38)).pJ e40 hh162 rfl) e40 (by rw [e229]; exact e230) rfl (DOk_fx O35 ((Fx.rf (wr := [805]) (h := h34)).pJ e36 hh37 rfl) e36 (by rw [e227]; exact e228) rfl (DOk_fx O31 ((Fx.rf (wr := [806]) (h := h30)).pR e32 hh33 rfl) e32 (by rw [e225]; exact e226) rfl (DOk_fx O18 ((Fx.rf (wr := [803]) (h := h14)).pI e22 hh29 rfl) e22 (by rw [e223]; exact e224) rfl (DOk_fx O F19 ta0 (by rw [e2]; exact t3) rfl P_RInv.2.1))))))))
                  exact g_vret C hr ⟨O217, (((((((((Fx.rf (wr := wr_k_X3_advance)).call F19 rfl).pI e22 hh29 rfl).pR e32 hh33 rfl).pJ e36 hh37 rfl).pJ e40 hh162 rfl).call F170 rfl).pI e207 hh208 rfl).pI e211 hh215 rfl), (by unfold RInv; rw [e218, e219, e220, e221]; exact ⟨e222, p237, by omega, (Or.inl rfl)⟩)⟩ (by decide) (by decide) dX3_advance_404
              · have f238 : (48 : Int) ≤ v151 ∧ v151 ≤ (96 : Int) := r_ge f158 (il 48) q160 (by decide) (by decide)
                refine g_iload_n C rfl 0 rfl dX3_advance_261 ?_
                refine g_bipush C (by decide) dX3_advance_262 ?_
                refine g_icmp_gt C (iw f238 (by decide) (by decide)) (iw (il 57) (by decide) (by decide)) 370 (by decide) dX3_advance_264 (fun q239 => ?_) (fun q240 => ?_)
                · have f241 : (58 : Int) ≤ v151 ∧ v151 ≤ (96 : Int) := r_gt f238 (il 57) q239 (by decide) (by decide)
                  refine g_aload_n C rfl 1 rfl dX3_advance_370 ?_
                  refine g_iload_n C rfl 0 rfl dX3_advance_371 ?_
                  refine g_i2l C (iw f241 (by decide) (by decide)) dX3_advance_372 ?_
                  refine gp_J C fk_LandSurvey_Reader_73 pk_LandSurvey_Reader_5 rfl e40 rfl (iw f241 (by decide) (by decide)) dX3_advance_373 (fun h243 hh242 => ?_)
                  have O244 := O39.pJ hh242 (iw f241 (by decide) (by decide))
                  refine g_aload_n C rfl 1 rfl dX3_advance_376 ?_
                  refine g_ldcS C C.2.2.2.2.1.2 dX3_advance_377 ?_
                  refine g_iload_n C rfl 0 rfl dX3_advance_379 ?_
                  refine g_callI (st := [.inr (.inr a0)]) (gc_VS C lk_LandSurvey_Reader_89 rfl (k_J0_indexOf_0f7a4 l D cy w z0 O244 (iw f241 (by decide) (by decide))) rfl ⟨by decide, by decide⟩ (Nat.le_of_ble_eq_true rfl) dX3_advance_380 ⟨(by decide), (by decide)⟩) (fun r245 h246 f248 K247 => ?_)
                  obtain ⟨O249, F250, f251⟩ := K247
                  refine g_if_lt C f251 390 (by decide) dX3_advance_383 (fun q252 => ?_) (fun q253 => ?_)
                  · have f254 : (-2147483648 : Int) ≤ r245 ∧ r245 ≤ (-1 : Int) := r_lt f251 (il 0) q252 (by decide) (by decide)
                    refine g_iconst C dX3_advance_390 ?_
                    have e255 : Tg h246 a0 = 4 := (fxT F250 ((pJT hh242).trans e40))
                    refine gp_I C fk_LandSurvey_Reader_49 pk_LandSurvey_Reader_4 rfl e255 (iw (il 4) (by decide) (by decide)) (nf_i _) dX3_advance_391 (fun h257 hh256 => ?_)
                    have O258 := O249.pI e255 hh256 rI_4_4 (iw (il 4) (by decide) (by decide)) nofun
                    refine g_aload_n C rfl 1 rfl dX3_advance_394 ?_
                    refine g_dup C rfl dX3_advance_395 ?_
                    have e259 : Tg h257 a0 = 4 := ((pIT hh256).trans e255)
                    have e260 : Tg h243 a0 = 4 := ((pJT hh242).trans e40)
                    have e261 : Iv h257 a0 2 = v20 := ((pI_j hh256 (by decide)).trans ((fxI F250 e260 rfl).trans ((pJI hh242).trans e41)))
                    refine gf_I C fk_LandSurvey_Reader_30 rfl e259 e261 dX3_advance_396 ?_
                    refine g_iconst C dX3_advance_399 ?_
                    have f262 : (1 : Int) ≤ (v20 + 1) ∧ (v20 + 1) ≤ (1500 : Int) := ia_add f145 (il 1) (by decide) (by decide)
                    refine g_iadd C dX3_advance_400 ?_
                    refine gp_I C fk_LandSurvey_Reader_30 pk_LandSurvey_Reader_2 rfl e259 (iw f262 (by decide) (by decide)) (nf_i _) dX3_advance_401 (fun h264 hh263 => ?_)
                    have O265 := O258.pI e259 hh263 rI_4_2 (iw f262 (by decide) (by decide)) nofun
                    have e266 : Rv h264 a0 13 = v1 := ((pIR hh263).trans ((pIR hh256).trans ((fxR F250 e260 rfl).trans ((pJR hh242).trans ((pJR hh37).trans ((pR_j hh33 (by decide)).trans ((pIR hh29).trans ((fxR F19 ta0 rfl).trans e2))))))))
                    have e267 : Iv h264 a0 4 = 4 := ((pI_j hh263 (by decide)).trans (pI_e hh256))
                    have e268 : Jv h264 a0 5 = v151 := ((pIJ hh263).trans ((pIJ hh256).trans ((fxJ F250 e260 rfl).trans (pJ_e hh242))))
                    have e269 : Rv h264 a0 6 = 0 := ((pIR hh263).trans ((pIR hh256).trans ((fxR F250 e260 rfl).trans ((pJR hh242).trans ((pJR hh37).trans (pR_e hh33))))))
                    have e270 : Tg h264 v1 = 2006 := ((pIT hh263).trans ((pIT hh256).trans (fxT F250 ((pJT hh242).trans ((pJT hh37).trans ((pRT hh33).trans ((pIT hh29).trans (fxT F19 t3))))))))
                    have e271 : Rv h14 a0 13 = v1 := ((fxR F19 ta0 rfl).trans e2)
                    have e272 : Tg h14 v1 = 2006 := (fxT F19 t3)
                    have e273 : Rv h30 a0 13 = v1 := ((pIR hh29).trans e271)
                    have e274 : Tg h30 v1 = 2006 := ((pIT hh29).trans e272)
                    have e275 : Rv h34 a0 13 = v1 := ((pR_j hh33 (by decide)).trans e273)
                    have e276 : Tg h34 v1 = 2006 := ((pRT hh33).trans e274)
                    have e277 : Rv h38 a0 13 = v1 := ((pJR hh37).trans e275)
                    have e278 : Tg h38 v1 = 2006 := ((pJT hh37).trans e276)
                    have e279 : Rv h243 a0 13 = v1 := ((pJR hh242).trans e277)
                    have e280 : Tg h243 v1 = 2006 := ((pJT hh242).trans e278)
                    have e281 : Rv h246 a0 13 = v1 := ((fxR F250 e260 rfl).trans e279)
                    have e282 : Tg h246 v1 = 2006 := (fxT F250 e280)
                    have e283 : Rv h257 a0 13 = v1 := ((pIR hh256).trans e281)
                    have e284 : Tg h257 v1 = 2006 := ((pIT hh256).trans e282)
                    have p285 := (DOk_fx O258 ((Fx.rf (wr := [802]) (h := h257)).pI e259 hh263 rfl) e259 (by rw [e283]; exact e284) rfl (DOk_fx O249 ((Fx.rf (wr := [804]) (h := h246)).pI e255 hh256 rfl) e255 (by rw [e281]; exact e282) rfl (DOk_fx O244 F250 e260 (by rw [e279]; exact e280) rfl (DOk_fx O39 ((Fx.rf (wr := [805]) (h := h38)).pJ e40 hh242 rfl) e40 (by rw [e277]; exact e278) rfl (DOk_fx O35 ((Fx.rf (wr := [805]) (h := h34)).pJ e36 hh37 rfl) e36 (by rw [e275]; exact e276) rfl (DOk_fx O31 ((Fx.rf (wr := [806]) (h := h30)).pR e32 hh33 rfl) e32 (by rw [e273]; exact e274) rfl (DOk_fx O18 ((Fx.rf (wr := [803]) (h := h14)).pI e22 hh29 rfl) e22 (by rw [e271]; exact e272) rfl (DOk_fx O F19 ta0 (by rw [e2]; exact t3) rfl P_RInv.2.1))))))))
                    exact g_vret C hr ⟨O265, (((((((((Fx.rf (wr := wr_k_X3_advance)).call F19 rfl).pI e22 hh29 rfl).pR e32 hh33 rfl).pJ e36 hh37 rfl).pJ e40 hh242 rfl).call F250 rfl).pI e255 hh256 rfl).pI e259 hh263 rfl), (by unfold RInv; rw [e266, e267, e268, e269]; exact ⟨e270, p285, by omega, (Or.inl rfl)⟩)⟩ (by decide) (by decide) dX3_advance_404
                  · have f286 : (0 : Int) ≤ r245 ∧ r245 ≤ (2147483647 : Int) := r_ge f251 (il 0) q253 (by decide) (by decide)
                    refine g_iconst C dX3_advance_386 ?_
                    refine g_goto C 391 (by decide) dX3_advance_387 ?_
                    have e287 : Tg h246 a0 = 4 := (fxT F250 ((pJT hh242).trans e40))
                    refine gp_I C fk_LandSurvey_Reader_49 pk_LandSurvey_Reader_4 rfl e287 (iw (il 3) (by decide) (by decide)) (nf_i _) dX3_advance_391 (fun h289 hh288 => ?_)
                    have O290 := O249.pI e287 hh288 rI_4_4 (iw (il 3) (by decide) (by decide)) nofun
                    refine g_aload_n C rfl 1 rfl dX3_advance_394 ?_
                    refine g_dup C rfl dX3_advance_395 ?_
                    have e291 : Tg h289 a0 = 4 := ((pIT hh288).trans e287)
                    have e292 : Tg h243 a0 = 4 := ((pJT hh242).trans e40)
                    have e293 : Iv h289 a0 2 = v20 := ((pI_j hh288 (by decide)).trans ((fxI F250 e292 rfl).trans ((pJI hh242).trans e41)))
                    refine gf_I C fk_LandSurvey_Reader_30 rfl e291 e293 dX3_advance_396 ?_
                    refine g_iconst C dX3_advance_399 ?_
                    have f294 : (1 : Int) ≤ (v20 + 1) ∧ (v20 + 1) ≤ (1500 : Int) := ia_add f145 (il 1) (by decide) (by decide)
                    refine g_iadd C dX3_advance_400 ?_
                    refine gp_I C fk_LandSurvey_Reader_30 pk_LandSurvey_Reader_2 rfl e291 (iw f294 (by decide) (by decide)) (nf_i _) dX3_advance_401 (fun h296 hh295 => ?_)
                    have O297 := O290.pI e291 hh295 rI_4_2 (iw f294 (by decide) (by decide)) nofun
                    have e298 : Rv h296 a0 13 = v1 := ((pIR hh295).trans ((pIR hh288).trans ((fxR F250 e292 rfl).trans ((pJR hh242).trans ((pJR hh37).trans ((pR_j hh33 (by decide)).trans ((pIR hh29).trans ((fxR F19 ta0 rfl).trans e2))))))))
                    have e299 : Iv h296 a0 4 = 3 := ((pI_j hh295 (by decide)).trans (pI_e hh288))
                    have e300 : Jv h296 a0 5 = v151 := ((pIJ hh295).trans ((pIJ hh288).trans ((fxJ F250 e292 rfl).trans (pJ_e hh242))))
                    have e301 : Rv h296 a0 6 = 0 := ((pIR hh295).trans ((pIR hh288).trans ((fxR F250 e292 rfl).trans ((pJR hh242).trans ((pJR hh37).trans (pR_e hh33))))))
                    have e302 : Tg h296 v1 = 2006 := ((pIT hh295).trans ((pIT hh288).trans (fxT F250 ((pJT hh242).trans ((pJT hh37).trans ((pRT hh33).trans ((pIT hh29).trans (fxT F19 t3))))))))
                    have e303 : Rv h14 a0 13 = v1 := ((fxR F19 ta0 rfl).trans e2)
                    have e304 : Tg h14 v1 = 2006 := (fxT F19 t3)
                    have e305 : Rv h30 a0 13 = v1 := ((pIR hh29).trans e303)
                    have e306 : Tg h30 v1 = 2006 := ((pIT hh29).trans e304)
                    have e307 : Rv h34 a0 13 = v1 := ((pR_j hh33 (by decide)).trans e305)
                    have e308 : Tg h34 v1 = 2006 := ((pRT hh33).trans e306)
                    have e309 : Rv h38 a0 13 = v1 := ((pJR hh37).trans e307)
                    have e310 : Tg h38 v1 = 2006 := ((pJT hh37).trans e308)
                    have e311 : Rv h243 a0 13 = v1 := ((pJR hh242).trans e309)
                    have e312 : Tg h243 v1 = 2006 := ((pJT hh242).trans e310)
                    have e313 : Rv h246 a0 13 = v1 := ((fxR F250 e292 rfl).trans e311)
                    have e314 : Tg h246 v1 = 2006 := (fxT F250 e312)
                    have e315 : Rv h289 a0 13 = v1 := ((pIR hh288).trans e313)
                    have e316 : Tg h289 v1 = 2006 := ((pIT hh288).trans e314)
                    have p317 := (DOk_fx O290 ((Fx.rf (wr := [802]) (h := h289)).pI e291 hh295 rfl) e291 (by rw [e315]; exact e316) rfl (DOk_fx O249 ((Fx.rf (wr := [804]) (h := h246)).pI e287 hh288 rfl) e287 (by rw [e313]; exact e314) rfl (DOk_fx O244 F250 e292 (by rw [e311]; exact e312) rfl (DOk_fx O39 ((Fx.rf (wr := [805]) (h := h38)).pJ e40 hh242 rfl) e40 (by rw [e309]; exact e310) rfl (DOk_fx O35 ((Fx.rf (wr := [805]) (h := h34)).pJ e36 hh37 rfl) e36 (by rw [e307]; exact e308) rfl (DOk_fx O31 ((Fx.rf (wr := [806]) (h := h30)).pR e32 hh33 rfl) e32 (by rw [e305]; exact e306) rfl (DOk_fx O18 ((Fx.rf (wr := [803]) (h := h14)).pI e22 hh29 rfl) e22 (by rw [e303]; exact e304) rfl (DOk_fx O F19 ta0 (by rw [e2]; exact t3) rfl P_RInv.2.1))))))))
                    exact g_vret C hr ⟨O297, (((((((((Fx.rf (wr := wr_k_X3_advance)).call F19 rfl).pI e22 hh29 rfl).pR e32 hh33 rfl).pJ e36 hh37 rfl).pJ e40 hh242 rfl).call F250 rfl).pI e287 hh288 rfl).pI e291 hh295 rfl), (by unfold RInv; rw [e298, e299, e300, e301]; exact ⟨e302, p317, by omega, (Or.inl rfl)⟩)⟩ (by decide) (by decide) dX3_advance_404
                · have f318 : (48 : Int) ≤ v151 ∧ v151 ≤ (57 : Int) := r_le f238 (il 57) q240 (by decide) (by decide)
                  refine GW.sub [1, 0] rfl ?_
                  -- loop at 267
                  have L320 : ∀ (μ : Nat) (h319 : Hp), (1500 - Iv h319 a0 2).toNat = μ → Okh h319 → Fx [802, 805] h38 h319 → (0 ≤ (Iv h319 a0 2 - Iv h319 a0 3) ∧ ((Iv h319 a0 2 - Iv h319 a0 3) ≤ 4 → 0 ≤ Jv h319 a0 5) ∧ ((Iv h319 a0 2 - Iv h319 a0 3) ≤ 0 → Jv h319 a0 5 ≤ 0) ∧ ((Iv h319 a0 2 - Iv h319 a0 3) ≤ 1 → Jv h319 a0 5 ≤ 9) ∧ ((Iv h319 a0 2 - Iv h319 a0 3) ≤ 2 → Jv h319 a0 5 ≤ 99) ∧ ((Iv h319 a0 2 - Iv h319 a0 3) ≤ 3 → Jv h319 a0 5 ≤ 999) ∧ ((Iv h319 a0 2 - Iv h319 a0 3) ≤ 4 → Jv h319 a0 5 ≤ 9999)) → GW p l e (rmm 4 91 0 0) s m (List.map toV [.inr (.inr a0)]).toArray below meth c D cy z0 2 (MQ below (QV D cy z0 (fun h1 => Okh h1 ∧ Fx wr_k_X3_advance h h1 ∧ (RInv w h1 a0))) (List.map toV [.inr (.inr a0)]).toArray s 0 0 (Aof z0)) 267 [(0, .inr (.inr a0)), (1, .inl v151)] [] h319 0 0 := by
                    intro μ
                    induction μ using Nat.strongRecOn with
                    | ind μ ih321 =>
                      intro h319 hm322 O323 F324 p325
                      obtain ⟨v326, e327⟩ : ∃ z, Iv h319 a0 2 = z := ⟨_, rfl⟩
                      have e328 : Tg h319 a0 = 4 := (fxT F324 e40)
                      have f329 := ok_I O323 e328 rI_4_2 e327
                      obtain ⟨v330, e331⟩ : ∃ z, Jv h319 a0 5 = z := ⟨_, rfl⟩
                      have f332 := inL_J O323 e331
                      have e333 : Iv h319 a0 3 = v20 := ((fxI F324 e40 rfl).trans ((pJI hh37).trans ((pRI hh33).trans (pI_e hh29))))
                      rw [e327, e333, e331] at p325
                      refine g_aload_n C rfl 0 rfl dX3_advance_267 ?_
                      refine gf_I C fk_LandSurvey_Reader_30 rfl e328 e327 dX3_advance_268 ?_
                      refine g_aload_n C rfl 0 rfl dX3_advance_271 ?_
                      have e334 : Iv h319 a0 1 = v24 := ((fxI F324 e40 rfl).trans e42)
                      refine gf_I C fk_LandSurvey_Reader_19 rfl e328 e334 dX3_advance_272 ?_
                      refine g_icmp_ge C (iw f329 (by decide) (by decide)) (iw f146 (by decide) (by decide)) 345 (by decide) dX3_advance_275 (fun q335 => ?_) (fun q336 => ?_)
                      · have f337 : (1 : Int) ≤ v326 ∧ v326 ≤ (1500 : Int) := r_ge f329 f146 q335 (by decide) (by decide)
                        refine g_aload_n C rfl 0 rfl dX3_advance_345 ?_
                        refine g_aload_n C rfl 0 rfl dX3_advance_346 ?_
                        refine gf_I C fk_LandSurvey_Reader_30 rfl e328 e327 dX3_advance_347 ?_
                        refine g_aload_n C rfl 0 rfl dX3_advance_350 ?_
                        refine gf_I C fk_LandSurvey_Reader_66 rfl e328 e333 dX3_advance_351 ?_
                        have f338 : (-1498 : Int) ≤ (v326 - v20) ∧ (v326 - v20) ≤ (1500 : Int) := ia_sub f337 f145 (by decide) (by decide)
                        refine g_isub C dX3_advance_354 ?_
                        refine g_iconst C dX3_advance_355 ?_
                        refine g_icmp_gt C (iw f338 (by decide) (by decide)) (iw (il 4) (by decide) (by decide)) 363 (by decide) dX3_advance_356 (fun q339 => ?_) (fun q340 => ?_)
                        · have f341 : (5 : Int) ≤ (v326 - v20) ∧ (v326 - v20) ≤ (1500 : Int) := r_gt f338 (il 4) q339 (by decide) (by decide)
                          refine g_iconst C dX3_advance_363 ?_
                          refine gp_I C fk_LandSurvey_Reader_49 pk_LandSurvey_Reader_4 rfl e328 (iw (il 4) (by decide) (by decide)) (nf_i _) dX3_advance_364 (fun h343 hh342 => ?_)
                          have O344 := O323.pI e328 hh342 rI_4_4 (iw (il 4) (by decide) (by decide)) nofun
                          refine g_goto C 404 (by decide) dX3_advance_367 ?_
                          have e345 : Rv h343 a0 13 = v1 := ((pIR hh342).trans ((fxR F324 e40 rfl).trans ((pJR hh37).trans ((pR_j hh33 (by decide)).trans ((pIR hh29).trans ((fxR F19 ta0 rfl).trans e2))))))
                          have e346 : Jv h343 a0 5 = v330 := ((pIJ hh342).trans e331)
                          have e347 : Rv h343 a0 6 = 0 := ((pIR hh342).trans ((fxR F324 e40 rfl).trans ((pJR hh37).trans (pR_e hh33))))
                          have e348 : Tg h343 v1 = 2006 := ((pIT hh342).trans (fxT F324 ((pJT hh37).trans ((pRT hh33).trans ((pIT hh29).trans (fxT F19 t3))))))
                          have e349 : Rv h14 a0 13 = v1 := ((fxR F19 ta0 rfl).trans e2)
                          have e350 : Tg h14 v1 = 2006 := (fxT F19 t3)
                          have e351 : Rv h30 a0 13 = v1 := ((pIR hh29).trans e349)
                          have e352 : Tg h30 v1 = 2006 := ((pIT hh29).trans e350)
                          have e353 : Rv h34 a0 13 = v1 := ((pR_j hh33 (by decide)).trans e351)
                          have e354 : Tg h34 v1 = 2006 := ((pRT hh33).trans e352)
                          have e355 : Rv h38 a0 13 = v1 := ((pJR hh37).trans e353)
                          have e356 : Tg h38 v1 = 2006 := ((pJT hh37).trans e354)
                          have e357 : Rv h319 a0 13 = v1 := ((fxR F324 e40 rfl).trans e355)
                          have e358 : Tg h319 v1 = 2006 := (fxT F324 e356)
                          have p359 := (DOk_fx O323 ((Fx.rf (wr := [804]) (h := h319)).pI e328 hh342 rfl) e328 (by rw [e357]; exact e358) rfl (DOk_fx O39 F324 e40 (by rw [e355]; exact e356) rfl (DOk_fx O35 ((Fx.rf (wr := [805]) (h := h34)).pJ e36 hh37 rfl) e36 (by rw [e353]; exact e354) rfl (DOk_fx O31 ((Fx.rf (wr := [806]) (h := h30)).pR e32 hh33 rfl) e32 (by rw [e351]; exact e352) rfl (DOk_fx O18 ((Fx.rf (wr := [803]) (h := h14)).pI e22 hh29 rfl) e22 (by rw [e349]; exact e350) rfl (DOk_fx O F19 ta0 (by rw [e2]; exact t3) rfl P_RInv.2.1))))))
                          exact g_vret C hr ⟨O344, (((((((Fx.rf (wr := wr_k_X3_advance)).call F19 rfl).pI e22 hh29 rfl).pR e32 hh33 rfl).pJ e36 hh37 rfl).call F324 rfl).pI e328 hh342 rfl), (by unfold RInv; rw [e345, (pI_e hh342), e346, e347]; exact ⟨e348, p359, by omega, (Or.inl rfl)⟩)⟩ (by decide) (by decide) dX3_advance_404
                        · have f360 : (-1498 : Int) ≤ (v326 - v20) ∧ (v326 - v20) ≤ (4 : Int) := r_le f338 (il 4) q340 (by decide) (by decide)
                          refine g_iconst C dX3_advance_359 ?_
                          refine g_goto C 364 (by decide) dX3_advance_360 ?_
                          refine gp_I C fk_LandSurvey_Reader_49 pk_LandSurvey_Reader_4 rfl e328 (iw (il 2) (by decide) (by decide)) (nf_i _) dX3_advance_364 (fun h362 hh361 => ?_)
                          have O363 := O323.pI e328 hh361 rI_4_4 (iw (il 2) (by decide) (by decide)) nofun
                          refine g_goto C 404 (by decide) dX3_advance_367 ?_
                          have e364 : Rv h362 a0 13 = v1 := ((pIR hh361).trans ((fxR F324 e40 rfl).trans ((pJR hh37).trans ((pR_j hh33 (by decide)).trans ((pIR hh29).trans ((fxR F19 ta0 rfl).trans e2))))))
                          have e365 : Jv h362 a0 5 = v330 := ((pIJ hh361).trans e331)
                          have e366 : Rv h362 a0 6 = 0 := ((pIR hh361).trans ((fxR F324 e40 rfl).trans ((pJR hh37).trans (pR_e hh33))))
                          have e367 : Tg h362 v1 = 2006 := ((pIT hh361).trans (fxT F324 ((pJT hh37).trans ((pRT hh33).trans ((pIT hh29).trans (fxT F19 t3))))))
                          have e368 : Rv h14 a0 13 = v1 := ((fxR F19 ta0 rfl).trans e2)
                          have e369 : Tg h14 v1 = 2006 := (fxT F19 t3)
                          have e370 : Rv h30 a0 13 = v1 := ((pIR hh29).trans e368)
                          have e371 : Tg h30 v1 = 2006 := ((pIT hh29).trans e369)
                          have e372 : Rv h34 a0 13 = v1 := ((pR_j hh33 (by decide)).trans e370)
                          have e373 : Tg h34 v1 = 2006 := ((pRT hh33).trans e371)
                          have e374 : Rv h38 a0 13 = v1 := ((pJR hh37).trans e372)
                          have e375 : Tg h38 v1 = 2006 := ((pJT hh37).trans e373)
                          have e376 : Rv h319 a0 13 = v1 := ((fxR F324 e40 rfl).trans e374)
                          have e377 : Tg h319 v1 = 2006 := (fxT F324 e375)
                          have p378 := (DOk_fx O323 ((Fx.rf (wr := [804]) (h := h319)).pI e328 hh361 rfl) e328 (by rw [e376]; exact e377) rfl (DOk_fx O39 F324 e40 (by rw [e374]; exact e375) rfl (DOk_fx O35 ((Fx.rf (wr := [805]) (h := h34)).pJ e36 hh37 rfl) e36 (by rw [e372]; exact e373) rfl (DOk_fx O31 ((Fx.rf (wr := [806]) (h := h30)).pR e32 hh33 rfl) e32 (by rw [e370]; exact e371) rfl (DOk_fx O18 ((Fx.rf (wr := [803]) (h := h14)).pI e22 hh29 rfl) e22 (by rw [e368]; exact e369) rfl (DOk_fx O F19 ta0 (by rw [e2]; exact t3) rfl P_RInv.2.1))))))
                          exact g_vret C hr ⟨O363, (((((((Fx.rf (wr := wr_k_X3_advance)).call F19 rfl).pI e22 hh29 rfl).pR e32 hh33 rfl).pJ e36 hh37 rfl).call F324 rfl).pI e328 hh361 rfl), (by unfold RInv; rw [e364, (pI_e hh361), e365, e366]; exact ⟨e367, p378, by omega, (Or.inl rfl)⟩)⟩ (by decide) (by decide) dX3_advance_404
                      · have f379 : (0 : Int) ≤ v326 ∧ v326 ≤ (1499 : Int) := r_lt f329 f146 q336 (by decide) (by decide)
                        refine g_aload_n C rfl 0 rfl dX3_advance_278 ?_
                        have e380 : Rv h319 a0 0 = v147 := ((fxR F324 e40 rfl).trans e148)
                        refine gf_R C fk_LandSurvey_Reader_9 rfl e328 e380 dX3_advance_279 ?_
                        refine g_aload_n C rfl 0 rfl dX3_advance_282 ?_
                        refine gf_I C fk_LandSurvey_Reader_30 rfl e328 e327 dX3_advance_283 ?_
                        have e381 : Tg h319 v147 = 19103 := (fxT F324 t149)
                        have e382 : Ln h319 v147 = 1500 := ((fxL F324 t149).trans l150)
                        obtain ⟨v383, e384⟩ : ∃ z, Iv h319 v147 v326.toNat = z := ⟨_, rfl⟩
                        have f385 := ok_Ia O323 e381 ar_19103 rI_19103_0 e384
                        refine g_cald C e381 rfl e382 (ix f379 (by decide) (by decide)) e384 dX3_advance_286 ?_
                        refine g_bipush C (by decide) dX3_advance_287 ?_
                        refine g_icmp_lt C (iw f385 (by decide) (by decide)) (iw (il 48) (by decide) (by decide)) 345 (by decide) dX3_advance_289 (fun q386 => ?_) (fun q387 => ?_)
                        · have f388 : (0 : Int) ≤ v383 ∧ v383 ≤ (47 : Int) := r_lt f385 (il 48) q386 (by decide) (by decide)
                          refine g_aload_n C rfl 0 rfl dX3_advance_345 ?_
                          refine g_aload_n C rfl 0 rfl dX3_advance_346 ?_
                          refine gf_I C fk_LandSurvey_Reader_30 rfl e328 e327 dX3_advance_347 ?_
                          refine g_aload_n C rfl 0 rfl dX3_advance_350 ?_
                          refine gf_I C fk_LandSurvey_Reader_66 rfl e328 e333 dX3_advance_351 ?_
                          have f389 : (-1499 : Int) ≤ (v326 - v20) ∧ (v326 - v20) ≤ (1499 : Int) := ia_sub f379 f145 (by decide) (by decide)
                          refine g_isub C dX3_advance_354 ?_
                          refine g_iconst C dX3_advance_355 ?_
                          refine g_icmp_gt C (iw f389 (by decide) (by decide)) (iw (il 4) (by decide) (by decide)) 363 (by decide) dX3_advance_356 (fun q390 => ?_) (fun q391 => ?_)
                          · have f392 : (5 : Int) ≤ (v326 - v20) ∧ (v326 - v20) ≤ (1499 : Int) := r_gt f389 (il 4) q390 (by decide) (by decide)
                            refine g_iconst C dX3_advance_363 ?_
                            refine gp_I C fk_LandSurvey_Reader_49 pk_LandSurvey_Reader_4 rfl e328 (iw (il 4) (by decide) (by decide)) (nf_i _) dX3_advance_364 (fun h394 hh393 => ?_)
                            have O395 := O323.pI e328 hh393 rI_4_4 (iw (il 4) (by decide) (by decide)) nofun
                            refine g_goto C 404 (by decide) dX3_advance_367 ?_
                            have e396 : Rv h394 a0 13 = v1 := ((pIR hh393).trans ((fxR F324 e40 rfl).trans ((pJR hh37).trans ((pR_j hh33 (by decide)).trans ((pIR hh29).trans ((fxR F19 ta0 rfl).trans e2))))))
                            have e397 : Jv h394 a0 5 = v330 := ((pIJ hh393).trans e331)
                            have e398 : Rv h394 a0 6 = 0 := ((pIR hh393).trans ((fxR F324 e40 rfl).trans ((pJR hh37).trans (pR_e hh33))))
                            have e399 : Tg h394 v1 = 2006 := ((pIT hh393).trans (fxT F324 ((pJT hh37).trans ((pRT hh33).trans ((pIT hh29).trans (fxT F19 t3))))))
                            have e400 : Rv h14 a0 13 = v1 := ((fxR F19 ta0 rfl).trans e2)
                            have e401 : Tg h14 v1 = 2006 := (fxT F19 t3)
                            have e402 : Rv h30 a0 13 = v1 := ((pIR hh29).trans e400)
                            have e403 : Tg h30 v1 = 2006 := ((pIT hh29).trans e401)
                            have e404 : Rv h34 a0 13 = v1 := ((pR_j hh33 (by decide)).trans e402)
                            have e405 : Tg h34 v1 = 2006 := ((pRT hh33).trans e403)
                            have e406 : Rv h38 a0 13 = v1 := ((pJR hh37).trans e404)
                            have e407 : Tg h38 v1 = 2006 := ((pJT hh37).trans e405)
                            have e408 : Rv h319 a0 13 = v1 := ((fxR F324 e40 rfl).trans e406)
                            have e409 : Tg h319 v1 = 2006 := (fxT F324 e407)
                            have p410 := (DOk_fx O323 ((Fx.rf (wr := [804]) (h := h319)).pI e328 hh393 rfl) e328 (by rw [e408]; exact e409) rfl (DOk_fx O39 F324 e40 (by rw [e406]; exact e407) rfl (DOk_fx O35 ((Fx.rf (wr := [805]) (h := h34)).pJ e36 hh37 rfl) e36 (by rw [e404]; exact e405) rfl (DOk_fx O31 ((Fx.rf (wr := [806]) (h := h30)).pR e32 hh33 rfl) e32 (by rw [e402]; exact e403) rfl (DOk_fx O18 ((Fx.rf (wr := [803]) (h := h14)).pI e22 hh29 rfl) e22 (by rw [e400]; exact e401) rfl (DOk_fx O F19 ta0 (by rw [e2]; exact t3) rfl P_RInv.2.1))))))
                            exact g_vret C hr ⟨O395, (((((((Fx.rf (wr := wr_k_X3_advance)).call F19 rfl).pI e22 hh29 rfl).pR e32 hh33 rfl).pJ e36 hh37 rfl).call F324 rfl).pI e328 hh393 rfl), (by unfold RInv; rw [e396, (pI_e hh393), e397, e398]; exact ⟨e399, p410, by omega, (Or.inl rfl)⟩)⟩ (by decide) (by decide) dX3_advance_404
                          · have f411 : (-1499 : Int) ≤ (v326 - v20) ∧ (v326 - v20) ≤ (4 : Int) := r_le f389 (il 4) q391 (by decide) (by decide)
                            refine g_iconst C dX3_advance_359 ?_
                            refine g_goto C 364 (by decide) dX3_advance_360 ?_
                            refine gp_I C fk_LandSurvey_Reader_49 pk_LandSurvey_Reader_4 rfl e328 (iw (il 2) (by decide) (by decide)) (nf_i _) dX3_advance_364 (fun h413 hh412 => ?_)
                            have O414 := O323.pI e328 hh412 rI_4_4 (iw (il 2) (by decide) (by decide)) nofun
                            refine g_goto C 404 (by decide) dX3_advance_367 ?_
                            have e415 : Rv h413 a0 13 = v1 := ((pIR hh412).trans ((fxR F324 e40 rfl).trans ((pJR hh37).trans ((pR_j hh33 (by decide)).trans ((pIR hh29).trans ((fxR F19 ta0 rfl).trans e2))))))
                            have e416 : Jv h413 a0 5 = v330 := ((pIJ hh412).trans e331)
                            have e417 : Rv h413 a0 6 = 0 := ((pIR hh412).trans ((fxR F324 e40 rfl).trans ((pJR hh37).trans (pR_e hh33))))
                            have e418 : Tg h413 v1 = 2006 := ((pIT hh412).trans (fxT F324 ((pJT hh37).trans ((pRT hh33).trans ((pIT hh29).trans (fxT F19 t3))))))
                            have e419 : Rv h14 a0 13 = v1 := ((fxR F19 ta0 rfl).trans e2)
                            have e420 : Tg h14 v1 = 2006 := (fxT F19 t3)
                            have e421 : Rv h30 a0 13 = v1 := ((pIR hh29).trans e419)
                            have e422 : Tg h30 v1 = 2006 := ((pIT hh29).trans e420)
                            have e423 : Rv h34 a0 13 = v1 := ((pR_j hh33 (by decide)).trans e421)
                            have e424 : Tg h34 v1 = 2006 := ((pRT hh33).trans e422)
                            have e425 : Rv h38 a0 13 = v1 := ((pJR hh37).trans e423)
                            have e426 : Tg h38 v1 = 2006 := ((pJT hh37).trans e424)
                            have e427 : Rv h319 a0 13 = v1 := ((fxR F324 e40 rfl).trans e425)
                            have e428 : Tg h319 v1 = 2006 := (fxT F324 e426)
                            have p429 := (DOk_fx O323 ((Fx.rf (wr := [804]) (h := h319)).pI e328 hh412 rfl) e328 (by rw [e427]; exact e428) rfl (DOk_fx O39 F324 e40 (by rw [e425]; exact e426) rfl (DOk_fx O35 ((Fx.rf (wr := [805]) (h := h34)).pJ e36 hh37 rfl) e36 (by rw [e423]; exact e424) rfl (DOk_fx O31 ((Fx.rf (wr := [806]) (h := h30)).pR e32 hh33 rfl) e32 (by rw [e421]; exact e422) rfl (DOk_fx O18 ((Fx.rf (wr := [803]) (h := h14)).pI e22 hh29 rfl) e22 (by rw [e419]; exact e420) rfl (DOk_fx O F19 ta0 (by rw [e2]; exact t3) rfl P_RInv.2.1))))))
                            exact g_vret C hr ⟨O414, (((((((Fx.rf (wr := wr_k_X3_advance)).call F19 rfl).pI e22 hh29 rfl).pR e32 hh33 rfl).pJ e36 hh37 rfl).call F324 rfl).pI e328 hh412 rfl), (by unfold RInv; rw [e415, (pI_e hh412), e416, e417]; exact ⟨e418, p429, by omega, (Or.inl rfl)⟩)⟩ (by decide) (by decide) dX3_advance_404
                        · have f430 : (48 : Int) ≤ v383 ∧ v383 ≤ (126 : Int) := r_ge f385 (il 48) q387 (by decide) (by decide)
                          refine g_aload_n C rfl 0 rfl dX3_advance_292 ?_
                          refine gf_R C fk_LandSurvey_Reader_9 rfl e328 e380 dX3_advance_293 ?_
                          refine g_aload_n C rfl 0 rfl dX3_advance_296 ?_
                          refine gf_I C fk_LandSurvey_Reader_30 rfl e328 e327 dX3_advance_297 ?_
                          refine g_cald C e381 rfl e382 (ix f379 (by decide) (by decide)) e384 dX3_advance_300 ?_
                          refine g_bipush C (by decide) dX3_advance_301 ?_
                          refine g_icmp_gt C (iw f430 (by decide) (by decide)) (iw (il 57) (by decide) (by decide)) 345 (by decide) dX3_advance_303 (fun q431 => ?_) (fun q432 => ?_)
                          · have f433 : (58 : Int) ≤ v383 ∧ v383 ≤ (126 : Int) := r_gt f430 (il 57) q431 (by decide) (by decide)
                            refine g_aload_n C rfl 0 rfl dX3_advance_345 ?_
                            refine g_aload_n C rfl 0 rfl dX3_advance_346 ?_
                            refine gf_I C fk_LandSurvey_Reader_30 rfl e328 e327 dX3_advance_347 ?_
                            refine g_aload_n C rfl 0 rfl dX3_advance_350 ?_
                            refine gf_I C fk_LandSurvey_Reader_66 rfl e328 e333 dX3_advance_351 ?_
                            have f434 : (-1499 : Int) ≤ (v326 - v20) ∧ (v326 - v20) ≤ (1499 : Int) := ia_sub f379 f145 (by decide) (by decide)
                            refine g_isub C dX3_advance_354 ?_
                            refine g_iconst C dX3_advance_355 ?_
                            refine g_icmp_gt C (iw f434 (by decide) (by decide)) (iw (il 4) (by decide) (by decide)) 363 (by decide) dX3_advance_356 (fun q435 => ?_) (fun q436 => ?_)
                            · have f437 : (5 : Int) ≤ (v326 - v20) ∧ (v326 - v20) ≤ (1499 : Int) := r_gt f434 (il 4) q435 (by decide) (by decide)
                              refine g_iconst C dX3_advance_363 ?_
                              refine gp_I C fk_LandSurvey_Reader_49 pk_LandSurvey_Reader_4 rfl e328 (iw (il 4) (by decide) (by decide)) (nf_i _) dX3_advance_364 (fun h439 hh438 => ?_)
                              have O440 := O323.pI e328 hh438 rI_4_4 (iw (il 4) (by decide) (by decide)) nofun
                              refine g_goto C 404 (by decide) dX3_advance_367 ?_
                              have e441 : Rv h439 a0 13 = v1 := ((pIR hh438).trans ((fxR F324 e40 rfl).trans ((pJR hh37).trans ((pR_j hh33 (by decide)).trans ((pIR hh29).trans ((fxR F19 ta0 rfl).trans e2))))))
                              have e442 : Jv h439 a0 5 = v330 := ((pIJ hh438).trans e331)
                              have e443 : Rv h439 a0 6 = 0 := ((pIR hh438).trans ((fxR F324 e40 rfl).trans ((pJR hh37).trans (pR_e hh33))))
                              have e444 : Tg h439 v1 = 2006 := ((pIT hh438).trans (fxT F324 ((pJT hh37).trans ((pRT hh33).trans ((pIT hh29).trans (fxT F19 t3))))))
                              have e445 : Rv h14 a0 13 = v1 := ((fxR F19 ta0 rfl).trans e2)
                              have e446 : Tg h14 v1 = 2006 := (fxT F19 t3)
                              have e447 : Rv h30 a0 13 = v1 := ((pIR hh29).trans e445)
                              have e448 : Tg h30 v1 = 2006 := ((pIT hh29).trans e446)
                              have e449 : Rv h34 a0 13 = v1 := ((pR_j hh33 (by decide)).trans e447)
                              have e450 : Tg h34 v1 = 2006 := ((pRT hh33).trans e448)
                              have e451 : Rv h38 a0 13 = v1 := ((pJR hh37).trans e449)
                              have e452 : Tg h38 v1 = 2006 := ((pJT hh37).trans e450)
                              have e453 : Rv h319 a0 13 = v1 := ((fxR F324 e40 rfl).trans e451)
                              have e454 : Tg h319 v1 = 2006 := (fxT F324 e452)
                              have p455 := (DOk_fx O323 ((Fx.rf (wr := [804]) (h := h319)).pI e328 hh438 rfl) e328 (by rw [e453]; exact e454) rfl (DOk_fx O39 F324 e40 (by rw [e451]; exact e452) rfl (DOk_fx O35 ((Fx.rf (wr := [805]) (h := h34)).pJ e36 hh37 rfl) e36 (by rw [e449]; exact e450) rfl (DOk_fx O31 ((Fx.rf (wr := [806]) (h := h30)).pR e32 hh33 rfl) e32 (by rw [e447]; exact e448) rfl (DOk_fx O18 ((Fx.rf (wr := [803]) (h := h14)).pI e22 hh29 rfl) e22 (by rw [e445]; exact e446) rfl (DOk_fx O F19 ta0 (by rw [e2]; exact t3) rfl P_RInv.2.1))))))
                              exact g_vret C hr ⟨O440, (((((((Fx.rf (wr := wr_k_X3_advance)).call F19 rfl).pI e22 hh29 rfl).pR e32 hh33 rfl).pJ e36 hh37 rfl).call F324 rfl).pI e328 hh438 rfl), (by unfold RInv; rw [e441, (pI_e hh438), e442, e443]; exact ⟨e444, p455, by omega, (Or.inl rfl)⟩)⟩ (by decide) (by decide) dX3_advance_404
                            · have f456 : (-1499 : Int) ≤ (v326 - v20) ∧ (v326 - v20) ≤ (4 : Int) := r_le f434 (il 4) q436 (by decide) (by decide)
                              refine g_iconst C dX3_advance_359 ?_
                              refine g_goto C 364 (by decide) dX3_advance_360 ?_
                              refine gp_I C fk_LandSurvey_Reader_49 pk_LandSurvey_Reader_4 rfl e328 (iw (il 2) (by decide) (by decide)) (nf_i _) dX3_advance_364 (fun h458 hh457 => ?_)
                              have O459 := O323.pI e328 hh457 rI_4_4 (iw (il 2) (by decide) (by decide)) nofun
                              refine g_goto C 404 (by decide) dX3_advance_367 ?_
                              have e460 : Rv h458 a0 13 = v1 := ((pIR hh457).trans ((fxR F324 e40 rfl).trans ((pJR hh37).trans ((pR_j hh33 (by decide)).trans ((pIR hh29).trans ((fxR F19 ta0 rfl).trans e2))))))
                              have e461 : Jv h458 a0 5 = v330 := ((pIJ hh457).trans e331)
                              have e462 : Rv h458 a0 6 = 0 := ((pIR hh457).trans ((fxR F324 e40 rfl).trans ((pJR hh37).trans (pR_e hh33))))
                              have e463 : Tg h458 v1 = 2006 := ((pIT hh457).trans (fxT F324 ((pJT hh37).trans ((pRT hh33).trans ((pIT hh29).trans (fxT F19 t3))))))
                              have e464 : Rv h14 a0 13 = v1 := ((fxR F19 ta0 rfl).trans e2)
                              have e465 : Tg h14 v1 = 2006 := (fxT F19 t3)
                              have e466 : Rv h30 a0 13 = v1 := ((pIR hh29).trans e464)
                              have e467 : Tg h30 v1 = 2006 := ((pIT hh29).trans e465)
                              have e468 : Rv h34 a0 13 = v1 := ((pR_j hh33 (by decide)).trans e466)
                              have e469 : Tg h34 v1 = 2006 := ((pRT hh33).trans e467)
                              have e470 : Rv h38 a0 13 = v1 := ((pJR hh37).trans e468)
                              have e471 : Tg h38 v1 = 2006 := ((pJT hh37).trans e469)
                              have e472 : Rv h319 a0 13 = v1 := ((fxR F324 e40 rfl).trans e470)
                              have e473 : Tg h319 v1 = 2006 := (fxT F324 e471)
                              have p474 := (DOk_fx O323 ((Fx.rf (wr := [804]) (h := h319)).pI e328 hh457 rfl) e328 (by rw [e472]; exact e473) rfl (DOk_fx O39 F324 e40 (by rw [e470]; exact e471) rfl (DOk_fx O35 ((Fx.rf (wr := [805]) (h := h34)).pJ e36 hh37 rfl) e36 (by rw [e468]; exact e469) rfl (DOk_fx O31 ((Fx.rf (wr := [806]) (h := h30)).pR e32 hh33 rfl) e32 (by rw [e466]; exact e467) rfl (DOk_fx O18 ((Fx.rf (wr := [803]) (h := h14)).pI e22 hh29 rfl) e22 (by rw [e464]; exact e465) rfl (DOk_fx O F19 ta0 (by rw [e2]; exact t3) rfl P_RInv.2.1))))))
                              exact g_vret C hr ⟨O459, (((((((Fx.rf (wr := wr_k_X3_advance)).call F19 rfl).pI e22 hh29 rfl).pR e32 hh33 rfl).pJ e36 hh37 rfl).call F324 rfl).pI e328 hh457 rfl), (by unfold RInv; rw [e460, (pI_e hh457), e461, e462]; exact ⟨e463, p474, by omega, (Or.inl rfl)⟩)⟩ (by decide) (by decide) dX3_advance_404
                          · have f475 : (48 : Int) ≤ v383 ∧ v383 ≤ (57 : Int) := r_le f430 (il 57) q432 (by decide) (by decide)
                            refine g_aload_n C rfl 0 rfl dX3_advance_306 ?_
                            refine g_ldc2 (z := 10) C kw_683 (by decide) dX3_advance_307 ?_
                            refine g_aload_n C rfl 0 rfl dX3_advance_310 ?_
                            refine gf_J C fk_LandSurvey_Reader_73 rfl e328 e331 dX3_advance_311 ?_
                            refine g_lmul C dX3_advance_314 ?_
                            have f476 : (-9223372036854775808 : Int) ≤ (lM 10 v330) ∧ (lM 10 v330) ≤ (9223372036854775807 : Int) := inL_of _
                            refine g_aload_n C rfl 0 rfl dX3_advance_315 ?_
                            refine gf_R C fk_LandSurvey_Reader_9 rfl e328 e380 dX3_advance_316 ?_
                            refine g_aload_n C rfl 0 rfl dX3_advance_319 ?_
                            refine gf_I C fk_LandSurvey_Reader_30 rfl e328 e327 dX3_advance_320 ?_
                            refine g_cald C e381 rfl e382 (ix f379 (by decide) (by decide)) e384 dX3_advance_323 ?_
                            refine g_bipush C (by decide) dX3_advance_324 ?_
                            have f477 : (0 : Int) ≤ (v383 - 48) ∧ (v383 - 48) ≤ (9 : Int) := ia_sub f475 (il 48) (by decide) (by decide)
                            refine g_isub C dX3_advance_326 ?_
                            refine g_i2l C (iw f477 (by decide) (by decide)) dX3_advance_327 ?_
                            refine g_ladd C dX3_advance_328 ?_
                            have f478 : (-9223372036854775808 : Int) ≤ (lA (lM 10 v330) (v383 - 48)) ∧ (lA (lM 10 v330) (v383 - 48)) ≤ (9223372036854775807 : Int) := inL_of _
                            refine gp_J C fk_LandSurvey_Reader_73 pk_LandSurvey_Reader_5 rfl e328 rfl f478 dX3_advance_329 (fun h480 hh479 => ?_)
                            have O481 := O323.pJ hh479 f478
                            refine g_aload_n C rfl 0 rfl dX3_advance_332 ?_
                            refine g_dup C rfl dX3_advance_333 ?_
                            have e482 : Tg h480 a0 = 4 := ((pJT hh479).trans e328)
                            have e483 : Iv h480 a0 2 = v326 := ((pJI hh479).trans e327)
                            refine gf_I C fk_LandSurvey_Reader_30 rfl e482 e483 dX3_advance_334 ?_
                            refine g_iconst C dX3_advance_337 ?_
                            have f484 : (1 : Int) ≤ (v326 + 1) ∧ (v326 + 1) ≤ (1500 : Int) := ia_add f379 (il 1) (by decide) (by decide)
                            refine g_iadd C dX3_advance_338 ?_
                            refine gp_I C fk_LandSurvey_Reader_30 pk_LandSurvey_Reader_2 rfl e482 (iw f484 (by decide) (by decide)) (nf_i _) dX3_advance_339 (fun h486 hh485 => ?_)
                            have O487 := O481.pI e482 hh485 rI_4_2 (iw f484 (by decide) (by decide)) nofun
                            refine g_goto C 267 (by decide) dX3_advance_342 ?_
                            refine GW.sub [0, 1] rfl ?_
                            have e488 : Iv h486 a0 2 = (v326 + 1) := (pI_e hh485)
                            have e489 : Iv h486 a0 3 = v20 := ((pI_j hh485 (by decide)).trans ((pJI hh479).trans e333))
                            have e490 : Jv h486 a0 5 = (lA (lM 10 v330) (v383 - 48)) := ((pIJ hh485).trans (pJ_e hh479))
                            have q491 := fun z : 0 ≤ v330 ∧ v330 ≤ 999999 => la_dig z (x := (v383 - 48)) (by omega)
                            exact ih321 _ (by omega) h486 rfl O487 ((F324.pJ e328 hh479 rfl).pI e482 hh485 rfl) (by rw [e488, e489, e490]; omega)
                  have e492 : Iv h38 a0 3 = v20 := ((pJI hh37).trans ((pRI hh33).trans (pI_e hh29)))
                  have e493 : Jv h38 a0 5 = 0 := (pJ_e hh37)
                  exact L320 _ h38 rfl O39 Fx.rf (by rw [e41, e492, e493]; omega)
            · have f494 : (97 : Int) ≤ v151 ∧ v151 ≤ (126 : Int) := r_ge f153 (il 97) q157 (by decide) (by decide)
              refine g_iload_n C rfl 0 rfl dX3_advance_120 ?_
              refine g_bipush C (by decide) dX3_advance_121 ?_
              refine g_icmp_gt C (iw f494 (by decide) (by decide)) (iw (il 122) (by decide) (by decide)) 255 (by decide) dX3_advance_123 (fun q495 => ?_) (fun q496 => ?_)
              · have f497 : (123 : Int) ≤ v151 ∧ v151 ≤ (126 : Int) := r_gt f494 (il 122) q495 (by decide) (by decide)
                refine g_iload_n C rfl 0 rfl dX3_advance_255 ?_
                refine g_bipush C (by decide) dX3_advance_256 ?_
                refine g_icmp_lt C (iw f497 (by decide) (by decide)) (iw (il 48) (by decide) (by decide)) 370 (by decide) dX3_advance_258 (fun q498 => ?_) (fun q499 => ?_)
                · exact (no_lt f497 (il 48) q498 (by decide)).elim
                · refine g_iload_n C rfl 0 rfl dX3_advance_261 ?_
                  refine g_bipush C (by decide) dX3_advance_262 ?_
                  refine g_icmp_gt C (iw f497 (by decide) (by decide)) (iw (il 57) (by decide) (by decide)) 370 (by decide) dX3_advance_264 (fun q500 => ?_) (fun q501 => ?_)
                  · refine g_aload_n C rfl 1 rfl dX3_advance_370 ?_
                    refine g_iload_n C rfl 0 rfl dX3_advance_371 ?_
                    refine g_i2l C (iw f497 (by decide) (by decide)) dX3_advance_372 ?_
                    refine gp_J C fk_LandSurvey_Reader_73 pk_LandSurvey_Reader_5 rfl e40 rfl (iw f497 (by decide) (by decide)) dX3_advance_373 (fun h503 hh502 => ?_)
                    have O504 := O39.pJ hh502 (iw f497 (by decide) (by decide))
                    refine g_aload_n C rfl 1 rfl dX3_advance_376 ?_
                    refine g_ldcS C C.2.2.2.2.1.2 dX3_advance_377 ?_
                    refine g_iload_n C rfl 0 rfl dX3_advance_379 ?_
                    refine g_callI (st := [.inr (.inr a0)]) (gc_VS C lk_LandSurvey_Reader_89 rfl (k_J0_indexOf_0f7a4 l D cy w z0 O504 (iw f497 (by decide) (by decide))) rfl ⟨by decide, by decide⟩ (Nat.le_of_ble_eq_true rfl) dX3_advance_380 ⟨(by decide), (by decide)⟩) (fun r505 h506 f508 K507 => ?_)
                    obtain ⟨O509, F510, f511⟩ := K507
                    refine g_if_lt C f511 390 (by decide) dX3_advance_383 (fun q512 => ?_) (fun q513 => ?_)
                    · have f514 : (-2147483648 : Int) ≤ r505 ∧ r505 ≤ (-1 : Int) := r_lt f511 (il 0) q512 (by decide) (by decide)
                      refine g_iconst C dX3_advance_390 ?_
                      have e515 : Tg h506 a0 = 4 := (fxT F510 ((pJT hh502).trans e40))
                      refine gp_I C fk_LandSurvey_Reader_49 pk_LandSurvey_Reader_4 rfl e515 (iw (il 4) (by decide) (by decide)) (nf_i _) dX3_advance_391 (fun h517 hh516 => ?_)
                      have O518 := O509.pI e515 hh516 rI_4_4 (iw (il 4) (by decide) (by decide)) nofun
                      refine g_aload_n C rfl 1 rfl dX3_advance_394 ?_
                      refine g_dup C rfl dX3_advance_395 ?_
                      have e519 : Tg h517 a0 = 4 := ((pIT hh516).trans e515)
                      have e520 : Tg h503 a0 = 4 := ((pJT hh502).trans e40)
                      have e521 : Iv h517 a0 2 = v20 := ((pI_j hh516 (by decide)).trans ((fxI F510 e520 rfl).trans ((pJI hh502).trans e41)))
                      refine gf_I C fk_LandSurvey_Reader_30 rfl e519 e521 dX3_advance_396 ?_
                      refine g_iconst C dX3_advance_399 ?_
                      have f522 : (1 : Int) ≤ (v20 + 1) ∧ (v20 + 1) ≤ (1500 : Int) := ia_add f145 (il 1) (by decide) (by decide)
                      refine g_iadd C dX3_advance_400 ?_
                      refine gp_I C fk_LandSurvey_Reader_30 pk_LandSurvey_Reader_2 rfl e519 (iw f522 (by decide) (by decide)) (nf_i _) dX3_advance_401 (fun h524 hh523 => ?_)
                      have O525 := O518.pI e519 hh523 rI_4_2 (iw f522 (by decide) (by decide)) nofun
                      have e526 : Rv h524 a0 13 = v1 := ((pIR hh523).trans ((pIR hh516).trans ((fxR F510 e520 rfl).trans ((pJR hh502).trans ((pJR hh37).trans ((pR_j hh33 (by decide)).trans ((pIR hh29).trans ((fxR F19 ta0 rfl).trans e2))))))))
                      have e527 : Iv h524 a0 4 = 4 := ((pI_j hh523 (by decide)).trans (pI_e hh516))
                      have e528 : Jv h524 a0 5 = v151 := ((pIJ hh523).trans ((pIJ hh516).trans ((fxJ F510 e520 rfl).trans (pJ_e hh502))))
                      have e529 : Rv h524 a0 6 = 0 := ((pIR hh523).trans ((pIR hh516).trans ((fxR F510 e520 rfl).trans ((pJR hh502).trans ((pJR hh37).trans (pR_e hh33))))))
                      have e530 : Tg h524 v1 = 2006 := ((pIT hh523).trans ((pIT hh516).trans (fxT F510 ((pJT hh502).trans ((pJT hh37).trans ((pRT hh33).trans ((pIT hh29).trans (fxT F19 t3))))))))
                      have e531 : Rv h14 a0 13 = v1 := ((fxR F19 ta0 rfl).trans e2)
                      have e532 : Tg h14 v1 = 2006 := (fxT F19 t3)
                      have e533 : Rv h30 a0 13 = v1 := ((pIR hh29).trans e531)
                      have e534 : Tg h30 v1 = 2006 := ((pIT hh29).trans e532)
                      have e535 : Rv h34 a0 13 = v1 := ((pR_j hh33 (by decide)).trans e533)
                      have e536 : Tg h34 v1 = 2006 := ((pRT hh33).trans e534)
                      have e537 : Rv h38 a0 13 = v1 := ((pJR hh37).trans e535)
                      have e538 : Tg h38 v1 = 2006 := ((pJT hh37).trans e536)
                      have e539 : Rv h503 a0 13 = v1 := ((pJR hh502).trans e537)
                      have e540 : Tg h503 v1 = 2006 := ((pJT hh502).trans e538)
                      have e541 : Rv h506 a0 13 = v1 := ((fxR F510 e520 rfl).trans e539)
                      have e542 : Tg h506 v1 = 2006 := (fxT F510 e540)
                      have e543 : Rv h517 a0 13 = v1 := ((pIR hh516).trans e541)
                      have e544 : Tg h517 v1 = 2006 := ((pIT hh516).trans e542)
                      have p545 := (DOk_fx O518 ((Fx.rf (wr := [802]) (h := h517)).pI e519 hh523 rfl) e519 (by rw [e543]; exact e544) rfl (DOk_fx O509 ((Fx.rf (wr := [804]) (h := h506)).pI e515 hh516 rfl) e515 (by rw [e541]; exact e542) rfl (DOk_fx O504 F510 e520 (by rw [e539]; exact e540) rfl (DOk_fx O39 ((Fx.rf (wr := [805]) (h := h38)).pJ e40 hh502 rfl) e40 (by rw [e537]; exact e538) rfl (DOk_fx O35 ((Fx.rf (wr := [805]) (h := h34)).pJ e36 hh37 rfl) e36 (by rw [e535]; exact e536) rfl (DOk_fx O31 ((Fx.rf (wr := [806]) (h := h30)).pR e32 hh33 rfl) e32 (by rw [e533]; exact e534) rfl (DOk_fx O18 ((Fx.rf (wr := [803]) (h := h14)).pI e22 hh29 rfl) e22 (by rw [e531]; exact e532) rfl (DOk_fx O F19 ta0 (by rw [e2]; exact t3) rfl P_RInv.2.1))))))))
                      exact g_vret C hr ⟨O525, (((((((((Fx.rf (wr := wr_k_X3_advance)).call F19 rfl).pI e22 hh29 rfl).pR e32 hh33 rfl).pJ e36 hh37 rfl).pJ e40 hh502 rfl).call F510 rfl).pI e515 hh516 rfl).pI e519 hh523 rfl), (by unfold RInv; rw [e526, e527, e528, e529]; exact ⟨e530, p545, by omega, (Or.inl rfl)⟩)⟩ (by decide) (by decide) dX3_advance_404
                    · have f546 : (0 : Int) ≤ r505 ∧ r505 ≤ (2147483647 : Int) := r_ge f511 (il 0) q513 (by decide) (by decide)
                      refine g_iconst C dX3_advance_386 ?_
                      refine g_goto C 391 (by decide) dX3_advance_387 ?_
                      have e547 : Tg h506 a0 = 4 := (fxT F510 ((pJT hh502).trans e40))
                      refine gp_I C fk_LandSurvey_Reader_49 pk_LandSurvey_Reader_4 rfl e547 (iw (il 3) (by decide) (by decide)) (nf_i _) dX3_advance_391 (fun h549 hh548 => ?_)
                      have O550 := O509.pI e547 hh548 rI_4_4 (iw (il 3) (by decide) (by decide)) nofun
                      refine g_aload_n C rfl 1 rfl dX3_advance_394 ?_
                      refine g_dup C rfl dX3_advance_395 ?_
                      have e551 : Tg h549 a0 = 4 := ((pIT hh548).trans e547)
                      have e552 : Tg h503 a0 = 4 := ((pJT hh502).trans e40)
                      have e553 : Iv h549 a0 2 = v20 := ((pI_j hh548 (by decide)).trans ((fxI F510 e552 rfl).trans ((pJI hh502).trans e41)))
                      refine gf_I C fk_LandSurvey_Reader_30 rfl e551 e553 dX3_advance_396 ?_
                      refine g_iconst C dX3_advance_399 ?_
                      have f554 : (1 : Int) ≤ (v20 + 1) ∧ (v20 + 1) ≤ (1500 : Int) := ia_add f145 (il 1) (by decide) (by decide)
                      refine g_iadd C dX3_advance_400 ?_
                      refine gp_I C fk_LandSurvey_Reader_30 pk_LandSurvey_Reader_2 rfl e551 (iw f554 (by decide) (by decide)) (nf_i _) dX3_advance_401 (fun h556 hh555 => ?_)
                      have O557 := O550.pI e551 hh555 rI_4_2 (iw f554 (by decide) (by decide)) nofun
                      have e558 : Rv h556 a0 13 = v1 := ((pIR hh555).trans ((pIR hh548).trans ((fxR F510 e552 rfl).trans ((pJR hh502).trans ((pJR hh37).trans ((pR_j hh33 (by decide)).trans ((pIR hh29).trans ((fxR F19 ta0 rfl).trans e2))))))))
                      have e559 : Iv h556 a0 4 = 3 := ((pI_j hh555 (by decide)).trans (pI_e hh548))
                      have e560 : Jv h556 a0 5 = v151 := ((pIJ hh555).trans ((pIJ hh548).trans ((fxJ F510 e552 rfl).trans (pJ_e hh502))))
                      have e561 : Rv h556 a0 6 = 0 := ((pIR hh555).trans ((pIR hh548).trans ((fxR F510 e552 rfl).trans ((pJR hh502).trans ((pJR hh37).trans (pR_e hh33))))))
                      have e562 : Tg h556 v1 = 2006 := ((pIT hh555).trans ((pIT hh548).trans (fxT F510 ((pJT hh502).trans ((pJT hh37).trans ((pRT hh33).trans ((pIT hh29).trans (fxT F19 t3))))))))
                      have e563 : Rv h14 a0 13 = v1 := ((fxR F19 ta0 rfl).trans e2)
                      have e564 : Tg h14 v1 = 2006 := (fxT F19 t3)
                      have e565 : Rv h30 a0 13 = v1 := ((pIR hh29).trans e563)
                      have e566 : Tg h30 v1 = 2006 := ((pIT hh29).trans e564)
                      have e567 : Rv h34 a0 13 = v1 := ((pR_j hh33 (by decide)).trans e565)
                      have e568 : Tg h34 v1 = 2006 := ((pRT hh33).trans e566)
                      have e569 : Rv h38 a0 13 = v1 := ((pJR hh37).trans e567)
                      have e570 : Tg h38 v1 = 2006 := ((pJT hh37).trans e568)
                      have e571 : Rv h503 a0 13 = v1 := ((pJR hh502).trans e569)
                      have e572 : Tg h503 v1 = 2006 := ((pJT hh502).trans e570)
                      have e573 : Rv h506 a0 13 = v1 := ((fxR F510 e552 rfl).trans e571)
                      have e574 : Tg h506 v1 = 2006 := (fxT F510 e572)
                      have e575 : Rv h549 a0 13 = v1 := ((pIR hh548).trans e573)
                      have e576 : Tg h549 v1 = 2006 := ((pIT hh548).trans e574)
                      have p577 := (DOk_fx O550 ((Fx.rf (wr := [802]) (h := h549)).pI e551 hh555 rfl) e551 (by rw [e575]; exact e576) rfl (DOk_fx O509 ((Fx.rf (wr := [804]) (h := h506)).pI e547 hh548 rfl) e547 (by rw [e573]; exact e574) rfl (DOk_fx O504 F510 e552 (by rw [e571]; exact e572) rfl (DOk_fx O39 ((Fx.rf (wr := [805]) (h := h38)).pJ e40 hh502 rfl) e40 (by rw [e569]; exact e570) rfl (DOk_fx O35 ((Fx.rf (wr := [805]) (h := h34)).pJ e36 hh37 rfl) e36 (by rw [e567]; exact e568) rfl (DOk_fx O31 ((Fx.rf (wr := [806]) (h := h30)).pR e32 hh33 rfl) e32 (by rw [e565]; exact e566) rfl (DOk_fx O18 ((Fx.rf (wr := [803]) (h := h14)).pI e22 hh29 rfl) e22 (by rw [e563]; exact e564) rfl (DOk_fx O F19 ta0 (by rw [e2]; exact t3) rfl P_RInv.2.1))))))))
                      exact g_vret C hr ⟨O557, (((((((((Fx.rf (wr := wr_k_X3_advance)).call F19 rfl).pI e22 hh29 rfl).pR e32 hh33 rfl).pJ e36 hh37 rfl).pJ e40 hh502 rfl).call F510 rfl).pI e547 hh548 rfl).pI e551 hh555 rfl), (by unfold RInv; rw [e558, e559, e560, e561]; exact ⟨e562, p577, by omega, (Or.inl rfl)⟩)⟩ (by decide) (by decide) dX3_advance_404
                  · exact (no_le f497 (il 57) q501 (by decide)).elim
              · have f578 : (97 : Int) ≤ v151 ∧ v151 ≤ (122 : Int) := r_le f494 (il 122) q496 (by decide) (by decide)
                refine GW.sub [1, 0] rfl ?_
                -- loop at 126
                have L580 : ∀ (μ : Nat) (h579 : Hp), (1500 - Iv h579 a0 2).toNat = μ → Okh h579 → Fx [802, 805] h38 h579 → GW p l e (rmm 4 91 0 0) s m (List.map toV [.inr (.inr a0)]).toArray below meth c D cy z0 2 (MQ below (QV D cy z0 (fun h1 => Okh h1 ∧ Fx wr_k_X3_advance h h1 ∧ (RInv w h1 a0))) (List.map toV [.inr (.inr a0)]).toArray s 0 0 (Aof z0)) 126 [(0, .inr (.inr a0)), (1, .inl v151)] [] h579 0 0 := by
                  intro μ
                  induction μ using Nat.strongRecOn with
                  | ind μ ih581 =>
                    intro h579 hm582 O583 F584
                    obtain ⟨v585, e586⟩ : ∃ z, Iv h579 a0 2 = z := ⟨_, rfl⟩
                    have e587 : Tg h579 a0 = 4 := (fxT F584 e40)
                    have f588 := ok_I O583 e587 rI_4_2 e586
                    refine g_aload_n C rfl 0 rfl dX3_advance_126 ?_
                    refine gf_I C fk_LandSurvey_Reader_30 rfl e587 e586 dX3_advance_127 ?_
                    refine g_aload_n C rfl 0 rfl dX3_advance_130 ?_
                    have e589 : Iv h579 a0 1 = v24 := ((fxI F584 e40 rfl).trans e42)
                    refine gf_I C fk_LandSurvey_Reader_19 rfl e587 e589 dX3_advance_131 ?_
                    refine g_icmp_ge C (iw f588 (by decide) (by decide)) (iw f146 (by decide) (by decide)) 206 (by decide) dX3_advance_134 (fun q590 => ?_) (fun q591 => ?_)
                    · have f592 : (1 : Int) ≤ v585 ∧ v585 ≤ (1500 : Int) := r_ge f588 f146 q590 (by decide) (by decide)
                      refine g_aload_n C rfl 0 rfl dX3_advance_206 ?_
                      refine g_aload_n C rfl 0 rfl dX3_advance_207 ?_
                      refine gf_I C fk_LandSurvey_Reader_30 rfl e587 e586 dX3_advance_208 ?_
                      refine g_aload_n C rfl 0 rfl dX3_advance_211 ?_
                      have e593 : Iv h579 a0 3 = v20 := ((fxI F584 e40 rfl).trans ((pJI hh37).trans ((pRI hh33).trans (pI_e hh29))))
                      refine gf_I C fk_LandSurvey_Reader_66 rfl e587 e593 dX3_advance_212 ?_
                      have f594 : (-1498 : Int) ≤ (v585 - v20) ∧ (v585 - v20) ≤ (1500 : Int) := ia_sub f592 f145 (by decide) (by decide)
                      refine g_isub C dX3_advance_215 ?_
                      refine g_bipush C (by decide) dX3_advance_216 ?_
                      refine g_icmp_gt C (iw f594 (by decide) (by decide)) (iw (il 8) (by decide) (by decide)) 225 (by decide) dX3_advance_218 (fun q595 => ?_) (fun q596 => ?_)
                      · have f597 : (9 : Int) ≤ (v585 - v20) ∧ (v585 - v20) ≤ (1500 : Int) := r_gt f594 (il 8) q595 (by decide) (by decide)
                        refine g_iconst C dX3_advance_225 ?_
                        refine gp_I C fk_LandSurvey_Reader_49 pk_LandSurvey_Reader_4 rfl e587 (iw (il 4) (by decide) (by decide)) (nf_i _) dX3_advance_226 (fun h599 hh598 => ?_)
                        have O600 := O583.pI e587 hh598 rI_4_4 (iw (il 4) (by decide) (by decide)) nofun
                        refine g_aload_n C rfl 0 rfl dX3_advance_229 ?_
                        refine g_aload_n C rfl 0 rfl dX3_advance_230 ?_
                        have e601 : Tg h599 a0 = 4 := ((pIT hh598).trans e587)
                        refine gf_I C fk_LandSurvey_Reader_49 rfl e601 (pI_e hh598) dX3_advance_231 ?_
                        refine g_iconst C dX3_advance_234 ?_
                        refine g_icmp_ne C (iw (il 4) (by decide) (by decide)) (iw (il 1) (by decide) (by decide)) 248 (by decide) dX3_advance_235 (fun q602 => ?_) (fun q603 => ?_)
                        · refine g_null C dX3_advance_248 ?_
                          refine gp_R C fk_LandSurvey_Reader_69 pk_LandSurvey_Reader_6 rfl e601 (nf_o _ _) dX3_advance_249 (fun h605 hh604 => ?_)
                          have O606 := O600.pR e601 hh604 (okR_f rE_4_6)
                          refine g_goto C 404 (by decide) dX3_advance_252 ?_
                          have e607 : Rv h605 a0 13 = v1 := ((pR_j hh604 (by decide)).trans ((pIR hh598).trans ((fxR F584 e40 rfl).trans ((pJR hh37).trans ((pR_j hh33 (by decide)).trans ((pIR hh29).trans ((fxR F19 ta0 rfl).trans e2)))))))
                          have e608 : Iv h605 a0 4 = 4 := ((pRI hh604).trans (pI_e hh598))
                          obtain ⟨v609, e610⟩ : ∃ z, Jv h605 a0 5 = z := ⟨_, rfl⟩
                          have e611 : Tg h605 a0 = 4 := ((pRT hh604).trans e601)
                          have f612 := inL_J O606 e610
                          have e613 : Tg h605 v1 = 2006 := ((pRT hh604).trans ((pIT hh598).trans (fxT F584 ((pJT hh37).trans ((pRT hh33).trans ((pIT hh29).trans (fxT F19 t3)))))))
                          have e614 : Rv h14 a0 13 = v1 := ((fxR F19 ta0 rfl).trans e2)
                          have e615 : Tg h14 v1 = 2006 := (fxT F19 t3)
                          have e616 : Rv h30 a0 13 = v1 := ((pIR hh29).trans e614)
                          have e617 : Tg h30 v1 = 2006 := ((pIT hh29).trans e615)
                          have e618 : Rv h34 a0 13 = v1 := ((pR_j hh33 (by decide)).trans e616)
                          have e619 : Tg h34 v1 = 2006 := ((pRT hh33).trans e617)
                          have e620 : Rv h38 a0 13 = v1 := ((pJR hh37).trans e618)
                          have e621 : Tg h38 v1 = 2006 := ((pJT hh37).trans e619)
                          have e622 : Rv h579 a0 13 = v1 := ((fxR F584 e40 rfl).trans e620)
                          have e623 : Tg h579 v1 = 2006 := (fxT F584 e621)
                          have e624 : Rv h599 a0 13 = v1 := ((pIR hh598).trans e622)
                          have e625 : Tg h599 v1 = 2006 := ((pIT hh598).trans e623)
                          have p626 := (DOk_fx O600 ((Fx.rf (wr := [806]) (h := h599)).pR e601 hh604 rfl) e601 (by rw [e624]; exact e625) rfl (DOk_fx O583 ((Fx.rf (wr := [804]) (h := h579)).pI e587 hh598 rfl) e587 (by rw [e622]; exact e623) rfl (DOk_fx O39 F584 e40 (by rw [e620]; exact e621) rfl (DOk_fx O35 ((Fx.rf (wr := [805]) (h := h34)).pJ e36 hh37 rfl) e36 (by rw [e618]; exact e619) rfl (DOk_fx O31 ((Fx.rf (wr := [806]) (h := h30)).pR e32 hh33 rfl) e32 (by rw [e616]; exact e617) rfl (DOk_fx O18 ((Fx.rf (wr := [803]) (h := h14)).pI e22 hh29 rfl) e22 (by rw [e614]; exact e615) rfl (DOk_fx O F19 ta0 (by rw [e2]; exact t3) rfl P_RInv.2.1)))))))
                          exact g_vret C hr ⟨O606, ((((((((Fx.rf (wr := wr_k_X3_advance)).call F19 rfl).pI e22 hh29 rfl).pR e32 hh33 rfl).pJ e36 hh37 rfl).call F584 rfl).pI e587 hh598 rfl).pR e601 hh604 rfl), (by unfold RInv; rw [e607, e608, e610, (pR_e hh604)]; exact ⟨e613, p626, by omega, (Or.inl rfl)⟩)⟩ (by decide) (by decide) dX3_advance_404
                        · exact (no_eq (il 4) (il 1) q603 (by decide)).elim
                      · have f627 : (-1498 : Int) ≤ (v585 - v20) ∧ (v585 - v20) ≤ (8 : Int) := r_le f594 (il 8) q596 (by decide) (by decide)
                        refine g_iconst C dX3_advance_221 ?_
                        refine g_goto C 226 (by decide) dX3_advance_222 ?_
                        refine gp_I C fk_LandSurvey_Reader_49 pk_LandSurvey_Reader_4 rfl e587 (iw (il 1) (by decide) (by decide)) (nf_i _) dX3_advance_226 (fun h629 hh628 => ?_)
                        have O630 := O583.pI e587 hh628 rI_4_4 (iw (il 1) (by decide) (by decide)) nofun
                        refine g_aload_n C rfl 0 rfl dX3_advance_229 ?_
                        refine g_aload_n C rfl 0 rfl dX3_advance_230 ?_
                        have e631 : Tg h629 a0 = 4 := ((pIT hh628).trans e587)
                        refine gf_I C fk_LandSurvey_Reader_49 rfl e631 (pI_e hh628) dX3_advance_231 ?_
                        refine g_iconst C dX3_advance_234 ?_
                        refine g_icmp_ne C (iw (il 1) (by decide) (by decide)) (iw (il 1) (by decide) (by decide)) 248 (by decide) dX3_advance_235 (fun q632 => ?_) (fun q633 => ?_)
                        · exact (no_ne (il 1) (il 1) q632 (by decide)).elim
                        · refine g_aload_n C rfl 0 rfl dX3_advance_238 ?_
                          obtain ⟨v634, e635⟩ : ∃ z, Jv h629 a0 5 = z := ⟨_, rfl⟩
                          have f636 := inL_J O630 e635
                          refine gf_J C fk_LandSurvey_Reader_73 rfl e631 e635 dX3_advance_239 ?_
                          refine g_callR (st := [.inr (.inr a0)]) (gc_S C lk_LandSurvey_Reader_79 (k_X10_ofCode l D cy w z0 O630 f636) rfl ⟨by decide, by decide⟩ (Nat.le_of_ble_eq_true rfl) dX3_advance_242 ⟨(by decide), (by decide)⟩) (fun r637 h638 K639 => ?_)
                          obtain ⟨O641, F642, p643⟩ := K639
                          refine g_goto C 249 (by decide) dX3_advance_245 ?_
                          have e644 : Tg h638 a0 = 4 := (fxT F642 e631)
                          refine gp_R C fk_LandSurvey_Reader_69 pk_LandSurvey_Reader_6 rfl e644 (nf_o _ _) dX3_advance_249 (fun h646 hh645 => ?_)
                          have O647 := O641.pR e644 hh645 (okR_f rE_4_6)
                          refine g_goto C 404 (by decide) dX3_advance_252 ?_
                          have e648 : Rv h646 a0 13 = v1 := ((pR_j hh645 (by decide)).trans ((fxR F642 e631 rfl).trans ((pIR hh628).trans ((fxR F584 e40 rfl).trans ((pJR hh37).trans ((pR_j hh33 (by decide)).trans ((pIR hh29).trans ((fxR F19 ta0 rfl).trans e2))))))))
                          have e649 : Iv h646 a0 4 = 1 := ((pRI hh645).trans ((fxI F642 e631 rfl).trans (pI_e hh628)))
                          have e650 : Jv h646 a0 5 = v634 := ((pRJ hh645).trans ((fxJ F642 e631 rfl).trans e635))
                          have e651 : Tg h646 v1 = 2006 := ((pRT hh645).trans (fxT F642 ((pIT hh628).trans (fxT F584 ((pJT hh37).trans ((pRT hh33).trans ((pIT hh29).trans (fxT F19 t3))))))))
                          have e652 : Rv h14 a0 13 = v1 := ((fxR F19 ta0 rfl).trans e2)
                          have e653 : Tg h14 v1 = 2006 := (fxT F19 t3)
                          have e654 : Rv h30 a0 13 = v1 := ((pIR hh29).trans e652)
                          have e655 : Tg h30 v1 = 2006 := ((pIT hh29).trans e653)
                          have e656 : Rv h34 a0 13 = v1 := ((pR_j hh33 (by decide)).trans e654)
                          have e657 : Tg h34 v1 = 2006 := ((pRT hh33).trans e655)
                          have e658 : Rv h38 a0 13 = v1 := ((pJR hh37).trans e656)
                          have e659 : Tg h38 v1 = 2006 := ((pJT hh37).trans e657)
                          have e660 : Rv h579 a0 13 = v1 := ((fxR F584 e40 rfl).trans e658)
                          have e661 : Tg h579 v1 = 2006 := (fxT F584 e659)
                          have e662 : Rv h629 a0 13 = v1 := ((pIR hh628).trans e660)
                          have e663 : Tg h629 v1 = 2006 := ((pIT hh628).trans e661)
                          have e664 : Rv h638 a0 13 = v1 := ((fxR F642 e631 rfl).trans e662)
                          have e665 : Tg h638 v1 = 2006 := (fxT F642 e663)
                          have p666 := (DOk_fx O641 ((Fx.rf (wr := [806]) (h := h638)).pR e644 hh645 rfl) e644 (by rw [e664]; exact e665) rfl (DOk_fx O630 F642 e631 (by rw [e662]; exact e663) rfl (DOk_fx O583 ((Fx.rf (wr := [804]) (h := h579)).pI e587 hh628 rfl) e587 (by rw [e660]; exact e661) rfl (DOk_fx O39 F584 e40 (by rw [e658]; exact e659) rfl (DOk_fx O35 ((Fx.rf (wr := [805]) (h := h34)).pJ e36 hh37 rfl) e36 (by rw [e656]; exact e657) rfl (DOk_fx O31 ((Fx.rf (wr := [806]) (h := h30)).pR e32 hh33 rfl) e32 (by rw [e654]; exact e655) rfl (DOk_fx O18 ((Fx.rf (wr := [803]) (h := h14)).pI e22 hh29 rfl) e22 (by rw [e652]; exact e653) rfl (DOk_fx O F19 ta0 (by rw [e2]; exact t3) rfl P_RInv.2.1))))))))
                          exact g_vret C hr ⟨O647, (((((((((Fx.rf (wr := wr_k_X3_advance)).call F19 rfl).pI e22 hh29 rfl).pR e32 hh33 rfl).pJ e36 hh37 rfl).call F584 rfl).pI e587 hh628 rfl).call F642 rfl).pR e644 hh645 rfl), (by unfold RInv; rw [e648, e649, e650, (pR_e hh645)]; exact ⟨e651, p666, by omega, p643⟩)⟩ (by decide) (by decide) dX3_advance_404
                    · have f667 : (0 : Int) ≤ v585 ∧ v585 ≤ (1499 : Int) := r_lt f588 f146 q591 (by decide) (by decide)
                      refine g_aload_n C rfl 0 rfl dX3_advance_137 ?_
                      have e668 : Rv h579 a0 0 = v147 := ((fxR F584 e40 rfl).trans e148)
                      refine gf_R C fk_LandSurvey_Reader_9 rfl e587 e668 dX3_advance_138 ?_
                      refine g_aload_n C rfl 0 rfl dX3_advance_141 ?_
                      refine gf_I C fk_LandSurvey_Reader_30 rfl e587 e586 dX3_advance_142 ?_
                      have e669 : Tg h579 v147 = 19103 := (fxT F584 t149)
                      have e670 : Ln h579 v147 = 1500 := ((fxL F584 t149).trans l150)
                      obtain ⟨v671, e672⟩ : ∃ z, Iv h579 v147 v585.toNat = z := ⟨_, rfl⟩
                      have f673 := ok_Ia O583 e669 ar_19103 rI_19103_0 e672
                      refine g_cald C e669 rfl e670 (ix f667 (by decide) (by decide)) e672 dX3_advance_145 ?_
                      refine g_bipush C (by decide) dX3_advance_146 ?_
                      refine g_icmp_lt C (iw f673 (by decide) (by decide)) (iw (il 97) (by decide) (by decide)) 206 (by decide) dX3_advance_148 (fun q674 => ?_) (fun q675 => ?_)
                      · have f676 : (0 : Int) ≤ v671 ∧ v671 ≤ (96 : Int) := r_lt f673 (il 97) q674 (by decide) (by decide)
                        refine g_aload_n C rfl 0 rfl dX3_advance_206 ?_
                        refine g_aload_n C rfl 0 rfl dX3_advance_207 ?_
                        refine gf_I C fk_LandSurvey_Reader_30 rfl e587 e586 dX3_advance_208 ?_
                        refine g_aload_n C rfl 0 rfl dX3_advance_211 ?_
                        have e677 : Iv h579 a0 3 = v20 := ((fxI F584 e40 rfl).trans ((pJI hh37).trans ((pRI hh33).trans (pI_e hh29))))
                        refine gf_I C fk_LandSurvey_Reader_66 rfl e587 e677 dX3_advance_212 ?_
                        have f678 : (-1499 : Int) ≤ (v585 - v20) ∧ (v585 - v20) ≤ (1499 : Int) := ia_sub f667 f145 (by decide) (by decide)
                        refine g_isub C dX3_advance_215 ?_
                        refine g_bipush C (by decide) dX3_advance_216 ?_
                        refine g_icmp_gt C (iw f678 (by decide) (by decide)) (iw (il 8) (by decide) (by decide)) 225 (by decide) dX3_advance_218 (fun q679 => ?_) (fun q680 => ?_)
                        · have f681 : (9 : Int) ≤ (v585 - v20) ∧ (v585 - v20) ≤ (1499 : Int) := r_gt f678 (il 8) q679 (by decide) (by decide)
                          refine g_iconst C dX3_advance_225 ?_
                          refine gp_I C fk_LandSurvey_Reader_49 pk_LandSurvey_Reader_4 rfl e587 (iw (il 4) (by decide) (by decide)) (nf_i _) dX3_advance_226 (fun h683 hh682 => ?_)
                          have O684 := O583.pI e587 hh682 rI_4_4 (iw (il 4) (by decide) (by decide)) nofun
                          refine g_aload_n C rfl 0 rfl dX3_advance_229 ?_
                          refine g_aload_n C rfl 0 rfl dX3_advance_230 ?_
                          have e685 : Tg h683 a0 = 4 := ((pIT hh682).trans e587)
                          refine gf_I C fk_LandSurvey_Reader_49 rfl e685 (pI_e hh682) dX3_advance_231 ?_
                          refine g_iconst C dX3_advance_234 ?_
                          refine g_icmp_ne C (iw (il 4) (by decide) (by decide)) (iw (il 1) (by decide) (by decide)) 248 (by decide) dX3_advance_235 (fun q686 => ?_) (fun q687 => ?_)
                          · refine g_null C dX3_advance_248 ?_
                            refine gp_R C fk_LandSurvey_Reader_69 pk_LandSurvey_Reader_6 rfl e685 (nf_o _ _) dX3_advance_249 (fun h689 hh688 => ?_)
                            have O690 := O684.pR e685 hh688 (okR_f rE_4_6)
                            refine g_goto C 404 (by decide) dX3_advance_252 ?_
                            have e691 : Rv h689 a0 13 = v1 := ((pR_j hh688 (by decide)).trans ((pIR hh682).trans ((fxR F584 e40 rfl).trans ((pJR hh37).trans ((pR_j hh33 (by decide)).trans ((pIR hh29).trans ((fxR F19 ta0 rfl).trans e2)))))))
                            have e692 : Iv h689 a0 4 = 4 := ((pRI hh688).trans (pI_e hh682))
                            obtain ⟨v693, e694⟩ : ∃ z, Jv h689 a0 5 = z := ⟨_, rfl⟩
                            have e695 : Tg h689 a0 = 4 := ((pRT hh688).trans e685)
                            have f696 := inL_J O690 e694
                            have e697 : Tg h689 v1 = 2006 := ((pRT hh688).trans ((pIT hh682).trans (fxT F584 ((pJT hh37).trans ((pRT hh33).trans ((pIT hh29).trans (fxT F19 t3)))))))
                            have e698 : Rv h14 a0 13 = v1 := ((fxR F19 ta0 rfl).trans e2)
                            have e699 : Tg h14 v1 = 2006 := (fxT F19 t3)
                            have e700 : Rv h30 a0 13 = v1 := ((pIR hh29).trans e698)
                            have e701 : Tg h30 v1 = 2006 := ((pIT hh29).trans e699)
                            have e702 : Rv h34 a0 13 = v1 := ((pR_j hh33 (by decide)).trans e700)
                            have e703 : Tg h34 v1 = 2006 := ((pRT hh33).trans e701)
                            have e704 : Rv h38 a0 13 = v1 := ((pJR hh37).trans e702)
                            have e705 : Tg h38 v1 = 2006 := ((pJT hh37).trans e703)
                            have e706 : Rv h579 a0 13 = v1 := ((fxR F584 e40 rfl).trans e704)
                            have e707 : Tg h579 v1 = 2006 := (fxT F584 e705)
                            have e708 : Rv h683 a0 13 = v1 := ((pIR hh682).trans e706)
                            have e709 : Tg h683 v1 = 2006 := ((pIT hh682).trans e707)
                            have p710 := (DOk_fx O684 ((Fx.rf (wr := [806]) (h := h683)).pR e685 hh688 rfl) e685 (by rw [e708]; exact e709) rfl (DOk_fx O583 ((Fx.rf (wr := [804]) (h := h579)).pI e587 hh682 rfl) e587 (by rw [e706]; exact e707) rfl (DOk_fx O39 F584 e40 (by rw [e704]; exact e705) rfl (DOk_fx O35 ((Fx.rf (wr := [805]) (h := h34)).pJ e36 hh37 rfl) e36 (by rw [e702]; exact e703) rfl (DOk_fx O31 ((Fx.rf (wr := [806]) (h := h30)).pR e32 hh33 rfl) e32 (by rw [e700]; exact e701) rfl (DOk_fx O18 ((Fx.rf (wr := [803]) (h := h14)).pI e22 hh29 rfl) e22 (by rw [e698]; exact e699) rfl (DOk_fx O F19 ta0 (by rw [e2]; exact t3) rfl P_RInv.2.1)))))))
                            exact g_vret C hr ⟨O690, ((((((((Fx.rf (wr := wr_k_X3_advance)).call F19 rfl).pI e22 hh29 rfl).pR e32 hh33 rfl).pJ e36 hh37 rfl).call F584 rfl).pI e587 hh682 rfl).pR e685 hh688 rfl), (by unfold RInv; rw [e691, e692, e694, (pR_e hh688)]; exact ⟨e697, p710, by omega, (Or.inl rfl)⟩)⟩ (by decide) (by decide) dX3_advance_404
                          · exact (no_eq (il 4) (il 1) q687 (by decide)).elim
                        · have f711 : (-1499 : Int) ≤ (v585 - v20) ∧ (v585 - v20) ≤ (8 : Int) := r_le f678 (il 8) q680 (by decide) (by decide)
                          refine g_iconst C dX3_advance_221 ?_
                          refine g_goto C 226 (by decide) dX3_advance_222 ?_
                          refine gp_I C fk_LandSurvey_Reader_49 pk_LandSurvey_Reader_4 rfl e587 (iw (il 1) (by decide) (by decide)) (nf_i _) dX3_advance_226 (fun h713 hh712 => ?_)
                          have O714 := O583.pI e587 hh712 rI_4_4 (iw (il 1) (by decide) (by decide)) nofun
                          refine g_aload_n C rfl 0 rfl dX3_advance_229 ?_
                          refine g_aload_n C rfl 0 rfl dX3_advance_230 ?_
                          have e715 : Tg h713 a0 = 4 := ((pIT hh712).trans e587)
                          refine gf_I C fk_LandSurvey_Reader_49 rfl e715 (pI_e hh712) dX3_advance_231 ?_
                          refine g_iconst C dX3_advance_234 ?_
                          refine g_icmp_ne C (iw (il 1) (by decide) (by decide)) (iw (il 1) (by decide) (by decide)) 248 (by decide) dX3_advance_235 (fun q716 => ?_) (fun q717 => ?_)
                          · exact (no_ne (il 1) (il 1) q716 (by decide)).elim
                          · refine g_aload_n C rfl 0 rfl dX3_advance_238 ?_
                            obtain ⟨v718, e719⟩ : ∃ z, Jv h713 a0 5 = z := ⟨_, rfl⟩
                            have f720 := inL_J O714 e719
                            refine gf_J C fk_LandSurvey_Reader_73 rfl e715 e719 dX3_advance_239 ?_
                            refine g_callR (st := [.inr (.inr a0)]) (gc_S C lk_LandSurvey_Reader_79 (k_X10_ofCode l D cy w z0 O714 f720) rfl ⟨by decide, by decide⟩ (Nat.le_of_ble_eq_true rfl) dX3_advance_242 ⟨(by decide), (by decide)⟩) (fun r721 h722 K723 => ?_)
                            obtain ⟨O725, F726, p727⟩ := K723
                            refine g_goto C 249 (by decide) dX3_advance_245 ?_
                            have e728 : Tg h722 a0 = 4 := (fxT F726 e715)
                            refine gp_R C fk_LandSurvey_Reader_69 pk_LandSurvey_Reader_6 rfl e728 (nf_o _ _) dX3_advance_249 (fun h730 hh729 => ?_)
                            have O731 := O725.pR e728 hh729 (okR_f rE_4_6)
                            refine g_goto C 404 (by decide) dX3_advance_252 ?_
                            have e732 : Rv h730 a0 13 = v1 := ((pR_j hh729 (by decide)).trans ((fxR F726 e715 rfl).trans ((pIR hh712).trans ((fxR F584 e40 rfl).trans ((pJR hh37).trans ((pR_j hh33 (by decide)).trans ((pIR hh29).trans ((fxR F19 ta0 rfl).trans e2))))))))
                            have e733 : Iv h730 a0 4 = 1 := ((pRI hh729).trans ((fxI F726 e715 rfl).trans (pI_e hh712)))
                            have e734 : Jv h730 a0 5 = v718 := ((pRJ hh729).trans ((fxJ F726 e715 rfl).trans e719))
                            have e735 : Tg h730 v1 = 2006 := ((pRT hh729).trans (fxT F726 ((pIT hh712).trans (fxT F584 ((pJT hh37).trans ((pRT hh33).trans ((pIT hh29).trans (fxT F19 t3))))))))
                            have e736 : Rv h14 a0 13 = v1 := ((fxR F19 ta0 rfl).trans e2)
                            have e737 : Tg h14 v1 = 2006 := (fxT F19 t3)
                            have e738 : Rv h30 a0 13 = v1 := ((pIR hh29).trans e736)
                            have e739 : Tg h30 v1 = 2006 := ((pIT hh29).trans e737)
                            have e740 : Rv h34 a0 13 = v1 := ((pR_j hh33 (by decide)).trans e738)
                            have e741 : Tg h34 v1 = 2006 := ((pRT hh33).trans e739)
                            have e742 : Rv h38 a0 13 = v1 := ((pJR hh37).trans e740)
                            have e743 : Tg h38 v1 = 2006 := ((pJT hh37).trans e741)
                            have e744 : Rv h579 a0 13 = v1 := ((fxR F584 e40 rfl).trans e742)
                            have e745 : Tg h579 v1 = 2006 := (fxT F584 e743)
                            have e746 : Rv h713 a0 13 = v1 := ((pIR hh712).trans e744)
                            have e747 : Tg h713 v1 = 2006 := ((pIT hh712).trans e745)
                            have e748 : Rv h722 a0 13 = v1 := ((fxR F726 e715 rfl).trans e746)
                            have e749 : Tg h722 v1 = 2006 := (fxT F726 e747)
                            have p750 := (DOk_fx O725 ((Fx.rf (wr := [806]) (h := h722)).pR e728 hh729 rfl) e728 (by rw [e748]; exact e749) rfl (DOk_fx O714 F726 e715 (by rw [e746]; exact e747) rfl (DOk_fx O583 ((Fx.rf (wr := [804]) (h := h579)).pI e587 hh712 rfl) e587 (by rw [e744]; exact e745) rfl (DOk_fx O39 F584 e40 (by rw [e742]; exact e743) rfl (DOk_fx O35 ((Fx.rf (wr := [805]) (h := h34)).pJ e36 hh37 rfl) e36 (by rw [e740]; exact e741) rfl (DOk_fx O31 ((Fx.rf (wr := [806]) (h := h30)).pR e32 hh33 rfl) e32 (by rw [e738]; exact e739) rfl (DOk_fx O18 ((Fx.rf (wr := [803]) (h := h14)).pI e22 hh29 rfl) e22 (by rw [e736]; exact e737) rfl (DOk_fx O F19 ta0 (by rw [e2]; exact t3) rfl P_RInv.2.1))))))))
                            exact g_vret C hr ⟨O731, (((((((((Fx.rf (wr := wr_k_X3_advance)).call F19 rfl).pI e22 hh29 rfl).pR e32 hh33 rfl).pJ e36 hh37 rfl).call F584 rfl).pI e587 hh712 rfl).call F726 rfl).pR e728 hh729 rfl), (by unfold RInv; rw [e732, e733, e734, (pR_e hh729)]; exact ⟨e735, p750, by omega, p727⟩)⟩ (by decide) (by decide) dX3_advance_404
                      · have f751 : (97 : Int) ≤ v671 ∧ v671 ≤ (126 : Int) := r_ge f673 (il 97) q675 (by decide) (by decide)
                        refine g_aload_n C rfl 0 rfl dX3_advance_151 ?_
                        refine gf_R C fk_LandSurvey_Reader_9 rfl e587 e668 dX3_advance_152 ?_
                        refine g_aload_n C rfl 0 rfl dX3_advance_155 ?_
                        refine gf_I C fk_LandSurvey_Reader_30 rfl e587 e586 dX3_advance_156 ?_
                        refine g_cald C e669 rfl e670 (ix f667 (by decide) (by decide)) e672 dX3_advance_159 ?_
                        refine g_bipush C (by decide) dX3_advance_160 ?_
                        refine g_icmp_gt C (iw f751 (by decide) (by decide)) (iw (il 122) (by decide) (by decide)) 206 (by decide) dX3_advance_162 (fun q752 => ?_) (fun q753 => ?_)
                        · have f754 : (123 : Int) ≤ v671 ∧ v671 ≤ (126 : Int) := r_gt f751 (il 122) q752 (by decide) (by decide)
                          refine g_aload_n C rfl 0 rfl dX3_advance_206 ?_
                          refine g_aload_n C rfl 0 rfl dX3_advance_207 ?_
                          refine gf_I C fk_LandSurvey_Reader_30 rfl e587 e586 dX3_advance_208 ?_
                          refine g_aload_n C rfl 0 rfl dX3_advance_211 ?_
                          have e755 : Iv h579 a0 3 = v20 := ((fxI F584 e40 rfl).trans ((pJI hh37).trans ((pRI hh33).trans (pI_e hh29))))
                          refine gf_I C fk_LandSurvey_Reader_66 rfl e587 e755 dX3_advance_212 ?_
                          have f756 : (-1499 : Int) ≤ (v585 - v20) ∧ (v585 - v20) ≤ (1499 : Int) := ia_sub f667 f145 (by decide) (by decide)
                          refine g_isub C dX3_advance_215 ?_
                          refine g_bipush C (by decide) dX3_advance_216 ?_
                          refine g_icmp_gt C (iw f756 (by decide) (by decide)) (iw (il 8) (by decide) (by decide)) 225 (by decide) dX3_advance_218 (fun q757 => ?_) (fun q758 => ?_)
                          · have f759 : (9 : Int) ≤ (v585 - v20) ∧ (v585 - v20) ≤ (1499 : Int) := r_gt f756 (il 8) q757 (by decide) (by decide)
                            refine g_iconst C dX3_advance_225 ?_
                            refine gp_I C fk_LandSurvey_Reader_49 pk_LandSurvey_Reader_4 rfl e587 (iw (il 4) (by decide) (by decide)) (nf_i _) dX3_advance_226 (fun h761 hh760 => ?_)
                            have O762 := O583.pI e587 hh760 rI_4_4 (iw (il 4) (by decide) (by decide)) nofun
                            refine g_aload_n C rfl 0 rfl dX3_advance_229 ?_
                            refine g_aload_n C rfl 0 rfl dX3_advance_230 ?_
                            have e763 : Tg h761 a0 = 4 := ((pIT hh760).trans e587)
                            refine gf_I C fk_LandSurvey_Reader_49 rfl e763 (pI_e hh760) dX3_advance_231 ?_
                            refine g_iconst C dX3_advance_234 ?_
                            refine g_icmp_ne C (iw (il 4) (by decide) (by decide)) (iw (il 1) (by decide) (by decide)) 248 (by decide) dX3_advance_235 (fun q764 => ?_) (fun q765 => ?_)
                            · refine g_null C dX3_advance_248 ?_
                              refine gp_R C fk_LandSurvey_Reader_69 pk_LandSurvey_Reader_6 rfl e763 (nf_o _ _) dX3_advance_249 (fun h767 hh766 => ?_)
                              have O768 := O762.pR e763 hh766 (okR_f rE_4_6)
                              refine g_goto C 404 (by decide) dX3_advance_252 ?_
                              have e769 : Rv h767 a0 13 = v1 := ((pR_j hh766 (by decide)).trans ((pIR hh760).trans ((fxR F584 e40 rfl).trans ((pJR hh37).trans ((pR_j hh33 (by decide)).trans ((pIR hh29).trans ((fxR F19 ta0 rfl).trans e2)))))))
                              have e770 : Iv h767 a0 4 = 4 := ((pRI hh766).trans (pI_e hh760))
                              obtain ⟨v771, e772⟩ : ∃ z, Jv h767 a0 5 = z := ⟨_, rfl⟩
                              have e773 : Tg h767 a0 = 4 := ((pRT hh766).trans e763)
                              have f774 := inL_J O768 e772
                              have e775 : Tg h767 v1 = 2006 := ((pRT hh766).trans ((pIT hh760).trans (fxT F584 ((pJT hh37).trans ((pRT hh33).trans ((pIT hh29).trans (fxT F19 t3)))))))
                              have e776 : Rv h14 a0 13 = v1 := ((fxR F19 ta0 rfl).trans e2)
                              have e777 : Tg h14 v1 = 2006 := (fxT F19 t3)
                              have e778 : Rv h30 a0 13 = v1 := ((pIR hh29).trans e776)
                              have e779 : Tg h30 v1 = 2006 := ((pIT hh29).trans e777)
                              have e780 : Rv h34 a0 13 = v1 := ((pR_j hh33 (by decide)).trans e778)
                              have e781 : Tg h34 v1 = 2006 := ((pRT hh33).trans e779)
                              have e782 : Rv h38 a0 13 = v1 := ((pJR hh37).trans e780)
                              have e783 : Tg h38 v1 = 2006 := ((pJT hh37).trans e781)
                              have e784 : Rv h579 a0 13 = v1 := ((fxR F584 e40 rfl).trans e782)
                              have e785 : Tg h579 v1 = 2006 := (fxT F584 e783)
                              have e786 : Rv h761 a0 13 = v1 := ((pIR hh760).trans e784)
                              have e787 : Tg h761 v1 = 2006 := ((pIT hh760).trans e785)
                              have p788 := (DOk_fx O762 ((Fx.rf (wr := [806]) (h := h761)).pR e763 hh766 rfl) e763 (by rw [e786]; exact e787) rfl (DOk_fx O583 ((Fx.rf (wr := [804]) (h := h579)).pI e587 hh760 rfl) e587 (by rw [e784]; exact e785) rfl (DOk_fx O39 F584 e40 (by rw [e782]; exact e783) rfl (DOk_fx O35 ((Fx.rf (wr := [805]) (h := h34)).pJ e36 hh37 rfl) e36 (by rw [e780]; exact e781) rfl (DOk_fx O31 ((Fx.rf (wr := [806]) (h := h30)).pR e32 hh33 rfl) e32 (by rw [e778]; exact e779) rfl (DOk_fx O18 ((Fx.rf (wr := [803]) (h := h14)).pI e22 hh29 rfl) e22 (by rw [e776]; exact e777) rfl (DOk_fx O F19 ta0 (by rw [e2]; exact t3) rfl P_RInv.2.1)))))))
                              exact g_vret C hr ⟨O768, ((((((((Fx.rf (wr := wr_k_X3_advance)).call F19 rfl).pI e22 hh29 rfl).pR e32 hh33 rfl).pJ e36 hh37 rfl).call F584 rfl).pI e587 hh760 rfl).pR e763 hh766 rfl), (by unfold RInv; rw [e769, e770, e772, (pR_e hh766)]; exact ⟨e775, p788, by omega, (Or.inl rfl)⟩)⟩ (by decide) (by decide) dX3_advance_404
                            · exact (no_eq (il 4) (il 1) q765 (by decide)).elim
                          · have f789 : (-1499 : Int) ≤ (v585 - v20) ∧ (v585 - v20) ≤ (8 : Int) := r_le f756 (il 8) q758 (by decide) (by decide)
                            refine g_iconst C dX3_advance_221 ?_
                            refine g_goto C 226 (by decide) dX3_advance_222 ?_
                            refine gp_I C fk_LandSurvey_Reader_49 pk_LandSurvey_Reader_4 rfl e587 (iw (il 1) (by decide) (by decide)) (nf_i _) dX3_advance_226 (fun h791 hh790 => ?_)
                            have O792 := O583.pI e587 hh790 rI_4_4 (iw (il 1) (by decide) (by decide)) nofun
                            refine g_aload_n C rfl 0 rfl dX3_advance_229 ?_
                            refine g_aload_n C rfl 0 rfl dX3_advance_230 ?_
                            have e793 : Tg h791 a0 = 4 := ((pIT hh790).trans e587)
                            refine gf_I C fk_LandSurvey_Reader_49 rfl e793 (pI_e hh790) dX3_advance_231 ?_
                            refine g_iconst C dX3_advance_234 ?_
                            refine g_icmp_ne C (iw (il 1) (by decide) (by decide)) (iw (il 1) (by decide) (by decide)) 248 (by decide) dX3_advance_235 (fun q794 => ?_) (fun q795 => ?_)
                            · exact (no_ne (il 1) (il 1) q794 (by decide)).elim
                            · refine g_aload_n C rfl 0 rfl dX3_advance_238 ?_
                              obtain ⟨v796, e797⟩ : ∃ z, Jv h791 a0 5 = z := ⟨_, rfl⟩
                              have f798 := inL_J O792 e797
                              refine gf_J C fk_LandSurvey_Reader_73 rfl e793 e797 dX3_advance_239 ?_
                              refine g_callR (st := [.inr (.inr a0)]) (gc_S C lk_LandSurvey_Reader_79 (k_X10_ofCode l D cy w z0 O792 f798) rfl ⟨by decide, by decide⟩ (Nat.le_of_ble_eq_true rfl) dX3_advance_242 ⟨(by decide), (by decide)⟩) (fun r799 h800 K801 => ?_)
                              obtain ⟨O803, F804, p805⟩ := K801
                              refine g_goto C 249 (by decide) dX3_advance_245 ?_
                              have e806 : Tg h800 a0 = 4 := (fxT F804 e793)
                              refine gp_R C fk_LandSurvey_Reader_69 pk_LandSurvey_Reader_6 rfl e806 (nf_o _ _) dX3_advance_249 (fun h808 hh807 => ?_)
                              have O809 := O803.pR e806 hh807 (okR_f rE_4_6)
                              refine g_goto C 404 (by decide) dX3_advance_252 ?_
                              have e810 : Rv h808 a0 13 = v1 := ((pR_j hh807 (by decide)).trans ((fxR F804 e793 rfl).trans ((pIR hh790).trans ((fxR F584 e40 rfl).trans ((pJR hh37).trans ((pR_j hh33 (by decide)).trans ((pIR hh29).trans ((fxR F19 ta0 rfl).trans e2))))))))
                              have e811 : Iv h808 a0 4 = 1 := ((pRI hh807).trans ((fxI F804 e793 rfl).trans (pI_e hh790)))
                              have e812 : Jv h808 a0 5 = v796 := ((pRJ hh807).trans ((fxJ F804 e793 rfl).trans e797))
                              have e813 : Tg h808 v1 = 2006 := ((pRT hh807).trans (fxT F804 ((pIT hh790).trans (fxT F584 ((pJT hh37).trans ((pRT hh33).trans ((pIT hh29).trans (fxT F19 t3))))))))
                              have e814 : Rv h14 a0 13 = v1 := ((fxR F19 ta0 rfl).trans e2)
                              have e815 : Tg h14 v1 = 2006 := (fxT F19 t3)
                              have e816 : Rv h30 a0 13 = v1 := ((pIR hh29).trans e814)
                              have e817 : Tg h30 v1 = 2006 := ((pIT hh29).trans e815)
                              have e818 : Rv h34 a0 13 = v1 := ((pR_j hh33 (by decide)).trans e816)
                              have e819 : Tg h34 v1 = 2006 := ((pRT hh33).trans e817)
                              have e820 : Rv h38 a0 13 = v1 := ((pJR hh37).trans e818)
                              have e821 : Tg h38 v1 = 2006 := ((pJT hh37).trans e819)
                              have e822 : Rv h579 a0 13 = v1 := ((fxR F584 e40 rfl).trans e820)
                              have e823 : Tg h579 v1 = 2006 := (fxT F584 e821)
                              have e824 : Rv h791 a0 13 = v1 := ((pIR hh790).trans e822)
                              have e825 : Tg h791 v1 = 2006 := ((pIT hh790).trans e823)
                              have e826 : Rv h800 a0 13 = v1 := ((fxR F804 e793 rfl).trans e824)
                              have e827 : Tg h800 v1 = 2006 := (fxT F804 e825)
                              have p828 := (DOk_fx O803 ((Fx.rf (wr := [806]) (h := h800)).pR e806 hh807 rfl) e806 (by rw [e826]; exact e827) rfl (DOk_fx O792 F804 e793 (by rw [e824]; exact e825) rfl (DOk_fx O583 ((Fx.rf (wr := [804]) (h := h579)).pI e587 hh790 rfl) e587 (by rw [e822]; exact e823) rfl (DOk_fx O39 F584 e40 (by rw [e820]; exact e821) rfl (DOk_fx O35 ((Fx.rf (wr := [805]) (h := h34)).pJ e36 hh37 rfl) e36 (by rw [e818]; exact e819) rfl (DOk_fx O31 ((Fx.rf (wr := [806]) (h := h30)).pR e32 hh33 rfl) e32 (by rw [e816]; exact e817) rfl (DOk_fx O18 ((Fx.rf (wr := [803]) (h := h14)).pI e22 hh29 rfl) e22 (by rw [e814]; exact e815) rfl (DOk_fx O F19 ta0 (by rw [e2]; exact t3) rfl P_RInv.2.1))))))))
                              exact g_vret C hr ⟨O809, (((((((((Fx.rf (wr := wr_k_X3_advance)).call F19 rfl).pI e22 hh29 rfl).pR e32 hh33 rfl).pJ e36 hh37 rfl).call F584 rfl).pI e587 hh790 rfl).call F804 rfl).pR e806 hh807 rfl), (by unfold RInv; rw [e810, e811, e812, (pR_e hh807)]; exact ⟨e813, p828, by omega, p805⟩)⟩ (by decide) (by decide) dX3_advance_404
                        · have f829 : (97 : Int) ≤ v671 ∧ v671 ≤ (122 : Int) := r_le f751 (il 122) q753 (by decide) (by decide)
                          refine g_aload_n C rfl 0 rfl dX3_advance_165 ?_
                          refine g_ldc2 (z := 27) C kw_677 (by decide) dX3_advance_166 ?_
                          refine g_aload_n C rfl 0 rfl dX3_advance_169 ?_
                          obtain ⟨v830, e831⟩ : ∃ z, Jv h579 a0 5 = z := ⟨_, rfl⟩
                          have f832 := inL_J O583 e831
                          refine gf_J C fk_LandSurvey_Reader_73 rfl e587 e831 dX3_advance_170 ?_
                          refine g_lmul C dX3_advance_173 ?_
                          have f833 : (-9223372036854775808 : Int) ≤ (lM 27 v830) ∧ (lM 27 v830) ≤ (9223372036854775807 : Int) := inL_of _
                          refine g_aload_n C rfl 0 rfl dX3_advance_174 ?_
                          refine gf_R C fk_LandSurvey_Reader_9 rfl e587 e668 dX3_advance_175 ?_
                          refine g_aload_n C rfl 0 rfl dX3_advance_178 ?_
                          refine gf_I C fk_LandSurvey_Reader_30 rfl e587 e586 dX3_advance_179 ?_
                          refine g_cald C e669 rfl e670 (ix f667 (by decide) (by decide)) e672 dX3_advance_182 ?_
                          refine g_bipush C (by decide) dX3_advance_183 ?_
                          have f834 : (0 : Int) ≤ (v671 - 97) ∧ (v671 - 97) ≤ (25 : Int) := ia_sub f829 (il 97) (by decide) (by decide)
                          refine g_isub C dX3_advance_185 ?_
                          refine g_iconst C dX3_advance_186 ?_
                          have f835 : (1 : Int) ≤ ((v671 - 97) + 1) ∧ ((v671 - 97) + 1) ≤ (26 : Int) := ia_add f834 (il 1) (by decide) (by decide)
                          refine g_iadd C dX3_advance_187 ?_
                          refine g_i2l C (iw f835 (by decide) (by decide)) dX3_advance_188 ?_
                          refine g_ladd C dX3_advance_189 ?_
                          have f836 : (-9223372036854775808 : Int) ≤ (lA (lM 27 v830) ((v671 - 97) + 1)) ∧ (lA (lM 27 v830) ((v671 - 97) + 1)) ≤ (9223372036854775807 : Int) := inL_of _
                          refine gp_J C fk_LandSurvey_Reader_73 pk_LandSurvey_Reader_5 rfl e587 rfl f836 dX3_advance_190 (fun h838 hh837 => ?_)
                          have O839 := O583.pJ hh837 f836
                          refine g_aload_n C rfl 0 rfl dX3_advance_193 ?_
                          refine g_dup C rfl dX3_advance_194 ?_
                          have e840 : Tg h838 a0 = 4 := ((pJT hh837).trans e587)
                          have e841 : Iv h838 a0 2 = v585 := ((pJI hh837).trans e586)
                          refine gf_I C fk_LandSurvey_Reader_30 rfl e840 e841 dX3_advance_195 ?_
                          refine g_iconst C dX3_advance_198 ?_
                          have f842 : (1 : Int) ≤ (v585 + 1) ∧ (v585 + 1) ≤ (1500 : Int) := ia_add f667 (il 1) (by decide) (by decide)
                          refine g_iadd C dX3_advance_199 ?_
                          refine gp_I C fk_LandSurvey_Reader_30 pk_LandSurvey_Reader_2 rfl e840 (iw f842 (by decide) (by decide)) (nf_i _) dX3_advance_200 (fun h844 hh843 => ?_)
                          have O845 := O839.pI e840 hh843 rI_4_2 (iw f842 (by decide) (by decide)) nofun
                          refine g_goto C 126 (by decide) dX3_advance_203 ?_
                          refine GW.sub [0, 1] rfl ?_
                          have e846 : Iv h844 a0 2 = (v585 + 1) := (pI_e hh843)
                          exact ih581 _ (by omega) h844 rfl O845 ((F584.pJ e587 hh837 rfl).pI e840 hh843 rfl)
                exact L580 _ h38 rfl O39 Fx.rf
          · have f847 : (1 : Int) ≤ v24 ∧ v24 ≤ (1499 : Int) := r_le f146 f145 q155 (by decide) (by decide)
            have f848 : (1 : Int) ≤ v20 ∧ v20 ≤ (1499 : Int) := r_ge f145 f146 q155 (by decide) (by decide)
            refine g_aload_n C rfl 1 rfl dX3_advance_106 ?_
            refine g_iconst C dX3_advance_107 ?_
            refine gp_I C fk_LandSurvey_Reader_49 pk_LandSurvey_Reader_4 rfl e40 (iw (il 0) (by decide) (by decide)) (nf_i _) dX3_advance_108 (fun h850 hh849 => ?_)
            have O851 := O39.pI e40 hh849 rI_4_4 (iw (il 0) (by decide) (by decide)) nofun
            refine g_goto C 404 (by decide) dX3_advance_111 ?_
            have e852 : Rv h850 a0 13 = v1 := ((pIR hh849).trans ((pJR hh37).trans ((pR_j hh33 (by decide)).trans ((pIR hh29).trans ((fxR F19 ta0 rfl).trans e2)))))
            have e853 : Jv h850 a0 5 = 0 := ((pIJ hh849).trans (pJ_e hh37))
            have e854 : Rv h850 a0 6 = 0 := ((pIR hh849).trans ((pJR hh37).trans (pR_e hh33)))
            have e855 : Tg h850 v1 = 2006 := ((pIT hh849).trans ((pJT hh37).trans ((pRT hh33).trans ((pIT hh29).trans (fxT F19 t3)))))
            have e856 : Rv h14 a0 13 = v1 := ((fxR F19 ta0 rfl).trans e2)
            have e857 : Tg h14 v1 = 2006 := (fxT F19 t3)
            have e858 : Rv h30 a0 13 = v1 := ((pIR hh29).trans e856)
            have e859 : Tg h30 v1 = 2006 := ((pIT hh29).trans e857)
            have e860 : Rv h34 a0 13 = v1 := ((pR_j hh33 (by decide)).trans e858)
            have e861 : Tg h34 v1 = 2006 := ((pRT hh33).trans e859)
            have e862 : Rv h38 a0 13 = v1 := ((pJR hh37).trans e860)
            have e863 : Tg h38 v1 = 2006 := ((pJT hh37).trans e861)
            have p864 := (DOk_fx O39 ((Fx.rf (wr := [804]) (h := h38)).pI e40 hh849 rfl) e40 (by rw [e862]; exact e863) rfl (DOk_fx O35 ((Fx.rf (wr := [805]) (h := h34)).pJ e36 hh37 rfl) e36 (by rw [e860]; exact e861) rfl (DOk_fx O31 ((Fx.rf (wr := [806]) (h := h30)).pR e32 hh33 rfl) e32 (by rw [e858]; exact e859) rfl (DOk_fx O18 ((Fx.rf (wr := [803]) (h := h14)).pI e22 hh29 rfl) e22 (by rw [e856]; exact e857) rfl (DOk_fx O F19 ta0 (by rw [e2]; exact t3) rfl P_RInv.2.1)))))
            exact g_vret C hr ⟨O851, ((((((Fx.rf (wr := wr_k_X3_advance)).call F19 rfl).pI e22 hh29 rfl).pR e32 hh33 rfl).pJ e36 hh37 rfl).pI e40 hh849 rfl), (by unfold RInv; rw [e852, (pI_e hh849), e853, e854]; exact ⟨e855, p864, by omega, (Or.inl rfl)⟩)⟩ (by decide) (by decide) dX3_advance_404
      · have f865 : (0 : Int) ≤ v20 ∧ v20 ≤ (1499 : Int) := r_lt f23 f26 q28 (by decide) (by decide)
        have f866 : (1 : Int) ≤ v24 ∧ v24 ≤ (1500 : Int) := r_gt f26 f23 q28 (by decide) (by decide)
        refine g_aload_n C rfl 0 rfl dX3_advance_11 ?_
        obtain ⟨v867, e868⟩ : ∃ z, Rv h14 a0 0 = z := ⟨_, rfl⟩
        have t869 := ok_R O18 e22 rE_4_0 e868
        have l870 := ok_L O18 e22 rE_4_0 e868
        refine gf_R C fk_LandSurvey_Reader_9 rfl e22 e868 dX3_advance_12 ?_
        refine g_aload_n C rfl 0 rfl dX3_advance_15 ?_
        refine gf_I C fk_LandSurvey_Reader_30 rfl e22 e21 dX3_advance_16 ?_
        obtain ⟨v871, e872⟩ : ∃ z, Iv h14 v867 v20.toNat = z := ⟨_, rfl⟩
        have f873 := ok_Ia O18 t869 ar_19103 rI_19103_0 e872
        refine g_cald C t869 rfl l870 (ix f865 (by decide) (by decide)) e872 dX3_advance_19 ?_
        refine g_bipush C (by decide) dX3_advance_20 ?_
        refine g_icmp_eq C (iw f873 (by decide) (by decide)) (iw (il 32) (by decide) (by decide)) 39 (by decide) dX3_advance_22 (fun q874 => ?_) (fun q875 => ?_)
        · have f876 : (32 : Int) ≤ v871 ∧ v871 ≤ (32 : Int) := ii f873 (r_eq (il 32) q874) (by decide) (by decide)
          refine g_aload_n C rfl 0 rfl dX3_advance_39 ?_
          refine g_dup C rfl dX3_advance_40 ?_
          refine gf_I C fk_LandSurvey_Reader_30 rfl e22 e21 dX3_advance_41 ?_
          refine g_iconst C dX3_advance_44 ?_
          have f877 : (1 : Int) ≤ (v20 + 1) ∧ (v20 + 1) ≤ (1500 : Int) := ia_add f865 (il 1) (by decide) (by decide)
          refine g_iadd C dX3_advance_45 ?_
          refine gp_I C fk_LandSurvey_Reader_30 pk_LandSurvey_Reader_2 rfl e22 (iw f877 (by decide) (by decide)) (nf_i _) dX3_advance_46 (fun h879 hh878 => ?_)
          have O880 := O18.pI e22 hh878 rI_4_2 (iw f877 (by decide) (by decide)) nofun
          refine g_goto C 0 (by decide) dX3_advance_49 ?_
          refine GW.sub [0] rfl ?_
          have e881 : Iv h879 a0 2 = (v20 + 1) := (pI_e hh878)
          exact ih16 _ (by omega) h879 rfl O880 (F19.pI e22 hh878 rfl)
        · refine g_aload_n C rfl 0 rfl dX3_advance_25 ?_
          refine gf_R C fk_LandSurvey_Reader_9 rfl e22 e868 dX3_advance_26 ?_
          refine g_aload_n C rfl 0 rfl dX3_advance_29 ?_
          refine gf_I C fk_LandSurvey_Reader_30 rfl e22 e21 dX3_advance_30 ?_
          refine g_cald C t869 rfl l870 (ix f865 (by decide) (by decide)) e872 dX3_advance_33 ?_
          refine g_bipush C (by decide) dX3_advance_34 ?_
          refine g_icmp_ne C (iw f873 (by decide) (by decide)) (iw (il 10) (by decide) (by decide)) 52 (by decide) dX3_advance_36 (fun q882 => ?_) (fun q883 => ?_)
          · refine g_aload_n C rfl 0 rfl dX3_advance_52 ?_
            refine g_aload_n C rfl 0 rfl dX3_advance_53 ?_
            refine gf_I C fk_LandSurvey_Reader_30 rfl e22 e21 dX3_advance_54 ?_
            refine gp_I C fk_LandSurvey_Reader_66 pk_LandSurvey_Reader_3 rfl e22 (iw f865 (by decide) (by decide)) (nf_i _) dX3_advance_57 (fun h885 hh884 => ?_)
            have O886 := O18.pI e22 hh884 rI_4_3 (iw f865 (by decide) (by decide)) nofun
            refine g_aload_n C rfl 0 rfl dX3_advance_60 ?_
            refine g_null C dX3_advance_61 ?_
            have e887 : Tg h885 a0 = 4 := ((pIT hh884).trans e22)
            refine gp_R C fk_LandSurvey_Reader_69 pk_LandSurvey_Reader_6 rfl e887 (nf_o _ _) dX3_advance_62 (fun h889 hh888 => ?_)
            have O890 := O886.pR e887 hh888 (okR_f rE_4_6)
            refine g_aload_n C rfl 0 rfl dX3_advance_65 ?_
            refine g_lconst (z := 0) C (by decide) dX3_advance_66 ?_
            have e891 : Tg h889 a0 = 4 := ((pRT hh888).trans e887)
            refine gp_J C fk_LandSurvey_Reader_73 pk_LandSurvey_Reader_5 rfl e891 rfl (iw (il 0) (by decide) (by decide)) dX3_advance_67 (fun h893 hh892 => ?_)
            have O894 := O890.pJ hh892 (iw (il 0) (by decide) (by decide))
            refine g_aload_n C rfl 0 rfl dX3_advance_70 ?_
            have e895 : Tg h893 a0 = 4 := ((pJT hh892).trans e891)
            have e896 : Iv h893 a0 2 = v20 := ((pJI hh892).trans ((pRI hh888).trans ((pI_j hh884 (by decide)).trans e21)))
            refine gf_I C fk_LandSurvey_Reader_30 rfl e895 e896 dX3_advance_71 ?_
            refine g_aload_n C rfl 0 rfl dX3_advance_74 ?_
            have e897 : Iv h893 a0 1 = v24 := ((pJI hh892).trans ((pRI hh888).trans ((pI_j hh884 (by decide)).trans e25)))
            refine gf_I C fk_LandSurvey_Reader_19 rfl e895 e897 dX3_advance_75 ?_
            refine g_icmp_ge C (iw f865 (by decide) (by decide)) (iw f866 (by decide) (by decide)) 93 (by decide) dX3_advance_78 (fun q898 => ?_) (fun q899 => ?_)
            · have f900 : (1 : Int) ≤ v24 ∧ v24 ≤ (1499 : Int) := r_le f866 f865 q898 (by decide) (by decide)
              have f901 : (1 : Int) ≤ v20 ∧ v20 ≤ (1499 : Int) := r_ge f865 f866 q898 (by decide) (by decide)
              refine g_iconst C dX3_advance_93 ?_
              refine g_istore_n C [(1, .inl 0), (0, .inr (.inr a0))] rfl (by decide) rfl dX3_advance_94 ?_
              refine g_aload_n C rfl 1 rfl dX3_advance_95 ?_
              refine gf_I C fk_LandSurvey_Reader_30 rfl e895 e896 dX3_advance_96 ?_
              refine g_aload_n C rfl 1 rfl dX3_advance_99 ?_
              refine gf_I C fk_LandSurvey_Reader_19 rfl e895 e897 dX3_advance_100 ?_
              refine g_icmp_lt C (iw f901 (by decide) (by decide)) (iw f900 (by decide) (by decide)) 114 (by decide) dX3_advance_103 (fun q902 => ?_) (fun q903 => ?_)
              · have f904 : (1 : Int) ≤ v20 ∧ v20 ≤ (1498 : Int) := r_lt f901 f900 q902 (by decide) (by decide)
                have f905 : (2 : Int) ≤ v24 ∧ v24 ≤ (1499 : Int) := r_gt f900 f901 q902 (by decide) (by decide)
                refine g_iload_n C rfl 0 rfl dX3_advance_114 ?_
                refine g_bipush C (by decide) dX3_advance_115 ?_
                refine g_icmp_lt C (iw (il 0) (by decide) (by decide)) (iw (il 97) (by decide) (by decide)) 255 (by decide) dX3_advance_117 (fun q906 => ?_) (fun q907 => ?_)
                · refine g_iload_n C rfl 0 rfl dX3_advance_255 ?_
                  refine g_bipush C (by decide) dX3_advance_256 ?_
                  refine g_icmp_lt C (iw (il 0) (by decide) (by decide)) (iw (il 48) (by decide) (by decide)) 370 (by decide) dX3_advance_258 (fun q908 => ?_) (fun q909 => ?_)
                  · refine g_aload_n C rfl 1 rfl dX3_advance_370 ?_
                    refine g_iload_n C rfl 0 rfl dX3_advance_371 ?_
                    refine g_i2l C (iw (il 0) (by decide) (by decide)) dX3_advance_372 ?_
                    refine gp_J C fk_LandSurvey_Reader_73 pk_LandSurvey_Reader_5 rfl e895 rfl (iw (il 0) (by decide) (by decide)) dX3_advance_373 (fun h911 hh910 => ?_)
                    have O912 := O894.pJ hh910 (iw (il 0) (by decide) (by decide))
                    refine g_aload_n C rfl 1 rfl dX3_advance_376 ?_
                    refine g_ldcS C C.2.2.2.2.1.2 dX3_advance_377 ?_
                    refine g_iload_n C rfl 0 rfl dX3_advance_379 ?_
                    refine g_callI (st := [.inr (.inr a0)]) (gc_VS C lk_LandSurvey_Reader_89 rfl (k_J0_indexOf_0f7a4 l D cy w z0 O912 (iw (il 0) (by decide) (by decide))) rfl ⟨by decide, by decide⟩ (Nat.le_of_ble_eq_true rfl) dX3_advance_380 ⟨(by decide), (by decide)⟩) (fun r913 h914 f916 K915 => ?_)
                    obtain ⟨O917, F918, f919⟩ := K915
                    refine g_if_lt C f919 390 (by decide) dX3_advance_383 (fun q920 => ?_) (fun q921 => ?_)
                    · have f922 : (-2147483648 : Int) ≤ r913 ∧ r913 ≤ (-1 : Int) := r_lt f919 (il 0) q920 (by decide) (by decide)
                      refine g_iconst C dX3_advance_390 ?_
                      have e923 : Tg h914 a0 = 4 := (fxT F918 ((pJT hh910).trans e895))
                      refine gp_I C fk_LandSurvey_Reader_49 pk_LandSurvey_Reader_4 rfl e923 (iw (il 4) (by decide) (by decide)) (nf_i _) dX3_advance_391 (fun h925 hh924 => ?_)
                      have O926 := O917.pI e923 hh924 rI_4_4 (iw (il 4) (by decide) (by decide)) nofun
                      refine g_aload_n C rfl 1 rfl dX3_advance_394 ?_
                      refine g_dup C rfl dX3_advance_395 ?_
                      have e927 : Tg h925 a0 = 4 := ((pIT hh924).trans e923)
                      have e928 : Tg h911 a0 = 4 := ((pJT hh910).trans e895)
                      have e929 : Iv h925 a0 2 = v20 := ((pI_j hh924 (by decide)).trans ((fxI F918 e928 rfl).trans ((pJI hh910).trans e896)))
                      refine gf_I C fk_LandSurvey_Reader_30 rfl e927 e929 dX3_advance_396 ?_
                      refine g_iconst C dX3_advance_399 ?_
                      have f930 : (2 : Int) ≤ (v20 + 1) ∧ (v20 + 1) ≤ (1499 : Int) := ia_add f904 (il 1) (by decide) (by decide)
                      refine g_iadd C dX3_advance_400 ?_
                      refine gp_I C fk_LandSurvey_Reader_30 pk_LandSurvey_Reader_2 rfl e927 (iw f930 (by decide) (by decide)) (nf_i _) dX3_advance_401 (fun h932 hh931 => ?_)
                      have O933 := O926.pI e927 hh931 rI_4_2 (iw f930 (by decide) (by decide)) nofun
                      have e934 : Rv h932 a0 13 = v1 := ((pIR hh931).trans ((pIR hh924).trans ((fxR F918 e928 rfl).trans ((pJR hh910).trans ((pJR hh892).trans ((pR_j hh888 (by decide)).trans ((pIR hh884).trans ((fxR F19 ta0 rfl).trans e2))))))))
                      have e935 : Iv h932 a0 4 = 4 := ((pI_j hh931 (by decide)).trans (pI_e hh924))
                      have e936 : Jv h932 a0 5 = 0 := ((pIJ hh931).trans ((pIJ hh924).trans ((fxJ F918 e928 rfl).trans (pJ_e hh910))))
                      have e937 : Rv h932 a0 6 = 0 := ((pIR hh931).trans ((pIR hh924).trans ((fxR F918 e928 rfl).trans ((pJR hh910).trans ((pJR hh892).trans (pR_e hh888))))))
                      have e938 : Tg h932 v1 = 2006 := ((pIT hh931).trans ((pIT hh924).trans (fxT F918 ((pJT hh910).trans ((pJT hh892).trans ((pRT hh888).trans ((pIT hh884).trans (fxT F19 t3))))))))
                      have e939 : Rv h14 a0 13 = v1 := ((fxR F19 ta0 rfl).trans e2)
                      have e940 : Tg h14 v1 = 2006 := (fxT F19 t3)
                      have e941 : Rv h885 a0 13 = v1 := ((pIR hh884).trans e939)
                      have e942 : Tg h885 v1 = 2006 := ((pIT hh884).trans e940)
                      have e943 : Rv h889 a0 13 = v1 := ((pR_j hh888 (by decide)).trans e941)
                      have e944 : Tg h889 v1 = 2006 := ((pRT hh888).trans e942)
                      have e945 : Rv h893 a0 13 = v1 := ((pJR hh892).trans e943)
                      have e946 : Tg h893 v1 = 2006 := ((pJT hh892).trans e944)
                      have e947 : Rv h911 a0 13 = v1 := ((pJR hh910).trans e945)
                      have e948 : Tg h911 v1 = 2006 := ((pJT hh910).trans e946)
                      have e949 : Rv h914 a0 13 = v1 := ((fxR F918 e928 rfl).trans e947)
                      have e950 : Tg h914 v1 = 2006 := (fxT F918 e948)
                      have e951 : Rv h925 a0 13 = v1 := ((pIR hh924).trans e949)
                      have e952 : Tg h925 v1 = 2006 := ((pIT hh924).trans e950)
                      have p953 := (DOk_fx O926 ((Fx.rf (wr := [802]) (h := h925)).pI e927 hh931 rfl) e927 (by rw [e951]; exact e952) rfl (DOk_fx O917 ((Fx.rf (wr := [804]) (h := h914)).pI e923 hh924 rfl) e923 (by rw [e949]; exact e950) rfl (DOk_fx O912 F918 e928 (by rw [e947]; exact e948) rfl (DOk_fx O894 ((Fx.rf (wr := [805]) (h := h893)).pJ e895 hh910 rfl) e895 (by rw [e945]; exact e946) rfl (DOk_fx O890 ((Fx.rf (wr := [805]) (h := h889)).pJ e891 hh892 rfl) e891 (by rw [e943]; exact e944) rfl (DOk_fx O886 ((Fx.rf (wr := [806]) (h := h885)).pR e887 hh888 rfl) e887 (by rw [e941]; exact e942) rfl (DOk_fx O18 ((Fx.rf (wr := [803]) (h := h14)).pI e22 hh884 rfl) e22 (by rw [e939]; exact e940) rfl (DOk_fx O F19 ta0 (by rw [e2]; exact t3) rfl P_RInv.2.1))))))))
                      exact g_vret C hr ⟨O933, (((((((((Fx.rf (wr := wr_k_X3_advance)).call F19 rfl).pI e22 hh884 rfl).pR e887 hh888 rfl).pJ e891 hh892 rfl).pJ e895 hh910 rfl).call F918 rfl).pI e923 hh924 rfl).pI e927 hh931 rfl), (by unfold RInv; rw [e934, e935, e936, e937]; exact ⟨e938, p953, by omega, (Or.inl rfl)⟩)⟩ (by decide) (by decide) dX3_advance_404
                    · have f954 : (0 : Int) ≤ r913 ∧ r913 ≤ (2147483647 : Int) := r_ge f919 (il 0) q921 (by decide) (by decide)
                      refine g_iconst C dX3_advance_386 ?_
                      refine g_goto C 391 (by decide) dX3_advance_387 ?_
                      have e955 : Tg h914 a0 = 4 := (fxT F918 ((pJT hh910).trans e895))
                      refine gp_I C fk_LandSurvey_Reader_49 pk_LandSurvey_Reader_4 rfl e955 (iw (il 3) (by decide) (by decide)) (nf_i _) dX3_advance_391 (fun h957 hh956 => ?_)
                      have O958 := O917.pI e955 hh956 rI_4_4 (iw (il 3) (by decide) (by decide)) nofun
                      refine g_aload_n C rfl 1 rfl dX3_advance_394 ?_
                      refine g_dup C rfl dX3_advance_395 ?_
                      have e959 : Tg h957 a0 = 4 := ((pIT hh956).trans e955)
                      have e960 : Tg h911 a0 = 4 := ((pJT hh910).trans e895)
                      have e961 : Iv h957 a0 2 = v20 := ((pI_j hh956 (by decide)).trans ((fxI F918 e960 rfl).trans ((pJI hh910).trans e896)))
                      refine gf_I C fk_LandSurvey_Reader_30 rfl e959 e961 dX3_advance_396 ?_
                      refine g_iconst C dX3_advance_399 ?_
                      have f962 : (2 : Int) ≤ (v20 + 1) ∧ (v20 + 1) ≤ (1499 : Int) := ia_add f904 (il 1) (by decide) (by decide)
                      refine g_iadd C dX3_advance_400 ?_
                      refine gp_I C fk_LandSurvey_Reader_30 pk_LandSurvey_Reader_2 rfl e959 (iw f962 (by decide) (by decide)) (nf_i _) dX3_advance_401 (fun h964 hh963 => ?_)
                      have O965 := O958.pI e959 hh963 rI_4_2 (iw f962 (by decide) (by decide)) nofun
                      have e966 : Rv h964 a0 13 = v1 := ((pIR hh963).trans ((pIR hh956).trans ((fxR F918 e960 rfl).trans ((pJR hh910).trans ((pJR hh892).trans ((pR_j hh888 (by decide)).trans ((pIR hh884).trans ((fxR F19 ta0 rfl).trans e2))))))))
                      have e967 : Iv h964 a0 4 = 3 := ((pI_j hh963 (by decide)).trans (pI_e hh956))
                      have e968 : Jv h964 a0 5 = 0 := ((pIJ hh963).trans ((pIJ hh956).trans ((fxJ F918 e960 rfl).trans (pJ_e hh910))))
                      have e969 : Rv h964 a0 6 = 0 := ((pIR hh963).trans ((pIR hh956).trans ((fxR F918 e960 rfl).trans ((pJR hh910).trans ((pJR hh892).trans (pR_e hh888))))))
                      have e970 : Tg h964 v1 = 2006 := ((pIT hh963).trans ((pIT hh956).trans (fxT F918 ((pJT hh910).trans ((pJT hh892).trans ((pRT hh888).trans ((pIT hh884).trans (fxT F19 t3))))))))
                      have e971 : Rv h14 a0 13 = v1 := ((fxR F19 ta0 rfl).trans e2)
                      have e972 : Tg h14 v1 = 2006 := (fxT F19 t3)
                      have e973 : Rv h885 a0 13 = v1 := ((pIR hh884).trans e971)
                      have e974 : Tg h885 v1 = 2006 := ((pIT hh884).trans e972)
                      have e975 : Rv h889 a0 13 = v1 := ((pR_j hh888 (by decide)).trans e973)
                      have e976 : Tg h889 v1 = 2006 := ((pRT hh888).trans e974)
                      have e977 : Rv h893 a0 13 = v1 := ((pJR hh892).trans e975)
                      have e978 : Tg h893 v1 = 2006 := ((pJT hh892).trans e976)
                      have e979 : Rv h911 a0 13 = v1 := ((pJR hh910).trans e977)
                      have e980 : Tg h911 v1 = 2006 := ((pJT hh910).trans e978)
                      have e981 : Rv h914 a0 13 = v1 := ((fxR F918 e960 rfl).trans e979)
                      have e982 : Tg h914 v1 = 2006 := (fxT F918 e980)
                      have e983 : Rv h957 a0 13 = v1 := ((pIR hh956).trans e981)
                      have e984 : Tg h957 v1 = 2006 := ((pIT hh956).trans e982)
                      have p985 := (DOk_fx O958 ((Fx.rf (wr := [802]) (h := h957)).pI e959 hh963 rfl) e959 (by rw [e983]; exact e984) rfl (DOk_fx O917 ((Fx.rf (wr := [804]) (h := h914)).pI e955 hh956 rfl) e955 (by rw [e981]; exact e982) rfl (DOk_fx O912 F918 e960 (by rw [e979]; exact e980) rfl (DOk_fx O894 ((Fx.rf (wr := [805]) (h := h893)).pJ e895 hh910 rfl) e895 (by rw [e977]; exact e978) rfl (DOk_fx O890 ((Fx.rf (wr := [805]) (h := h889)).pJ e891 hh892 rfl) e891 (by rw [e975]; exact e976) rfl (DOk_fx O886 ((Fx.rf (wr := [806]) (h := h885)).pR e887 hh888 rfl) e887 (by rw [e973]; exact e974) rfl (DOk_fx O18 ((Fx.rf (wr := [803]) (h := h14)).pI e22 hh884 rfl) e22 (by rw [e971]; exact e972) rfl (DOk_fx O F19 ta0 (by rw [e2]; exact t3) rfl P_RInv.2.1))))))))
                      exact g_vret C hr ⟨O965, (((((((((Fx.rf (wr := wr_k_X3_advance)).call F19 rfl).pI e22 hh884 rfl).pR e887 hh888 rfl).pJ e891 hh892 rfl).pJ e895 hh910 rfl).call F918 rfl).pI e955 hh956 rfl).pI e959 hh963 rfl), (by unfold RInv; rw [e966, e967, e968, e969]; exact ⟨e970, p985, by omega, (Or.inl rfl)⟩)⟩ (by decide) (by decide) dX3_advance_404
                  · exact (no_le (il 48) (il 0) q909 (by decide)).elim
                · exact (no_le (il 97) (il 0) q907 (by decide)).elim
              · refine g_aload_n C rfl 1 rfl dX3_advance_106 ?_
                refine g_iconst C dX3_advance_107 ?_
                refine gp_I C fk_LandSurvey_Reader_49 pk_LandSurvey_Reader_4 rfl e895 (iw (il 0) (by decide) (by decide)) (nf_i _) dX3_advance_108 (fun h987 hh986 => ?_)
                have O988 := O894.pI e895 hh986 rI_4_4 (iw (il 0) (by decide) (by decide)) nofun
                refine g_goto C 404 (by decide) dX3_advance_111 ?_
                have e989 : Rv h987 a0 13 = v1 := ((pIR hh986).trans ((pJR hh892).trans ((pR_j hh888 (by decide)).trans ((pIR hh884).trans ((fxR F19 ta0 rfl).trans e2)))))
                have e990 : Jv h987 a0 5 = 0 := ((pIJ hh986).trans (pJ_e hh892))
                have e991 : Rv h987 a0 6 = 0 := ((pIR hh986).trans ((pJR hh892).trans (pR_e hh888)))
                have e992 : Tg h987 v1 = 2006 := ((pIT hh986).trans ((pJT hh892).trans ((pRT hh888).trans ((pIT hh884).trans (fxT F19 t3)))))
                have e993 : Rv h14 a0 13 = v1 := ((fxR F19 ta0 rfl).trans e2)
                have e994 : Tg h14 v1 = 2006 := (fxT F19 t3)
                have e995 : Rv h885 a0 13 = v1 := ((pIR hh884).trans e993)
                have e996 : Tg h885 v1 = 2006 := ((pIT hh884).trans e994)
                have e997 : Rv h889 a0 13 = v1 := ((pR_j hh888 (by decide)).trans e995)
                have e998 : Tg h889 v1 = 2006 := ((pRT hh888).trans e996)
                have e999 : Rv h893 a0 13 = v1 := ((pJR hh892).trans e997)
                have e1000 : Tg h893 v1 = 2006 := ((pJT hh892).trans e998)
                have p1001 := (DOk_fx O894 ((Fx.rf (wr := [804]) (h := h893)).pI e895 hh986 rfl) e895 (by rw [e999]; exact e1000) rfl (DOk_fx O890 ((Fx.rf (wr := [805]) (h := h889)).pJ e891 hh892 rfl) e891 (by rw [e997]; exact e998) rfl (DOk_fx O886 ((Fx.rf (wr := [806]) (h := h885)).pR e887 hh888 rfl) e887 (by rw [e995]; exact e996) rfl (DOk_fx O18 ((Fx.rf (wr := [803]) (h := h14)).pI e22 hh884 rfl) e22 (by rw [e993]; exact e994) rfl (DOk_fx O F19 ta0 (by rw [e2]; exact t3) rfl P_RInv.2.1)))))
                exact g_vret C hr ⟨O988, ((((((Fx.rf (wr := wr_k_X3_advance)).call F19 rfl).pI e22 hh884 rfl).pR e887 hh888 rfl).pJ e891 hh892 rfl).pI e895 hh986 rfl), (by unfold RInv; rw [e989, (pI_e hh986), e990, e991]; exact ⟨e992, p1001, by omega, (Or.inl rfl)⟩)⟩ (by decide) (by decide) dX3_advance_404
            · refine g_aload_n C rfl 0 rfl dX3_advance_81 ?_
              have e1002 : Rv h893 a0 0 = v867 := ((pJR hh892).trans ((pR_j hh888 (by decide)).trans ((pIR hh884).trans e868)))
              refine gf_R C fk_LandSurvey_Reader_9 rfl e895 e1002 dX3_advance_82 ?_
              refine g_aload_n C rfl 0 rfl dX3_advance_85 ?_
              refine gf_I C fk_LandSurvey_Reader_30 rfl e895 e896 dX3_advance_86 ?_
              have e1003 : Tg h893 v867 = 19103 := ((pJT hh892).trans ((pRT hh888).trans ((pIT hh884).trans t869)))
              have e1004 : Ln h893 v867 = 1500 := ((pJL hh892).trans ((pRL hh888).trans ((pIL hh884).trans l870)))
              have e1005 : Iv h893 v867 v20.toNat = v871 := ((pJI hh892).trans ((pRI hh888).trans ((pI_n hh884 (ne_tag t869 e22 (by decide))).trans e872)))
              refine g_cald C e1003 rfl e1004 (ix f865 (by decide) (by decide)) e1005 dX3_advance_89 ?_
              refine g_goto C 94 (by decide) dX3_advance_90 ?_
              refine g_istore_n C [(1, .inl v871), (0, .inr (.inr a0))] rfl (by decide) rfl dX3_advance_94 ?_
              refine g_aload_n C rfl 1 rfl dX3_advance_95 ?_
              refine gf_I C fk_LandSurvey_Reader_30 rfl e895 e896 dX3_advance_96 ?_
              refine g_aload_n C rfl 1 rfl dX3_advance_99 ?_
              refine gf_I C fk_LandSurvey_Reader_19 rfl e895 e897 dX3_advance_100 ?_
              refine g_icmp_lt C (iw f865 (by decide) (by decide)) (iw f866 (by decide) (by decide)) 114 (by decide) dX3_advance_103 (fun q1006 => ?_) (fun q1007 => ?_)
              · refine g_iload_n C rfl 0 rfl dX3_advance_114 ?_
                refine g_bipush C (by decide) dX3_advance_115 ?_
                refine g_icmp_lt C (iw f873 (by decide) (by decide)) (iw (il 97) (by decide) (by decide)) 255 (by decide) dX3_advance_117 (fun q1008 => ?_) (fun q1009 => ?_)
                · have f1010 : (0 : Int) ≤ v871 ∧ v871 ≤ (96 : Int) := r_lt f873 (il 97) q1008 (by decide) (by decide)
                  refine g_iload_n C rfl 0 rfl dX3_advance_255 ?_
                  refine g_bipush C (by decide) dX3_advance_256 ?_
                  refine g_icmp_lt C (iw f1010 (by decide) (by decide)) (iw (il 48) (by decide) (by decide)) 370 (by decide) dX3_advance_258 (fun q1011 => ?_) (fun q1012 => ?_)
                  · have f1013 : (0 : Int) ≤ v871 ∧ v871 ≤ (47 : Int) := r_lt f1010 (il 48) q1011 (by decide) (by decide)
                    refine g_aload_n C rfl 1 rfl dX3_advance_370 ?_
                    refine g_iload_n C rfl 0 rfl dX3_advance_371 ?_
                    refine g_i2l C (iw f1013 (by decide) (by decide)) dX3_advance_372 ?_
                    refine gp_J C fk_LandSurvey_Reader_73 pk_LandSurvey_Reader_5 rfl e895 rfl (iw f1013 (by decide) (by decide)) dX3_advance_373 (fun h1015 hh1014 => ?_)
                    have O1016 := O894.pJ hh1014 (iw f1013 (by decide) (by decide))
                    refine g_aload_n C rfl 1 rfl dX3_advance_376 ?_
                    refine g_ldcS C C.2.2.2.2.1.2 dX3_advance_377 ?_
                    refine g_iload_n C rfl 0 rfl dX3_advance_379 ?_
                    refine g_callI (st := [.inr (.inr a0)]) (gc_VS C lk_LandSurvey_Reader_89 rfl (k_J0_indexOf_0f7a4 l D cy w z0 O1016 (iw f1013 (by decide) (by decide))) rfl ⟨by decide, by decide⟩ (Nat.le_of_ble_eq_true rfl) dX3_advance_380 ⟨(by decide), (by decide)⟩) (fun r1017 h1018 f1020 K1019 => ?_)
                    obtain ⟨O1021, F1022, f1023⟩ := K1019
                    refine g_if_lt C f1023 390 (by decide) dX3_advance_383 (fun q1024 => ?_) (fun q1025 => ?_)
                    · have f1026 : (-2147483648 : Int) ≤ r1017 ∧ r1017 ≤ (-1 : Int) := r_lt f1023 (il 0) q1024 (by decide) (by decide)
                      refine g_iconst C dX3_advance_390 ?_
                      have e1027 : Tg h1018 a0 = 4 := (fxT F1022 ((pJT hh1014).trans e895))
                      refine gp_I C fk_LandSurvey_Reader_49 pk_LandSurvey_Reader_4 rfl e1027 (iw (il 4) (by decide) (by decide)) (nf_i _) dX3_advance_391 (fun h1029 hh1028 => ?_)
                      have O1030 := O1021.pI e1027 hh1028 rI_4_4 (iw (il 4) (by decide) (by decide)) nofun
                      refine g_aload_n C rfl 1 rfl dX3_advance_394 ?_
                      refine g_dup C rfl dX3_advance_395 ?_
                      have e1031 : Tg h1029 a0 = 4 := ((pIT hh1028).trans e1027)
                      have e1032 : Tg h1015 a0 = 4 := ((pJT hh1014).trans e895)
                      have e1033 : Iv h1029 a0 2 = v20 := ((pI_j hh1028 (by decide)).trans ((fxI F1022 e1032 rfl).trans ((pJI hh1014).trans e896)))
                      refine gf_I C fk_LandSurvey_Reader_30 rfl e1031 e1033 dX3_advance_396 ?_
                      refine g_iconst C dX3_advance_399 ?_
                      have f1034 : (1 : Int) ≤ (v20 + 1) ∧ (v20 + 1) ≤ (1500 : Int) := ia_add f865 (il 1) (by decide) (by decide)
                      refine g_iadd C dX3_advance_400 ?_
                      refine gp_I C fk_LandSurvey_Reader_30 pk_LandSurvey_Reader_2 rfl e1031 (iw f1034 (by decide) (by decide)) (nf_i _) dX3_advance_401 (fun h1036 hh1035 => ?_)
                      have O1037 := O1030.pI e1031 hh1035 rI_4_2 (iw f1034 (by decide) (by decide)) nofun
                      have e1038 : Rv h1036 a0 13 = v1 := ((pIR hh1035).trans ((pIR hh1028).trans ((fxR F1022 e1032 rfl).trans ((pJR hh1014).trans ((pJR hh892).trans ((pR_j hh888 (by decide)).trans ((pIR hh884).trans ((fxR F19 ta0 rfl).trans e2))))))))
                      have e1039 : Iv h1036 a0 4 = 4 := ((pI_j hh1035 (by decide)).trans (pI_e hh1028))
                      have e1040 : Jv h1036 a0 5 = v871 := ((pIJ hh1035).trans ((pIJ hh1028).trans ((fxJ F1022 e1032 rfl).trans (pJ_e hh1014))))
                      have e1041 : Rv h1036 a0 6 = 0 := ((pIR hh1035).trans ((pIR hh1028).trans ((fxR F1022 e1032 rfl).trans ((pJR hh1014).trans ((pJR hh892).trans (pR_e hh888))))))
                      have e1042 : Tg h1036 v1 = 2006 := ((pIT hh1035).trans ((pIT hh1028).trans (fxT F1022 ((pJT hh1014).trans ((pJT hh892).trans ((pRT hh888).trans ((pIT hh884).trans (fxT F19 t3))))))))
                      have e1043 : Rv h14 a0 13 = v1 := ((fxR F19 ta0 rfl).trans e2)
                      have e1044 : Tg h14 v1 = 2006 := (fxT F19 t3)
                      have e1045 : Rv h885 a0 13 = v1 := ((pIR hh884).trans e1043)
                      have e1046 : Tg h885 v1 = 2006 := ((pIT hh884).trans e1044)
                      have e1047 : Rv h889 a0 13 = v1 := ((pR_j hh888 (by decide)).trans e1045)
                      have e1048 : Tg h889 v1 = 2006 := ((pRT hh888).trans e1046)
                      have e1049 : Rv h893 a0 13 = v1 := ((pJR hh892).trans e1047)
                      have e1050 : Tg h893 v1 = 2006 := ((pJT hh892).trans e1048)
                      have e1051 : Rv h1015 a0 13 = v1 := ((pJR hh1014).trans e1049)
                      have e1052 : Tg h1015 v1 = 2006 := ((pJT hh1014).trans e1050)
                      have e1053 : Rv h1018 a0 13 = v1 := ((fxR F1022 e1032 rfl).trans e1051)
                      have e1054 : Tg h1018 v1 = 2006 := (fxT F1022 e1052)
                      have e1055 : Rv h1029 a0 13 = v1 := ((pIR hh1028).trans e1053)
                      have e1056 : Tg h1029 v1 = 2006 := ((pIT hh1028).trans e1054)
                      have p1057 := (DOk_fx O1030 ((Fx.rf (wr := [802]) (h := h1029)).pI e1031 hh1035 rfl) e1031 (by rw [e1055]; exact e1056) rfl (DOk_fx O1021 ((Fx.rf (wr := [804]) (h := h1018)).pI e1027 hh1028 rfl) e1027 (by rw [e1053]; exact e1054) rfl (DOk_fx O1016 F1022 e1032 (by rw [e1051]; exact e1052) rfl (DOk_fx O894 ((Fx.rf (wr := [805]) (h := h893)).pJ e895 hh1014 rfl) e895 (by rw [e1049]; exact e1050) rfl (DOk_fx O890 ((Fx.rf (wr := [805]) (h := h889)).pJ e891 hh892 rfl) e891 (by rw [e1047]; exact e1048) rfl (DOk_fx O886 ((Fx.rf (wr := [806]) (h := h885)).pR e887 hh888 rfl) e887 (by rw [e1045]; exact e1046) rfl (DOk_fx O18 ((Fx.rf (wr := [803]) (h := h14)).pI e22 hh884 rfl) e22 (by rw [e1043]; exact e1044) rfl (DOk_fx O F19 ta0 (by rw [e2]; exact t3) rfl P_RInv.2.1))))))))
                      exact g_vret C hr ⟨O1037, (((((((((Fx.rf (wr := wr_k_X3_advance)).call F19 rfl).pI e22 hh884 rfl).pR e887 hh888 rfl).pJ e891 hh892 rfl).pJ e895 hh1014 rfl).call F1022 rfl).pI e1027 hh1028 rfl).pI e1031 hh1035 rfl), (by unfold RInv; rw [e1038, e1039, e1040, e1041]; exact ⟨e1042, p1057, by omega, (Or.inl rfl)⟩)⟩ (by decide) (by decide) dX3_advance_404
                    · have f1058 : (0 : Int) ≤ r1017 ∧ r1017 ≤ (2147483647 : Int) := r_ge f1023 (il 0) q1025 (by decide) (by decide)
                      refine g_iconst C dX3_advance_386 ?_
                      refine g_goto C 391 (by decide) dX3_advance_387 ?_
                      have e1059 : Tg h1018 a0 = 4 := (fxT F1022 ((pJT hh1014).trans e895))
                      refine gp_I C fk_LandSurvey_Reader_49 pk_LandSurvey_Reader_4 rfl e1059 (iw (il 3) (by decide) (by decide)) (nf_i _) dX3_advance_391 (fun h1061 hh1060 => ?_)
                      have O1062 := O1021.pI e1059 hh1060 rI_4_4 (iw (il 3) (by decide) (by decide)) nofun
                      refine g_aload_n C rfl 1 rfl dX3_advance_394 ?_
                      refine g_dup C rfl dX3_advance_395 ?_
                      have e1063 : Tg h1061 a0 = 4 := ((pIT hh1060).trans e1059)
                      have e1064 : Tg h1015 a0 = 4 := ((pJT hh1014).trans e895)
                      have e1065 : Iv h1061 a0 2 = v20 := ((pI_j hh1060 (by decide)).trans ((fxI F1022 e1064 rfl).trans ((pJI hh1014).trans e896)))
                      refine gf_I C fk_LandSurvey_Reader_30 rfl e1063 e1065 dX3_advance_396 ?_
                      refine g_iconst C dX3_advance_399 ?_
                      have f1066 : (1 : Int) ≤ (v20 + 1) ∧ (v20 + 1) ≤ (1500 : Int) := ia_add f865 (il 1) (by decide) (by decide)
                      refine g_iadd C dX3_advance_400 ?_
                      refine gp_I C fk_LandSurvey_Reader_30 pk_LandSurvey_Reader_2 rfl e1063 (iw f1066 (by decide) (by decide)) (nf_i _) dX3_advance_401 (fun h1068 hh1067 => ?_)
                      have O1069 := O1062.pI e1063 hh1067 rI_4_2 (iw f1066 (by decide) (by decide)) nofun
                      have e1070 : Rv h1068 a0 13 = v1 := ((pIR hh1067).trans ((pIR hh1060).trans ((fxR F1022 e1064 rfl).trans ((pJR hh1014).trans ((pJR hh892).trans ((pR_j hh888 (by decide)).trans ((pIR hh884).trans ((fxR F19 ta0 rfl).trans e2))))))))
                      have e1071 : Iv h1068 a0 4 = 3 := ((pI_j hh1067 (by decide)).trans (pI_e hh1060))
                      have e1072 : Jv h1068 a0 5 = v871 := ((pIJ hh1067).trans ((pIJ hh1060).trans ((fxJ F1022 e1064 rfl).trans (pJ_e hh1014))))
                      have e1073 : Rv h1068 a0 6 = 0 := ((pIR hh1067).trans ((pIR hh1060).trans ((fxR F1022 e1064 rfl).trans ((pJR hh1014).trans ((pJR hh892).trans (pR_e hh888))))))
                      have e1074 : Tg h1068 v1 = 2006 := ((pIT hh1067).trans ((pIT hh1060).trans (fxT F1022 ((pJT hh1014).trans ((pJT hh892).trans ((pRT hh888).trans ((pIT hh884).trans (fxT F19 t3))))))))
                      have e1075 : Rv h14 a0 13 = v1 := ((fxR F19 ta0 rfl).trans e2)
                      have e1076 : Tg h14 v1 = 2006 := (fxT F19 t3)
                      have e1077 : Rv h885 a0 13 = v1 := ((pIR hh884).trans e1075)
                      have e1078 : Tg h885 v1 = 2006 := ((pIT hh884).trans e1076)
                      have e1079 : Rv h889 a0 13 = v1 := ((pR_j hh888 (by decide)).trans e1077)
                      have e1080 : Tg h889 v1 = 2006 := ((pRT hh888).trans e1078)
                      have e1081 : Rv h893 a0 13 = v1 := ((pJR hh892).trans e1079)
                      have e1082 : Tg h893 v1 = 2006 := ((pJT hh892).trans e1080)
                      have e1083 : Rv h1015 a0 13 = v1 := ((pJR hh1014).trans e1081)
                      have e1084 : Tg h1015 v1 = 2006 := ((pJT hh1014).trans e1082)
                      have e1085 : Rv h1018 a0 13 = v1 := ((fxR F1022 e1064 rfl).trans e1083)
                      have e1086 : Tg h1018 v1 = 2006 := (fxT F1022 e1084)
                      have e1087 : Rv h1061 a0 13 = v1 := ((pIR hh1060).trans e1085)
                      have e1088 : Tg h1061 v1 = 2006 := ((pIT hh1060).trans e1086)
                      have p1089 := (DOk_fx O1062 ((Fx.rf (wr := [802]) (h := h1061)).pI e1063 hh1067 rfl) e1063 (by rw [e1087]; exact e1088) rfl (DOk_fx O1021 ((Fx.rf (wr := [804]) (h := h1018)).pI e1059 hh1060 rfl) e1059 (by rw [e1085]; exact e1086) rfl (DOk_fx O1016 F1022 e1064 (by rw [e1083]; exact e1084) rfl (DOk_fx O894 ((Fx.rf (wr := [805]) (h := h893)).pJ e895 hh1014 rfl) e895 (by rw [e1081]; exact e1082) rfl (DOk_fx O890 ((Fx.rf (wr := [805]) (h := h889)).pJ e891 hh892 rfl) e891 (by rw [e1079]; exact e1080) rfl (DOk_fx O886 ((Fx.rf (wr := [806]) (h := h885)).pR e887 hh888 rfl) e887 (by rw [e1077]; exact e1078) rfl (DOk_fx O18 ((Fx.rf (wr := [803]) (h := h14)).pI e22 hh884 rfl) e22 (by rw [e1075]; exact e1076) rfl (DOk_fx O F19 ta0 (by rw [e2]; exact t3) rfl P_RInv.2.1))))))))
                      exact g_vret C hr ⟨O1069, (((((((((Fx.rf (wr := wr_k_X3_advance)).call F19 rfl).pI e22 hh884 rfl).pR e887 hh888 rfl).pJ e891 hh892 rfl).pJ e895 hh1014 rfl).call F1022 rfl).pI e1059 hh1060 rfl).pI e1063 hh1067 rfl), (by unfold RInv; rw [e1070, e1071, e1072, e1073]; exact ⟨e1074, p1089, by omega, (Or.inl rfl)⟩)⟩ (by decide) (by decide) dX3_advance_404
                  · have f1090 : (48 : Int) ≤ v871 ∧ v871 ≤ (96 : Int) := r_ge f1010 (il 48) q1012 (by decide) (by decide)
                    refine g_iload_n C rfl 0 rfl dX3_advance_261 ?_
                    refine g_bipush C (by decide) dX3_advance_262 ?_
                    refine g_icmp_gt C (iw f1090 (by decide) (by decide)) (iw (il 57) (by decide) (by decide)) 370 (by decide) dX3_advance_264 (fun q1091 => ?_) (fun q1092 => ?_)
                    · have f1093 : (58 : Int) ≤ v871 ∧ v871 ≤ (96 : Int) := r_gt f1090 (il 57) q1091 (by decide) (by decide)
                      refine g_aload_n C rfl 1 rfl dX3_advance_370 ?_
                      refine g_iload_n C rfl 0 rfl dX3_advance_371 ?_
                      refine g_i2l C (iw f1093 (by decide) (by decide)) dX3_advance_372 ?_
                      refine gp_J C fk_LandSurvey_Reader_73 pk_LandSurvey_Reader_5 rfl e895 rfl (iw f1093 (by decide) (by decide)) dX3_advance_373 (fun h1095 hh1094 => ?_)
                      have O1096 := O894.pJ hh1094 (iw f1093 (by decide) (by decide))
                      refine g_aload_n C rfl 1 rfl dX3_advance_376 ?_
                      refine g_ldcS C C.2.2.2.2.1.2 dX3_advance_377 ?_
                      refine g_iload_n C rfl 0 rfl dX3_advance_379 ?_
                      refine g_callI (st := [.inr (.inr a0)]) (gc_VS C lk_LandSurvey_Reader_89 rfl (k_J0_indexOf_0f7a4 l D cy w z0 O1096 (iw f1093 (by decide) (by decide))) rfl ⟨by decide, by decide⟩ (Nat.le_of_ble_eq_true rfl) dX3_advance_380 ⟨(by decide), (by decide)⟩) (fun r1097 h1098 f1100 K1099 => ?_)
                      obtain ⟨O1101, F1102, f1103⟩ := K1099
                      refine g_if_lt C f1103 390 (by decide) dX3_advance_383 (fun q1104 => ?_) (fun q1105 => ?_)
                      · have f1106 : (-2147483648 : Int) ≤ r1097 ∧ r1097 ≤ (-1 : Int) := r_lt f1103 (il 0) q1104 (by decide) (by decide)
                        refine g_iconst C dX3_advance_390 ?_
                        have e1107 : Tg h1098 a0 = 4 := (fxT F1102 ((pJT hh1094).trans e895))
                        refine gp_I C fk_LandSurvey_Reader_49 pk_LandSurvey_Reader_4 rfl e1107 (iw (il 4) (by decide) (by decide)) (nf_i _) dX3_advance_391 (fun h1109 hh1108 => ?_)
                        have O1110 := O1101.pI e1107 hh1108 rI_4_4 (iw (il 4) (by decide) (by decide)) nofun
                        refine g_aload_n C rfl 1 rfl dX3_advance_394 ?_
                        refine g_dup C rfl dX3_advance_395 ?_
                        have e1111 : Tg h1109 a0 = 4 := ((pIT hh1108).trans e1107)
                        have e1112 : Tg h1095 a0 = 4 := ((pJT hh1094).trans e895)
                        have e1113 : Iv h1109 a0 2 = v20 := ((pI_j hh1108 (by decide)).trans ((fxI F1102 e1112 rfl).trans ((pJI hh1094).trans e896)))
                        refine gf_I C fk_LandSurvey_Reader_30 rfl e1111 e1113 dX3_advance_396 ?_
                        refine g_iconst C dX3_advance_399 ?_
                        have f1114 : (1 : Int) ≤ (v20 + 1) ∧ (v20 + 1) ≤ (1500 : Int) := ia_add f865 (il 1) (by decide) (by decide)
                        refine g_iadd C dX3_advance_400 ?_
                        refine gp_I C fk_LandSurvey_Reader_30 pk_LandSurvey_Reader_2 rfl e1111 (iw f1114 (by decide) (by decide)) (nf_i _) dX3_advance_401 (fun h1116 hh1115 => ?_)
                        have O1117 := O1110.pI e1111 hh1115 rI_4_2 (iw f1114 (by decide) (by decide)) nofun
                        have e1118 : Rv h1116 a0 13 = v1 := ((pIR hh1115).trans ((pIR hh1108).trans ((fxR F1102 e1112 rfl).trans ((pJR hh1094).trans ((pJR hh892).trans ((pR_j hh888 (by decide)).trans ((pIR hh884).trans ((fxR F19 ta0 rfl).trans e2))))))))
                        have e1119 : Iv h1116 a0 4 = 4 := ((pI_j hh1115 (by decide)).trans (pI_e hh1108))
                        have e1120 : Jv h1116 a0 5 = v871 := ((pIJ hh1115).trans ((pIJ hh1108).trans ((fxJ F1102 e1112 rfl).trans (pJ_e hh1094))))
                        have e1121 : Rv h1116 a0 6 = 0 := ((pIR hh1115).trans ((pIR hh1108).trans ((fxR F1102 e1112 rfl).trans ((pJR hh1094).trans ((pJR hh892).trans (pR_e hh888))))))
                        have e1122 : Tg h1116 v1 = 2006 := ((pIT hh1115).trans ((pIT hh1108).trans (fxT F1102 ((pJT hh1094).trans ((pJT hh892).trans ((pRT hh888).trans ((pIT hh884).trans (fxT F19 t3))))))))
                        have e1123 : Rv h14 a0 13 = v1 := ((fxR F19 ta0 rfl).trans e2)
                        have e1124 : Tg h14 v1 = 2006 := (fxT F19 t3)
                        have e1125 : Rv h885 a0 13 = v1 := ((pIR hh884).trans e1123)
                        have e1126 : Tg h885 v1 = 2006 := ((pIT hh884).trans e1124)
                        have e1127 : Rv h889 a0 13 = v1 := ((pR_j hh888 (by decide)).trans e1125)
                        have e1128 : Tg h889 v1 = 2006 := ((pRT hh888).trans e1126)
                        have e1129 : Rv h893 a0 13 = v1 := ((pJR hh892).trans e1127)
                        have e1130 : Tg h893 v1 = 2006 := ((pJT hh892).trans e1128)
                        have e1131 : Rv h1095 a0 13 = v1 := ((pJR hh1094).trans e1129)
                        have e1132 : Tg h1095 v1 = 2006 := ((pJT hh1094).trans e1130)
                        have e1133 : Rv h1098 a0 13 = v1 := ((fxR F1102 e1112 rfl).trans e1131)
                        have e1134 : Tg h1098 v1 = 2006 := (fxT F1102 e1132)
                        have e1135 : Rv h1109 a0 13 = v1 := ((pIR hh1108).trans e1133)
                        have e1136 : Tg h1109 v1 = 2006 := ((pIT hh1108).trans e1134)
                        have p1137 := (DOk_fx O1110 ((Fx.rf (wr := [802]) (h := h1109)).pI e1111 hh1115 rfl) e1111 (by rw [e1135]; exact e1136) rfl (DOk_fx O1101 ((Fx.rf (wr := [804]) (h := h1098)).pI e1107 hh1108 rfl) e1107 (by rw [e1133]; exact e1134) rfl (DOk_fx O1096 F1102 e1112 (by rw [e1131]; exact e1132) rfl (DOk_fx O894 ((Fx.rf (wr := [805]) (h := h893)).pJ e895 hh1094 rfl) e895 (by rw [e1129]; exact e1130) rfl (DOk_fx O890 ((Fx.rf (wr := [805]) (h := h889)).pJ e891 hh892 rfl) e891 (by rw [e1127]; exact e1128) rfl (DOk_fx O886 ((Fx.rf (wr := [806]) (h := h885)).pR e887 hh888 rfl) e887 (by rw [e1125]; exact e1126) rfl (DOk_fx O18 ((Fx.rf (wr := [803]) (h := h14)).pI e22 hh884 rfl) e22 (by rw [e1123]; exact e1124) rfl (DOk_fx O F19 ta0 (by rw [e2]; exact t3) rfl P_RInv.2.1))))))))
                        exact g_vret C hr ⟨O1117, (((((((((Fx.rf (wr := wr_k_X3_advance)).call F19 rfl).pI e22 hh884 rfl).pR e887 hh888 rfl).pJ e891 hh892 rfl).pJ e895 hh1094 rfl).call F1102 rfl).pI e1107 hh1108 rfl).pI e1111 hh1115 rfl), (by unfold RInv; rw [e1118, e1119, e1120, e1121]; exact ⟨e1122, p1137, by omega, (Or.inl rfl)⟩)⟩ (by decide) (by decide) dX3_advance_404
                      · have f1138 : (0 : Int) ≤ r1097 ∧ r1097 ≤ (2147483647 : Int) := r_ge f1103 (il 0) q1105 (by decide) (by decide)
                        refine g_iconst C dX3_advance_386 ?_
                        refine g_goto C 391 (by decide) dX3_advance_387 ?_
                        have e1139 : Tg h1098 a0 = 4 := (fxT F1102 ((pJT hh1094).trans e895))
                        refine gp_I C fk_LandSurvey_Reader_49 pk_LandSurvey_Reader_4 rfl e1139 (iw (il 3) (by decide) (by decide)) (nf_i _) dX3_advance_391 (fun h1141 hh1140 => ?_)
                        have O1142 := O1101.pI e1139 hh1140 rI_4_4 (iw (il 3) (by decide) (by decide)) nofun
                        refine g_aload_n C rfl 1 rfl dX3_advance_394 ?_
                        refine g_dup C rfl dX3_advance_395 ?_
                        have e1143 : Tg h1141 a0 = 4 := ((pIT hh1140).trans e1139)
                        have e1144 : Tg h1095 a0 = 4 := ((pJT hh1094).trans e895)
                        have e1145 : Iv h1141 a0 2 = v20 := ((pI_j hh1140 (by decide)).trans ((fxI F1102 e1144 rfl).trans ((pJI hh1094).trans e896)))
                        refine gf_I C fk_LandSurvey_Reader_30 rfl e1143 e1145 dX3_advance_396 ?_
                        refine g_iconst C dX3_advance_399 ?_
                        have f1146 : (1 : Int) ≤ (v20 + 1) ∧ (v20 + 1) ≤ (1500 : Int) := ia_add f865 (il 1) (by decide) (by decide)
                        refine g_iadd C dX3_advance_400 ?_
                        refine gp_I C fk_LandSurvey_Reader_30 pk_LandSurvey_Reader_2 rfl e1143 (iw f1146 (by decide) (by decide)) (nf_i _) dX3_advance_401 (fun h1148 hh1147 => ?_)
                        have O1149 := O1142.pI e1143 hh1147 rI_4_2 (iw f1146 (by decide) (by decide)) nofun
                        have e1150 : Rv h1148 a0 13 = v1 := ((pIR hh1147).trans ((pIR hh1140).trans ((fxR F1102 e1144 rfl).trans ((pJR hh1094).trans ((pJR hh892).trans ((pR_j hh888 (by decide)).trans ((pIR hh884).trans ((fxR F19 ta0 rfl).trans e2))))))))
                        have e1151 : Iv h1148 a0 4 = 3 := ((pI_j hh1147 (by decide)).trans (pI_e hh1140))
                        have e1152 : Jv h1148 a0 5 = v871 := ((pIJ hh1147).trans ((pIJ hh1140).trans ((fxJ F1102 e1144 rfl).trans (pJ_e hh1094))))
                        have e1153 : Rv h1148 a0 6 = 0 := ((pIR hh1147).trans ((pIR hh1140).trans ((fxR F1102 e1144 rfl).trans ((pJR hh1094).trans ((pJR hh892).trans (pR_e hh888))))))
                        have e1154 : Tg h1148 v1 = 2006 := ((pIT hh1147).trans ((pIT hh1140).trans (fxT F1102 ((pJT hh1094).trans ((pJT hh892).trans ((pRT hh888).trans ((pIT hh884).trans (fxT F19 t3))))))))
                        have e1155 : Rv h14 a0 13 = v1 := ((fxR F19 ta0 rfl).trans e2)
                        have e1156 : Tg h14 v1 = 2006 := (fxT F19 t3)
                        have e1157 : Rv h885 a0 13 = v1 := ((pIR hh884).trans e1155)
                        have e1158 : Tg h885 v1 = 2006 := ((pIT hh884).trans e1156)
                        have e1159 : Rv h889 a0 13 = v1 := ((pR_j hh888 (by decide)).trans e1157)
                        have e1160 : Tg h889 v1 = 2006 := ((pRT hh888).trans e1158)
                        have e1161 : Rv h893 a0 13 = v1 := ((pJR hh892).trans e1159)
                        have e1162 : Tg h893 v1 = 2006 := ((pJT hh892).trans e1160)
                        have e1163 : Rv h1095 a0 13 = v1 := ((pJR hh1094).trans e1161)
                        have e1164 : Tg h1095 v1 = 2006 := ((pJT hh1094).trans e1162)
                        have e1165 : Rv h1098 a0 13 = v1 := ((fxR F1102 e1144 rfl).trans e1163)
                        have e1166 : Tg h1098 v1 = 2006 := (fxT F1102 e1164)
                        have e1167 : Rv h1141 a0 13 = v1 := ((pIR hh1140).trans e1165)
                        have e1168 : Tg h1141 v1 = 2006 := ((pIT hh1140).trans e1166)
                        have p1169 := (DOk_fx O1142 ((Fx.rf (wr := [802]) (h := h1141)).pI e1143 hh1147 rfl) e1143 (by rw [e1167]; exact e1168) rfl (DOk_fx O1101 ((Fx.rf (wr := [804]) (h := h1098)).pI e1139 hh1140 rfl) e1139 (by rw [e1165]; exact e1166) rfl (DOk_fx O1096 F1102 e1144 (by rw [e1163]; exact e1164) rfl (DOk_fx O894 ((Fx.rf (wr := [805]) (h := h893)).pJ e895 hh1094 rfl) e895 (by rw [e1161]; exact e1162) rfl (DOk_fx O890 ((Fx.rf (wr := [805]) (h := h889)).pJ e891 hh892 rfl) e891 (by rw [e1159]; exact e1160) rfl (DOk_fx O886 ((Fx.rf (wr := [806]) (h := h885)).pR e887 hh888 rfl) e887 (by rw [e1157]; exact e1158) rfl (DOk_fx O18 ((Fx.rf (wr := [803]) (h := h14)).pI e22 hh884 rfl) e22 (by rw [e1155]; exact e1156) rfl (DOk_fx O F19 ta0 (by rw [e2]; exact t3) rfl P_RInv.2.1))))))))
                        exact g_vret C hr ⟨O1149, (((((((((Fx.rf (wr := wr_k_X3_advance)).call F19 rfl).pI e22 hh884 rfl).pR e887 hh888 rfl).pJ e891 hh892 rfl).pJ e895 hh1094 rfl).call F1102 rfl).pI e1139 hh1140 rfl).pI e1143 hh1147 rfl), (by unfold RInv; rw [e1150, e1151, e1152, e1153]; exact ⟨e1154, p1169, by omega, (Or.inl rfl)⟩)⟩ (by decide) (by decide) dX3_advance_404
                    · have f1170 : (48 : Int) ≤ v871 ∧ v871 ≤ (57 : Int) := r_le f1090 (il 57) q1092 (by decide) (by decide)
                      refine GW.sub [1, 0] rfl ?_
                      -- loop at 267
                      have L1172 : ∀ (μ : Nat) (h1171 : Hp), (1500 - Iv h1171 a0 2).toNat = μ → Okh h1171 → Fx [802, 805] h893 h1171 → (0 ≤ (Iv h1171 a0 2 - Iv h1171 a0 3) ∧ ((Iv h1171 a0 2 - Iv h1171 a0 3) ≤ 4 → 0 ≤ Jv h1171 a0 5) ∧ ((Iv h1171 a0 2 - Iv h1171 a0 3) ≤ 0 → Jv h1171 a0 5 ≤ 0) ∧ ((Iv h1171 a0 2 - Iv h1171 a0 3) ≤ 1 → Jv h1171 a0 5 ≤ 9) ∧ ((Iv h1171 a0 2 - Iv h1171 a0 3) ≤ 2 → Jv h1171 a0 5 ≤ 99) ∧ ((Iv h1171 a0 2 - Iv h1171 a0 3) ≤ 3 → Jv h1171 a0 5 ≤ 999) ∧ ((Iv h1171 a0 2 - Iv h1171 a0 3) ≤ 4 → Jv h1171 a0 5 ≤ 9999)) → GW p l e (rmm 4 91 0 0) s m (List.map toV [.inr (.inr a0)]).toArray below meth c D cy z0 2 (MQ below (QV D cy z0 (fun h1 => Okh h1 ∧ Fx wr_k_X3_advance h h1 ∧ (RInv w h1 a0))) (List.map toV [.inr (.inr a0)]).toArray s 0 0 (Aof z0)) 267 [(0, .inr (.inr a0)), (1, .inl v871)] [] h1171 0 0 := by
                        intro μ
                        induction μ using Nat.strongRecOn with
                        | ind μ ih1173 =>
                          intro h1171 hm1174 O1175 F1176 p1177
                          obtain ⟨v1178, e1179⟩ : ∃ z, Iv h1171 a0 2 = z := ⟨_, rfl⟩
                          have e1180 : Tg h1171 a0 = 4 := (fxT F1176 e895)
                          have f1181 := ok_I O1175 e1180 rI_4_2 e1179
                          obtain ⟨v1182, e1183⟩ : ∃ z, Jv h1171 a0 5 = z := ⟨_, rfl⟩
                          have f1184 := inL_J O1175 e1183
                          have e1185 : Iv h1171 a0 3 = v20 := ((fxI F1176 e895 rfl).trans ((pJI hh892).trans ((pRI hh888).trans (pI_e hh884))))
                          rw [e1179, e1185, e1183] at p1177
                          refine g_aload_n C rfl 0 rfl dX3_advance_267 ?_
                          refine gf_I C fk_LandSurvey_Reader_30 rfl e1180 e1179 dX3_advance_268 ?_
                          refine g_aload_n C rfl 0 rfl dX3_advance_271 ?_
                          have e1186 : Iv h1171 a0 1 = v24 := ((fxI F1176 e895 rfl).trans e897)
                          refine gf_I C fk_LandSurvey_Reader_19 rfl e1180 e1186 dX3_advance_272 ?_
                          refine g_icmp_ge C (iw f1181 (by decide) (by decide)) (iw f866 (by decide) (by decide)) 345 (by decide) dX3_advance_275 (fun q1187 => ?_) (fun q1188 => ?_)
                          · have f1189 : (1 : Int) ≤ v1178 ∧ v1178 ≤ (1500 : Int) := r_ge f1181 f866 q1187 (by decide) (by decide)
                            refine g_aload_n C rfl 0 rfl dX3_advance_345 ?_
                            refine g_aload_n C rfl 0 rfl dX3_advance_346 ?_
                            refine gf_I C fk_LandSurvey_Reader_30 rfl e1180 e1179 dX3_advance_347 ?_
                            refine g_aload_n C rfl 0 rfl dX3_advance_350 ?_
                            refine gf_I C fk_LandSurvey_Reader_66 rfl e1180 e1185 dX3_advance_351 ?_
                            have f1190 : (-1498 : Int) ≤ (v1178 - v20) ∧ (v1178 - v20) ≤ (1500 : Int) := ia_sub f1189 f865 (by decide) (by decide)
                            refine g_isub C dX3_advance_354 ?_
                            refine g_iconst C dX3_advance_355 ?_
                            refine g_icmp_gt C (iw f1190 (by decide) (by decide)) (iw (il 4) (by decide) (by decide)) 363 (by decide) dX3_advance_356 (fun q1191 => ?_) (fun q1192 => ?_)
                            · have f1193 : (5 : Int) ≤ (v1178 - v20) ∧ (v1178 - v20) ≤ (1500 : Int) := r_gt f1190 (il 4) q1191 (by decide) (by decide)
                              refine g_iconst C dX3_advance_363 ?_
                              refine gp_I C fk_LandSurvey_Reader_49 pk_LandSurvey_Reader_4 rfl e1180 (iw (il 4) (by decide) (by decide)) (nf_i _) dX3_advance_364 (fun h1195 hh1194 => ?_)
                              have O1196 := O1175.pI e1180 hh1194 rI_4_4 (iw (il 4) (by decide) (by decide)) nofun
                              refine g_goto C 404 (by decide) dX3_advance_367 ?_
                              have e1197 : Rv h1195 a0 13 = v1 := ((pIR hh1194).trans ((fxR F1176 e895 rfl).trans ((pJR hh892).trans ((pR_j hh888 (by decide)).trans ((pIR hh884).trans ((fxR F19 ta0 rfl).trans e2))))))
                              have e1198 : Jv h1195 a0 5 = v1182 := ((pIJ hh1194).trans e1183)
                              have e1199 : Rv h1195 a0 6 = 0 := ((pIR hh1194).trans ((fxR F1176 e895 rfl).trans ((pJR hh892).trans (pR_e hh888))))
                              have e1200 : Tg h1195 v1 = 2006 := ((pIT hh1194).trans (fxT F1176 ((pJT hh892).trans ((pRT hh888).trans ((pIT hh884).trans (fxT F19 t3))))))
                              have e1201 : Rv h14 a0 13 = v1 := ((fxR F19 ta0 rfl).trans e2)
                              have e1202 : Tg h14 v1 = 2006 := (fxT F19 t3)
                              have e1203 : Rv h885 a0 13 = v1 := ((pIR hh884).trans e1201)
                              have e1204 : Tg h885 v1 = 2006 := ((pIT hh884).trans e1202)
                              have e1205 : Rv h889 a0 13 = v1 := ((pR_j hh888 (by decide)).trans e1203)
                              have e1206 : Tg h889 v1 = 2006 := ((pRT hh888).trans e1204)
                              have e1207 : Rv h893 a0 13 = v1 := ((pJR hh892).trans e1205)
                              have e1208 : Tg h893 v1 = 2006 := ((pJT hh892).trans e1206)
                              have e1209 : Rv h1171 a0 13 = v1 := ((fxR F1176 e895 rfl).trans e1207)
                              have e1210 : Tg h1171 v1 = 2006 := (fxT F1176 e1208)
                              have p1211 := (DOk_fx O1175 ((Fx.rf (wr := [804]) (h := h1171)).pI e1180 hh1194 rfl) e1180 (by rw [e1209]; exact e1210) rfl (DOk_fx O894 F1176 e895 (by rw [e1207]; exact e1208) rfl (DOk_fx O890 ((Fx.rf (wr := [805]) (h := h889)).pJ e891 hh892 rfl) e891 (by rw [e1205]; exact e1206) rfl (DOk_fx O886 ((Fx.rf (wr := [806]) (h := h885)).pR e887 hh888 rfl) e887 (by rw [e1203]; exact e1204) rfl (DOk_fx O18 ((Fx.rf (wr := [803]) (h := h14)).pI e22 hh884 rfl) e22 (by rw [e1201]; exact e1202) rfl (DOk_fx O F19 ta0 (by rw [e2]; exact t3) rfl P_RInv.2.1))))))
                              exact g_vret C hr ⟨O1196, (((((((Fx.rf (wr := wr_k_X3_advance)).call F19 rfl).pI e22 hh884 rfl).pR e887 hh888 rfl).pJ e891 hh892 rfl).call F1176 rfl).pI e1180 hh1194 rfl), (by unfold RInv; rw [e1197, (pI_e hh1194), e1198, e1199]; exact ⟨e1200, p1211, by omega, (Or.inl rfl)⟩)⟩ (by decide) (by decide) dX3_advance_404
                            · have f1212 : (-1498 : Int) ≤ (v1178 - v20) ∧ (v1178 - v20) ≤ (4 : Int) := r_le f1190 (il 4) q1192 (by decide) (by decide)
                              refine g_iconst C dX3_advance_359 ?_
                              refine g_goto C 364 (by decide) dX3_advance_360 ?_
                              refine gp_I C fk_LandSurvey_Reader_49 pk_LandSurvey_Reader_4 rfl e1180 (iw (il 2) (by decide) (by decide)) (nf_i _) dX3_advance_364 (fun h1214 hh1213 => ?_)
                              have O1215 := O1175.pI e1180 hh1213 rI_4_4 (iw (il 2) (by decide) (by decide)) nofun
                              refine g_goto C 404 (by decide) dX3_advance_367 ?_
                              have e1216 : Rv h1214 a0 13 = v1 := ((pIR hh1213).trans ((fxR F1176 e895 rfl).trans ((pJR hh892).trans ((pR_j hh888 (by decide)).trans ((pIR hh884).trans ((fxR F19 ta0 rfl).trans e2))))))
                              have e1217 : Jv h1214 a0 5 = v1182 := ((pIJ hh1213).trans e1183)
                              have e1218 : Rv h1214 a0 6 = 0 := ((pIR hh1213).trans ((fxR F1176 e895 rfl).trans ((pJR hh892).trans (pR_e hh888))))
                              have e1219 : Tg h1214 v1 = 2006 := ((pIT hh1213).trans (fxT F1176 ((pJT hh892).trans ((pRT hh888).trans ((pIT hh884).trans (fxT F19 t3))))))
                              have e1220 : Rv h14 a0 13 = v1 := ((fxR F19 ta0 rfl).trans e2)
                              have e1221 : Tg h14 v1 = 2006 := (fxT F19 t3)
                              have e1222 : Rv h885 a0 13 = v1 := ((pIR hh884).trans e1220)
                              have e1223 : Tg h885 v1 = 2006 := ((pIT hh884).trans e1221)
                              have e1224 : Rv h889 a0 13 = v1 := ((pR_j hh888 (by decide)).trans e1222)
                              have e1225 : Tg h889 v1 = 2006 := ((pRT hh888).trans e1223)
                              have e1226 : Rv h893 a0 13 = v1 := ((pJR hh892).trans e1224)
                              have e1227 : Tg h893 v1 = 2006 := ((pJT hh892).trans e1225)
                              have e1228 : Rv h1171 a0 13 = v1 := ((fxR F1176 e895 rfl).trans e1226)
                              have e1229 : Tg h1171 v1 = 2006 := (fxT F1176 e1227)
                              have p1230 := (DOk_fx O1175 ((Fx.rf (wr := [804]) (h := h1171)).pI e1180 hh1213 rfl) e1180 (by rw [e1228]; exact e1229) rfl (DOk_fx O894 F1176 e895 (by rw [e1226]; exact e1227) rfl (DOk_fx O890 ((Fx.rf (wr := [805]) (h := h889)).pJ e891 hh892 rfl) e891 (by rw [e1224]; exact e1225) rfl (DOk_fx O886 ((Fx.rf (wr := [806]) (h := h885)).pR e887 hh888 rfl) e887 (by rw [e1222]; exact e1223) rfl (DOk_fx O18 ((Fx.rf (wr := [803]) (h := h14)).pI e22 hh884 rfl) e22 (by rw [e1220]; exact e1221) rfl (DOk_fx O F19 ta0 (by rw [e2]; exact t3) rfl P_RInv.2.1))))))
                              exact g_vret C hr ⟨O1215, (((((((Fx.rf (wr := wr_k_X3_advance)).call F19 rfl).pI e22 hh884 rfl).pR e887 hh888 rfl).pJ e891 hh892 rfl).call F1176 rfl).pI e1180 hh1213 rfl), (by unfold RInv; rw [e1216, (pI_e hh1213), e1217, e1218]; exact ⟨e1219, p1230, by omega, (Or.inl rfl)⟩)⟩ (by decide) (by decide) dX3_advance_404
                          · have f1231 : (0 : Int) ≤ v1178 ∧ v1178 ≤ (1499 : Int) := r_lt f1181 f866 q1188 (by decide) (by decide)
                            refine g_aload_n C rfl 0 rfl dX3_advance_278 ?_
                            have e1232 : Rv h1171 a0 0 = v867 := ((fxR F1176 e895 rfl).trans e1002)
                            refine gf_R C fk_LandSurvey_Reader_9 rfl e1180 e1232 dX3_advance_279 ?_
                            refine g_aload_n C rfl 0 rfl dX3_advance_282 ?_
                            refine gf_I C fk_LandSurvey_Reader_30 rfl e1180 e1179 dX3_advance_283 ?_
                            have e1233 : Tg h1171 v867 = 19103 := (fxT F1176 e1003)
                            have e1234 : Ln h1171 v867 = 1500 := ((fxL F1176 e1003).trans e1004)
                            obtain ⟨v1235, e1236⟩ : ∃ z, Iv h1171 v867 v1178.toNat = z := ⟨_, rfl⟩
                            have f1237 := ok_Ia O1175 e1233 ar_19103 rI_19103_0 e1236
                            refine g_cald C e1233 rfl e1234 (ix f1231 (by decide) (by decide)) e1236 dX3_advance_286 ?_
                            refine g_bipush C (by decide) dX3_advance_287 ?_
                            refine g_icmp_lt C (iw f1237 (by decide) (by decide)) (iw (il 48) (by decide) (by decide)) 345 (by decide) dX3_advance_289 (fun q1238 => ?_) (fun q1239 => ?_)
                            · have f1240 : (0 : Int) ≤ v1235 ∧ v1235 ≤ (47 : Int) := r_lt f1237 (il 48) q1238 (by decide) (by decide)
                              refine g_aload_n C rfl 0 rfl dX3_advance_345 ?_
                              refine g_aload_n C rfl 0 rfl dX3_advance_346 ?_
                              refine gf_I C fk_LandSurvey_Reader_30 rfl e1180 e1179 dX3_advance_347 ?_
                              refine g_aload_n C rfl 0 rfl dX3_advance_350 ?_
                              refine gf_I C fk_LandSurvey_Reader_66 rfl e1180 e1185 dX3_advance_351 ?_
                              have f1241 : (-1499 : Int) ≤ (v1178 - v20) ∧ (v1178 - v20) ≤ (1499 : Int) := ia_sub f1231 f865 (by decide) (by decide)
                              refine g_isub C dX3_advance_354 ?_
                              refine g_iconst C dX3_advance_355 ?_
                              refine g_icmp_gt C (iw f1241 (by decide) (by decide)) (iw (il 4) (by decide) (by decide)) 363 (by decide) dX3_advance_356 (fun q1242 => ?_) (fun q1243 => ?_)
                              · have f1244 : (5 : Int) ≤ (v1178 - v20) ∧ (v1178 - v20) ≤ (1499 : Int) := r_gt f1241 (il 4) q1242 (by decide) (by decide)
                                refine g_iconst C dX3_advance_363 ?_
                                refine gp_I C fk_LandSurvey_Reader_49 pk_LandSurvey_Reader_4 rfl e1180 (iw (il 4) (by decide) (by decide)) (nf_i _) dX3_advance_364 (fun h1246 hh1245 => ?_)
                                have O1247 := O1175.pI e1180 hh1245 rI_4_4 (iw (il 4) (by decide) (by decide)) nofun
                                refine g_goto C 404 (by decide) dX3_advance_367 ?_
                                have e1248 : Rv h1246 a0 13 = v1 := ((pIR hh1245).trans ((fxR F1176 e895 rfl).trans ((pJR hh892).trans ((pR_j hh888 (by decide)).trans ((pIR hh884).trans ((fxR F19 ta0 rfl).trans e2))))))
                                have e1249 : Jv h1246 a0 5 = v1182 := ((pIJ hh1245).trans e1183)
                                have e1250 : Rv h1246 a0 6 = 0 := ((pIR hh1245).trans ((fxR F1176 e895 rfl).trans ((pJR hh892).trans (pR_e hh888))))
                                have e1251 : Tg h1246 v1 = 2006 := ((pIT hh1245).trans (fxT F1176 ((pJT hh892).trans ((pRT hh888).trans ((pIT hh884).trans (fxT F19 t3))))))
                                have e1252 : Rv h14 a0 13 = v1 := ((fxR F19 ta0 rfl).trans e2)
                                have e1253 : Tg h14 v1 = 2006 := (fxT F19 t3)
                                have e1254 : Rv h885 a0 13 = v1 := ((pIR hh884).trans e1252)
                                have e1255 : Tg h885 v1 = 2006 := ((pIT hh884).trans e1253)
                                have e1256 : Rv h889 a0 13 = v1 := ((pR_j hh888 (by decide)).trans e1254)
                                have e1257 : Tg h889 v1 = 2006 := ((pRT hh888).trans e1255)
                                have e1258 : Rv h893 a0 13 = v1 := ((pJR hh892).trans e1256)
                                have e1259 : Tg h893 v1 = 2006 := ((pJT hh892).trans e1257)
                                have e1260 : Rv h1171 a0 13 = v1 := ((fxR F1176 e895 rfl).trans e1258)
                                have e1261 : Tg h1171 v1 = 2006 := (fxT F1176 e1259)
                                have p1262 := (DOk_fx O1175 ((Fx.rf (wr := [804]) (h := h1171)).pI e1180 hh1245 rfl) e1180 (by rw [e1260]; exact e1261) rfl (DOk_fx O894 F1176 e895 (by rw [e1258]; exact e1259) rfl (DOk_fx O890 ((Fx.rf (wr := [805]) (h := h889)).pJ e891 hh892 rfl) e891 (by rw [e1256]; exact e1257) rfl (DOk_fx O886 ((Fx.rf (wr := [806]) (h := h885)).pR e887 hh888 rfl) e887 (by rw [e1254]; exact e1255) rfl (DOk_fx O18 ((Fx.rf (wr := [803]) (h := h14)).pI e22 hh884 rfl) e22 (by rw [e1252]; exact e1253) rfl (DOk_fx O F19 ta0 (by rw [e2]; exact t3) rfl P_RInv.2.1))))))
                                exact g_vret C hr ⟨O1247, (((((((Fx.rf (wr := wr_k_X3_advance)).call F19 rfl).pI e22 hh884 rfl).pR e887 hh888 rfl).pJ e891 hh892 rfl).call F1176 rfl).pI e1180 hh1245 rfl), (by unfold RInv; rw [e1248, (pI_e hh1245), e1249, e1250]; exact ⟨e1251, p1262, by omega, (Or.inl rfl)⟩)⟩ (by decide) (by decide) dX3_advance_404
                              · have f1263 : (-1499 : Int) ≤ (v1178 - v20) ∧ (v1178 - v20) ≤ (4 : Int) := r_le f1241 (il 4) q1243 (by decide) (by decide)
                                refine g_iconst C dX3_advance_359 ?_
                                refine g_goto C 364 (by decide) dX3_advance_360 ?_
                                refine gp_I C fk_LandSurvey_Reader_49 pk_LandSurvey_Reader_4 rfl e1180 (iw (il 2) (by decide) (by decide)) (nf_i _) dX3_advance_364 (fun h1265 hh1264 => ?_)
                                have O1266 := O1175.pI e1180 hh1264 rI_4_4 (iw (il 2) (by decide) (by decide)) nofun
                                refine g_goto C 404 (by decide) dX3_advance_367 ?_
                                have e1267 : Rv h1265 a0 13 = v1 := ((pIR hh1264).trans ((fxR F1176 e895 rfl).trans ((pJR hh892).trans ((pR_j hh888 (by decide)).trans ((pIR hh884).trans ((fxR F19 ta0 rfl).trans e2))))))
                                have e1268 : Jv h1265 a0 5 = v1182 := ((pIJ hh1264).trans e1183)
                                have e1269 : Rv h1265 a0 6 = 0 := ((pIR hh1264).trans ((fxR F1176 e895 rfl).trans ((pJR hh892).trans (pR_e hh888))))
                                have e1270 : Tg h1265 v1 = 2006 := ((pIT hh1264).trans (fxT F1176 ((pJT hh892).trans ((pRT hh888).trans ((pIT hh884).trans (fxT F19 t3))))))
                                have e1271 : Rv h14 a0 13 = v1 := ((fxR F19 ta0 rfl).trans e2)
                                have e1272 : Tg h14 v1 = 2006 := (fxT F19 t3)
                                have e1273 : Rv h885 a0 13 = v1 := ((pIR hh884).trans e1271)
                                have e1274 : Tg h885 v1 = 2006 := ((pIT hh884).trans e1272)
                                have e1275 : Rv h889 a0 13 = v1 := ((pR_j hh888 (by decide)).trans e1273)
                                have e1276 : Tg h889 v1 = 2006 := ((pRT hh888).trans e1274)
                                have e1277 : Rv h893 a0 13 = v1 := ((pJR hh892).trans e1275)
                                have e1278 : Tg h893 v1 = 2006 := ((pJT hh892).trans e1276)
                                have e1279 : Rv h1171 a0 13 = v1 := ((fxR F1176 e895 rfl).trans e1277)
                                have e1280 : Tg h1171 v1 = 2006 := (fxT F1176 e1278)
                                have p1281 := (DOk_fx O1175 ((Fx.rf (wr := [804]) (h := h1171)).pI e1180 hh1264 rfl) e1180 (by rw [e1279]; exact e1280) rfl (DOk_fx O894 F1176 e895 (by rw [e1277]; exact e1278) rfl (DOk_fx O890 ((Fx.rf (wr := [805]) (h := h889)).pJ e891 hh892 rfl) e891 (by rw [e1275]; exact e1276) rfl (DOk_fx O886 ((Fx.rf (wr := [806]) (h := h885)).pR e887 hh888 rfl) e887 (by rw [e1273]; exact e1274) rfl (DOk_fx O18 ((Fx.rf (wr := [803]) (h := h14)).pI e22 hh884 rfl) e22 (by rw [e1271]; exact e1272) rfl (DOk_fx O F19 ta0 (by rw [e2]; exact t3) rfl P_RInv.2.1))))))
                                exact g_vret C hr ⟨O1266, (((((((Fx.rf (wr := wr_k_X3_advance)).call F19 rfl).pI e22 hh884 rfl).pR e887 hh888 rfl).pJ e891 hh892 rfl).call F1176 rfl).pI e1180 hh1264 rfl), (by unfold RInv; rw [e1267, (pI_e hh1264), e1268, e1269]; exact ⟨e1270, p1281, by omega, (Or.inl rfl)⟩)⟩ (by decide) (by decide) dX3_advance_404
                            · have f1282 : (48 : Int) ≤ v1235 ∧ v1235 ≤ (126 : Int) := r_ge f1237 (il 48) q1239 (by decide) (by decide)
                              refine g_aload_n C rfl 0 rfl dX3_advance_292 ?_
                              refine gf_R C fk_LandSurvey_Reader_9 rfl e1180 e1232 dX3_advance_293 ?_
                              refine g_aload_n C rfl 0 rfl dX3_advance_296 ?_
                              refine gf_I C fk_LandSurvey_Reader_30 rfl e1180 e1179 dX3_advance_297 ?_
                              refine g_cald C e1233 rfl e1234 (ix f1231 (by decide) (by decide)) e1236 dX3_advance_300 ?_
                              refine g_bipush C (by decide) dX3_advance_301 ?_
                              refine g_icmp_gt C (iw f1282 (by decide) (by decide)) (iw (il 57) (by decide) (by decide)) 345 (by decide) dX3_advance_303 (fun q1283 => ?_) (fun q1284 => ?_)
                              · have f1285 : (58 : Int) ≤ v1235 ∧ v1235 ≤ (126 : Int) := r_gt f1282 (il 57) q1283 (by decide) (by decide)
                                refine g_aload_n C rfl 0 rfl dX3_advance_345 ?_
                                refine g_aload_n C rfl 0 rfl dX3_advance_346 ?_
                                refine gf_I C fk_LandSurvey_Reader_30 rfl e1180 e1179 dX3_advance_347 ?_
                                refine g_aload_n C rfl 0 rfl dX3_advance_350 ?_
                                refine gf_I C fk_LandSurvey_Reader_66 rfl e1180 e1185 dX3_advance_351 ?_
                                have f1286 : (-1499 : Int) ≤ (v1178 - v20) ∧ (v1178 - v20) ≤ (1499 : Int) := ia_sub f1231 f865 (by decide) (by decide)
                                refine g_isub C dX3_advance_354 ?_
                                refine g_iconst C dX3_advance_355 ?_
                                refine g_icmp_gt C (iw f1286 (by decide) (by decide)) (iw (il 4) (by decide) (by decide)) 363 (by decide) dX3_advance_356 (fun q1287 => ?_) (fun q1288 => ?_)
                                · have f1289 : (5 : Int) ≤ (v1178 - v20) ∧ (v1178 - v20) ≤ (1499 : Int) := r_gt f1286 (il 4) q1287 (by decide) (by decide)
                                  refine g_iconst C dX3_advance_363 ?_
                                  refine gp_I C fk_LandSurvey_Reader_49 pk_LandSurvey_Reader_4 rfl e1180 (iw (il 4) (by decide) (by decide)) (nf_i _) dX3_advance_364 (fun h1291 hh1290 => ?_)
                                  have O1292 := O1175.pI e1180 hh1290 rI_4_4 (iw (il 4) (by decide) (by decide)) nofun
                                  refine g_goto C 404 (by decide) dX3_advance_367 ?_
                                  have e1293 : Rv h1291 a0 13 = v1 := ((pIR hh1290).trans ((fxR F1176 e895 rfl).trans ((pJR hh892).trans ((pR_j hh888 (by decide)).trans ((pIR hh884).trans ((fxR F19 ta0 rfl).trans e2))))))
                                  have e1294 : Jv h1291 a0 5 = v1182 := ((pIJ hh1290).trans e1183)
                                  have e1295 : Rv h1291 a0 6 = 0 := ((pIR hh1290).trans ((fxR F1176 e895 rfl).trans ((pJR hh892).trans (pR_e hh888))))
                                  have e1296 : Tg h1291 v1 = 2006 := ((pIT hh1290).trans (fxT F1176 ((pJT hh892).trans ((pRT hh888).trans ((pIT hh884).trans (fxT F19 t3))))))
                                  have e1297 : Rv h14 a0 13 = v1 := ((fxR F19 ta0 rfl).trans e2)
                                  have e1298 : Tg h14 v1 = 2006 := (fxT F19 t3)
                                  have e1299 : Rv h885 a0 13 = v1 := ((pIR hh884).trans e1297)
                                  have e1300 : Tg h885 v1 = 2006 := ((pIT hh884).trans e1298)
                                  have e1301 : Rv h889 a0 13 = v1 := ((pR_j hh888 (by decide)).trans e1299)
                                  have e1302 : Tg h889 v1 = 2006 := ((pRT hh888).trans e1300)
                                  have e1303 : Rv h893 a0 13 = v1 := ((pJR hh892).trans e1301)
                                  have e1304 : Tg h893 v1 = 2006 := ((pJT hh892).trans e1302)
                                  have e1305 : Rv h1171 a0 13 = v1 := ((fxR F1176 e895 rfl).trans e1303)
                                  have e1306 : Tg h1171 v1 = 2006 := (fxT F1176 e1304)
                                  have p1307 := (DOk_fx O1175 ((Fx.rf (wr := [804]) (h := h1171)).pI e1180 hh1290 rfl) e1180 (by rw [e1305]; exact e1306) rfl (DOk_fx O894 F1176 e895 (by rw [e1303]; exact e1304) rfl (DOk_fx O890 ((Fx.rf (wr := [805]) (h := h889)).pJ e891 hh892 rfl) e891 (by rw [e1301]; exact e1302) rfl (DOk_fx O886 ((Fx.rf (wr := [806]) (h := h885)).pR e887 hh888 rfl) e887 (by rw [e1299]; exact e1300) rfl (DOk_fx O18 ((Fx.rf (wr := [803]) (h := h14)).pI e22 hh884 rfl) e22 (by rw [e1297]; exact e1298) rfl (DOk_fx O F19 ta0 (by rw [e2]; exact t3) rfl P_RInv.2.1))))))
                                  exact g_vret C hr ⟨O1292, (((((((Fx.rf (wr := wr_k_X3_advance)).call F19 rfl).pI e22 hh884 rfl).pR e887 hh888 rfl).pJ e891 hh892 rfl).call F1176 rfl).pI e1180 hh1290 rfl), (by unfold RInv; rw [e1293, (pI_e hh1290), e1294, e1295]; exact ⟨e1296, p1307, by omega, (Or.inl rfl)⟩)⟩ (by decide) (by decide) dX3_advance_404
                                · have f1308 : (-1499 : Int) ≤ (v1178 - v20) ∧ (v1178 - v20) ≤ (4 : Int) := r_le f1286 (il 4) q1288 (by decide) (by decide)
                                  refine g_iconst C dX3_advance_359 ?_
                                  refine g_goto C 364 (by decide) dX3_advance_360 ?_
                                  refine gp_I C fk_LandSurvey_Reader_49 pk_LandSurvey_Reader_4 rfl e1180 (iw (il 2) (by decide) (by decide)) (nf_i _) dX3_advance_364 (fun h1310 hh1309 => ?_)
                                  have O1311 := O1175.pI e1180 hh1309 rI_4_4 (iw (il 2) (by decide) (by decide)) nofun
                                  refine g_goto C 404 (by decide) dX3_advance_367 ?_
                                  have e1312 : Rv h1310 a0 13 = v1 := ((pIR hh1309).trans ((fxR F1176 e895 rfl).trans ((pJR hh892).trans ((pR_j hh888 (by decide)).trans ((pIR hh884).trans ((fxR F19 ta0 rfl).trans e2))))))
                                  have e1313 : Jv h1310 a0 5 = v1182 := ((pIJ hh1309).trans e1183)
                                  have e1314 : Rv h1310 a0 6 = 0 := ((pIR hh1309).trans ((fxR F1176 e895 rfl).trans ((pJR hh892).trans (pR_e hh888))))
                                  have e1315 : Tg h1310 v1 = 2006 := ((pIT hh1309).trans (fxT F1176 ((pJT hh892).trans ((pRT hh888).trans ((pIT hh884).trans (fxT F19 t3))))))
                                  have e1316 : Rv h14 a0 13 = v1 := ((fxR F19 ta0 rfl).trans e2)
                                  have e1317 : Tg h14 v1 = 2006 := (fxT F19 t3)
                                  have e1318 : Rv h885 a0 13 = v1 := ((pIR hh884).trans e1316)
                                  have e1319 : Tg h885 v1 = 2006 := ((pIT hh884).trans e1317)
                                  have e1320 : Rv h889 a0 13 = v1 := ((pR_j hh888 (by decide)).trans e1318)
                                  have e1321 : Tg h889 v1 = 2006 := ((pRT hh888).trans e1319)
                                  have e1322 : Rv h893 a0 13 = v1 := ((pJR hh892).trans e1320)
                                  have e1323 : Tg h893 v1 = 2006 := ((pJT hh892).trans e1321)
                                  have e1324 : Rv h1171 a0 13 = v1 := ((fxR F1176 e895 rfl).trans e1322)
                                  have e1325 : Tg h1171 v1 = 2006 := (fxT F1176 e1323)
                                  have p1326 := (DOk_fx O1175 ((Fx.rf (wr := [804]) (h := h1171)).pI e1180 hh1309 rfl) e1180 (by rw [e1324]; exact e1325) rfl (DOk_fx O894 F1176 e895 (by rw [e1322]; exact e1323) rfl (DOk_fx O890 ((Fx.rf (wr := [805]) (h := h889)).pJ e891 hh892 rfl) e891 (by rw [e1320]; exact e1321) rfl (DOk_fx O886 ((Fx.rf (wr := [806]) (h := h885)).pR e887 hh888 rfl) e887 (by rw [e1318]; exact e1319) rfl (DOk_fx O18 ((Fx.rf (wr := [803]) (h := h14)).pI e22 hh884 rfl) e22 (by rw [e1316]; exact e1317) rfl (DOk_fx O F19 ta0 (by rw [e2]; exact t3) rfl P_RInv.2.1))))))
                                  exact g_vret C hr ⟨O1311, (((((((Fx.rf (wr := wr_k_X3_advance)).call F19 rfl).pI e22 hh884 rfl).pR e887 hh888 rfl).pJ e891 hh892 rfl).call F1176 rfl).pI e1180 hh1309 rfl), (by unfold RInv; rw [e1312, (pI_e hh1309), e1313, e1314]; exact ⟨e1315, p1326, by omega, (Or.inl rfl)⟩)⟩ (by decide) (by decide) dX3_advance_404
                              · have f1327 : (48 : Int) ≤ v1235 ∧ v1235 ≤ (57 : Int) := r_le f1282 (il 57) q1284 (by decide) (by decide)
                                refine g_aload_n C rfl 0 rfl dX3_advance_306 ?_
                                refine g_ldc2 (z := 10) C kw_683 (by decide) dX3_advance_307 ?_
                                refine g_aload_n C rfl 0 rfl dX3_advance_310 ?_
                                refine gf_J C fk_LandSurvey_Reader_73 rfl e1180 e1183 dX3_advance_311 ?_
                                refine g_lmul C dX3_advance_314 ?_
                                have f1328 : (-9223372036854775808 : Int) ≤ (lM 10 v1182) ∧ (lM 10 v1182) ≤ (9223372036854775807 : Int) := inL_of _
                                refine g_aload_n C rfl 0 rfl dX3_advance_315 ?_
                                refine gf_R C fk_LandSurvey_Reader_9 rfl e1180 e1232 dX3_advance_316 ?_
                                refine g_aload_n C rfl 0 rfl dX3_advance_319 ?_
                                refine gf_I C fk_LandSurvey_Reader_30 rfl e1180 e1179 dX3_advance_320 ?_
                                refine g_cald C e1233 rfl e1234 (ix f1231 (by decide) (by decide)) e1236 dX3_advance_323 ?_
                                refine g_bipush C (by decide) dX3_advance_324 ?_
                                have f1329 : (0 : Int) ≤ (v1235 - 48) ∧ (v1235 - 48) ≤ (9 : Int) := ia_sub f1327 (il 48) (by decide) (by decide)
                                refine g_isub C dX3_advance_326 ?_
                                refine g_i2l C (iw f1329 (by decide) (by decide)) dX3_advance_327 ?_
                                refine g_ladd C dX3_advance_328 ?_
                                have f1330 : (-9223372036854775808 : Int) ≤ (lA (lM 10 v1182) (v1235 - 48)) ∧ (lA (lM 10 v1182) (v1235 - 48)) ≤ (9223372036854775807 : Int) := inL_of _
                                refine gp_J C fk_LandSurvey_Reader_73 pk_LandSurvey_Reader_5 rfl e1180 rfl f1330 dX3_advance_329 (fun h1332 hh1331 => ?_)
                                have O1333 := O1175.pJ hh1331 f1330
                                refine g_aload_n C rfl 0 rfl dX3_advance_332 ?_
                                refine g_dup C rfl dX3_advance_333 ?_
                                have e1334 : Tg h1332 a0 = 4 := ((pJT hh1331).trans e1180)
                                have e1335 : Iv h1332 a0 2 = v1178 := ((pJI hh1331).trans e1179)
                                refine gf_I C fk_LandSurvey_Reader_30 rfl e1334 e1335 dX3_advance_334 ?_
                                refine g_iconst C dX3_advance_337 ?_
                                have f1336 : (1 : Int) ≤ (v1178 + 1) ∧ (v1178 + 1) ≤ (1500 : Int) := ia_add f1231 (il 1) (by decide) (by decide)
                                refine g_iadd C dX3_advance_338 ?_
                                refine gp_I C fk_LandSurvey_Reader_30 pk_LandSurvey_Reader_2 rfl e1334 (iw f1336 (by decide) (by decide)) (nf_i _) dX3_advance_339 (fun h1338 hh1337 => ?_)
                                have O1339 := O1333.pI e1334 hh1337 rI_4_2 (iw f1336 (by decide) (by decide)) nofun
                                refine g_goto C 267 (by decide) dX3_advance_342 ?_
                                refine GW.sub [0, 1] rfl ?_
                                have e1340 : Iv h1338 a0 2 = (v1178 + 1) := (pI_e hh1337)
                                have e1341 : Iv h1338 a0 3 = v20 := ((pI_j hh1337 (by decide)).trans ((pJI hh1331).trans e1185))
                                have e1342 : Jv h1338 a0 5 = (lA (lM 10 v1182) (v1235 - 48)) := ((pIJ hh1337).trans (pJ_e hh1331))
                                have q1343 := fun z : 0 ≤ v1182 ∧ v1182 ≤ 999999 => la_dig z (x := (v1235 - 48)) (by omega)
                                exact ih1173 _ (by omega) h1338 rfl O1339 ((F1176.pJ e1180 hh1331 rfl).pI e1334 hh1337 rfl) (by rw [e1340, e1341, e1342]; omega)
                      have e1344 : Iv h893 a0 3 = v20 := ((pJI hh892).trans ((pRI hh888).trans (pI_e hh884)))
                      have e1345 : Jv h893 a0 5 = 0 := (pJ_e hh892)
                      exact L1172 _ h893 rfl O894 Fx.rf (by rw [e896, e1344, e1345]; omega)
                · have f1346 : (97 : Int) ≤ v871 ∧ v871 ≤ (126 : Int) := r_ge f873 (il 97) q1009 (by decide) (by decide)
                  refine g_iload_n C rfl 0 rfl dX3_advance_120 ?_
                  refine g_bipush C (by decide) dX3_advance_121 ?_
                  refine g_icmp_gt C (iw f1346 (by decide) (by decide)) (iw (il 122) (by decide) (by decide)) 255 (by decide) dX3_advance_123 (fun q1347 => ?_) (fun q1348 => ?_)
                  · have f1349 : (123 : Int) ≤ v871 ∧ v871 ≤ (126 : Int) := r_gt f1346 (il 122) q1347 (by decide) (by decide)
                    refine g_iload_n C rfl 0 rfl dX3_advance_255 ?_
                    refine g_bipush C (by decide) dX3_advance_256 ?_
                    refine g_icmp_lt C (iw f1349 (by decide) (by decide)) (iw (il 48) (by decide) (by decide)) 370 (by decide) dX3_advance_258 (fun q1350 => ?_) (fun q1351 => ?_)
                    · exact (no_lt f1349 (il 48) q1350 (by decide)).elim
                    · refine g_iload_n C rfl 0 rfl dX3_advance_261 ?_
                      refine g_bipush C (by decide) dX3_advance_262 ?_
                      refine g_icmp_gt C (iw f1349 (by decide) (by decide)) (iw (il 57) (by decide) (by decide)) 370 (by decide) dX3_advance_264 (fun q1352 => ?_) (fun q1353 => ?_)
                      · refine g_aload_n C rfl 1 rfl dX3_advance_370 ?_
                        refine g_iload_n C rfl 0 rfl dX3_advance_371 ?_
                        refine g_i2l C (iw f1349 (by decide) (by decide)) dX3_advance_372 ?_
                        refine gp_J C fk_LandSurvey_Reader_73 pk_LandSurvey_Reader_5 rfl e895 rfl (iw f1349 (by decide) (by decide)) dX3_advance_373 (fun h1355 hh1354 => ?_)
                        have O1356 := O894.pJ hh1354 (iw f1349 (by decide) (by decide))
                        refine g_aload_n C rfl 1 rfl dX3_advance_376 ?_
                        refine g_ldcS C C.2.2.2.2.1.2 dX3_advance_377 ?_
                        refine g_iload_n C rfl 0 rfl dX3_advance_379 ?_
                        refine g_callI (st := [.inr (.inr a0)]) (gc_VS C lk_LandSurvey_Reader_89 rfl (k_J0_indexOf_0f7a4 l D cy w z0 O1356 (iw f1349 (by decide) (by decide))) rfl ⟨by decide, by decide⟩ (Nat.le_of_ble_eq_true rfl) dX3_advance_380 ⟨(by decide), (by decide)⟩) (fun r1357 h1358 f1360 K1359 => ?_)
                        obtain ⟨O1361, F1362, f1363⟩ := K1359
                        refine g_if_lt C f1363 390 (by decide) dX3_advance_383 (fun q1364 => ?_) (fun q1365 => ?_)
                        · have f1366 : (-2147483648 : Int) ≤ r1357 ∧ r1357 ≤ (-1 : Int) := r_lt f1363 (il 0) q1364 (by decide) (by decide)
                          refine g_iconst C dX3_advance_390 ?_
                          have e1367 : Tg h1358 a0 = 4 := (fxT F1362 ((pJT hh1354).trans e895))
                          refine gp_I C fk_LandSurvey_Reader_49 pk_LandSurvey_Reader_4 rfl e1367 (iw (il 4) (by decide) (by decide)) (nf_i _) dX3_advance_391 (fun h1369 hh1368 => ?_)
                          have O1370 := O1361.pI e1367 hh1368 rI_4_4 (iw (il 4) (by decide) (by decide)) nofun
                          refine g_aload_n C rfl 1 rfl dX3_advance_394 ?_
                          refine g_dup C rfl dX3_advance_395 ?_
                          have e1371 : Tg h1369 a0 = 4 := ((pIT hh1368).trans e1367)
                          have e1372 : Tg h1355 a0 = 4 := ((pJT hh1354).trans e895)
                          have e1373 : Iv h1369 a0 2 = v20 := ((pI_j hh1368 (by decide)).trans ((fxI F1362 e1372 rfl).trans ((pJI hh1354).trans e896)))
                          refine gf_I C fk_LandSurvey_Reader_30 rfl e1371 e1373 dX3_advance_396 ?_
                          refine g_iconst C dX3_advance_399 ?_
                          have f1374 : (1 : Int) ≤ (v20 + 1) ∧ (v20 + 1) ≤ (1500 : Int) := ia_add f865 (il 1) (by decide) (by decide)
                          refine g_iadd C dX3_advance_400 ?_
                          refine gp_I C fk_LandSurvey_Reader_30 pk_LandSurvey_Reader_2 rfl e1371 (iw f1374 (by decide) (by decide)) (nf_i _) dX3_advance_401 (fun h1376 hh1375 => ?_)
                          have O1377 := O1370.pI e1371 hh1375 rI_4_2 (iw f1374 (by decide) (by decide)) nofun
                          have e1378 : Rv h1376 a0 13 = v1 := ((pIR hh1375).trans ((pIR hh1368).trans ((fxR F1362 e1372 rfl).trans ((pJR hh1354).trans ((pJR hh892).trans ((pR_j hh888 (by decide)).trans ((pIR hh884).trans ((fxR F19 ta0 rfl).trans e2))))))))
                          have e1379 : Iv h1376 a0 4 = 4 := ((pI_j hh1375 (by decide)).trans (pI_e hh1368))
                          have e1380 : Jv h1376 a0 5 = v871 := ((pIJ hh1375).trans ((pIJ hh1368).trans ((fxJ F1362 e1372 rfl).trans (pJ_e hh1354))))
                          have e1381 : Rv h1376 a0 6 = 0 := ((pIR hh1375).trans ((pIR hh1368).trans ((fxR F1362 e1372 rfl).trans ((pJR hh1354).trans ((pJR hh892).trans (pR_e hh888))))))
                          have e1382 : Tg h1376 v1 = 2006 := ((pIT hh1375).trans ((pIT hh1368).trans (fxT F1362 ((pJT hh1354).trans ((pJT hh892).trans ((pRT hh888).trans ((pIT hh884).trans (fxT F19 t3))))))))
                          have e1383 : Rv h14 a0 13 = v1 := ((fxR F19 ta0 rfl).trans e2)
                          have e1384 : Tg h14 v1 = 2006 := (fxT F19 t3)
                          have e1385 : Rv h885 a0 13 = v1 := ((pIR hh884).trans e1383)
                          have e1386 : Tg h885 v1 = 2006 := ((pIT hh884).trans e1384)
                          have e1387 : Rv h889 a0 13 = v1 := ((pR_j hh888 (by decide)).trans e1385)
                          have e1388 : Tg h889 v1 = 2006 := ((pRT hh888).trans e1386)
                          have e1389 : Rv h893 a0 13 = v1 := ((pJR hh892).trans e1387)
                          have e1390 : Tg h893 v1 = 2006 := ((pJT hh892).trans e1388)
                          have e1391 : Rv h1355 a0 13 = v1 := ((pJR hh1354).trans e1389)
                          have e1392 : Tg h1355 v1 = 2006 := ((pJT hh1354).trans e1390)
                          have e1393 : Rv h1358 a0 13 = v1 := ((fxR F1362 e1372 rfl).trans e1391)
                          have e1394 : Tg h1358 v1 = 2006 := (fxT F1362 e1392)
                          have e1395 : Rv h1369 a0 13 = v1 := ((pIR hh1368).trans e1393)
                          have e1396 : Tg h1369 v1 = 2006 := ((pIT hh1368).trans e1394)
                          have p1397 := (DOk_fx O1370 ((Fx.rf (wr := [802]) (h := h1369)).pI e1371 hh1375 rfl) e1371 (by rw [e1395]; exact e1396) rfl (DOk_fx O1361 ((Fx.rf (wr := [804]) (h := h1358)).pI e1367 hh1368 rfl) e1367 (by rw [e1393]; exact e1394) rfl (DOk_fx O1356 F1362 e1372 (by rw [e1391]; exact e1392) rfl (DOk_fx O894 ((Fx.rf (wr := [805]) (h := h893)).pJ e895 hh1354 rfl) e895 (by rw [e1389]; exact e1390) rfl (DOk_fx O890 ((Fx.rf (wr := [805]) (h := h889)).pJ e891 hh892 rfl) e891 (by rw [e1387]; exact e1388) rfl (DOk_fx O886 ((Fx.rf (wr := [806]) (h := h885)).pR e887 hh888 rfl) e887 (by rw [e1385]; exact e1386) rfl (DOk_fx O18 ((Fx.rf (wr := [803]) (h := h14)).pI e22 hh884 rfl) e22 (by rw [e1383]; exact e1384) rfl (DOk_fx O F19 ta0 (by rw [e2]; exact t3) rfl P_RInv.2.1))))))))
                          exact g_vret C hr ⟨O1377, (((((((((Fx.rf (wr := wr_k_X3_advance)).call F19 rfl).pI e22 hh884 rfl).pR e887 hh888 rfl).pJ e891 hh892 rfl).pJ e895 hh1354 rfl).call F1362 rfl).pI e1367 hh1368 rfl).pI e1371 hh1375 rfl), (by unfold RInv; rw [e1378, e1379, e1380, e1381]; exact ⟨e1382, p1397, by omega, (Or.inl rfl)⟩)⟩ (by decide) (by decide) dX3_advance_404
                        · have f1398 : (0 : Int) ≤ r1357 ∧ r1357 ≤ (2147483647 : Int) := r_ge f1363 (il 0) q1365 (by decide) (by decide)
                          refine g_iconst C dX3_advance_386 ?_
                          refine g_goto C 391 (by decide) dX3_advance_387 ?_
                          have e1399 : Tg h1358 a0 = 4 := (fxT F1362 ((pJT hh1354).trans e895))
                          refine gp_I C fk_LandSurvey_Reader_49 pk_LandSurvey_Reader_4 rfl e1399 (iw (il 3) (by decide) (by decide)) (nf_i _) dX3_advance_391 (fun h1401 hh1400 => ?_)
                          have O1402 := O1361.pI e1399 hh1400 rI_4_4 (iw (il 3) (by decide) (by decide)) nofun
                          refine g_aload_n C rfl 1 rfl dX3_advance_394 ?_
                          refine g_dup C rfl dX3_advance_395 ?_
                          have e1403 : Tg h1401 a0 = 4 := ((pIT hh1400).trans e1399)
                          have e1404 : Tg h1355 a0 = 4 := ((pJT hh1354).trans e895)
                          have e1405 : Iv h1401 a0 2 = v20 := ((pI_j hh1400 (by decide)).trans ((fxI F1362 e1404 rfl).trans ((pJI hh1354).trans e896)))
                          refine gf_I C fk_LandSurvey_Reader_30 rfl e1403 e1405 dX3_advance_396 ?_
                          refine g_iconst C dX3_advance_399 ?_
                          have f1406 : (1 : Int) ≤ (v20 + 1) ∧ (v20 + 1) ≤ (1500 : Int) := ia_add f865 (il 1) (by decide) (by decide)
                          refine g_iadd C dX3_advance_400 ?_
                          refine gp_I C fk_LandSurvey_Reader_30 pk_LandSurvey_Reader_2 rfl e1403 (iw f1406 (by decide) (by decide)) (nf_i _) dX3_advance_401 (fun h1408 hh1407 => ?_)
                          have O1409 := O1402.pI e1403 hh1407 rI_4_2 (iw f1406 (by decide) (by decide)) nofun
                          have e1410 : Rv h1408 a0 13 = v1 := ((pIR hh1407).trans ((pIR hh1400).trans ((fxR F1362 e1404 rfl).trans ((pJR hh1354).trans ((pJR hh892).trans ((pR_j hh888 (by decide)).trans ((pIR hh884).trans ((fxR F19 ta0 rfl).trans e2))))))))
                          have e1411 : Iv h1408 a0 4 = 3 := ((pI_j hh1407 (by decide)).trans (pI_e hh1400))
                          have e1412 : Jv h1408 a0 5 = v871 := ((pIJ hh1407).trans ((pIJ hh1400).trans ((fxJ F1362 e1404 rfl).trans (pJ_e hh1354))))
                          have e1413 : Rv h1408 a0 6 = 0 := ((pIR hh1407).trans ((pIR hh1400).trans ((fxR F1362 e1404 rfl).trans ((pJR hh1354).trans ((pJR hh892).trans (pR_e hh888))))))
                          have e1414 : Tg h1408 v1 = 2006 := ((pIT hh1407).trans ((pIT hh1400).trans (fxT F1362 ((pJT hh1354).trans ((pJT hh892).trans ((pRT hh888).trans ((pIT hh884).trans (fxT F19 t3))))))))
                          have e1415 : Rv h14 a0 13 = v1 := ((fxR F19 ta0 rfl).trans e2)
                          have e1416 : Tg h14 v1 = 2006 := (fxT F19 t3)
                          have e1417 : Rv h885 a0 13 = v1 := ((pIR hh884).trans e1415)
                          have e1418 : Tg h885 v1 = 2006 := ((pIT hh884).trans e1416)
                          have e1419 : Rv h889 a0 13 = v1 := ((pR_j hh888 (by decide)).trans e1417)
                          have e1420 : Tg h889 v1 = 2006 := ((pRT hh888).trans e1418)
                          have e1421 : Rv h893 a0 13 = v1 := ((pJR hh892).trans e1419)
                          have e1422 : Tg h893 v1 = 2006 := ((pJT hh892).trans e1420)
                          have e1423 : Rv h1355 a0 13 = v1 := ((pJR hh1354).trans e1421)
                          have e1424 : Tg h1355 v1 = 2006 := ((pJT hh1354).trans e1422)
                          have e1425 : Rv h1358 a0 13 = v1 := ((fxR F1362 e1404 rfl).trans e1423)
                          have e1426 : Tg h1358 v1 = 2006 := (fxT F1362 e1424)
                          have e1427 : Rv h1401 a0 13 = v1 := ((pIR hh1400).trans e1425)
                          have e1428 : Tg h1401 v1 = 2006 := ((pIT hh1400).trans e1426)
                          have p1429 := (DOk_fx O1402 ((Fx.rf (wr := [802]) (h := h1401)).pI e1403 hh1407 rfl) e1403 (by rw [e1427]; exact e1428) rfl (DOk_fx O1361 ((Fx.rf (wr := [804]) (h := h1358)).pI e1399 hh1400 rfl) e1399 (by rw [e1425]; exact e1426) rfl (DOk_fx O1356 F1362 e1404 (by rw [e1423]; exact e1424) rfl (DOk_fx O894 ((Fx.rf (wr := [805]) (h := h893)).pJ e895 hh1354 rfl) e895 (by rw [e1421]; exact e1422) rfl (DOk_fx O890 ((Fx.rf (wr := [805]) (h := h889)).pJ e891 hh892 rfl) e891 (by rw [e1419]; exact e1420) rfl (DOk_fx O886 ((Fx.rf (wr := [806]) (h := h885)).pR e887 hh888 rfl) e887 (by rw [e1417]; exact e1418) rfl (DOk_fx O18 ((Fx.rf (wr := [803]) (h := h14)).pI e22 hh884 rfl) e22 (by rw [e1415]; exact e1416) rfl (DOk_fx O F19 ta0 (by rw [e2]; exact t3) rfl P_RInv.2.1))))))))
                          exact g_vret C hr ⟨O1409, (((((((((Fx.rf (wr := wr_k_X3_advance)).call F19 rfl).pI e22 hh884 rfl).pR e887 hh888 rfl).pJ e891 hh892 rfl).pJ e895 hh1354 rfl).call F1362 rfl).pI e1399 hh1400 rfl).pI e1403 hh1407 rfl), (by unfold RInv; rw [e1410, e1411, e1412, e1413]; exact ⟨e1414, p1429, by omega, (Or.inl rfl)⟩)⟩ (by decide) (by decide) dX3_advance_404
                      · exact (no_le f1349 (il 57) q1353 (by decide)).elim
                  · have f1430 : (97 : Int) ≤ v871 ∧ v871 ≤ (122 : Int) := r_le f1346 (il 122) q1348 (by decide) (by decide)
                    refine GW.sub [1, 0] rfl ?_
                    -- loop at 126
                    have L1432 : ∀ (μ : Nat) (h1431 : Hp), (1500 - Iv h1431 a0 2).toNat = μ → Okh h1431 → Fx [802, 805] h893 h1431 → GW p l e (rmm 4 91 0 0) s m (List.map toV [.inr (.inr a0)]).toArray below meth c D cy z0 2 (MQ below (QV D cy z0 (fun h1 => Okh h1 ∧ Fx wr_k_X3_advance h h1 ∧ (RInv w h1 a0))) (List.map toV [.inr (.inr a0)]).toArray s 0 0 (Aof z0)) 126 [(0, .inr (.inr a0)), (1, .inl v871)] [] h1431 0 0 := by
                      intro μ
                      induction μ using Nat.strongRecOn with
                      | ind μ ih1433 =>
                        intro h1431 hm1434 O1435 F1436
                        obtain ⟨v1437, e1438⟩ : ∃ z, Iv h1431 a0 2 = z := ⟨_, rfl⟩
                        have e1439 : Tg h1431 a0 = 4 := (fxT F1436 e895)
                        have f1440 := ok_I O1435 e1439 rI_4_2 e1438
                        refine g_aload_n C rfl 0 rfl dX3_advance_126 ?_
                        refine gf_I C fk_LandSurvey_Reader_30 rfl e1439 e1438 dX3_advance_127 ?_
                        refine g_aload_n C rfl 0 rfl dX3_advance_130 ?_
                        have e1441 : Iv h1431 a0 1 = v24 := ((fxI F1436 e895 rfl).trans e897)
                        refine gf_I C fk_LandSurvey_Reader_19 rfl e1439 e1441 dX3_advance_131 ?_
                        refine g_icmp_ge C (iw f1440 (by decide) (by decide)) (iw f866 (by decide) (by decide)) 206 (by decide) dX3_advance_134 (fun q1442 => ?_) (fun q1443 => ?_)
                        · have f1444 : (1 : Int) ≤ v1437 ∧ v1437 ≤ (1500 : Int) := r_ge f1440 f866 q1442 (by decide) (by decide)
                          refine g_aload_n C rfl 0 rfl dX3_advance_206 ?_
                          refine g_aload_n C rfl 0 rfl dX3_advance_207 ?_
                          refine gf_I C fk_LandSurvey_Reader_30 rfl e1439 e1438 dX3_advance_208 ?_
                          refine g_aload_n C rfl 0 rfl dX3_advance_211 ?_
                          have e1445 : Iv h1431 a0 3 = v20 := ((fxI F1436 e895 rfl).trans ((pJI hh892).trans ((pRI hh888).trans (pI_e hh884))))
                          refine gf_I C fk_LandSurvey_Reader_66 rfl e1439 e1445 dX3_advance_212 ?_
                          have f1446 : (-1498 : Int) ≤ (v1437 - v20) ∧ (v1437 - v20) ≤ (1500 : Int) := ia_sub f1444 f865 (by decide) (by decide)
                          refine g_isub C dX3_advance_215 ?_
                          refine g_bipush C (by decide) dX3_advance_216 ?_
                          refine g_icmp_gt C (iw f1446 (by decide) (by decide)) (iw (il 8) (by decide) (by decide)) 225 (by decide) dX3_advance_218 (fun q1447 => ?_) (fun q1448 => ?_)
                          · have f1449 : (9 : Int) ≤ (v1437 - v20) ∧ (v1437 - v20) ≤ (1500 : Int) := r_gt f1446 (il 8) q1447 (by decide) (by decide)
                            refine g_iconst C dX3_advance_225 ?_
                            refine gp_I C fk_LandSurvey_Reader_49 pk_LandSurvey_Reader_4 rfl e1439 (iw (il 4) (by decide) (by decide)) (nf_i _) dX3_advance_226 (fun h1451 hh1450 => ?_)
                            have O1452 := O1435.pI e1439 hh1450 rI_4_4 (iw (il 4) (by decide) (by decide)) nofun
                            refine g_aload_n C rfl 0 rfl dX3_advance_229 ?_
                            refine g_aload_n C rfl 0 rfl dX3_advance_230 ?_
                            have e1453 : Tg h1451 a0 = 4 := ((pIT hh1450).trans e1439)
                            refine gf_I C fk_LandSurvey_Reader_49 rfl e1453 (pI_e hh1450) dX3_advance_231 ?_
                            refine g_iconst C dX3_advance_234 ?_
                            refine g_icmp_ne C (iw (il 4) (by decide) (by decide)) (iw (il 1) (by decide) (by decide)) 248 (by decide) dX3_advance_235 (fun q1454 => ?_) (fun q1455 => ?_)
                            · refine g_null C dX3_advance_248 ?_
                              refine gp_R C fk_LandSurvey_Reader_69 pk_LandSurvey_Reader_6 rfl e1453 (nf_o _ _) dX3_advance_249 (fun h1457 hh1456 => ?_)
                              have O1458 := O1452.pR e1453 hh1456 (okR_f rE_4_6)
                              refine g_goto C 404 (by decide) dX3_advance_252 ?_
                              have e1459 : Rv h1457 a0 13 = v1 := ((pR_j hh1456 (by decide)).trans ((pIR hh1450).trans ((fxR F1436 e895 rfl).trans ((pJR hh892).trans ((pR_j hh888 (by decide)).trans ((pIR hh884).trans ((fxR F19 ta0 rfl).trans e2)))))))
                              have e1460 : Iv h1457 a0 4 = 4 := ((pRI hh1456).trans (pI_e hh1450))
                              obtain ⟨v1461, e1462⟩ : ∃ z, Jv h1457 a0 5 = z := ⟨_, rfl⟩
                              have e1463 : Tg h1457 a0 = 4 := ((pRT hh1456).trans e1453)
                              have f1464 := inL_J O1458 e1462
                              have e1465 : Tg h1457 v1 = 2006 := ((pRT hh1456).trans ((pIT hh1450).trans (fxT F1436 ((pJT hh892).trans ((pRT hh888).trans ((pIT hh884).trans (fxT F19 t3)))))))
                              have e1466 : Rv h14 a0 13 = v1 := ((fxR F19 ta0 rfl).trans e2)
                              have e1467 : Tg h14 v1 = 2006 := (fxT F19 t3)
                              have e1468 : Rv h885 a0 13 = v1 := ((pIR hh884).trans e1466)
                              have e1469 : Tg h885 v1 = 2006 := ((pIT hh884).trans e1467)
                              have e1470 : Rv h889 a0 13 = v1 := ((pR_j hh888 (by decide)).trans e1468)
                              have e1471 : Tg h889 v1 = 2006 := ((pRT hh888).trans e1469)
                              have e1472 : Rv h893 a0 13 = v1 := ((pJR hh892).trans e1470)
                              have e1473 : Tg h893 v1 = 2006 := ((pJT hh892).trans e1471)
                              have e1474 : Rv h1431 a0 13 = v1 := ((fxR F1436 e895 rfl).trans e1472)
                              have e1475 : Tg h1431 v1 = 2006 := (fxT F1436 e1473)
                              have e1476 : Rv h1451 a0 13 = v1 := ((pIR hh1450).trans e1474)
                              have e1477 : Tg h1451 v1 = 2006 := ((pIT hh1450).trans e1475)
                              have p1478 := (DOk_fx O1452 ((Fx.rf (wr := [806]) (h := h1451)).pR e1453 hh1456 rfl) e1453 (by rw [e1476]; exact e1477) rfl (DOk_fx O1435 ((Fx.rf (wr := [804]) (h := h1431)).pI e1439 hh1450 rfl) e1439 (by rw [e1474]; exact e1475) rfl (DOk_fx O894 F1436 e895 (by rw [e1472]; exact e1473) rfl (DOk_fx O890 ((Fx.rf (wr := [805]) (h := h889)).pJ e891 hh892 rfl) e891 (by rw [e1470]; exact e1471) rfl (DOk_fx O886 ((Fx.rf (wr := [806]) (h := h885)).pR e887 hh888 rfl) e887 (by rw [e1468]; exact e1469) rfl (DOk_fx O18 ((Fx.rf (wr := [803]) (h := h14)).pI e22 hh884 rfl) e22 (by rw [e1466]; exact e1467) rfl (DOk_fx O F19 ta0 (by rw [e2]; exact t3) rfl P_RInv.2.1)))))))
                              exact g_vret C hr ⟨O1458, ((((((((Fx.rf (wr := wr_k_X3_advance)).call F19 rfl).pI e22 hh884 rfl).pR e887 hh888 rfl).pJ e891 hh892 rfl).call F1436 rfl).pI e1439 hh1450 rfl).pR e1453 hh1456 rfl), (by unfold RInv; rw [e1459, e1460, e1462, (pR_e hh1456)]; exact ⟨e1465, p1478, by omega, (Or.inl rfl)⟩)⟩ (by decide) (by decide) dX3_advance_404
                            · exact (no_eq (il 4) (il 1) q1455 (by decide)).elim
                          · have f1479 : (-1498 : Int) ≤ (v1437 - v20) ∧ (v1437 - v20) ≤ (8 : Int) := r_le f1446 (il 8) q1448 (by decide) (by decide)
                            refine g_iconst C dX3_advance_221 ?_
                            refine g_goto C 226 (by decide) dX3_advance_222 ?_
                            refine gp_I C fk_LandSurvey_Reader_49 pk_LandSurvey_Reader_4 rfl e1439 (iw (il 1) (by decide) (by decide)) (nf_i _) dX3_advance_226 (fun h1481 hh1480 => ?_)
                            have O1482 := O1435.pI e1439 hh1480 rI_4_4 (iw (il 1) (by decide) (by decide)) nofun
                            refine g_aload_n C rfl 0 rfl dX3_advance_229 ?_
                            refine g_aload_n C rfl 0 rfl dX3_advance_230 ?_
                            have e1483 : Tg h1481 a0 = 4 := ((pIT hh1480).trans e1439)
                            refine gf_I C fk_LandSurvey_Reader_49 rfl e1483 (pI_e hh1480) dX3_advance_231 ?_
                            refine g_iconst C dX3_advance_234 ?_
                            refine g_icmp_ne C (iw (il 1) (by decide) (by decide)) (iw (il 1) (by decide) (by decide)) 248 (by decide) dX3_advance_235 (fun q1484 => ?_) (fun q1485 => ?_)
                            · exact (no_ne (il 1) (il 1) q1484 (by decide)).elim
                            · refine g_aload_n C rfl 0 rfl dX3_advance_238 ?_
                              obtain ⟨v1486, e1487⟩ : ∃ z, Jv h1481 a0 5 = z := ⟨_, rfl⟩
                              have f1488 := inL_J O1482 e1487
                              refine gf_J C fk_LandSurvey_Reader_73 rfl e1483 e1487 dX3_advance_239 ?_
                              refine g_callR (st := [.inr (.inr a0)]) (gc_S C lk_LandSurvey_Reader_79 (k_X10_ofCode l D cy w z0 O1482 f1488) rfl ⟨by decide, by decide⟩ (Nat.le_of_ble_eq_true rfl) dX3_advance_242 ⟨(by decide), (by decide)⟩) (fun r1489 h1490 K1491 => ?_)
                              obtain ⟨O1493, F1494, p1495⟩ := K1491
                              refine g_goto C 249 (by decide) dX3_advance_245 ?_
                              have e1496 : Tg h1490 a0 = 4 := (fxT F1494 e1483)
                              refine gp_R C fk_LandSurvey_Reader_69 pk_LandSurvey_Reader_6 rfl e1496 (nf_o _ _) dX3_advance_249 (fun h1498 hh1497 => ?_)
                              have O1499 := O1493.pR e1496 hh1497 (okR_f rE_4_6)
                              refine g_goto C 404 (by decide) dX3_advance_252 ?_
                              have e1500 : Rv h1498 a0 13 = v1 := ((pR_j hh1497 (by decide)).trans ((fxR F1494 e1483 rfl).trans ((pIR hh1480).trans ((fxR F1436 e895 rfl).trans ((pJR hh892).trans ((pR_j hh888 (by decide)).trans ((pIR hh884).trans ((fxR F19 ta0 rfl).trans e2))))))))
                              have e1501 : Iv h1498 a0 4 = 1 := ((pRI hh1497).trans ((fxI F1494 e1483 rfl).trans (pI_e hh1480)))
                              have e1502 : Jv h1498 a0 5 = v1486 := ((pRJ hh1497).trans ((fxJ F1494 e1483 rfl).trans e1487))
                              have e1503 : Tg h1498 v1 = 2006 := ((pRT hh1497).trans (fxT F1494 ((pIT hh1480).trans (fxT F1436 ((pJT hh892).trans ((pRT hh888).trans ((pIT hh884).trans (fxT F19 t3))))))))
                              have e1504 : Rv h14 a0 13 = v1 := ((fxR F19 ta0 rfl).trans e2)
                              have e1505 : Tg h14 v1 = 2006 := (fxT F19 t3)
                              have e1506 : Rv h885 a0 13 = v1 := ((pIR hh884).trans e1504)
                              have e1507 : Tg h885 v1 = 2006 := ((pIT hh884).trans e1505)
                              have e1508 : Rv h889 a0 13 = v1 := ((pR_j hh888 (by decide)).trans e1506)
                              have e1509 : Tg h889 v1 = 2006 := ((pRT hh888).trans e1507)
                              have e1510 : Rv h893 a0 13 = v1 := ((pJR hh892).trans e1508)
                              have e1511 : Tg h893 v1 = 2006 := ((pJT hh892).trans e1509)
                              have e1512 : Rv h1431 a0 13 = v1 := ((fxR F1436 e895 rfl).trans e1510)
                              have e1513 : Tg h1431 v1 = 2006 := (fxT F1436 e1511)
                              have e1514 : Rv h1481 a0 13 = v1 := ((pIR hh1480).trans e1512)
                              have e1515 : Tg h1481 v1 = 2006 := ((pIT hh1480).trans e1513)
                              have e1516 : Rv h1490 a0 13 = v1 := ((fxR F1494 e1483 rfl).trans e1514)
                              have e1517 : Tg h1490 v1 = 2006 := (fxT F1494 e1515)
                              have p1518 := (DOk_fx O1493 ((Fx.rf (wr := [806]) (h := h1490)).pR e1496 hh1497 rfl) e1496 (by rw [e1516]; exact e1517) rfl (DOk_fx O1482 F1494 e1483 (by rw [e1514]; exact e1515) rfl (DOk_fx O1435 ((Fx.rf (wr := [804]) (h := h1431)).pI e1439 hh1480 rfl) e1439 (by rw [e1512]; exact e1513) rfl (DOk_fx O894 F1436 e895 (by rw [e1510]; exact e1511) rfl (DOk_fx O890 ((Fx.rf (wr := [805]) (h := h889)).pJ e891 hh892 rfl) e891 (by rw [e1508]; exact e1509) rfl (DOk_fx O886 ((Fx.rf (wr := [806]) (h := h885)).pR e887 hh888 rfl) e887 (by rw [e1506]; exact e1507) rfl (DOk_fx O18 ((Fx.rf (wr := [803]) (h := h14)).pI e22 hh884 rfl) e22 (by rw [e1504]; exact e1505) rfl (DOk_fx O F19 ta0 (by rw [e2]; exact t3) rfl P_RInv.2.1))))))))
                              exact g_vret C hr ⟨O1499, (((((((((Fx.rf (wr := wr_k_X3_advance)).call F19 rfl).pI e22 hh884 rfl).pR e887 hh888 rfl).pJ e891 hh892 rfl).call F1436 rfl).pI e1439 hh1480 rfl).call F1494 rfl).pR e1496 hh1497 rfl), (by unfold RInv; rw [e1500, e1501, e1502, (pR_e hh1497)]; exact ⟨e1503, p1518, by omega, p1495⟩)⟩ (by decide) (by decide) dX3_advance_404
                        · have f1519 : (0 : Int) ≤ v1437 ∧ v1437 ≤ (1499 : Int) := r_lt f1440 f866 q1443 (by decide) (by decide)
                          refine g_aload_n C rfl 0 rfl dX3_advance_137 ?_
                          have e1520 : Rv h1431 a0 0 = v867 := ((fxR F1436 e895 rfl).trans e1002)
                          refine gf_R C fk_LandSurvey_Reader_9 rfl e1439 e1520 dX3_advance_138 ?_
                          refine g_aload_n C rfl 0 rfl dX3_advance_141 ?_
                          refine gf_I C fk_LandSurvey_Reader_30 rfl e1439 e1438 dX3_advance_142 ?_
                          have e1521 : Tg h1431 v867 = 19103 := (fxT F1436 e1003)
                          have e1522 : Ln h1431 v867 = 1500 := ((fxL F1436 e1003).trans e1004)
                          obtain ⟨v1523, e1524⟩ : ∃ z, Iv h1431 v867 v1437.toNat = z := ⟨_, rfl⟩
                          have f1525 := ok_Ia O1435 e1521 ar_19103 rI_19103_0 e1524
                          refine g_cald C e1521 rfl e1522 (ix f1519 (by decide) (by decide)) e1524 dX3_advance_145 ?_
                          refine g_bipush C (by decide) dX3_advance_146 ?_
                          refine g_icmp_lt C (iw f1525 (by decide) (by decide)) (iw (il 97) (by decide) (by decide)) 206 (by decide) dX3_advance_148 (fun q1526 => ?_) (fun q1527 => ?_)
                          · have f1528 : (0 : Int) ≤ v1523 ∧ v1523 ≤ (96 : Int) := r_lt f1525 (il 97) q1526 (by decide) (by decide)
                            refine g_aload_n C rfl 0 rfl dX3_advance_206 ?_
                            refine g_aload_n C rfl 0 rfl dX3_advance_207 ?_
                            refine gf_I C fk_LandSurvey_Reader_30 rfl e1439 e1438 dX3_advance_208 ?_
                            refine g_aload_n C rfl 0 rfl dX3_advance_211 ?_
                            have e1529 : Iv h1431 a0 3 = v20 := ((fxI F1436 e895 rfl).trans ((pJI hh892).trans ((pRI hh888).trans (pI_e hh884))))
                            refine gf_I C fk_LandSurvey_Reader_66 rfl e1439 e1529 dX3_advance_212 ?_
                            have f1530 : (-1499 : Int) ≤ (v1437 - v20) ∧ (v1437 - v20) ≤ (1499 : Int) := ia_sub f1519 f865 (by decide) (by decide)
                            refine g_isub C dX3_advance_215 ?_
                            refine g_bipush C (by decide) dX3_advance_216 ?_
                            refine g_icmp_gt C (iw f1530 (by decide) (by decide)) (iw (il 8) (by decide) (by decide)) 225 (by decide) dX3_advance_218 (fun q1531 => ?_) (fun q1532 => ?_)
                            · have f1533 : (9 : Int) ≤ (v1437 - v20) ∧ (v1437 - v20) ≤ (1499 : Int) := r_gt f1530 (il 8) q1531 (by decide) (by decide)
                              refine g_iconst C dX3_advance_225 ?_
                              refine gp_I C fk_LandSurvey_Reader_49 pk_LandSurvey_Reader_4 rfl e1439 (iw (il 4) (by decide) (by decide)) (nf_i _) dX3_advance_226 (fun h1535 hh1534 => ?_)
                              have O1536 := O1435.pI e1439 hh1534 rI_4_4 (iw (il 4) (by decide) (by decide)) nofun
                              refine g_aload_n C rfl 0 rfl dX3_advance_229 ?_
                              refine g_aload_n C rfl 0 rfl dX3_advance_230 ?_
                              have e1537 : Tg h1535 a0 = 4 := ((pIT hh1534).trans e1439)
                              refine gf_I C fk_LandSurvey_Reader_49 rfl e1537 (pI_e hh1534) dX3_advance_231 ?_
                              refine g_iconst C dX3_advance_234 ?_
                              refine g_icmp_ne C (iw (il 4) (by decide) (by decide)) (iw (il 1) (by decide) (by decide)) 248 (by decide) dX3_advance_235 (fun q1538 => ?_) (fun q1539 => ?_)
                              · refine g_null C dX3_advance_248 ?_
                                refine gp_R C fk_LandSurvey_Reader_69 pk_LandSurvey_Reader_6 rfl e1537 (nf_o _ _) dX3_advance_249 (fun h1541 hh1540 => ?_)
                                have O1542 := O1536.pR e1537 hh1540 (okR_f rE_4_6)
                                refine g_goto C 404 (by decide) dX3_advance_252 ?_
                                have e1543 : Rv h1541 a0 13 = v1 := ((pR_j hh1540 (by decide)).trans ((pIR hh1534).trans ((fxR F1436 e895 rfl).trans ((pJR hh892).trans ((pR_j hh888 (by decide)).trans ((pIR hh884).trans ((fxR F19 ta0 rfl).trans e2)))))))
                                have e1544 : Iv h1541 a0 4 = 4 := ((pRI hh1540).trans (pI_e hh1534))
                                obtain ⟨v1545, e1546⟩ : ∃ z, Jv h1541 a0 5 = z := ⟨_, rfl⟩
                                have e1547 : Tg h1541 a0 = 4 := ((pRT hh1540).trans e1537)
                                have f1548 := inL_J O1542 e1546
                                have e1549 : Tg h1541 v1 = 2006 := ((pRT hh1540).trans ((pIT hh1534).trans (fxT F1436 ((pJT hh892).trans ((pRT hh888).trans ((pIT hh884).trans (fxT F19 t3)))))))
                                have e1550 : Rv h14 a0 13 = v1 := ((fxR F19 ta0 rfl).trans e2)
                                have e1551 : Tg h14 v1 = 2006 := (fxT F19 t3)
                                have e1552 : Rv h885 a0 13 = v1 := ((pIR hh884).trans e1550)
                                have e1553 : Tg h885 v1 = 2006 := ((pIT hh884).trans e1551)
                                have e1554 : Rv h889 a0 13 = v1 := ((pR_j hh888 (by decide)).trans e1552)
                                have e1555 : Tg h889 v1 = 2006 := ((pRT hh888).trans e1553)
                                have e1556 : Rv h893 a0 13 = v1 := ((pJR hh892).trans e1554)
                                have e1557 : Tg h893 v1 = 2006 := ((pJT hh892).trans e1555)
                                have e1558 : Rv h1431 a0 13 = v1 := ((fxR F1436 e895 rfl).trans e1556)
                                have e1559 : Tg h1431 v1 = 2006 := (fxT F1436 e1557)
                                have e1560 : Rv h1535 a0 13 = v1 := ((pIR hh1534).trans e1558)
                                have e1561 : Tg h1535 v1 = 2006 := ((pIT hh1534).trans e1559)
                                have p1562 := (DOk_fx O1536 ((Fx.rf (wr := [806]) (h := h1535)).pR e1537 hh1540 rfl) e1537 (by rw [e1560]; exact e1561) rfl (DOk_fx O1435 ((Fx.rf (wr := [804]) (h := h1431)).pI e1439 hh1534 rfl) e1439 (by rw [e1558]; exact e1559) rfl (DOk_fx O894 F1436 e895 (by rw [e1556]; exact e1557) rfl (DOk_fx O890 ((Fx.rf (wr := [805]) (h := h889)).pJ e891 hh892 rfl) e891 (by rw [e1554]; exact e1555) rfl (DOk_fx O886 ((Fx.rf (wr := [806]) (h := h885)).pR e887 hh888 rfl) e887 (by rw [e1552]; exact e1553) rfl (DOk_fx O18 ((Fx.rf (wr := [803]) (h := h14)).pI e22 hh884 rfl) e22 (by rw [e1550]; exact e1551) rfl (DOk_fx O F19 ta0 (by rw [e2]; exact t3) rfl P_RInv.2.1)))))))
                                exact g_vret C hr ⟨O1542, ((((((((Fx.rf (wr := wr_k_X3_advance)).call F19 rfl).pI e22 hh884 rfl).pR e887 hh888 rfl).pJ e891 hh892 rfl).call F1436 rfl).pI e1439 hh1534 rfl).pR e1537 hh1540 rfl), (by unfold RInv; rw [e1543, e1544, e1546, (pR_e hh1540)]; exact ⟨e1549, p1562, by omega, (Or.inl rfl)⟩)⟩ (by decide) (by decide) dX3_advance_404
                              · exact (no_eq (il 4) (il 1) q1539 (by decide)).elim
                            · have f1563 : (-1499 : Int) ≤ (v1437 - v20) ∧ (v1437 - v20) ≤ (8 : Int) := r_le f1530 (il 8) q1532 (by decide) (by decide)
                              refine g_iconst C dX3_advance_221 ?_
                              refine g_goto C 226 (by decide) dX3_advance_222 ?_
                              refine gp_I C fk_LandSurvey_Reader_49 pk_LandSurvey_Reader_4 rfl e1439 (iw (il 1) (by decide) (by decide)) (nf_i _) dX3_advance_226 (fun h1565 hh1564 => ?_)
                              have O1566 := O1435.pI e1439 hh1564 rI_4_4 (iw (il 1) (by decide) (by decide)) nofun
                              refine g_aload_n C rfl 0 rfl dX3_advance_229 ?_
                              refine g_aload_n C rfl 0 rfl dX3_advance_230 ?_
                              have e1567 : Tg h1565 a0 = 4 := ((pIT hh1564).trans e1439)
                              refine gf_I C fk_LandSurvey_Reader_49 rfl e1567 (pI_e hh1564) dX3_advance_231 ?_
                              refine g_iconst C dX3_advance_234 ?_
                              refine g_icmp_ne C (iw (il 1) (by decide) (by decide)) (iw (il 1) (by decide) (by decide)) 248 (by decide) dX3_advance_235 (fun q1568 => ?_) (fun q1569 => ?_)
                              · exact (no_ne (il 1) (il 1) q1568 (by decide)).elim
                              · refine g_aload_n C rfl 0 rfl dX3_advance_238 ?_
                                obtain ⟨v1570, e1571⟩ : ∃ z, Jv h1565 a0 5 = z := ⟨_, rfl⟩
                                have f1572 := inL_J O1566 e1571
                                refine gf_J C fk_LandSurvey_Reader_73 rfl e1567 e1571 dX3_advance_239 ?_
                                refine g_callR (st := [.inr (.inr a0)]) (gc_S C lk_LandSurvey_Reader_79 (k_X10_ofCode l D cy w z0 O1566 f1572) rfl ⟨by decide, by decide⟩ (Nat.le_of_ble_eq_true rfl) dX3_advance_242 ⟨(by decide), (by decide)⟩) (fun r1573 h1574 K1575 => ?_)
                                obtain ⟨O1577, F1578, p1579⟩ := K1575
                                refine g_goto C 249 (by decide) dX3_advance_245 ?_
                                have e1580 : Tg h1574 a0 = 4 := (fxT F1578 e1567)
                                refine gp_R C fk_LandSurvey_Reader_69 pk_LandSurvey_Reader_6 rfl e1580 (nf_o _ _) dX3_advance_249 (fun h1582 hh1581 => ?_)
                                have O1583 := O1577.pR e1580 hh1581 (okR_f rE_4_6)
                                refine g_goto C 404 (by decide) dX3_advance_252 ?_
                                have e1584 : Rv h1582 a0 13 = v1 := ((pR_j hh1581 (by decide)).trans ((fxR F1578 e1567 rfl).trans ((pIR hh1564).trans ((fxR F1436 e895 rfl).trans ((pJR hh892).trans ((pR_j hh888 (by decide)).trans ((pIR hh884).trans ((fxR F19 ta0 rfl).trans e2))))))))
                                have e1585 : Iv h1582 a0 4 = 1 := ((pRI hh1581).trans ((fxI F1578 e1567 rfl).trans (pI_e hh1564)))
                                have e1586 : Jv h1582 a0 5 = v1570 := ((pRJ hh1581).trans ((fxJ F1578 e1567 rfl).trans e1571))
                                have e1587 : Tg h1582 v1 = 2006 := ((pRT hh1581).trans (fxT F1578 ((pIT hh1564).trans (fxT F1436 ((pJT hh892).trans ((pRT hh888).trans ((pIT hh884).trans (fxT F19 t3))))))))
                                have e1588 : Rv h14 a0 13 = v1 := ((fxR F19 ta0 rfl).trans e2)
                                have e1589 : Tg h14 v1 = 2006 := (fxT F19 t3)
                                have e1590 : Rv h885 a0 13 = v1 := ((pIR hh884).trans e1588)
                                have e1591 : Tg h885 v1 = 2006 := ((pIT hh884).trans e1589)
                                have e1592 : Rv h889 a0 13 = v1 := ((pR_j hh888 (by decide)).trans e1590)
                                have e1593 : Tg h889 v1 = 2006 := ((pRT hh888).trans e1591)
                                have e1594 : Rv h893 a0 13 = v1 := ((pJR hh892).trans e1592)
                                have e1595 : Tg h893 v1 = 2006 := ((pJT hh892).trans e1593)
                                have e1596 : Rv h1431 a0 13 = v1 := ((fxR F1436 e895 rfl).trans e1594)
                                have e1597 : Tg h1431 v1 = 2006 := (fxT F1436 e1595)
                                have e1598 : Rv h1565 a0 13 = v1 := ((pIR hh1564).trans e1596)
                                have e1599 : Tg h1565 v1 = 2006 := ((pIT hh1564).trans e1597)
                                have e1600 : Rv h1574 a0 13 = v1 := ((fxR F1578 e1567 rfl).trans e1598)
                                have e1601 : Tg h1574 v1 = 2006 := (fxT F1578 e1599)
                                have p1602 := (DOk_fx O1577 ((Fx.rf (wr := [806]) (h := h1574)).pR e1580 hh1581 rfl) e1580 (by rw [e1600]; exact e1601) rfl (DOk_fx O1566 F1578 e1567 (by rw [e1598]; exact e1599) rfl (DOk_fx O1435 ((Fx.rf (wr := [804]) (h := h1431)).pI e1439 hh1564 rfl) e1439 (by rw [e1596]; exact e1597) rfl (DOk_fx O894 F1436 e895 (by rw [e1594]; exact e1595) rfl (DOk_fx O890 ((Fx.rf (wr := [805]) (h := h889)).pJ e891 hh892 rfl) e891 (by rw [e1592]; exact e1593) rfl (DOk_fx O886 ((Fx.rf (wr := [806]) (h := h885)).pR e887 hh888 rfl) e887 (by rw [e1590]; exact e1591) rfl (DOk_fx O18 ((Fx.rf (wr := [803]) (h := h14)).pI e22 hh884 rfl) e22 (by rw [e1588]; exact e1589) rfl (DOk_fx O F19 ta0 (by rw [e2]; exact t3) rfl P_RInv.2.1))))))))
                                exact g_vret C hr ⟨O1583, (((((((((Fx.rf (wr := wr_k_X3_advance)).call F19 rfl).pI e22 hh884 rfl).pR e887 hh888 rfl).pJ e891 hh892 rfl).call F1436 rfl).pI e1439 hh1564 rfl).call F1578 rfl).pR e1580 hh1581 rfl), (by unfold RInv; rw [e1584, e1585, e1586, (pR_e hh1581)]; exact ⟨e1587, p1602, by omega, p1579⟩)⟩ (by decide) (by decide) dX3_advance_404
                          · have f1603 : (97 : Int) ≤ v1523 ∧ v1523 ≤ (126 : Int) := r_ge f1525 (il 97) q1527 (by decide) (by decide)
                            refine g_aload_n C rfl 0 rfl dX3_advance_151 ?_
                            refine gf_R C fk_LandSurvey_Reader_9 rfl e1439 e1520 dX3_advance_152 ?_
                            refine g_aload_n C rfl 0 rfl dX3_advance_155 ?_
                            refine gf_I C fk_LandSurvey_Reader_30 rfl e1439 e1438 dX3_advance_156 ?_
                            refine g_cald C e1521 rfl e1522 (ix f1519 (by decide) (by decide)) e1524 dX3_advance_159 ?_
                            refine g_bipush C (by decide) dX3_advance_160 ?_
                            refine g_icmp_gt C (iw f1603 (by decide) (by decide)) (iw (il 122) (by decide) (by decide)) 206 (by decide) dX3_advance_162 (fun q1604 => ?_) (fun q1605 => ?_)
                            · have f1606 : (123 : Int) ≤ v1523 ∧ v1523 ≤ (126 : Int) := r_gt f1603 (il 122) q1604 (by decide) (by decide)
                              refine g_aload_n C rfl 0 rfl dX3_advance_206 ?_
                              refine g_aload_n C rfl 0 rfl dX3_advance_207 ?_
                              refine gf_I C fk_LandSurvey_Reader_30 rfl e1439 e1438 dX3_advance_208 ?_
                              refine g_aload_n C rfl 0 rfl dX3_advance_211 ?_
                              have e1607 : Iv h1431 a0 3 = v20 := ((fxI F1436 e895 rfl).trans ((pJI hh892).trans ((pRI hh888).trans (pI_e hh884))))
                              refine gf_I C fk_LandSurvey_Reader_66 rfl e1439 e1607 dX3_advance_212 ?_
                              have f1608 : (-1499 : Int) ≤ (v1437 - v20) ∧ (v1437 - v20) ≤ (1499 : Int) := ia_sub f1519 f865 (by decide) (by decide)
                              refine g_isub C dX3_advance_215 ?_
                              refine g_bipush C (by decide) dX3_advance_216 ?_
                              refine g_icmp_gt C (iw f1608 (by decide) (by decide)) (iw (il 8) (by decide) (by decide)) 225 (by decide) dX3_advance_218 (fun q1609 => ?_) (fun q1610 => ?_)
                              · have f1611 : (9 : Int) ≤ (v1437 - v20) ∧ (v1437 - v20) ≤ (1499 : Int) := r_gt f1608 (il 8) q1609 (by decide) (by decide)
                                refine g_iconst C dX3_advance_225 ?_
                                refine gp_I C fk_LandSurvey_Reader_49 pk_LandSurvey_Reader_4 rfl e1439 (iw (il 4) (by decide) (by decide)) (nf_i _) dX3_advance_226 (fun h1613 hh1612 => ?_)
                                have O1614 := O1435.pI e1439 hh1612 rI_4_4 (iw (il 4) (by decide) (by decide)) nofun
                                refine g_aload_n C rfl 0 rfl dX3_advance_229 ?_
                                refine g_aload_n C rfl 0 rfl dX3_advance_230 ?_
                                have e1615 : Tg h1613 a0 = 4 := ((pIT hh1612).trans e1439)
                                refine gf_I C fk_LandSurvey_Reader_49 rfl e1615 (pI_e hh1612) dX3_advance_231 ?_
                                refine g_iconst C dX3_advance_234 ?_
                                refine g_icmp_ne C (iw (il 4) (by decide) (by decide)) (iw (il 1) (by decide) (by decide)) 248 (by decide) dX3_advance_235 (fun q1616 => ?_) (fun q1617 => ?_)
                                · refine g_null C dX3_advance_248 ?_
                                  refine gp_R C fk_LandSurvey_Reader_69 pk_LandSurvey_Reader_6 rfl e1615 (nf_o _ _) dX3_advance_249 (fun h1619 hh1618 => ?_)
                                  have O1620 := O1614.pR e1615 hh1618 (okR_f rE_4_6)
                                  refine g_goto C 404 (by decide) dX3_advance_252 ?_
                                  have e1621 : Rv h1619 a0 13 = v1 := ((pR_j hh1618 (by decide)).trans ((pIR hh1612).trans ((fxR F1436 e895 rfl).trans ((pJR hh892).trans ((pR_j hh888 (by decide)).trans ((pIR hh884).trans ((fxR F19 ta0 rfl).trans e2)))))))
                                  have e1622 : Iv h1619 a0 4 = 4 := ((pRI hh1618).trans (pI_e hh1612))
                                  obtain ⟨v1623, e1624⟩ : ∃ z, Jv h1619 a0 5 = z := ⟨_, rfl⟩
                                  have e1625 : Tg h1619 a0 = 4 := ((pRT hh1618).trans e1615)
                                  have f1626 := inL_J O1620 e1624
                                  have e1627 : Tg h1619 v1 = 2006 := ((pRT hh1618).trans ((pIT hh1612).trans (fxT F1436 ((pJT hh892).trans ((pRT hh888).trans ((pIT hh884).trans (fxT F19 t3)))))))
                                  have e1628 : Rv h14 a0 13 = v1 := ((fxR F19 ta0 rfl).trans e2)
                                  have e1629 : Tg h14 v1 = 2006 := (fxT F19 t3)
                                  have e1630 : Rv h885 a0 13 = v1 := ((pIR hh884).trans e1628)
                                  have e1631 : Tg h885 v1 = 2006 := ((pIT hh884).trans e1629)
                                  have e1632 : Rv h889 a0 13 = v1 := ((pR_j hh888 (by decide)).trans e1630)
                                  have e1633 : Tg h889 v1 = 2006 := ((pRT hh888).trans e1631)
                                  have e1634 : Rv h893 a0 13 = v1 := ((pJR hh892).trans e1632)
                                  have e1635 : Tg h893 v1 = 2006 := ((pJT hh892).trans e1633)
                                  have e1636 : Rv h1431 a0 13 = v1 := ((fxR F1436 e895 rfl).trans e1634)
                                  have e1637 : Tg h1431 v1 = 2006 := (fxT F1436 e1635)
                                  have e1638 : Rv h1613 a0 13 = v1 := ((pIR hh1612).trans e1636)
                                  have e1639 : Tg h1613 v1 = 2006 := ((pIT hh1612).trans e1637)
                                  have p1640 := (DOk_fx O1614 ((Fx.rf (wr := [806]) (h := h1613)).pR e1615 hh1618 rfl) e1615 (by rw [e1638]; exact e1639) rfl (DOk_fx O1435 ((Fx.rf (wr := [804]) (h := h1431)).pI e1439 hh1612 rfl) e1439 (by rw [e1636]; exact e1637) rfl (DOk_fx O894 F1436 e895 (by rw [e1634]; exact e1635) rfl (DOk_fx O890 ((Fx.rf (wr := [805]) (h := h889)).pJ e891 hh892 rfl) e891 (by rw [e1632]; exact e1633) rfl (DOk_fx O886 ((Fx.rf (wr := [806]) (h := h885)).pR e887 hh888 rfl) e887 (by rw [e1630]; exact e1631) rfl (DOk_fx O18 ((Fx.rf (wr := [803]) (h := h14)).pI e22 hh884 rfl) e22 (by rw [e1628]; exact e1629) rfl (DOk_fx O F19 ta0 (by rw [e2]; exact t3) rfl P_RInv.2.1)))))))
                                  exact g_vret C hr ⟨O1620, ((((((((Fx.rf (wr := wr_k_X3_advance)).call F19 rfl).pI e22 hh884 rfl).pR e887 hh888 rfl).pJ e891 hh892 rfl).call F1436 rfl).pI e1439 hh1612 rfl).pR e1615 hh1618 rfl), (by unfold RInv; rw [e1621, e1622, e1624, (pR_e hh1618)]; exact ⟨e1627, p1640, by omega, (Or.inl rfl)⟩)⟩ (by decide) (by decide) dX3_advance_404
                                · exact (no_eq (il 4) (il 1) q1617 (by decide)).elim
                              · have f1641 : (-1499 : Int) ≤ (v1437 - v20) ∧ (v1437 - v20) ≤ (8 : Int) := r_le f1608 (il 8) q1610 (by decide) (by decide)
                                refine g_iconst C dX3_advance_221 ?_
                                refine g_goto C 226 (by decide) dX3_advance_222 ?_
                                refine gp_I C fk_LandSurvey_Reader_49 pk_LandSurvey_Reader_4 rfl e1439 (iw (il 1) (by decide) (by decide)) (nf_i _) dX3_advance_226 (fun h1643 hh1642 => ?_)
                                have O1644 := O1435.pI e1439 hh1642 rI_4_4 (iw (il 1) (by decide) (by decide)) nofun
                                refine g_aload_n C rfl 0 rfl dX3_advance_229 ?_
                                refine g_aload_n C rfl 0 rfl dX3_advance_230 ?_
                                have e1645 : Tg h1643 a0 = 4 := ((pIT hh1642).trans e1439)
                                refine gf_I C fk_LandSurvey_Reader_49 rfl e1645 (pI_e hh1642) dX3_advance_231 ?_
                                refine g_iconst C dX3_advance_234 ?_
                                refine g_icmp_ne C (iw (il 1) (by decide) (by decide)) (iw (il 1) (by decide) (by decide)) 248 (by decide) dX3_advance_235 (fun q1646 => ?_) (fun q1647 => ?_)
                                · exact (no_ne (il 1) (il 1) q1646 (by decide)).elim
                                · refine g_aload_n C rfl 0 rfl dX3_advance_238 ?_
                                  obtain ⟨v1648, e1649⟩ : ∃ z, Jv h1643 a0 5 = z := ⟨_, rfl⟩
                                  have f1650 := inL_J O1644 e1649
                                  refine gf_J C fk_LandSurvey_Reader_73 rfl e1645 e1649 dX3_advance_239 ?_
                                  refine g_callR (st := [.inr (.inr a0)]) (gc_S C lk_LandSurvey_Reader_79 (k_X10_ofCode l D cy w z0 O1644 f1650) rfl ⟨by decide, by decide⟩ (Nat.le_of_ble_eq_true rfl) dX3_advance_242 ⟨(by decide), (by decide)⟩) (fun r1651 h1652 K1653 => ?_)
                                  obtain ⟨O1655, F1656, p1657⟩ := K1653
                                  refine g_goto C 249 (by decide) dX3_advance_245 ?_
                                  have e1658 : Tg h1652 a0 = 4 := (fxT F1656 e1645)
                                  refine gp_R C fk_LandSurvey_Reader_69 pk_LandSurvey_Reader_6 rfl e1658 (nf_o _ _) dX3_advance_249 (fun h1660 hh1659 => ?_)
                                  have O1661 := O1655.pR e1658 hh1659 (okR_f rE_4_6)
                                  refine g_goto C 404 (by decide) dX3_advance_252 ?_
                                  have e1662 : Rv h1660 a0 13 = v1 := ((pR_j hh1659 (by decide)).trans ((fxR F1656 e1645 rfl).trans ((pIR hh1642).trans ((fxR F1436 e895 rfl).trans ((pJR hh892).trans ((pR_j hh888 (by decide)).trans ((pIR hh884).trans ((fxR F19 ta0 rfl).trans e2))))))))
                                  have e1663 : Iv h1660 a0 4 = 1 := ((pRI hh1659).trans ((fxI F1656 e1645 rfl).trans (pI_e hh1642)))
                                  have e1664 : Jv h1660 a0 5 = v1648 := ((pRJ hh1659).trans ((fxJ F1656 e1645 rfl).trans e1649))
                                  have e1665 : Tg h1660 v1 = 2006 := ((pRT hh1659).trans (fxT F1656 ((pIT hh1642).trans (fxT F1436 ((pJT hh892).trans ((pRT hh888).trans ((pIT hh884).trans (fxT F19 t3))))))))
                                  have e1666 : Rv h14 a0 13 = v1 := ((fxR F19 ta0 rfl).trans e2)
                                  have e1667 : Tg h14 v1 = 2006 := (fxT F19 t3)
                                  have e1668 : Rv h885 a0 13 = v1 := ((pIR hh884).trans e1666)
                                  have e1669 : Tg h885 v1 = 2006 := ((pIT hh884).trans e1667)
                                  have e1670 : Rv h889 a0 13 = v1 := ((pR_j hh888 (by decide)).trans e1668)
                                  have e1671 : Tg h889 v1 = 2006 := ((pRT hh888).trans e1669)
                                  have e1672 : Rv h893 a0 13 = v1 := ((pJR hh892).trans e1670)
                                  have e1673 : Tg h893 v1 = 2006 := ((pJT hh892).trans e1671)
                                  have e1674 : Rv h1431 a0 13 = v1 := ((fxR F1436 e895 rfl).trans e1672)
                                  have e1675 : Tg h1431 v1 = 2006 := (fxT F1436 e1673)
                                  have e1676 : Rv h1643 a0 13 = v1 := ((pIR hh1642).trans e1674)
                                  have e1677 : Tg h1643 v1 = 2006 := ((pIT hh1642).trans e1675)
                                  have e1678 : Rv h1652 a0 13 = v1 := ((fxR F1656 e1645 rfl).trans e1676)
                                  have e1679 : Tg h1652 v1 = 2006 := (fxT F1656 e1677)
                                  have p1680 := (DOk_fx O1655 ((Fx.rf (wr := [806]) (h := h1652)).pR e1658 hh1659 rfl) e1658 (by rw [e1678]; exact e1679) rfl (DOk_fx O1644 F1656 e1645 (by rw [e1676]; exact e1677) rfl (DOk_fx O1435 ((Fx.rf (wr := [804]) (h := h1431)).pI e1439 hh1642 rfl) e1439 (by rw [e1674]; exact e1675) rfl (DOk_fx O894 F1436 e895 (by rw [e1672]; exact e1673) rfl (DOk_fx O890 ((Fx.rf (wr := [805]) (h := h889)).pJ e891 hh892 rfl) e891 (by rw [e1670]; exact e1671) rfl (DOk_fx O886 ((Fx.rf (wr := [806]) (h := h885)).pR e887 hh888 rfl) e887 (by rw [e1668]; exact e1669) rfl (DOk_fx O18 ((Fx.rf (wr := [803]) (h := h14)).pI e22 hh884 rfl) e22 (by rw [e1666]; exact e1667) rfl (DOk_fx O F19 ta0 (by rw [e2]; exact t3) rfl P_RInv.2.1))))))))
                                  exact g_vret C hr ⟨O1661, (((((((((Fx.rf (wr := wr_k_X3_advance)).call F19 rfl).pI e22 hh884 rfl).pR e887 hh888 rfl).pJ e891 hh892 rfl).call F1436 rfl).pI e1439 hh1642 rfl).call F1656 rfl).pR e1658 hh1659 rfl), (by unfold RInv; rw [e1662, e1663, e1664, (pR_e hh1659)]; exact ⟨e1665, p1680, by omega, p1657⟩)⟩ (by decide) (by decide) dX3_advance_404
                            · have f1681 : (97 : Int) ≤ v1523 ∧ v1523 ≤ (122 : Int) := r_le f1603 (il 122) q1605 (by decide) (by decide)
                              refine g_aload_n C rfl 0 rfl dX3_advance_165 ?_
                              refine g_ldc2 (z := 27) C kw_677 (by decide) dX3_advance_166 ?_
                              refine g_aload_n C rfl 0 rfl dX3_advance_169 ?_
                              obtain ⟨v1682, e1683⟩ : ∃ z, Jv h1431 a0 5 = z := ⟨_, rfl⟩
                              have f1684 := inL_J O1435 e1683
                              refine gf_J C fk_LandSurvey_Reader_73 rfl e1439 e1683 dX3_advance_170 ?_
                              refine g_lmul C dX3_advance_173 ?_
                              have f1685 : (-9223372036854775808 : Int) ≤ (lM 27 v1682) ∧ (lM 27 v1682) ≤ (9223372036854775807 : Int) := inL_of _
                              refine g_aload_n C rfl 0 rfl dX3_advance_174 ?_
                              refine gf_R C fk_LandSurvey_Reader_9 rfl e1439 e1520 dX3_advance_175 ?_
                              refine g_aload_n C rfl 0 rfl dX3_advance_178 ?_
                              refine gf_I C fk_LandSurvey_Reader_30 rfl e1439 e1438 dX3_advance_179 ?_
                              refine g_cald C e1521 rfl e1522 (ix f1519 (by decide) (by decide)) e1524 dX3_advance_182 ?_
                              refine g_bipush C (by decide) dX3_advance_183 ?_
                              have f1686 : (0 : Int) ≤ (v1523 - 97) ∧ (v1523 - 97) ≤ (25 : Int) := ia_sub f1681 (il 97) (by decide) (by decide)
                              refine g_isub C dX3_advance_185 ?_
                              refine g_iconst C dX3_advance_186 ?_
                              have f1687 : (1 : Int) ≤ ((v1523 - 97) + 1) ∧ ((v1523 - 97) + 1) ≤ (26 : Int) := ia_add f1686 (il 1) (by decide) (by decide)
                              refine g_iadd C dX3_advance_187 ?_
                              refine g_i2l C (iw f1687 (by decide) (by decide)) dX3_advance_188 ?_
                              refine g_ladd C dX3_advance_189 ?_
                              have f1688 : (-9223372036854775808 : Int) ≤ (lA (lM 27 v1682) ((v1523 - 97) + 1)) ∧ (lA (lM 27 v1682) ((v1523 - 97) + 1)) ≤ (9223372036854775807 : Int) := inL_of _
                              refine gp_J C fk_LandSurvey_Reader_73 pk_LandSurvey_Reader_5 rfl e1439 rfl f1688 dX3_advance_190 (fun h1690 hh1689 => ?_)
                              have O1691 := O1435.pJ hh1689 f1688
                              refine g_aload_n C rfl 0 rfl dX3_advance_193 ?_
                              refine g_dup C rfl dX3_advance_194 ?_
                              have e1692 : Tg h1690 a0 = 4 := ((pJT hh1689).trans e1439)
                              have e1693 : Iv h1690 a0 2 = v1437 := ((pJI hh1689).trans e1438)
                              refine gf_I C fk_LandSurvey_Reader_30 rfl e1692 e1693 dX3_advance_195 ?_
                              refine g_iconst C dX3_advance_198 ?_
                              have f1694 : (1 : Int) ≤ (v1437 + 1) ∧ (v1437 + 1) ≤ (1500 : Int) := ia_add f1519 (il 1) (by decide) (by decide)
                              refine g_iadd C dX3_advance_199 ?_
                              refine gp_I C fk_LandSurvey_Reader_30 pk_LandSurvey_Reader_2 rfl e1692 (iw f1694 (by decide) (by decide)) (nf_i _) dX3_advance_200 (fun h1696 hh1695 => ?_)
                              have O1697 := O1691.pI e1692 hh1695 rI_4_2 (iw f1694 (by decide) (by decide)) nofun
                              refine g_goto C 126 (by decide) dX3_advance_203 ?_
                              refine GW.sub [0, 1] rfl ?_
                              have e1698 : Iv h1696 a0 2 = (v1437 + 1) := (pI_e hh1695)
                              exact ih1433 _ (by omega) h1696 rfl O1697 ((F1436.pJ e1439 hh1689 rfl).pI e1692 hh1695 rfl)
                    exact L1432 _ h893 rfl O894 Fx.rf
              · have f1699 : (1 : Int) ≤ v24 ∧ v24 ≤ (1499 : Int) := r_le f866 f865 q1007 (by decide) (by decide)
                have f1700 : (1 : Int) ≤ v20 ∧ v20 ≤ (1499 : Int) := r_ge f865 f866 q1007 (by decide) (by decide)
                refine g_aload_n C rfl 1 rfl dX3_advance_106 ?_
                refine g_iconst C dX3_advance_107 ?_
                refine gp_I C fk_LandSurvey_Reader_49 pk_LandSurvey_Reader_4 rfl e895 (iw (il 0) (by decide) (by decide)) (nf_i _) dX3_advance_108 (fun h1702 hh1701 => ?_)
                have O1703 := O894.pI e895 hh1701 rI_4_4 (iw (il 0) (by decide) (by decide)) nofun
                refine g_goto C 404 (by decide) dX3_advance_111 ?_
                have e1704 : Rv h1702 a0 13 = v1 := ((pIR hh1701).trans ((pJR hh892).trans ((pR_j hh888 (by decide)).trans ((pIR hh884).trans ((fxR F19 ta0 rfl).trans e2)))))
                have e1705 : Jv h1702 a0 5 = 0 := ((pIJ hh1701).trans (pJ_e hh892))
                have e1706 : Rv h1702 a0 6 = 0 := ((pIR hh1701).trans ((pJR hh892).trans (pR_e hh888)))
                have e1707 : Tg h1702 v1 = 2006 := ((pIT hh1701).trans ((pJT hh892).trans ((pRT hh888).trans ((pIT hh884).trans (fxT F19 t3)))))
                have e1708 : Rv h14 a0 13 = v1 := ((fxR F19 ta0 rfl).trans e2)
                have e1709 : Tg h14 v1 = 2006 := (fxT F19 t3)
                have e1710 : Rv h885 a0 13 = v1 := ((pIR hh884).trans e1708)
                have e1711 : Tg h885 v1 = 2006 := ((pIT hh884).trans e1709)
                have e1712 : Rv h889 a0 13 = v1 := ((pR_j hh888 (by decide)).trans e1710)
                have e1713 : Tg h889 v1 = 2006 := ((pRT hh888).trans e1711)
                have e1714 : Rv h893 a0 13 = v1 := ((pJR hh892).trans e1712)
                have e1715 : Tg h893 v1 = 2006 := ((pJT hh892).trans e1713)
                have p1716 := (DOk_fx O894 ((Fx.rf (wr := [804]) (h := h893)).pI e895 hh1701 rfl) e895 (by rw [e1714]; exact e1715) rfl (DOk_fx O890 ((Fx.rf (wr := [805]) (h := h889)).pJ e891 hh892 rfl) e891 (by rw [e1712]; exact e1713) rfl (DOk_fx O886 ((Fx.rf (wr := [806]) (h := h885)).pR e887 hh888 rfl) e887 (by rw [e1710]; exact e1711) rfl (DOk_fx O18 ((Fx.rf (wr := [803]) (h := h14)).pI e22 hh884 rfl) e22 (by rw [e1708]; exact e1709) rfl (DOk_fx O F19 ta0 (by rw [e2]; exact t3) rfl P_RInv.2.1)))))
                exact g_vret C hr ⟨O1703, ((((((Fx.rf (wr := wr_k_X3_advance)).call F19 rfl).pI e22 hh884 rfl).pR e887 hh888 rfl).pJ e891 hh892 rfl).pI e895 hh1701 rfl), (by unfold RInv; rw [e1704, (pI_e hh1701), e1705, e1706]; exact ⟨e1707, p1716, by omega, (Or.inl rfl)⟩)⟩ (by decide) (by decide) dX3_advance_404
          · have f1717 : (10 : Int) ≤ v871 ∧ v871 ≤ (10 : Int) := ii f873 (r_eq (il 10) q883) (by decide) (by decide)
            refine g_aload_n C rfl 0 rfl dX3_advance_39 ?_
            refine g_dup C rfl dX3_advance_40 ?_
            refine gf_I C fk_LandSurvey_Reader_30 rfl e22 e21 dX3_advance_41 ?_
            refine g_iconst C dX3_advance_44 ?_
            have f1718 : (1 : Int) ≤ (v20 + 1) ∧ (v20 + 1) ≤ (1500 : Int) := ia_add f865 (il 1) (by decide) (by decide)
            refine g_iadd C dX3_advance_45 ?_
            refine gp_I C fk_LandSurvey_Reader_30 pk_LandSurvey_Reader_2 rfl e22 (iw f1718 (by decide) (by decide)) (nf_i _) dX3_advance_46 (fun h1720 hh1719 => ?_)
            have O1721 := O18.pI e22 hh1719 rI_4_2 (iw f1718 (by decide) (by decide)) nofun
            refine g_goto C 0 (by decide) dX3_advance_49 ?_
            refine GW.sub [0] rfl ?_
            have e1722 : Iv h1720 a0 2 = (v20 + 1) := (pI_e hh1719)
            exact ih16 _ (by omega) h1720 rfl O1721 (F19.pI e22 hh1719 rfl)
  exact L15 _ h rfl O Fx.rf
def wr_k_X3_takeOnly : List Nat := [802, 803, 804, 805, 806, 807]
set_option maxRecDepth 100000 in
set_option maxHeartbeats 4000000 in
theorem k_X3_takeOnly (l : Launch) (D : va_G) (cy : Nat → ClassId) (w : Nat → Nat) (z0 : Nat)  {h : Hp} {a0 : Nat} {a1 : Int}  (O : Okh h) (ta0 : Tg h a0 = 4) (fa1 : 0 ≤ a1 ∧ a1 ≤ 65535) (P_RInv : RInv w h a0) : MI l D cy w z0 yX3_takeOnly cX3_takeOnly 2 (some .boolean) 5 112 0 0 [.inr (.inr a0), .inl a1] h (fun v h1 => Okh h1 ∧ Fx wr_k_X3_takeOnly h h1 ∧ (0 ≤ v ∧ v ≤ 1) ∧ (RInv w h1 a0)) := by
  obtain ⟨v1, e2⟩ : ∃ z, Rv h a0 13 = z := ⟨_, rfl⟩
  have t3 := P_RInv.1
  rw [e2] at t3
  obtain ⟨v4, e5⟩ : ∃ z, Iv h a0 4 = z := ⟨_, rfl⟩
  have f6 := ok_I O ta0 rI_4_4 e5
  obtain ⟨v7, e8⟩ : ∃ z, Jv h a0 5 = z := ⟨_, rfl⟩
  have f9 := inL_J O e8
  obtain ⟨v10, e11⟩ : ∃ z, Rv h a0 6 = z := ⟨_, rfl⟩
  have p12 := P_RInv.2.2.1
  rw [e5, e8] at p12
  have p13 := P_RInv.2.2.2
  rw [e11] at p13
  refine hm_go (by decide +kernel) (Nat.le_of_ble_eq_true rfl) (fun p e s m below meth c C hr hn => ?_)
  refine g_aload_n C rfl 0 rfl dX3_takeOnly_0 ?_
  refine g_iload_n C rfl 1 rfl dX3_takeOnly_1 ?_
  refine g_callI (st := []) (gc_V C lk_LandSurvey_Reader_95 (k_X3_isNext l D cy w z0 O ta0 fa1) ta0 rfl rfl rfl ⟨by decide, by decide⟩ (Nat.le_of_ble_eq_true rfl) dX3_takeOnly_2 ⟨(by decide), (by decide)⟩) (fun r14 h15 f17 K16 => ?_)
  obtain ⟨O18, F19, f20⟩ := K16
  refine g_if_ne C (iw f20 (by decide) (by decide)) 14 (by decide) dX3_takeOnly_5 (fun q21 => ?_) (fun q22 => ?_)
  · have f23 : (1 : Int) ≤ r14 ∧ r14 ≤ (1 : Int) := r_nl f20 q21
    refine g_aload_n C rfl 0 rfl dX3_takeOnly_14 ?_
    have e24 : Tg h15 a0 = 4 := (fxT F19 ta0)
    have e25 : Rv h15 a0 13 = v1 := ((fxR F19 ta0 rfl).trans e2)
    have e26 : Iv h15 a0 4 = v4 := ((fxI F19 ta0 rfl).trans e5)
    have e27 : Jv h15 a0 5 = v7 := ((fxJ F19 ta0 rfl).trans e8)
    have e28 : Rv h15 a0 6 = v10 := ((fxR F19 ta0 rfl).trans e11)
    have e29 : Tg h15 v1 = 2006 := (fxT F19 t3)
    have p30 := (DOk_fx O F19 ta0 (by rw [e2]; exact t3) rfl P_RInv.2.1)
    refine g_callV (st := []) (gc_V C lk_LandSurvey_Reader_46 (k_X3_advance l D cy w z0 O18 e24 (by unfold RInv; rw [e25, e26, e27, e28]; exact ⟨e29, p30, p12, p13⟩)) e24 rfl rfl rfl ⟨by decide, by decide⟩ (Nat.le_of_ble_eq_true rfl) dX3_takeOnly_15 ⟨(by decide), (by decide)⟩) (fun h32 K33 => ?_)
    obtain ⟨O35, F36, p37⟩ := K33
    have e38 : Rv h32 a0 13 = v1 := ((fxR F36 e24 rfl).trans e25)
    obtain ⟨v39, e40⟩ : ∃ z, Iv h32 a0 4 = z := ⟨_, rfl⟩
    have e41 : Tg h32 a0 = 4 := (fxT F36 e24)
    have f42 := ok_I O35 e41 rI_4_4 e40
    obtain ⟨v43, e44⟩ : ∃ z, Jv h32 a0 5 = z := ⟨_, rfl⟩
    have f45 := inL_J O35 e44
    obtain ⟨v46, e47⟩ : ∃ z, Rv h32 a0 6 = z := ⟨_, rfl⟩
    have p48 := p37.2.2.1
    rw [e40, e44] at p48
    have p49 := p37.2.2.2
    rw [e47] at p49
    refine g_iconst C dX3_takeOnly_18 ?_
    have e50 : Tg h32 v1 = 2006 := (fxT F36 e29)
    exact g_iret C hr (nar_z2 (iw (il 1) (by decide) (by decide))).1 (iw (il 1) (by decide) (by decide)) ⟨O35, (((Fx.rf (wr := wr_k_X3_takeOnly)).call F19 rfl).call F36 rfl), (iw (il 1) (by decide) (by decide)), (by unfold RInv; rw [e38, e40, e44, e47]; exact ⟨e50, p37.2.1, p48, p49⟩)⟩ (by decide) (by decide) dX3_takeOnly_19
  · have f51 : (0 : Int) ≤ r14 ∧ r14 ≤ (0 : Int) := ii f20 (r_eq (il 0) q22) (by decide) (by decide)
    refine g_aload_n C rfl 0 rfl dX3_takeOnly_8 ?_
    refine g_iconst C dX3_takeOnly_9 ?_
    have e52 : Tg h15 a0 = 4 := (fxT F19 ta0)
    refine g_callI (st := []) (gc_V C lk_LandSurvey_Reader_99 (k_X3_wrong l D cy w z0 O18 e52 (iw (il 1) (by decide) (by decide))) e52 rfl rfl rfl ⟨by decide, by decide⟩ (Nat.le_of_ble_eq_true rfl) dX3_takeOnly_10 ⟨(by decide), (by decide)⟩) (fun r53 h54 f56 K55 => ?_)
    obtain ⟨O57, F58, f59⟩ := K55
    have e60 : Rv h54 a0 13 = v1 := ((fxR F58 e52 rfl).trans ((fxR F19 ta0 rfl).trans e2))
    have e61 : Iv h54 a0 4 = v4 := ((fxI F58 e52 rfl).trans ((fxI F19 ta0 rfl).trans e5))
    have e62 : Jv h54 a0 5 = v7 := ((fxJ F58 e52 rfl).trans ((fxJ F19 ta0 rfl).trans e8))
    have e63 : Rv h54 a0 6 = v10 := ((fxR F58 e52 rfl).trans ((fxR F19 ta0 rfl).trans e11))
    have e64 : Tg h54 v1 = 2006 := (fxT F58 (fxT F19 t3))
    have e65 : Rv h15 a0 13 = v1 := ((fxR F19 ta0 rfl).trans e2)
    have e66 : Tg h15 v1 = 2006 := (fxT F19 t3)
    have p67 := (DOk_fx O18 F58 e52 (by rw [e65]; exact e66) rfl (DOk_fx O F19 ta0 (by rw [e2]; exact t3) rfl P_RInv.2.1))
    exact g_iret C hr (nar_z2 (iw f59 (by decide) (by decide))).1 (iw f59 (by decide) (by decide)) ⟨O57, (((Fx.rf (wr := wr_k_X3_takeOnly)).call F19 rfl).call F58 rfl), (iw f59 (by decide) (by decide)), (by unfold RInv; rw [e60, e61, e62, e63]; exact ⟨e64, p67, p12, p13⟩)⟩ (by decide) (by decide) dX3_takeOnly_13
def wr_k_X3_takeOnly_ : List Nat := [802, 803, 804, 805, 806, 807]
set_option maxRecDepth 100000 in
set_option maxHeartbeats 4000000 in
theorem k_X3_takeOnly_ (l : Launch) (D : va_G) (cy : Nat → ClassId) (w : Nat → Nat) (z0 : Nat)  {h : Hp} {a0 : Nat} (a1 : Nat) (O : Okh h) (ta0 : Tg h a0 = 4) (P_RInv : RInv w h a0) : MI l D cy w z0 yX3_takeOnly_ cX3_takeOnly_ 2 (some .boolean) 5 112 0 0 [.inr (.inr a0), .inr (.inr a1)] h (fun v h1 => Okh h1 ∧ Fx wr_k_X3_takeOnly_ h h1 ∧ (0 ≤ v ∧ v ≤ 1) ∧ (RInv w h1 a0)) := by
  obtain ⟨v1, e2⟩ : ∃ z, Rv h a0 13 = z := ⟨_, rfl⟩
  have t3 := P_RInv.1
  rw [e2] at t3
  obtain ⟨v4, e5⟩ : ∃ z, Iv h a0 4 = z := ⟨_, rfl⟩
  have f6 := ok_I O ta0 rI_4_4 e5
  obtain ⟨v7, e8⟩ : ∃ z, Jv h a0 5 = z := ⟨_, rfl⟩
  have f9 := inL_J O e8
  obtain ⟨v10, e11⟩ : ∃ z, Rv h a0 6 = z := ⟨_, rfl⟩
  have p12 := P_RInv.2.2.1
  rw [e5, e8] at p12
  have p13 := P_RInv.2.2.2
  rw [e11] at p13
  refine hm_go (by decide +kernel) (Nat.le_of_ble_eq_true rfl) (fun p e s m below meth c C hr hn => ?_)
  refine g_aload_n C rfl 0 rfl dX3_takeOnly__0 ?_
  refine gf_R C fk_LandSurvey_Reader_69 rfl ta0 e11 dX3_takeOnly__1 ?_
  refine g_aload_n C rfl 1 rfl dX3_takeOnly__4 ?_
  refine g_acmp_eq C 14 (by decide) dX3_takeOnly__5 (fun q14 => ?_) (fun q15 => ?_)
  · refine g_aload_n C rfl 0 rfl dX3_takeOnly__14 ?_
    refine g_callV (st := []) (gc_V C lk_LandSurvey_Reader_46 (k_X3_advance l D cy w z0 O ta0 (by unfold RInv; rw [e2, e5, e8, e11]; exact ⟨t3, P_RInv.2.1, p12, p13⟩)) ta0 rfl rfl rfl ⟨by decide, by decide⟩ (Nat.le_of_ble_eq_true rfl) dX3_takeOnly__15 ⟨(by decide), (by decide)⟩) (fun h17 K18 => ?_)
    obtain ⟨O20, F21, p22⟩ := K18
    have e23 : Rv h17 a0 13 = v1 := ((fxR F21 ta0 rfl).trans e2)
    obtain ⟨v24, e25⟩ : ∃ z, Iv h17 a0 4 = z := ⟨_, rfl⟩
    have e26 : Tg h17 a0 = 4 := (fxT F21 ta0)
    have f27 := ok_I O20 e26 rI_4_4 e25
    obtain ⟨v28, e29⟩ : ∃ z, Jv h17 a0 5 = z := ⟨_, rfl⟩
    have f30 := inL_J O20 e29
    obtain ⟨v31, e32⟩ : ∃ z, Rv h17 a0 6 = z := ⟨_, rfl⟩
    have p33 := p22.2.2.1
    rw [e25, e29] at p33
    have p34 := p22.2.2.2
    rw [e32] at p34
    refine g_iconst C dX3_takeOnly__18 ?_
    have e35 : Tg h17 v1 = 2006 := (fxT F21 t3)
    exact g_iret C hr (nar_z2 (iw (il 1) (by decide) (by decide))).1 (iw (il 1) (by decide) (by decide)) ⟨O20, ((Fx.rf (wr := wr_k_X3_takeOnly_)).call F21 rfl), (iw (il 1) (by decide) (by decide)), (by unfold RInv; rw [e23, e25, e29, e32]; exact ⟨e35, p22.2.1, p33, p34⟩)⟩ (by decide) (by decide) dX3_takeOnly__19
  · refine g_aload_n C rfl 0 rfl dX3_takeOnly__8 ?_
    refine g_iconst C dX3_takeOnly__9 ?_
    refine g_callI (st := []) (gc_V C lk_LandSurvey_Reader_99 (k_X3_wrong l D cy w z0 O ta0 (iw (il 1) (by decide) (by decide))) ta0 rfl rfl rfl ⟨by decide, by decide⟩ (Nat.le_of_ble_eq_true rfl) dX3_takeOnly__10 ⟨(by decide), (by decide)⟩) (fun r36 h37 f39 K38 => ?_)
    obtain ⟨O40, F41, f42⟩ := K38
    have e43 : Rv h37 a0 13 = v1 := ((fxR F41 ta0 rfl).trans e2)
    have e44 : Iv h37 a0 4 = v4 := ((fxI F41 ta0 rfl).trans e5)
    have e45 : Jv h37 a0 5 = v7 := ((fxJ F41 ta0 rfl).trans e8)
    have e46 : Rv h37 a0 6 = v10 := ((fxR F41 ta0 rfl).trans e11)
    have e47 : Tg h37 v1 = 2006 := (fxT F41 t3)
    have p48 := (DOk_fx O F41 ta0 (by rw [e2]; exact t3) rfl P_RInv.2.1)
    exact g_iret C hr (nar_z2 (iw f42 (by decide) (by decide))).1 (iw f42 (by decide) (by decide)) ⟨O40, ((Fx.rf (wr := wr_k_X3_takeOnly_)).call F41 rfl), (iw f42 (by decide) (by decide)), (by unfold RInv; rw [e43, e44, e45, e46]; exact ⟨e47, p48, p12, p13⟩)⟩ (by decide) (by decide) dX3_takeOnly__13
def wr_k_X3_takeNumberWithin : List Nat := [802, 803, 804, 805, 806, 807, 808]
set_option maxRecDepth 100000 in
set_option maxHeartbeats 4000000 in
theorem k_X3_takeNumberWithin (l : Launch) (D : va_G) (cy : Nat → ClassId) (w : Nat → Nat) (z0 : Nat)  {h : Hp} {a0 : Nat} {a1 : Int} {a2 : Int}  (O : Okh h) (ta0 : Tg h a0 = 4) (fa1 : (-2147483648) ≤ a1 ∧ a1 ≤ 2147483647) (fa2 : (-2147483648) ≤ a2 ∧ a2 ≤ 2147483647) (P_RInv : RInv w h a0) : MI l D cy w z0 yX3_takeNumberWithin cX3_takeNumberWithin 3 (some .boolean) 5 112 0 0 [.inr (.inr a0), .inl a1, .inl a2] h (fun v h1 => Okh h1 ∧ Fx wr_k_X3_takeNumberWithin h h1 ∧ (0 ≤ v ∧ v ≤ 1) ∧ (RInv w h1 a0) ∧ (v = 1 → a1 ≤ Iv h1 a0 8 ∧ Iv h1 a0 8 ≤ a2)) := by
  obtain ⟨v1, e2⟩ : ∃ z, Rv h a0 13 = z := ⟨_, rfl⟩
  have t3 := P_RInv.1
  rw [e2] at t3
  obtain ⟨v4, e5⟩ : ∃ z, Iv h a0 4 = z := ⟨_, rfl⟩
  have f6 := ok_I O ta0 rI_4_4 e5
  obtain ⟨v7, e8⟩ : ∃ z, Jv h a0 5 = z := ⟨_, rfl⟩
  have f9 := inL_J O e8
  obtain ⟨v10, e11⟩ : ∃ z, Rv h a0 6 = z := ⟨_, rfl⟩
  have p12 := P_RInv.2.2.1
  rw [e5, e8] at p12
  have p13 := P_RInv.2.2.2
  rw [e11] at p13
  refine hm_go (by decide +kernel) (Nat.le_of_ble_eq_true rfl) (fun p e s m below meth c C hr hn => ?_)
  refine g_aload_n C rfl 0 rfl dX3_takeNumberWithin_0 ?_
  refine gf_I C fk_LandSurvey_Reader_49 rfl ta0 e5 dX3_takeNumberWithin_1 ?_
  refine g_iconst C dX3_takeNumberWithin_4 ?_
  refine g_icmp_eq C (iw f6 (by decide) (by decide)) (iw (il 2) (by decide) (by decide)) 14 (by decide) dX3_takeNumberWithin_5 (fun q14 => ?_) (fun q15 => ?_)
  · have f16 : (2 : Int) ≤ v4 ∧ v4 ≤ (2 : Int) := ii f6 (r_eq (il 2) q14) (by decide) (by decide)
    have f17 : (0 : Int) ≤ v7 ∧ v7 ≤ (9999 : Int) := by omega
    refine g_aload_n C rfl 0 rfl dX3_takeNumberWithin_14 ?_
    refine gf_J C fk_LandSurvey_Reader_73 rfl ta0 e8 dX3_takeNumberWithin_15 ?_
    refine g_iload_n C rfl 1 rfl dX3_takeNumberWithin_18 ?_
    refine g_i2l C fa1 dX3_takeNumberWithin_19 ?_
    refine g_lcmp C (iw f17 (by decide) (by decide)) (iw fa1 (by decide) (by decide)) dX3_takeNumberWithin_20 ?_
    have f18 : (-1 : Int) ≤ (lC v7 a1) ∧ (lC v7 a1) ≤ (1 : Int) := lC_rng _ _
    refine g_if_lt C (iw f18 (by decide) (by decide)) 34 (by decide) dX3_takeNumberWithin_21 (fun q19 => ?_) (fun q20 => ?_)
    · have q21 : v7 < a1 := lC_lt.mp q19
      have f22 : (1 : Int) ≤ a1 ∧ a1 ≤ (2147483647 : Int) := r_gt fa1 f17 q21 (by decide) (by decide)
      refine g_aload_n C rfl 0 rfl dX3_takeNumberWithin_34 ?_
      refine g_iconst C dX3_takeNumberWithin_35 ?_
      refine g_callI (st := []) (gc_V C lk_LandSurvey_Reader_99 (k_X3_wrong l D cy w z0 O ta0 (iw (il 4) (by decide) (by decide))) ta0 rfl rfl rfl ⟨by decide, by decide⟩ (Nat.le_of_ble_eq_true rfl) dX3_takeNumberWithin_36 ⟨(by decide), (by decide)⟩) (fun r23 h24 f26 K25 => ?_)
      obtain ⟨O27, F28, f29⟩ := K25
      have e30 : Rv h24 a0 13 = v1 := ((fxR F28 ta0 rfl).trans e2)
      have e31 : Iv h24 a0 4 = v4 := ((fxI F28 ta0 rfl).trans e5)
      have e32 : Jv h24 a0 5 = v7 := ((fxJ F28 ta0 rfl).trans e8)
      have e33 : Rv h24 a0 6 = v10 := ((fxR F28 ta0 rfl).trans e11)
      have e34 : Tg h24 v1 = 2006 := (fxT F28 t3)
      have p35 := (DOk_fx O F28 ta0 (by rw [e2]; exact t3) rfl P_RInv.2.1)
      exact g_iret C hr (nar_z2 (iw f29 (by decide) (by decide))).1 (iw f29 (by decide) (by decide)) ⟨O27, ((Fx.rf (wr := wr_k_X3_takeNumberWithin)).call F28 rfl), (iw f29 (by decide) (by decide)), (by unfold RInv; rw [e30, e31, e32, e33]; exact ⟨e34, p35, p12, p13⟩), (by omega)⟩ (by decide) (by decide) dX3_takeNumberWithin_39
    · have q36 : a1 ≤ v7 := lC_ge.mp q20
      have f37 : (-2147483648 : Int) ≤ a1 ∧ a1 ≤ (9999 : Int) := r_le fa1 f17 q36 (by decide) (by decide)
      refine g_aload_n C rfl 0 rfl dX3_takeNumberWithin_24 ?_
      refine gf_J C fk_LandSurvey_Reader_73 rfl ta0 e8 dX3_takeNumberWithin_25 ?_
      refine g_iload_n C rfl 2 rfl dX3_takeNumberWithin_28 ?_
      refine g_i2l C fa2 dX3_takeNumberWithin_29 ?_
      refine g_lcmp C (iw f17 (by decide) (by decide)) (iw fa2 (by decide) (by decide)) dX3_takeNumberWithin_30 ?_
      have f38 : (-1 : Int) ≤ (lC v7 a2) ∧ (lC v7 a2) ≤ (1 : Int) := lC_rng _ _
      refine g_if_le C (iw f38 (by decide) (by decide)) 40 (by decide) dX3_takeNumberWithin_31 (fun q39 => ?_) (fun q40 => ?_)
      · have q41 : v7 ≤ a2 := lC_le.mp q39
        have f42 : (0 : Int) ≤ a2 ∧ a2 ≤ (2147483647 : Int) := r_ge fa2 f17 q41 (by decide) (by decide)
        have z43 := l2w_eq (iw f17 (by decide) (by decide))
        refine g_aload_n C rfl 0 rfl dX3_takeNumberWithin_40 ?_
        refine g_aload_n C rfl 0 rfl dX3_takeNumberWithin_41 ?_
        refine gf_J C fk_LandSurvey_Reader_73 rfl ta0 e8 dX3_takeNumberWithin_42 ?_
        refine g_l2i C dX3_takeNumberWithin_45 ?_
        have f44 : (0 : Int) ≤ (l2w v7) ∧ (l2w v7) ≤ (9999 : Int) := l2w_in f17 (by decide) (by decide)
        refine gp_I C fk_LandSurvey_Reader_103 pk_LandSurvey_Reader_8 rfl ta0 (iw f44 (by decide) (by decide)) (nf_i _) dX3_takeNumberWithin_46 (fun h46 hh45 => ?_)
        have O47 := O.pI ta0 hh45 rI_4_8 (iw f44 (by decide) (by decide)) nofun
        refine g_aload_n C rfl 0 rfl dX3_takeNumberWithin_49 ?_
        have e48 : Tg h46 a0 = 4 := ((pIT hh45).trans ta0)
        have e49 : Rv h46 a0 13 = v1 := ((pIR hh45).trans e2)
        have e50 : Iv h46 a0 4 = v4 := ((pI_j hh45 (by decide)).trans e5)
        have e51 : Jv h46 a0 5 = v7 := ((pIJ hh45).trans e8)
        have e52 : Rv h46 a0 6 = v10 := ((pIR hh45).trans e11)
        have e53 : Tg h46 v1 = 2006 := ((pIT hh45).trans t3)
        have p54 := (DOk_fx O ((Fx.rf (wr := [808]) (h := h)).pI ta0 hh45 rfl) ta0 (by rw [e2]; exact t3) rfl P_RInv.2.1)
        refine g_callV (st := []) (gc_V C lk_LandSurvey_Reader_46 (k_X3_advance l D cy w z0 O47 e48 (by unfold RInv; rw [e49, e50, e51, e52]; exact ⟨e53, p54, p12, p13⟩)) e48 rfl rfl rfl ⟨by decide, by decide⟩ (Nat.le_of_ble_eq_true rfl) dX3_takeNumberWithin_50 ⟨(by decide), (by decide)⟩) (fun h56 K57 => ?_)
        obtain ⟨O59, F60, p61⟩ := K57
        have e62 : Rv h56 a0 13 = v1 := ((fxR F60 e48 rfl).trans e49)
        obtain ⟨v63, e64⟩ : ∃ z, Iv h56 a0 4 = z := ⟨_, rfl⟩
        have e65 : Tg h56 a0 = 4 := (fxT F60 e48)
        have f66 := ok_I O59 e65 rI_4_4 e64
        obtain ⟨v67, e68⟩ : ∃ z, Jv h56 a0 5 = z := ⟨_, rfl⟩
        have f69 := inL_J O59 e68
        obtain ⟨v70, e71⟩ : ∃ z, Rv h56 a0 6 = z := ⟨_, rfl⟩
        have p72 := p61.2.2.1
        rw [e64, e68] at p72
        have p73 := p61.2.2.2
        rw [e71] at p73
        refine g_iconst C dX3_takeNumberWithin_53 ?_
        have e74 : Tg h56 v1 = 2006 := (fxT F60 e53)
        have e75 : Iv h56 a0 8 = (l2w v7) := ((fxI F60 e48 rfl).trans (pI_e hh45))
        exact g_iret C hr (nar_z2 (iw (il 1) (by decide) (by decide))).1 (iw (il 1) (by decide) (by decide)) ⟨O59, (((Fx.rf (wr := wr_k_X3_takeNumberWithin)).pI ta0 hh45 rfl).call F60 rfl), (iw (il 1) (by decide) (by decide)), (by unfold RInv; rw [e62, e64, e68, e71]; exact ⟨e74, p61.2.1, p72, p73⟩), (by rw [e75]; omega)⟩ (by decide) (by decide) dX3_takeNumberWithin_54
      · have q76 : a2 < v7 := lC_gt.mp q40
        have f77 : (-2147483648 : Int) ≤ a2 ∧ a2 ≤ (9998 : Int) := r_lt fa2 f17 q76 (by decide) (by decide)
        refine g_aload_n C rfl 0 rfl dX3_takeNumberWithin_34 ?_
        refine g_iconst C dX3_takeNumberWithin_35 ?_
        refine g_callI (st := []) (gc_V C lk_LandSurvey_Reader_99 (k_X3_wrong l D cy w z0 O ta0 (iw (il 4) (by decide) (by decide))) ta0 rfl rfl rfl ⟨by decide, by decide⟩ (Nat.le_of_ble_eq_true rfl) dX3_takeNumberWithin_36 ⟨(by decide), (by decide)⟩) (fun r78 h79 f81 K80 => ?_)
        obtain ⟨O82, F83, f84⟩ := K80
        have e85 : Rv h79 a0 13 = v1 := ((fxR F83 ta0 rfl).trans e2)
        have e86 : Iv h79 a0 4 = v4 := ((fxI F83 ta0 rfl).trans e5)
        have e87 : Jv h79 a0 5 = v7 := ((fxJ F83 ta0 rfl).trans e8)
        have e88 : Rv h79 a0 6 = v10 := ((fxR F83 ta0 rfl).trans e11)
        have e89 : Tg h79 v1 = 2006 := (fxT F83 t3)
        have p90 := (DOk_fx O F83 ta0 (by rw [e2]; exact t3) rfl P_RInv.2.1)
        exact g_iret C hr (nar_z2 (iw f84 (by decide) (by decide))).1 (iw f84 (by decide) (by decide)) ⟨O82, ((Fx.rf (wr := wr_k_X3_takeNumberWithin)).call F83 rfl), (iw f84 (by decide) (by decide)), (by unfold RInv; rw [e85, e86, e87, e88]; exact ⟨e89, p90, p12, p13⟩), (by omega)⟩ (by decide) (by decide) dX3_takeNumberWithin_39
  · refine g_aload_n C rfl 0 rfl dX3_takeNumberWithin_8 ?_
    refine g_iconst C dX3_takeNumberWithin_9 ?_
    refine g_callI (st := []) (gc_V C lk_LandSurvey_Reader_99 (k_X3_wrong l D cy w z0 O ta0 (iw (il 1) (by decide) (by decide))) ta0 rfl rfl rfl ⟨by decide, by decide⟩ (Nat.le_of_ble_eq_true rfl) dX3_takeNumberWithin_10 ⟨(by decide), (by decide)⟩) (fun r91 h92 f94 K93 => ?_)
    obtain ⟨O95, F96, f97⟩ := K93
    have e98 : Rv h92 a0 13 = v1 := ((fxR F96 ta0 rfl).trans e2)
    have e99 : Iv h92 a0 4 = v4 := ((fxI F96 ta0 rfl).trans e5)
    have e100 : Jv h92 a0 5 = v7 := ((fxJ F96 ta0 rfl).trans e8)
    have e101 : Rv h92 a0 6 = v10 := ((fxR F96 ta0 rfl).trans e11)
    have e102 : Tg h92 v1 = 2006 := (fxT F96 t3)
    have p103 := (DOk_fx O F96 ta0 (by rw [e2]; exact t3) rfl P_RInv.2.1)
    exact g_iret C hr (nar_z2 (iw f97 (by decide) (by decide))).1 (iw f97 (by decide) (by decide)) ⟨O95, ((Fx.rf (wr := wr_k_X3_takeNumberWithin)).call F96 rfl), (iw f97 (by decide) (by decide)), (by unfold RInv; rw [e98, e99, e100, e101]; exact ⟨e102, p103, p12, p13⟩), (by omega)⟩ (by decide) (by decide) dX3_takeNumberWithin_13
def wr_k_X3_takeRockNotYounger : List Nat := [802, 803, 804, 805, 806, 807, 808]
set_option maxRecDepth 100000 in
set_option maxHeartbeats 4000000 in
theorem k_X3_takeRockNotYounger (l : Launch) (D : va_G) (cy : Nat → ClassId) (w : Nat → Nat) (z0 : Nat)  {h : Hp} {a0 : Nat} {a1 : Int}  (O : Okh h) (ta0 : Tg h a0 = 4) (fa1 : (-2147483648) ≤ a1 ∧ a1 ≤ 2147483647) (P_RInv : RInv w h a0) : MI l D cy w z0 yX3_takeRockNotYounger cX3_takeRockNotYounger 3 (some .boolean) 5 112 0 0 [.inr (.inr a0), .inl a1] h (fun v h1 => Okh h1 ∧ Fx wr_k_X3_takeRockNotYounger h h1 ∧ (0 ≤ v ∧ v ≤ 1) ∧ (RInv w h1 a0) ∧ (v = 1 → 0 ≤ Iv h1 a0 8 ∧ Iv h1 a0 8 ≤ 9)) := by
  obtain ⟨v1, e2⟩ : ∃ z, Rv h a0 13 = z := ⟨_, rfl⟩
  have t3 := P_RInv.1
  rw [e2] at t3
  obtain ⟨v4, e5⟩ : ∃ z, Iv h a0 4 = z := ⟨_, rfl⟩
  have f6 := ok_I O ta0 rI_4_4 e5
  obtain ⟨v7, e8⟩ : ∃ z, Jv h a0 5 = z := ⟨_, rfl⟩
  have f9 := inL_J O e8
  obtain ⟨v10, e11⟩ : ∃ z, Rv h a0 6 = z := ⟨_, rfl⟩
  have p12 := P_RInv.2.2.1
  rw [e5, e8] at p12
  have p13 := P_RInv.2.2.2
  rw [e11] at p13
  refine hm_go (by decide +kernel) (Nat.le_of_ble_eq_true rfl) (fun p e s m below meth c C hr hn => ?_)
  refine g_aload_n C rfl 0 rfl dX3_takeRockNotYounger_0 ?_
  refine gf_I C fk_LandSurvey_Reader_49 rfl ta0 e5 dX3_takeRockNotYounger_1 ?_
  refine g_iconst C dX3_takeRockNotYounger_4 ?_
  refine g_icmp_ne C (iw f6 (by decide) (by decide)) (iw (il 1) (by decide) (by decide)) 15 (by decide) dX3_takeRockNotYounger_5 (fun q14 => ?_) (fun q15 => ?_)
  · refine g_aload_n C rfl 0 rfl dX3_takeRockNotYounger_15 ?_
    refine g_iconst C dX3_takeRockNotYounger_16 ?_
    refine g_callI (st := []) (gc_V C lk_LandSurvey_Reader_99 (k_X3_wrong l D cy w z0 O ta0 (iw (il 1) (by decide) (by decide))) ta0 rfl rfl rfl ⟨by decide, by decide⟩ (Nat.le_of_ble_eq_true rfl) dX3_takeRockNotYounger_17 ⟨(by decide), (by decide)⟩) (fun r16 h17 f19 K18 => ?_)
    obtain ⟨O20, F21, f22⟩ := K18
    have e23 : Rv h17 a0 13 = v1 := ((fxR F21 ta0 rfl).trans e2)
    have e24 : Iv h17 a0 4 = v4 := ((fxI F21 ta0 rfl).trans e5)
    have e25 : Jv h17 a0 5 = v7 := ((fxJ F21 ta0 rfl).trans e8)
    have e26 : Rv h17 a0 6 = v10 := ((fxR F21 ta0 rfl).trans e11)
    have e27 : Tg h17 v1 = 2006 := (fxT F21 t3)
    have p28 := (DOk_fx O F21 ta0 (by rw [e2]; exact t3) rfl P_RInv.2.1)
    exact g_iret C hr (nar_z2 (iw f22 (by decide) (by decide))).1 (iw f22 (by decide) (by decide)) ⟨O20, ((Fx.rf (wr := wr_k_X3_takeRockNotYounger)).call F21 rfl), (iw f22 (by decide) (by decide)), (by unfold RInv; rw [e23, e24, e25, e26]; exact ⟨e27, p28, p12, p13⟩), (by omega)⟩ (by decide) (by decide) dX3_takeRockNotYounger_20
  · have f29 : (1 : Int) ≤ v4 ∧ v4 ≤ (1 : Int) := ii f6 (r_eq (il 1) q15) (by decide) (by decide)
    refine g_aload_n C rfl 0 rfl dX3_takeRockNotYounger_8 ?_
    refine gf_R C fk_LandSurvey_Reader_69 rfl ta0 e11 dX3_takeRockNotYounger_9 ?_
    refine g_ifnull C 21 (by decide) dX3_takeRockNotYounger_12 (fun q30 => ?_) (fun q31 => ?_)
    · refine g_aload_n C rfl 0 rfl dX3_takeRockNotYounger_21 ?_
      refine gf_R C fk_LandSurvey_Reader_26 rfl ta0 e2 dX3_takeRockNotYounger_22 ?_
      refine g_aload_n C rfl 0 rfl dX3_takeRockNotYounger_25 ?_
      refine gf_J C fk_LandSurvey_Reader_73 rfl ta0 e8 dX3_takeRockNotYounger_26 ?_
      refine g_callI (st := []) (gc_V C lk_LandSurvey_Reader_106 (k_X5_rockNamed l D cy w z0 O t3 f9) t3 rfl rfl rfl ⟨by decide, by decide⟩ (Nat.le_of_ble_eq_true rfl) dX3_takeRockNotYounger_29 ⟨(by decide), (by decide)⟩) (fun r32 h33 f35 K34 => ?_)
      obtain ⟨O36, F37, f38⟩ := K34
      refine g_istore_n C [(2, .inl r32), (0, .inr (.inr a0)), (1, .inl a1)] rfl (by decide) rfl dX3_takeRockNotYounger_32 ?_
      refine g_iload_n C rfl 0 rfl dX3_takeRockNotYounger_33 ?_
      refine g_iconst C dX3_takeRockNotYounger_34 ?_
      refine g_icmp_ne C (iw f38 (by decide) (by decide)) (iw (il (-1)) (by decide) (by decide)) 44 (by decide) dX3_takeRockNotYounger_35 (fun q39 => ?_) (fun q40 => ?_)
      · have f41 : (0 : Int) ≤ r32 ∧ r32 ≤ (9 : Int) := r_nl f38 q39
        refine g_iload_n C rfl 0 rfl dX3_takeRockNotYounger_44 ?_
        refine g_iload_n C rfl 2 rfl dX3_takeRockNotYounger_45 ?_
        refine g_icmp_ge C (iw f41 (by decide) (by decide)) fa1 55 (by decide) dX3_takeRockNotYounger_46 (fun q42 => ?_) (fun q43 => ?_)
        · have f44 : (-2147483648 : Int) ≤ a1 ∧ a1 ≤ (9 : Int) := r_le fa1 f41 q42 (by decide) (by decide)
          refine g_aload_n C rfl 1 rfl dX3_takeRockNotYounger_55 ?_
          refine g_iload_n C rfl 0 rfl dX3_takeRockNotYounger_56 ?_
          have e45 : Tg h33 a0 = 4 := (fxT F37 ta0)
          refine gp_I C fk_LandSurvey_Reader_103 pk_LandSurvey_Reader_8 rfl e45 (iw f41 (by decide) (by decide)) (nf_i _) dX3_takeRockNotYounger_57 (fun h47 hh46 => ?_)
          have O48 := O36.pI e45 hh46 rI_4_8 (iw f41 (by decide) (by decide)) nofun
          refine g_aload_n C rfl 1 rfl dX3_takeRockNotYounger_60 ?_
          have e49 : Tg h47 a0 = 4 := ((pIT hh46).trans e45)
          have e50 : Rv h47 a0 13 = v1 := ((pIR hh46).trans ((fxR F37 ta0 rfl).trans e2))
          have e51 : Iv h47 a0 4 = v4 := ((pI_j hh46 (by decide)).trans ((fxI F37 ta0 rfl).trans e5))
          have e52 : Jv h47 a0 5 = v7 := ((pIJ hh46).trans ((fxJ F37 ta0 rfl).trans e8))
          have e53 : Rv h47 a0 6 = v10 := ((pIR hh46).trans ((fxR F37 ta0 rfl).trans e11))
          have e54 : Tg h47 v1 = 2006 := ((pIT hh46).trans (fxT F37 t3))
          have e55 : Rv h33 a0 13 = v1 := ((fxR F37 ta0 rfl).trans e2)
          have e56 : Tg h33 v1 = 2006 := (fxT F37 t3)
          have p57 := (DOk_fx O36 ((Fx.rf (wr := [808]) (h := h33)).pI e45 hh46 rfl) e45 (by rw [e55]; exact e56) rfl (DOk_fx O F37 ta0 (by rw [e2]; exact t3) rfl P_RInv.2.1))
          refine g_callV (st := []) (gc_V C lk_LandSurvey_Reader_46 (k_X3_advance l D cy w z0 O48 e49 (by unfold RInv; rw [e50, e51, e52, e53]; exact ⟨e54, p57, p12, p13⟩)) e49 rfl rfl rfl ⟨by decide, by decide⟩ (Nat.le_of_ble_eq_true rfl) dX3_takeRockNotYounger_61 ⟨(by decide), (by decide)⟩) (fun h59 K60 => ?_)
          obtain ⟨O62, F63, p64⟩ := K60
          have e65 : Rv h59 a0 13 = v1 := ((fxR F63 e49 rfl).trans e50)
          obtain ⟨v66, e67⟩ : ∃ z, Iv h59 a0 4 = z := ⟨_, rfl⟩
          have e68 : Tg h59 a0 = 4 := (fxT F63 e49)
          have f69 := ok_I O62 e68 rI_4_4 e67
          obtain ⟨v70, e71⟩ : ∃ z, Jv h59 a0 5 = z := ⟨_, rfl⟩
          have f72 := inL_J O62 e71
          obtain ⟨v73, e74⟩ : ∃ z, Rv h59 a0 6 = z := ⟨_, rfl⟩
          have p75 := p64.2.2.1
          rw [e67, e71] at p75
          have p76 := p64.2.2.2
          rw [e74] at p76
          refine g_iconst C dX3_takeRockNotYounger_64 ?_
          have e77 : Tg h59 v1 = 2006 := (fxT F63 e54)
          have e78 : Iv h59 a0 8 = r32 := ((fxI F63 e49 rfl).trans (pI_e hh46))
          exact g_iret C hr (nar_z2 (iw (il 1) (by decide) (by decide))).1 (iw (il 1) (by decide) (by decide)) ⟨O62, ((((Fx.rf (wr := wr_k_X3_takeRockNotYounger)).call F37 rfl).pI e45 hh46 rfl).call F63 rfl), (iw (il 1) (by decide) (by decide)), (by unfold RInv; rw [e65, e67, e71, e74]; exact ⟨e77, p64.2.1, p75, p76⟩), (by rw [e78]; omega)⟩ (by decide) (by decide) dX3_takeRockNotYounger_65
        · have f79 : (1 : Int) ≤ a1 ∧ a1 ≤ (2147483647 : Int) := r_gt fa1 f41 q43 (by decide) (by decide)
          refine g_aload_n C rfl 1 rfl dX3_takeRockNotYounger_49 ?_
          refine g_iconst C dX3_takeRockNotYounger_50 ?_
          have e80 : Tg h33 a0 = 4 := (fxT F37 ta0)
          refine g_callI (st := []) (gc_V C lk_LandSurvey_Reader_99 (k_X3_wrong l D cy w z0 O36 e80 (iw (il 4) (by decide) (by decide))) e80 rfl rfl rfl ⟨by decide, by decide⟩ (Nat.le_of_ble_eq_true rfl) dX3_takeRockNotYounger_51 ⟨(by decide), (by decide)⟩) (fun r81 h82 f84 K83 => ?_)
          obtain ⟨O85, F86, f87⟩ := K83
          have e88 : Rv h82 a0 13 = v1 := ((fxR F86 e80 rfl).trans ((fxR F37 ta0 rfl).trans e2))
          have e89 : Iv h82 a0 4 = v4 := ((fxI F86 e80 rfl).trans ((fxI F37 ta0 rfl).trans e5))
          have e90 : Jv h82 a0 5 = v7 := ((fxJ F86 e80 rfl).trans ((fxJ F37 ta0 rfl).trans e8))
          have e91 : Rv h82 a0 6 = v10 := ((fxR F86 e80 rfl).trans ((fxR F37 ta0 rfl).trans e11))
          have e92 : Tg h82 v1 = 2006 := (fxT F86 (fxT F37 t3))
          have e93 : Rv h33 a0 13 = v1 := ((fxR F37 ta0 rfl).trans e2)
          have e94 : Tg h33 v1 = 2006 := (fxT F37 t3)
          have p95 := (DOk_fx O36 F86 e80 (by rw [e93]; exact e94) rfl (DOk_fx O F37 ta0 (by rw [e2]; exact t3) rfl P_RInv.2.1))
          exact g_iret C hr (nar_z2 (iw f87 (by decide) (by decide))).1 (iw f87 (by decide) (by decide)) ⟨O85, (((Fx.rf (wr := wr_k_X3_takeRockNotYounger)).call F37 rfl).call F86 rfl), (iw f87 (by decide) (by decide)), (by unfold RInv; rw [e88, e89, e90, e91]; exact ⟨e92, p95, p12, p13⟩), (by omega)⟩ (by decide) (by decide) dX3_takeRockNotYounger_54
      · have f96 : (-1 : Int) ≤ r32 ∧ r32 ≤ (-1 : Int) := ii f38 (r_eq (il (-1)) q40) (by decide) (by decide)
        refine g_aload_n C rfl 1 rfl dX3_takeRockNotYounger_38 ?_
        refine g_iconst C dX3_takeRockNotYounger_39 ?_
        have e97 : Tg h33 a0 = 4 := (fxT F37 ta0)
        refine g_callI (st := []) (gc_V C lk_LandSurvey_Reader_99 (k_X3_wrong l D cy w z0 O36 e97 (iw (il 2) (by decide) (by decide))) e97 rfl rfl rfl ⟨by decide, by decide⟩ (Nat.le_of_ble_eq_true rfl) dX3_takeRockNotYounger_40 ⟨(by decide), (by decide)⟩) (fun r98 h99 f101 K100 => ?_)
        obtain ⟨O102, F103, f104⟩ := K100
        have e105 : Rv h99 a0 13 = v1 := ((fxR F103 e97 rfl).trans ((fxR F37 ta0 rfl).trans e2))
        have e106 : Iv h99 a0 4 = v4 := ((fxI F103 e97 rfl).trans ((fxI F37 ta0 rfl).trans e5))
        have e107 : Jv h99 a0 5 = v7 := ((fxJ F103 e97 rfl).trans ((fxJ F37 ta0 rfl).trans e8))
        have e108 : Rv h99 a0 6 = v10 := ((fxR F103 e97 rfl).trans ((fxR F37 ta0 rfl).trans e11))
        have e109 : Tg h99 v1 = 2006 := (fxT F103 (fxT F37 t3))
        have e110 : Rv h33 a0 13 = v1 := ((fxR F37 ta0 rfl).trans e2)
        have e111 : Tg h33 v1 = 2006 := (fxT F37 t3)
        have p112 := (DOk_fx O36 F103 e97 (by rw [e110]; exact e111) rfl (DOk_fx O F37 ta0 (by rw [e2]; exact t3) rfl P_RInv.2.1))
        exact g_iret C hr (nar_z2 (iw f104 (by decide) (by decide))).1 (iw f104 (by decide) (by decide)) ⟨O102, (((Fx.rf (wr := wr_k_X3_takeRockNotYounger)).call F37 rfl).call F103 rfl), (iw f104 (by decide) (by decide)), (by unfold RInv; rw [e105, e106, e107, e108]; exact ⟨e109, p112, p12, p13⟩), (by omega)⟩ (by decide) (by decide) dX3_takeRockNotYounger_43
    · refine g_aload_n C rfl 0 rfl dX3_takeRockNotYounger_15 ?_
      refine g_iconst C dX3_takeRockNotYounger_16 ?_
      refine g_callI (st := []) (gc_V C lk_LandSurvey_Reader_99 (k_X3_wrong l D cy w z0 O ta0 (iw (il 1) (by decide) (by decide))) ta0 rfl rfl rfl ⟨by decide, by decide⟩ (Nat.le_of_ble_eq_true rfl) dX3_takeRockNotYounger_17 ⟨(by decide), (by decide)⟩) (fun r113 h114 f116 K115 => ?_)
      obtain ⟨O117, F118, f119⟩ := K115
      have e120 : Rv h114 a0 13 = v1 := ((fxR F118 ta0 rfl).trans e2)
      have e121 : Iv h114 a0 4 = v4 := ((fxI F118 ta0 rfl).trans e5)
      have e122 : Jv h114 a0 5 = v7 := ((fxJ F118 ta0 rfl).trans e8)
      have e123 : Rv h114 a0 6 = v10 := ((fxR F118 ta0 rfl).trans e11)
      have e124 : Tg h114 v1 = 2006 := (fxT F118 t3)
      have p125 := (DOk_fx O F118 ta0 (by rw [e2]; exact t3) rfl P_RInv.2.1)
      exact g_iret C hr (nar_z2 (iw f119 (by decide) (by decide))).1 (iw f119 (by decide) (by decide)) ⟨O117, ((Fx.rf (wr := wr_k_X3_takeRockNotYounger)).call F118 rfl), (iw f119 (by decide) (by decide)), (by unfold RInv; rw [e120, e121, e122, e123]; exact ⟨e124, p125, p12, p13⟩), (by omega)⟩ (by decide) (by decide) dX3_takeRockNotYounger_20
def wr_k_X3_mayAddLine : List Nat := [802, 803, 804, 805, 806, 807]
set_option maxRecDepth 100000 in
set_option maxHeartbeats 4000000 in
theorem k_X3_mayAddLine (l : Launch) (D : va_G) (cy : Nat → ClassId) (w : Nat → Nat) (z0 : Nat)  {h : Hp} {a0 : Nat}  (O : Okh h) (ta0 : Tg h a0 = 4) (P_RInv : RInv w h a0) : MI l D cy w z0 yX3_mayAddLine cX3_mayAddLine 1 (some .boolean) 5 112 0 0 [.inr (.inr a0)] h (fun v h1 => Okh h1 ∧ Fx wr_k_X3_mayAddLine h h1 ∧ (0 ≤ v ∧ v ≤ 1) ∧ (RInv w h1 a0)) := by
  obtain ⟨v1, e2⟩ : ∃ z, Rv h a0 13 = z := ⟨_, rfl⟩
  have t3 := P_RInv.1
  rw [e2] at t3
  obtain ⟨v4, e5⟩ : ∃ z, Iv h a0 4 = z := ⟨_, rfl⟩
  have f6 := ok_I O ta0 rI_4_4 e5
  obtain ⟨v7, e8⟩ : ∃ z, Jv h a0 5 = z := ⟨_, rfl⟩
  have f9 := inL_J O e8
  obtain ⟨v10, e11⟩ : ∃ z, Rv h a0 6 = z := ⟨_, rfl⟩
  have p12 := P_RInv.2.2.1
  rw [e5, e8] at p12
  have p13 := P_RInv.2.2.2
  rw [e11] at p13
  refine hm_go (by decide +kernel) (Nat.le_of_ble_eq_true rfl) (fun p e s m below meth c C hr hn => ?_)
  refine g_aload_n C rfl 0 rfl dX3_mayAddLine_0 ?_
  refine gf_R C fk_LandSurvey_Reader_26 rfl ta0 e2 dX3_mayAddLine_1 ?_
  obtain ⟨v14, e15⟩ : ∃ z, Iv h v1 13 = z := ⟨_, rfl⟩
  have f16 := ok_I O t3 rI_2006_13 e15
  refine gf_I C fk_LandSurvey_Reader_181 rfl t3 e15 dX3_mayAddLine_4 ?_
  refine g_bipush C (by decide) dX3_mayAddLine_7 ?_
  refine g_icmp_lt C (iw f16 (by decide) (by decide)) (iw (il 24) (by decide) (by decide)) 18 (by decide) dX3_mayAddLine_9 (fun q17 => ?_) (fun q18 => ?_)
  · have f19 : (0 : Int) ≤ v14 ∧ v14 ≤ (23 : Int) := r_lt f16 (il 24) q17 (by decide) (by decide)
    refine g_aload_n C rfl 0 rfl dX3_mayAddLine_18 ?_
    refine g_callV (st := []) (gc_V C lk_LandSurvey_Reader_46 (k_X3_advance l D cy w z0 O ta0 (by unfold RInv; rw [e2, e5, e8, e11]; exact ⟨t3, P_RInv.2.1, p12, p13⟩)) ta0 rfl rfl rfl ⟨by decide, by decide⟩ (Nat.le_of_ble_eq_true rfl) dX3_mayAddLine_19 ⟨(by decide), (by decide)⟩) (fun h21 K22 => ?_)
    obtain ⟨O24, F25, p26⟩ := K22
    have e27 : Rv h21 a0 13 = v1 := ((fxR F25 ta0 rfl).trans e2)
    obtain ⟨v28, e29⟩ : ∃ z, Iv h21 a0 4 = z := ⟨_, rfl⟩
    have e30 : Tg h21 a0 = 4 := (fxT F25 ta0)
    have f31 := ok_I O24 e30 rI_4_4 e29
    obtain ⟨v32, e33⟩ : ∃ z, Jv h21 a0 5 = z := ⟨_, rfl⟩
    have f34 := inL_J O24 e33
    obtain ⟨v35, e36⟩ : ∃ z, Rv h21 a0 6 = z := ⟨_, rfl⟩
    have p37 := p26.2.2.1
    rw [e29, e33] at p37
    have p38 := p26.2.2.2
    rw [e36] at p38
    refine g_iconst C dX3_mayAddLine_22 ?_
    have e39 : Tg h21 v1 = 2006 := (fxT F25 t3)
    exact g_iret C hr (nar_z2 (iw (il 1) (by decide) (by decide))).1 (iw (il 1) (by decide) (by decide)) ⟨O24, ((Fx.rf (wr := wr_k_X3_mayAddLine)).call F25 rfl), (iw (il 1) (by decide) (by decide)), (by unfold RInv; rw [e27, e29, e33, e36]; exact ⟨e39, p26.2.1, p37, p38⟩)⟩ (by decide) (by decide) dX3_mayAddLine_23
  · have f40 : (24 : Int) ≤ v14 ∧ v14 ≤ (24 : Int) := r_ge f16 (il 24) q18 (by decide) (by decide)
    refine g_aload_n C rfl 0 rfl dX3_mayAddLine_12 ?_
    refine g_iconst C dX3_mayAddLine_13 ?_
    refine g_callI (st := []) (gc_V C lk_LandSurvey_Reader_99 (k_X3_wrong l D cy w z0 O ta0 (iw (il 5) (by decide) (by decide))) ta0 rfl rfl rfl ⟨by decide, by decide⟩ (Nat.le_of_ble_eq_true rfl) dX3_mayAddLine_14 ⟨(by decide), (by decide)⟩) (fun r41 h42 f44 K43 => ?_)
    obtain ⟨O45, F46, f47⟩ := K43
    have e48 : Rv h42 a0 13 = v1 := ((fxR F46 ta0 rfl).trans e2)
    have e49 : Iv h42 a0 4 = v4 := ((fxI F46 ta0 rfl).trans e5)
    have e50 : Jv h42 a0 5 = v7 := ((fxJ F46 ta0 rfl).trans e8)
    have e51 : Rv h42 a0 6 = v10 := ((fxR F46 ta0 rfl).trans e11)
    have e52 : Tg h42 v1 = 2006 := (fxT F46 t3)
    have p53 := (DOk_fx O F46 ta0 (by rw [e2]; exact t3) rfl P_RInv.2.1)
    exact g_iret C hr (nar_z2 (iw f47 (by decide) (by decide))).1 (iw f47 (by decide) (by decide)) ⟨O45, ((Fx.rf (wr := wr_k_X3_mayAddLine)).call F46 rfl), (iw f47 (by decide) (by decide)), (by unfold RInv; rw [e48, e49, e50, e51]; exact ⟨e52, p53, p12, p13⟩)⟩ (by decide) (by decide) dX3_mayAddLine_17
def wr_k_X3_takeStyle : List Nat := [802, 803, 804, 805, 806, 807, 808]
set_option maxRecDepth 100000 in
set_option maxHeartbeats 4000000 in
theorem k_X3_takeStyle (l : Launch) (D : va_G) (cy : Nat → ClassId) (w : Nat → Nat) (z0 : Nat)  {h : Hp} {a0 : Nat}  (O : Okh h) (ta0 : Tg h a0 = 4) (P_RInv : RInv w h a0) : MI l D cy w z0 yX3_takeStyle cX3_takeStyle 1 (some .boolean) 5 112 0 0 [.inr (.inr a0)] h (fun v h1 => Okh h1 ∧ Fx wr_k_X3_takeStyle h h1 ∧ (0 ≤ v ∧ v ≤ 1) ∧ (RInv w h1 a0) ∧ (v = 1 → 1 ≤ Iv h1 a0 8 ∧ Iv h1 a0 8 ≤ 3)) := by
  obtain ⟨v1, e2⟩ : ∃ z, Rv h a0 13 = z := ⟨_, rfl⟩
  have t3 := P_RInv.1
  rw [e2] at t3
  obtain ⟨v4, e5⟩ : ∃ z, Iv h a0 4 = z := ⟨_, rfl⟩
  have f6 := ok_I O ta0 rI_4_4 e5
  obtain ⟨v7, e8⟩ : ∃ z, Jv h a0 5 = z := ⟨_, rfl⟩
  have f9 := inL_J O e8
  obtain ⟨v10, e11⟩ : ∃ z, Rv h a0 6 = z := ⟨_, rfl⟩
  have p12 := P_RInv.2.2.1
  rw [e5, e8] at p12
  have p13 := P_RInv.2.2.2
  rw [e11] at p13
  refine hm_go (by decide +kernel) (Nat.le_of_ble_eq_true rfl) (fun p e s m below meth c C hr hn => ?_)
  refine g_aload_n C rfl 0 rfl dX3_takeStyle_0 ?_
  refine gf_R C fk_LandSurvey_Reader_69 rfl ta0 e11 dX3_takeStyle_1 ?_
  refine g_gets (x := .inr (.inr (w 6 + 1))) C (C.2.2.2.2.2.2.1.1 6 (by decide)).1 kw_857 dX3_takeStyle_4 ?_
  refine g_acmp_ne C 18 (by decide) dX3_takeStyle_7 (fun q14 => ?_) (fun q15 => ?_)
  · refine g_aload_n C rfl 0 rfl dX3_takeStyle_18 ?_
    refine gf_R C fk_LandSurvey_Reader_69 rfl ta0 e11 dX3_takeStyle_19 ?_
    refine g_gets (x := .inr (.inr (w 7 + 1))) C (C.2.2.2.2.2.2.1.1 7 (by decide)).1 kw_859 dX3_takeStyle_22 ?_
    refine g_acmp_ne C 36 (by decide) dX3_takeStyle_25 (fun q16 => ?_) (fun q17 => ?_)
    · refine g_aload_n C rfl 0 rfl dX3_takeStyle_36 ?_
      refine gf_R C fk_LandSurvey_Reader_69 rfl ta0 e11 dX3_takeStyle_37 ?_
      refine g_gets (x := .inr (.inr (w 8 + 1))) C (C.2.2.2.2.2.2.1.1 8 (by decide)).1 kw_861 dX3_takeStyle_40 ?_
      refine g_acmp_ne C 54 (by decide) dX3_takeStyle_43 (fun q18 => ?_) (fun q19 => ?_)
      · refine g_aload_n C rfl 0 rfl dX3_takeStyle_54 ?_
        refine g_iconst C dX3_takeStyle_55 ?_
        refine g_callI (st := []) (gc_V C lk_LandSurvey_Reader_99 (k_X3_wrong l D cy w z0 O ta0 (iw (il 1) (by decide) (by decide))) ta0 rfl rfl rfl ⟨by decide, by decide⟩ (Nat.le_of_ble_eq_true rfl) dX3_takeStyle_56 ⟨(by decide), (by decide)⟩) (fun r20 h21 f23 K22 => ?_)
        obtain ⟨O24, F25, f26⟩ := K22
        have e27 : Rv h21 a0 13 = v1 := ((fxR F25 ta0 rfl).trans e2)
        have e28 : Iv h21 a0 4 = v4 := ((fxI F25 ta0 rfl).trans e5)
        have e29 : Jv h21 a0 5 = v7 := ((fxJ F25 ta0 rfl).trans e8)
        have e30 : Rv h21 a0 6 = v10 := ((fxR F25 ta0 rfl).trans e11)
        have e31 : Tg h21 v1 = 2006 := (fxT F25 t3)
        have p32 := (DOk_fx O F25 ta0 (by rw [e2]; exact t3) rfl P_RInv.2.1)
        exact g_iret C hr (nar_z2 (iw f26 (by decide) (by decide))).1 (iw f26 (by decide) (by decide)) ⟨O24, ((Fx.rf (wr := wr_k_X3_takeStyle)).call F25 rfl), (iw f26 (by decide) (by decide)), (by unfold RInv; rw [e27, e28, e29, e30]; exact ⟨e31, p32, p12, p13⟩), (by omega)⟩ (by decide) (by decide) dX3_takeStyle_59
      · refine g_aload_n C rfl 0 rfl dX3_takeStyle_46 ?_
        refine g_iconst C dX3_takeStyle_47 ?_
        refine gp_I C fk_LandSurvey_Reader_103 pk_LandSurvey_Reader_8 rfl ta0 (iw (il 1) (by decide) (by decide)) (nf_i _) dX3_takeStyle_48 (fun h34 hh33 => ?_)
        have O35 := O.pI ta0 hh33 rI_4_8 (iw (il 1) (by decide) (by decide)) nofun
        refine g_goto C 60 (by decide) dX3_takeStyle_51 ?_
        refine g_aload_n C rfl 0 rfl dX3_takeStyle_60 ?_
        have e36 : Tg h34 a0 = 4 := ((pIT hh33).trans ta0)
        have e37 : Rv h34 a0 13 = v1 := ((pIR hh33).trans e2)
        have e38 : Iv h34 a0 4 = v4 := ((pI_j hh33 (by decide)).trans e5)
        have e39 : Jv h34 a0 5 = v7 := ((pIJ hh33).trans e8)
        have e40 : Rv h34 a0 6 = v10 := ((pIR hh33).trans e11)
        have e41 : Tg h34 v1 = 2006 := ((pIT hh33).trans t3)
        have p42 := (DOk_fx O ((Fx.rf (wr := [808]) (h := h)).pI ta0 hh33 rfl) ta0 (by rw [e2]; exact t3) rfl P_RInv.2.1)
        refine g_callV (st := []) (gc_V C lk_LandSurvey_Reader_46 (k_X3_advance l D cy w z0 O35 e36 (by unfold RInv; rw [e37, e38, e39, e40]; exact ⟨e41, p42, p12, p13⟩)) e36 rfl rfl rfl ⟨by decide, by decide⟩ (Nat.le_of_ble_eq_true rfl) dX3_takeStyle_61 ⟨(by decide), (by decide)⟩) (fun h44 K45 => ?_)
        obtain ⟨O47, F48, p49⟩ := K45
        have e50 : Rv h44 a0 13 = v1 := ((fxR F48 e36 rfl).trans e37)
        obtain ⟨v51, e52⟩ : ∃ z, Iv h44 a0 4 = z := ⟨_, rfl⟩
        have e53 : Tg h44 a0 = 4 := (fxT F48 e36)
        have f54 := ok_I O47 e53 rI_4_4 e52
        obtain ⟨v55, e56⟩ : ∃ z, Jv h44 a0 5 = z := ⟨_, rfl⟩
        have f57 := inL_J O47 e56
        obtain ⟨v58, e59⟩ : ∃ z, Rv h44 a0 6 = z := ⟨_, rfl⟩
        have p60 := p49.2.2.1
        rw [e52, e56] at p60
        have p61 := p49.2.2.2
        rw [e59] at p61
        refine g_iconst C dX3_takeStyle_64 ?_
        have e62 : Tg h44 v1 = 2006 := (fxT F48 e41)
        have e63 : Iv h44 a0 8 = 1 := ((fxI F48 e36 rfl).trans (pI_e hh33))
        exact g_iret C hr (nar_z2 (iw (il 1) (by decide) (by decide))).1 (iw (il 1) (by decide) (by decide)) ⟨O47, (((Fx.rf (wr := wr_k_X3_takeStyle)).pI ta0 hh33 rfl).call F48 rfl), (iw (il 1) (by decide) (by decide)), (by unfold RInv; rw [e50, e52, e56, e59]; exact ⟨e62, p49.2.1, p60, p61⟩), (by rw [e63]; omega)⟩ (by decide) (by decide) dX3_takeStyle_65
    · refine g_aload_n C rfl 0 rfl dX3_takeStyle_28 ?_
      refine g_iconst C dX3_takeStyle_29 ?_
      refine gp_I C fk_LandSurvey_Reader_103 pk_LandSurvey_Reader_8 rfl ta0 (iw (il 2) (by decide) (by decide)) (nf_i _) dX3_takeStyle_30 (fun h65 hh64 => ?_)
      have O66 := O.pI ta0 hh64 rI_4_8 (iw (il 2) (by decide) (by decide)) nofun
      refine g_goto C 60 (by decide) dX3_takeStyle_33 ?_
      refine g_aload_n C rfl 0 rfl dX3_takeStyle_60 ?_
      have e67 : Tg h65 a0 = 4 := ((pIT hh64).trans ta0)
      have e68 : Rv h65 a0 13 = v1 := ((pIR hh64).trans e2)
      have e69 : Iv h65 a0 4 = v4 := ((pI_j hh64 (by decide)).trans e5)
      have e70 : Jv h65 a0 5 = v7 := ((pIJ hh64).trans e8)
      have e71 : Rv h65 a0 6 = v10 := ((pIR hh64).trans e11)
      have e72 : Tg h65 v1 = 2006 := ((pIT hh64).trans t3)
      have p73 := (DOk_fx O ((Fx.rf (wr := [808]) (h := h)).pI ta0 hh64 rfl) ta0 (by rw [e2]; exact t3) rfl P_RInv.2.1)
      refine g_callV (st := []) (gc_V C lk_LandSurvey_Reader_46 (k_X3_advance l D cy w z0 O66 e67 (by unfold RInv; rw [e68, e69, e70, e71]; exact ⟨e72, p73, p12, p13⟩)) e67 rfl rfl rfl ⟨by decide, by decide⟩ (Nat.le_of_ble_eq_true rfl) dX3_takeStyle_61 ⟨(by decide), (by decide)⟩) (fun h75 K76 => ?_)
      obtain ⟨O78, F79, p80⟩ := K76
      have e81 : Rv h75 a0 13 = v1 := ((fxR F79 e67 rfl).trans e68)
      obtain ⟨v82, e83⟩ : ∃ z, Iv h75 a0 4 = z := ⟨_, rfl⟩
      have e84 : Tg h75 a0 = 4 := (fxT F79 e67)
      have f85 := ok_I O78 e84 rI_4_4 e83
      obtain ⟨v86, e87⟩ : ∃ z, Jv h75 a0 5 = z := ⟨_, rfl⟩
      have f88 := inL_J O78 e87
      obtain ⟨v89, e90⟩ : ∃ z, Rv h75 a0 6 = z := ⟨_, rfl⟩
      have p91 := p80.2.2.1
      rw [e83, e87] at p91
      have p92 := p80.2.2.2
      rw [e90] at p92
      refine g_iconst C dX3_takeStyle_64 ?_
      have e93 : Tg h75 v1 = 2006 := (fxT F79 e72)
      have e94 : Iv h75 a0 8 = 2 := ((fxI F79 e67 rfl).trans (pI_e hh64))
      exact g_iret C hr (nar_z2 (iw (il 1) (by decide) (by decide))).1 (iw (il 1) (by decide) (by decide)) ⟨O78, (((Fx.rf (wr := wr_k_X3_takeStyle)).pI ta0 hh64 rfl).call F79 rfl), (iw (il 1) (by decide) (by decide)), (by unfold RInv; rw [e81, e83, e87, e90]; exact ⟨e93, p80.2.1, p91, p92⟩), (by rw [e94]; omega)⟩ (by decide) (by decide) dX3_takeStyle_65
  · refine g_aload_n C rfl 0 rfl dX3_takeStyle_10 ?_
    refine g_iconst C dX3_takeStyle_11 ?_
    refine gp_I C fk_LandSurvey_Reader_103 pk_LandSurvey_Reader_8 rfl ta0 (iw (il 3) (by decide) (by decide)) (nf_i _) dX3_takeStyle_12 (fun h96 hh95 => ?_)
    have O97 := O.pI ta0 hh95 rI_4_8 (iw (il 3) (by decide) (by decide)) nofun
    refine g_goto C 60 (by decide) dX3_takeStyle_15 ?_
    refine g_aload_n C rfl 0 rfl dX3_takeStyle_60 ?_
    have e98 : Tg h96 a0 = 4 := ((pIT hh95).trans ta0)
    have e99 : Rv h96 a0 13 = v1 := ((pIR hh95).trans e2)
    have e100 : Iv h96 a0 4 = v4 := ((pI_j hh95 (by decide)).trans e5)
    have e101 : Jv h96 a0 5 = v7 := ((pIJ hh95).trans e8)
    have e102 : Rv h96 a0 6 = v10 := ((pIR hh95).trans e11)
    have e103 : Tg h96 v1 = 2006 := ((pIT hh95).trans t3)
    have p104 := (DOk_fx O ((Fx.rf (wr := [808]) (h := h)).pI ta0 hh95 rfl) ta0 (by rw [e2]; exact t3) rfl P_RInv.2.1)
    refine g_callV (st := []) (gc_V C lk_LandSurvey_Reader_46 (k_X3_advance l D cy w z0 O97 e98 (by unfold RInv; rw [e99, e100, e101, e102]; exact ⟨e103, p104, p12, p13⟩)) e98 rfl rfl rfl ⟨by decide, by decide⟩ (Nat.le_of_ble_eq_true rfl) dX3_takeStyle_61 ⟨(by decide), (by decide)⟩) (fun h106 K107 => ?_)
    obtain ⟨O109, F110, p111⟩ := K107
    have e112 : Rv h106 a0 13 = v1 := ((fxR F110 e98 rfl).trans e99)
    obtain ⟨v113, e114⟩ : ∃ z, Iv h106 a0 4 = z := ⟨_, rfl⟩
    have e115 : Tg h106 a0 = 4 := (fxT F110 e98)
    have f116 := ok_I O109 e115 rI_4_4 e114
    obtain ⟨v117, e118⟩ : ∃ z, Jv h106 a0 5 = z := ⟨_, rfl⟩
    have f119 := inL_J O109 e118
    obtain ⟨v120, e121⟩ : ∃ z, Rv h106 a0 6 = z := ⟨_, rfl⟩
    have p122 := p111.2.2.1
    rw [e114, e118] at p122
    have p123 := p111.2.2.2
    rw [e121] at p123
    refine g_iconst C dX3_takeStyle_64 ?_
    have e124 : Tg h106 v1 = 2006 := (fxT F110 e103)
    have e125 : Iv h106 a0 8 = 3 := ((fxI F110 e98 rfl).trans (pI_e hh95))
    exact g_iret C hr (nar_z2 (iw (il 1) (by decide) (by decide))).1 (iw (il 1) (by decide) (by decide)) ⟨O109, (((Fx.rf (wr := wr_k_X3_takeStyle)).pI ta0 hh95 rfl).call F110 rfl), (iw (il 1) (by decide) (by decide)), (by unfold RInv; rw [e112, e114, e118, e121]; exact ⟨e124, p111.2.1, p122, p123⟩), (by rw [e125]; omega)⟩ (by decide) (by decide) dX3_takeStyle_65
def wr_k_X3_readRock : List Nat := [802, 803, 804, 805, 806, 807, 808, 401200, 4620400, 4820000, 5020000]
set_option maxRecDepth 100000 in
set_option maxHeartbeats 4000000 in
theorem k_X3_readRock (l : Launch) (D : va_G) (cy : Nat → ClassId) (w : Nat → Nat) (z0 : Nat)  {h : Hp} {a0 : Nat}  (O : Okh h) (ta0 : Tg h a0 = 4) (P_RInv : RInv w h a0) : MI l D cy w z0 yX3_readRock cX3_readRock 4 (some .boolean) 6 134 0 0 [.inr (.inr a0)] h (fun v h1 => Okh h1 ∧ Fx wr_k_X3_readRock h h1 ∧ (0 ≤ v ∧ v ≤ 1) ∧ (RInv w h1 a0)) := by
  obtain ⟨v1, e2⟩ : ∃ z, Rv h a0 13 = z := ⟨_, rfl⟩
  have t3 := P_RInv.1
  rw [e2] at t3
  obtain ⟨v4, e5⟩ : ∃ z, Iv h a0 4 = z := ⟨_, rfl⟩
  have f6 := ok_I O ta0 rI_4_4 e5
  obtain ⟨v7, e8⟩ : ∃ z, Jv h a0 5 = z := ⟨_, rfl⟩
  have f9 := inL_J O e8
  obtain ⟨v10, e11⟩ : ∃ z, Rv h a0 6 = z := ⟨_, rfl⟩
  have p12 := P_RInv.2.2.1
  rw [e5, e8] at p12
  have p13 := P_RInv.2.2.2
  rw [e11] at p13
  refine hm_go (by decide +kernel) (Nat.le_of_ble_eq_true rfl) (fun p e s m below meth c C hr hn => ?_)
  refine g_aload_n C rfl 0 rfl dX3_readRock_0 ?_
  refine gf_R C fk_LandSurvey_Reader_26 rfl ta0 e2 dX3_readRock_1 ?_
  obtain ⟨v14, e15⟩ : ∃ z, Iv h v1 0 = z := ⟨_, rfl⟩
  have f16 := ok_I O t3 rI_2006_0 e15
  refine gf_I C fk_LandSurvey_Reader_159 rfl t3 e15 dX3_readRock_4 ?_
  refine g_bipush C (by decide) dX3_readRock_7 ?_
  refine g_icmp_lt C (iw f16 (by decide) (by decide)) (iw (il 10) (by decide) (by decide)) 18 (by decide) dX3_readRock_9 (fun q17 => ?_) (fun q18 => ?_)
  · have f19 : (0 : Int) ≤ v14 ∧ v14 ≤ (9 : Int) := r_lt f16 (il 10) q17 (by decide) (by decide)
    refine g_aload_n C rfl 0 rfl dX3_readRock_18 ?_
    refine g_callV (st := []) (gc_V C lk_LandSurvey_Reader_46 (k_X3_advance l D cy w z0 O ta0 (by unfold RInv; rw [e2, e5, e8, e11]; exact ⟨t3, P_RInv.2.1, p12, p13⟩)) ta0 rfl rfl rfl ⟨by decide, by decide⟩ (Nat.le_of_ble_eq_true rfl) dX3_readRock_19 ⟨(by decide), (by decide)⟩) (fun h21 K22 => ?_)
    obtain ⟨O24, F25, p26⟩ := K22
    have e27 : Rv h21 a0 13 = v1 := ((fxR F25 ta0 rfl).trans e2)
    obtain ⟨v28, e29⟩ : ∃ z, Iv h21 a0 4 = z := ⟨_, rfl⟩
    have e30 : Tg h21 a0 = 4 := (fxT F25 ta0)
    have f31 := ok_I O24 e30 rI_4_4 e29
    obtain ⟨v32, e33⟩ : ∃ z, Jv h21 a0 5 = z := ⟨_, rfl⟩
    have f34 := inL_J O24 e33
    obtain ⟨v35, e36⟩ : ∃ z, Rv h21 a0 6 = z := ⟨_, rfl⟩
    have p37 := p26.2.2.1
    rw [e29, e33] at p37
    have p38 := p26.2.2.2
    rw [e36] at p38
    refine g_aload_n C rfl 0 rfl dX3_readRock_22 ?_
    refine gf_I C fk_LandSurvey_Reader_49 rfl e30 e29 dX3_readRock_23 ?_
    refine g_iconst C dX3_readRock_26 ?_
    refine g_icmp_ne C (iw f31 (by decide) (by decide)) (iw (il 1) (by decide) (by decide)) 37 (by decide) dX3_readRock_27 (fun q39 => ?_) (fun q40 => ?_)
    · refine g_aload_n C rfl 0 rfl dX3_readRock_37 ?_
      refine g_iconst C dX3_readRock_38 ?_
      refine g_callI (st := []) (gc_V C lk_LandSurvey_Reader_99 (k_X3_wrong l D cy w z0 O24 e30 (iw (il 1) (by decide) (by decide))) e30 rfl rfl rfl ⟨by decide, by decide⟩ (Nat.le_of_ble_eq_true rfl) dX3_readRock_39 ⟨(by decide), (by decide)⟩) (fun r41 h42 f44 K43 => ?_)
      obtain ⟨O45, F46, f47⟩ := K43
      have e48 : Rv h42 a0 13 = v1 := ((fxR F46 e30 rfl).trans e27)
      have e49 : Iv h42 a0 4 = v28 := ((fxI F46 e30 rfl).trans e29)
      have e50 : Jv h42 a0 5 = v32 := ((fxJ F46 e30 rfl).trans e33)
      have e51 : Rv h42 a0 6 = v35 := ((fxR F46 e30 rfl).trans e36)
      have e52 : Tg h42 v1 = 2006 := (fxT F46 (fxT F25 t3))
      have e53 : Tg h21 v1 = 2006 := (fxT F25 t3)
      have p54 := (DOk_fx O24 F46 e30 (by rw [e27]; exact e53) rfl p26.2.1)
      exact g_iret C hr (nar_z2 (iw f47 (by decide) (by decide))).1 (iw f47 (by decide) (by decide)) ⟨O45, (((Fx.rf (wr := wr_k_X3_readRock)).call F25 rfl).call F46 rfl), (iw f47 (by decide) (by decide)), (by unfold RInv; rw [e48, e49, e50, e51]; exact ⟨e52, p54, p37, p38⟩)⟩ (by decide) (by decide) dX3_readRock_42
    · have f55 : (1 : Int) ≤ v28 ∧ v28 ≤ (1 : Int) := ii f31 (r_eq (il 1) q40) (by decide) (by decide)
      refine g_aload_n C rfl 0 rfl dX3_readRock_30 ?_
      refine gf_R C fk_LandSurvey_Reader_69 rfl e30 e36 dX3_readRock_31 ?_
      refine g_ifnull C 43 (by decide) dX3_readRock_34 (fun q56 => ?_) (fun q57 => ?_)
      · refine g_aload_n C rfl 0 rfl dX3_readRock_43 ?_
        refine gf_R C fk_LandSurvey_Reader_26 rfl e30 e27 dX3_readRock_44 ?_
        refine g_aload_n C rfl 0 rfl dX3_readRock_47 ?_
        refine gf_J C fk_LandSurvey_Reader_73 rfl e30 e33 dX3_readRock_48 ?_
        have e58 : Tg h21 v1 = 2006 := (fxT F25 t3)
        refine g_callI (st := []) (gc_V C lk_LandSurvey_Reader_106 (k_X5_rockNamed l D cy w z0 O24 e58 f34) e58 rfl rfl rfl ⟨by decide, by decide⟩ (Nat.le_of_ble_eq_true rfl) dX3_readRock_51 ⟨(by decide), (by decide)⟩) (fun r59 h60 f62 K61 => ?_)
        obtain ⟨O63, F64, f65⟩ := K61
        refine g_iconst C dX3_readRock_54 ?_
        refine g_icmp_eq C (iw f65 (by decide) (by decide)) (iw (il (-1)) (by decide) (by decide)) 64 (by decide) dX3_readRock_55 (fun q66 => ?_) (fun q67 => ?_)
        · have f68 : (-1 : Int) ≤ r59 ∧ r59 ≤ (-1 : Int) := ii f65 (r_eq (il (-1)) q66) (by decide) (by decide)
          refine g_aload_n C rfl 0 rfl dX3_readRock_64 ?_
          have e69 : Tg h60 a0 = 4 := (fxT F64 e30)
          have e70 : Jv h60 a0 5 = v32 := ((fxJ F64 e30 rfl).trans e33)
          refine gf_J C fk_LandSurvey_Reader_73 rfl e69 e70 dX3_readRock_65 ?_
          refine g_lstore_n C [(1, .inr (.inl v32)), (0, .inr (.inr a0))] rfl (by decide) rfl dX3_readRock_68 ?_
          refine g_aload_n C rfl 1 rfl dX3_readRock_69 ?_
          have e71 : Rv h60 a0 13 = v1 := ((fxR F64 e30 rfl).trans e27)
          have e72 : Iv h60 a0 4 = v28 := ((fxI F64 e30 rfl).trans e29)
          have e73 : Rv h60 a0 6 = v35 := ((fxR F64 e30 rfl).trans e36)
          have e74 : Tg h60 v1 = 2006 := (fxT F64 e58)
          have p75 := (DOk_fx O24 F64 e30 (by rw [e27]; exact e58) rfl p26.2.1)
          refine g_callV (st := []) (gc_V C lk_LandSurvey_Reader_46 (k_X3_advance l D cy w z0 O63 e69 (by unfold RInv; rw [e71, e72, e70, e73]; exact ⟨e74, p75, p37, p38⟩)) e69 rfl rfl rfl ⟨by decide, by decide⟩ (Nat.le_of_ble_eq_true rfl) dX3_readRock_70 ⟨(by decide), (by decide)⟩) (fun h77 K78 => ?_)
          obtain ⟨O80, F81, p82⟩ := K78
          have e83 : Rv h77 a0 13 = v1 := ((fxR F81 e69 rfl).trans e71)
          obtain ⟨v84, e85⟩ : ∃ z, Iv h77 a0 4 = z := ⟨_, rfl⟩
          have e86 : Tg h77 a0 = 4 := (fxT F81 e69)
          have f87 := ok_I O80 e86 rI_4_4 e85
          obtain ⟨v88, e89⟩ : ∃ z, Jv h77 a0 5 = z := ⟨_, rfl⟩
          have f90 := inL_J O80 e89
          obtain ⟨v91, e92⟩ : ∃ z, Rv h77 a0 6 = z := ⟨_, rfl⟩
          have p93 := p82.2.2.1
          rw [e85, e89] at p93
          have p94 := p82.2.2.2
          rw [e92] at p94
          refine g_aload_n C rfl 1 rfl dX3_readRock_73 ?_
          refine g_iconst C dX3_readRock_74 ?_
          refine g_sipush C (by decide) dX3_readRock_75 ?_
          have e95 : Tg h77 v1 = 2006 := (fxT F81 e74)
          refine g_callI (st := []) (gc_V C lk_LandSurvey_Reader_131 (k_X3_takeNumberWithin l D cy w z0 O80 e86 (iw (il 0) (by decide) (by decide)) (iw (il 200) (by decide) (by decide)) (by unfold RInv; rw [e83, e85, e89, e92]; exact ⟨e95, p82.2.1, p93, p94⟩)) e86 rfl rfl rfl ⟨by decide, by decide⟩ (Nat.le_of_ble_eq_true rfl) dX3_readRock_78 ⟨(by decide), (by decide)⟩) (fun r96 h97 f99 K98 => ?_)
          obtain ⟨O100, F101, f102, p103, p104⟩ := K98
          have e105 : Rv h97 a0 13 = v1 := ((fxR F101 e86 rfl).trans e83)
          obtain ⟨v106, e107⟩ : ∃ z, Iv h97 a0 4 = z := ⟨_, rfl⟩
          have e108 : Tg h97 a0 = 4 := (fxT F101 e86)
          have f109 := ok_I O100 e108 rI_4_4 e107
          obtain ⟨v110, e111⟩ : ∃ z, Jv h97 a0 5 = z := ⟨_, rfl⟩
          have f112 := inL_J O100 e111
          obtain ⟨v113, e114⟩ : ∃ z, Rv h97 a0 6 = z := ⟨_, rfl⟩
          have p115 := p103.2.2.1
          rw [e107, e111] at p115
          have p116 := p103.2.2.2
          rw [e114] at p116
          obtain ⟨v117, e118⟩ : ∃ z, Iv h97 a0 8 = z := ⟨_, rfl⟩
          have f119 := ok_I O100 e108 rI_4_8 e118
          rw [e118] at p104
          refine g_if_ne C (iw f102 (by decide) (by decide)) 86 (by decide) dX3_readRock_81 (fun q120 => ?_) (fun q121 => ?_)
          · have f122 : (1 : Int) ≤ r96 ∧ r96 ≤ (1 : Int) := r_nl f102 q120
            refine g_aload_n C rfl 1 rfl dX3_readRock_86 ?_
            refine gf_I C fk_LandSurvey_Reader_103 rfl e108 e118 dX3_readRock_87 ?_
            refine g_istore_n C [(3, .inl v117), (1, .inr (.inl v32)), (0, .inr (.inr a0))] rfl (by decide) rfl dX3_readRock_90 ?_
            refine g_aload_n C rfl 2 rfl dX3_readRock_91 ?_
            refine g_gets (x := .inr (.inr (w 1 + 1))) C (C.2.2.2.2.2.2.1.1 1 (by decide)).1 kw_793 dX3_readRock_92 ?_
            have e123 : Tg h97 v1 = 2006 := (fxT F101 e95)
            refine g_callI (st := []) (gc_V C lk_LandSurvey_Reader_165 (k_X3_takeOnly_ l D cy w z0 (w 1 + 1) O100 e108 (by unfold RInv; rw [e105, e107, e111, e114]; exact ⟨e123, p103.2.1, p115, p116⟩)) e108 rfl rfl rfl ⟨by decide, by decide⟩ (Nat.le_of_ble_eq_true rfl) dX3_readRock_95 ⟨(by decide), (by decide)⟩) (fun r124 h125 f127 K126 => ?_)
            obtain ⟨O128, F129, f130, p131⟩ := K126
            have e132 : Rv h125 a0 13 = v1 := ((fxR F129 e108 rfl).trans e105)
            obtain ⟨v133, e134⟩ : ∃ z, Iv h125 a0 4 = z := ⟨_, rfl⟩
            have e135 : Tg h125 a0 = 4 := (fxT F129 e108)
            have f136 := ok_I O128 e135 rI_4_4 e134
            obtain ⟨v137, e138⟩ : ∃ z, Jv h125 a0 5 = z := ⟨_, rfl⟩
            have f139 := inL_J O128 e138
            obtain ⟨v140, e141⟩ : ∃ z, Rv h125 a0 6 = z := ⟨_, rfl⟩
            have p142 := p131.2.2.1
            rw [e134, e138] at p142
            have p143 := p131.2.2.2
            rw [e141] at p143
            refine g_if_eq C (iw f130 (by decide) (by decide)) 121 (by decide) dX3_readRock_98 (fun q144 => ?_) (fun q145 => ?_)
            · have f146 : (0 : Int) ≤ r124 ∧ r124 ≤ (0 : Int) := ii f130 (r_eq (il 0) q144) (by decide) (by decide)
              refine g_iconst C dX3_readRock_121 ?_
              have e147 : Tg h125 v1 = 2006 := (fxT F129 e123)
              exact g_iret C hr (nar_z2 (iw (il 0) (by decide) (by decide))).1 (iw (il 0) (by decide) (by decide)) ⟨O128, ((((((Fx.rf (wr := wr_k_X3_readRock)).call F25 rfl).call F64 rfl).call F81 rfl).call F101 rfl).call F129 rfl), (iw (il 0) (by decide) (by decide)), (by unfold RInv; rw [e132, e134, e138, e141]; exact ⟨e147, p131.2.1, p142, p143⟩)⟩ (by decide) (by decide) dX3_readRock_122
            · have f148 : (1 : Int) ≤ r124 ∧ r124 ≤ (1 : Int) := r_nl f130 q145
              refine g_aload_n C rfl 2 rfl dX3_readRock_101 ?_
              refine g_iload_n C rfl 0 rfl dX3_readRock_102 ?_
              refine g_sipush C (by decide) dX3_readRock_103 ?_
              have e149 : Tg h125 v1 = 2006 := (fxT F129 e123)
              refine g_callI (st := []) (gc_V C lk_LandSurvey_Reader_131 (k_X3_takeNumberWithin l D cy w z0 O128 e135 f119 (iw (il 200) (by decide) (by decide)) (by unfold RInv; rw [e132, e134, e138, e141]; exact ⟨e149, p131.2.1, p142, p143⟩)) e135 rfl rfl rfl ⟨by decide, by decide⟩ (Nat.le_of_ble_eq_true rfl) dX3_readRock_106 ⟨(by decide), (by decide)⟩) (fun r150 h151 f153 K152 => ?_)
              obtain ⟨O154, F155, f156, p157, p158⟩ := K152
              have e159 : Rv h151 a0 13 = v1 := ((fxR F155 e135 rfl).trans e132)
              obtain ⟨v160, e161⟩ : ∃ z, Iv h151 a0 4 = z := ⟨_, rfl⟩
              have e162 : Tg h151 a0 = 4 := (fxT F155 e135)
              have f163 := ok_I O154 e162 rI_4_4 e161
              obtain ⟨v164, e165⟩ : ∃ z, Jv h151 a0 5 = z := ⟨_, rfl⟩
              have f166 := inL_J O154 e165
              obtain ⟨v167, e168⟩ : ∃ z, Rv h151 a0 6 = z := ⟨_, rfl⟩
              have p169 := p157.2.2.1
              rw [e161, e165] at p169
              have p170 := p157.2.2.2
              rw [e168] at p170
              obtain ⟨v171, e172⟩ : ∃ z, Iv h151 a0 8 = z := ⟨_, rfl⟩
              have f173 := ok_I O154 e162 rI_4_8 e172
              rw [e172] at p158
              refine g_if_eq C (iw f156 (by decide) (by decide)) 121 (by decide) dX3_readRock_109 (fun q174 => ?_) (fun q175 => ?_)
              · have f176 : (0 : Int) ≤ r150 ∧ r150 ≤ (0 : Int) := ii f156 (r_eq (il 0) q174) (by decide) (by decide)
                refine g_iconst C dX3_readRock_121 ?_
                have e177 : Tg h151 v1 = 2006 := (fxT F155 e149)
                exact g_iret C hr (nar_z2 (iw (il 0) (by decide) (by decide))).1 (iw (il 0) (by decide) (by decide)) ⟨O154, (((((((Fx.rf (wr := wr_k_X3_readRock)).call F25 rfl).call F64 rfl).call F81 rfl).call F101 rfl).call F129 rfl).call F155 rfl), (iw (il 0) (by decide) (by decide)), (by unfold RInv; rw [e159, e161, e165, e168]; exact ⟨e177, p157.2.1, p169, p170⟩)⟩ (by decide) (by decide) dX3_readRock_122
              · have f178 : (1 : Int) ≤ r150 ∧ r150 ≤ (1 : Int) := r_nl f156 q175
                refine g_aload_n C rfl 2 rfl dX3_readRock_112 ?_
                refine g_bipush C (by decide) dX3_readRock_113 ?_
                have e179 : Tg h151 v1 = 2006 := (fxT F155 e149)
                refine g_callI (st := []) (gc_V C lk_LandSurvey_Reader_169 (k_X3_takeOnly l D cy w z0 O154 e162 (iw (il 59) (by decide) (by decide)) (by unfold RInv; rw [e159, e161, e165, e168]; exact ⟨e179, p157.2.1, p169, p170⟩)) e162 rfl rfl rfl ⟨by decide, by decide⟩ (Nat.le_of_ble_eq_true rfl) dX3_readRock_115 ⟨(by decide), (by decide)⟩) (fun r180 h181 f183 K182 => ?_)
                obtain ⟨O184, F185, f186, p187⟩ := K182
                have e188 : Rv h181 a0 13 = v1 := ((fxR F185 e162 rfl).trans e159)
                obtain ⟨v189, e190⟩ : ∃ z, Iv h181 a0 4 = z := ⟨_, rfl⟩
                have e191 : Tg h181 a0 = 4 := (fxT F185 e162)
                have f192 := ok_I O184 e191 rI_4_4 e190
                obtain ⟨v193, e194⟩ : ∃ z, Jv h181 a0 5 = z := ⟨_, rfl⟩
                have f195 := inL_J O184 e194
                obtain ⟨v196, e197⟩ : ∃ z, Rv h181 a0 6 = z := ⟨_, rfl⟩
                have p198 := p187.2.2.1
                rw [e190, e194] at p198
                have p199 := p187.2.2.2
                rw [e197] at p199
                refine g_if_ne C (iw f186 (by decide) (by decide)) 123 (by decide) dX3_readRock_118 (fun q200 => ?_) (fun q201 => ?_)
                · have f202 : (1 : Int) ≤ r180 ∧ r180 ≤ (1 : Int) := r_nl f186 q200
                  refine g_aload_n C rfl 2 rfl dX3_readRock_123 ?_
                  refine gf_R C fk_LandSurvey_Reader_26 rfl e191 e188 dX3_readRock_124 ?_
                  have e203 : Tg h181 v1 = 2006 := (fxT F185 e179)
                  obtain ⟨v204, e205⟩ : ∃ z, Rv h181 v1 1 = z := ⟨_, rfl⟩
                  have t206 := ok_R O184 e203 rE_2006_1 e205
                  have l207 := ok_L O184 e203 rE_2006_1 e205
                  refine gf_R C fk_LandSurvey_Reader_171 rfl e203 e205 dX3_readRock_127 ?_
                  refine g_aload_n C rfl 2 rfl dX3_readRock_130 ?_
                  refine gf_R C fk_LandSurvey_Reader_26 rfl e191 e188 dX3_readRock_131 ?_
                  have e208 : Iv h181 v1 0 = v14 := ((fxI F185 e179 rfl).trans ((fxI F155 e149 rfl).trans ((fxI F129 e123 rfl).trans ((fxI F101 e95 rfl).trans ((fxI F81 e74 rfl).trans ((fxI F64 e58 rfl).trans ((fxI F25 t3 rfl).trans e15)))))))
                  refine gf_I C fk_LandSurvey_Reader_159 rfl e203 e208 dX3_readRock_134 ?_
                  refine g_lload_n C rfl 1 rfl dX3_readRock_137 ?_
                  refine g_last C t206 rfl l207 (ix f19 (by decide) (by decide)) f34 dX3_readRock_138 (fun h210 hh209 => ?_)
                  have O211 := O184.pJ hh209 f34
                  refine g_aload_n C rfl 2 rfl dX3_readRock_139 ?_
                  have e212 : Tg h210 a0 = 4 := ((pJT hh209).trans e191)
                  have e213 : Rv h210 a0 13 = v1 := ((pJR hh209).trans e188)
                  refine gf_R C fk_LandSurvey_Reader_26 rfl e212 e213 dX3_readRock_140 ?_
                  have e214 : Tg h210 v1 = 2006 := ((pJT hh209).trans e203)
                  obtain ⟨v215, e216⟩ : ∃ z, Rv h210 v1 2 = z := ⟨_, rfl⟩
                  have t217 := ok_R O211 e214 rE_2006_2 e216
                  have l218 := ok_L O211 e214 rE_2006_2 e216
                  refine gf_R C fk_LandSurvey_Reader_175 rfl e214 e216 dX3_readRock_143 ?_
                  refine g_aload_n C rfl 2 rfl dX3_readRock_146 ?_
                  refine gf_R C fk_LandSurvey_Reader_26 rfl e212 e213 dX3_readRock_147 ?_
                  have e219 : Iv h210 v1 0 = v14 := ((pJI hh209).trans e208)
                  refine gf_I C fk_LandSurvey_Reader_159 rfl e214 e219 dX3_readRock_150 ?_
                  refine g_iload_n C rfl 0 rfl dX3_readRock_153 ?_
                  refine g_iast C t217 rfl l218 (ix f19 (by decide) (by decide)) f119 dX3_readRock_154 (fun h221 hh220 => ?_)
                  have O222 := O211.pIa t217 ar_24100 hh220 rI_24100_0 (by omega) nofun
                  refine g_aload_n C rfl 2 rfl dX3_readRock_155 ?_
                  have e223 : Tg h221 a0 = 4 := ((pIT hh220).trans e212)
                  have e224 : Rv h221 a0 13 = v1 := ((pIR hh220).trans e213)
                  refine gf_R C fk_LandSurvey_Reader_26 rfl e223 e224 dX3_readRock_156 ?_
                  have e225 : Tg h221 v1 = 2006 := ((pIT hh220).trans e214)
                  obtain ⟨v226, e227⟩ : ∃ z, Rv h221 v1 3 = z := ⟨_, rfl⟩
                  have t228 := ok_R O222 e225 rE_2006_3 e227
                  have l229 := ok_L O222 e225 rE_2006_3 e227
                  refine gf_R C fk_LandSurvey_Reader_178 rfl e225 e227 dX3_readRock_159 ?_
                  refine g_aload_n C rfl 2 rfl dX3_readRock_162 ?_
                  refine gf_R C fk_LandSurvey_Reader_26 rfl e223 e224 dX3_readRock_163 ?_
                  have e230 : Iv h221 v1 0 = v14 := ((pI_n hh220 (ne_tag e214 t217 (by decide))).trans e219)
                  refine gf_I C fk_LandSurvey_Reader_159 rfl e225 e230 dX3_readRock_166 ?_
                  refine g_aload_n C rfl 2 rfl dX3_readRock_169 ?_
                  have e231 : Iv h221 a0 8 = v171 := ((pI_n hh220 (ne_tag e212 t217 (by decide))).trans ((pJI hh209).trans ((fxI F185 e162 rfl).trans e172)))
                  refine gf_I C fk_LandSurvey_Reader_103 rfl e223 e231 dX3_readRock_170 ?_
                  refine g_iast C t228 rfl l229 (ix f19 (by decide) (by decide)) f173 dX3_readRock_173 (fun h233 hh232 => ?_)
                  have O234 := O222.pIa t228 ar_25100 hh232 rI_25100_0 (by omega) nofun
                  refine g_aload_n C rfl 2 rfl dX3_readRock_174 ?_
                  have e235 : Tg h233 a0 = 4 := ((pIT hh232).trans e223)
                  have e236 : Rv h233 a0 13 = v1 := ((pIR hh232).trans e224)
                  refine gf_R C fk_LandSurvey_Reader_26 rfl e235 e236 dX3_readRock_175 ?_
                  refine g_dup C rfl dX3_readRock_178 ?_
                  have e237 : Tg h233 v1 = 2006 := ((pIT hh232).trans e225)
                  have e238 : Iv h233 v1 0 = v14 := ((pI_n hh232 (ne_tag e225 t228 (by decide))).trans e230)
                  refine gf_I C fk_LandSurvey_Reader_159 rfl e237 e238 dX3_readRock_179 ?_
                  refine g_iconst C dX3_readRock_182 ?_
                  have f239 : (1 : Int) ≤ (v14 + 1) ∧ (v14 + 1) ≤ (10 : Int) := ia_add f19 (il 1) (by decide) (by decide)
                  refine g_iadd C dX3_readRock_183 ?_
                  refine gp_I C fk_LandSurvey_Reader_159 pk_LandSurvey_Rules_0 rfl e237 (iw f239 (by decide) (by decide)) (nf_i _) dX3_readRock_184 (fun h241 hh240 => ?_)
                  have O242 := O234.pI e237 hh240 rI_2006_0 (iw f239 (by decide) (by decide)) nofun
                  refine g_iconst C dX3_readRock_187 ?_
                  have e243 : Rv h241 a0 13 = v1 := ((pIR hh240).trans e236)
                  have e244 : Iv h241 a0 4 = v189 := ((pI_n hh240 (ne_tag e235 e237 (by decide))).trans ((pI_n hh232 (ne_tag e223 t228 (by decide))).trans ((pI_n hh220 (ne_tag e212 t217 (by decide))).trans ((pJI hh209).trans e190))))
                  have e245 : Jv h241 a0 5 = v193 := ((pIJ hh240).trans ((pIJ hh232).trans ((pIJ hh220).trans ((pJ_n hh209 (ne_tag e191 t206 (by decide))).trans e194))))
                  have e246 : Rv h241 a0 6 = v196 := ((pIR hh240).trans ((pIR hh232).trans ((pIR hh220).trans ((pJR hh209).trans e197))))
                  have e247 : Tg h241 v1 = 2006 := ((pIT hh240).trans e237)
                  have p248 := (DOk_fx O234 ((Fx.rf (wr := [401200]) (h := h233)).pI e237 hh240 rfl) e235 (by rw [e236]; exact e237) rfl (DOk_fx O222 ((Fx.rf (wr := [5020000]) (h := h221)).pIa t228 ar_25100 hh232 rfl) e223 (by rw [e224]; exact e225) rfl (DOk_fx O211 ((Fx.rf (wr := [4820000]) (h := h210)).pIa t217 ar_24100 hh220 rfl) e212 (by rw [e213]; exact e214) rfl (DOk_fx O184 ((Fx.rf (wr := [4620400]) (h := h181)).pJa t206 ar_23102 hh209 rfl) e191 (by rw [e188]; exact e203) rfl p187.2.1))))
                  exact g_iret C hr (nar_z2 (iw (il 1) (by decide) (by decide))).1 (iw (il 1) (by decide) (by decide)) ⟨O242, ((((((((((((Fx.rf (wr := wr_k_X3_readRock)).call F25 rfl).call F64 rfl).call F81 rfl).call F101 rfl).call F129 rfl).call F155 rfl).call F185 rfl).pJa t206 ar_23102 hh209 rfl).pIa t217 ar_24100 hh220 rfl).pIa t228 ar_25100 hh232 rfl).pI e237 hh240 rfl), (iw (il 1) (by decide) (by decide)), (by unfold RInv; rw [e243, e244, e245, e246]; exact ⟨e247, p248, p198, p199⟩)⟩ (by decide) (by decide) dX3_readRock_188
                · have f249 : (0 : Int) ≤ r180 ∧ r180 ≤ (0 : Int) := ii f186 (r_eq (il 0) q201) (by decide) (by decide)
                  refine g_iconst C dX3_readRock_121 ?_
                  have e250 : Tg h181 v1 = 2006 := (fxT F185 e179)
                  exact g_iret C hr (nar_z2 (iw (il 0) (by decide) (by decide))).1 (iw (il 0) (by decide) (by decide)) ⟨O184, ((((((((Fx.rf (wr := wr_k_X3_readRock)).call F25 rfl).call F64 rfl).call F81 rfl).call F101 rfl).call F129 rfl).call F155 rfl).call F185 rfl), (iw (il 0) (by decide) (by decide)), (by unfold RInv; rw [e188, e190, e194, e197]; exact ⟨e250, p187.2.1, p198, p199⟩)⟩ (by decide) (by decide) dX3_readRock_122
          · have f251 : (0 : Int) ≤ r96 ∧ r96 ≤ (0 : Int) := ii f102 (r_eq (il 0) q121) (by decide) (by decide)
            refine g_iconst C dX3_readRock_84 ?_
            have e252 : Tg h97 v1 = 2006 := (fxT F101 e95)
            exact g_iret C hr (nar_z2 (iw (il 0) (by decide) (by decide))).1 (iw (il 0) (by decide) (by decide)) ⟨O100, (((((Fx.rf (wr := wr_k_X3_readRock)).call F25 rfl).call F64 rfl).call F81 rfl).call F101 rfl), (iw (il 0) (by decide) (by decide)), (by unfold RInv; rw [e105, e107, e111, e114]; exact ⟨e252, p103.2.1, p115, p116⟩)⟩ (by decide) (by decide) dX3_readRock_85
        · have f253 : (0 : Int) ≤ r59 ∧ r59 ≤ (9 : Int) := r_nl f65 q67
          refine g_aload_n C rfl 0 rfl dX3_readRock_58 ?_
          refine g_iconst C dX3_readRock_59 ?_
          have e254 : Tg h60 a0 = 4 := (fxT F64 e30)
          refine g_callI (st := []) (gc_V C lk_LandSurvey_Reader_99 (k_X3_wrong l D cy w z0 O63 e254 (iw (il 3) (by decide) (by decide))) e254 rfl rfl rfl ⟨by decide, by decide⟩ (Nat.le_of_ble_eq_true rfl) dX3_readRock_60 ⟨(by decide), (by decide)⟩) (fun r255 h256 f258 K257 => ?_)
          obtain ⟨O259, F260, f261⟩ := K257
          have e262 : Rv h256 a0 13 = v1 := ((fxR F260 e254 rfl).trans ((fxR F64 e30 rfl).trans e27))
          have e263 : Iv h256 a0 4 = v28 := ((fxI F260 e254 rfl).trans ((fxI F64 e30 rfl).trans e29))
          have e264 : Jv h256 a0 5 = v32 := ((fxJ F260 e254 rfl).trans ((fxJ F64 e30 rfl).trans e33))
          have e265 : Rv h256 a0 6 = v35 := ((fxR F260 e254 rfl).trans ((fxR F64 e30 rfl).trans e36))
          have e266 : Tg h256 v1 = 2006 := (fxT F260 (fxT F64 e58))
          have e267 : Rv h60 a0 13 = v1 := ((fxR F64 e30 rfl).trans e27)
          have e268 : Tg h60 v1 = 2006 := (fxT F64 e58)
          have p269 := (DOk_fx O63 F260 e254 (by rw [e267]; exact e268) rfl (DOk_fx O24 F64 e30 (by rw [e27]; exact e58) rfl p26.2.1))
          exact g_iret C hr (nar_z2 (iw f261 (by decide) (by decide))).1 (iw f261 (by decide) (by decide)) ⟨O259, ((((Fx.rf (wr := wr_k_X3_readRock)).call F25 rfl).call F64 rfl).call F260 rfl), (iw f261 (by decide) (by decide)), (by unfold RInv; rw [e262, e263, e264, e265]; exact ⟨e266, p269, p37, p38⟩)⟩ (by decide) (by decide) dX3_readRock_63
      · refine g_aload_n C rfl 0 rfl dX3_readRock_37 ?_
        refine g_iconst C dX3_readRock_38 ?_
        refine g_callI (st := []) (gc_V C lk_LandSurvey_Reader_99 (k_X3_wrong l D cy w z0 O24 e30 (iw (il 1) (by decide) (by decide))) e30 rfl rfl rfl ⟨by decide, by decide⟩ (Nat.le_of_ble_eq_true rfl) dX3_readRock_39 ⟨(by decide), (by decide)⟩) (fun r270 h271 f273 K272 => ?_)
        obtain ⟨O274, F275, f276⟩ := K272
        have e277 : Rv h271 a0 13 = v1 := ((fxR F275 e30 rfl).trans e27)
        have e278 : Iv h271 a0 4 = v28 := ((fxI F275 e30 rfl).trans e29)
        have e279 : Jv h271 a0 5 = v32 := ((fxJ F275 e30 rfl).trans e33)
        have e280 : Rv h271 a0 6 = v35 := ((fxR F275 e30 rfl).trans e36)
        have e281 : Tg h271 v1 = 2006 := (fxT F275 (fxT F25 t3))
        have e282 : Tg h21 v1 = 2006 := (fxT F25 t3)
        have p283 := (DOk_fx O24 F275 e30 (by rw [e27]; exact e282) rfl p26.2.1)
        exact g_iret C hr (nar_z2 (iw f276 (by decide) (by decide))).1 (iw f276 (by decide) (by decide)) ⟨O274, (((Fx.rf (wr := wr_k_X3_readRock)).call F25 rfl).call F275 rfl), (iw f276 (by decide) (by decide)), (by unfold RInv; rw [e277, e278, e279, e280]; exact ⟨e281, p283, p37, p38⟩)⟩ (by decide) (by decide) dX3_readRock_42
  · have f284 : (10 : Int) ≤ v14 ∧ v14 ≤ (10 : Int) := r_ge f16 (il 10) q18 (by decide) (by decide)
    refine g_aload_n C rfl 0 rfl dX3_readRock_12 ?_
    refine g_iconst C dX3_readRock_13 ?_
    refine g_callI (st := []) (gc_V C lk_LandSurvey_Reader_99 (k_X3_wrong l D cy w z0 O ta0 (iw (il 5) (by decide) (by decide))) ta0 rfl rfl rfl ⟨by decide, by decide⟩ (Nat.le_of_ble_eq_true rfl) dX3_readRock_14 ⟨(by decide), (by decide)⟩) (fun r285 h286 f288 K287 => ?_)
    obtain ⟨O289, F290, f291⟩ := K287
    have e292 : Rv h286 a0 13 = v1 := ((fxR F290 ta0 rfl).trans e2)
    have e293 : Iv h286 a0 4 = v4 := ((fxI F290 ta0 rfl).trans e5)
    have e294 : Jv h286 a0 5 = v7 := ((fxJ F290 ta0 rfl).trans e8)
    have e295 : Rv h286 a0 6 = v10 := ((fxR F290 ta0 rfl).trans e11)
    have e296 : Tg h286 v1 = 2006 := (fxT F290 t3)
    have p297 := (DOk_fx O F290 ta0 (by rw [e2]; exact t3) rfl P_RInv.2.1)
    exact g_iret C hr (nar_z2 (iw f291 (by decide) (by decide))).1 (iw f291 (by decide) (by decide)) ⟨O289, ((Fx.rf (wr := wr_k_X3_readRock)).call F290 rfl), (iw f291 (by decide) (by decide)), (by unfold RInv; rw [e292, e293, e294, e295]; exact ⟨e296, p297, p12, p13⟩)⟩ (by decide) (by decide) dX3_readRock_17
def wr_k_X3_readWaterRule : List Nat := [802, 803, 804, 805, 806, 807, 808, 401209, 401210]
set_option maxRecDepth 100000 in
set_option maxHeartbeats 4000000 in
theorem k_X3_readWaterRule (l : Launch) (D : va_G) (cy : Nat → ClassId) (w : Nat → Nat) (z0 : Nat)  {h : Hp} {a0 : Nat}  (O : Okh h) (ta0 : Tg h a0 = 4) (P_RInv : RInv w h a0) : MI l D cy w z0 yX3_readWaterRule cX3_readWaterRule 2 (some .boolean) 6 134 0 0 [.inr (.inr a0)] h (fun v h1 => Okh h1 ∧ Fx wr_k_X3_readWaterRule h h1 ∧ (0 ≤ v ∧ v ≤ 1) ∧ (RInv w h1 a0)) := by
  obtain ⟨v1, e2⟩ : ∃ z, Rv h a0 13 = z := ⟨_, rfl⟩
  have t3 := P_RInv.1
  rw [e2] at t3
  obtain ⟨v4, e5⟩ : ∃ z, Iv h a0 4 = z := ⟨_, rfl⟩
  have f6 := ok_I O ta0 rI_4_4 e5
  obtain ⟨v7, e8⟩ : ∃ z, Jv h a0 5 = z := ⟨_, rfl⟩
  have f9 := inL_J O e8
  obtain ⟨v10, e11⟩ : ∃ z, Rv h a0 6 = z := ⟨_, rfl⟩
  have p12 := P_RInv.2.2.1
  rw [e5, e8] at p12
  have p13 := P_RInv.2.2.2
  rw [e11] at p13
  refine hm_go (by decide +kernel) (Nat.le_of_ble_eq_true rfl) (fun p e s m below meth c C hr hn => ?_)
  refine g_aload_n C rfl 0 rfl dX3_readWaterRule_0 ?_
  refine gf_R C fk_LandSurvey_Reader_69 rfl ta0 e11 dX3_readWaterRule_1 ?_
  refine g_gets (x := .inr (.inr (w 11 + 1))) C (C.2.2.2.2.2.2.1.1 11 (by decide)).1 kw_871 dX3_readWaterRule_4 ?_
  refine g_acmp_ne C 14 (by decide) dX3_readWaterRule_7 (fun q14 => ?_) (fun q15 => ?_)
  · refine g_iconst C dX3_readWaterRule_14 ?_
    refine g_istore_n C [(1, .inl 0), (0, .inr (.inr a0))] rfl (by decide) rfl dX3_readWaterRule_15 ?_
    refine g_aload_n C rfl 1 rfl dX3_readWaterRule_16 ?_
    refine g_callV (st := []) (gc_V C lk_LandSurvey_Reader_46 (k_X3_advance l D cy w z0 O ta0 (by unfold RInv; rw [e2, e5, e8, e11]; exact ⟨t3, P_RInv.2.1, p12, p13⟩)) ta0 rfl rfl rfl ⟨by decide, by decide⟩ (Nat.le_of_ble_eq_true rfl) dX3_readWaterRule_17 ⟨(by decide), (by decide)⟩) (fun h17 K18 => ?_)
    obtain ⟨O20, F21, p22⟩ := K18
    have e23 : Rv h17 a0 13 = v1 := ((fxR F21 ta0 rfl).trans e2)
    obtain ⟨v24, e25⟩ : ∃ z, Iv h17 a0 4 = z := ⟨_, rfl⟩
    have e26 : Tg h17 a0 = 4 := (fxT F21 ta0)
    have f27 := ok_I O20 e26 rI_4_4 e25
    obtain ⟨v28, e29⟩ : ∃ z, Jv h17 a0 5 = z := ⟨_, rfl⟩
    have f30 := inL_J O20 e29
    obtain ⟨v31, e32⟩ : ∃ z, Rv h17 a0 6 = z := ⟨_, rfl⟩
    have p33 := p22.2.2.1
    rw [e25, e29] at p33
    have p34 := p22.2.2.2
    rw [e32] at p34
    refine g_aload_n C rfl 1 rfl dX3_readWaterRule_20 ?_
    refine g_iconst C dX3_readWaterRule_21 ?_
    have e35 : Tg h17 v1 = 2006 := (fxT F21 t3)
    refine g_callI (st := []) (gc_V C lk_LandSurvey_Reader_122 (k_X3_takeRockNotYounger l D cy w z0 O20 e26 (iw (il 0) (by decide) (by decide)) (by unfold RInv; rw [e23, e25, e29, e32]; exact ⟨e35, p22.2.1, p33, p34⟩)) e26 rfl rfl rfl ⟨by decide, by decide⟩ (Nat.le_of_ble_eq_true rfl) dX3_readWaterRule_22 ⟨(by decide), (by decide)⟩) (fun r36 h37 f39 K38 => ?_)
    obtain ⟨O40, F41, f42, p43, p44⟩ := K38
    have e45 : Rv h37 a0 13 = v1 := ((fxR F41 e26 rfl).trans e23)
    obtain ⟨v46, e47⟩ : ∃ z, Iv h37 a0 4 = z := ⟨_, rfl⟩
    have e48 : Tg h37 a0 = 4 := (fxT F41 e26)
    have f49 := ok_I O40 e48 rI_4_4 e47
    obtain ⟨v50, e51⟩ : ∃ z, Jv h37 a0 5 = z := ⟨_, rfl⟩
    have f52 := inL_J O40 e51
    obtain ⟨v53, e54⟩ : ∃ z, Rv h37 a0 6 = z := ⟨_, rfl⟩
    have p55 := p43.2.2.1
    rw [e47, e51] at p55
    have p56 := p43.2.2.2
    rw [e54] at p56
    obtain ⟨v57, e58⟩ : ∃ z, Iv h37 a0 8 = z := ⟨_, rfl⟩
    have f59 := ok_I O40 e48 rI_4_8 e58
    rw [e58] at p44
    refine g_if_ne C (iw f42 (by decide) (by decide)) 30 (by decide) dX3_readWaterRule_25 (fun q60 => ?_) (fun q61 => ?_)
    · have f62 : (1 : Int) ≤ r36 ∧ r36 ≤ (1 : Int) := r_nl f42 q60
      refine g_iload_n C rfl 0 rfl dX3_readWaterRule_30 ?_
      refine g_if_eq C (iw (il 0) (by decide) (by decide)) 55 (by decide) dX3_readWaterRule_31 (fun q63 => ?_) (fun q64 => ?_)
      · refine g_aload_n C rfl 1 rfl dX3_readWaterRule_55 ?_
        refine gf_R C fk_LandSurvey_Reader_26 rfl e48 e45 dX3_readWaterRule_56 ?_
        refine g_dup C rfl dX3_readWaterRule_59 ?_
        have e65 : Tg h37 v1 = 2006 := (fxT F41 e35)
        obtain ⟨v66, e67⟩ : ∃ z, Iv h37 v1 10 = z := ⟨_, rfl⟩
        have f68 := ok_I O40 e65 rI_2006_10 e67
        refine gf_I C fk_LandSurvey_Reader_211 rfl e65 e67 dX3_readWaterRule_60 ?_
        refine g_iconst C dX3_readWaterRule_63 ?_
        refine g_aload_n C rfl 1 rfl dX3_readWaterRule_64 ?_
        refine gf_I C fk_LandSurvey_Reader_103 rfl e48 e58 dX3_readWaterRule_65 ?_
        refine g_ishl C dX3_readWaterRule_68 ?_
        have f69 : (-2147483648 : Int) ≤ (bShl 1 v57) ∧ (bShl 1 v57) ≤ (2147483647 : Int) := inR_of _
        refine g_ior C dX3_readWaterRule_69 ?_
        have f70 : (-2147483648 : Int) ≤ (bOr v66 (bShl 1 v57)) ∧ (bOr v66 (bShl 1 v57)) ≤ (2147483647 : Int) := inR_of _
        refine gp_I C fk_LandSurvey_Reader_211 pk_LandSurvey_Rules_10 rfl e65 f70 (nf_i _) dX3_readWaterRule_70 (fun h72 hh71 => ?_)
        have O73 := O40.pI e65 hh71 rI_2006_10 f70 nofun
        refine g_aload_n C rfl 1 rfl dX3_readWaterRule_73 ?_
        refine g_bipush C (by decide) dX3_readWaterRule_74 ?_
        have e74 : Tg h72 a0 = 4 := ((pIT hh71).trans e48)
        have e75 : Rv h72 a0 13 = v1 := ((pIR hh71).trans e45)
        have e76 : Iv h72 a0 4 = v46 := ((pI_n hh71 (ne_tag e48 e65 (by decide))).trans e47)
        have e77 : Jv h72 a0 5 = v50 := ((pIJ hh71).trans e51)
        have e78 : Rv h72 a0 6 = v53 := ((pIR hh71).trans e54)
        have e79 : Tg h72 v1 = 2006 := ((pIT hh71).trans e65)
        have p80 := (DOk_fx O40 ((Fx.rf (wr := [401210]) (h := h37)).pI e65 hh71 rfl) e48 (by rw [e45]; exact e65) rfl p43.2.1)
        refine g_callI (st := []) (gc_V C lk_LandSurvey_Reader_169 (k_X3_takeOnly l D cy w z0 O73 e74 (iw (il 59) (by decide) (by decide)) (by unfold RInv; rw [e75, e76, e77, e78]; exact ⟨e79, p80, p55, p56⟩)) e74 rfl rfl rfl ⟨by decide, by decide⟩ (Nat.le_of_ble_eq_true rfl) dX3_readWaterRule_76 ⟨(by decide), (by decide)⟩) (fun r81 h82 f84 K83 => ?_)
        obtain ⟨O85, F86, f87, p88⟩ := K83
        have e89 : Rv h82 a0 13 = v1 := ((fxR F86 e74 rfl).trans e75)
        obtain ⟨v90, e91⟩ : ∃ z, Iv h82 a0 4 = z := ⟨_, rfl⟩
        have e92 : Tg h82 a0 = 4 := (fxT F86 e74)
        have f93 := ok_I O85 e92 rI_4_4 e91
        obtain ⟨v94, e95⟩ : ∃ z, Jv h82 a0 5 = z := ⟨_, rfl⟩
        have f96 := inL_J O85 e95
        obtain ⟨v97, e98⟩ : ∃ z, Rv h82 a0 6 = z := ⟨_, rfl⟩
        have p99 := p88.2.2.1
        rw [e91, e95] at p99
        have p100 := p88.2.2.2
        rw [e98] at p100
        have e101 : Tg h82 v1 = 2006 := (fxT F86 e79)
        exact g_iret C hr (nar_z2 f87).1 (iw f87 (by decide) (by decide)) ⟨O85, (((((Fx.rf (wr := wr_k_X3_readWaterRule)).call F21 rfl).call F41 rfl).pI e65 hh71 rfl).call F86 rfl), f87, (by unfold RInv; rw [e89, e91, e95, e98]; exact ⟨e101, p88.2.1, p99, p100⟩)⟩ (by decide) (by decide) dX3_readWaterRule_79
      · exact (no_ne (il 0) (il 0) q64 (by decide)).elim
    · have f102 : (0 : Int) ≤ r36 ∧ r36 ≤ (0 : Int) := ii f42 (r_eq (il 0) q61) (by decide) (by decide)
      refine g_iconst C dX3_readWaterRule_28 ?_
      have e103 : Tg h37 v1 = 2006 := (fxT F41 e35)
      exact g_iret C hr (nar_z2 (iw (il 0) (by decide) (by decide))).1 (iw (il 0) (by decide) (by decide)) ⟨O40, (((Fx.rf (wr := wr_k_X3_readWaterRule)).call F21 rfl).call F41 rfl), (iw (il 0) (by decide) (by decide)), (by unfold RInv; rw [e45, e47, e51, e54]; exact ⟨e103, p43.2.1, p55, p56⟩)⟩ (by decide) (by decide) dX3_readWaterRule_29
  · refine g_iconst C dX3_readWaterRule_10 ?_
    refine g_goto C 15 (by decide) dX3_readWaterRule_11 ?_
    refine g_istore_n C [(1, .inl 1), (0, .inr (.inr a0))] rfl (by decide) rfl dX3_readWaterRule_15 ?_
    refine g_aload_n C rfl 1 rfl dX3_readWaterRule_16 ?_
    refine g_callV (st := []) (gc_V C lk_LandSurvey_Reader_46 (k_X3_advance l D cy w z0 O ta0 (by unfold RInv; rw [e2, e5, e8, e11]; exact ⟨t3, P_RInv.2.1, p12, p13⟩)) ta0 rfl rfl rfl ⟨by decide, by decide⟩ (Nat.le_of_ble_eq_true rfl) dX3_readWaterRule_17 ⟨(by decide), (by decide)⟩) (fun h105 K106 => ?_)
    obtain ⟨O108, F109, p110⟩ := K106
    have e111 : Rv h105 a0 13 = v1 := ((fxR F109 ta0 rfl).trans e2)
    obtain ⟨v112, e113⟩ : ∃ z, Iv h105 a0 4 = z := ⟨_, rfl⟩
    have e114 : Tg h105 a0 = 4 := (fxT F109 ta0)
    have f115 := ok_I O108 e114 rI_4_4 e113
    obtain ⟨v116, e117⟩ : ∃ z, Jv h105 a0 5 = z := ⟨_, rfl⟩
    have f118 := inL_J O108 e117
    obtain ⟨v119, e120⟩ : ∃ z, Rv h105 a0 6 = z := ⟨_, rfl⟩
    have p121 := p110.2.2.1
    rw [e113, e117] at p121
    have p122 := p110.2.2.2
    rw [e120] at p122
    refine g_aload_n C rfl 1 rfl dX3_readWaterRule_20 ?_
    refine g_iconst C dX3_readWaterRule_21 ?_
    have e123 : Tg h105 v1 = 2006 := (fxT F109 t3)
    refine g_callI (st := []) (gc_V C lk_LandSurvey_Reader_122 (k_X3_takeRockNotYounger l D cy w z0 O108 e114 (iw (il 0) (by decide) (by decide)) (by unfold RInv; rw [e111, e113, e117, e120]; exact ⟨e123, p110.2.1, p121, p122⟩)) e114 rfl rfl rfl ⟨by decide, by decide⟩ (Nat.le_of_ble_eq_true rfl) dX3_readWaterRule_22 ⟨(by decide), (by decide)⟩) (fun r124 h125 f127 K126 => ?_)
    obtain ⟨O128, F129, f130, p131, p132⟩ := K126
    have e133 : Rv h125 a0 13 = v1 := ((fxR F129 e114 rfl).trans e111)
    obtain ⟨v134, e135⟩ : ∃ z, Iv h125 a0 4 = z := ⟨_, rfl⟩
    have e136 : Tg h125 a0 = 4 := (fxT F129 e114)
    have f137 := ok_I O128 e136 rI_4_4 e135
    obtain ⟨v138, e139⟩ : ∃ z, Jv h125 a0 5 = z := ⟨_, rfl⟩
    have f140 := inL_J O128 e139
    obtain ⟨v141, e142⟩ : ∃ z, Rv h125 a0 6 = z := ⟨_, rfl⟩
    have p143 := p131.2.2.1
    rw [e135, e139] at p143
    have p144 := p131.2.2.2
    rw [e142] at p144
    obtain ⟨v145, e146⟩ : ∃ z, Iv h125 a0 8 = z := ⟨_, rfl⟩
    have f147 := ok_I O128 e136 rI_4_8 e146
    rw [e146] at p132
    refine g_if_ne C (iw f130 (by decide) (by decide)) 30 (by decide) dX3_readWaterRule_25 (fun q148 => ?_) (fun q149 => ?_)
    · have f150 : (1 : Int) ≤ r124 ∧ r124 ≤ (1 : Int) := r_nl f130 q148
      refine g_iload_n C rfl 0 rfl dX3_readWaterRule_30 ?_
      refine g_if_eq C (iw (il 1) (by decide) (by decide)) 55 (by decide) dX3_readWaterRule_31 (fun q151 => ?_) (fun q152 => ?_)
      · exact (no_eq (il 1) (il 0) q151 (by decide)).elim
      · refine g_aload_n C rfl 1 rfl dX3_readWaterRule_34 ?_
        refine gf_R C fk_LandSurvey_Reader_26 rfl e136 e133 dX3_readWaterRule_35 ?_
        refine g_dup C rfl dX3_readWaterRule_38 ?_
        have e153 : Tg h125 v1 = 2006 := (fxT F129 e123)
        obtain ⟨v154, e155⟩ : ∃ z, Iv h125 v1 9 = z := ⟨_, rfl⟩
        have f156 := ok_I O128 e153 rI_2006_9 e155
        refine gf_I C fk_LandSurvey_Reader_208 rfl e153 e155 dX3_readWaterRule_39 ?_
        refine g_iconst C dX3_readWaterRule_42 ?_
        refine g_aload_n C rfl 1 rfl dX3_readWaterRule_43 ?_
        refine gf_I C fk_LandSurvey_Reader_103 rfl e136 e146 dX3_readWaterRule_44 ?_
        refine g_ishl C dX3_readWaterRule_47 ?_
        have f157 : (-2147483648 : Int) ≤ (bShl 1 v145) ∧ (bShl 1 v145) ≤ (2147483647 : Int) := inR_of _
        refine g_ior C dX3_readWaterRule_48 ?_
        have f158 : (-2147483648 : Int) ≤ (bOr v154 (bShl 1 v145)) ∧ (bOr v154 (bShl 1 v145)) ≤ (2147483647 : Int) := inR_of _
        refine gp_I C fk_LandSurvey_Reader_208 pk_LandSurvey_Rules_9 rfl e153 f158 (nf_i _) dX3_readWaterRule_49 (fun h160 hh159 => ?_)
        have O161 := O128.pI e153 hh159 rI_2006_9 f158 nofun
        refine g_goto C 73 (by decide) dX3_readWaterRule_52 ?_
        refine g_aload_n C rfl 1 rfl dX3_readWaterRule_73 ?_
        refine g_bipush C (by decide) dX3_readWaterRule_74 ?_
        have e162 : Tg h160 a0 = 4 := ((pIT hh159).trans e136)
        have e163 : Rv h160 a0 13 = v1 := ((pIR hh159).trans e133)
        have e164 : Iv h160 a0 4 = v134 := ((pI_n hh159 (ne_tag e136 e153 (by decide))).trans e135)
        have e165 : Jv h160 a0 5 = v138 := ((pIJ hh159).trans e139)
        have e166 : Rv h160 a0 6 = v141 := ((pIR hh159).trans e142)
        have e167 : Tg h160 v1 = 2006 := ((pIT hh159).trans e153)
        have p168 := (DOk_fx O128 ((Fx.rf (wr := [401209]) (h := h125)).pI e153 hh159 rfl) e136 (by rw [e133]; exact e153) rfl p131.2.1)
        refine g_callI (st := []) (gc_V C lk_LandSurvey_Reader_169 (k_X3_takeOnly l D cy w z0 O161 e162 (iw (il 59) (by decide) (by decide)) (by unfold RInv; rw [e163, e164, e165, e166]; exact ⟨e167, p168, p143, p144⟩)) e162 rfl rfl rfl ⟨by decide, by decide⟩ (Nat.le_of_ble_eq_true rfl) dX3_readWaterRule_76 ⟨(by decide), (by decide)⟩) (fun r169 h170 f172 K171 => ?_)
        obtain ⟨O173, F174, f175, p176⟩ := K171
        have e177 : Rv h170 a0 13 = v1 := ((fxR F174 e162 rfl).trans e163)
        obtain ⟨v178, e179⟩ : ∃ z, Iv h170 a0 4 = z := ⟨_, rfl⟩
        have e180 : Tg h170 a0 = 4 := (fxT F174 e162)
        have f181 := ok_I O173 e180 rI_4_4 e179
        obtain ⟨v182, e183⟩ : ∃ z, Jv h170 a0 5 = z := ⟨_, rfl⟩
        have f184 := inL_J O173 e183
        obtain ⟨v185, e186⟩ : ∃ z, Rv h170 a0 6 = z := ⟨_, rfl⟩
        have p187 := p176.2.2.1
        rw [e179, e183] at p187
        have p188 := p176.2.2.2
        rw [e186] at p188
        have e189 : Tg h170 v1 = 2006 := (fxT F174 e167)
        exact g_iret C hr (nar_z2 f175).1 (iw f175 (by decide) (by decide)) ⟨O173, (((((Fx.rf (wr := wr_k_X3_readWaterRule)).call F109 rfl).call F129 rfl).pI e153 hh159 rfl).call F174 rfl), f175, (by unfold RInv; rw [e177, e179, e183, e186]; exact ⟨e189, p176.2.1, p187, p188⟩)⟩ (by decide) (by decide) dX3_readWaterRule_79
    · have f190 : (0 : Int) ≤ r124 ∧ r124 ≤ (0 : Int) := ii f130 (r_eq (il 0) q149) (by decide) (by decide)
      refine g_iconst C dX3_readWaterRule_28 ?_
      have e191 : Tg h125 v1 = 2006 := (fxT F129 e123)
      exact g_iret C hr (nar_z2 (iw (il 0) (by decide) (by decide))).1 (iw (il 0) (by decide) (by decide)) ⟨O128, (((Fx.rf (wr := wr_k_X3_readWaterRule)).call F109 rfl).call F129 rfl), (iw (il 0) (by decide) (by decide)), (by unfold RInv; rw [e133, e135, e139, e142]; exact ⟨e191, p131.2.1, p143, p144⟩)⟩ (by decide) (by decide) dX3_readWaterRule_29
def wr_k_X3_readSlopeRule : List Nat := [802, 803, 804, 805, 806, 807, 808, 809, 810, 401207, 401208]
set_option maxRecDepth 100000 in
set_option maxHeartbeats 4000000 in
theorem k_X3_readSlopeRule (l : Launch) (D : va_G) (cy : Nat → ClassId) (w : Nat → Nat) (z0 : Nat)  {h : Hp} {a0 : Nat}  (O : Okh h) (ta0 : Tg h a0 = 4) (P_RInv : RInv w h a0) : MI l D cy w z0 yX3_readSlopeRule cX3_readSlopeRule 2 (some .boolean) 6 134 0 0 [.inr (.inr a0)] h (fun v h1 => Okh h1 ∧ Fx wr_k_X3_readSlopeRule h h1 ∧ (0 ≤ v ∧ v ≤ 1) ∧ (RInv w h1 a0)) := by
  obtain ⟨v1, e2⟩ : ∃ z, Rv h a0 13 = z := ⟨_, rfl⟩
  have t3 := P_RInv.1
  rw [e2] at t3
  obtain ⟨v4, e5⟩ : ∃ z, Iv h a0 4 = z := ⟨_, rfl⟩
  have f6 := ok_I O ta0 rI_4_4 e5
  obtain ⟨v7, e8⟩ : ∃ z, Jv h a0 5 = z := ⟨_, rfl⟩
  have f9 := inL_J O e8
  obtain ⟨v10, e11⟩ : ∃ z, Rv h a0 6 = z := ⟨_, rfl⟩
  have p12 := P_RInv.2.2.1
  rw [e5, e8] at p12
  have p13 := P_RInv.2.2.2
  rw [e11] at p13
  refine hm_go (by decide +kernel) (Nat.le_of_ble_eq_true rfl) (fun p e s m below meth c C hr hn => ?_)
  refine g_aload_n C rfl 0 rfl dX3_readSlopeRule_0 ?_
  refine gf_R C fk_LandSurvey_Reader_69 rfl ta0 e11 dX3_readSlopeRule_1 ?_
  refine g_gets (x := .inr (.inr (w 9 + 1))) C (C.2.2.2.2.2.2.1.1 9 (by decide)).1 kw_883 dX3_readSlopeRule_4 ?_
  refine g_acmp_ne C 14 (by decide) dX3_readSlopeRule_7 (fun q14 => ?_) (fun q15 => ?_)
  · refine g_iconst C dX3_readSlopeRule_14 ?_
    refine g_istore_n C [(1, .inl 0), (0, .inr (.inr a0))] rfl (by decide) rfl dX3_readSlopeRule_15 ?_
    refine g_iload_n C rfl 0 rfl dX3_readSlopeRule_16 ?_
    refine g_if_ne C (iw (il 0) (by decide) (by decide)) 36 (by decide) dX3_readSlopeRule_17 (fun q16 => ?_) (fun q17 => ?_)
    · exact (no_ne (il 0) (il 0) q16 (by decide)).elim
    · refine g_aload_n C rfl 1 rfl dX3_readSlopeRule_20 ?_
      refine gf_R C fk_LandSurvey_Reader_69 rfl ta0 e11 dX3_readSlopeRule_21 ?_
      refine g_gets (x := .inr (.inr (w 10 + 1))) C (C.2.2.2.2.2.2.1.1 10 (by decide)).1 kw_885 dX3_readSlopeRule_24 ?_
      refine g_acmp_eq C 36 (by decide) dX3_readSlopeRule_27 (fun q18 => ?_) (fun q19 => ?_)
      · refine g_iload_n C rfl 0 rfl dX3_readSlopeRule_36 ?_
        refine g_if_eq C (iw (il 0) (by decide) (by decide)) 50 (by decide) dX3_readSlopeRule_37 (fun q20 => ?_) (fun q21 => ?_)
        · refine g_aload_n C rfl 1 rfl dX3_readSlopeRule_50 ?_
          obtain ⟨v22, e23⟩ : ∃ z, Iv h a0 10 = z := ⟨_, rfl⟩
          have f24 := ok_I O ta0 rI_4_10 e23
          refine gf_I C fk_LandSurvey_Reader_43 rfl ta0 e23 dX3_readSlopeRule_51 ?_
          refine g_if_eq C (iw f24 (by decide) (by decide)) 63 (by decide) dX3_readSlopeRule_54 (fun q25 => ?_) (fun q26 => ?_)
          · have f27 : (0 : Int) ≤ v22 ∧ v22 ≤ (0 : Int) := ii f24 (r_eq (il 0) q25) (by decide) (by decide)
            refine g_aload_n C rfl 1 rfl dX3_readSlopeRule_63 ?_
            refine g_callV (st := []) (gc_V C lk_LandSurvey_Reader_46 (k_X3_advance l D cy w z0 O ta0 (by unfold RInv; rw [e2, e5, e8, e11]; exact ⟨t3, P_RInv.2.1, p12, p13⟩)) ta0 rfl rfl rfl ⟨by decide, by decide⟩ (Nat.le_of_ble_eq_true rfl) dX3_readSlopeRule_64 ⟨(by decide), (by decide)⟩) (fun h29 K30 => ?_)
            obtain ⟨O32, F33, p34⟩ := K30
            have e35 : Rv h29 a0 13 = v1 := ((fxR F33 ta0 rfl).trans e2)
            obtain ⟨v36, e37⟩ : ∃ z, Iv h29 a0 4 = z := ⟨_, rfl⟩
            have e38 : Tg h29 a0 = 4 := (fxT F33 ta0)
            have f39 := ok_I O32 e38 rI_4_4 e37
            obtain ⟨v40, e41⟩ : ∃ z, Jv h29 a0 5 = z := ⟨_, rfl⟩
            have f42 := inL_J O32 e41
            obtain ⟨v43, e44⟩ : ∃ z, Rv h29 a0 6 = z := ⟨_, rfl⟩
            have p45 := p34.2.2.1
            rw [e37, e41] at p45
            have p46 := p34.2.2.2
            rw [e44] at p46
            refine g_aload_n C rfl 1 rfl dX3_readSlopeRule_67 ?_
            refine g_iconst C dX3_readSlopeRule_68 ?_
            refine g_bipush C (by decide) dX3_readSlopeRule_69 ?_
            have e47 : Tg h29 v1 = 2006 := (fxT F33 t3)
            refine g_callI (st := []) (gc_V C lk_LandSurvey_Reader_131 (k_X3_takeNumberWithin l D cy w z0 O32 e38 (iw (il 0) (by decide) (by decide)) (iw (il 99) (by decide) (by decide)) (by unfold RInv; rw [e35, e37, e41, e44]; exact ⟨e47, p34.2.1, p45, p46⟩)) e38 rfl rfl rfl ⟨by decide, by decide⟩ (Nat.le_of_ble_eq_true rfl) dX3_readSlopeRule_71 ⟨(by decide), (by decide)⟩) (fun r48 h49 f51 K50 => ?_)
            obtain ⟨O52, F53, f54, p55, p56⟩ := K50
            have e57 : Rv h49 a0 13 = v1 := ((fxR F53 e38 rfl).trans e35)
            obtain ⟨v58, e59⟩ : ∃ z, Iv h49 a0 4 = z := ⟨_, rfl⟩
            have e60 : Tg h49 a0 = 4 := (fxT F53 e38)
            have f61 := ok_I O52 e60 rI_4_4 e59
            obtain ⟨v62, e63⟩ : ∃ z, Jv h49 a0 5 = z := ⟨_, rfl⟩
            have f64 := inL_J O52 e63
            obtain ⟨v65, e66⟩ : ∃ z, Rv h49 a0 6 = z := ⟨_, rfl⟩
            have p67 := p55.2.2.1
            rw [e59, e63] at p67
            have p68 := p55.2.2.2
            rw [e66] at p68
            obtain ⟨v69, e70⟩ : ∃ z, Iv h49 a0 8 = z := ⟨_, rfl⟩
            have f71 := ok_I O52 e60 rI_4_8 e70
            rw [e70] at p56
            refine g_if_ne C (iw f54 (by decide) (by decide)) 79 (by decide) dX3_readSlopeRule_74 (fun q72 => ?_) (fun q73 => ?_)
            · have f74 : (1 : Int) ≤ r48 ∧ r48 ≤ (1 : Int) := r_nl f54 q72
              refine g_iload_n C rfl 0 rfl dX3_readSlopeRule_79 ?_
              refine g_if_eq C (iw (il 0) (by decide) (by decide)) 102 (by decide) dX3_readSlopeRule_80 (fun q75 => ?_) (fun q76 => ?_)
              · refine g_aload_n C rfl 1 rfl dX3_readSlopeRule_102 ?_
                refine g_iconst C dX3_readSlopeRule_103 ?_
                refine gp_I C fk_LandSurvey_Reader_43 pk_LandSurvey_Reader_10 rfl e60 (iw (il 1) (by decide) (by decide)) (nar_z2 (iw (il 1) (by decide) (by decide))) dX3_readSlopeRule_104 (fun h78 hh77 => ?_)
                have O79 := O52.pI e60 hh77 rI_4_10 (iw (il 1) (by decide) (by decide)) nofun
                refine g_aload_n C rfl 1 rfl dX3_readSlopeRule_107 ?_
                have e80 : Tg h78 a0 = 4 := ((pIT hh77).trans e60)
                have e81 : Rv h78 a0 13 = v1 := ((pIR hh77).trans e57)
                refine gf_R C fk_LandSurvey_Reader_26 rfl e80 e81 dX3_readSlopeRule_108 ?_
                refine g_aload_n C rfl 1 rfl dX3_readSlopeRule_111 ?_
                have e82 : Iv h78 a0 8 = v69 := ((pI_j hh77 (by decide)).trans e70)
                refine gf_I C fk_LandSurvey_Reader_103 rfl e80 e82 dX3_readSlopeRule_112 ?_
                have e83 : Tg h78 v1 = 2006 := ((pIT hh77).trans (fxT F53 e47))
                refine gp_I C fk_LandSurvey_Reader_223 pk_LandSurvey_Rules_8 rfl e83 f71 (nf_i _) dX3_readSlopeRule_115 (fun h85 hh84 => ?_)
                have O86 := O79.pI e83 hh84 rI_2006_8 (by omega) nofun
                refine g_aload_n C rfl 1 rfl dX3_readSlopeRule_118 ?_
                refine g_bipush C (by decide) dX3_readSlopeRule_119 ?_
                have e87 : Tg h85 a0 = 4 := ((pIT hh84).trans e80)
                have e88 : Rv h85 a0 13 = v1 := ((pIR hh84).trans e81)
                have e89 : Iv h85 a0 4 = v58 := ((pI_n hh84 (ne_tag e80 e83 (by decide))).trans ((pI_j hh77 (by decide)).trans e59))
                have e90 : Jv h85 a0 5 = v62 := ((pIJ hh84).trans ((pIJ hh77).trans e63))
                have e91 : Rv h85 a0 6 = v65 := ((pIR hh84).trans ((pIR hh77).trans e66))
                have e92 : Tg h85 v1 = 2006 := ((pIT hh84).trans e83)
                have e93 : Tg h49 v1 = 2006 := (fxT F53 e47)
                have p94 := (DOk_fx O79 ((Fx.rf (wr := [401208]) (h := h78)).pI e83 hh84 rfl) e80 (by rw [e81]; exact e83) rfl (DOk_fx O52 ((Fx.rf (wr := [810]) (h := h49)).pI e60 hh77 rfl) e60 (by rw [e57]; exact e93) rfl p55.2.1))
                refine g_callI (st := []) (gc_V C lk_LandSurvey_Reader_169 (k_X3_takeOnly l D cy w z0 O86 e87 (iw (il 59) (by decide) (by decide)) (by unfold RInv; rw [e88, e89, e90, e91]; exact ⟨e92, p94, p67, p68⟩)) e87 rfl rfl rfl ⟨by decide, by decide⟩ (Nat.le_of_ble_eq_true rfl) dX3_readSlopeRule_121 ⟨(by decide), (by decide)⟩) (fun r95 h96 f98 K97 => ?_)
                obtain ⟨O99, F100, f101, p102⟩ := K97
                have e103 : Rv h96 a0 13 = v1 := ((fxR F100 e87 rfl).trans e88)
                obtain ⟨v104, e105⟩ : ∃ z, Iv h96 a0 4 = z := ⟨_, rfl⟩
                have e106 : Tg h96 a0 = 4 := (fxT F100 e87)
                have f107 := ok_I O99 e106 rI_4_4 e105
                obtain ⟨v108, e109⟩ : ∃ z, Jv h96 a0 5 = z := ⟨_, rfl⟩
                have f110 := inL_J O99 e109
                obtain ⟨v111, e112⟩ : ∃ z, Rv h96 a0 6 = z := ⟨_, rfl⟩
                have p113 := p102.2.2.1
                rw [e105, e109] at p113
                have p114 := p102.2.2.2
                rw [e112] at p114
                have e115 : Tg h96 v1 = 2006 := (fxT F100 e92)
                exact g_iret C hr (nar_z2 f101).1 (iw f101 (by decide) (by decide)) ⟨O99, ((((((Fx.rf (wr := wr_k_X3_readSlopeRule)).call F33 rfl).call F53 rfl).pI e60 hh77 rfl).pI e83 hh84 rfl).call F100 rfl), f101, (by unfold RInv; rw [e103, e105, e109, e112]; exact ⟨e115, p102.2.1, p113, p114⟩)⟩ (by decide) (by decide) dX3_readSlopeRule_124
              · exact (no_ne (il 0) (il 0) q76 (by decide)).elim
            · have f116 : (0 : Int) ≤ r48 ∧ r48 ≤ (0 : Int) := ii f54 (r_eq (il 0) q73) (by decide) (by decide)
              refine g_iconst C dX3_readSlopeRule_77 ?_
              have e117 : Tg h49 v1 = 2006 := (fxT F53 e47)
              exact g_iret C hr (nar_z2 (iw (il 0) (by decide) (by decide))).1 (iw (il 0) (by decide) (by decide)) ⟨O52, (((Fx.rf (wr := wr_k_X3_readSlopeRule)).call F33 rfl).call F53 rfl), (iw (il 0) (by decide) (by decide)), (by unfold RInv; rw [e57, e59, e63, e66]; exact ⟨e117, p55.2.1, p67, p68⟩)⟩ (by decide) (by decide) dX3_readSlopeRule_78
          · have f118 : (1 : Int) ≤ v22 ∧ v22 ≤ (1 : Int) := r_nl f24 q26
            refine g_aload_n C rfl 1 rfl dX3_readSlopeRule_57 ?_
            refine g_iconst C dX3_readSlopeRule_58 ?_
            refine g_callI (st := []) (gc_V C lk_LandSurvey_Reader_99 (k_X3_wrong l D cy w z0 O ta0 (iw (il 3) (by decide) (by decide))) ta0 rfl rfl rfl ⟨by decide, by decide⟩ (Nat.le_of_ble_eq_true rfl) dX3_readSlopeRule_59 ⟨(by decide), (by decide)⟩) (fun r119 h120 f122 K121 => ?_)
            obtain ⟨O123, F124, f125⟩ := K121
            have e126 : Rv h120 a0 13 = v1 := ((fxR F124 ta0 rfl).trans e2)
            have e127 : Iv h120 a0 4 = v4 := ((fxI F124 ta0 rfl).trans e5)
            have e128 : Jv h120 a0 5 = v7 := ((fxJ F124 ta0 rfl).trans e8)
            have e129 : Rv h120 a0 6 = v10 := ((fxR F124 ta0 rfl).trans e11)
            have e130 : Tg h120 v1 = 2006 := (fxT F124 t3)
            have p131 := (DOk_fx O F124 ta0 (by rw [e2]; exact t3) rfl P_RInv.2.1)
            exact g_iret C hr (nar_z2 (iw f125 (by decide) (by decide))).1 (iw f125 (by decide) (by decide)) ⟨O123, ((Fx.rf (wr := wr_k_X3_readSlopeRule)).call F124 rfl), (iw f125 (by decide) (by decide)), (by unfold RInv; rw [e126, e127, e128, e129]; exact ⟨e130, p131, p12, p13⟩)⟩ (by decide) (by decide) dX3_readSlopeRule_62
        · exact (no_ne (il 0) (il 0) q21 (by decide)).elim
      · refine g_aload_n C rfl 1 rfl dX3_readSlopeRule_30 ?_
        refine g_iconst C dX3_readSlopeRule_31 ?_
        refine g_callI (st := []) (gc_V C lk_LandSurvey_Reader_99 (k_X3_wrong l D cy w z0 O ta0 (iw (il 1) (by decide) (by decide))) ta0 rfl rfl rfl ⟨by decide, by decide⟩ (Nat.le_of_ble_eq_true rfl) dX3_readSlopeRule_32 ⟨(by decide), (by decide)⟩) (fun r132 h133 f135 K134 => ?_)
        obtain ⟨O136, F137, f138⟩ := K134
        have e139 : Rv h133 a0 13 = v1 := ((fxR F137 ta0 rfl).trans e2)
        have e140 : Iv h133 a0 4 = v4 := ((fxI F137 ta0 rfl).trans e5)
        have e141 : Jv h133 a0 5 = v7 := ((fxJ F137 ta0 rfl).trans e8)
        have e142 : Rv h133 a0 6 = v10 := ((fxR F137 ta0 rfl).trans e11)
        have e143 : Tg h133 v1 = 2006 := (fxT F137 t3)
        have p144 := (DOk_fx O F137 ta0 (by rw [e2]; exact t3) rfl P_RInv.2.1)
        exact g_iret C hr (nar_z2 (iw f138 (by decide) (by decide))).1 (iw f138 (by decide) (by decide)) ⟨O136, ((Fx.rf (wr := wr_k_X3_readSlopeRule)).call F137 rfl), (iw f138 (by decide) (by decide)), (by unfold RInv; rw [e139, e140, e141, e142]; exact ⟨e143, p144, p12, p13⟩)⟩ (by decide) (by decide) dX3_readSlopeRule_35
  · refine g_iconst C dX3_readSlopeRule_10 ?_
    refine g_goto C 15 (by decide) dX3_readSlopeRule_11 ?_
    refine g_istore_n C [(1, .inl 1), (0, .inr (.inr a0))] rfl (by decide) rfl dX3_readSlopeRule_15 ?_
    refine g_iload_n C rfl 0 rfl dX3_readSlopeRule_16 ?_
    refine g_if_ne C (iw (il 1) (by decide) (by decide)) 36 (by decide) dX3_readSlopeRule_17 (fun q145 => ?_) (fun q146 => ?_)
    · refine g_iload_n C rfl 0 rfl dX3_readSlopeRule_36 ?_
      refine g_if_eq C (iw (il 1) (by decide) (by decide)) 50 (by decide) dX3_readSlopeRule_37 (fun q147 => ?_) (fun q148 => ?_)
      · exact (no_eq (il 1) (il 0) q147 (by decide)).elim
      · refine g_aload_n C rfl 1 rfl dX3_readSlopeRule_40 ?_
        obtain ⟨v149, e150⟩ : ∃ z, Iv h a0 9 = z := ⟨_, rfl⟩
        have f151 := ok_I O ta0 rI_4_9 e150
        refine gf_I C fk_LandSurvey_Reader_39 rfl ta0 e150 dX3_readSlopeRule_41 ?_
        refine g_if_eq C (iw f151 (by decide) (by decide)) 63 (by decide) dX3_readSlopeRule_44 (fun q152 => ?_) (fun q153 => ?_)
        · have f154 : (0 : Int) ≤ v149 ∧ v149 ≤ (0 : Int) := ii f151 (r_eq (il 0) q152) (by decide) (by decide)
          refine g_aload_n C rfl 1 rfl dX3_readSlopeRule_63 ?_
          refine g_callV (st := []) (gc_V C lk_LandSurvey_Reader_46 (k_X3_advance l D cy w z0 O ta0 (by unfold RInv; rw [e2, e5, e8, e11]; exact ⟨t3, P_RInv.2.1, p12, p13⟩)) ta0 rfl rfl rfl ⟨by decide, by decide⟩ (Nat.le_of_ble_eq_true rfl) dX3_readSlopeRule_64 ⟨(by decide), (by decide)⟩) (fun h156 K157 => ?_)
          obtain ⟨O159, F160, p161⟩ := K157
          have e162 : Rv h156 a0 13 = v1 := ((fxR F160 ta0 rfl).trans e2)
          obtain ⟨v163, e164⟩ : ∃ z, Iv h156 a0 4 = z := ⟨_, rfl⟩
          have e165 : Tg h156 a0 = 4 := (fxT F160 ta0)
          have f166 := ok_I O159 e165 rI_4_4 e164
          obtain ⟨v167, e168⟩ : ∃ z, Jv h156 a0 5 = z := ⟨_, rfl⟩
          have f169 := inL_J O159 e168
          obtain ⟨v170, e171⟩ : ∃ z, Rv h156 a0 6 = z := ⟨_, rfl⟩
          have p172 := p161.2.2.1
          rw [e164, e168] at p172
          have p173 := p161.2.2.2
          rw [e171] at p173
          refine g_aload_n C rfl 1 rfl dX3_readSlopeRule_67 ?_
          refine g_iconst C dX3_readSlopeRule_68 ?_
          refine g_bipush C (by decide) dX3_readSlopeRule_69 ?_
          have e174 : Tg h156 v1 = 2006 := (fxT F160 t3)
          refine g_callI (st := []) (gc_V C lk_LandSurvey_Reader_131 (k_X3_takeNumberWithin l D cy w z0 O159 e165 (iw (il 0) (by decide) (by decide)) (iw (il 99) (by decide) (by decide)) (by unfold RInv; rw [e162, e164, e168, e171]; exact ⟨e174, p161.2.1, p172, p173⟩)) e165 rfl rfl rfl ⟨by decide, by decide⟩ (Nat.le_of_ble_eq_true rfl) dX3_readSlopeRule_71 ⟨(by decide), (by decide)⟩) (fun r175 h176 f178 K177 => ?_)
          obtain ⟨O179, F180, f181, p182, p183⟩ := K177
          have e184 : Rv h176 a0 13 = v1 := ((fxR F180 e165 rfl).trans e162)
          obtain ⟨v185, e186⟩ : ∃ z, Iv h176 a0 4 = z := ⟨_, rfl⟩
          have e187 : Tg h176 a0 = 4 := (fxT F180 e165)
          have f188 := ok_I O179 e187 rI_4_4 e186
          obtain ⟨v189, e190⟩ : ∃ z, Jv h176 a0 5 = z := ⟨_, rfl⟩
          have f191 := inL_J O179 e190
          obtain ⟨v192, e193⟩ : ∃ z, Rv h176 a0 6 = z := ⟨_, rfl⟩
          have p194 := p182.2.2.1
          rw [e186, e190] at p194
          have p195 := p182.2.2.2
          rw [e193] at p195
          obtain ⟨v196, e197⟩ : ∃ z, Iv h176 a0 8 = z := ⟨_, rfl⟩
          have f198 := ok_I O179 e187 rI_4_8 e197
          rw [e197] at p183
          refine g_if_ne C (iw f181 (by decide) (by decide)) 79 (by decide) dX3_readSlopeRule_74 (fun q199 => ?_) (fun q200 => ?_)
          · have f201 : (1 : Int) ≤ r175 ∧ r175 ≤ (1 : Int) := r_nl f181 q199
            refine g_iload_n C rfl 0 rfl dX3_readSlopeRule_79 ?_
            refine g_if_eq C (iw (il 1) (by decide) (by decide)) 102 (by decide) dX3_readSlopeRule_80 (fun q202 => ?_) (fun q203 => ?_)
            · exact (no_eq (il 1) (il 0) q202 (by decide)).elim
            · refine g_aload_n C rfl 1 rfl dX3_readSlopeRule_83 ?_
              refine g_iconst C dX3_readSlopeRule_84 ?_
              refine gp_I C fk_LandSurvey_Reader_39 pk_LandSurvey_Reader_9 rfl e187 (iw (il 1) (by decide) (by decide)) (nar_z2 (iw (il 1) (by decide) (by decide))) dX3_readSlopeRule_85 (fun h205 hh204 => ?_)
              have O206 := O179.pI e187 hh204 rI_4_9 (iw (il 1) (by decide) (by decide)) nofun
              refine g_aload_n C rfl 1 rfl dX3_readSlopeRule_88 ?_
              have e207 : Tg h205 a0 = 4 := ((pIT hh204).trans e187)
              have e208 : Rv h205 a0 13 = v1 := ((pIR hh204).trans e184)
              refine gf_R C fk_LandSurvey_Reader_26 rfl e207 e208 dX3_readSlopeRule_89 ?_
              refine g_aload_n C rfl 1 rfl dX3_readSlopeRule_92 ?_
              have e209 : Iv h205 a0 8 = v196 := ((pI_j hh204 (by decide)).trans e197)
              refine gf_I C fk_LandSurvey_Reader_103 rfl e207 e209 dX3_readSlopeRule_93 ?_
              have e210 : Tg h205 v1 = 2006 := ((pIT hh204).trans (fxT F180 e174))
              refine gp_I C fk_LandSurvey_Reader_220 pk_LandSurvey_Rules_7 rfl e210 f198 (nf_i _) dX3_readSlopeRule_96 (fun h212 hh211 => ?_)
              have O213 := O206.pI e210 hh211 rI_2006_7 (by omega) nofun
              refine g_goto C 118 (by decide) dX3_readSlopeRule_99 ?_
              refine g_aload_n C rfl 1 rfl dX3_readSlopeRule_118 ?_
              refine g_bipush C (by decide) dX3_readSlopeRule_119 ?_
              have e214 : Tg h212 a0 = 4 := ((pIT hh211).trans e207)
              have e215 : Rv h212 a0 13 = v1 := ((pIR hh211).trans e208)
              have e216 : Iv h212 a0 4 = v185 := ((pI_n hh211 (ne_tag e207 e210 (by decide))).trans ((pI_j hh204 (by decide)).trans e186))
              have e217 : Jv h212 a0 5 = v189 := ((pIJ hh211).trans ((pIJ hh204).trans e190))
              have e218 : Rv h212 a0 6 = v192 := ((pIR hh211).trans ((pIR hh204).trans e193))
              have e219 : Tg h212 v1 = 2006 := ((pIT hh211).trans e210)
              have e220 : Tg h176 v1 = 2006 := (fxT F180 e174)
              have p221 := (DOk_fx O206 ((Fx.rf (wr := [401207]) (h := h205)).pI e210 hh211 rfl) e207 (by rw [e208]; exact e210) rfl (DOk_fx O179 ((Fx.rf (wr := [809]) (h := h176)).pI e187 hh204 rfl) e187 (by rw [e184]; exact e220) rfl p182.2.1))
              refine g_callI (st := []) (gc_V C lk_LandSurvey_Reader_169 (k_X3_takeOnly l D cy w z0 O213 e214 (iw (il 59) (by decide) (by decide)) (by unfold RInv; rw [e215, e216, e217, e218]; exact ⟨e219, p221, p194, p195⟩)) e214 rfl rfl rfl ⟨by decide, by decide⟩ (Nat.le_of_ble_eq_true rfl) dX3_readSlopeRule_121 ⟨(by decide), (by decide)⟩) (fun r222 h223 f225 K224 => ?_)
              obtain ⟨O226, F227, f228, p229⟩ := K224
              have e230 : Rv h223 a0 13 = v1 := ((fxR F227 e214 rfl).trans e215)
              obtain ⟨v231, e232⟩ : ∃ z, Iv h223 a0 4 = z := ⟨_, rfl⟩
              have e233 : Tg h223 a0 = 4 := (fxT F227 e214)
              have f234 := ok_I O226 e233 rI_4_4 e232
              obtain ⟨v235, e236⟩ : ∃ z, Jv h223 a0 5 = z := ⟨_, rfl⟩
              have f237 := inL_J O226 e236
              obtain ⟨v238, e239⟩ : ∃ z, Rv h223 a0 6 = z := ⟨_, rfl⟩
              have p240 := p229.2.2.1
              rw [e232, e236] at p240
              have p241 := p229.2.2.2
              rw [e239] at p241
              have e242 : Tg h223 v1 = 2006 := (fxT F227 e219)
              exact g_iret C hr (nar_z2 f228).1 (iw f228 (by decide) (by decide)) ⟨O226, ((((((Fx.rf (wr := wr_k_X3_readSlopeRule)).call F160 rfl).call F180 rfl).pI e187 hh204 rfl).pI e210 hh211 rfl).call F227 rfl), f228, (by unfold RInv; rw [e230, e232, e236, e239]; exact ⟨e242, p229.2.1, p240, p241⟩)⟩ (by decide) (by decide) dX3_readSlopeRule_124
          · have f243 : (0 : Int) ≤ r175 ∧ r175 ≤ (0 : Int) := ii f181 (r_eq (il 0) q200) (by decide) (by decide)
            refine g_iconst C dX3_readSlopeRule_77 ?_
            have e244 : Tg h176 v1 = 2006 := (fxT F180 e174)
            exact g_iret C hr (nar_z2 (iw (il 0) (by decide) (by decide))).1 (iw (il 0) (by decide) (by decide)) ⟨O179, (((Fx.rf (wr := wr_k_X3_readSlopeRule)).call F160 rfl).call F180 rfl), (iw (il 0) (by decide) (by decide)), (by unfold RInv; rw [e184, e186, e190, e193]; exact ⟨e244, p182.2.1, p194, p195⟩)⟩ (by decide) (by decide) dX3_readSlopeRule_78
        · have f245 : (1 : Int) ≤ v149 ∧ v149 ≤ (1 : Int) := r_nl f151 q153
          refine g_goto C 57 (by decide) dX3_readSlopeRule_47 ?_
          refine g_aload_n C rfl 1 rfl dX3_readSlopeRule_57 ?_
          refine g_iconst C dX3_readSlopeRule_58 ?_
          refine g_callI (st := []) (gc_V C lk_LandSurvey_Reader_99 (k_X3_wrong l D cy w z0 O ta0 (iw (il 3) (by decide) (by decide))) ta0 rfl rfl rfl ⟨by decide, by decide⟩ (Nat.le_of_ble_eq_true rfl) dX3_readSlopeRule_59 ⟨(by decide), (by decide)⟩) (fun r246 h247 f249 K248 => ?_)
          obtain ⟨O250, F251, f252⟩ := K248
          have e253 : Rv h247 a0 13 = v1 := ((fxR F251 ta0 rfl).trans e2)
          have e254 : Iv h247 a0 4 = v4 := ((fxI F251 ta0 rfl).trans e5)
          have e255 : Jv h247 a0 5 = v7 := ((fxJ F251 ta0 rfl).trans e8)
          have e256 : Rv h247 a0 6 = v10 := ((fxR F251 ta0 rfl).trans e11)
          have e257 : Tg h247 v1 = 2006 := (fxT F251 t3)
          have p258 := (DOk_fx O F251 ta0 (by rw [e2]; exact t3) rfl P_RInv.2.1)
          exact g_iret C hr (nar_z2 (iw f252 (by decide) (by decide))).1 (iw f252 (by decide) (by decide)) ⟨O250, ((Fx.rf (wr := wr_k_X3_readSlopeRule)).call F251 rfl), (iw f252 (by decide) (by decide)), (by unfold RInv; rw [e253, e254, e255, e256]; exact ⟨e257, p258, p12, p13⟩)⟩ (by decide) (by decide) dX3_readSlopeRule_62
    · exact (no_eq (il 1) (il 0) q146 (by decide)).elim
def wr_k_X3_readRemain : List Nat := [802, 803, 804, 805, 806, 807, 808, 5620000, 5820000]
set_option maxRecDepth 100000 in
set_option maxHeartbeats 4000000 in
theorem k_X3_readRemain (l : Launch) (D : va_G) (cy : Nat → ClassId) (w : Nat → Nat) (z0 : Nat)  {h : Hp} {a0 : Nat}  (O : Okh h) (ta0 : Tg h a0 = 4) (P_RInv : RInv w h a0) : MI l D cy w z0 yX3_readRemain cX3_readRemain 3 (some .boolean) 6 134 0 0 [.inr (.inr a0)] h (fun v h1 => Okh h1 ∧ Fx wr_k_X3_readRemain h h1 ∧ (0 ≤ v ∧ v ≤ 1) ∧ (RInv w h1 a0)) := by
  obtain ⟨v1, e2⟩ : ∃ z, Rv h a0 13 = z := ⟨_, rfl⟩
  have t3 := P_RInv.1
  rw [e2] at t3
  obtain ⟨v4, e5⟩ : ∃ z, Iv h a0 4 = z := ⟨_, rfl⟩
  have f6 := ok_I O ta0 rI_4_4 e5
  obtain ⟨v7, e8⟩ : ∃ z, Jv h a0 5 = z := ⟨_, rfl⟩
  have f9 := inL_J O e8
  obtain ⟨v10, e11⟩ : ∃ z, Rv h a0 6 = z := ⟨_, rfl⟩
  have p12 := P_RInv.2.2.1
  rw [e5, e8] at p12
  have p13 := P_RInv.2.2.2
  rw [e11] at p13
  refine hm_go (by decide +kernel) (Nat.le_of_ble_eq_true rfl) (fun p e s m below meth c C hr hn => ?_)
  refine g_aload_n C rfl 0 rfl dX3_readRemain_0 ?_
  refine g_callV (st := []) (gc_V C lk_LandSurvey_Reader_46 (k_X3_advance l D cy w z0 O ta0 (by unfold RInv; rw [e2, e5, e8, e11]; exact ⟨t3, P_RInv.2.1, p12, p13⟩)) ta0 rfl rfl rfl ⟨by decide, by decide⟩ (Nat.le_of_ble_eq_true rfl) dX3_readRemain_1 ⟨(by decide), (by decide)⟩) (fun h15 K16 => ?_)
  obtain ⟨O18, F19, p20⟩ := K16
  have e21 : Rv h15 a0 13 = v1 := ((fxR F19 ta0 rfl).trans e2)
  obtain ⟨v22, e23⟩ : ∃ z, Iv h15 a0 4 = z := ⟨_, rfl⟩
  have e24 : Tg h15 a0 = 4 := (fxT F19 ta0)
  have f25 := ok_I O18 e24 rI_4_4 e23
  obtain ⟨v26, e27⟩ : ∃ z, Jv h15 a0 5 = z := ⟨_, rfl⟩
  have f28 := inL_J O18 e27
  obtain ⟨v29, e30⟩ : ∃ z, Rv h15 a0 6 = z := ⟨_, rfl⟩
  have p31 := p20.2.2.1
  rw [e23, e27] at p31
  have p32 := p20.2.2.2
  rw [e30] at p32
  refine g_aload_n C rfl 0 rfl dX3_readRemain_4 ?_
  refine gf_I C fk_LandSurvey_Reader_49 rfl e24 e23 dX3_readRemain_5 ?_
  refine g_iconst C dX3_readRemain_8 ?_
  refine g_icmp_ne C (iw f25 (by decide) (by decide)) (iw (il 2) (by decide) (by decide)) 46 (by decide) dX3_readRemain_9 (fun q33 => ?_) (fun q34 => ?_)
  · refine g_aload_n C rfl 0 rfl dX3_readRemain_46 ?_
    refine g_iconst C dX3_readRemain_47 ?_
    refine g_bipush C (by decide) dX3_readRemain_48 ?_
    have e35 : Tg h15 v1 = 2006 := (fxT F19 t3)
    refine g_callI (st := []) (gc_V C lk_LandSurvey_Reader_131 (k_X3_takeNumberWithin l D cy w z0 O18 e24 (iw (il 0) (by decide) (by decide)) (iw (il 9) (by decide) (by decide)) (by unfold RInv; rw [e21, e23, e27, e30]; exact ⟨e35, p20.2.1, p31, p32⟩)) e24 rfl rfl rfl ⟨by decide, by decide⟩ (Nat.le_of_ble_eq_true rfl) dX3_readRemain_50 ⟨(by decide), (by decide)⟩) (fun r36 h37 f39 K38 => ?_)
    obtain ⟨O40, F41, f42, p43, p44⟩ := K38
    have e45 : Rv h37 a0 13 = v1 := ((fxR F41 e24 rfl).trans e21)
    obtain ⟨v46, e47⟩ : ∃ z, Iv h37 a0 4 = z := ⟨_, rfl⟩
    have e48 : Tg h37 a0 = 4 := (fxT F41 e24)
    have f49 := ok_I O40 e48 rI_4_4 e47
    obtain ⟨v50, e51⟩ : ∃ z, Jv h37 a0 5 = z := ⟨_, rfl⟩
    have f52 := inL_J O40 e51
    obtain ⟨v53, e54⟩ : ∃ z, Rv h37 a0 6 = z := ⟨_, rfl⟩
    have p55 := p43.2.2.1
    rw [e47, e51] at p55
    have p56 := p43.2.2.2
    rw [e54] at p56
    obtain ⟨v57, e58⟩ : ∃ z, Iv h37 a0 8 = z := ⟨_, rfl⟩
    have f59 := ok_I O40 e48 rI_4_8 e58
    rw [e58] at p44
    refine g_if_ne C (iw f42 (by decide) (by decide)) 58 (by decide) dX3_readRemain_53 (fun q60 => ?_) (fun q61 => ?_)
    · have f62 : (1 : Int) ≤ r36 ∧ r36 ≤ (1 : Int) := r_nl f42 q60
      refine g_aload_n C rfl 0 rfl dX3_readRemain_58 ?_
      refine gf_I C fk_LandSurvey_Reader_103 rfl e48 e58 dX3_readRemain_59 ?_
      refine g_istore_n C [(1, .inl v57), (0, .inr (.inr a0))] rfl (by decide) rfl dX3_readRemain_62 ?_
      refine g_aload_n C rfl 1 rfl dX3_readRemain_63 ?_
      refine g_gets (x := .inr (.inr (w 14 + 1))) C (C.2.2.2.2.2.2.1.1 14 (by decide)).1 kw_869 dX3_readRemain_64 ?_
      have e63 : Tg h37 v1 = 2006 := (fxT F41 e35)
      refine g_callI (st := []) (gc_V C lk_LandSurvey_Reader_165 (k_X3_takeOnly_ l D cy w z0 (w 14 + 1) O40 e48 (by unfold RInv; rw [e45, e47, e51, e54]; exact ⟨e63, p43.2.1, p55, p56⟩)) e48 rfl rfl rfl ⟨by decide, by decide⟩ (Nat.le_of_ble_eq_true rfl) dX3_readRemain_67 ⟨(by decide), (by decide)⟩) (fun r64 h65 f67 K66 => ?_)
      obtain ⟨O68, F69, f70, p71⟩ := K66
      have e72 : Rv h65 a0 13 = v1 := ((fxR F69 e48 rfl).trans e45)
      obtain ⟨v73, e74⟩ : ∃ z, Iv h65 a0 4 = z := ⟨_, rfl⟩
      have e75 : Tg h65 a0 = 4 := (fxT F69 e48)
      have f76 := ok_I O68 e75 rI_4_4 e74
      obtain ⟨v77, e78⟩ : ∃ z, Jv h65 a0 5 = z := ⟨_, rfl⟩
      have f79 := inL_J O68 e78
      obtain ⟨v80, e81⟩ : ∃ z, Rv h65 a0 6 = z := ⟨_, rfl⟩
      have p82 := p71.2.2.1
      rw [e74, e78] at p82
      have p83 := p71.2.2.2
      rw [e81] at p83
      refine g_if_eq C (iw f70 (by decide) (by decide)) 81 (by decide) dX3_readRemain_70 (fun q84 => ?_) (fun q85 => ?_)
      · have f86 : (0 : Int) ≤ r64 ∧ r64 ≤ (0 : Int) := ii f70 (r_eq (il 0) q84) (by decide) (by decide)
        refine g_iconst C dX3_readRemain_81 ?_
        have e87 : Tg h65 v1 = 2006 := (fxT F69 e63)
        exact g_iret C hr (nar_z2 (iw (il 0) (by decide) (by decide))).1 (iw (il 0) (by decide) (by decide)) ⟨O68, ((((Fx.rf (wr := wr_k_X3_readRemain)).call F19 rfl).call F41 rfl).call F69 rfl), (iw (il 0) (by decide) (by decide)), (by unfold RInv; rw [e72, e74, e78, e81]; exact ⟨e87, p71.2.1, p82, p83⟩)⟩ (by decide) (by decide) dX3_readRemain_82
      · have f88 : (1 : Int) ≤ r64 ∧ r64 ≤ (1 : Int) := r_nl f70 q85
        refine g_aload_n C rfl 1 rfl dX3_readRemain_73 ?_
        refine g_iconst C dX3_readRemain_74 ?_
        have e89 : Tg h65 v1 = 2006 := (fxT F69 e63)
        refine g_callI (st := []) (gc_V C lk_LandSurvey_Reader_122 (k_X3_takeRockNotYounger l D cy w z0 O68 e75 (iw (il 0) (by decide) (by decide)) (by unfold RInv; rw [e72, e74, e78, e81]; exact ⟨e89, p71.2.1, p82, p83⟩)) e75 rfl rfl rfl ⟨by decide, by decide⟩ (Nat.le_of_ble_eq_true rfl) dX3_readRemain_75 ⟨(by decide), (by decide)⟩) (fun r90 h91 f93 K92 => ?_)
        obtain ⟨O94, F95, f96, p97, p98⟩ := K92
        have e99 : Rv h91 a0 13 = v1 := ((fxR F95 e75 rfl).trans e72)
        obtain ⟨v100, e101⟩ : ∃ z, Iv h91 a0 4 = z := ⟨_, rfl⟩
        have e102 : Tg h91 a0 = 4 := (fxT F95 e75)
        have f103 := ok_I O94 e102 rI_4_4 e101
        obtain ⟨v104, e105⟩ : ∃ z, Jv h91 a0 5 = z := ⟨_, rfl⟩
        have f106 := inL_J O94 e105
        obtain ⟨v107, e108⟩ : ∃ z, Rv h91 a0 6 = z := ⟨_, rfl⟩
        have p109 := p97.2.2.1
        rw [e101, e105] at p109
        have p110 := p97.2.2.2
        rw [e108] at p110
        obtain ⟨v111, e112⟩ : ∃ z, Iv h91 a0 8 = z := ⟨_, rfl⟩
        have f113 := ok_I O94 e102 rI_4_8 e112
        rw [e112] at p98
        refine g_if_ne C (iw f96 (by decide) (by decide)) 83 (by decide) dX3_readRemain_78 (fun q114 => ?_) (fun q115 => ?_)
        · have f116 : (1 : Int) ≤ r90 ∧ r90 ≤ (1 : Int) := r_nl f96 q114
          refine g_aload_n C rfl 1 rfl dX3_readRemain_83 ?_
          refine gf_I C fk_LandSurvey_Reader_103 rfl e102 e112 dX3_readRemain_84 ?_
          refine g_istore_n C [(2, .inl v111), (1, .inl v57), (0, .inr (.inr a0))] rfl (by decide) rfl dX3_readRemain_87 ?_
          refine g_aload_n C rfl 2 rfl dX3_readRemain_88 ?_
          refine g_gets (x := .inr (.inr (w 1 + 1))) C (C.2.2.2.2.2.2.1.1 1 (by decide)).1 kw_793 dX3_readRemain_89 ?_
          have e117 : Tg h91 v1 = 2006 := (fxT F95 e89)
          refine g_callI (st := []) (gc_V C lk_LandSurvey_Reader_165 (k_X3_takeOnly_ l D cy w z0 (w 1 + 1) O94 e102 (by unfold RInv; rw [e99, e101, e105, e108]; exact ⟨e117, p97.2.1, p109, p110⟩)) e102 rfl rfl rfl ⟨by decide, by decide⟩ (Nat.le_of_ble_eq_true rfl) dX3_readRemain_92 ⟨(by decide), (by decide)⟩) (fun r118 h119 f121 K120 => ?_)
          obtain ⟨O122, F123, f124, p125⟩ := K120
          have e126 : Rv h119 a0 13 = v1 := ((fxR F123 e102 rfl).trans e99)
          obtain ⟨v127, e128⟩ : ∃ z, Iv h119 a0 4 = z := ⟨_, rfl⟩
          have e129 : Tg h119 a0 = 4 := (fxT F123 e102)
          have f130 := ok_I O122 e129 rI_4_4 e128
          obtain ⟨v131, e132⟩ : ∃ z, Jv h119 a0 5 = z := ⟨_, rfl⟩
          have f133 := inL_J O122 e132
          obtain ⟨v134, e135⟩ : ∃ z, Rv h119 a0 6 = z := ⟨_, rfl⟩
          have p136 := p125.2.2.1
          rw [e128, e132] at p136
          have p137 := p125.2.2.2
          rw [e135] at p137
          refine g_if_eq C (iw f124 (by decide) (by decide)) 106 (by decide) dX3_readRemain_95 (fun q138 => ?_) (fun q139 => ?_)
          · have f140 : (0 : Int) ≤ r118 ∧ r118 ≤ (0 : Int) := ii f124 (r_eq (il 0) q138) (by decide) (by decide)
            refine g_iconst C dX3_readRemain_106 ?_
            have e141 : Tg h119 v1 = 2006 := (fxT F123 e117)
            exact g_iret C hr (nar_z2 (iw (il 0) (by decide) (by decide))).1 (iw (il 0) (by decide) (by decide)) ⟨O122, ((((((Fx.rf (wr := wr_k_X3_readRemain)).call F19 rfl).call F41 rfl).call F69 rfl).call F95 rfl).call F123 rfl), (iw (il 0) (by decide) (by decide)), (by unfold RInv; rw [e126, e128, e132, e135]; exact ⟨e141, p125.2.1, p136, p137⟩)⟩ (by decide) (by decide) dX3_readRemain_107
          · have f142 : (1 : Int) ≤ r118 ∧ r118 ≤ (1 : Int) := r_nl f124 q139
            refine g_aload_n C rfl 2 rfl dX3_readRemain_98 ?_
            refine g_iload_n C rfl 0 rfl dX3_readRemain_99 ?_
            have e143 : Tg h119 v1 = 2006 := (fxT F123 e117)
            refine g_callI (st := []) (gc_V C lk_LandSurvey_Reader_122 (k_X3_takeRockNotYounger l D cy w z0 O122 e129 f113 (by unfold RInv; rw [e126, e128, e132, e135]; exact ⟨e143, p125.2.1, p136, p137⟩)) e129 rfl rfl rfl ⟨by decide, by decide⟩ (Nat.le_of_ble_eq_true rfl) dX3_readRemain_100 ⟨(by decide), (by decide)⟩) (fun r144 h145 f147 K146 => ?_)
            obtain ⟨O148, F149, f150, p151, p152⟩ := K146
            have e153 : Rv h145 a0 13 = v1 := ((fxR F149 e129 rfl).trans e126)
            obtain ⟨v154, e155⟩ : ∃ z, Iv h145 a0 4 = z := ⟨_, rfl⟩
            have e156 : Tg h145 a0 = 4 := (fxT F149 e129)
            have f157 := ok_I O148 e156 rI_4_4 e155
            obtain ⟨v158, e159⟩ : ∃ z, Jv h145 a0 5 = z := ⟨_, rfl⟩
            have f160 := inL_J O148 e159
            obtain ⟨v161, e162⟩ : ∃ z, Rv h145 a0 6 = z := ⟨_, rfl⟩
            have p163 := p151.2.2.1
            rw [e155, e159] at p163
            have p164 := p151.2.2.2
            rw [e162] at p164
            obtain ⟨v165, e166⟩ : ∃ z, Iv h145 a0 8 = z := ⟨_, rfl⟩
            have f167 := ok_I O148 e156 rI_4_8 e166
            rw [e166] at p152
            refine g_if_ne C (iw f150 (by decide) (by decide)) 108 (by decide) dX3_readRemain_103 (fun q168 => ?_) (fun q169 => ?_)
            · have f170 : (1 : Int) ≤ r144 ∧ r144 ≤ (1 : Int) := r_nl f150 q168
              refine g_aload_n C rfl 2 rfl dX3_readRemain_108 ?_
              refine gf_R C fk_LandSurvey_Reader_26 rfl e156 e153 dX3_readRemain_109 ?_
              have e171 : Tg h145 v1 = 2006 := (fxT F149 e143)
              obtain ⟨v172, e173⟩ : ∃ z, Rv h145 v1 11 = z := ⟨_, rfl⟩
              have t174 := ok_R O148 e171 rE_2006_11 e173
              have l175 := ok_L O148 e171 rE_2006_11 e173
              refine gf_R C fk_LandSurvey_Reader_226 rfl e171 e173 dX3_readRemain_112 ?_
              refine g_iload_n C rfl 1 rfl dX3_readRemain_115 ?_
              refine g_iload_n C rfl 0 rfl dX3_readRemain_116 ?_
              refine g_iast C t174 rfl l175 (by omega) f113 dX3_readRemain_117 (fun h177 hh176 => ?_)
              have O178 := O148.pIa t174 ar_28100 hh176 rI_28100_0 (by omega) nofun
              refine g_aload_n C rfl 2 rfl dX3_readRemain_118 ?_
              have e179 : Tg h177 a0 = 4 := ((pIT hh176).trans e156)
              have e180 : Rv h177 a0 13 = v1 := ((pIR hh176).trans e153)
              refine gf_R C fk_LandSurvey_Reader_26 rfl e179 e180 dX3_readRemain_119 ?_
              have e181 : Tg h177 v1 = 2006 := ((pIT hh176).trans e171)
              obtain ⟨v182, e183⟩ : ∃ z, Rv h177 v1 12 = z := ⟨_, rfl⟩
              have t184 := ok_R O178 e181 rE_2006_12 e183
              have l185 := ok_L O178 e181 rE_2006_12 e183
              refine gf_R C fk_LandSurvey_Reader_232 rfl e181 e183 dX3_readRemain_122 ?_
              refine g_iload_n C rfl 1 rfl dX3_readRemain_125 ?_
              refine g_aload_n C rfl 2 rfl dX3_readRemain_126 ?_
              have e186 : Iv h177 a0 8 = v165 := ((pI_n hh176 (ne_tag e156 t174 (by decide))).trans e166)
              refine gf_I C fk_LandSurvey_Reader_103 rfl e179 e186 dX3_readRemain_127 ?_
              refine g_iast C t184 rfl l185 (by omega) f167 dX3_readRemain_130 (fun h188 hh187 => ?_)
              have O189 := O178.pIa t184 ar_29100 hh187 rI_29100_0 (by omega) nofun
              refine g_aload_n C rfl 2 rfl dX3_readRemain_131 ?_
              refine g_bipush C (by decide) dX3_readRemain_132 ?_
              have e190 : Tg h188 a0 = 4 := ((pIT hh187).trans e179)
              have e191 : Rv h188 a0 13 = v1 := ((pIR hh187).trans e180)
              have e192 : Iv h188 a0 4 = v154 := ((pI_n hh187 (ne_tag e179 t184 (by decide))).trans ((pI_n hh176 (ne_tag e156 t174 (by decide))).trans e155))
              have e193 : Jv h188 a0 5 = v158 := ((pIJ hh187).trans ((pIJ hh176).trans e159))
              have e194 : Rv h188 a0 6 = v161 := ((pIR hh187).trans ((pIR hh176).trans e162))
              have e195 : Tg h188 v1 = 2006 := ((pIT hh187).trans e181)
              have p196 := (DOk_fx O178 ((Fx.rf (wr := [5820000]) (h := h177)).pIa t184 ar_29100 hh187 rfl) e179 (by rw [e180]; exact e181) rfl (DOk_fx O148 ((Fx.rf (wr := [5620000]) (h := h145)).pIa t174 ar_28100 hh176 rfl) e156 (by rw [e153]; exact e171) rfl p151.2.1))
              refine g_callI (st := []) (gc_V C lk_LandSurvey_Reader_169 (k_X3_takeOnly l D cy w z0 O189 e190 (iw (il 59) (by decide) (by decide)) (by unfold RInv; rw [e191, e192, e193, e194]; exact ⟨e195, p196, p163, p164⟩)) e190 rfl rfl rfl ⟨by decide, by decide⟩ (Nat.le_of_ble_eq_true rfl) dX3_readRemain_134 ⟨(by decide), (by decide)⟩) (fun r197 h198 f200 K199 => ?_)
              obtain ⟨O201, F202, f203, p204⟩ := K199
              have e205 : Rv h198 a0 13 = v1 := ((fxR F202 e190 rfl).trans e191)
              obtain ⟨v206, e207⟩ : ∃ z, Iv h198 a0 4 = z := ⟨_, rfl⟩
              have e208 : Tg h198 a0 = 4 := (fxT F202 e190)
              have f209 := ok_I O201 e208 rI_4_4 e207
              obtain ⟨v210, e211⟩ : ∃ z, Jv h198 a0 5 = z := ⟨_, rfl⟩
              have f212 := inL_J O201 e211
              obtain ⟨v213, e214⟩ : ∃ z, Rv h198 a0 6 = z := ⟨_, rfl⟩
              have p215 := p204.2.2.1
              rw [e207, e211] at p215
              have p216 := p204.2.2.2
              rw [e214] at p216
              have e217 : Tg h198 v1 = 2006 := (fxT F202 e195)
              exact g_iret C hr (nar_z2 f203).1 (iw f203 (by decide) (by decide)) ⟨O201, ((((((((((Fx.rf (wr := wr_k_X3_readRemain)).call F19 rfl).call F41 rfl).call F69 rfl).call F95 rfl).call F123 rfl).call F149 rfl).pIa t174 ar_28100 hh176 rfl).pIa t184 ar_29100 hh187 rfl).call F202 rfl), f203, (by unfold RInv; rw [e205, e207, e211, e214]; exact ⟨e217, p204.2.1, p215, p216⟩)⟩ (by decide) (by decide) dX3_readRemain_137
            · have f218 : (0 : Int) ≤ r144 ∧ r144 ≤ (0 : Int) := ii f150 (r_eq (il 0) q169) (by decide) (by decide)
              refine g_iconst C dX3_readRemain_106 ?_
              have e219 : Tg h145 v1 = 2006 := (fxT F149 e143)
              exact g_iret C hr (nar_z2 (iw (il 0) (by decide) (by decide))).1 (iw (il 0) (by decide) (by decide)) ⟨O148, (((((((Fx.rf (wr := wr_k_X3_readRemain)).call F19 rfl).call F41 rfl).call F69 rfl).call F95 rfl).call F123 rfl).call F149 rfl), (iw (il 0) (by decide) (by decide)), (by unfold RInv; rw [e153, e155, e159, e162]; exact ⟨e219, p151.2.1, p163, p164⟩)⟩ (by decide) (by decide) dX3_readRemain_107
        · have f220 : (0 : Int) ≤ r90 ∧ r90 ≤ (0 : Int) := ii f96 (r_eq (il 0) q115) (by decide) (by decide)
          refine g_iconst C dX3_readRemain_81 ?_
          have e221 : Tg h91 v1 = 2006 := (fxT F95 e89)
          exact g_iret C hr (nar_z2 (iw (il 0) (by decide) (by decide))).1 (iw (il 0) (by decide) (by decide)) ⟨O94, (((((Fx.rf (wr := wr_k_X3_readRemain)).call F19 rfl).call F41 rfl).call F69 rfl).call F95 rfl), (iw (il 0) (by decide) (by decide)), (by unfold RInv; rw [e99, e101, e105, e108]; exact ⟨e221, p97.2.1, p109, p110⟩)⟩ (by decide) (by decide) dX3_readRemain_82
    · have f222 : (0 : Int) ≤ r36 ∧ r36 ≤ (0 : Int) := ii f42 (r_eq (il 0) q61) (by decide) (by decide)
      refine g_iconst C dX3_readRemain_56 ?_
      have e223 : Tg h37 v1 = 2006 := (fxT F41 e35)
      exact g_iret C hr (nar_z2 (iw (il 0) (by decide) (by decide))).1 (iw (il 0) (by decide) (by decide)) ⟨O40, (((Fx.rf (wr := wr_k_X3_readRemain)).call F19 rfl).call F41 rfl), (iw (il 0) (by decide) (by decide)), (by unfold RInv; rw [e45, e47, e51, e54]; exact ⟨e223, p43.2.1, p55, p56⟩)⟩ (by decide) (by decide) dX3_readRemain_57
  · have f224 : (2 : Int) ≤ v22 ∧ v22 ≤ (2 : Int) := ii f25 (r_eq (il 2) q34) (by decide) (by decide)
    have f225 : (0 : Int) ≤ v26 ∧ v26 ≤ (9999 : Int) := by omega
    refine g_aload_n C rfl 0 rfl dX3_readRemain_12 ?_
    refine gf_J C fk_LandSurvey_Reader_73 rfl e24 e27 dX3_readRemain_13 ?_
    refine g_ldc2 (z := 10) C kw_683 (by decide) dX3_readRemain_16 ?_
    refine g_lcmp C (iw f225 (by decide) (by decide)) (iw (il 10) (by decide) (by decide)) dX3_readRemain_19 ?_
    have f226 : (-1 : Int) ≤ (lC v26 10) ∧ (lC v26 10) ≤ (1 : Int) := lC_rng _ _
    refine g_if_ge C (iw f226 (by decide) (by decide)) 46 (by decide) dX3_readRemain_20 (fun q227 => ?_) (fun q228 => ?_)
    · have q229 : (10 : Int) ≤ v26 := lC_ge.mp q227
      have f230 : (10 : Int) ≤ v26 ∧ v26 ≤ (9999 : Int) := r_ge f225 (il 10) q229 (by decide) (by decide)
      refine g_aload_n C rfl 0 rfl dX3_readRemain_46 ?_
      refine g_iconst C dX3_readRemain_47 ?_
      refine g_bipush C (by decide) dX3_readRemain_48 ?_
      have e231 : Tg h15 v1 = 2006 := (fxT F19 t3)
      refine g_callI (st := []) (gc_V C lk_LandSurvey_Reader_131 (k_X3_takeNumberWithin l D cy w z0 O18 e24 (iw (il 0) (by decide) (by decide)) (iw (il 9) (by decide) (by decide)) (by unfold RInv; rw [e21, e23, e27, e30]; exact ⟨e231, p20.2.1, p31, p32⟩)) e24 rfl rfl rfl ⟨by decide, by decide⟩ (Nat.le_of_ble_eq_true rfl) dX3_readRemain_50 ⟨(by decide), (by decide)⟩) (fun r232 h233 f235 K234 => ?_)
      obtain ⟨O236, F237, f238, p239, p240⟩ := K234
      have e241 : Rv h233 a0 13 = v1 := ((fxR F237 e24 rfl).trans e21)
      obtain ⟨v242, e243⟩ : ∃ z, Iv h233 a0 4 = z := ⟨_, rfl⟩
      have e244 : Tg h233 a0 = 4 := (fxT F237 e24)
      have f245 := ok_I O236 e244 rI_4_4 e243
      obtain ⟨v246, e247⟩ : ∃ z, Jv h233 a0 5 = z := ⟨_, rfl⟩
      have f248 := inL_J O236 e247
      obtain ⟨v249, e250⟩ : ∃ z, Rv h233 a0 6 = z := ⟨_, rfl⟩
      have p251 := p239.2.2.1
      rw [e243, e247] at p251
      have p252 := p239.2.2.2
      rw [e250] at p252
      obtain ⟨v253, e254⟩ : ∃ z, Iv h233 a0 8 = z := ⟨_, rfl⟩
      have f255 := ok_I O236 e244 rI_4_8 e254
      rw [e254] at p240
      refine g_if_ne C (iw f238 (by decide) (by decide)) 58 (by decide) dX3_readRemain_53 (fun q256 => ?_) (fun q257 => ?_)
      · have f258 : (1 : Int) ≤ r232 ∧ r232 ≤ (1 : Int) := r_nl f238 q256
        refine g_aload_n C rfl 0 rfl dX3_readRemain_58 ?_
        refine gf_I C fk_LandSurvey_Reader_103 rfl e244 e254 dX3_readRemain_59 ?_
        refine g_istore_n C [(1, .inl v253), (0, .inr (.inr a0))] rfl (by decide) rfl dX3_readRemain_62 ?_
        refine g_aload_n C rfl 1 rfl dX3_readRemain_63 ?_
        refine g_gets (x := .inr (.inr (w 14 + 1))) C (C.2.2.2.2.2.2.1.1 14 (by decide)).1 kw_869 dX3_readRemain_64 ?_
        have e259 : Tg h233 v1 = 2006 := (fxT F237 e231)
        refine g_callI (st := []) (gc_V C lk_LandSurvey_Reader_165 (k_X3_takeOnly_ l D cy w z0 (w 14 + 1) O236 e244 (by unfold RInv; rw [e241, e243, e247, e250]; exact ⟨e259, p239.2.1, p251, p252⟩)) e244 rfl rfl rfl ⟨by decide, by decide⟩ (Nat.le_of_ble_eq_true rfl) dX3_readRemain_67 ⟨(by decide), (by decide)⟩) (fun r260 h261 f263 K262 => ?_)
        obtain ⟨O264, F265, f266, p267⟩ := K262
        have e268 : Rv h261 a0 13 = v1 := ((fxR F265 e244 rfl).trans e241)
        obtain ⟨v269, e270⟩ : ∃ z, Iv h261 a0 4 = z := ⟨_, rfl⟩
        have e271 : Tg h261 a0 = 4 := (fxT F265 e244)
        have f272 := ok_I O264 e271 rI_4_4 e270
        obtain ⟨v273, e274⟩ : ∃ z, Jv h261 a0 5 = z := ⟨_, rfl⟩
        have f275 := inL_J O264 e274
        obtain ⟨v276, e277⟩ : ∃ z, Rv h261 a0 6 = z := ⟨_, rfl⟩
        have p278 := p267.2.2.1
        rw [e270, e274] at p278
        have p279 := p267.2.2.2
        rw [e277] at p279
        refine g_if_eq C (iw f266 (by decide) (by decide)) 81 (by decide) dX3_readRemain_70 (fun q280 => ?_) (fun q281 => ?_)
        · have f282 : (0 : Int) ≤ r260 ∧ r260 ≤ (0 : Int) := ii f266 (r_eq (il 0) q280) (by decide) (by decide)
          refine g_iconst C dX3_readRemain_81 ?_
          have e283 : Tg h261 v1 = 2006 := (fxT F265 e259)
          exact g_iret C hr (nar_z2 (iw (il 0) (by decide) (by decide))).1 (iw (il 0) (by decide) (by decide)) ⟨O264, ((((Fx.rf (wr := wr_k_X3_readRemain)).call F19 rfl).call F237 rfl).call F265 rfl), (iw (il 0) (by decide) (by decide)), (by unfold RInv; rw [e268, e270, e274, e277]; exact ⟨e283, p267.2.1, p278, p279⟩)⟩ (by decide) (by decide) dX3_readRemain_82
        · have f284 : (1 : Int) ≤ r260 ∧ r260 ≤ (1 : Int) := r_nl f266 q281
          refine g_aload_n C rfl 1 rfl dX3_readRemain_73 ?_
          refine g_iconst C dX3_readRemain_74 ?_
          have e285 : Tg h261 v1 = 2006 := (fxT F265 e259)
          refine g_callI (st := []) (gc_V C lk_LandSurvey_Reader_122 (k_X3_takeRockNotYounger l D cy w z0 O264 e271 (iw (il 0) (by decide) (by decide)) (by unfold RInv; rw [e268, e270, e274, e277]; exact ⟨e285, p267.2.1, p278, p279⟩)) e271 rfl rfl rfl ⟨by decide, by decide⟩ (Nat.le_of_ble_eq_true rfl) dX3_readRemain_75 ⟨(by decide), (by decide)⟩) (fun r286 h287 f289 K288 => ?_)
          obtain ⟨O290, F291, f292, p293, p294⟩ := K288
          have e295 : Rv h287 a0 13 = v1 := ((fxR F291 e271 rfl).trans e268)
          obtain ⟨v296, e297⟩ : ∃ z, Iv h287 a0 4 = z := ⟨_, rfl⟩
          have e298 : Tg h287 a0 = 4 := (fxT F291 e271)
          have f299 := ok_I O290 e298 rI_4_4 e297
          obtain ⟨v300, e301⟩ : ∃ z, Jv h287 a0 5 = z := ⟨_, rfl⟩
          have f302 := inL_J O290 e301
          obtain ⟨v303, e304⟩ : ∃ z, Rv h287 a0 6 = z := ⟨_, rfl⟩
          have p305 := p293.2.2.1
          rw [e297, e301] at p305
          have p306 := p293.2.2.2
          rw [e304] at p306
          obtain ⟨v307, e308⟩ : ∃ z, Iv h287 a0 8 = z := ⟨_, rfl⟩
          have f309 := ok_I O290 e298 rI_4_8 e308
          rw [e308] at p294
          refine g_if_ne C (iw f292 (by decide) (by decide)) 83 (by decide) dX3_readRemain_78 (fun q310 => ?_) (fun q311 => ?_)
          · have f312 : (1 : Int) ≤ r286 ∧ r286 ≤ (1 : Int) := r_nl f292 q310
            refine g_aload_n C rfl 1 rfl dX3_readRemain_83 ?_
            refine gf_I C fk_LandSurvey_Reader_103 rfl e298 e308 dX3_readRemain_84 ?_
            refine g_istore_n C [(2, .inl v307), (1, .inl v253), (0, .inr (.inr a0))] rfl (by decide) rfl dX3_readRemain_87 ?_
            refine g_aload_n C rfl 2 rfl dX3_readRemain_88 ?_
            refine g_gets (x := .inr (.inr (w 1 + 1))) C (C.2.2.2.2.2.2.1.1 1 (by decide)).1 kw_793 dX3_readRemain_89 ?_
            have e313 : Tg h287 v1 = 2006 := (fxT F291 e285)
            refine g_callI (st := []) (gc_V C lk_LandSurvey_Reader_165 (k_X3_takeOnly_ l D cy w z0 (w 1 + 1) O290 e298 (by unfold RInv; rw [e295, e297, e301, e304]; exact ⟨e313, p293.2.1, p305, p306⟩)) e298 rfl rfl rfl ⟨by decide, by decide⟩ (Nat.le_of_ble_eq_true rfl) dX3_readRemain_92 ⟨(by decide), (by decide)⟩) (fun r314 h315 f317 K316 => ?_)
            obtain ⟨O318, F319, f320, p321⟩ := K316
            have e322 : Rv h315 a0 13 = v1 := ((fxR F319 e298 rfl).trans e295)
            obtain ⟨v323, e324⟩ : ∃ z, Iv h315 a0 4 = z := ⟨_, rfl⟩
            have e325 : Tg h315 a0 = 4 := (fxT F319 e298)
            have f326 := ok_I O318 e325 rI_4_4 e324
            obtain ⟨v327, e328⟩ : ∃ z, Jv h315 a0 5 = z := ⟨_, rfl⟩
            have f329 := inL_J O318 e328
            obtain ⟨v330, e331⟩ : ∃ z, Rv h315 a0 6 = z := ⟨_, rfl⟩
            have p332 := p321.2.2.1
            rw [e324, e328] at p332
            have p333 := p321.2.2.2
            rw [e331] at p333
            refine g_if_eq C (iw f320 (by decide) (by decide)) 106 (by decide) dX3_readRemain_95 (fun q334 => ?_) (fun q335 => ?_)
            · have f336 : (0 : Int) ≤ r314 ∧ r314 ≤ (0 : Int) := ii f320 (r_eq (il 0) q334) (by decide) (by decide)
              refine g_iconst C dX3_readRemain_106 ?_
              have e337 : Tg h315 v1 = 2006 := (fxT F319 e313)
              exact g_iret C hr (nar_z2 (iw (il 0) (by decide) (by decide))).1 (iw (il 0) (by decide) (by decide)) ⟨O318, ((((((Fx.rf (wr := wr_k_X3_readRemain)).call F19 rfl).call F237 rfl).call F265 rfl).call F291 rfl).call F319 rfl), (iw (il 0) (by decide) (by decide)), (by unfold RInv; rw [e322, e324, e328, e331]; exact ⟨e337, p321.2.1, p332, p333⟩)⟩ (by decide) (by decide) dX3_readRemain_107
            · have f338 : (1 : Int) ≤ r314 ∧ r314 ≤ (1 : Int) := r_nl f320 q335
              refine g_aload_n C rfl 2 rfl dX3_readRemain_98 ?_
              refine g_iload_n C rfl 0 rfl dX3_readRemain_99 ?_
              have e339 : Tg h315 v1 = 2006 := (fxT F319 e313)
              refine g_callI (st := []) (gc_V C lk_LandSurvey_Reader_122 (k_X3_takeRockNotYounger l D cy w z0 O318 e325 f309 (by unfold RInv; rw [e322, e324, e328, e331]; exact ⟨e339, p321.2.1, p332, p333⟩)) e325 rfl rfl rfl ⟨by decide, by decide⟩ (Nat.le_of_ble_eq_true rfl) dX3_readRemain_100 ⟨(by decide), (by decide)⟩) (fun r340 h341 f343 K342 => ?_)
              obtain ⟨O344, F345, f346, p347, p348⟩ := K342
              have e349 : Rv h341 a0 13 = v1 := ((fxR F345 e325 rfl).trans e322)
              obtain ⟨v350, e351⟩ : ∃ z, Iv h341 a0 4 = z := ⟨_, rfl⟩
              have e352 : Tg h341 a0 = 4 := (fxT F345 e325)
              have f353 := ok_I O344 e352 rI_4_4 e351
              obtain ⟨v354, e355⟩ : ∃ z, Jv h341 a0 5 = z := ⟨_, rfl⟩
              have f356 := inL_J O344 e355
              obtain ⟨v357, e358⟩ : ∃ z, Rv h341 a0 6 = z := ⟨_, rfl⟩
              have p359 := p347.2.2.1
              rw [e351, e355] at p359
              have p360 := p347.2.2.2
              rw [e358] at p360
              obtain ⟨v361, e362⟩ : ∃ z, Iv h341 a0 8 = z := ⟨_, rfl⟩
              have f363 := ok_I O344 e352 rI_4_8 e362
              rw [e362] at p348
              refine g_if_ne C (iw f346 (by decide) (by decide)) 108 (by decide) dX3_readRemain_103 (fun q364 => ?_) (fun q365 => ?_)
              · have f366 : (1 : Int) ≤ r340 ∧ r340 ≤ (1 : Int) := r_nl f346 q364
                refine g_aload_n C rfl 2 rfl dX3_readRemain_108 ?_
                refine gf_R C fk_LandSurvey_Reader_26 rfl e352 e349 dX3_readRemain_109 ?_
                have e367 : Tg h341 v1 = 2006 := (fxT F345 e339)
                obtain ⟨v368, e369⟩ : ∃ z, Rv h341 v1 11 = z := ⟨_, rfl⟩
                have t370 := ok_R O344 e367 rE_2006_11 e369
                have l371 := ok_L O344 e367 rE_2006_11 e369
                refine gf_R C fk_LandSurvey_Reader_226 rfl e367 e369 dX3_readRemain_112 ?_
                refine g_iload_n C rfl 1 rfl dX3_readRemain_115 ?_
                refine g_iload_n C rfl 0 rfl dX3_readRemain_116 ?_
                refine g_iast C t370 rfl l371 (by omega) f309 dX3_readRemain_117 (fun h373 hh372 => ?_)
                have O374 := O344.pIa t370 ar_28100 hh372 rI_28100_0 (by omega) nofun
                refine g_aload_n C rfl 2 rfl dX3_readRemain_118 ?_
                have e375 : Tg h373 a0 = 4 := ((pIT hh372).trans e352)
                have e376 : Rv h373 a0 13 = v1 := ((pIR hh372).trans e349)
                refine gf_R C fk_LandSurvey_Reader_26 rfl e375 e376 dX3_readRemain_119 ?_
                have e377 : Tg h373 v1 = 2006 := ((pIT hh372).trans e367)
                obtain ⟨v378, e379⟩ : ∃ z, Rv h373 v1 12 = z := ⟨_, rfl⟩
                have t380 := ok_R O374 e377 rE_2006_12 e379
                have l381 := ok_L O374 e377 rE_2006_12 e379
                refine gf_R C fk_LandSurvey_Reader_232 rfl e377 e379 dX3_readRemain_122 ?_
                refine g_iload_n C rfl 1 rfl dX3_readRemain_125 ?_
                refine g_aload_n C rfl 2 rfl dX3_readRemain_126 ?_
                have e382 : Iv h373 a0 8 = v361 := ((pI_n hh372 (ne_tag e352 t370 (by decide))).trans e362)
                refine gf_I C fk_LandSurvey_Reader_103 rfl e375 e382 dX3_readRemain_127 ?_
                refine g_iast C t380 rfl l381 (by omega) f363 dX3_readRemain_130 (fun h384 hh383 => ?_)
                have O385 := O374.pIa t380 ar_29100 hh383 rI_29100_0 (by omega) nofun
                refine g_aload_n C rfl 2 rfl dX3_readRemain_131 ?_
                refine g_bipush C (by decide) dX3_readRemain_132 ?_
                have e386 : Tg h384 a0 = 4 := ((pIT hh383).trans e375)
                have e387 : Rv h384 a0 13 = v1 := ((pIR hh383).trans e376)
                have e388 : Iv h384 a0 4 = v350 := ((pI_n hh383 (ne_tag e375 t380 (by decide))).trans ((pI_n hh372 (ne_tag e352 t370 (by decide))).trans e351))
                have e389 : Jv h384 a0 5 = v354 := ((pIJ hh383).trans ((pIJ hh372).trans e355))
                have e390 : Rv h384 a0 6 = v357 := ((pIR hh383).trans ((pIR hh372).trans e358))
                have e391 : Tg h384 v1 = 2006 := ((pIT hh383).trans e377)
                have p392 := (DOk_fx O374 ((Fx.rf (wr := [5820000]) (h := h373)).pIa t380 ar_29100 hh383 rfl) e375 (by rw [e376]; exact e377) rfl (DOk_fx O344 ((Fx.rf (wr := [5620000]) (h := h341)).pIa t370 ar_28100 hh372 rfl) e352 (by rw [e349]; exact e367) rfl p347.2.1))
                refine g_callI (st := []) (gc_V C lk_LandSurvey_Reader_169 (k_X3_takeOnly l D cy w z0 O385 e386 (iw (il 59) (by decide) (by decide)) (by unfold RInv; rw [e387, e388, e389, e390]; exact ⟨e391, p392, p359, p360⟩)) e386 rfl rfl rfl ⟨by decide, by decide⟩ (Nat.le_of_ble_eq_true rfl) dX3_readRemain_134 ⟨(by decide), (by decide)⟩) (fun r393 h394 f396 K395 => ?_)
                obtain ⟨O397, F398, f399, p400⟩ := K395
                have e401 : Rv h394 a0 13 = v1 := ((fxR F398 e386 rfl).trans e387)
                obtain ⟨v402, e403⟩ : ∃ z, Iv h394 a0 4 = z := ⟨_, rfl⟩
                have e404 : Tg h394 a0 = 4 := (fxT F398 e386)
                have f405 := ok_I O397 e404 rI_4_4 e403
                obtain ⟨v406, e407⟩ : ∃ z, Jv h394 a0 5 = z := ⟨_, rfl⟩
                have f408 := inL_J O397 e407
                obtain ⟨v409, e410⟩ : ∃ z, Rv h394 a0 6 = z := ⟨_, rfl⟩
                have p411 := p400.2.2.1
                rw [e403, e407] at p411
                have p412 := p400.2.2.2
                rw [e410] at p412
                have e413 : Tg h394 v1 = 2006 := (fxT F398 e391)
                exact g_iret C hr (nar_z2 f399).1 (iw f399 (by decide) (by decide)) ⟨O397, ((((((((((Fx.rf (wr := wr_k_X3_readRemain)).call F19 rfl).call F237 rfl).call F265 rfl).call F291 rfl).call F319 rfl).call F345 rfl).pIa t370 ar_28100 hh372 rfl).pIa t380 ar_29100 hh383 rfl).call F398 rfl), f399, (by unfold RInv; rw [e401, e403, e407, e410]; exact ⟨e413, p400.2.1, p411, p412⟩)⟩ (by decide) (by decide) dX3_readRemain_137
              · have f414 : (0 : Int) ≤ r340 ∧ r340 ≤ (0 : Int) := ii f346 (r_eq (il 0) q365) (by decide) (by decide)
                refine g_iconst C dX3_readRemain_106 ?_
                have e415 : Tg h341 v1 = 2006 := (fxT F345 e339)
                exact g_iret C hr (nar_z2 (iw (il 0) (by decide) (by decide))).1 (iw (il 0) (by decide) (by decide)) ⟨O344, (((((((Fx.rf (wr := wr_k_X3_readRemain)).call F19 rfl).call F237 rfl).call F265 rfl).call F291 rfl).call F319 rfl).call F345 rfl), (iw (il 0) (by decide) (by decide)), (by unfold RInv; rw [e349, e351, e355, e358]; exact ⟨e415, p347.2.1, p359, p360⟩)⟩ (by decide) (by decide) dX3_readRemain_107
          · have f416 : (0 : Int) ≤ r286 ∧ r286 ≤ (0 : Int) := ii f292 (r_eq (il 0) q311) (by decide) (by decide)
            refine g_iconst C dX3_readRemain_81 ?_
            have e417 : Tg h287 v1 = 2006 := (fxT F291 e285)
            exact g_iret C hr (nar_z2 (iw (il 0) (by decide) (by decide))).1 (iw (il 0) (by decide) (by decide)) ⟨O290, (((((Fx.rf (wr := wr_k_X3_readRemain)).call F19 rfl).call F237 rfl).call F265 rfl).call F291 rfl), (iw (il 0) (by decide) (by decide)), (by unfold RInv; rw [e295, e297, e301, e304]; exact ⟨e417, p293.2.1, p305, p306⟩)⟩ (by decide) (by decide) dX3_readRemain_82
      · have f418 : (0 : Int) ≤ r232 ∧ r232 ≤ (0 : Int) := ii f238 (r_eq (il 0) q257) (by decide) (by decide)
        refine g_iconst C dX3_readRemain_56 ?_
        have e419 : Tg h233 v1 = 2006 := (fxT F237 e231)
        exact g_iret C hr (nar_z2 (iw (il 0) (by decide) (by decide))).1 (iw (il 0) (by decide) (by decide)) ⟨O236, (((Fx.rf (wr := wr_k_X3_readRemain)).call F19 rfl).call F237 rfl), (iw (il 0) (by decide) (by decide)), (by unfold RInv; rw [e241, e243, e247, e250]; exact ⟨e419, p239.2.1, p251, p252⟩)⟩ (by decide) (by decide) dX3_readRemain_57
    · have q420 : v26 < (10 : Int) := lC_lt.mp q228
      have f421 : (0 : Int) ≤ v26 ∧ v26 ≤ (9 : Int) := r_lt f225 (il 10) q420 (by decide) (by decide)
      refine g_aload_n C rfl 0 rfl dX3_readRemain_23 ?_
      refine gf_R C fk_LandSurvey_Reader_26 rfl e24 e21 dX3_readRemain_24 ?_
      have e422 : Tg h15 v1 = 2006 := (fxT F19 t3)
      obtain ⟨v423, e424⟩ : ∃ z, Rv h15 v1 11 = z := ⟨_, rfl⟩
      have t425 := ok_R O18 e422 rE_2006_11 e424
      have l426 := ok_L O18 e422 rE_2006_11 e424
      refine gf_R C fk_LandSurvey_Reader_226 rfl e422 e424 dX3_readRemain_27 ?_
      refine g_aload_n C rfl 0 rfl dX3_readRemain_30 ?_
      refine gf_J C fk_LandSurvey_Reader_73 rfl e24 e27 dX3_readRemain_31 ?_
      refine g_l2i C dX3_readRemain_34 ?_
      have f427 : (0 : Int) ≤ (l2w v26) ∧ (l2w v26) ≤ (9 : Int) := l2w_in f421 (by decide) (by decide)
      obtain ⟨v428, e429⟩ : ∃ z, Iv h15 v423 ((l2w v26).toNat) = z := ⟨_, rfl⟩
      have f430 := ok_Ia O18 t425 ar_28100 rI_28100_0 e429
      refine g_iald C t425 rfl l426 (ix f427 (by decide) (by decide)) e429 dX3_readRemain_35 ?_
      refine g_iconst C dX3_readRemain_36 ?_
      refine g_icmp_eq C (iw f430 (by decide) (by decide)) (iw (il (-1)) (by decide) (by decide)) 46 (by decide) dX3_readRemain_37 (fun q431 => ?_) (fun q432 => ?_)
      · have f433 : (-1 : Int) ≤ v428 ∧ v428 ≤ (-1 : Int) := ii f430 (r_eq (il (-1)) q431) (by decide) (by decide)
        refine g_aload_n C rfl 0 rfl dX3_readRemain_46 ?_
        refine g_iconst C dX3_readRemain_47 ?_
        refine g_bipush C (by decide) dX3_readRemain_48 ?_
        refine g_callI (st := []) (gc_V C lk_LandSurvey_Reader_131 (k_X3_takeNumberWithin l D cy w z0 O18 e24 (iw (il 0) (by decide) (by decide)) (iw (il 9) (by decide) (by decide)) (by unfold RInv; rw [e21, e23, e27, e30]; exact ⟨e422, p20.2.1, p31, p32⟩)) e24 rfl rfl rfl ⟨by decide, by decide⟩ (Nat.le_of_ble_eq_true rfl) dX3_readRemain_50 ⟨(by decide), (by decide)⟩) (fun r434 h435 f437 K436 => ?_)
        obtain ⟨O438, F439, f440, p441, p442⟩ := K436
        have e443 : Rv h435 a0 13 = v1 := ((fxR F439 e24 rfl).trans e21)
        obtain ⟨v444, e445⟩ : ∃ z, Iv h435 a0 4 = z := ⟨_, rfl⟩
        have e446 : Tg h435 a0 = 4 := (fxT F439 e24)
        have f447 := ok_I O438 e446 rI_4_4 e445
        obtain ⟨v448, e449⟩ : ∃ z, Jv h435 a0 5 = z := ⟨_, rfl⟩
        have f450 := inL_J O438 e449
        obtain ⟨v451, e452⟩ : ∃ z, Rv h435 a0 6 = z := ⟨_, rfl⟩
        have p453 := p441.2.2.1
        rw [e445, e449] at p453
        have p454 := p441.2.2.2
        rw [e452] at p454
        obtain ⟨v455, e456⟩ : ∃ z, Iv h435 a0 8 = z := ⟨_, rfl⟩
        have f457 := ok_I O438 e446 rI_4_8 e456
        rw [e456] at p442
        refine g_if_ne C (iw f440 (by decide) (by decide)) 58 (by decide) dX3_readRemain_53 (fun q458 => ?_) (fun q459 => ?_)
        · have f460 : (1 : Int) ≤ r434 ∧ r434 ≤ (1 : Int) := r_nl f440 q458
          refine g_aload_n C rfl 0 rfl dX3_readRemain_58 ?_
          refine gf_I C fk_LandSurvey_Reader_103 rfl e446 e456 dX3_readRemain_59 ?_
          refine g_istore_n C [(1, .inl v455), (0, .inr (.inr a0))] rfl (by decide) rfl dX3_readRemain_62 ?_
          refine g_aload_n C rfl 1 rfl dX3_readRemain_63 ?_
          refine g_gets (x := .inr (.inr (w 14 + 1))) C (C.2.2.2.2.2.2.1.1 14 (by decide)).1 kw_869 dX3_readRemain_64 ?_
          have e461 : Tg h435 v1 = 2006 := (fxT F439 e422)
          refine g_callI (st := []) (gc_V C lk_LandSurvey_Reader_165 (k_X3_takeOnly_ l D cy w z0 (w 14 + 1) O438 e446 (by unfold RInv; rw [e443, e445, e449, e452]; exact ⟨e461, p441.2.1, p453, p454⟩)) e446 rfl rfl rfl ⟨by decide, by decide⟩ (Nat.le_of_ble_eq_true rfl) dX3_readRemain_67 ⟨(by decide), (by decide)⟩) (fun r462 h463 f465 K464 => ?_)
          obtain ⟨O466, F467, f468, p469⟩ := K464
          have e470 : Rv h463 a0 13 = v1 := ((fxR F467 e446 rfl).trans e443)
          obtain ⟨v471, e472⟩ : ∃ z, Iv h463 a0 4 = z := ⟨_, rfl⟩
          have e473 : Tg h463 a0 = 4 := (fxT F467 e446)
          have f474 := ok_I O466 e473 rI_4_4 e472
          obtain ⟨v475, e476⟩ : ∃ z, Jv h463 a0 5 = z := ⟨_, rfl⟩
          have f477 := inL_J O466 e476
          obtain ⟨v478, e479⟩ : ∃ z, Rv h463 a0 6 = z := ⟨_, rfl⟩
          have p480 := p469.2.2.1
          rw [e472, e476] at p480
          have p481 := p469.2.2.2
          rw [e479] at p481
          refine g_if_eq C (iw f468 (by decide) (by decide)) 81 (by decide) dX3_readRemain_70 (fun q482 => ?_) (fun q483 => ?_)
          · have f484 : (0 : Int) ≤ r462 ∧ r462 ≤ (0 : Int) := ii f468 (r_eq (il 0) q482) (by decide) (by decide)
            refine g_iconst C dX3_readRemain_81 ?_
            have e485 : Tg h463 v1 = 2006 := (fxT F467 e461)
            exact g_iret C hr (nar_z2 (iw (il 0) (by decide) (by decide))).1 (iw (il 0) (by decide) (by decide)) ⟨O466, ((((Fx.rf (wr := wr_k_X3_readRemain)).call F19 rfl).call F439 rfl).call F467 rfl), (iw (il 0) (by decide) (by decide)), (by unfold RInv; rw [e470, e472, e476, e479]; exact ⟨e485, p469.2.1, p480, p481⟩)⟩ (by decide) (by decide) dX3_readRemain_82
          · have f486 : (1 : Int) ≤ r462 ∧ r462 ≤ (1 : Int) := r_nl f468 q483
            refine g_aload_n C rfl 1 rfl dX3_readRemain_73 ?_
            refine g_iconst C dX3_readRemain_74 ?_
            have e487 : Tg h463 v1 = 2006 := (fxT F467 e461)
            refine g_callI (st := []) (gc_V C lk_LandSurvey_Reader_122 (k_X3_takeRockNotYounger l D cy w z0 O466 e473 (iw (il 0) (by decide) (by decide)) (by unfold RInv; rw [e470, e472, e476, e479]; exact ⟨e487, p469.2.1, p480, p481⟩)) e473 rfl rfl rfl ⟨by decide, by decide⟩ (Nat.le_of_ble_eq_true rfl) dX3_readRemain_75 ⟨(by decide), (by decide)⟩) (fun r488 h489 f491 K490 => ?_)
            obtain ⟨O492, F493, f494, p495, p496⟩ := K490
            have e497 : Rv h489 a0 13 = v1 := ((fxR F493 e473 rfl).trans e470)
            obtain ⟨v498, e499⟩ : ∃ z, Iv h489 a0 4 = z := ⟨_, rfl⟩
            have e500 : Tg h489 a0 = 4 := (fxT F493 e473)
            have f501 := ok_I O492 e500 rI_4_4 e499
            obtain ⟨v502, e503⟩ : ∃ z, Jv h489 a0 5 = z := ⟨_, rfl⟩
            have f504 := inL_J O492 e503
            obtain ⟨v505, e506⟩ : ∃ z, Rv h489 a0 6 = z := ⟨_, rfl⟩
            have p507 := p495.2.2.1
            rw [e499, e503] at p507
            have p508 := p495.2.2.2
            rw [e506] at p508
            obtain ⟨v509, e510⟩ : ∃ z, Iv h489 a0 8 = z := ⟨_, rfl⟩
            have f511 := ok_I O492 e500 rI_4_8 e510
            rw [e510] at p496
            refine g_if_ne C (iw f494 (by decide) (by decide)) 83 (by decide) dX3_readRemain_78 (fun q512 => ?_) (fun q513 => ?_)
            · have f514 : (1 : Int) ≤ r488 ∧ r488 ≤ (1 : Int) := r_nl f494 q512
              refine g_aload_n C rfl 1 rfl dX3_readRemain_83 ?_
              refine gf_I C fk_LandSurvey_Reader_103 rfl e500 e510 dX3_readRemain_84 ?_
              refine g_istore_n C [(2, .inl v509), (1, .inl v455), (0, .inr (.inr a0))] rfl (by decide) rfl dX3_readRemain_87 ?_
              refine g_aload_n C rfl 2 rfl dX3_readRemain_88 ?_
              refine g_gets (x := .inr (.inr (w 1 + 1))) C (C.2.2.2.2.2.2.1.1 1 (by decide)).1 kw_793 dX3_readRemain_89 ?_
              have e515 : Tg h489 v1 = 2006 := (fxT F493 e487)
              refine g_callI (st := []) (gc_V C lk_LandSurvey_Reader_165 (k_X3_takeOnly_ l D cy w z0 (w 1 + 1) O492 e500 (by unfold RInv; rw [e497, e499, e503, e506]; exact ⟨e515, p495.2.1, p507, p508⟩)) e500 rfl rfl rfl ⟨by decide, by decide⟩ (Nat.le_of_ble_eq_true rfl) dX3_readRemain_92 ⟨(by decide), (by decide)⟩) (fun r516 h517 f519 K518 => ?_)
              obtain ⟨O520, F521, f522, p523⟩ := K518
              have e524 : Rv h517 a0 13 = v1 := ((fxR F521 e500 rfl).trans e497)
              obtain ⟨v525, e526⟩ : ∃ z, Iv h517 a0 4 = z := ⟨_, rfl⟩
              have e527 : Tg h517 a0 = 4 := (fxT F521 e500)
              have f528 := ok_I O520 e527 rI_4_4 e526
              obtain ⟨v529, e530⟩ : ∃ z, Jv h517 a0 5 = z := ⟨_, rfl⟩
              have f531 := inL_J O520 e530
              obtain ⟨v532, e533⟩ : ∃ z, Rv h517 a0 6 = z := ⟨_, rfl⟩
              have p534 := p523.2.2.1
              rw [e526, e530] at p534
              have p535 := p523.2.2.2
              rw [e533] at p535
              refine g_if_eq C (iw f522 (by decide) (by decide)) 106 (by decide) dX3_readRemain_95 (fun q536 => ?_) (fun q537 => ?_)
              · have f538 : (0 : Int) ≤ r516 ∧ r516 ≤ (0 : Int) := ii f522 (r_eq (il 0) q536) (by decide) (by decide)
                refine g_iconst C dX3_readRemain_106 ?_
                have e539 : Tg h517 v1 = 2006 := (fxT F521 e515)
                exact g_iret C hr (nar_z2 (iw (il 0) (by decide) (by decide))).1 (iw (il 0) (by decide) (by decide)) ⟨O520, ((((((Fx.rf (wr := wr_k_X3_readRemain)).call F19 rfl).call F439 rfl).call F467 rfl).call F493 rfl).call F521 rfl), (iw (il 0) (by decide) (by decide)), (by unfold RInv; rw [e524, e526, e530, e533]; exact ⟨e539, p523.2.1, p534, p535⟩)⟩ (by decide) (by decide) dX3_readRemain_107
              · have f540 : (1 : Int) ≤ r516 ∧ r516 ≤ (1 : Int) := r_nl f522 q537
                refine g_aload_n C rfl 2 rfl dX3_readRemain_98 ?_
                refine g_iload_n C rfl 0 rfl dX3_readRemain_99 ?_
                have e541 : Tg h517 v1 = 2006 := (fxT F521 e515)
                refine g_callI (st := []) (gc_V C lk_LandSurvey_Reader_122 (k_X3_takeRockNotYounger l D cy w z0 O520 e527 f511 (by unfold RInv; rw [e524, e526, e530, e533]; exact ⟨e541, p523.2.1, p534, p535⟩)) e527 rfl rfl rfl ⟨by decide, by decide⟩ (Nat.le_of_ble_eq_true rfl) dX3_readRemain_100 ⟨(by decide), (by decide)⟩) (fun r542 h543 f545 K544 => ?_)
                obtain ⟨O546, F547, f548, p549, p550⟩ := K544
                have e551 : Rv h543 a0 13 = v1 := ((fxR F547 e527 rfl).trans e524)
                obtain ⟨v552, e553⟩ : ∃ z, Iv h543 a0 4 = z := ⟨_, rfl⟩
                have e554 : Tg h543 a0 = 4 := (fxT F547 e527)
                have f555 := ok_I O546 e554 rI_4_4 e553
                obtain ⟨v556, e557⟩ : ∃ z, Jv h543 a0 5 = z := ⟨_, rfl⟩
                have f558 := inL_J O546 e557
                obtain ⟨v559, e560⟩ : ∃ z, Rv h543 a0 6 = z := ⟨_, rfl⟩
                have p561 := p549.2.2.1
                rw [e553, e557] at p561
                have p562 := p549.2.2.2
                rw [e560] at p562
                obtain ⟨v563, e564⟩ : ∃ z, Iv h543 a0 8 = z := ⟨_, rfl⟩
                have f565 := ok_I O546 e554 rI_4_8 e564
                rw [e564] at p550
                refine g_if_ne C (iw f548 (by decide) (by decide)) 108 (by decide) dX3_readRemain_103 (fun q566 => ?_) (fun q567 => ?_)
                · have f568 : (1 : Int) ≤ r542 ∧ r542 ≤ (1 : Int) := r_nl f548 q566
                  refine g_aload_n C rfl 2 rfl dX3_readRemain_108 ?_
                  refine gf_R C fk_LandSurvey_Reader_26 rfl e554 e551 dX3_readRemain_109 ?_
                  have e569 : Tg h543 v1 = 2006 := (fxT F547 e541)
                  have e570 : Rv h543 v1 11 = v423 := ((fxR F547 e541 rfl).trans ((fxR F521 e515 rfl).trans ((fxR F493 e487 rfl).trans ((fxR F467 e461 rfl).trans ((fxR F439 e422 rfl).trans e424)))))
                  refine gf_R C fk_LandSurvey_Reader_226 rfl e569 e570 dX3_readRemain_112 ?_
                  refine g_iload_n C rfl 1 rfl dX3_readRemain_115 ?_
                  refine g_iload_n C rfl 0 rfl dX3_readRemain_116 ?_
                  have e571 : Tg h543 v423 = 28100 := (fxT F547 (fxT F521 (fxT F493 (fxT F467 (fxT F439 t425)))))
                  have e572 : Tg h435 v423 = 28100 := (fxT F439 t425)
                  have e573 : Tg h463 v423 = 28100 := (fxT F467 e572)
                  have e574 : Tg h489 v423 = 28100 := (fxT F493 e573)
                  have e575 : Tg h517 v423 = 28100 := (fxT F521 e574)
                  have e576 : Ln h543 v423 = 10 := ((fxL F547 e575).trans ((fxL F521 e574).trans ((fxL F493 e573).trans ((fxL F467 e572).trans ((fxL F439 t425).trans l426)))))
                  refine g_iast C e571 rfl e576 (by omega) f511 dX3_readRemain_117 (fun h578 hh577 => ?_)
                  have O579 := O546.pIa e571 ar_28100 hh577 rI_28100_0 (by omega) nofun
                  refine g_aload_n C rfl 2 rfl dX3_readRemain_118 ?_
                  have e580 : Tg h578 a0 = 4 := ((pIT hh577).trans e554)
                  have e581 : Rv h578 a0 13 = v1 := ((pIR hh577).trans e551)
                  refine gf_R C fk_LandSurvey_Reader_26 rfl e580 e581 dX3_readRemain_119 ?_
                  have e582 : Tg h578 v1 = 2006 := ((pIT hh577).trans e569)
                  obtain ⟨v583, e584⟩ : ∃ z, Rv h578 v1 12 = z := ⟨_, rfl⟩
                  have t585 := ok_R O579 e582 rE_2006_12 e584
                  have l586 := ok_L O579 e582 rE_2006_12 e584
                  refine gf_R C fk_LandSurvey_Reader_232 rfl e582 e584 dX3_readRemain_122 ?_
                  refine g_iload_n C rfl 1 rfl dX3_readRemain_125 ?_
                  refine g_aload_n C rfl 2 rfl dX3_readRemain_126 ?_
                  have e587 : Iv h578 a0 8 = v563 := ((pI_n hh577 (ne_tag e554 e571 (by decide))).trans e564)
                  refine gf_I C fk_LandSurvey_Reader_103 rfl e580 e587 dX3_readRemain_127 ?_
                  refine g_iast C t585 rfl l586 (by omega) f565 dX3_readRemain_130 (fun h589 hh588 => ?_)
                  have O590 := O579.pIa t585 ar_29100 hh588 rI_29100_0 (by omega) nofun
                  refine g_aload_n C rfl 2 rfl dX3_readRemain_131 ?_
                  refine g_bipush C (by decide) dX3_readRemain_132 ?_
                  have e591 : Tg h589 a0 = 4 := ((pIT hh588).trans e580)
                  have e592 : Rv h589 a0 13 = v1 := ((pIR hh588).trans e581)
                  have e593 : Iv h589 a0 4 = v552 := ((pI_n hh588 (ne_tag e580 t585 (by decide))).trans ((pI_n hh577 (ne_tag e554 e571 (by decide))).trans e553))
                  have e594 : Jv h589 a0 5 = v556 := ((pIJ hh588).trans ((pIJ hh577).trans e557))
                  have e595 : Rv h589 a0 6 = v559 := ((pIR hh588).trans ((pIR hh577).trans e560))
                  have e596 : Tg h589 v1 = 2006 := ((pIT hh588).trans e582)
                  have p597 := (DOk_fx O579 ((Fx.rf (wr := [5820000]) (h := h578)).pIa t585 ar_29100 hh588 rfl) e580 (by rw [e581]; exact e582) rfl (DOk_fx O546 ((Fx.rf (wr := [5620000]) (h := h543)).pIa e571 ar_28100 hh577 rfl) e554 (by rw [e551]; exact e569) rfl p549.2.1))
                  refine g_callI (st := []) (gc_V C lk_LandSurvey_Reader_169 (k_X3_takeOnly l D cy w z0 O590 e591 (iw (il 59) (by decide) (by decide)) (by unfold RInv; rw [e592, e593, e594, e595]; exact ⟨e596, p597, p561, p562⟩)) e591 rfl rfl rfl ⟨by decide, by decide⟩ (Nat.le_of_ble_eq_true rfl) dX3_readRemain_134 ⟨(by decide), (by decide)⟩) (fun r598 h599 f601 K600 => ?_)
                  obtain ⟨O602, F603, f604, p605⟩ := K600
                  have e606 : Rv h599 a0 13 = v1 := ((fxR F603 e591 rfl).trans e592)
                  obtain ⟨v607, e608⟩ : ∃ z, Iv h599 a0 4 = z := ⟨_, rfl⟩
                  have e609 : Tg h599 a0 = 4 := (fxT F603 e591)
                  have f610 := ok_I O602 e609 rI_4_4 e608
                  obtain ⟨v611, e612⟩ : ∃ z, Jv h599 a0 5 = z := ⟨_, rfl⟩
                  have f613 := inL_J O602 e612
                  obtain ⟨v614, e615⟩ : ∃ z, Rv h599 a0 6 = z := ⟨_, rfl⟩
                  have p616 := p605.2.2.1
                  rw [e608, e612] at p616
                  have p617 := p605.2.2.2
                  rw [e615] at p617
                  have e618 : Tg h599 v1 = 2006 := (fxT F603 e596)
                  exact g_iret C hr (nar_z2 f604).1 (iw f604 (by decide) (by decide)) ⟨O602, ((((((((((Fx.rf (wr := wr_k_X3_readRemain)).call F19 rfl).call F439 rfl).call F467 rfl).call F493 rfl).call F521 rfl).call F547 rfl).pIa e571 ar_28100 hh577 rfl).pIa t585 ar_29100 hh588 rfl).call F603 rfl), f604, (by unfold RInv; rw [e606, e608, e612, e615]; exact ⟨e618, p605.2.1, p616, p617⟩)⟩ (by decide) (by decide) dX3_readRemain_137
                · have f619 : (0 : Int) ≤ r542 ∧ r542 ≤ (0 : Int) := ii f548 (r_eq (il 0) q567) (by decide) (by decide)
                  refine g_iconst C dX3_readRemain_106 ?_
                  have e620 : Tg h543 v1 = 2006 := (fxT F547 e541)
                  exact g_iret C hr (nar_z2 (iw (il 0) (by decide) (by decide))).1 (iw (il 0) (by decide) (by decide)) ⟨O546, (((((((Fx.rf (wr := wr_k_X3_readRemain)).call F19 rfl).call F439 rfl).call F467 rfl).call F493 rfl).call F521 rfl).call F547 rfl), (iw (il 0) (by decide) (by decide)), (by unfold RInv; rw [e551, e553, e557, e560]; exact ⟨e620, p549.2.1, p561, p562⟩)⟩ (by decide) (by decide) dX3_readRemain_107
            · have f621 : (0 : Int) ≤ r488 ∧ r488 ≤ (0 : Int) := ii f494 (r_eq (il 0) q513) (by decide) (by decide)
              refine g_iconst C dX3_readRemain_81 ?_
              have e622 : Tg h489 v1 = 2006 := (fxT F493 e487)
              exact g_iret C hr (nar_z2 (iw (il 0) (by decide) (by decide))).1 (iw (il 0) (by decide) (by decide)) ⟨O492, (((((Fx.rf (wr := wr_k_X3_readRemain)).call F19 rfl).call F439 rfl).call F467 rfl).call F493 rfl), (iw (il 0) (by decide) (by decide)), (by unfold RInv; rw [e497, e499, e503, e506]; exact ⟨e622, p495.2.1, p507, p508⟩)⟩ (by decide) (by decide) dX3_readRemain_82
        · have f623 : (0 : Int) ≤ r434 ∧ r434 ≤ (0 : Int) := ii f440 (r_eq (il 0) q459) (by decide) (by decide)
          refine g_iconst C dX3_readRemain_56 ?_
          have e624 : Tg h435 v1 = 2006 := (fxT F439 e422)
          exact g_iret C hr (nar_z2 (iw (il 0) (by decide) (by decide))).1 (iw (il 0) (by decide) (by decide)) ⟨O438, (((Fx.rf (wr := wr_k_X3_readRemain)).call F19 rfl).call F439 rfl), (iw (il 0) (by decide) (by decide)), (by unfold RInv; rw [e443, e445, e449, e452]; exact ⟨e624, p441.2.1, p453, p454⟩)⟩ (by decide) (by decide) dX3_readRemain_57
      · have f625 : (0 : Int) ≤ v428 ∧ v428 ≤ (9 : Int) := r_nl f430 q432
        refine g_aload_n C rfl 0 rfl dX3_readRemain_40 ?_
        refine g_iconst C dX3_readRemain_41 ?_
        refine g_callI (st := []) (gc_V C lk_LandSurvey_Reader_99 (k_X3_wrong l D cy w z0 O18 e24 (iw (il 3) (by decide) (by decide))) e24 rfl rfl rfl ⟨by decide, by decide⟩ (Nat.le_of_ble_eq_true rfl) dX3_readRemain_42 ⟨(by decide), (by decide)⟩) (fun r626 h627 f629 K628 => ?_)
        obtain ⟨O630, F631, f632⟩ := K628
        have e633 : Rv h627 a0 13 = v1 := ((fxR F631 e24 rfl).trans e21)
        have e634 : Iv h627 a0 4 = v22 := ((fxI F631 e24 rfl).trans e23)
        have e635 : Jv h627 a0 5 = v26 := ((fxJ F631 e24 rfl).trans e27)
        have e636 : Rv h627 a0 6 = v29 := ((fxR F631 e24 rfl).trans e30)
        have e637 : Tg h627 v1 = 2006 := (fxT F631 e422)
        have p638 := (DOk_fx O18 F631 e24 (by rw [e21]; exact e422) rfl p20.2.1)
        exact g_iret C hr (nar_z2 (iw f632 (by decide) (by decide))).1 (iw f632 (by decide) (by decide)) ⟨O630, (((Fx.rf (wr := wr_k_X3_readRemain)).call F19 rfl).call F631 rfl), (iw f632 (by decide) (by decide)), (by unfold RInv; rw [e633, e634, e635, e636]; exact ⟨e637, p638, p31, p32⟩)⟩ (by decide) (by decide) dX3_readRemain_45
