abbrev cX12_init : ByteArray := prog_14_method_4_code
def yX12_init : MethodName := ⟨RX12, "<init>", "()V"⟩
theorem okX12_init : yok yX12_init 0 := by decide +kernel
theorem dX12_init_0 : decode cX12_init 0 = .ok (.aload_n 0, 1) := by decide +kernel
theorem dX12_init_1 : decode cX12_init 1 = .ok (.invokespecial 18, 3) := by decide +kernel
theorem kw_1475 : Cond.methodLink "LandSurveyModel" 18 (⟨"java/lang/Object", "<init>", "()V"⟩ : MethodName) ∈ uu := uu_in (i := 1475) (by decide +kernel) (by decide +kernel)
theorem dX12_init_4 : decode cX12_init 4 = .ok (.aload_n 0, 1) := by decide +kernel
theorem dX12_init_5 : decode cX12_init 5 = .ok (.sipush 1500, 3) := by decide +kernel
theorem dX12_init_8 : decode cX12_init 8 = .ok (.newarray .int, 2) := by decide +kernel
theorem dX12_init_10 : decode cX12_init 10 = .ok (.putfield 14, 3) := by decide +kernel
theorem pk_LandSurveyModel_1 : pk RX12 TX12 87 1 tyX12 true := ⟨tyX12_ok, nmX12, rfl⟩
theorem dX12_init_13 : decode cX12_init 13 = .ok (.aload_n 0, 1) := by decide +kernel
theorem dX12_init_14 : decode cX12_init 14 = .ok (.sipush 1502, 3) := by decide +kernel
theorem dX12_init_17 : decode cX12_init 17 = .ok (.newarray .int, 2) := by decide +kernel
theorem dX12_init_19 : decode cX12_init 19 = .ok (.putfield 24, 3) := by decide +kernel
theorem pk_LandSurveyModel_4 : pk RX12 TX12 87 4 tyX12 true := ⟨tyX12_ok, nmX12, rfl⟩
theorem dX12_init_22 : decode cX12_init 22 = .ok (.aload_n 0, 1) := by decide +kernel
theorem dX12_init_23 : decode cX12_init 23 = .ok (.sipush 1502, 3) := by decide +kernel
theorem dX12_init_26 : decode cX12_init 26 = .ok (.newarray .int, 2) := by decide +kernel
theorem dX12_init_28 : decode cX12_init 28 = .ok (.putfield 27, 3) := by decide +kernel
theorem pk_LandSurveyModel_5 : pk RX12 TX12 87 5 tyX12 true := ⟨tyX12_ok, nmX12, rfl⟩
theorem dX12_init_31 : decode cX12_init 31 = .ok (.aload_n 0, 1) := by decide +kernel
theorem dX12_init_32 : decode cX12_init 32 = .ok (.sipush 1502, 3) := by decide +kernel
theorem dX12_init_35 : decode cX12_init 35 = .ok (.newarray .long, 2) := by decide +kernel
theorem dX12_init_37 : decode cX12_init 37 = .ok (.putfield 30, 3) := by decide +kernel
theorem pk_LandSurveyModel_6 : pk RX12 TX12 87 6 tyX12 true := ⟨tyX12_ok, nmX12, rfl⟩
theorem dX12_init_40 : decode cX12_init 40 = .ok (.aload_n 0, 1) := by decide +kernel
theorem dX12_init_41 : decode cX12_init 41 = .ok (.bipush 30, 2) := by decide +kernel
theorem dX12_init_43 : decode cX12_init 43 = .ok (.newarray .long, 2) := by decide +kernel
theorem dX12_init_45 : decode cX12_init 45 = .ok (.dup, 1) := by decide +kernel
theorem dX12_init_46 : decode cX12_init 46 = .ok (.iconst 0, 1) := by decide +kernel
theorem dX12_init_47 : decode cX12_init 47 = .ok (.ldc2_w 34, 3) := by decide +kernel
theorem kw_1476 : Cond.constantLong "LandSurveyModel" 34 (932411) ∈ uu := uu_in (i := 1476) (by decide +kernel) (by decide +kernel)
theorem dX12_init_50 : decode cX12_init 50 = .ok (.lastore, 1) := by decide +kernel
theorem dX12_init_51 : decode cX12_init 51 = .ok (.dup, 1) := by decide +kernel
theorem dX12_init_52 : decode cX12_init 52 = .ok (.iconst 1, 1) := by decide +kernel
theorem dX12_init_53 : decode cX12_init 53 = .ok (.ldc2_w 36, 3) := by decide +kernel
theorem kw_1477 : Cond.constantLong "LandSurveyModel" 36 (710997) ∈ uu := uu_in (i := 1477) (by decide +kernel) (by decide +kernel)
theorem dX12_init_56 : decode cX12_init 56 = .ok (.lastore, 1) := by decide +kernel
theorem dX12_init_57 : decode cX12_init 57 = .ok (.dup, 1) := by decide +kernel
theorem dX12_init_58 : decode cX12_init 58 = .ok (.iconst 2, 1) := by decide +kernel
theorem dX12_init_59 : decode cX12_init 59 = .ok (.ldc2_w 38, 3) := by decide +kernel
theorem kw_1478 : Cond.constantLong "LandSurveyModel" 38 (913652) ∈ uu := uu_in (i := 1478) (by decide +kernel) (by decide +kernel)
theorem dX12_init_62 : decode cX12_init 62 = .ok (.lastore, 1) := by decide +kernel
theorem dX12_init_63 : decode cX12_init 63 = .ok (.dup, 1) := by decide +kernel
theorem dX12_init_64 : decode cX12_init 64 = .ok (.iconst 3, 1) := by decide +kernel
theorem dX12_init_65 : decode cX12_init 65 = .ok (.ldc2_w 40, 3) := by decide +kernel
theorem kw_1479 : Cond.constantLong "LandSurveyModel" 40 (227314) ∈ uu := uu_in (i := 1479) (by decide +kernel) (by decide +kernel)
theorem dX12_init_68 : decode cX12_init 68 = .ok (.lastore, 1) := by decide +kernel
theorem dX12_init_69 : decode cX12_init 69 = .ok (.dup, 1) := by decide +kernel
theorem dX12_init_70 : decode cX12_init 70 = .ok (.iconst 4, 1) := by decide +kernel
theorem dX12_init_71 : decode cX12_init 71 = .ok (.ldc2_w 42, 3) := by decide +kernel
theorem kw_1480 : Cond.constantLong "LandSurveyModel" 42 (36629165) ∈ uu := uu_in (i := 1480) (by decide +kernel) (by decide +kernel)
theorem dX12_init_74 : decode cX12_init 74 = .ok (.lastore, 1) := by decide +kernel
theorem dX12_init_75 : decode cX12_init 75 = .ok (.dup, 1) := by decide +kernel
theorem dX12_init_76 : decode cX12_init 76 = .ok (.iconst 5, 1) := by decide +kernel
theorem dX12_init_77 : decode cX12_init 77 = .ok (.ldc2_w 44, 3) := by decide +kernel
theorem kw_1481 : Cond.constantLong "LandSurveyModel" 44 (8420961) ∈ uu := uu_in (i := 1481) (by decide +kernel) (by decide +kernel)
theorem dX12_init_80 : decode cX12_init 80 = .ok (.lastore, 1) := by decide +kernel
theorem dX12_init_81 : decode cX12_init 81 = .ok (.dup, 1) := by decide +kernel
theorem dX12_init_82 : decode cX12_init 82 = .ok (.bipush 6, 2) := by decide +kernel
theorem dX12_init_84 : decode cX12_init 84 = .ok (.ldc2_w 46, 3) := by decide +kernel
theorem kw_1482 : Cond.constantLong "LandSurveyModel" 46 (15769678) ∈ uu := uu_in (i := 1482) (by decide +kernel) (by decide +kernel)
theorem dX12_init_87 : decode cX12_init 87 = .ok (.lastore, 1) := by decide +kernel
theorem dX12_init_88 : decode cX12_init 88 = .ok (.dup, 1) := by decide +kernel
theorem dX12_init_89 : decode cX12_init 89 = .ok (.bipush 7, 2) := by decide +kernel
theorem dX12_init_91 : decode cX12_init 91 = .ok (.ldc2_w 48, 3) := by decide +kernel
theorem kw_1483 : Cond.constantLong "LandSurveyModel" 48 (37948996) ∈ uu := uu_in (i := 1483) (by decide +kernel) (by decide +kernel)
theorem dX12_init_94 : decode cX12_init 94 = .ok (.lastore, 1) := by decide +kernel
theorem dX12_init_95 : decode cX12_init 95 = .ok (.dup, 1) := by decide +kernel
theorem dX12_init_96 : decode cX12_init 96 = .ok (.bipush 8, 2) := by decide +kernel
theorem dX12_init_98 : decode cX12_init 98 = .ok (.ldc2_w 50, 3) := by decide +kernel
theorem kw_1484 : Cond.constantLong "LandSurveyModel" 50 (1258222236) ∈ uu := uu_in (i := 1484) (by decide +kernel) (by decide +kernel)
theorem dX12_init_101 : decode cX12_init 101 = .ok (.lastore, 1) := by decide +kernel
theorem dX12_init_102 : decode cX12_init 102 = .ok (.dup, 1) := by decide +kernel
theorem dX12_init_103 : decode cX12_init 103 = .ok (.bipush 9, 2) := by decide +kernel
theorem dX12_init_105 : decode cX12_init 105 = .ok (.ldc2_w 52, 3) := by decide +kernel
theorem kw_1485 : Cond.constantLong "LandSurveyModel" 52 (755) ∈ uu := uu_in (i := 1485) (by decide +kernel) (by decide +kernel)
theorem dX12_init_108 : decode cX12_init 108 = .ok (.lastore, 1) := by decide +kernel
theorem dX12_init_109 : decode cX12_init 109 = .ok (.dup, 1) := by decide +kernel
theorem dX12_init_110 : decode cX12_init 110 = .ok (.bipush 10, 2) := by decide +kernel
theorem dX12_init_112 : decode cX12_init 112 = .ok (.ldc2_w 54, 3) := by decide +kernel
theorem kw_1486 : Cond.constantLong "LandSurveyModel" 54 (329128) ∈ uu := uu_in (i := 1486) (by decide +kernel) (by decide +kernel)
theorem dX12_init_115 : decode cX12_init 115 = .ok (.lastore, 1) := by decide +kernel
theorem dX12_init_116 : decode cX12_init 116 = .ok (.dup, 1) := by decide +kernel
theorem dX12_init_117 : decode cX12_init 117 = .ok (.bipush 11, 2) := by decide +kernel
theorem dX12_init_119 : decode cX12_init 119 = .ok (.ldc2_w 56, 3) := by decide +kernel
theorem kw_1487 : Cond.constantLong "LandSurveyModel" 56 (1176170) ∈ uu := uu_in (i := 1487) (by decide +kernel) (by decide +kernel)
theorem dX12_init_122 : decode cX12_init 122 = .ok (.lastore, 1) := by decide +kernel
theorem dX12_init_123 : decode cX12_init 123 = .ok (.dup, 1) := by decide +kernel
theorem dX12_init_124 : decode cX12_init 124 = .ok (.bipush 12, 2) := by decide +kernel
theorem dX12_init_126 : decode cX12_init 126 = .ok (.ldc2_w 58, 3) := by decide +kernel
theorem kw_1488 : Cond.constantLong "LandSurveyModel" 58 (333123) ∈ uu := uu_in (i := 1488) (by decide +kernel) (by decide +kernel)
theorem dX12_init_129 : decode cX12_init 129 = .ok (.lastore, 1) := by decide +kernel
theorem dX12_init_130 : decode cX12_init 130 = .ok (.dup, 1) := by decide +kernel
theorem dX12_init_131 : decode cX12_init 131 = .ok (.bipush 13, 2) := by decide +kernel
theorem dX12_init_133 : decode cX12_init 133 = .ok (.ldc2_w 60, 3) := by decide +kernel
theorem kw_1489 : Cond.constantLong "LandSurveyModel" 60 (173197865) ∈ uu := uu_in (i := 1489) (by decide +kernel) (by decide +kernel)
theorem dX12_init_136 : decode cX12_init 136 = .ok (.lastore, 1) := by decide +kernel
theorem dX12_init_137 : decode cX12_init 137 = .ok (.dup, 1) := by decide +kernel
theorem dX12_init_138 : decode cX12_init 138 = .ok (.bipush 14, 2) := by decide +kernel
theorem dX12_init_140 : decode cX12_init 140 = .ok (.ldc2_w 62, 3) := by decide +kernel
theorem kw_1490 : Cond.constantLong "LandSurveyModel" 62 (306528872) ∈ uu := uu_in (i := 1490) (by decide +kernel) (by decide +kernel)
theorem dX12_init_143 : decode cX12_init 143 = .ok (.lastore, 1) := by decide +kernel
theorem dX12_init_144 : decode cX12_init 144 = .ok (.dup, 1) := by decide +kernel
theorem dX12_init_145 : decode cX12_init 145 = .ok (.bipush 15, 2) := by decide +kernel
theorem dX12_init_147 : decode cX12_init 147 = .ok (.ldc2_w 64, 3) := by decide +kernel
theorem kw_1491 : Cond.constantLong "LandSurveyModel" 64 (1891) ∈ uu := uu_in (i := 1491) (by decide +kernel) (by decide +kernel)
theorem dX12_init_150 : decode cX12_init 150 = .ok (.lastore, 1) := by decide +kernel
theorem dX12_init_151 : decode cX12_init 151 = .ok (.dup, 1) := by decide +kernel
theorem dX12_init_152 : decode cX12_init 152 = .ok (.bipush 16, 2) := by decide +kernel
theorem dX12_init_154 : decode cX12_init 154 = .ok (.ldc2_w 66, 3) := by decide +kernel
theorem kw_1492 : Cond.constantLong "LandSurveyModel" 66 (573) ∈ uu := uu_in (i := 1492) (by decide +kernel) (by decide +kernel)
theorem dX12_init_157 : decode cX12_init 157 = .ok (.lastore, 1) := by decide +kernel
theorem dX12_init_158 : decode cX12_init 158 = .ok (.dup, 1) := by decide +kernel
theorem dX12_init_159 : decode cX12_init 159 = .ok (.bipush 17, 2) := by decide +kernel
theorem dX12_init_161 : decode cX12_init 161 = .ok (.ldc2_w 68, 3) := by decide +kernel
theorem kw_1493 : Cond.constantLong "LandSurveyModel" 68 (19741) ∈ uu := uu_in (i := 1493) (by decide +kernel) (by decide +kernel)
theorem dX12_init_164 : decode cX12_init 164 = .ok (.lastore, 1) := by decide +kernel
theorem dX12_init_165 : decode cX12_init 165 = .ok (.dup, 1) := by decide +kernel
theorem dX12_init_166 : decode cX12_init 166 = .ok (.bipush 18, 2) := by decide +kernel
theorem dX12_init_168 : decode cX12_init 168 = .ok (.ldc2_w 70, 3) := by decide +kernel
theorem kw_1494 : Cond.constantLong "LandSurveyModel" 70 (236773452) ∈ uu := uu_in (i := 1494) (by decide +kernel) (by decide +kernel)
theorem dX12_init_171 : decode cX12_init 171 = .ok (.lastore, 1) := by decide +kernel
theorem dX12_init_172 : decode cX12_init 172 = .ok (.dup, 1) := by decide +kernel
theorem dX12_init_173 : decode cX12_init 173 = .ok (.bipush 19, 2) := by decide +kernel
theorem dX12_init_175 : decode cX12_init 175 = .ok (.ldc2_w 72, 3) := by decide +kernel
theorem kw_1495 : Cond.constantLong "LandSurveyModel" 72 (14032597) ∈ uu := uu_in (i := 1495) (by decide +kernel) (by decide +kernel)
theorem dX12_init_178 : decode cX12_init 178 = .ok (.lastore, 1) := by decide +kernel
theorem dX12_init_179 : decode cX12_init 179 = .ok (.dup, 1) := by decide +kernel
theorem dX12_init_180 : decode cX12_init 180 = .ok (.bipush 20, 2) := by decide +kernel
theorem dX12_init_182 : decode cX12_init 182 = .ok (.ldc2_w 74, 3) := by decide +kernel
theorem kw_1496 : Cond.constantLong "LandSurveyModel" 74 (407263) ∈ uu := uu_in (i := 1496) (by decide +kernel) (by decide +kernel)
theorem dX12_init_185 : decode cX12_init 185 = .ok (.lastore, 1) := by decide +kernel
theorem dX12_init_186 : decode cX12_init 186 = .ok (.dup, 1) := by decide +kernel
theorem dX12_init_187 : decode cX12_init 187 = .ok (.bipush 21, 2) := by decide +kernel
theorem dX12_init_189 : decode cX12_init 189 = .ok (.ldc2_w 76, 3) := by decide +kernel
theorem kw_1497 : Cond.constantLong "LandSurveyModel" 76 (317227) ∈ uu := uu_in (i := 1497) (by decide +kernel) (by decide +kernel)
theorem dX12_init_192 : decode cX12_init 192 = .ok (.lastore, 1) := by decide +kernel
theorem dX12_init_193 : decode cX12_init 193 = .ok (.dup, 1) := by decide +kernel
theorem dX12_init_194 : decode cX12_init 194 = .ok (.bipush 22, 2) := by decide +kernel
theorem dX12_init_196 : decode cX12_init 196 = .ok (.ldc2_w 78, 3) := by decide +kernel
theorem kw_1498 : Cond.constantLong "LandSurveyModel" 78 (570026) ∈ uu := uu_in (i := 1498) (by decide +kernel) (by decide +kernel)
theorem dX12_init_199 : decode cX12_init 199 = .ok (.lastore, 1) := by decide +kernel
theorem dX12_init_200 : decode cX12_init 200 = .ok (.dup, 1) := by decide +kernel
theorem dX12_init_201 : decode cX12_init 201 = .ok (.bipush 23, 2) := by decide +kernel
theorem dX12_init_203 : decode cX12_init 203 = .ok (.ldc2_w 80, 3) := by decide +kernel
theorem kw_1499 : Cond.constantLong "LandSurveyModel" 80 (407115) ∈ uu := uu_in (i := 1499) (by decide +kernel) (by decide +kernel)
theorem dX12_init_206 : decode cX12_init 206 = .ok (.lastore, 1) := by decide +kernel
theorem dX12_init_207 : decode cX12_init 207 = .ok (.dup, 1) := by decide +kernel
theorem dX12_init_208 : decode cX12_init 208 = .ok (.bipush 24, 2) := by decide +kernel
theorem dX12_init_210 : decode cX12_init 210 = .ok (.ldc2_w 82, 3) := by decide +kernel
theorem kw_1500 : Cond.constantLong "LandSurveyModel" 82 (7772561) ∈ uu := uu_in (i := 1500) (by decide +kernel) (by decide +kernel)
theorem dX12_init_213 : decode cX12_init 213 = .ok (.lastore, 1) := by decide +kernel
theorem dX12_init_214 : decode cX12_init 214 = .ok (.dup, 1) := by decide +kernel
theorem dX12_init_215 : decode cX12_init 215 = .ok (.bipush 25, 2) := by decide +kernel
theorem dX12_init_217 : decode cX12_init 217 = .ok (.ldc2_w 84, 3) := by decide +kernel
theorem kw_1501 : Cond.constantLong "LandSurveyModel" 84 (564588237) ∈ uu := uu_in (i := 1501) (by decide +kernel) (by decide +kernel)
theorem dX12_init_220 : decode cX12_init 220 = .ok (.lastore, 1) := by decide +kernel
theorem dX12_init_221 : decode cX12_init 221 = .ok (.dup, 1) := by decide +kernel
theorem dX12_init_222 : decode cX12_init 222 = .ok (.bipush 26, 2) := by decide +kernel
theorem dX12_init_224 : decode cX12_init 224 = .ok (.ldc2_w 86, 3) := by decide +kernel
theorem kw_1502 : Cond.constantLong "LandSurveyModel" 86 (2253564) ∈ uu := uu_in (i := 1502) (by decide +kernel) (by decide +kernel)
theorem dX12_init_227 : decode cX12_init 227 = .ok (.lastore, 1) := by decide +kernel
theorem dX12_init_228 : decode cX12_init 228 = .ok (.dup, 1) := by decide +kernel
theorem dX12_init_229 : decode cX12_init 229 = .ok (.bipush 27, 2) := by decide +kernel
theorem dX12_init_231 : decode cX12_init 231 = .ok (.ldc2_w 88, 3) := by decide +kernel
theorem kw_1503 : Cond.constantLong "LandSurveyModel" 88 (2686664) ∈ uu := uu_in (i := 1503) (by decide +kernel) (by decide +kernel)
theorem dX12_init_234 : decode cX12_init 234 = .ok (.lastore, 1) := by decide +kernel
theorem dX12_init_235 : decode cX12_init 235 = .ok (.dup, 1) := by decide +kernel
theorem dX12_init_236 : decode cX12_init 236 = .ok (.bipush 28, 2) := by decide +kernel
theorem dX12_init_238 : decode cX12_init 238 = .ok (.ldc2_w 90, 3) := by decide +kernel
theorem kw_1504 : Cond.constantLong "LandSurveyModel" 90 (964262) ∈ uu := uu_in (i := 1504) (by decide +kernel) (by decide +kernel)
theorem dX12_init_241 : decode cX12_init 241 = .ok (.lastore, 1) := by decide +kernel
theorem dX12_init_242 : decode cX12_init 242 = .ok (.dup, 1) := by decide +kernel
theorem dX12_init_243 : decode cX12_init 243 = .ok (.bipush 29, 2) := by decide +kernel
theorem dX12_init_245 : decode cX12_init 245 = .ok (.ldc2_w 92, 3) := by decide +kernel
theorem kw_1505 : Cond.constantLong "LandSurveyModel" 92 (564640) ∈ uu := uu_in (i := 1505) (by decide +kernel) (by decide +kernel)
theorem dX12_init_248 : decode cX12_init 248 = .ok (.lastore, 1) := by decide +kernel
theorem dX12_init_249 : decode cX12_init 249 = .ok (.putfield 94, 3) := by decide +kernel
theorem pk_LandSurveyModel_9 : pk RX12 TX12 87 9 tyX12 true := ⟨tyX12_ok, nmX12, rfl⟩
theorem dX12_init_252 : decode cX12_init 252 = .ok (.aload_n 0, 1) := by decide +kernel
theorem dX12_init_253 : decode cX12_init 253 = .ok (.bipush 9, 2) := by decide +kernel
theorem dX12_init_255 : decode cX12_init 255 = .ok (.newarray .int, 2) := by decide +kernel
theorem dX12_init_257 : decode cX12_init 257 = .ok (.putfield 97, 3) := by decide +kernel
theorem pk_LandSurveyModel_11 : pk RX12 TX12 87 11 tyX12 true := ⟨tyX12_ok, nmX12, rfl⟩
theorem dX12_init_260 : decode cX12_init 260 = .ok (.aload_n 0, 1) := by decide +kernel
theorem dX12_init_261 : decode cX12_init 261 = .ok (.bipush 9, 2) := by decide +kernel
theorem dX12_init_263 : decode cX12_init 263 = .ok (.newarray .int, 2) := by decide +kernel
theorem dX12_init_265 : decode cX12_init 265 = .ok (.putfield 100, 3) := by decide +kernel
theorem pk_LandSurveyModel_12 : pk RX12 TX12 87 12 tyX12 true := ⟨tyX12_ok, nmX12, rfl⟩
theorem dX12_init_268 : decode cX12_init 268 = .ok (.aload_n 0, 1) := by decide +kernel
theorem dX12_init_269 : decode cX12_init 269 = .ok (.bipush 90, 2) := by decide +kernel
theorem dX12_init_271 : decode cX12_init 271 = .ok (.newarray .long, 2) := by decide +kernel
theorem dX12_init_273 : decode cX12_init 273 = .ok (.putfield 103, 3) := by decide +kernel
theorem pk_LandSurveyModel_13 : pk RX12 TX12 87 13 tyX12 true := ⟨tyX12_ok, nmX12, rfl⟩
theorem dX12_init_276 : decode cX12_init 276 = .ok (.aload_n 0, 1) := by decide +kernel
theorem dX12_init_277 : decode cX12_init 277 = .ok (.bipush 90, 2) := by decide +kernel
theorem dX12_init_279 : decode cX12_init 279 = .ok (.newarray .int, 2) := by decide +kernel
theorem dX12_init_281 : decode cX12_init 281 = .ok (.putfield 106, 3) := by decide +kernel
theorem pk_LandSurveyModel_14 : pk RX12 TX12 87 14 tyX12 true := ⟨tyX12_ok, nmX12, rfl⟩
theorem dX12_init_284 : decode cX12_init 284 = .ok (.aload_n 0, 1) := by decide +kernel
theorem dX12_init_285 : decode cX12_init 285 = .ok (.bipush 90, 2) := by decide +kernel
theorem dX12_init_287 : decode cX12_init 287 = .ok (.newarray .int, 2) := by decide +kernel
theorem dX12_init_289 : decode cX12_init 289 = .ok (.putfield 109, 3) := by decide +kernel
theorem pk_LandSurveyModel_15 : pk RX12 TX12 87 15 tyX12 true := ⟨tyX12_ok, nmX12, rfl⟩
theorem dX12_init_292 : decode cX12_init 292 = .ok (.aload_n 0, 1) := by decide +kernel
theorem dX12_init_293 : decode cX12_init 293 = .ok (.bipush 90, 2) := by decide +kernel
theorem dX12_init_295 : decode cX12_init 295 = .ok (.newarray .boolean, 2) := by decide +kernel
theorem dX12_init_297 : decode cX12_init 297 = .ok (.putfield 112, 3) := by decide +kernel
theorem pk_LandSurveyModel_16 : pk RX12 TX12 87 16 tyX12 true := ⟨tyX12_ok, nmX12, rfl⟩
theorem dX12_init_300 : decode cX12_init 300 = .ok (.aload_n 0, 1) := by decide +kernel
theorem dX12_init_301 : decode cX12_init 301 = .ok (.bipush 90, 2) := by decide +kernel
theorem dX12_init_303 : decode cX12_init 303 = .ok (.newarray .boolean, 2) := by decide +kernel
theorem dX12_init_305 : decode cX12_init 305 = .ok (.putfield 116, 3) := by decide +kernel
theorem pk_LandSurveyModel_17 : pk RX12 TX12 87 17 tyX12 true := ⟨tyX12_ok, nmX12, rfl⟩
theorem dX12_init_308 : decode cX12_init 308 = .ok (.aload_n 0, 1) := by decide +kernel
theorem dX12_init_309 : decode cX12_init 309 = .ok (.bipush 9, 2) := by decide +kernel
theorem dX12_init_311 : decode cX12_init 311 = .ok (.newarray .boolean, 2) := by decide +kernel
theorem dX12_init_313 : decode cX12_init 313 = .ok (.putfield 119, 3) := by decide +kernel
theorem pk_LandSurveyModel_18 : pk RX12 TX12 87 18 tyX12 true := ⟨tyX12_ok, nmX12, rfl⟩
theorem dX12_init_316 : decode cX12_init 316 = .ok (.aload_n 0, 1) := by decide +kernel
theorem dX12_init_317 : decode cX12_init 317 = .ok (.bipush 9, 2) := by decide +kernel
theorem dX12_init_319 : decode cX12_init 319 = .ok (.newarray .int, 2) := by decide +kernel
theorem dX12_init_321 : decode cX12_init 321 = .ok (.putfield 122, 3) := by decide +kernel
theorem pk_LandSurveyModel_19 : pk RX12 TX12 87 19 tyX12 true := ⟨tyX12_ok, nmX12, rfl⟩
theorem dX12_init_324 : decode cX12_init 324 = .ok (.aload_n 0, 1) := by decide +kernel
theorem dX12_init_325 : decode cX12_init 325 = .ok (.bipush 9, 2) := by decide +kernel
theorem dX12_init_327 : decode cX12_init 327 = .ok (.newarray .boolean, 2) := by decide +kernel
theorem dX12_init_329 : decode cX12_init 329 = .ok (.putfield 125, 3) := by decide +kernel
theorem pk_LandSurveyModel_20 : pk RX12 TX12 87 20 tyX12 true := ⟨tyX12_ok, nmX12, rfl⟩
theorem dX12_init_332 : decode cX12_init 332 = .ok (.aload_n 0, 1) := by decide +kernel
theorem dX12_init_333 : decode cX12_init 333 = .ok (.bipush 9, 2) := by decide +kernel
theorem dX12_init_335 : decode cX12_init 335 = .ok (.newarray .int, 2) := by decide +kernel
theorem dX12_init_337 : decode cX12_init 337 = .ok (.putfield 128, 3) := by decide +kernel
theorem pk_LandSurveyModel_21 : pk RX12 TX12 87 21 tyX12 true := ⟨tyX12_ok, nmX12, rfl⟩
theorem dX12_init_340 : decode cX12_init 340 = .ok (.aload_n 0, 1) := by decide +kernel
theorem dX12_init_341 : decode cX12_init 341 = .ok (.bipush 90, 2) := by decide +kernel
theorem dX12_init_343 : decode cX12_init 343 = .ok (.newarray .int, 2) := by decide +kernel
theorem dX12_init_345 : decode cX12_init 345 = .ok (.putfield 131, 3) := by decide +kernel
theorem pk_LandSurveyModel_22 : pk RX12 TX12 87 22 tyX12 true := ⟨tyX12_ok, nmX12, rfl⟩
theorem dX12_init_348 : decode cX12_init 348 = .ok (.aload_n 0, 1) := by decide +kernel
theorem dX12_init_349 : decode cX12_init 349 = .ok (.bipush 90, 2) := by decide +kernel
theorem dX12_init_351 : decode cX12_init 351 = .ok (.newarray .int, 2) := by decide +kernel
theorem dX12_init_353 : decode cX12_init 353 = .ok (.putfield 134, 3) := by decide +kernel
theorem pk_LandSurveyModel_23 : pk RX12 TX12 87 23 tyX12 true := ⟨tyX12_ok, nmX12, rfl⟩
theorem dX12_init_356 : decode cX12_init 356 = .ok (.aload_n 0, 1) := by decide +kernel
theorem dX12_init_357 : decode cX12_init 357 = .ok (.bipush 9, 2) := by decide +kernel
theorem dX12_init_359 : decode cX12_init 359 = .ok (.newarray .int, 2) := by decide +kernel
theorem dX12_init_361 : decode cX12_init 361 = .ok (.putfield 137, 3) := by decide +kernel
theorem pk_LandSurveyModel_24 : pk RX12 TX12 87 24 tyX12 true := ⟨tyX12_ok, nmX12, rfl⟩
theorem dX12_init_364 : decode cX12_init 364 = .ok (.aload_n 0, 1) := by decide +kernel
theorem dX12_init_365 : decode cX12_init 365 = .ok (.sipush 216, 3) := by decide +kernel
theorem dX12_init_368 : decode cX12_init 368 = .ok (.newarray .int, 2) := by decide +kernel
theorem dX12_init_370 : decode cX12_init 370 = .ok (.putfield 140, 3) := by decide +kernel
theorem pk_LandSurveyModel_25 : pk RX12 TX12 87 25 tyX12 true := ⟨tyX12_ok, nmX12, rfl⟩
theorem dX12_init_373 : decode cX12_init 373 = .ok (.aload_n 0, 1) := by decide +kernel
theorem dX12_init_374 : decode cX12_init 374 = .ok (.sipush 216, 3) := by decide +kernel
theorem dX12_init_377 : decode cX12_init 377 = .ok (.newarray .int, 2) := by decide +kernel
theorem dX12_init_379 : decode cX12_init 379 = .ok (.putfield 143, 3) := by decide +kernel
theorem pk_LandSurveyModel_26 : pk RX12 TX12 87 26 tyX12 true := ⟨tyX12_ok, nmX12, rfl⟩
theorem dX12_init_382 : decode cX12_init 382 = .ok (.aload_n 0, 1) := by decide +kernel
theorem dX12_init_383 : decode cX12_init 383 = .ok (.sipush 216, 3) := by decide +kernel
theorem dX12_init_386 : decode cX12_init 386 = .ok (.newarray .int, 2) := by decide +kernel
theorem dX12_init_388 : decode cX12_init 388 = .ok (.putfield 146, 3) := by decide +kernel
theorem pk_LandSurveyModel_27 : pk RX12 TX12 87 27 tyX12 true := ⟨tyX12_ok, nmX12, rfl⟩
theorem dX12_init_391 : decode cX12_init 391 = .ok (.aload_n 0, 1) := by decide +kernel
theorem dX12_init_392 : decode cX12_init 392 = .ok (.sipush 14400, 3) := by decide +kernel
theorem dX12_init_395 : decode cX12_init 395 = .ok (.newarray .int, 2) := by decide +kernel
theorem dX12_init_397 : decode cX12_init 397 = .ok (.putfield 149, 3) := by decide +kernel
theorem pk_LandSurveyModel_29 : pk RX12 TX12 87 29 tyX12 true := ⟨tyX12_ok, nmX12, rfl⟩
theorem dX12_init_400 : decode cX12_init 400 = .ok (.aload_n 0, 1) := by decide +kernel
theorem dX12_init_401 : decode cX12_init 401 = .ok (.sipush 14400, 3) := by decide +kernel
theorem dX12_init_404 : decode cX12_init 404 = .ok (.newarray .int, 2) := by decide +kernel
theorem dX12_init_406 : decode cX12_init 406 = .ok (.putfield 152, 3) := by decide +kernel
theorem pk_LandSurveyModel_30 : pk RX12 TX12 87 30 tyX12 true := ⟨tyX12_ok, nmX12, rfl⟩
theorem dX12_init_409 : decode cX12_init 409 = .ok (.aload_n 0, 1) := by decide +kernel
theorem dX12_init_410 : decode cX12_init 410 = .ok (.bipush 12, 2) := by decide +kernel
theorem dX12_init_412 : decode cX12_init 412 = .ok (.newarray .int, 2) := by decide +kernel
theorem dX12_init_414 : decode cX12_init 414 = .ok (.putfield 155, 3) := by decide +kernel
theorem pk_LandSurveyModel_31 : pk RX12 TX12 87 31 tyX12 true := ⟨tyX12_ok, nmX12, rfl⟩
theorem dX12_init_417 : decode cX12_init 417 = .ok (.aload_n 0, 1) := by decide +kernel
theorem dX12_init_418 : decode cX12_init 418 = .ok (.sipush 1600, 3) := by decide +kernel
theorem dX12_init_421 : decode cX12_init 421 = .ok (.newarray .int, 2) := by decide +kernel
theorem dX12_init_423 : decode cX12_init 423 = .ok (.putfield 158, 3) := by decide +kernel
theorem pk_LandSurveyModel_32 : pk RX12 TX12 87 32 tyX12 true := ⟨tyX12_ok, nmX12, rfl⟩
theorem dX12_init_426 : decode cX12_init 426 = .ok (.aload_n 0, 1) := by decide +kernel
theorem dX12_init_427 : decode cX12_init 427 = .ok (.bipush 96, 2) := by decide +kernel
theorem dX12_init_429 : decode cX12_init 429 = .ok (.newarray .int, 2) := by decide +kernel
theorem dX12_init_431 : decode cX12_init 431 = .ok (.putfield 161, 3) := by decide +kernel
theorem pk_LandSurveyModel_36 : pk RX12 TX12 87 36 tyX12 true := ⟨tyX12_ok, nmX12, rfl⟩
theorem dX12_init_434 : decode cX12_init 434 = .ok (.aload_n 0, 1) := by decide +kernel
theorem dX12_init_435 : decode cX12_init 435 = .ok (.bipush 96, 2) := by decide +kernel
theorem dX12_init_437 : decode cX12_init 437 = .ok (.newarray .boolean, 2) := by decide +kernel
theorem dX12_init_439 : decode cX12_init 439 = .ok (.putfield 164, 3) := by decide +kernel
theorem pk_LandSurveyModel_37 : pk RX12 TX12 87 37 tyX12 true := ⟨tyX12_ok, nmX12, rfl⟩
theorem dX12_init_442 : decode cX12_init 442 = .ok (.aload_n 0, 1) := by decide +kernel
theorem dX12_init_443 : decode cX12_init 443 = .ok (.bipush 96, 2) := by decide +kernel
theorem dX12_init_445 : decode cX12_init 445 = .ok (.newarray .boolean, 2) := by decide +kernel
theorem dX12_init_447 : decode cX12_init 447 = .ok (.putfield 167, 3) := by decide +kernel
theorem pk_LandSurveyModel_38 : pk RX12 TX12 87 38 tyX12 true := ⟨tyX12_ok, nmX12, rfl⟩
theorem dX12_init_450 : decode cX12_init 450 = .ok (.aload_n 0, 1) := by decide +kernel
theorem dX12_init_451 : decode cX12_init 451 = .ok (.bipush 96, 2) := by decide +kernel
theorem dX12_init_453 : decode cX12_init 453 = .ok (.newarray .int, 2) := by decide +kernel
theorem dX12_init_455 : decode cX12_init 455 = .ok (.putfield 170, 3) := by decide +kernel
theorem pk_LandSurveyModel_39 : pk RX12 TX12 87 39 tyX12 true := ⟨tyX12_ok, nmX12, rfl⟩
theorem dX12_init_458 : decode cX12_init 458 = .ok (.aload_n 0, 1) := by decide +kernel
theorem dX12_init_459 : decode cX12_init 459 = .ok (.bipush 40, 2) := by decide +kernel
theorem dX12_init_461 : decode cX12_init 461 = .ok (.newarray .int, 2) := by decide +kernel
theorem dX12_init_463 : decode cX12_init 463 = .ok (.putfield 173, 3) := by decide +kernel
theorem pk_LandSurveyModel_41 : pk RX12 TX12 87 41 tyX12 true := ⟨tyX12_ok, nmX12, rfl⟩
theorem dX12_init_466 : decode cX12_init 466 = .ok (.aload_n 0, 1) := by decide +kernel
theorem dX12_init_467 : decode cX12_init 467 = .ok (.bipush 40, 2) := by decide +kernel
theorem dX12_init_469 : decode cX12_init 469 = .ok (.newarray .int, 2) := by decide +kernel
theorem dX12_init_471 : decode cX12_init 471 = .ok (.putfield 176, 3) := by decide +kernel
theorem pk_LandSurveyModel_42 : pk RX12 TX12 87 42 tyX12 true := ⟨tyX12_ok, nmX12, rfl⟩
theorem dX12_init_474 : decode cX12_init 474 = .ok (.aload_n 0, 1) := by decide +kernel
theorem dX12_init_475 : decode cX12_init 475 = .ok (.bipush 40, 2) := by decide +kernel
theorem dX12_init_477 : decode cX12_init 477 = .ok (.newarray .int, 2) := by decide +kernel
theorem dX12_init_479 : decode cX12_init 479 = .ok (.putfield 179, 3) := by decide +kernel
theorem pk_LandSurveyModel_43 : pk RX12 TX12 87 43 tyX12 true := ⟨tyX12_ok, nmX12, rfl⟩
theorem dX12_init_482 : decode cX12_init 482 = .ok (.aload_n 0, 1) := by decide +kernel
theorem dX12_init_483 : decode cX12_init 483 = .ok (.bipush 40, 2) := by decide +kernel
theorem dX12_init_485 : decode cX12_init 485 = .ok (.newarray .int, 2) := by decide +kernel
theorem dX12_init_487 : decode cX12_init 487 = .ok (.putfield 182, 3) := by decide +kernel
theorem pk_LandSurveyModel_44 : pk RX12 TX12 87 44 tyX12 true := ⟨tyX12_ok, nmX12, rfl⟩
theorem dX12_init_490 : decode cX12_init 490 = .ok (.aload_n 0, 1) := by decide +kernel
theorem dX12_init_491 : decode cX12_init 491 = .ok (.bipush 40, 2) := by decide +kernel
theorem dX12_init_493 : decode cX12_init 493 = .ok (.newarray .int, 2) := by decide +kernel
theorem dX12_init_495 : decode cX12_init 495 = .ok (.putfield 185, 3) := by decide +kernel
theorem pk_LandSurveyModel_45 : pk RX12 TX12 87 45 tyX12 true := ⟨tyX12_ok, nmX12, rfl⟩
theorem dX12_init_498 : decode cX12_init 498 = .ok (.aload_n 0, 1) := by decide +kernel
theorem dX12_init_499 : decode cX12_init 499 = .ok (.bipush 40, 2) := by decide +kernel
theorem dX12_init_501 : decode cX12_init 501 = .ok (.newarray .int, 2) := by decide +kernel
theorem dX12_init_503 : decode cX12_init 503 = .ok (.putfield 188, 3) := by decide +kernel
theorem pk_LandSurveyModel_46 : pk RX12 TX12 87 46 tyX12 true := ⟨tyX12_ok, nmX12, rfl⟩
theorem dX12_init_506 : decode cX12_init 506 = .ok (.aload_n 0, 1) := by decide +kernel
theorem dX12_init_507 : decode cX12_init 507 = .ok (.bipush 40, 2) := by decide +kernel
theorem dX12_init_509 : decode cX12_init 509 = .ok (.newarray .int, 2) := by decide +kernel
theorem dX12_init_511 : decode cX12_init 511 = .ok (.putfield 191, 3) := by decide +kernel
theorem pk_LandSurveyModel_47 : pk RX12 TX12 87 47 tyX12 true := ⟨tyX12_ok, nmX12, rfl⟩
theorem dX12_init_514 : decode cX12_init 514 = .ok (.aload_n 0, 1) := by decide +kernel
theorem dX12_init_515 : decode cX12_init 515 = .ok (.bipush 40, 2) := by decide +kernel
theorem dX12_init_517 : decode cX12_init 517 = .ok (.newarray .int, 2) := by decide +kernel
theorem dX12_init_519 : decode cX12_init 519 = .ok (.putfield 194, 3) := by decide +kernel
theorem pk_LandSurveyModel_48 : pk RX12 TX12 87 48 tyX12 true := ⟨tyX12_ok, nmX12, rfl⟩
theorem dX12_init_522 : decode cX12_init 522 = .ok (.aload_n 0, 1) := by decide +kernel
theorem dX12_init_523 : decode cX12_init 523 = .ok (.bipush 40, 2) := by decide +kernel
theorem dX12_init_525 : decode cX12_init 525 = .ok (.newarray .int, 2) := by decide +kernel
theorem dX12_init_527 : decode cX12_init 527 = .ok (.putfield 197, 3) := by decide +kernel
theorem pk_LandSurveyModel_49 : pk RX12 TX12 87 49 tyX12 true := ⟨tyX12_ok, nmX12, rfl⟩
theorem dX12_init_530 : decode cX12_init 530 = .ok (.aload_n 0, 1) := by decide +kernel
theorem dX12_init_531 : decode cX12_init 531 = .ok (.bipush 40, 2) := by decide +kernel
theorem dX12_init_533 : decode cX12_init 533 = .ok (.newarray .int, 2) := by decide +kernel
theorem dX12_init_535 : decode cX12_init 535 = .ok (.putfield 200, 3) := by decide +kernel
theorem pk_LandSurveyModel_50 : pk RX12 TX12 87 50 tyX12 true := ⟨tyX12_ok, nmX12, rfl⟩
theorem dX12_init_538 : decode cX12_init 538 = .ok (.aload_n 0, 1) := by decide +kernel
theorem dX12_init_539 : decode cX12_init 539 = .ok (.bipush 40, 2) := by decide +kernel
theorem dX12_init_541 : decode cX12_init 541 = .ok (.newarray .int, 2) := by decide +kernel
theorem dX12_init_543 : decode cX12_init 543 = .ok (.putfield 203, 3) := by decide +kernel
theorem pk_LandSurveyModel_51 : pk RX12 TX12 87 51 tyX12 true := ⟨tyX12_ok, nmX12, rfl⟩
theorem dX12_init_546 : decode cX12_init 546 = .ok (.aload_n 0, 1) := by decide +kernel
theorem dX12_init_547 : decode cX12_init 547 = .ok (.bipush 40, 2) := by decide +kernel
theorem dX12_init_549 : decode cX12_init 549 = .ok (.newarray .boolean, 2) := by decide +kernel
theorem dX12_init_551 : decode cX12_init 551 = .ok (.putfield 206, 3) := by decide +kernel
theorem pk_LandSurveyModel_52 : pk RX12 TX12 87 52 tyX12 true := ⟨tyX12_ok, nmX12, rfl⟩
theorem dX12_init_554 : decode cX12_init 554 = .ok (.aload_n 0, 1) := by decide +kernel
theorem dX12_init_555 : decode cX12_init 555 = .ok (.bipush 40, 2) := by decide +kernel
theorem dX12_init_557 : decode cX12_init 557 = .ok (.newarray .boolean, 2) := by decide +kernel
theorem dX12_init_559 : decode cX12_init 559 = .ok (.putfield 209, 3) := by decide +kernel
theorem pk_LandSurveyModel_53 : pk RX12 TX12 87 53 tyX12 true := ⟨tyX12_ok, nmX12, rfl⟩
theorem dX12_init_562 : decode cX12_init 562 = .ok (.aload_n 0, 1) := by decide +kernel
theorem dX12_init_563 : decode cX12_init 563 = .ok (.bipush 40, 2) := by decide +kernel
theorem dX12_init_565 : decode cX12_init 565 = .ok (.newarray .int, 2) := by decide +kernel
theorem dX12_init_567 : decode cX12_init 567 = .ok (.putfield 212, 3) := by decide +kernel
theorem pk_LandSurveyModel_54 : pk RX12 TX12 87 54 tyX12 true := ⟨tyX12_ok, nmX12, rfl⟩
theorem dX12_init_570 : decode cX12_init 570 = .ok (.aload_n 0, 1) := by decide +kernel
theorem dX12_init_571 : decode cX12_init 571 = .ok (.bipush 40, 2) := by decide +kernel
theorem dX12_init_573 : decode cX12_init 573 = .ok (.newarray .int, 2) := by decide +kernel
theorem dX12_init_575 : decode cX12_init 575 = .ok (.putfield 215, 3) := by decide +kernel
theorem pk_LandSurveyModel_55 : pk RX12 TX12 87 55 tyX12 true := ⟨tyX12_ok, nmX12, rfl⟩
theorem dX12_init_578 : decode cX12_init 578 = .ok (.aload_n 0, 1) := by decide +kernel
theorem dX12_init_579 : decode cX12_init 579 = .ok (.bipush 40, 2) := by decide +kernel
theorem dX12_init_581 : decode cX12_init 581 = .ok (.newarray .int, 2) := by decide +kernel
theorem dX12_init_583 : decode cX12_init 583 = .ok (.putfield 218, 3) := by decide +kernel
theorem pk_LandSurveyModel_56 : pk RX12 TX12 87 56 tyX12 true := ⟨tyX12_ok, nmX12, rfl⟩
theorem dX12_init_586 : decode cX12_init 586 = .ok (.aload_n 0, 1) := by decide +kernel
theorem dX12_init_587 : decode cX12_init 587 = .ok (.sipush 768, 3) := by decide +kernel
theorem dX12_init_590 : decode cX12_init 590 = .ok (.newarray .boolean, 2) := by decide +kernel
theorem dX12_init_592 : decode cX12_init 592 = .ok (.putfield 221, 3) := by decide +kernel
theorem pk_LandSurveyModel_58 : pk RX12 TX12 87 58 tyX12 true := ⟨tyX12_ok, nmX12, rfl⟩
theorem dX12_init_595 : decode cX12_init 595 = .ok (.aload_n 0, 1) := by decide +kernel
theorem dX12_init_596 : decode cX12_init 596 = .ok (.iconst 4, 1) := by decide +kernel
theorem dX12_init_597 : decode cX12_init 597 = .ok (.newarray .int, 2) := by decide +kernel
theorem dX12_init_599 : decode cX12_init 599 = .ok (.putfield 224, 3) := by decide +kernel
theorem pk_LandSurveyModel_59 : pk RX12 TX12 87 59 tyX12 true := ⟨tyX12_ok, nmX12, rfl⟩
theorem dX12_init_602 : decode cX12_init 602 = .ok (.aload_n 0, 1) := by decide +kernel
theorem dX12_init_603 : decode cX12_init 603 = .ok (.iconst 4, 1) := by decide +kernel
theorem dX12_init_604 : decode cX12_init 604 = .ok (.newarray .int, 2) := by decide +kernel
theorem dX12_init_606 : decode cX12_init 606 = .ok (.putfield 227, 3) := by decide +kernel
theorem pk_LandSurveyModel_60 : pk RX12 TX12 87 60 tyX12 true := ⟨tyX12_ok, nmX12, rfl⟩
theorem dX12_init_609 : decode cX12_init 609 = .ok (.aload_n 0, 1) := by decide +kernel
theorem dX12_init_610 : decode cX12_init 610 = .ok (.iconst 4, 1) := by decide +kernel
theorem dX12_init_611 : decode cX12_init 611 = .ok (.newarray .int, 2) := by decide +kernel
theorem dX12_init_613 : decode cX12_init 613 = .ok (.putfield 230, 3) := by decide +kernel
theorem pk_LandSurveyModel_61 : pk RX12 TX12 87 61 tyX12 true := ⟨tyX12_ok, nmX12, rfl⟩
theorem dX12_init_616 : decode cX12_init 616 = .ok (.aload_n 0, 1) := by decide +kernel
theorem dX12_init_617 : decode cX12_init 617 = .ok (.sipush 600, 3) := by decide +kernel
theorem dX12_init_620 : decode cX12_init 620 = .ok (.newarray .int, 2) := by decide +kernel
theorem dX12_init_622 : decode cX12_init 622 = .ok (.putfield 233, 3) := by decide +kernel
theorem pk_LandSurveyModel_63 : pk RX12 TX12 87 63 tyX12 true := ⟨tyX12_ok, nmX12, rfl⟩
theorem dX12_init_625 : decode cX12_init 625 = .ok (.aload_n 0, 1) := by decide +kernel
theorem dX12_init_626 : decode cX12_init 626 = .ok (.sipush 600, 3) := by decide +kernel
theorem dX12_init_629 : decode cX12_init 629 = .ok (.newarray .int, 2) := by decide +kernel
theorem dX12_init_631 : decode cX12_init 631 = .ok (.putfield 236, 3) := by decide +kernel
theorem pk_LandSurveyModel_64 : pk RX12 TX12 87 64 tyX12 true := ⟨tyX12_ok, nmX12, rfl⟩
theorem dX12_init_634 : decode cX12_init 634 = .ok (.aload_n 0, 1) := by decide +kernel
theorem dX12_init_635 : decode cX12_init 635 = .ok (.sipush 600, 3) := by decide +kernel
theorem dX12_init_638 : decode cX12_init 638 = .ok (.newarray .int, 2) := by decide +kernel
theorem dX12_init_640 : decode cX12_init 640 = .ok (.putfield 239, 3) := by decide +kernel
theorem pk_LandSurveyModel_65 : pk RX12 TX12 87 65 tyX12 true := ⟨tyX12_ok, nmX12, rfl⟩
theorem dX12_init_643 : decode cX12_init 643 = .ok (.aload_n 0, 1) := by decide +kernel
theorem dX12_init_644 : decode cX12_init 644 = .ok (.sipush 600, 3) := by decide +kernel
theorem dX12_init_647 : decode cX12_init 647 = .ok (.newarray .int, 2) := by decide +kernel
theorem dX12_init_649 : decode cX12_init 649 = .ok (.putfield 242, 3) := by decide +kernel
theorem pk_LandSurveyModel_66 : pk RX12 TX12 87 66 tyX12 true := ⟨tyX12_ok, nmX12, rfl⟩
theorem dX12_init_652 : decode cX12_init 652 = .ok (.aload_n 0, 1) := by decide +kernel
theorem dX12_init_653 : decode cX12_init 653 = .ok (.bipush 97, 2) := by decide +kernel
theorem dX12_init_655 : decode cX12_init 655 = .ok (.newarray .int, 2) := by decide +kernel
theorem dX12_init_657 : decode cX12_init 657 = .ok (.putfield 245, 3) := by decide +kernel
theorem pk_LandSurveyModel_67 : pk RX12 TX12 87 67 tyX12 true := ⟨tyX12_ok, nmX12, rfl⟩
theorem dX12_init_660 : decode cX12_init 660 = .ok (.aload_n 0, 1) := by decide +kernel
theorem dX12_init_661 : decode cX12_init 661 = .ok (.bipush 97, 2) := by decide +kernel
theorem dX12_init_663 : decode cX12_init 663 = .ok (.newarray .int, 2) := by decide +kernel
theorem dX12_init_665 : decode cX12_init 665 = .ok (.putfield 248, 3) := by decide +kernel
theorem pk_LandSurveyModel_68 : pk RX12 TX12 87 68 tyX12 true := ⟨tyX12_ok, nmX12, rfl⟩
theorem dX12_init_668 : decode cX12_init 668 = .ok (.aload_n 0, 1) := by decide +kernel
theorem dX12_init_669 : decode cX12_init 669 = .ok (.bipush 16, 2) := by decide +kernel
theorem dX12_init_671 : decode cX12_init 671 = .ok (.newarray .boolean, 2) := by decide +kernel
theorem dX12_init_673 : decode cX12_init 673 = .ok (.putfield 251, 3) := by decide +kernel
theorem pk_LandSurveyModel_70 : pk RX12 TX12 87 70 tyX12 true := ⟨tyX12_ok, nmX12, rfl⟩
theorem dX12_init_676 : decode cX12_init 676 = .ok (.aload_n 0, 1) := by decide +kernel
theorem dX12_init_677 : decode cX12_init 677 = .ok (.bipush 16, 2) := by decide +kernel
theorem dX12_init_679 : decode cX12_init 679 = .ok (.newarray .int, 2) := by decide +kernel
theorem dX12_init_681 : decode cX12_init 681 = .ok (.putfield 254, 3) := by decide +kernel
theorem pk_LandSurveyModel_71 : pk RX12 TX12 87 71 tyX12 true := ⟨tyX12_ok, nmX12, rfl⟩
theorem dX12_init_684 : decode cX12_init 684 = .ok (.aload_n 0, 1) := by decide +kernel
theorem dX12_init_685 : decode cX12_init 685 = .ok (.bipush 16, 2) := by decide +kernel
theorem dX12_init_687 : decode cX12_init 687 = .ok (.newarray .long, 2) := by decide +kernel
theorem dX12_init_689 : decode cX12_init 689 = .ok (.putfield 257, 3) := by decide +kernel
theorem pk_LandSurveyModel_72 : pk RX12 TX12 87 72 tyX12 true := ⟨tyX12_ok, nmX12, rfl⟩
theorem dX12_init_692 : decode cX12_init 692 = .ok (.aload_n 0, 1) := by decide +kernel
theorem dX12_init_693 : decode cX12_init 693 = .ok (.bipush 16, 2) := by decide +kernel
theorem dX12_init_695 : decode cX12_init 695 = .ok (.newarray .boolean, 2) := by decide +kernel
theorem dX12_init_697 : decode cX12_init 697 = .ok (.putfield 260, 3) := by decide +kernel
theorem pk_LandSurveyModel_73 : pk RX12 TX12 87 73 tyX12 true := ⟨tyX12_ok, nmX12, rfl⟩
theorem dX12_init_700 : decode cX12_init 700 = .ok (.aload_n 0, 1) := by decide +kernel
theorem dX12_init_701 : decode cX12_init 701 = .ok (.bipush 16, 2) := by decide +kernel
theorem dX12_init_703 : decode cX12_init 703 = .ok (.newarray .boolean, 2) := by decide +kernel
theorem dX12_init_705 : decode cX12_init 705 = .ok (.putfield 263, 3) := by decide +kernel
theorem pk_LandSurveyModel_74 : pk RX12 TX12 87 74 tyX12 true := ⟨tyX12_ok, nmX12, rfl⟩
theorem dX12_init_708 : decode cX12_init 708 = .ok (.aload_n 0, 1) := by decide +kernel
theorem dX12_init_709 : decode cX12_init 709 = .ok (.sipush 1536, 3) := by decide +kernel
theorem dX12_init_712 : decode cX12_init 712 = .ok (.newarray .int, 2) := by decide +kernel
theorem dX12_init_714 : decode cX12_init 714 = .ok (.putfield 266, 3) := by decide +kernel
theorem pk_LandSurveyModel_75 : pk RX12 TX12 87 75 tyX12 true := ⟨tyX12_ok, nmX12, rfl⟩
theorem dX12_init_717 : decode cX12_init 717 = .ok (.aload_n 0, 1) := by decide +kernel
theorem dX12_init_718 : decode cX12_init 718 = .ok (.sipush 1536, 3) := by decide +kernel
theorem dX12_init_721 : decode cX12_init 721 = .ok (.newarray .int, 2) := by decide +kernel
theorem dX12_init_723 : decode cX12_init 723 = .ok (.putfield 269, 3) := by decide +kernel
theorem pk_LandSurveyModel_76 : pk RX12 TX12 87 76 tyX12 true := ⟨tyX12_ok, nmX12, rfl⟩
theorem dX12_init_726 : decode cX12_init 726 = .ok (.aload_n 0, 1) := by decide +kernel
theorem dX12_init_727 : decode cX12_init 727 = .ok (.sipush 960, 3) := by decide +kernel
theorem dX12_init_730 : decode cX12_init 730 = .ok (.newarray .int, 2) := by decide +kernel
theorem dX12_init_732 : decode cX12_init 732 = .ok (.putfield 272, 3) := by decide +kernel
theorem pk_LandSurveyModel_81 : pk RX12 TX12 87 81 tyX12 true := ⟨tyX12_ok, nmX12, rfl⟩
theorem dX12_init_735 : decode cX12_init 735 = .ok (.aload_n 0, 1) := by decide +kernel
theorem dX12_init_736 : decode cX12_init 736 = .ok (.bipush 96, 2) := by decide +kernel
theorem dX12_init_738 : decode cX12_init 738 = .ok (.newarray .boolean, 2) := by decide +kernel
theorem dX12_init_740 : decode cX12_init 740 = .ok (.putfield 275, 3) := by decide +kernel
theorem pk_LandSurveyModel_82 : pk RX12 TX12 87 82 tyX12 true := ⟨tyX12_ok, nmX12, rfl⟩
theorem dX12_init_743 : decode cX12_init 743 = .ok (.aload_n 0, 1) := by decide +kernel
theorem dX12_init_744 : decode cX12_init 744 = .ok (.bipush 8, 2) := by decide +kernel
theorem dX12_init_746 : decode cX12_init 746 = .ok (.newarray .int, 2) := by decide +kernel
theorem dX12_init_748 : decode cX12_init 748 = .ok (.putfield 278, 3) := by decide +kernel
theorem pk_LandSurveyModel_84 : pk RX12 TX12 87 84 tyX12 true := ⟨tyX12_ok, nmX12, rfl⟩
theorem dX12_init_751 : decode cX12_init 751 = .ok (.aload_n 0, 1) := by decide +kernel
theorem dX12_init_752 : decode cX12_init 752 = .ok (.bipush 8, 2) := by decide +kernel
theorem dX12_init_754 : decode cX12_init 754 = .ok (.newarray .int, 2) := by decide +kernel
theorem dX12_init_756 : decode cX12_init 756 = .ok (.putfield 281, 3) := by decide +kernel
theorem pk_LandSurveyModel_85 : pk RX12 TX12 87 85 tyX12 true := ⟨tyX12_ok, nmX12, rfl⟩
theorem dX12_init_759 : decode cX12_init 759 = .ok (.aload_n 0, 1) := by decide +kernel
theorem dX12_init_760 : decode cX12_init 760 = .ok (.bipush 97, 2) := by decide +kernel
theorem dX12_init_762 : decode cX12_init 762 = .ok (.newarray .int, 2) := by decide +kernel
theorem dX12_init_764 : decode cX12_init 764 = .ok (.putfield 284, 3) := by decide +kernel
theorem pk_LandSurveyModel_86 : pk RX12 TX12 87 86 tyX12 true := ⟨tyX12_ok, nmX12, rfl⟩
theorem dX12_init_767 : decode cX12_init 767 = .ok (.iconst 0, 1) := by decide +kernel
theorem dX12_init_768 : decode cX12_init 768 = .ok (.istore_n 1, 1) := by decide +kernel
theorem dX12_init_769 : decode cX12_init 769 = .ok (.iload_n 1, 1) := by decide +kernel
theorem dX12_init_770 : decode cX12_init 770 = .ok (.bipush 96, 2) := by decide +kernel
theorem dX12_init_772 : decode cX12_init 772 = .ok (.if_icmp .ge 32, 3) := by decide +kernel
theorem dX12_init_804 : decode cX12_init 804 = .ok (.aload_n 0, 1) := by decide +kernel
theorem dX12_init_805 : decode cX12_init 805 = .ok (.iconst (-1), 1) := by decide +kernel
theorem dX12_init_806 : decode cX12_init 806 = .ok (.putfield 287, 3) := by decide +kernel
theorem dX12_init_809 : decode cX12_init 809 = .ok (.aload_n 0, 1) := by decide +kernel
theorem dX12_init_810 : decode cX12_init 810 = .ok (.iconst 1, 1) := by decide +kernel
theorem dX12_init_811 : decode cX12_init 811 = .ok (.putfield 290, 3) := by decide +kernel
theorem dX12_init_814 : decode cX12_init 814 = .ok (.return_, 1) := by decide +kernel
theorem dX12_init_775 : decode cX12_init 775 = .ok (.aload_n 0, 1) := by decide +kernel
theorem dX12_init_776 : decode cX12_init 776 = .ok (.getfield 161, 3) := by decide +kernel
theorem dX12_init_779 : decode cX12_init 779 = .ok (.iload_n 1, 1) := by decide +kernel
theorem dX12_init_780 : decode cX12_init 780 = .ok (.sipush 500, 3) := by decide +kernel
theorem dX12_init_783 : decode cX12_init 783 = .ok (.iastore, 1) := by decide +kernel
theorem dX12_init_784 : decode cX12_init 784 = .ok (.aload_n 0, 1) := by decide +kernel
theorem dX12_init_785 : decode cX12_init 785 = .ok (.getfield 164, 3) := by decide +kernel
theorem dX12_init_788 : decode cX12_init 788 = .ok (.iload_n 1, 1) := by decide +kernel
theorem dX12_init_789 : decode cX12_init 789 = .ok (.iconst 1, 1) := by decide +kernel
theorem dX12_init_790 : decode cX12_init 790 = .ok (.bastore, 1) := by decide +kernel
theorem dX12_init_791 : decode cX12_init 791 = .ok (.aload_n 0, 1) := by decide +kernel
theorem dX12_init_792 : decode cX12_init 792 = .ok (.getfield 170, 3) := by decide +kernel
theorem dX12_init_795 : decode cX12_init 795 = .ok (.iload_n 1, 1) := by decide +kernel
theorem dX12_init_796 : decode cX12_init 796 = .ok (.iconst (-1), 1) := by decide +kernel
theorem dX12_init_797 : decode cX12_init 797 = .ok (.iastore, 1) := by decide +kernel
theorem dX12_init_798 : decode cX12_init 798 = .ok (.iinc 1 1, 3) := by decide +kernel
theorem dX12_init_801 : decode cX12_init 801 = .ok (.goto (-32), 3) := by decide +kernel
def wr_k_X12_init : List Nat := [202401, 202404, 202405, 202406, 202409, 202411, 202412, 202413, 202414, 202415, 202416, 202417, 202418, 202419, 202420, 202421, 202422, 202423, 202424, 202425, 202426, 202427, 202429, 202430, 202431, 202432, 202434, 202435, 202436, 202437, 202438, 202439, 202441, 202442, 202443, 202444, 202445, 202446, 202447, 202448, 202449, 202450, 202451, 202452, 202453, 202454, 202455, 202456, 202458, 202459, 202460, 202461, 202463, 202464, 202465, 202466, 202467, 202468, 202470, 202471, 202472, 202473, 202474, 202475, 202476, 202481, 202482, 202484, 202485, 202486, 21820400, 27220000, 27420200, 27820000, 1000101100, 1000104100, 1000105100, 1000106102, 1000109102, 1000111100, 1000112100, 1000113102, 1000114100, 1000115100, 1000116101, 1000117101, 1000118101, 1000119100, 1000120101, 1000121100, 1000122100, 1000123100, 1000124100, 1000125100, 1000126100, 1000127100, 1000129100, 1000130100, 1000131100, 1000132100, 1000136100, 1000137101, 1000138101, 1000139100, 1000141100, 1000142100, 1000143100, 1000144100, 1000145100, 1000146100, 1000147100, 1000148100, 1000149100, 1000150100, 1000151100, 1000152101, 1000153101, 1000154100, 1000155100, 1000156100, 1000158101, 1000159100, 1000160100, 1000161100, 1000163100, 1000164100, 1000165100, 1000166100, 1000167100, 1000168100, 1000170101, 1000171100, 1000172102, 1000173101, 1000174101, 1000175100, 1000176100, 1000181100, 1000182101, 1000184100, 1000185100, 1000186100]
set_option maxRecDepth 100000 in
set_option maxHeartbeats 4000000 in
theorem k_X12_init (l : Launch) (D : va_G) (cy : Nat → ClassId) (w : Nat → Nat) (z0 : Nat) {h : Hp} {a0 : Nat}  (O : Okh h) (ta0 : Tg h a0 = 1012) (P_zm : Iv h a0 10 = 0 ∧ Iv h a0 33 = 0) : MV l D cy w z0 yX12_init cX12_init 2 none 1 24 68 46508 [.inr (.inr a0)] h (fun h1 => Okh h1 ∧ Fx wr_k_X12_init h h1 ∧ (¬ Rv h1 a0 1 = 0) ∧ (¬ Rv h1 a0 4 = 0) ∧ (¬ Rv h1 a0 5 = 0) ∧ (¬ Rv h1 a0 6 = 0) ∧ (¬ Rv h1 a0 9 = 0) ∧ (¬ Rv h1 a0 11 = 0) ∧ (¬ Rv h1 a0 12 = 0) ∧ (¬ Rv h1 a0 13 = 0) ∧ (¬ Rv h1 a0 14 = 0) ∧ (¬ Rv h1 a0 15 = 0) ∧ (¬ Rv h1 a0 16 = 0) ∧ (¬ Rv h1 a0 17 = 0) ∧ (¬ Rv h1 a0 18 = 0) ∧ (¬ Rv h1 a0 19 = 0) ∧ (¬ Rv h1 a0 20 = 0) ∧ (¬ Rv h1 a0 21 = 0) ∧ (¬ Rv h1 a0 22 = 0) ∧ (¬ Rv h1 a0 23 = 0) ∧ (¬ Rv h1 a0 24 = 0) ∧ (¬ Rv h1 a0 25 = 0) ∧ (¬ Rv h1 a0 26 = 0) ∧ (¬ Rv h1 a0 27 = 0) ∧ (¬ Rv h1 a0 29 = 0) ∧ (¬ Rv h1 a0 30 = 0) ∧ (¬ Rv h1 a0 31 = 0) ∧ (¬ Rv h1 a0 32 = 0) ∧ (¬ Rv h1 a0 36 = 0) ∧ (¬ Rv h1 a0 37 = 0) ∧ (¬ Rv h1 a0 38 = 0) ∧ (¬ Rv h1 a0 39 = 0) ∧ (¬ Rv h1 a0 41 = 0) ∧ (¬ Rv h1 a0 42 = 0) ∧ (¬ Rv h1 a0 43 = 0) ∧ (¬ Rv h1 a0 44 = 0) ∧ (¬ Rv h1 a0 45 = 0) ∧ (¬ Rv h1 a0 46 = 0) ∧ (¬ Rv h1 a0 47 = 0) ∧ (¬ Rv h1 a0 48 = 0) ∧ (¬ Rv h1 a0 49 = 0) ∧ (¬ Rv h1 a0 50 = 0) ∧ (¬ Rv h1 a0 51 = 0) ∧ (¬ Rv h1 a0 52 = 0) ∧ (¬ Rv h1 a0 53 = 0) ∧ (¬ Rv h1 a0 54 = 0) ∧ (¬ Rv h1 a0 55 = 0) ∧ (¬ Rv h1 a0 56 = 0) ∧ (¬ Rv h1 a0 58 = 0) ∧ (¬ Rv h1 a0 59 = 0) ∧ (¬ Rv h1 a0 60 = 0) ∧ (¬ Rv h1 a0 61 = 0) ∧ (¬ Rv h1 a0 63 = 0) ∧ (¬ Rv h1 a0 64 = 0) ∧ (¬ Rv h1 a0 65 = 0) ∧ (¬ Rv h1 a0 66 = 0) ∧ (¬ Rv h1 a0 67 = 0) ∧ (¬ Rv h1 a0 68 = 0) ∧ (¬ Rv h1 a0 70 = 0) ∧ (¬ Rv h1 a0 71 = 0) ∧ (¬ Rv h1 a0 72 = 0) ∧ (¬ Rv h1 a0 73 = 0) ∧ (¬ Rv h1 a0 74 = 0) ∧ (¬ Rv h1 a0 75 = 0) ∧ (¬ Rv h1 a0 76 = 0) ∧ (¬ Rv h1 a0 81 = 0) ∧ (¬ Rv h1 a0 82 = 0) ∧ (¬ Rv h1 a0 84 = 0) ∧ (¬ Rv h1 a0 85 = 0) ∧ (¬ Rv h1 a0 86 = 0) ∧ (MInv h1 a0)) := by
  refine hm_go (by decide +kernel) (Nat.le_of_ble_eq_true rfl) (fun p e s m below meth c C hr hn => ?_)
  refine g_aload_n C rfl 0 rfl dX12_init_0 ?_
  refine g_oinit C (tg_nz ta0) kw_1475 kw_178 (by decide) (Nat.le_of_ble_eq_true rfl) dX12_init_1 ?_
  refine g_aload_n C rfl 0 rfl dX12_init_4 ?_
  refine g_sipush C (by decide) dX12_init_5 ?_
  refine g_newa (atype := .int) (t := 0) (ty := .int) (N := 1500) C 101100 rfl (iw (il 1500) (by decide) (by decide)) (by decide) rfl kw_224 rfl (fun _ => rfl) (by decide) (by decide) (by decide) (by decide) dX12_init_8 (fun n1 z2 z3 h5 hh4 => ?_)
  have O6 := O.pN z2 z3 hh4 (by decide) nn_101100
  have e7 : Tg h5 a0 = 1012 := ((pNT hh4 (pN_n hh4 z3 ta0)).trans ta0)
  refine gp_RF C fk_LandSurveyModel_14 pk_LandSurveyModel_1 rfl e7 hn rfl (nf_a _ _) dX12_init_10 (fun h9 hh8 => ?_)
  have O10 := O6.pR e7 hh8 (okR_l rE_1012_1 (pN_T hh4) (pN_L hh4))
  refine g_aload_n C rfl 0 rfl dX12_init_13 ?_
  refine g_sipush C (by decide) dX12_init_14 ?_
  refine g_newa (atype := .int) (t := 0) (ty := .int) (N := 1502) C 104100 rfl (iw (il 1502) (by decide) (by decide)) (by decide) rfl kw_224 rfl (fun _ => rfl) (by decide) (by decide) (by decide) (by decide) dX12_init_17 (fun n11 z12 z13 h15 hh14 => ?_)
  have O16 := O10.pN z12 z13 hh14 (by decide) nn_104100
  have e17 : Tg h9 a0 = 1012 := ((pRT hh8).trans e7)
  have e18 : Tg h15 a0 = 1012 := ((pNT hh14 (pN_n hh14 z13 e17)).trans e17)
  refine gp_RF C fk_LandSurveyModel_24 pk_LandSurveyModel_4 rfl e18 hn rfl (nf_a _ _) dX12_init_19 (fun h20 hh19 => ?_)
  have O21 := O16.pR e18 hh19 (okR_l rE_1012_4 (pN_T hh14) (pN_L hh14))
  refine g_aload_n C rfl 0 rfl dX12_init_22 ?_
  refine g_sipush C (by decide) dX12_init_23 ?_
  refine g_newa (atype := .int) (t := 0) (ty := .int) (N := 1502) C 105100 rfl (iw (il 1502) (by decide) (by decide)) (by decide) rfl kw_224 rfl (fun _ => rfl) (by decide) (by decide) (by decide) (by decide) dX12_init_26 (fun n22 z23 z24 h26 hh25 => ?_)
  have O27 := O21.pN z23 z24 hh25 (by decide) nn_105100
  have e28 : Tg h20 a0 = 1012 := ((pRT hh19).trans e18)
  have e29 : Tg h26 a0 = 1012 := ((pNT hh25 (pN_n hh25 z24 e28)).trans e28)
  refine gp_RF C fk_LandSurveyModel_27 pk_LandSurveyModel_5 rfl e29 hn rfl (nf_a _ _) dX12_init_28 (fun h31 hh30 => ?_)
  have O32 := O27.pR e29 hh30 (okR_l rE_1012_5 (pN_T hh25) (pN_L hh25))
  refine g_aload_n C rfl 0 rfl dX12_init_31 ?_
  refine g_sipush C (by decide) dX12_init_32 ?_
  refine g_newa (atype := .long) (t := 2) (ty := .long) (N := 1502) C 106102 rfl (iw (il 1502) (by decide) (by decide)) (by decide) rfl kw_376 rfl (fun _ => rfl) (by decide) (by decide) (by decide) (by decide) dX12_init_35 (fun n33 z34 z35 h37 hh36 => ?_)
  have O38 := O32.pN z34 z35 hh36 (by decide) nn_106102
  have e39 : Tg h31 a0 = 1012 := ((pRT hh30).trans e29)
  have e40 : Tg h37 a0 = 1012 := ((pNT hh36 (pN_n hh36 z35 e39)).trans e39)
  refine gp_RF C fk_LandSurveyModel_30 pk_LandSurveyModel_6 rfl e40 hn rfl (nf_a _ _) dX12_init_37 (fun h42 hh41 => ?_)
  have O43 := O38.pR e40 hh41 (okR_l rE_1012_6 (pN_T hh36) (pN_L hh36))
  refine g_aload_n C rfl 0 rfl dX12_init_40 ?_
  refine g_bipush C (by decide) dX12_init_41 ?_
  refine g_newa (atype := .long) (t := 2) (ty := .long) (N := 30) C 109102 rfl (iw (il 30) (by decide) (by decide)) (by decide) rfl kw_376 rfl (fun _ => rfl) (by decide) (by decide) (by decide) (by decide) dX12_init_43 (fun n44 z45 z46 h48 hh47 => ?_)
  have O49 := O43.pN z45 z46 hh47 (by decide) nn_109102
  refine g_dup C rfl dX12_init_45 ?_
  refine g_iconst C dX12_init_46 ?_
  refine g_ldc2 (z := 932411) C kw_1476 (by decide) dX12_init_47 ?_
  refine g_last C (pN_T hh47) rfl (pN_L hh47) (ix (il 0) (by decide) (by decide)) (iw (il 932411) (by decide) (by decide)) dX12_init_50 (fun h51 hh50 => ?_)
  have O52 := O49.pJ hh50 (iw (il 932411) (by decide) (by decide))
  refine g_dup C rfl dX12_init_51 ?_
  refine g_iconst C dX12_init_52 ?_
  refine g_ldc2 (z := 710997) C kw_1477 (by decide) dX12_init_53 ?_
  have e53 : Tg h51 n44 = 109102 := ((pJT hh50).trans (pN_T hh47))
  have e54 : Ln h51 n44 = 30 := ((pJL hh50).trans (pN_L hh47))
  refine g_last C e53 rfl e54 (ix (il 1) (by decide) (by decide)) (iw (il 710997) (by decide) (by decide)) dX12_init_56 (fun h56 hh55 => ?_)
  have O57 := O52.pJ hh55 (iw (il 710997) (by decide) (by decide))
  refine g_dup C rfl dX12_init_57 ?_
  refine g_iconst C dX12_init_58 ?_
  refine g_ldc2 (z := 913652) C kw_1478 (by decide) dX12_init_59 ?_
  have e58 : Tg h56 n44 = 109102 := ((pJT hh55).trans e53)
  have e59 : Ln h56 n44 = 30 := ((pJL hh55).trans e54)
  refine g_last C e58 rfl e59 (ix (il 2) (by decide) (by decide)) (iw (il 913652) (by decide) (by decide)) dX12_init_62 (fun h61 hh60 => ?_)
  have O62 := O57.pJ hh60 (iw (il 913652) (by decide) (by decide))
  refine g_dup C rfl dX12_init_63 ?_
  refine g_iconst C dX12_init_64 ?_
  refine g_ldc2 (z := 227314) C kw_1479 (by decide) dX12_init_65 ?_
  have e63 : Tg h61 n44 = 109102 := ((pJT hh60).trans e58)
  have e64 : Ln h61 n44 = 30 := ((pJL hh60).trans e59)
  refine g_last C e63 rfl e64 (ix (il 3) (by decide) (by decide)) (iw (il 227314) (by decide) (by decide)) dX12_init_68 (fun h66 hh65 => ?_)
  have O67 := O62.pJ hh65 (iw (il 227314) (by decide) (by decide))
  refine g_dup C rfl dX12_init_69 ?_
  refine g_iconst C dX12_init_70 ?_
  refine g_ldc2 (z := 36629165) C kw_1480 (by decide) dX12_init_71 ?_
  have e68 : Tg h66 n44 = 109102 := ((pJT hh65).trans e63)
  have e69 : Ln h66 n44 = 30 := ((pJL hh65).trans e64)
  refine g_last C e68 rfl e69 (ix (il 4) (by decide) (by decide)) (iw (il 36629165) (by decide) (by decide)) dX12_init_74 (fun h71 hh70 => ?_)
  have O72 := O67.pJ hh70 (iw (il 36629165) (by decide) (by decide))
  refine g_dup C rfl dX12_init_75 ?_
  refine g_iconst C dX12_init_76 ?_
  refine g_ldc2 (z := 8420961) C kw_1481 (by decide) dX12_init_77 ?_
  have e73 : Tg h71 n44 = 109102 := ((pJT hh70).trans e68)
  have e74 : Ln h71 n44 = 30 := ((pJL hh70).trans e69)
  refine g_last C e73 rfl e74 (ix (il 5) (by decide) (by decide)) (iw (il 8420961) (by decide) (by decide)) dX12_init_80 (fun h76 hh75 => ?_)
  have O77 := O72.pJ hh75 (iw (il 8420961) (by decide) (by decide))
  refine g_dup C rfl dX12_init_81 ?_
  refine g_bipush C (by decide) dX12_init_82 ?_
  refine g_ldc2 (z := 15769678) C kw_1482 (by decide) dX12_init_84 ?_
  have e78 : Tg h76 n44 = 109102 := ((pJT hh75).trans e73)
  have e79 : Ln h76 n44 = 30 := ((pJL hh75).trans e74)
  refine g_last C e78 rfl e79 (ix (il 6) (by decide) (by decide)) (iw (il 15769678) (by decide) (by decide)) dX12_init_87 (fun h81 hh80 => ?_)
  have O82 := O77.pJ hh80 (iw (il 15769678) (by decide) (by decide))
  refine g_dup C rfl dX12_init_88 ?_
  refine g_bipush C (by decide) dX12_init_89 ?_
  refine g_ldc2 (z := 37948996) C kw_1483 (by decide) dX12_init_91 ?_
  have e83 : Tg h81 n44 = 109102 := ((pJT hh80).trans e78)
  have e84 : Ln h81 n44 = 30 := ((pJL hh80).trans e79)
  refine g_last C e83 rfl e84 (ix (il 7) (by decide) (by decide)) (iw (il 37948996) (by decide) (by decide)) dX12_init_94 (fun h86 hh85 => ?_)
  have O87 := O82.pJ hh85 (iw (il 37948996) (by decide) (by decide))
  refine g_dup C rfl dX12_init_95 ?_
  refine g_bipush C (by decide) dX12_init_96 ?_
  refine g_ldc2 (z := 1258222236) C kw_1484 (by decide) dX12_init_98 ?_
  have e88 : Tg h86 n44 = 109102 := ((pJT hh85).trans e83)
  have e89 : Ln h86 n44 = 30 := ((pJL hh85).trans e84)
  refine g_last C e88 rfl e89 (ix (il 8) (by decide) (by decide)) (iw (il 1258222236) (by decide) (by decide)) dX12_init_101 (fun h91 hh90 => ?_)
  have O92 := O87.pJ hh90 (iw (il 1258222236) (by decide) (by decide))
  refine g_dup C rfl dX12_init_102 ?_
  refine g_bipush C (by decide) dX12_init_103 ?_
  refine g_ldc2 (z := 755) C kw_1485 (by decide) dX12_init_105 ?_
  have e93 : Tg h91 n44 = 109102 := ((pJT hh90).trans e88)
  have e94 : Ln h91 n44 = 30 := ((pJL hh90).trans e89)
  refine g_last C e93 rfl e94 (ix (il 9) (by decide) (by decide)) (iw (il 755) (by decide) (by decide)) dX12_init_108 (fun h96 hh95 => ?_)
  have O97 := O92.pJ hh95 (iw (il 755) (by decide) (by decide))
  refine g_dup C rfl dX12_init_109 ?_
  refine g_bipush C (by decide) dX12_init_110 ?_
  refine g_ldc2 (z := 329128) C kw_1486 (by decide) dX12_init_112 ?_
  have e98 : Tg h96 n44 = 109102 := ((pJT hh95).trans e93)
  have e99 : Ln h96 n44 = 30 := ((pJL hh95).trans e94)
  refine g_last C e98 rfl e99 (ix (il 10) (by decide) (by decide)) (iw (il 329128) (by decide) (by decide)) dX12_init_115 (fun h101 hh100 => ?_)
  have O102 := O97.pJ hh100 (iw (il 329128) (by decide) (by decide))
  refine g_dup C rfl dX12_init_116 ?_
  refine g_bipush C (by decide) dX12_init_117 ?_
  refine g_ldc2 (z := 1176170) C kw_1487 (by decide) dX12_init_119 ?_
  have e103 : Tg h101 n44 = 109102 := ((pJT hh100).trans e98)
  have e104 : Ln h101 n44 = 30 := ((pJL hh100).trans e99)
  refine g_last C e103 rfl e104 (ix (il 11) (by decide) (by decide)) (iw (il 1176170) (by decide) (by decide)) dX12_init_122 (fun h106 hh105 => ?_)
  have O107 := O102.pJ hh105 (iw (il 1176170) (by decide) (by decide))
  refine g_dup C rfl dX12_init_123 ?_
  refine g_bipush C (by decide) dX12_init_124 ?_
  refine g_ldc2 (z := 333123) C kw_1488 (by decide) dX12_init_126 ?_
  have e108 : Tg h106 n44 = 109102 := ((pJT hh105).trans e103)
  have e109 : Ln h106 n44 = 30 := ((pJL hh105).trans e104)
  refine g_last C e108 rfl e109 (ix (il 12) (by decide) (by decide)) (iw (il 333123) (by decide) (by decide)) dX12_init_129 (fun h111 hh110 => ?_)
  have O112 := O107.pJ hh110 (iw (il 333123) (by decide) (by decide))
  refine g_dup C rfl dX12_init_130 ?_
  refine g_bipush C (by decide) dX12_init_131 ?_
  refine g_ldc2 (z := 173197865) C kw_1489 (by decide) dX12_init_133 ?_
  have e113 : Tg h111 n44 = 109102 := ((pJT hh110).trans e108)
  have e114 : Ln h111 n44 = 30 := ((pJL hh110).trans e109)
  refine g_last C e113 rfl e114 (ix (il 13) (by decide) (by decide)) (iw (il 173197865) (by decide) (by decide)) dX12_init_136 (fun h116 hh115 => ?_)
  have O117 := O112.pJ hh115 (iw (il 173197865) (by decide) (by decide))
  refine g_dup C rfl dX12_init_137 ?_
  refine g_bipush C (by decide) dX12_init_138 ?_
  refine g_ldc2 (z := 306528872) C kw_1490 (by decide) dX12_init_140 ?_
  have e118 : Tg h116 n44 = 109102 := ((pJT hh115).trans e113)
  have e119 : Ln h116 n44 = 30 := ((pJL hh115).trans e114)
  refine g_last C e118 rfl e119 (ix (il 14) (by decide) (by decide)) (iw (il 306528872) (by decide) (by decide)) dX12_init_143 (fun h121 hh120 => ?_)
  have O122 := O117.pJ hh120 (iw (il 306528872) (by decide) (by decide))
  refine g_dup C rfl dX12_init_144 ?_
  refine g_bipush C (by decide) dX12_init_145 ?_
  refine g_ldc2 (z := 1891) C kw_1491 (by decide) dX12_init_147 ?_
  have e123 : Tg h121 n44 = 109102 := ((pJT hh120).trans e118)
  have e124 : Ln h121 n44 = 30 := ((pJL hh120).trans e119)
  refine g_last C e123 rfl e124 (ix (il 15) (by decide) (by decide)) (iw (il 1891) (by decide) (by decide)) dX12_init_150 (fun h126 hh125 => ?_)
  have O127 := O122.pJ hh125 (iw (il 1891) (by decide) (by decide))
  refine g_dup C rfl dX12_init_151 ?_
  refine g_bipush C (by decide) dX12_init_152 ?_
  refine g_ldc2 (z := 573) C kw_1492 (by decide) dX12_init_154 ?_
  have e128 : Tg h126 n44 = 109102 := ((pJT hh125).trans e123)
  have e129 : Ln h126 n44 = 30 := ((pJL hh125).trans e124)
  refine g_last C e128 rfl e129 (ix (il 16) (by decide) (by decide)) (iw (il 573) (by decide) (by decide)) dX12_init_157 (fun h131 hh130 => ?_)
  have O132 := O127.pJ hh130 (iw (il 573) (by decide) (by decide))
  refine g_dup C rfl dX12_init_158 ?_
  refine g_bipush C (by decide) dX12_init_159 ?_
  refine g_ldc2 (z := 19741) C kw_1493 (by decide) dX12_init_161 ?_
  have e133 : Tg h131 n44 = 109102 := ((pJT hh130).trans e128)
  have e134 : Ln h131 n44 = 30 := ((pJL hh130).trans e129)
  refine g_last C e133 rfl e134 (ix (il 17) (by decide) (by decide)) (iw (il 19741) (by decide) (by decide)) dX12_init_164 (fun h136 hh135 => ?_)
  have O137 := O132.pJ hh135 (iw (il 19741) (by decide) (by decide))
  refine g_dup C rfl dX12_init_165 ?_
  refine g_bipush C (by decide) dX12_init_166 ?_
  refine g_ldc2 (z := 236773452) C kw_1494 (by decide) dX12_init_168 ?_
  have e138 : Tg h136 n44 = 109102 := ((pJT hh135).trans e133)
  have e139 : Ln h136 n44 = 30 := ((pJL hh135).trans e134)
  refine g_last C e138 rfl e139 (ix (il 18) (by decide) (by decide)) (iw (il 236773452) (by decide) (by decide)) dX12_init_171 (fun h141 hh140 => ?_)
  have O142 := O137.pJ hh140 (iw (il 236773452) (by decide) (by decide))
  refine g_dup C rfl dX12_init_172 ?_
  refine g_bipush C (by decide) dX12_init_173 ?_
  refine g_ldc2 (z := 14032597) C kw_1495 (by decide) dX12_init_175 ?_
  have e143 : Tg h141 n44 = 109102 := ((pJT hh140).trans e138)
  have e144 : Ln h141 n44 = 30 := ((pJL hh140).trans e139)
  refine g_last C e143 rfl e144 (ix (il 19) (by decide) (by decide)) (iw (il 14032597) (by decide) (by decide)) dX12_init_178 (fun h146 hh145 => ?_)
  have O147 := O142.pJ hh145 (iw (il 14032597) (by decide) (by decide))
  refine g_dup C rfl dX12_init_179 ?_
  refine g_bipush C (by decide) dX12_init_180 ?_
  refine g_ldc2 (z := 407263) C kw_1496 (by decide) dX12_init_182 ?_
  have e148 : Tg h146 n44 = 109102 := ((pJT hh145).trans e143)
  have e149 : Ln h146 n44 = 30 := ((pJL hh145).trans e144)
  refine g_last C e148 rfl e149 (ix (il 20) (by decide) (by decide)) (iw (il 407263) (by decide) (by decide)) dX12_init_185 (fun h151 hh150 => ?_)
  have O152 := O147.pJ hh150 (iw (il 407263) (by decide) (by decide))
  refine g_dup C rfl dX12_init_186 ?_
  refine g_bipush C (by decide) dX12_init_187 ?_
  refine g_ldc2 (z := 317227) C kw_1497 (by decide) dX12_init_189 ?_
  have e153 : Tg h151 n44 = 109102 := ((pJT hh150).trans e148)
  have e154 : Ln h151 n44 = 30 := ((pJL hh150).trans e149)
  refine g_last C e153 rfl e154 (ix (il 21) (by decide) (by decide)) (iw (il 317227) (by decide) (by decide)) dX12_init_192 (fun h156 hh155 => ?_)
  have O157 := O152.pJ hh155 (iw (il 317227) (by decide) (by decide))
  refine g_dup C rfl dX12_init_193 ?_
  refine g_bipush C (by decide) dX12_init_194 ?_
  refine g_ldc2 (z := 570026) C kw_1498 (by decide) dX12_init_196 ?_
  have e158 : Tg h156 n44 = 109102 := ((pJT hh155).trans e153)
  have e159 : Ln h156 n44 = 30 := ((pJL hh155).trans e154)
  refine g_last C e158 rfl e159 (ix (il 22) (by decide) (by decide)) (iw (il 570026) (by decide) (by decide)) dX12_init_199 (fun h161 hh160 => ?_)
  have O162 := O157.pJ hh160 (iw (il 570026) (by decide) (by decide))
  refine g_dup C rfl dX12_init_200 ?_
  refine g_bipush C (by decide) dX12_init_201 ?_
  refine g_ldc2 (z := 407115) C kw_1499 (by decide) dX12_init_203 ?_
  have e163 : Tg h161 n44 = 109102 := ((pJT hh160).trans e158)
  have e164 : Ln h161 n44 = 30 := ((pJL hh160).trans e159)
  refine g_last C e163 rfl e164 (ix (il 23) (by decide) (by decide)) (iw (il 407115) (by decide) (by decide)) dX12_init_206 (fun h166 hh165 => ?_)
  have O167 := O162.pJ hh165 (iw (il 407115) (by decide) (by decide))
  refine g_dup C rfl dX12_init_207 ?_
  refine g_bipush C (by decide) dX12_init_208 ?_
  refine g_ldc2 (z := 7772561) C kw_1500 (by decide) dX12_init_210 ?_
  have e168 : Tg h166 n44 = 109102 := ((pJT hh165).trans e163)
  have e169 : Ln h166 n44 = 30 := ((pJL hh165).trans e164)
  refine g_last C e168 rfl e169 (ix (il 24) (by decide) (by decide)) (iw (il 7772561) (by decide) (by decide)) dX12_init_213 (fun h171 hh170 => ?_)
  have O172 := O167.pJ hh170 (iw (il 7772561) (by decide) (by decide))
  refine g_dup C rfl dX12_init_214 ?_
  refine g_bipush C (by decide) dX12_init_215 ?_
  refine g_ldc2 (z := 564588237) C kw_1501 (by decide) dX12_init_217 ?_
  have e173 : Tg h171 n44 = 109102 := ((pJT hh170).trans e168)
  have e174 : Ln h171 n44 = 30 := ((pJL hh170).trans e169)
  refine g_last C e173 rfl e174 (ix (il 25) (by decide) (by decide)) (iw (il 564588237) (by decide) (by decide)) dX12_init_220 (fun h176 hh175 => ?_)
  have O177 := O172.pJ hh175 (iw (il 564588237) (by decide) (by decide))
  refine g_dup C rfl dX12_init_221 ?_
  refine g_bipush C (by decide) dX12_init_222 ?_
  refine g_ldc2 (z := 2253564) C kw_1502 (by decide) dX12_init_224 ?_
  have e178 : Tg h176 n44 = 109102 := ((pJT hh175).trans e173)
  have e179 : Ln h176 n44 = 30 := ((pJL hh175).trans e174)
  refine g_last C e178 rfl e179 (ix (il 26) (by decide) (by decide)) (iw (il 2253564) (by decide) (by decide)) dX12_init_227 (fun h181 hh180 => ?_)
  have O182 := O177.pJ hh180 (iw (il 2253564) (by decide) (by decide))
  refine g_dup C rfl dX12_init_228 ?_
  refine g_bipush C (by decide) dX12_init_229 ?_
  refine g_ldc2 (z := 2686664) C kw_1503 (by decide) dX12_init_231 ?_
  have e183 : Tg h181 n44 = 109102 := ((pJT hh180).trans e178)
  have e184 : Ln h181 n44 = 30 := ((pJL hh180).trans e179)
  refine g_last C e183 rfl e184 (ix (il 27) (by decide) (by decide)) (iw (il 2686664) (by decide) (by decide)) dX12_init_234 (fun h186 hh185 => ?_)
  have O187 := O182.pJ hh185 (iw (il 2686664) (by decide) (by decide))
  refine g_dup C rfl dX12_init_235 ?_
  refine g_bipush C (by decide) dX12_init_236 ?_
  refine g_ldc2 (z := 964262) C kw_1504 (by decide) dX12_init_238 ?_
  have e188 : Tg h186 n44 = 109102 := ((pJT hh185).trans e183)
  have e189 : Ln h186 n44 = 30 := ((pJL hh185).trans e184)
  refine g_last C e188 rfl e189 (ix (il 28) (by decide) (by decide)) (iw (il 964262) (by decide) (by decide)) dX12_init_241 (fun h191 hh190 => ?_)
  have O192 := O187.pJ hh190 (iw (il 964262) (by decide) (by decide))
  refine g_dup C rfl dX12_init_242 ?_
  refine g_bipush C (by decide) dX12_init_243 ?_
  refine g_ldc2 (z := 564640) C kw_1505 (by decide) dX12_init_245 ?_
  have e193 : Tg h191 n44 = 109102 := ((pJT hh190).trans e188)
  have e194 : Ln h191 n44 = 30 := ((pJL hh190).trans e189)
  refine g_last C e193 rfl e194 (ix (il 29) (by decide) (by decide)) (iw (il 564640) (by decide) (by decide)) dX12_init_248 (fun h196 hh195 => ?_)
  have O197 := O192.pJ hh195 (iw (il 564640) (by decide) (by decide))
  have e198 : Tg h42 a0 = 1012 := ((pRT hh41).trans e40)
  have e199 : Tg h196 a0 = 1012 := ((pJT hh195).trans ((pJT hh190).trans ((pJT hh185).trans ((pJT hh180).trans ((pJT hh175).trans ((pJT hh170).trans ((pJT hh165).trans ((pJT hh160).trans ((pJT hh155).trans ((pJT hh150).trans ((pJT hh145).trans ((pJT hh140).trans ((pJT hh135).trans ((pJT hh130).trans ((pJT hh125).trans ((pJT hh120).trans ((pJT hh115).trans ((pJT hh110).trans ((pJT hh105).trans ((pJT hh100).trans ((pJT hh95).trans ((pJT hh90).trans ((pJT hh85).trans ((pJT hh80).trans ((pJT hh75).trans ((pJT hh70).trans ((pJT hh65).trans ((pJT hh60).trans ((pJT hh55).trans ((pJT hh50).trans ((pNT hh47 (pN_n hh47 z46 e198)).trans e198)))))))))))))))))))))))))))))))
  refine gp_RF C fk_LandSurveyModel_94 pk_LandSurveyModel_9 rfl e199 hn rfl (nf_a _ _) dX12_init_249 (fun h201 hh200 => ?_)
  have e203 : Tg h196 n44 = 109102 := ((pJT hh195).trans e193)
  have e204 : Ln h196 n44 = 30 := ((pJL hh195).trans e194)
  have O202 := O197.pR e199 hh200 (okR_l rE_1012_9 e203 e204)
  refine g_aload_n C rfl 0 rfl dX12_init_252 ?_
  refine g_bipush C (by decide) dX12_init_253 ?_
  refine g_newa (atype := .int) (t := 0) (ty := .int) (N := 9) C 111100 rfl (iw (il 9) (by decide) (by decide)) (by decide) rfl kw_224 rfl (fun _ => rfl) (by decide) (by decide) (by decide) (by decide) dX12_init_255 (fun n205 z206 z207 h209 hh208 => ?_)
  have O210 := O202.pN z206 z207 hh208 (by decide) nn_111100
  have e211 : Tg h201 a0 = 1012 := ((pRT hh200).trans e199)
  have e212 : Tg h209 a0 = 1012 := ((pNT hh208 (pN_n hh208 z207 e211)).trans e211)
  refine gp_RF C fk_LandSurveyModel_97 pk_LandSurveyModel_11 rfl e212 hn rfl (nf_a _ _) dX12_init_257 (fun h214 hh213 => ?_)
  have O215 := O210.pR e212 hh213 (okR_l rE_1012_11 (pN_T hh208) (pN_L hh208))
  refine g_aload_n C rfl 0 rfl dX12_init_260 ?_
  refine g_bipush C (by decide) dX12_init_261 ?_
  refine g_newa (atype := .int) (t := 0) (ty := .int) (N := 9) C 112100 rfl (iw (il 9) (by decide) (by decide)) (by decide) rfl kw_224 rfl (fun _ => rfl) (by decide) (by decide) (by decide) (by decide) dX12_init_263 (fun n216 z217 z218 h220 hh219 => ?_)
  have O221 := O215.pN z217 z218 hh219 (by decide) nn_112100
  have e222 : Tg h214 a0 = 1012 := ((pRT hh213).trans e212)
  have e223 : Tg h220 a0 = 1012 := ((pNT hh219 (pN_n hh219 z218 e222)).trans e222)
  refine gp_RF C fk_LandSurveyModel_100 pk_LandSurveyModel_12 rfl e223 hn rfl (nf_a _ _) dX12_init_265 (fun h225 hh224 => ?_)
  have O226 := O221.pR e223 hh224 (okR_l rE_1012_12 (pN_T hh219) (pN_L hh219))
  refine g_aload_n C rfl 0 rfl dX12_init_268 ?_
  refine g_bipush C (by decide) dX12_init_269 ?_
  refine g_newa (atype := .long) (t := 2) (ty := .long) (N := 90) C 113102 rfl (iw (il 90) (by decide) (by decide)) (by decide) rfl kw_376 rfl (fun _ => rfl) (by decide) (by decide) (by decide) (by decide) dX12_init_271 (fun n227 z228 z229 h231 hh230 => ?_)
  have O232 := O226.pN z228 z229 hh230 (by decide) nn_113102
  have e233 : Tg h225 a0 = 1012 := ((pRT hh224).trans e223)
  have e234 : Tg h231 a0 = 1012 := ((pNT hh230 (pN_n hh230 z229 e233)).trans e233)
  refine gp_RF C fk_LandSurveyModel_103 pk_LandSurveyModel_13 rfl e234 hn rfl (nf_a _ _) dX12_init_273 (fun h236 hh235 => ?_)
  have O237 := O232.pR e234 hh235 (okR_l rE_1012_13 (pN_T hh230) (pN_L hh230))
  refine g_aload_n C rfl 0 rfl dX12_init_276 ?_
  refine g_bipush C (by decide) dX12_init_277 ?_
  refine g_newa (atype := .int) (t := 0) (ty := .int) (N := 90) C 114100 rfl (iw (il 90) (by decide) (by decide)) (by decide) rfl kw_224 rfl (fun _ => rfl) (by decide) (by decide) (by decide) (by decide) dX12_init_279 (fun n238 z239 z240 h242 hh241 => ?_)
  have O243 := O237.pN z239 z240 hh241 (by decide) nn_114100
  have e244 : Tg h236 a0 = 1012 := ((pRT hh235).trans e234)
  have e245 : Tg h242 a0 = 1012 := ((pNT hh241 (pN_n hh241 z240 e244)).trans e244)
  refine gp_RF C fk_LandSurveyModel_106 pk_LandSurveyModel_14 rfl e245 hn rfl (nf_a _ _) dX12_init_281 (fun h247 hh246 => ?_)
  have O248 := O243.pR e245 hh246 (okR_l rE_1012_14 (pN_T hh241) (pN_L hh241))
  refine g_aload_n C rfl 0 rfl dX12_init_284 ?_
  refine g_bipush C (by decide) dX12_init_285 ?_
  refine g_newa (atype := .int) (t := 0) (ty := .int) (N := 90) C 115100 rfl (iw (il 90) (by decide) (by decide)) (by decide) rfl kw_224 rfl (fun _ => rfl) (by decide) (by decide) (by decide) (by decide) dX12_init_287 (fun n249 z250 z251 h253 hh252 => ?_)
  have O254 := O248.pN z250 z251 hh252 (by decide) nn_115100
  have e255 : Tg h247 a0 = 1012 := ((pRT hh246).trans e245)
  have e256 : Tg h253 a0 = 1012 := ((pNT hh252 (pN_n hh252 z251 e255)).trans e255)
  refine gp_RF C fk_LandSurveyModel_109 pk_LandSurveyModel_15 rfl e256 hn rfl (nf_a _ _) dX12_init_289 (fun h258 hh257 => ?_)
  have O259 := O254.pR e256 hh257 (okR_l rE_1012_15 (pN_T hh252) (pN_L hh252))
  refine g_aload_n C rfl 0 rfl dX12_init_292 ?_
  refine g_bipush C (by decide) dX12_init_293 ?_
  refine g_newa (atype := .boolean) (t := 1) (ty := .boolean) (N := 90) C 116101 rfl (iw (il 90) (by decide) (by decide)) (by decide) rfl kw_225 rfl (fun _ => rfl) (by decide) (by decide) (by decide) (by decide) dX12_init_295 (fun n260 z261 z262 h264 hh263 => ?_)
  have O265 := O259.pN z261 z262 hh263 (by decide) nn_116101
  have e266 : Tg h258 a0 = 1012 := ((pRT hh257).trans e256)
  have e267 : Tg h264 a0 = 1012 := ((pNT hh263 (pN_n hh263 z262 e266)).trans e266)
  refine gp_RF C fk_LandSurveyModel_112 pk_LandSurveyModel_16 rfl e267 hn rfl (nf_a _ _) dX12_init_297 (fun h269 hh268 => ?_)
  have O270 := O265.pR e267 hh268 (okR_l rE_1012_16 (pN_T hh263) (pN_L hh263))
  refine g_aload_n C rfl 0 rfl dX12_init_300 ?_
  refine g_bipush C (by decide) dX12_init_301 ?_
  refine g_newa (atype := .boolean) (t := 1) (ty := .boolean) (N := 90) C 117101 rfl (iw (il 90) (by decide) (by decide)) (by decide) rfl kw_225 rfl (fun _ => rfl) (by decide) (by decide) (by decide) (by decide) dX12_init_303 (fun n271 z272 z273 h275 hh274 => ?_)
  have O276 := O270.pN z272 z273 hh274 (by decide) nn_117101
  have e277 : Tg h269 a0 = 1012 := ((pRT hh268).trans e267)
  have e278 : Tg h275 a0 = 1012 := ((pNT hh274 (pN_n hh274 z273 e277)).trans e277)
  refine gp_RF C fk_LandSurveyModel_116 pk_LandSurveyModel_17 rfl e278 hn rfl (nf_a _ _) dX12_init_305 (fun h280 hh279 => ?_)
  have O281 := O276.pR e278 hh279 (okR_l rE_1012_17 (pN_T hh274) (pN_L hh274))
  refine g_aload_n C rfl 0 rfl dX12_init_308 ?_
  refine g_bipush C (by decide) dX12_init_309 ?_
  refine g_newa (atype := .boolean) (t := 1) (ty := .boolean) (N := 9) C 118101 rfl (iw (il 9) (by decide) (by decide)) (by decide) rfl kw_225 rfl (fun _ => rfl) (by decide) (by decide) (by decide) (by decide) dX12_init_311 (fun n282 z283 z284 h286 hh285 => ?_)
  have O287 := O281.pN z283 z284 hh285 (by decide) nn_118101
  have e288 : Tg h280 a0 = 1012 := ((pRT hh279).trans e278)
  have e289 : Tg h286 a0 = 1012 := ((pNT hh285 (pN_n hh285 z284 e288)).trans e288)
  refine gp_RF C fk_LandSurveyModel_119 pk_LandSurveyModel_18 rfl e289 hn rfl (nf_a _ _) dX12_init_313 (fun h291 hh290 => ?_)
  have O292 := O287.pR e289 hh290 (okR_l rE_1012_18 (pN_T hh285) (pN_L hh285))
  refine g_aload_n C rfl 0 rfl dX12_init_316 ?_
  refine g_bipush C (by decide) dX12_init_317 ?_
  refine g_newa (atype := .int) (t := 0) (ty := .int) (N := 9) C 119100 rfl (iw (il 9) (by decide) (by decide)) (by decide) rfl kw_224 rfl (fun _ => rfl) (by decide) (by decide) (by decide) (by decide) dX12_init_319 (fun n293 z294 z295 h297 hh296 => ?_)
  have O298 := O292.pN z294 z295 hh296 (by decide) nn_119100
  have e299 : Tg h291 a0 = 1012 := ((pRT hh290).trans e289)
  have e300 : Tg h297 a0 = 1012 := ((pNT hh296 (pN_n hh296 z295 e299)).trans e299)
  refine gp_RF C fk_LandSurveyModel_122 pk_LandSurveyModel_19 rfl e300 hn rfl (nf_a _ _) dX12_init_321 (fun h302 hh301 => ?_)
  have O303 := O298.pR e300 hh301 (okR_l rE_1012_19 (pN_T hh296) (pN_L hh296))
  refine g_aload_n C rfl 0 rfl dX12_init_324 ?_
  refine g_bipush C (by decide) dX12_init_325 ?_
  refine g_newa (atype := .boolean) (t := 1) (ty := .boolean) (N := 9) C 120101 rfl (iw (il 9) (by decide) (by decide)) (by decide) rfl kw_225 rfl (fun _ => rfl) (by decide) (by decide) (by decide) (by decide) dX12_init_327 (fun n304 z305 z306 h308 hh307 => ?_)
  have O309 := O303.pN z305 z306 hh307 (by decide) nn_120101
  have e310 : Tg h302 a0 = 1012 := ((pRT hh301).trans e300)
  have e311 : Tg h308 a0 = 1012 := ((pNT hh307 (pN_n hh307 z306 e310)).trans e310)
  refine gp_RF C fk_LandSurveyModel_125 pk_LandSurveyModel_20 rfl e311 hn rfl (nf_a _ _) dX12_init_329 (fun h313 hh312 => ?_)
  have O314 := O309.pR e311 hh312 (okR_l rE_1012_20 (pN_T hh307) (pN_L hh307))
  refine g_aload_n C rfl 0 rfl dX12_init_332 ?_
  refine g_bipush C (by decide) dX12_init_333 ?_
  refine g_newa (atype := .int) (t := 0) (ty := .int) (N := 9) C 121100 rfl (iw (il 9) (by decide) (by decide)) (by decide) rfl kw_224 rfl (fun _ => rfl) (by decide) (by decide) (by decide) (by decide) dX12_init_335 (fun n315 z316 z317 h319 hh318 => ?_)
  have O320 := O314.pN z316 z317 hh318 (by decide) nn_121100
  have e321 : Tg h313 a0 = 1012 := ((pRT hh312).trans e311)
  have e322 : Tg h319 a0 = 1012 := ((pNT hh318 (pN_n hh318 z317 e321)).trans e321)
  refine gp_RF C fk_LandSurveyModel_128 pk_LandSurveyModel_21 rfl e322 hn rfl (nf_a _ _) dX12_init_337 (fun h324 hh323 => ?_)
  have O325 := O320.pR e322 hh323 (okR_l rE_1012_21 (pN_T hh318) (pN_L hh318))
  refine g_aload_n C rfl 0 rfl dX12_init_340 ?_
  refine g_bipush C (by decide) dX12_init_341 ?_
  refine g_newa (atype := .int) (t := 0) (ty := .int) (N := 90) C 122100 rfl (iw (il 90) (by decide) (by decide)) (by decide) rfl kw_224 rfl (fun _ => rfl) (by decide) (by decide) (by decide) (by decide) dX12_init_343 (fun n326 z327 z328 h330 hh329 => ?_)
  have O331 := O325.pN z327 z328 hh329 (by decide) nn_122100
  have e332 : Tg h324 a0 = 1012 := ((pRT hh323).trans e322)
  have e333 : Tg h330 a0 = 1012 := ((pNT hh329 (pN_n hh329 z328 e332)).trans e332)
  refine gp_RF C fk_LandSurveyModel_131 pk_LandSurveyModel_22 rfl e333 hn rfl (nf_a _ _) dX12_init_345 (fun h335 hh334 => ?_)
  have O336 := O331.pR e333 hh334 (okR_l rE_1012_22 (pN_T hh329) (pN_L hh329))
  refine g_aload_n C rfl 0 rfl dX12_init_348 ?_
  refine g_bipush C (by decide) dX12_init_349 ?_
  refine g_newa (atype := .int) (t := 0) (ty := .int) (N := 90) C 123100 rfl (iw (il 90) (by decide) (by decide)) (by decide) rfl kw_224 rfl (fun _ => rfl) (by decide) (by decide) (by decide) (by decide) dX12_init_351 (fun n337 z338 z339 h341 hh340 => ?_)
  have O342 := O336.pN z338 z339 hh340 (by decide) nn_123100
  have e343 : Tg h335 a0 = 1012 := ((pRT hh334).trans e333)
  have e344 : Tg h341 a0 = 1012 := ((pNT hh340 (pN_n hh340 z339 e343)).trans e343)
  refine gp_RF C fk_LandSurveyModel_134 pk_LandSurveyModel_23 rfl e344 hn rfl (nf_a _ _) dX12_init_353 (fun h346 hh345 => ?_)
  have O347 := O342.pR e344 hh345 (okR_l rE_1012_23 (pN_T hh340) (pN_L hh340))
  refine g_aload_n C rfl 0 rfl dX12_init_356 ?_
  refine g_bipush C (by decide) dX12_init_357 ?_
  refine g_newa (atype := .int) (t := 0) (ty := .int) (N := 9) C 124100 rfl (iw (il 9) (by decide) (by decide)) (by decide) rfl kw_224 rfl (fun _ => rfl) (by decide) (by decide) (by decide) (by decide) dX12_init_359 (fun n348 z349 z350 h352 hh351 => ?_)
  have O353 := O347.pN z349 z350 hh351 (by decide) nn_124100
  have e354 : Tg h346 a0 = 1012 := ((pRT hh345).trans e344)
  have e355 : Tg h352 a0 = 1012 := ((pNT hh351 (pN_n hh351 z350 e354)).trans e354)
  refine gp_RF C fk_LandSurveyModel_137 pk_LandSurveyModel_24 rfl e355 hn rfl (nf_a _ _) dX12_init_361 (fun h357 hh356 => ?_)
  have O358 := O353.pR e355 hh356 (okR_l rE_1012_24 (pN_T hh351) (pN_L hh351))
  refine g_aload_n C rfl 0 rfl dX12_init_364 ?_
  refine g_sipush C (by decide) dX12_init_365 ?_
  refine g_newa (atype := .int) (t := 0) (ty := .int) (N := 216) C 125100 rfl (iw (il 216) (by decide) (by decide)) (by decide) rfl kw_224 rfl (fun _ => rfl) (by decide) (by decide) (by decide) (by decide) dX12_init_368 (fun n359 z360 z361 h363 hh362 => ?_)
  have O364 := O358.pN z360 z361 hh362 (by decide) nn_125100
  have e365 : Tg h357 a0 = 1012 := ((pRT hh356).trans e355)
  have e366 : Tg h363 a0 = 1012 := ((pNT hh362 (pN_n hh362 z361 e365)).trans e365)
  refine gp_RF C fk_LandSurveyModel_140 pk_LandSurveyModel_25 rfl e366 hn rfl (nf_a _ _) dX12_init_370 (fun h368 hh367 => ?_)
  have O369 := O364.pR e366 hh367 (okR_l rE_1012_25 (pN_T hh362) (pN_L hh362))
  refine g_aload_n C rfl 0 rfl dX12_init_373 ?_
  refine g_sipush C (by decide) dX12_init_374 ?_
  refine g_newa (atype := .int) (t := 0) (ty := .int) (N := 216) C 126100 rfl (iw (il 216) (by decide) (by decide)) (by decide) rfl kw_224 rfl (fun _ => rfl) (by decide) (by decide) (by decide) (by decide) dX12_init_377 (fun n370 z371 z372 h374 hh373 => ?_)
  have O375 := O369.pN z371 z372 hh373 (by decide) nn_126100
  have e376 : Tg h368 a0 = 1012 := ((pRT hh367).trans e366)
  have e377 : Tg h374 a0 = 1012 := ((pNT hh373 (pN_n hh373 z372 e376)).trans e376)
  refine gp_RF C fk_LandSurveyModel_143 pk_LandSurveyModel_26 rfl e377 hn rfl (nf_a _ _) dX12_init_379 (fun h379 hh378 => ?_)
  have O380 := O375.pR e377 hh378 (okR_l rE_1012_26 (pN_T hh373) (pN_L hh373))
  refine g_aload_n C rfl 0 rfl dX12_init_382 ?_
  refine g_sipush C (by decide) dX12_init_383 ?_
  refine g_newa (atype := .int) (t := 0) (ty := .int) (N := 216) C 127100 rfl (iw (il 216) (by decide) (by decide)) (by decide) rfl kw_224 rfl (fun _ => rfl) (by decide) (by decide) (by decide) (by decide) dX12_init_386 (fun n381 z382 z383 h385 hh384 => ?_)
  have O386 := O380.pN z382 z383 hh384 (by decide) nn_127100
  have e387 : Tg h379 a0 = 1012 := ((pRT hh378).trans e377)
  have e388 : Tg h385 a0 = 1012 := ((pNT hh384 (pN_n hh384 z383 e387)).trans e387)
  refine gp_RF C fk_LandSurveyModel_146 pk_LandSurveyModel_27 rfl e388 hn rfl (nf_a _ _) dX12_init_388 (fun h390 hh389 => ?_)
  have O391 := O386.pR e388 hh389 (okR_l rE_1012_27 (pN_T hh384) (pN_L hh384))
  refine g_aload_n C rfl 0 rfl dX12_init_391 ?_
  refine g_sipush C (by decide) dX12_init_392 ?_
  refine g_newa (atype := .int) (t := 0) (ty := .int) (N := 14400) C 129100 rfl (iw (il 14400) (by decide) (by decide)) (by decide) rfl kw_224 rfl (fun _ => rfl) (by decide) (by decide) (by decide) (by decide) dX12_init_395 (fun n392 z393 z394 h396 hh395 => ?_)
  have O397 := O391.pN z393 z394 hh395 (by decide) nn_129100
  have e398 : Tg h390 a0 = 1012 := ((pRT hh389).trans e388)
  have e399 : Tg h396 a0 = 1012 := ((pNT hh395 (pN_n hh395 z394 e398)).trans e398)
  refine gp_RF C fk_LandSurveyModel_149 pk_LandSurveyModel_29 rfl e399 hn rfl (nf_a _ _) dX12_init_397 (fun h401 hh400 => ?_)
  have O402 := O397.pR e399 hh400 (okR_l rE_1012_29 (pN_T hh395) (pN_L hh395))
  refine g_aload_n C rfl 0 rfl dX12_init_400 ?_
  refine g_sipush C (by decide) dX12_init_401 ?_
  refine g_newa (atype := .int) (t := 0) (ty := .int) (N := 14400) C 130100 rfl (iw (il 14400) (by decide) (by decide)) (by decide) rfl kw_224 rfl (fun _ => rfl) (by decide) (by decide) (by decide) (by decide) dX12_init_404 (fun n403 z404 z405 h407 hh406 => ?_)
  have O408 := O402.pN z404 z405 hh406 (by decide) nn_130100
  have e409 : Tg h401 a0 = 1012 := ((pRT hh400).trans e399)
  have e410 : Tg h407 a0 = 1012 := ((pNT hh406 (pN_n hh406 z405 e409)).trans e409)
  refine gp_RF C fk_LandSurveyModel_152 pk_LandSurveyModel_30 rfl e410 hn rfl (nf_a _ _) dX12_init_406 (fun h412 hh411 => ?_)
  have O413 := O408.pR e410 hh411 (okR_l rE_1012_30 (pN_T hh406) (pN_L hh406))
  refine g_aload_n C rfl 0 rfl dX12_init_409 ?_
  refine g_bipush C (by decide) dX12_init_410 ?_
  refine g_newa (atype := .int) (t := 0) (ty := .int) (N := 12) C 131100 rfl (iw (il 12) (by decide) (by decide)) (by decide) rfl kw_224 rfl (fun _ => rfl) (by decide) (by decide) (by decide) (by decide) dX12_init_412 (fun n414 z415 z416 h418 hh417 => ?_)
  have O419 := O413.pN z415 z416 hh417 (by decide) nn_131100
  have e420 : Tg h412 a0 = 1012 := ((pRT hh411).trans e410)
  have e421 : Tg h418 a0 = 1012 := ((pNT hh417 (pN_n hh417 z416 e420)).trans e420)
  refine gp_RF C fk_LandSurveyModel_155 pk_LandSurveyModel_31 rfl e421 hn rfl (nf_a _ _) dX12_init_414 (fun h423 hh422 => ?_)
  have O424 := O419.pR e421 hh422 (okR_l rE_1012_31 (pN_T hh417) (pN_L hh417))
  refine g_aload_n C rfl 0 rfl dX12_init_417 ?_
  refine g_sipush C (by decide) dX12_init_418 ?_
  refine g_newa (atype := .int) (t := 0) (ty := .int) (N := 1600) C 132100 rfl (iw (il 1600) (by decide) (by decide)) (by decide) rfl kw_224 rfl (fun _ => rfl) (by decide) (by decide) (by decide) (by decide) dX12_init_421 (fun n425 z426 z427 h429 hh428 => ?_)
  have O430 := O424.pN z426 z427 hh428 (by decide) nn_132100
  have e431 : Tg h423 a0 = 1012 := ((pRT hh422).trans e421)
  have e432 : Tg h429 a0 = 1012 := ((pNT hh428 (pN_n hh428 z427 e431)).trans e431)
  refine gp_RF C fk_LandSurveyModel_158 pk_LandSurveyModel_32 rfl e432 hn rfl (nf_a _ _) dX12_init_423 (fun h434 hh433 => ?_)
  have O435 := O430.pR e432 hh433 (okR_l rE_1012_32 (pN_T hh428) (pN_L hh428))
  refine g_aload_n C rfl 0 rfl dX12_init_426 ?_
  refine g_bipush C (by decide) dX12_init_427 ?_
  refine g_newa (atype := .int) (t := 0) (ty := .int) (N := 96) C 136100 rfl (iw (il 96) (by decide) (by decide)) (by decide) rfl kw_224 rfl (fun _ => rfl) (by decide) (by decide) (by decide) (by decide) dX12_init_429 (fun n436 z437 z438 h440 hh439 => ?_)
  have O441 := O435.pN z437 z438 hh439 (by decide) nn_136100
  have e442 : Tg h434 a0 = 1012 := ((pRT hh433).trans e432)
  have e443 : Tg h440 a0 = 1012 := ((pNT hh439 (pN_n hh439 z438 e442)).trans e442)
  refine gp_RF C fk_LandSurveyModel_161 pk_LandSurveyModel_36 rfl e443 hn rfl (nf_a _ _) dX12_init_431 (fun h445 hh444 => ?_)
  have O446 := O441.pR e443 hh444 (okR_l rE_1012_36 (pN_T hh439) (pN_L hh439))
  refine g_aload_n C rfl 0 rfl dX12_init_434 ?_
  refine g_bipush C (by decide) dX12_init_435 ?_
  refine g_newa (atype := .boolean) (t := 1) (ty := .boolean) (N := 96) C 137101 rfl (iw (il 96) (by decide) (by decide)) (by decide) rfl kw_225 rfl (fun _ => rfl) (by decide) (by decide) (by decide) (by decide) dX12_init_437 (fun n447 z448 z449 h451 hh450 => ?_)
  have O452 := O446.pN z448 z449 hh450 (by decide) nn_137101
  have e453 : Tg h445 a0 = 1012 := ((pRT hh444).trans e443)
  have e454 : Tg h451 a0 = 1012 := ((pNT hh450 (pN_n hh450 z449 e453)).trans e453)
  refine gp_RF C fk_LandSurveyModel_164 pk_LandSurveyModel_37 rfl e454 hn rfl (nf_a _ _) dX12_init_439 (fun h456 hh455 => ?_)
  have O457 := O452.pR e454 hh455 (okR_l rE_1012_37 (pN_T hh450) (pN_L hh450))
  refine g_aload_n C rfl 0 rfl dX12_init_442 ?_
  refine g_bipush C (by decide) dX12_init_443 ?_
  refine g_newa (atype := .boolean) (t := 1) (ty := .boolean) (N := 96) C 138101 rfl (iw (il 96) (by decide) (by decide)) (by decide) rfl kw_225 rfl (fun _ => rfl) (by decide) (by decide) (by decide) (by decide) dX12_init_445 (fun n458 z459 z460 h462 hh461 => ?_)
  have O463 := O457.pN z459 z460 hh461 (by decide) nn_138101
  have e464 : Tg h456 a0 = 1012 := ((pRT hh455).trans e454)
  have e465 : Tg h462 a0 = 1012 := ((pNT hh461 (pN_n hh461 z460 e464)).trans e464)
  refine gp_RF C fk_LandSurveyModel_167 pk_LandSurveyModel_38 rfl e465 hn rfl (nf_a _ _) dX12_init_447 (fun h467 hh466 => ?_)
  have O468 := O463.pR e465 hh466 (okR_l rE_1012_38 (pN_T hh461) (pN_L hh461))
  refine g_aload_n C rfl 0 rfl dX12_init_450 ?_
  refine g_bipush C (by decide) dX12_init_451 ?_
  refine g_newa (atype := .int) (t := 0) (ty := .int) (N := 96) C 139100 rfl (iw (il 96) (by decide) (by decide)) (by decide) rfl kw_224 rfl (fun _ => rfl) (by decide) (by decide) (by decide) (by decide) dX12_init_453 (fun n469 z470 z471 h473 hh472 => ?_)
  have O474 := O468.pN z470 z471 hh472 (by decide) nn_139100
  have e475 : Tg h467 a0 = 1012 := ((pRT hh466).trans e465)
  have e476 : Tg h473 a0 = 1012 := ((pNT hh472 (pN_n hh472 z471 e475)).trans e475)
  refine gp_RF C fk_LandSurveyModel_170 pk_LandSurveyModel_39 rfl e476 hn rfl (nf_a _ _) dX12_init_455 (fun h478 hh477 => ?_)
  have O479 := O474.pR e476 hh477 (okR_l rE_1012_39 (pN_T hh472) (pN_L hh472))
  refine g_aload_n C rfl 0 rfl dX12_init_458 ?_
  refine g_bipush C (by decide) dX12_init_459 ?_
  refine g_newa (atype := .int) (t := 0) (ty := .int) (N := 40) C 141100 rfl (iw (il 40) (by decide) (by decide)) (by decide) rfl kw_224 rfl (fun _ => rfl) (by decide) (by decide) (by decide) (by decide) dX12_init_461 (fun n480 z481 z482 h484 hh483 => ?_)
  have O485 := O479.pN z481 z482 hh483 (by decide) nn_141100
  have e486 : Tg h478 a0 = 1012 := ((pRT hh477).trans e476)
  have e487 : Tg h484 a0 = 1012 := ((pNT hh483 (pN_n hh483 z482 e486)).trans e486)
  refine gp_RF C fk_LandSurveyModel_173 pk_LandSurveyModel_41 rfl e487 hn rfl (nf_a _ _) dX12_init_463 (fun h489 hh488 => ?_)
  have O490 := O485.pR e487 hh488 (okR_l rE_1012_41 (pN_T hh483) (pN_L hh483))
  refine g_aload_n C rfl 0 rfl dX12_init_466 ?_
  refine g_bipush C (by decide) dX12_init_467 ?_
  refine g_newa (atype := .int) (t := 0) (ty := .int) (N := 40) C 142100 rfl (iw (il 40) (by decide) (by decide)) (by decide) rfl kw_224 rfl (fun _ => rfl) (by decide) (by decide) (by decide) (by decide) dX12_init_469 (fun n491 z492 z493 h495 hh494 => ?_)
  have O496 := O490.pN z492 z493 hh494 (by decide) nn_142100
  have e497 : Tg h489 a0 = 1012 := ((pRT hh488).trans e487)
  have e498 : Tg h495 a0 = 1012 := ((pNT hh494 (pN_n hh494 z493 e497)).trans e497)
  refine gp_RF C fk_LandSurveyModel_176 pk_LandSurveyModel_42 rfl e498 hn rfl (nf_a _ _) dX12_init_471 (fun h500 hh499 => ?_)
  have O501 := O496.pR e498 hh499 (okR_l rE_1012_42 (pN_T hh494) (pN_L hh494))
  refine g_aload_n C rfl 0 rfl dX12_init_474 ?_
  refine g_bipush C (by decide) dX12_init_475 ?_
  refine g_newa (atype := .int) (t := 0) (ty := .int) (N := 40) C 143100 rfl (iw (il 40) (by decide) (by decide)) (by decide) rfl kw_224 rfl (fun _ => rfl) (by decide) (by decide) (by decide) (by decide) dX12_init_477 (fun n502 z503 z504 h506 hh505 => ?_)
  have O507 := O501.pN z503 z504 hh505 (by decide) nn_143100
  have e508 : Tg h500 a0 = 1012 := ((pRT hh499).trans e498)
  have e509 : Tg h506 a0 = 1012 := ((pNT hh505 (pN_n hh505 z504 e508)).trans e508)
  refine gp_RF C fk_LandSurveyModel_179 pk_LandSurveyModel_43 rfl e509 hn rfl (nf_a _ _) dX12_init_479 (fun h511 hh510 => ?_)
  have O512 := O507.pR e509 hh510 (okR_l rE_1012_43 (pN_T hh505) (pN_L hh505))
  refine g_aload_n C rfl 0 rfl dX12_init_482 ?_
  refine g_bipush C (by decide) dX12_init_483 ?_
  refine g_newa (atype := .int) (t := 0) (ty := .int) (N := 40) C 144100 rfl (iw (il 40) (by decide) (by decide)) (by decide) rfl kw_224 rfl (fun _ => rfl) (by decide) (by decide) (by decide) (by decide) dX12_init_485 (fun n513 z514 z515 h517 hh516 => ?_)
  have O518 := O512.pN z514 z515 hh516 (by decide) nn_144100
  have e519 : Tg h511 a0 = 1012 := ((pRT hh510).trans e509)
  have e520 : Tg h517 a0 = 1012 := ((pNT hh516 (pN_n hh516 z515 e519)).trans e519)
  refine gp_RF C fk_LandSurveyModel_182 pk_LandSurveyModel_44 rfl e520 hn rfl (nf_a _ _) dX12_init_487 (fun h522 hh521 => ?_)
  have O523 := O518.pR e520 hh521 (okR_l rE_1012_44 (pN_T hh516) (pN_L hh516))
  refine g_aload_n C rfl 0 rfl dX12_init_490 ?_
  refine g_bipush C (by decide) dX12_init_491 ?_
  refine g_newa (atype := .int) (t := 0) (ty := .int) (N := 40) C 145100 rfl (iw (il 40) (by decide) (by decide)) (by decide) rfl kw_224 rfl (fun _ => rfl) (by decide) (by decide) (by decide) (by decide) dX12_init_493 (fun n524 z525 z526 h528 hh527 => ?_)
  have O529 := O523.pN z525 z526 hh527 (by decide) nn_145100
  have e530 : Tg h522 a0 = 1012 := ((pRT hh521).trans e520)
  have e531 : Tg h528 a0 = 1012 := ((pNT hh527 (pN_n hh527 z526 e530)).trans e530)
  refine gp_RF C fk_LandSurveyModel_185 pk_LandSurveyModel_45 rfl e531 hn rfl (nf_a _ _) dX12_init_495 (fun h533 hh532 => ?_)
  have O534 := O529.pR e531 hh532 (okR_l rE_1012_45 (pN_T hh527) (pN_L hh527))
  refine g_aload_n C rfl 0 rfl dX12_init_498 ?_
  refine g_bipush C (by decide) dX12_init_499 ?_
  refine g_newa (atype := .int) (t := 0) (ty := .int) (N := 40) C 146100 rfl (iw (il 40) (by decide) (by decide)) (by decide) rfl kw_224 rfl (fun _ => rfl) (by decide) (by decide) (by decide) (by decide) dX12_init_501 (fun n535 z536 z537 h539 hh538 => ?_)
  have O540 := O534.pN z536 z537 hh538 (by decide) nn_146100
  have e541 : Tg h533 a0 = 1012 := ((pRT hh532).trans e531)
  have e542 : Tg h539 a0 = 1012 := ((pNT hh538 (pN_n hh538 z537 e541)).trans e541)
  refine gp_RF C fk_LandSurveyModel_188 pk_LandSurveyModel_46 rfl e542 hn rfl (nf_a _ _) dX12_init_503 (fun h544 hh543 => ?_)
  have O545 := O540.pR e542 hh543 (okR_l rE_1012_46 (pN_T hh538) (pN_L hh538))
  refine g_aload_n C rfl 0 rfl dX12_init_506 ?_
  refine g_bipush C (by decide) dX12_init_507 ?_
  refine g_newa (atype := .int) (t := 0) (ty := .int) (N := 40) C 147100 rfl (iw (il 40) (by decide) (by decide)) (by decide) rfl kw_224 rfl (fun _ => rfl) (by decide) (by decide) (by decide) (by decide) dX12_init_509 (fun n546 z547 z548 h550 hh549 => ?_)
  have O551 := O545.pN z547 z548 hh549 (by decide) nn_147100
  have e552 : Tg h544 a0 = 1012 := ((pRT hh543).trans e542)
  have e553 : Tg h550 a0 = 1012 := ((pNT hh549 (pN_n hh549 z548 e552)).trans e552)
  refine gp_RF C fk_LandSurveyModel_191 pk_LandSurveyModel_47 rfl e553 hn rfl (nf_a _ _) dX12_init_511 (fun h555 hh554 => ?_)
  have O556 := O551.pR e553 hh554 (okR_l rE_1012_47 (pN_T hh549) (pN_L hh549))
  refine g_aload_n C rfl 0 rfl dX12_init_514 ?_
  refine g_bipush C (by decide) dX12_init_515 ?_
  refine g_newa (atype := .int) (t := 0) (ty := .int) (N := 40) C 148100 rfl (iw (il 40) (by decide) (by decide)) (by decide) rfl kw_224 rfl (fun _ => rfl) (by decide) (by decide) (by decide) (by decide) dX12_init_517 (fun n557 z558 z559 h561 hh560 => ?_)
  have O562 := O556.pN z558 z559 hh560 (by decide) nn_148100
  have e563 : Tg h555 a0 = 1012 := ((pRT hh554).trans e553)
  have e564 : Tg h561 a0 = 1012 := ((pNT hh560 (pN_n hh560 z559 e563)).trans e563)
  refine gp_RF C fk_LandSurveyModel_194 pk_LandSurveyModel_48 rfl e564 hn rfl (nf_a _ _) dX12_init_519 (fun h566 hh565 => ?_)
  have O567 := O562.pR e564 hh565 (okR_l rE_1012_48 (pN_T hh560) (pN_L hh560))
  refine g_aload_n C rfl 0 rfl dX12_init_522 ?_
  refine g_bipush C (by decide) dX12_init_523 ?_
  refine g_newa (atype := .int) (t := 0) (ty := .int) (N := 40) C 149100 rfl (iw (il 40) (by decide) (by decide)) (by decide) rfl kw_224 rfl (fun _ => rfl) (by decide) (by decide) (by decide) (by decide) dX12_init_525 (fun n568 z569 z570 h572 hh571 => ?_)
  have O573 := O567.pN z569 z570 hh571 (by decide) nn_149100
  have e574 : Tg h566 a0 = 1012 := ((pRT hh565).trans e564)
  have e575 : Tg h572 a0 = 1012 := ((pNT hh571 (pN_n hh571 z570 e574)).trans e574)
  refine gp_RF C fk_LandSurveyModel_197 pk_LandSurveyModel_49 rfl e575 hn rfl (nf_a _ _) dX12_init_527 (fun h577 hh576 => ?_)
  have O578 := O573.pR e575 hh576 (okR_l rE_1012_49 (pN_T hh571) (pN_L hh571))
  refine g_aload_n C rfl 0 rfl dX12_init_530 ?_
  refine g_bipush C (by decide) dX12_init_531 ?_
  refine g_newa (atype := .int) (t := 0) (ty := .int) (N := 40) C 150100 rfl (iw (il 40) (by decide) (by decide)) (by decide) rfl kw_224 rfl (fun _ => rfl) (by decide) (by decide) (by decide) (by decide) dX12_init_533 (fun n579 z580 z581 h583 hh582 => ?_)
  have O584 := O578.pN z580 z581 hh582 (by decide) nn_150100
  have e585 : Tg h577 a0 = 1012 := ((pRT hh576).trans e575)
  have e586 : Tg h583 a0 = 1012 := ((pNT hh582 (pN_n hh582 z581 e585)).trans e585)
  refine gp_RF C fk_LandSurveyModel_200 pk_LandSurveyModel_50 rfl e586 hn rfl (nf_a _ _) dX12_init_535 (fun h588 hh587 => ?_)
  have O589 := O584.pR e586 hh587 (okR_l rE_1012_50 (pN_T hh582) (pN_L hh582))
  refine g_aload_n C rfl 0 rfl dX12_init_538 ?_
  refine g_bipush C (by decide) dX12_init_539 ?_
  refine g_newa (atype := .int) (t := 0) (ty := .int) (N := 40) C 151100 rfl (iw (il 40) (by decide) (by decide)) (by decide) rfl kw_224 rfl (fun _ => rfl) (by decide) (by decide) (by decide) (by decide) dX12_init_541 (fun n590 z591 z592 h594 hh593 => ?_)
  have O595 := O589.pN z591 z592 hh593 (by decide) nn_151100
  have e596 : Tg h588 a0 = 1012 := ((pRT hh587).trans e586)
  have e597 : Tg h594 a0 = 1012 := ((pNT hh593 (pN_n hh593 z592 e596)).trans e596)
  refine gp_RF C fk_LandSurveyModel_203 pk_LandSurveyModel_51 rfl e597 hn rfl (nf_a _ _) dX12_init_543 (fun h599 hh598 => ?_)
  have O600 := O595.pR e597 hh598 (okR_l rE_1012_51 (pN_T hh593) (pN_L hh593))
  refine g_aload_n C rfl 0 rfl dX12_init_546 ?_
  refine g_bipush C (by decide) dX12_init_547 ?_
  refine g_newa (atype := .boolean) (t := 1) (ty := .boolean) (N := 40) C 152101 rfl (iw (il 40) (by decide) (by decide)) (by decide) rfl kw_225 rfl (fun _ => rfl) (by decide) (by decide) (by decide) (by decide) dX12_init_549 (fun n601 z602 z603 h605 hh604 => ?_)
  have O606 := O600.pN z602 z603 hh604 (by decide) nn_152101
  have e607 : Tg h599 a0 = 1012 := ((pRT hh598).trans e597)
  have e608 : Tg h605 a0 = 1012 := ((pNT hh604 (pN_n hh604 z603 e607)).trans e607)
  refine gp_RF C fk_LandSurveyModel_206 pk_LandSurveyModel_52 rfl e608 hn rfl (nf_a _ _) dX12_init_551 (fun h610 hh609 => ?_)
  have O611 := O606.pR e608 hh609 (okR_l rE_1012_52 (pN_T hh604) (pN_L hh604))
  refine g_aload_n C rfl 0 rfl dX12_init_554 ?_
  refine g_bipush C (by decide) dX12_init_555 ?_
  refine g_newa (atype := .boolean) (t := 1) (ty := .boolean) (N := 40) C 153101 rfl (iw (il 40) (by decide) (by decide)) (by decide) rfl kw_225 rfl (fun _ => rfl) (by decide) (by decide) (by decide) (by decide) dX12_init_557 (fun n612 z613 z614 h616 hh615 => ?_)
  have O617 := O611.pN z613 z614 hh615 (by decide) nn_153101
  have e618 : Tg h610 a0 = 1012 := ((pRT hh609).trans e608)
  have e619 : Tg h616 a0 = 1012 := ((pNT hh615 (pN_n hh615 z614 e618)).trans e618)
  refine gp_RF C fk_LandSurveyModel_209 pk_LandSurveyModel_53 rfl e619 hn rfl (nf_a _ _) dX12_init_559 (fun h621 hh620 => ?_)
  have O622 := O617.pR e619 hh620 (okR_l rE_1012_53 (pN_T hh615) (pN_L hh615))
  refine g_aload_n C rfl 0 rfl dX12_init_562 ?_
  refine g_bipush C (by decide) dX12_init_563 ?_
  refine g_newa (atype := .int) (t := 0) (ty := .int) (N := 40) C 154100 rfl (iw (il 40) (by decide) (by decide)) (by decide) rfl kw_224 rfl (fun _ => rfl) (by decide) (by decide) (by decide) (by decide) dX12_init_565 (fun n623 z624 z625 h627 hh626 => ?_)
  have O628 := O622.pN z624 z625 hh626 (by decide) nn_154100
  have e629 : Tg h621 a0 = 1012 := ((pRT hh620).trans e619)
  have e630 : Tg h627 a0 = 1012 := ((pNT hh626 (pN_n hh626 z625 e629)).trans e629)
  refine gp_RF C fk_LandSurveyModel_212 pk_LandSurveyModel_54 rfl e630 hn rfl (nf_a _ _) dX12_init_567 (fun h632 hh631 => ?_)
  have O633 := O628.pR e630 hh631 (okR_l rE_1012_54 (pN_T hh626) (pN_L hh626))
  refine g_aload_n C rfl 0 rfl dX12_init_570 ?_
  refine g_bipush C (by decide) dX12_init_571 ?_
  refine g_newa (atype := .int) (t := 0) (ty := .int) (N := 40) C 155100 rfl (iw (il 40) (by decide) (by decide)) (by decide) rfl kw_224 rfl (fun _ => rfl) (by decide) (by decide) (by decide) (by decide) dX12_init_573 (fun n634 z635 z636 h638 hh637 => ?_)
  have O639 := O633.pN z635 z636 hh637 (by decide) nn_155100
  have e640 : Tg h632 a0 = 1012 := ((pRT hh631).trans e630)
  have e641 : Tg h638 a0 = 1012 := ((pNT hh637 (pN_n hh637 z636 e640)).trans e640)
  refine gp_RF C fk_LandSurveyModel_215 pk_LandSurveyModel_55 rfl e641 hn rfl (nf_a _ _) dX12_init_575 (fun h643 hh642 => ?_)
  have O644 := O639.pR e641 hh642 (okR_l rE_1012_55 (pN_T hh637) (pN_L hh637))
  refine g_aload_n C rfl 0 rfl dX12_init_578 ?_
  refine g_bipush C (by decide) dX12_init_579 ?_
  refine g_newa (atype := .int) (t := 0) (ty := .int) (N := 40) C 156100 rfl (iw (il 40) (by decide) (by decide)) (by decide) rfl kw_224 rfl (fun _ => rfl) (by decide) (by decide) (by decide) (by decide) dX12_init_581 (fun n645 z646 z647 h649 hh648 => ?_)
  have O650 := O644.pN z646 z647 hh648 (by decide) nn_156100
  have e651 : Tg h643 a0 = 1012 := ((pRT hh642).trans e641)
  have e652 : Tg h649 a0 = 1012 := ((pNT hh648 (pN_n hh648 z647 e651)).trans e651)
  refine gp_RF C fk_LandSurveyModel_218 pk_LandSurveyModel_56 rfl e652 hn rfl (nf_a _ _) dX12_init_583 (fun h654 hh653 => ?_)
  have O655 := O650.pR e652 hh653 (okR_l rE_1012_56 (pN_T hh648) (pN_L hh648))
  refine g_aload_n C rfl 0 rfl dX12_init_586 ?_
  refine g_sipush C (by decide) dX12_init_587 ?_
  refine g_newa (atype := .boolean) (t := 1) (ty := .boolean) (N := 768) C 158101 rfl (iw (il 768) (by decide) (by decide)) (by decide) rfl kw_225 rfl (fun _ => rfl) (by decide) (by decide) (by decide) (by decide) dX12_init_590 (fun n656 z657 z658 h660 hh659 => ?_)
  have O661 := O655.pN z657 z658 hh659 (by decide) nn_158101
  have e662 : Tg h654 a0 = 1012 := ((pRT hh653).trans e652)
  have e663 : Tg h660 a0 = 1012 := ((pNT hh659 (pN_n hh659 z658 e662)).trans e662)
  refine gp_RF C fk_LandSurveyModel_221 pk_LandSurveyModel_58 rfl e663 hn rfl (nf_a _ _) dX12_init_592 (fun h665 hh664 => ?_)
  have O666 := O661.pR e663 hh664 (okR_l rE_1012_58 (pN_T hh659) (pN_L hh659))
  refine g_aload_n C rfl 0 rfl dX12_init_595 ?_
  refine g_iconst C dX12_init_596 ?_
  refine g_newa (atype := .int) (t := 0) (ty := .int) (N := 4) C 159100 rfl (iw (il 4) (by decide) (by decide)) (by decide) rfl kw_224 rfl (fun _ => rfl) (by decide) (by decide) (by decide) (by decide) dX12_init_597 (fun n667 z668 z669 h671 hh670 => ?_)
  have O672 := O666.pN z668 z669 hh670 (by decide) nn_159100
  have e673 : Tg h665 a0 = 1012 := ((pRT hh664).trans e663)
  have e674 : Tg h671 a0 = 1012 := ((pNT hh670 (pN_n hh670 z669 e673)).trans e673)
  refine gp_RF C fk_LandSurveyModel_224 pk_LandSurveyModel_59 rfl e674 hn rfl (nf_a _ _) dX12_init_599 (fun h676 hh675 => ?_)
  have O677 := O672.pR e674 hh675 (okR_l rE_1012_59 (pN_T hh670) (pN_L hh670))
  refine g_aload_n C rfl 0 rfl dX12_init_602 ?_
  refine g_iconst C dX12_init_603 ?_
  refine g_newa (atype := .int) (t := 0) (ty := .int) (N := 4) C 160100 rfl (iw (il 4) (by decide) (by decide)) (by decide) rfl kw_224 rfl (fun _ => rfl) (by decide) (by decide) (by decide) (by decide) dX12_init_604 (fun n678 z679 z680 h682 hh681 => ?_)
  have O683 := O677.pN z679 z680 hh681 (by decide) nn_160100
  have e684 : Tg h676 a0 = 1012 := ((pRT hh675).trans e674)
  have e685 : Tg h682 a0 = 1012 := ((pNT hh681 (pN_n hh681 z680 e684)).trans e684)
  refine gp_RF C fk_LandSurveyModel_227 pk_LandSurveyModel_60 rfl e685 hn rfl (nf_a _ _) dX12_init_606 (fun h687 hh686 => ?_)
  have O688 := O683.pR e685 hh686 (okR_l rE_1012_60 (pN_T hh681) (pN_L hh681))
  refine g_aload_n C rfl 0 rfl dX12_init_609 ?_
  refine g_iconst C dX12_init_610 ?_
  refine g_newa (atype := .int) (t := 0) (ty := .int) (N := 4) C 161100 rfl (iw (il 4) (by decide) (by decide)) (by decide) rfl kw_224 rfl (fun _ => rfl) (by decide) (by decide) (by decide) (by decide) dX12_init_611 (fun n689 z690 z691 h693 hh692 => ?_)
  have O694 := O688.pN z690 z691 hh692 (by decide) nn_161100
  have e695 : Tg h687 a0 = 1012 := ((pRT hh686).trans e685)
  have e696 : Tg h693 a0 = 1012 := ((pNT hh692 (pN_n hh692 z691 e695)).trans e695)
  refine gp_RF C fk_LandSurveyModel_230 pk_LandSurveyModel_61 rfl e696 hn rfl (nf_a _ _) dX12_init_613 (fun h698 hh697 => ?_)
  have O699 := O694.pR e696 hh697 (okR_l rE_1012_61 (pN_T hh692) (pN_L hh692))
  refine g_aload_n C rfl 0 rfl dX12_init_616 ?_
  refine g_sipush C (by decide) dX12_init_617 ?_
  refine g_newa (atype := .int) (t := 0) (ty := .int) (N := 600) C 163100 rfl (iw (il 600) (by decide) (by decide)) (by decide) rfl kw_224 rfl (fun _ => rfl) (by decide) (by decide) (by decide) (by decide) dX12_init_620 (fun n700 z701 z702 h704 hh703 => ?_)
  have O705 := O699.pN z701 z702 hh703 (by decide) nn_163100
  have e706 : Tg h698 a0 = 1012 := ((pRT hh697).trans e696)
  have e707 : Tg h704 a0 = 1012 := ((pNT hh703 (pN_n hh703 z702 e706)).trans e706)
  refine gp_RF C fk_LandSurveyModel_233 pk_LandSurveyModel_63 rfl e707 hn rfl (nf_a _ _) dX12_init_622 (fun h709 hh708 => ?_)
  have O710 := O705.pR e707 hh708 (okR_l rE_1012_63 (pN_T hh703) (pN_L hh703))
  refine g_aload_n C rfl 0 rfl dX12_init_625 ?_
  refine g_sipush C (by decide) dX12_init_626 ?_
  refine g_newa (atype := .int) (t := 0) (ty := .int) (N := 600) C 164100 rfl (iw (il 600) (by decide) (by decide)) (by decide) rfl kw_224 rfl (fun _ => rfl) (by decide) (by decide) (by decide) (by decide) dX12_init_629 (fun n711 z712 z713 h715 hh714 => ?_)
  have O716 := O710.pN z712 z713 hh714 (by decide) nn_164100
  have e717 : Tg h709 a0 = 1012 := ((pRT hh708).trans e707)
  have e718 : Tg h715 a0 = 1012 := ((pNT hh714 (pN_n hh714 z713 e717)).trans e717)
  refine gp_RF C fk_LandSurveyModel_236 pk_LandSurveyModel_64 rfl e718 hn rfl (nf_a _ _) dX12_init_631 (fun h720 hh719 => ?_)
  have O721 := O716.pR e718 hh719 (okR_l rE_1012_64 (pN_T hh714) (pN_L hh714))
  refine g_aload_n C rfl 0 rfl dX12_init_634 ?_
  refine g_sipush C (by decide) dX12_init_635 ?_
  refine g_newa (atype := .int) (t := 0) (ty := .int) (N := 600) C 165100 rfl (iw (il 600) (by decide) (by decide)) (by decide) rfl kw_224 rfl (fun _ => rfl) (by decide) (by decide) (by decide) (by decide) dX12_init_638 (fun n722 z723 z724 h726 hh725 => ?_)
  have O727 := O721.pN z723 z724 hh725 (by decide) nn_165100
  have e728 : Tg h720 a0 = 1012 := ((pRT hh719).trans e718)
  have e729 : Tg h726 a0 = 1012 := ((pNT hh725 (pN_n hh725 z724 e728)).trans e728)
  refine gp_RF C fk_LandSurveyModel_239 pk_LandSurveyModel_65 rfl e729 hn rfl (nf_a _ _) dX12_init_640 (fun h731 hh730 => ?_)
  have O732 := O727.pR e729 hh730 (okR_l rE_1012_65 (pN_T hh725) (pN_L hh725))
  refine g_aload_n C rfl 0 rfl dX12_init_643 ?_
  refine g_sipush C (by decide) dX12_init_644 ?_
  refine g_newa (atype := .int) (t := 0) (ty := .int) (N := 600) C 166100 rfl (iw (il 600) (by decide) (by decide)) (by decide) rfl kw_224 rfl (fun _ => rfl) (by decide) (by decide) (by decide) (by decide) dX12_init_647 (fun n733 z734 z735 h737 hh736 => ?_)
  have O738 := O732.pN z734 z735 hh736 (by decide) nn_166100
  have e739 : Tg h731 a0 = 1012 := ((pRT hh730).trans e729)
  have e740 : Tg h737 a0 = 1012 := ((pNT hh736 (pN_n hh736 z735 e739)).trans e739)
  refine gp_RF C fk_LandSurveyModel_242 pk_LandSurveyModel_66 rfl e740 hn rfl (nf_a _ _) dX12_init_649 (fun h742 hh741 => ?_)
  have O743 := O738.pR e740 hh741 (okR_l rE_1012_66 (pN_T hh736) (pN_L hh736))
  refine g_aload_n C rfl 0 rfl dX12_init_652 ?_
  refine g_bipush C (by decide) dX12_init_653 ?_
  refine g_newa (atype := .int) (t := 0) (ty := .int) (N := 97) C 167100 rfl (iw (il 97) (by decide) (by decide)) (by decide) rfl kw_224 rfl (fun _ => rfl) (by decide) (by decide) (by decide) (by decide) dX12_init_655 (fun n744 z745 z746 h748 hh747 => ?_)
  have O749 := O743.pN z745 z746 hh747 (by decide) nn_167100
  have e750 : Tg h742 a0 = 1012 := ((pRT hh741).trans e740)
  have e751 : Tg h748 a0 = 1012 := ((pNT hh747 (pN_n hh747 z746 e750)).trans e750)
  refine gp_RF C fk_LandSurveyModel_245 pk_LandSurveyModel_67 rfl e751 hn rfl (nf_a _ _) dX12_init_657 (fun h753 hh752 => ?_)
  have O754 := O749.pR e751 hh752 (okR_l rE_1012_67 (pN_T hh747) (pN_L hh747))
  refine g_aload_n C rfl 0 rfl dX12_init_660 ?_
  refine g_bipush C (by decide) dX12_init_661 ?_
  refine g_newa (atype := .int) (t := 0) (ty := .int) (N := 97) C 168100 rfl (iw (il 97) (by decide) (by decide)) (by decide) rfl kw_224 rfl (fun _ => rfl) (by decide) (by decide) (by decide) (by decide) dX12_init_663 (fun n755 z756 z757 h759 hh758 => ?_)
  have O760 := O754.pN z756 z757 hh758 (by decide) nn_168100
  have e761 : Tg h753 a0 = 1012 := ((pRT hh752).trans e751)
  have e762 : Tg h759 a0 = 1012 := ((pNT hh758 (pN_n hh758 z757 e761)).trans e761)
  refine gp_RF C fk_LandSurveyModel_248 pk_LandSurveyModel_68 rfl e762 hn rfl (nf_a _ _) dX12_init_665 (fun h764 hh763 => ?_)
  have O765 := O760.pR e762 hh763 (okR_l rE_1012_68 (pN_T hh758) (pN_L hh758))
  refine g_aload_n C rfl 0 rfl dX12_init_668 ?_
  refine g_bipush C (by decide) dX12_init_669 ?_
  refine g_newa (atype := .boolean) (t := 1) (ty := .boolean) (N := 16) C 170101 rfl (iw (il 16) (by decide) (by decide)) (by decide) rfl kw_225 rfl (fun _ => rfl) (by decide) (by decide) (by decide) (by decide) dX12_init_671 (fun n766 z767 z768 h770 hh769 => ?_)
  have O771 := O765.pN z767 z768 hh769 (by decide) nn_170101
  have e772 : Tg h764 a0 = 1012 := ((pRT hh763).trans e762)
  have e773 : Tg h770 a0 = 1012 := ((pNT hh769 (pN_n hh769 z768 e772)).trans e772)
  refine gp_RF C fk_LandSurveyModel_251 pk_LandSurveyModel_70 rfl e773 hn rfl (nf_a _ _) dX12_init_673 (fun h775 hh774 => ?_)
  have O776 := O771.pR e773 hh774 (okR_l rE_1012_70 (pN_T hh769) (pN_L hh769))
  refine g_aload_n C rfl 0 rfl dX12_init_676 ?_
  refine g_bipush C (by decide) dX12_init_677 ?_
  refine g_newa (atype := .int) (t := 0) (ty := .int) (N := 16) C 171100 rfl (iw (il 16) (by decide) (by decide)) (by decide) rfl kw_224 rfl (fun _ => rfl) (by decide) (by decide) (by decide) (by decide) dX12_init_679 (fun n777 z778 z779 h781 hh780 => ?_)
  have O782 := O776.pN z778 z779 hh780 (by decide) nn_171100
  have e783 : Tg h775 a0 = 1012 := ((pRT hh774).trans e773)
  have e784 : Tg h781 a0 = 1012 := ((pNT hh780 (pN_n hh780 z779 e783)).trans e783)
  refine gp_RF C fk_LandSurveyModel_254 pk_LandSurveyModel_71 rfl e784 hn rfl (nf_a _ _) dX12_init_681 (fun h786 hh785 => ?_)
  have O787 := O782.pR e784 hh785 (okR_l rE_1012_71 (pN_T hh780) (pN_L hh780))
  refine g_aload_n C rfl 0 rfl dX12_init_684 ?_
  refine g_bipush C (by decide) dX12_init_685 ?_
  refine g_newa (atype := .long) (t := 2) (ty := .long) (N := 16) C 172102 rfl (iw (il 16) (by decide) (by decide)) (by decide) rfl kw_376 rfl (fun _ => rfl) (by decide) (by decide) (by decide) (by decide) dX12_init_687 (fun n788 z789 z790 h792 hh791 => ?_)
  have O793 := O787.pN z789 z790 hh791 (by decide) nn_172102
  have e794 : Tg h786 a0 = 1012 := ((pRT hh785).trans e784)
  have e795 : Tg h792 a0 = 1012 := ((pNT hh791 (pN_n hh791 z790 e794)).trans e794)
  refine gp_RF C fk_LandSurveyModel_257 pk_LandSurveyModel_72 rfl e795 hn rfl (nf_a _ _) dX12_init_689 (fun h797 hh796 => ?_)
  have O798 := O793.pR e795 hh796 (okR_l rE_1012_72 (pN_T hh791) (pN_L hh791))
  refine g_aload_n C rfl 0 rfl dX12_init_692 ?_
  refine g_bipush C (by decide) dX12_init_693 ?_
  refine g_newa (atype := .boolean) (t := 1) (ty := .boolean) (N := 16) C 173101 rfl (iw (il 16) (by decide) (by decide)) (by decide) rfl kw_225 rfl (fun _ => rfl) (by decide) (by decide) (by decide) (by decide) dX12_init_695 (fun n799 z800 z801 h803 hh802 => ?_)
  have O804 := O798.pN z800 z801 hh802 (by decide) nn_173101
  have e805 : Tg h797 a0 = 1012 := ((pRT hh796).trans e795)
  have e806 : Tg h803 a0 = 1012 := ((pNT hh802 (pN_n hh802 z801 e805)).trans e805)
  refine gp_RF C fk_LandSurveyModel_260 pk_LandSurveyModel_73 rfl e806 hn rfl (nf_a _ _) dX12_init_697 (fun h808 hh807 => ?_)
  have O809 := O804.pR e806 hh807 (okR_l rE_1012_73 (pN_T hh802) (pN_L hh802))
  refine g_aload_n C rfl 0 rfl dX12_init_700 ?_
  refine g_bipush C (by decide) dX12_init_701 ?_
  refine g_newa (atype := .boolean) (t := 1) (ty := .boolean) (N := 16) C 174101 rfl (iw (il 16) (by decide) (by decide)) (by decide) rfl kw_225 rfl (fun _ => rfl) (by decide) (by decide) (by decide) (by decide) dX12_init_703 (fun n810 z811 z812 h814 hh813 => ?_)
  have O815 := O809.pN z811 z812 hh813 (by decide) nn_174101
  have e816 : Tg h808 a0 = 1012 := ((pRT hh807).trans e806)
  have e817 : Tg h814 a0 = 1012 := ((pNT hh813 (pN_n hh813 z812 e816)).trans e816)
  refine gp_RF C fk_LandSurveyModel_263 pk_LandSurveyModel_74 rfl e817 hn rfl (nf_a _ _) dX12_init_705 (fun h819 hh818 => ?_)
  have O820 := O815.pR e817 hh818 (okR_l rE_1012_74 (pN_T hh813) (pN_L hh813))
  refine g_aload_n C rfl 0 rfl dX12_init_708 ?_
  refine g_sipush C (by decide) dX12_init_709 ?_
  refine g_newa (atype := .int) (t := 0) (ty := .int) (N := 1536) C 175100 rfl (iw (il 1536) (by decide) (by decide)) (by decide) rfl kw_224 rfl (fun _ => rfl) (by decide) (by decide) (by decide) (by decide) dX12_init_712 (fun n821 z822 z823 h825 hh824 => ?_)
  have O826 := O820.pN z822 z823 hh824 (by decide) nn_175100
  have e827 : Tg h819 a0 = 1012 := ((pRT hh818).trans e817)
  have e828 : Tg h825 a0 = 1012 := ((pNT hh824 (pN_n hh824 z823 e827)).trans e827)
  refine gp_RF C fk_LandSurveyModel_266 pk_LandSurveyModel_75 rfl e828 hn rfl (nf_a _ _) dX12_init_714 (fun h830 hh829 => ?_)
  have O831 := O826.pR e828 hh829 (okR_l rE_1012_75 (pN_T hh824) (pN_L hh824))
  refine g_aload_n C rfl 0 rfl dX12_init_717 ?_
  refine g_sipush C (by decide) dX12_init_718 ?_
  refine g_newa (atype := .int) (t := 0) (ty := .int) (N := 1536) C 176100 rfl (iw (il 1536) (by decide) (by decide)) (by decide) rfl kw_224 rfl (fun _ => rfl) (by decide) (by decide) (by decide) (by decide) dX12_init_721 (fun n832 z833 z834 h836 hh835 => ?_)
  have O837 := O831.pN z833 z834 hh835 (by decide) nn_176100
  have e838 : Tg h830 a0 = 1012 := ((pRT hh829).trans e828)
  have e839 : Tg h836 a0 = 1012 := ((pNT hh835 (pN_n hh835 z834 e838)).trans e838)
  refine gp_RF C fk_LandSurveyModel_269 pk_LandSurveyModel_76 rfl e839 hn rfl (nf_a _ _) dX12_init_723 (fun h841 hh840 => ?_)
  have O842 := O837.pR e839 hh840 (okR_l rE_1012_76 (pN_T hh835) (pN_L hh835))
  refine g_aload_n C rfl 0 rfl dX12_init_726 ?_
  refine g_sipush C (by decide) dX12_init_727 ?_
  refine g_newa (atype := .int) (t := 0) (ty := .int) (N := 960) C 181100 rfl (iw (il 960) (by decide) (by decide)) (by decide) rfl kw_224 rfl (fun _ => rfl) (by decide) (by decide) (by decide) (by decide) dX12_init_730 (fun n843 z844 z845 h847 hh846 => ?_)
  have O848 := O842.pN z844 z845 hh846 (by decide) nn_181100
  have e849 : Tg h841 a0 = 1012 := ((pRT hh840).trans e839)
  have e850 : Tg h847 a0 = 1012 := ((pNT hh846 (pN_n hh846 z845 e849)).trans e849)
  refine gp_RF C fk_LandSurveyModel_272 pk_LandSurveyModel_81 rfl e850 hn rfl (nf_a _ _) dX12_init_732 (fun h852 hh851 => ?_)
  have O853 := O848.pR e850 hh851 (okR_l rE_1012_81 (pN_T hh846) (pN_L hh846))
  refine g_aload_n C rfl 0 rfl dX12_init_735 ?_
  refine g_bipush C (by decide) dX12_init_736 ?_
  refine g_newa (atype := .boolean) (t := 1) (ty := .boolean) (N := 96) C 182101 rfl (iw (il 96) (by decide) (by decide)) (by decide) rfl kw_225 rfl (fun _ => rfl) (by decide) (by decide) (by decide) (by decide) dX12_init_738 (fun n854 z855 z856 h858 hh857 => ?_)
  have O859 := O853.pN z855 z856 hh857 (by decide) nn_182101
  have e860 : Tg h852 a0 = 1012 := ((pRT hh851).trans e850)
  have e861 : Tg h858 a0 = 1012 := ((pNT hh857 (pN_n hh857 z856 e860)).trans e860)
  refine gp_RF C fk_LandSurveyModel_275 pk_LandSurveyModel_82 rfl e861 hn rfl (nf_a _ _) dX12_init_740 (fun h863 hh862 => ?_)
  have O864 := O859.pR e861 hh862 (okR_l rE_1012_82 (pN_T hh857) (pN_L hh857))
  refine g_aload_n C rfl 0 rfl dX12_init_743 ?_
  refine g_bipush C (by decide) dX12_init_744 ?_
  refine g_newa (atype := .int) (t := 0) (ty := .int) (N := 8) C 184100 rfl (iw (il 8) (by decide) (by decide)) (by decide) rfl kw_224 rfl (fun _ => rfl) (by decide) (by decide) (by decide) (by decide) dX12_init_746 (fun n865 z866 z867 h869 hh868 => ?_)
  have O870 := O864.pN z866 z867 hh868 (by decide) nn_184100
  have e871 : Tg h863 a0 = 1012 := ((pRT hh862).trans e861)
  have e872 : Tg h869 a0 = 1012 := ((pNT hh868 (pN_n hh868 z867 e871)).trans e871)
  refine gp_RF C fk_LandSurveyModel_278 pk_LandSurveyModel_84 rfl e872 hn rfl (nf_a _ _) dX12_init_748 (fun h874 hh873 => ?_)
  have O875 := O870.pR e872 hh873 (okR_l rE_1012_84 (pN_T hh868) (pN_L hh868))
  refine g_aload_n C rfl 0 rfl dX12_init_751 ?_
  refine g_bipush C (by decide) dX12_init_752 ?_
  refine g_newa (atype := .int) (t := 0) (ty := .int) (N := 8) C 185100 rfl (iw (il 8) (by decide) (by decide)) (by decide) rfl kw_224 rfl (fun _ => rfl) (by decide) (by decide) (by decide) (by decide) dX12_init_754 (fun n876 z877 z878 h880 hh879 => ?_)
  have O881 := O875.pN z877 z878 hh879 (by decide) nn_185100
  have e882 : Tg h874 a0 = 1012 := ((pRT hh873).trans e872)
  have e883 : Tg h880 a0 = 1012 := ((pNT hh879 (pN_n hh879 z878 e882)).trans e882)
  refine gp_RF C fk_LandSurveyModel_281 pk_LandSurveyModel_85 rfl e883 hn rfl (nf_a _ _) dX12_init_756 (fun h885 hh884 => ?_)
  have O886 := O881.pR e883 hh884 (okR_l rE_1012_85 (pN_T hh879) (pN_L hh879))
  refine g_aload_n C rfl 0 rfl dX12_init_759 ?_
  refine g_bipush C (by decide) dX12_init_760 ?_
  refine g_newa (atype := .int) (t := 0) (ty := .int) (N := 97) C 186100 rfl (iw (il 97) (by decide) (by decide)) (by decide) rfl kw_224 rfl (fun _ => rfl) (by decide) (by decide) (by decide) (by decide) dX12_init_762 (fun n887 z888 z889 h891 hh890 => ?_)
  have O892 := O886.pN z888 z889 hh890 (by decide) nn_186100
  have e893 : Tg h885 a0 = 1012 := ((pRT hh884).trans e883)
  have e894 : Tg h891 a0 = 1012 := ((pNT hh890 (pN_n hh890 z889 e893)).trans e893)
  refine gp_RF C fk_LandSurveyModel_284 pk_LandSurveyModel_86 rfl e894 hn rfl (nf_a _ _) dX12_init_764 (fun h896 hh895 => ?_)
  have O897 := O892.pR e894 hh895 (okR_l rE_1012_86 (pN_T hh890) (pN_L hh890))
  refine g_iconst C dX12_init_767 ?_
  refine g_istore_n C [(1, .inl 0), (0, .inr (.inr a0))] rfl (by decide) rfl dX12_init_768 ?_
  refine GW.sub [1, 0] rfl ?_
  -- loop at 769
  have L900 : ∀ (μ : Nat) (x898 : Int) (h899 : Hp), (96 - x898).toNat = μ → Okh h899 → Fx [27220000, 27420200, 27820000] h896 h899 → ((0 : Int) ≤ x898 ∧ x898 ≤ (96 : Int)) → GW p l e (rmm 1 24 68 46508) s m (List.map toV [.inr (.inr a0)]).toArray below meth c D cy z0 2 (MQ below (QV D cy z0 (fun h1 => Okh h1 ∧ Fx wr_k_X12_init h h1 ∧ (¬ Rv h1 a0 1 = 0) ∧ (¬ Rv h1 a0 4 = 0) ∧ (¬ Rv h1 a0 5 = 0) ∧ (¬ Rv h1 a0 6 = 0) ∧ (¬ Rv h1 a0 9 = 0) ∧ (¬ Rv h1 a0 11 = 0) ∧ (¬ Rv h1 a0 12 = 0) ∧ (¬ Rv h1 a0 13 = 0) ∧ (¬ Rv h1 a0 14 = 0) ∧ (¬ Rv h1 a0 15 = 0) ∧ (¬ Rv h1 a0 16 = 0) ∧ (¬ Rv h1 a0 17 = 0) ∧ (¬ Rv h1 a0 18 = 0) ∧ (¬ Rv h1 a0 19 = 0) ∧ (¬ Rv h1 a0 20 = 0) ∧ (¬ Rv h1 a0 21 = 0) ∧ (¬ Rv h1 a0 22 = 0) ∧ (¬ Rv h1 a0 23 = 0) ∧ (¬ Rv h1 a0 24 = 0) ∧ (¬ Rv h1 a0 25 = 0) ∧ (¬ Rv h1 a0 26 = 0) ∧ (¬ Rv h1 a0 27 = 0) ∧ (¬ Rv h1 a0 29 = 0) ∧ (¬ Rv h1 a0 30 = 0) ∧ (¬ Rv h1 a0 31 = 0) ∧ (¬ Rv h1 a0 32 = 0) ∧ (¬ Rv h1 a0 36 = 0) ∧ (¬ Rv h1 a0 37 = 0) ∧ (¬ Rv h1 a0 38 = 0) ∧ (¬ Rv h1 a0 39 = 0) ∧ (¬ Rv h1 a0 41 = 0) ∧ (¬ Rv h1 a0 42 = 0) ∧ (¬ Rv h1 a0 43 = 0) ∧ (¬ Rv h1 a0 44 = 0) ∧ (¬ Rv h1 a0 45 = 0) ∧ (¬ Rv h1 a0 46 = 0) ∧ (¬ Rv h1 a0 47 = 0) ∧ (¬ Rv h1 a0 48 = 0) ∧ (¬ Rv h1 a0 49 = 0) ∧ (¬ Rv h1 a0 50 = 0) ∧ (¬ Rv h1 a0 51 = 0) ∧ (¬ Rv h1 a0 52 = 0) ∧ (¬ Rv h1 a0 53 = 0) ∧ (¬ Rv h1 a0 54 = 0) ∧ (¬ Rv h1 a0 55 = 0) ∧ (¬ Rv h1 a0 56 = 0) ∧ (¬ Rv h1 a0 58 = 0) ∧ (¬ Rv h1 a0 59 = 0) ∧ (¬ Rv h1 a0 60 = 0) ∧ (¬ Rv h1 a0 61 = 0) ∧ (¬ Rv h1 a0 63 = 0) ∧ (¬ Rv h1 a0 64 = 0) ∧ (¬ Rv h1 a0 65 = 0) ∧ (¬ Rv h1 a0 66 = 0) ∧ (¬ Rv h1 a0 67 = 0) ∧ (¬ Rv h1 a0 68 = 0) ∧ (¬ Rv h1 a0 70 = 0) ∧ (¬ Rv h1 a0 71 = 0) ∧ (¬ Rv h1 a0 72 = 0) ∧ (¬ Rv h1 a0 73 = 0) ∧ (¬ Rv h1 a0 74 = 0) ∧ (¬ Rv h1 a0 75 = 0) ∧ (¬ Rv h1 a0 76 = 0) ∧ (¬ Rv h1 a0 81 = 0) ∧ (¬ Rv h1 a0 82 = 0) ∧ (¬ Rv h1 a0 84 = 0) ∧ (¬ Rv h1 a0 85 = 0) ∧ (¬ Rv h1 a0 86 = 0) ∧ (MInv h1 a0))) (List.map toV [.inr (.inr a0)]).toArray s 68 46508 (Aof z0)) 769 [(0, .inr (.inr a0)), (1, .inl x898)] [] h899 68 46508 := by
    intro μ
    induction μ using Nat.strongRecOn with
    | ind μ ih901 =>
      intro x898 h899 hm902 O903 F904 f905
      refine g_iload_n C rfl 1 rfl dX12_init_769 ?_
      refine g_bipush C (by decide) dX12_init_770 ?_
      refine g_icmp_ge C (iw f905 (by decide) (by decide)) (iw (il 96) (by decide) (by decide)) 804 (by decide) dX12_init_772 (fun q906 => ?_) (fun q907 => ?_)
      · have f908 : (96 : Int) ≤ x898 ∧ x898 ≤ (96 : Int) := r_ge f905 (il 96) q906 (by decide) (by decide)
        refine g_aload_n C rfl 0 rfl dX12_init_804 ?_
        refine g_iconst C dX12_init_805 ?_
        have e909 : Tg h899 a0 = 1012 := (fxT F904 ((pRT hh895).trans e894))
        refine gp_I C fk_LandSurveyModel_287 pk_LandSurveyModel_34 rfl e909 (iw (il (-1)) (by decide) (by decide)) (nf_i _) dX12_init_806 (fun h911 hh910 => ?_)
        have O912 := O903.pI e909 hh910 rI_1012_34 (iw (il (-1)) (by decide) (by decide)) nofun
        refine g_aload_n C rfl 0 rfl dX12_init_809 ?_
        refine g_iconst C dX12_init_810 ?_
        have e913 : Tg h911 a0 = 1012 := ((pIT hh910).trans e909)
        refine gp_I C fk_LandSurveyModel_290 pk_LandSurveyModel_35 rfl e913 (iw (il 1) (by decide) (by decide)) (nar_z2 (iw (il 1) (by decide) (by decide))) dX12_init_811 (fun h915 hh914 => ?_)
        have O916 := O912.pI e913 hh914 rI_1012_35 (iw (il 1) (by decide) (by decide)) nofun
        have e917 : Tg h896 a0 = 1012 := ((pRT hh895).trans e894)
        have e918 : Rv h915 a0 1 = n1 := ((pIR hh914).trans ((pIR hh910).trans ((fxR F904 e917 rfl).trans ((pR_j hh895 (by decide)).trans ((pNR hh890 (pN_n hh890 z889 e893)).trans ((pR_j hh884 (by decide)).trans ((pNR hh879 (pN_n hh879 z878 e882)).trans ((pR_j hh873 (by decide)).trans ((pNR hh868 (pN_n hh868 z867 e871)).trans ((pR_j hh862 (by decide)).trans ((pNR hh857 (pN_n hh857 z856 e860)).trans ((pR_j hh851 (by decide)).trans ((pNR hh846 (pN_n hh846 z845 e849)).trans ((pR_j hh840 (by decide)).trans ((pNR hh835 (pN_n hh835 z834 e838)).trans ((pR_j hh829 (by decide)).trans ((pNR hh824 (pN_n hh824 z823 e827)).trans ((pR_j hh818 (by decide)).trans ((pNR hh813 (pN_n hh813 z812 e816)).trans ((pR_j hh807 (by decide)).trans ((pNR hh802 (pN_n hh802 z801 e805)).trans ((pR_j hh796 (by decide)).trans ((pNR hh791 (pN_n hh791 z790 e794)).trans ((pR_j hh785 (by decide)).trans ((pNR hh780 (pN_n hh780 z779 e783)).trans ((pR_j hh774 (by decide)).trans ((pNR hh769 (pN_n hh769 z768 e772)).trans ((pR_j hh763 (by decide)).trans ((pNR hh758 (pN_n hh758 z757 e761)).trans ((pR_j hh752 (by decide)).trans ((pNR hh747 (pN_n hh747 z746 e750)).trans ((pR_j hh741 (by decide)).trans ((pNR hh736 (pN_n hh736 z735 e739)).trans ((pR_j hh730 (by decide)).trans ((pNR hh725 (pN_n hh725 z724 e728)).trans ((pR_j hh719 (by decide)).trans ((pNR hh714 (pN_n hh714 z713 e717)).trans ((pR_j hh708 (by decide)).trans ((pNR hh703 (pN_n hh703 z702 e706)).trans ((pR_j hh697 (by decide)).trans ((pNR hh692 (pN_n hh692 z691 e695)).trans ((pR_j hh686 (by decide)).trans ((pNR hh681 (pN_n hh681 z680 e684)).trans ((pR_j hh675 (by decide)).trans ((pNR hh670 (pN_n hh670 z669 e673)).trans ((pR_j hh664 (by decide)).trans ((pNR hh659 (pN_n hh659 z658 e662)).trans ((pR_j hh653 (by decide)).trans ((pNR hh648 (pN_n hh648 z647 e651)).trans ((pR_j hh642 (by decide)).trans ((pNR hh637 (pN_n hh637 z636 e640)).trans ((pR_j hh631 (by decide)).trans ((pNR hh626 (pN_n hh626 z625 e629)).trans ((pR_j hh620 (by decide)).trans ((pNR hh615 (pN_n hh615 z614 e618)).trans ((pR_j hh609 (by decide)).trans ((pNR hh604 (pN_n hh604 z603 e607)).trans ((pR_j hh598 (by decide)).trans ((pNR hh593 (pN_n hh593 z592 e596)).trans ((pR_j hh587 (by decide)).trans ((pNR hh582 (pN_n hh582 z581 e585)).trans ((pR_j hh576 (by decide)).trans ((pNR hh571 (pN_n hh571 z570 e574)).trans ((pR_j hh565 (by decide)).trans ((pNR hh560 (pN_n hh560 z559 e563)).trans ((pR_j hh554 (by decide)).trans ((pNR hh549 (pN_n hh549 z548 e552)).trans ((pR_j hh543 (by decide)).trans ((pNR hh538 (pN_n hh538 z537 e541)).trans ((pR_j hh532 (by decide)).trans ((pNR hh527 (pN_n hh527 z526 e530)).trans ((pR_j hh521 (by decide)).trans ((pNR hh516 (pN_n hh516 z515 e519)).trans ((pR_j hh510 (by decide)).trans ((pNR hh505 (pN_n hh505 z504 e508)).trans ((pR_j hh499 (by decide)).trans ((pNR hh494 (pN_n hh494 z493 e497)).trans ((pR_j hh488 (by decide)).trans ((pNR hh483 (pN_n hh483 z482 e486)).trans ((pR_j hh477 (by decide)).trans ((pNR hh472 (pN_n hh472 z471 e475)).trans ((pR_j hh466 (by decide)).trans ((pNR hh461 (pN_n hh461 z460 e464)).trans ((pR_j hh455 (by decide)).trans ((pNR hh450 (pN_n hh450 z449 e453)).trans ((pR_j hh444 (by decide)).trans ((pNR hh439 (pN_n hh439 z438 e442)).trans ((pR_j hh433 (by decide)).trans ((pNR hh428 (pN_n hh428 z427 e431)).trans ((pR_j hh422 (by decide)).trans ((pNR hh417 (pN_n hh417 z416 e420)).trans ((pR_j hh411 (by decide)).trans ((pNR hh406 (pN_n hh406 z405 e409)).trans ((pR_j hh400 (by decide)).trans ((pNR hh395 (pN_n hh395 z394 e398)).trans ((pR_j hh389 (by decide)).trans ((pNR hh384 (pN_n hh384 z383 e387)).trans ((pR_j hh378 (by decide)).trans ((pNR hh373 (pN_n hh373 z372 e376)).trans ((pR_j hh367 (by decide)).trans ((pNR hh362 (pN_n hh362 z361 e365)).trans ((pR_j hh356 (by decide)).trans ((pNR hh351 (pN_n hh351 z350 e354)).trans ((pR_j hh345 (by decide)).trans ((pNR hh340 (pN_n hh340 z339 e343)).trans ((pR_j hh334 (by decide)).trans ((pNR hh329 (pN_n hh329 z328 e332)).trans ((pR_j hh323 (by decide)).trans ((pNR hh318 (pN_n hh318 z317 e321)).trans ((pR_j hh312 (by decide)).trans ((pNR hh307 (pN_n hh307 z306 e310)).trans ((pR_j hh301 (by decide)).trans ((pNR hh296 (pN_n hh296 z295 e299)).trans ((pR_j hh290 (by decide)).trans ((pNR hh285 (pN_n hh285 z284 e288)).trans ((pR_j hh279 (by decide)).trans ((pNR hh274 (pN_n hh274 z273 e277)).trans ((pR_j hh268 (by decide)).trans ((pNR hh263 (pN_n hh263 z262 e266)).trans ((pR_j hh257 (by decide)).trans ((pNR hh252 (pN_n hh252 z251 e255)).trans ((pR_j hh246 (by decide)).trans ((pNR hh241 (pN_n hh241 z240 e244)).trans ((pR_j hh235 (by decide)).trans ((pNR hh230 (pN_n hh230 z229 e233)).trans ((pR_j hh224 (by decide)).trans ((pNR hh219 (pN_n hh219 z218 e222)).trans ((pR_j hh213 (by decide)).trans ((pNR hh208 (pN_n hh208 z207 e211)).trans ((pR_j hh200 (by decide)).trans ((pJR hh195).trans ((pJR hh190).trans ((pJR hh185).trans ((pJR hh180).trans ((pJR hh175).trans ((pJR hh170).trans ((pJR hh165).trans ((pJR hh160).trans ((pJR hh155).trans ((pJR hh150).trans ((pJR hh145).trans ((pJR hh140).trans ((pJR hh135).trans ((pJR hh130).trans ((pJR hh125).trans ((pJR hh120).trans ((pJR hh115).trans ((pJR hh110).trans ((pJR hh105).trans ((pJR hh100).trans ((pJR hh95).trans ((pJR hh90).trans ((pJR hh85).trans ((pJR hh80).trans ((pJR hh75).trans ((pJR hh70).trans ((pJR hh65).trans ((pJR hh60).trans ((pJR hh55).trans ((pJR hh50).trans ((pNR hh47 (pN_n hh47 z46 e198)).trans ((pR_j hh41 (by decide)).trans ((pNR hh36 (pN_n hh36 z35 e39)).trans ((pR_j hh30 (by decide)).trans ((pNR hh25 (pN_n hh25 z24 e28)).trans ((pR_j hh19 (by decide)).trans ((pNR hh14 (pN_n hh14 z13 e17)).trans (pR_e hh8))))))))))))))))))))))))))))))))))))))))))))))))))))))))))))))))))))))))))))))))))))))))))))))))))))))))))))))))))))))))))))))))))))))))))))))))))))))))))))))))))))))))
        have e919 : Tg h9 n1 = 101100 := ((pRT hh8).trans (pN_T hh4))
        have e920 : Tg h20 n1 = 101100 := ((pRT hh19).trans ((pNT hh14 (pN_n hh14 z13 e919)).trans e919))
        have e921 : Tg h31 n1 = 101100 := ((pRT hh30).trans ((pNT hh25 (pN_n hh25 z24 e920)).trans e920))
        have e922 : Tg h42 n1 = 101100 := ((pRT hh41).trans ((pNT hh36 (pN_n hh36 z35 e921)).trans e921))
        have e923 : Tg h201 n1 = 101100 := ((pRT hh200).trans ((pJT hh195).trans ((pJT hh190).trans ((pJT hh185).trans ((pJT hh180).trans ((pJT hh175).trans ((pJT hh170).trans ((pJT hh165).trans ((pJT hh160).trans ((pJT hh155).trans ((pJT hh150).trans ((pJT hh145).trans ((pJT hh140).trans ((pJT hh135).trans ((pJT hh130).trans ((pJT hh125).trans ((pJT hh120).trans ((pJT hh115).trans ((pJT hh110).trans ((pJT hh105).trans ((pJT hh100).trans ((pJT hh95).trans ((pJT hh90).trans ((pJT hh85).trans ((pJT hh80).trans ((pJT hh75).trans ((pJT hh70).trans ((pJT hh65).trans ((pJT hh60).trans ((pJT hh55).trans ((pJT hh50).trans ((pNT hh47 (pN_n hh47 z46 e922)).trans e922))))))))))))))))))))))))))))))))
        have e924 : Tg h214 n1 = 101100 := ((pRT hh213).trans ((pNT hh208 (pN_n hh208 z207 e923)).trans e923))
        have e925 : Tg h225 n1 = 101100 := ((pRT hh224).trans ((pNT hh219 (pN_n hh219 z218 e924)).trans e924))
        have e926 : Tg h236 n1 = 101100 := ((pRT hh235).trans ((pNT hh230 (pN_n hh230 z229 e925)).trans e925))
        have e927 : Tg h247 n1 = 101100 := ((pRT hh246).trans ((pNT hh241 (pN_n hh241 z240 e926)).trans e926))
        have e928 : Tg h258 n1 = 101100 := ((pRT hh257).trans ((pNT hh252 (pN_n hh252 z251 e927)).trans e927))
        have e929 : Tg h269 n1 = 101100 := ((pRT hh268).trans ((pNT hh263 (pN_n hh263 z262 e928)).trans e928))
        have e930 : Tg h280 n1 = 101100 := ((pRT hh279).trans ((pNT hh274 (pN_n hh274 z273 e929)).trans e929))
        have e931 : Tg h291 n1 = 101100 := ((pRT hh290).trans ((pNT hh285 (pN_n hh285 z284 e930)).trans e930))
        have e932 : Tg h302 n1 = 101100 := ((pRT hh301).trans ((pNT hh296 (pN_n hh296 z295 e931)).trans e931))
        have e933 : Tg h313 n1 = 101100 := ((pRT hh312).trans ((pNT hh307 (pN_n hh307 z306 e932)).trans e932))
        have e934 : Tg h324 n1 = 101100 := ((pRT hh323).trans ((pNT hh318 (pN_n hh318 z317 e933)).trans e933))
        have e935 : Tg h335 n1 = 101100 := ((pRT hh334).trans ((pNT hh329 (pN_n hh329 z328 e934)).trans e934))
        have e936 : Tg h346 n1 = 101100 := ((pRT hh345).trans ((pNT hh340 (pN_n hh340 z339 e935)).trans e935))
        have e937 : Tg h357 n1 = 101100 := ((pRT hh356).trans ((pNT hh351 (pN_n hh351 z350 e936)).trans e936))
        have e938 : Tg h368 n1 = 101100 := ((pRT hh367).trans ((pNT hh362 (pN_n hh362 z361 e937)).trans e937))
        have e939 : Tg h379 n1 = 101100 := ((pRT hh378).trans ((pNT hh373 (pN_n hh373 z372 e938)).trans e938))
        have e940 : Tg h390 n1 = 101100 := ((pRT hh389).trans ((pNT hh384 (pN_n hh384 z383 e939)).trans e939))
        have e941 : Tg h401 n1 = 101100 := ((pRT hh400).trans ((pNT hh395 (pN_n hh395 z394 e940)).trans e940))
        have e942 : Tg h412 n1 = 101100 := ((pRT hh411).trans ((pNT hh406 (pN_n hh406 z405 e941)).trans e941))
        have e943 : Tg h423 n1 = 101100 := ((pRT hh422).trans ((pNT hh417 (pN_n hh417 z416 e942)).trans e942))
        have e944 : Tg h434 n1 = 101100 := ((pRT hh433).trans ((pNT hh428 (pN_n hh428 z427 e943)).trans e943))
        have e945 : Tg h445 n1 = 101100 := ((pRT hh444).trans ((pNT hh439 (pN_n hh439 z438 e944)).trans e944))
        have e946 : Tg h456 n1 = 101100 := ((pRT hh455).trans ((pNT hh450 (pN_n hh450 z449 e945)).trans e945))
        have e947 : Tg h467 n1 = 101100 := ((pRT hh466).trans ((pNT hh461 (pN_n hh461 z460 e946)).trans e946))
        have e948 : Tg h478 n1 = 101100 := ((pRT hh477).trans ((pNT hh472 (pN_n hh472 z471 e947)).trans e947))
        have e949 : Tg h489 n1 = 101100 := ((pRT hh488).trans ((pNT hh483 (pN_n hh483 z482 e948)).trans e948))
        have e950 : Tg h500 n1 = 101100 := ((pRT hh499).trans ((pNT hh494 (pN_n hh494 z493 e949)).trans e949))
        have e951 : Tg h511 n1 = 101100 := ((pRT hh510).trans ((pNT hh505 (pN_n hh505 z504 e950)).trans e950))
        have e952 : Tg h522 n1 = 101100 := ((pRT hh521).trans ((pNT hh516 (pN_n hh516 z515 e951)).trans e951))
        have e953 : Tg h533 n1 = 101100 := ((pRT hh532).trans ((pNT hh527 (pN_n hh527 z526 e952)).trans e952))
        have e954 : Tg h544 n1 = 101100 := ((pRT hh543).trans ((pNT hh538 (pN_n hh538 z537 e953)).trans e953))
        have e955 : Tg h555 n1 = 101100 := ((pRT hh554).trans ((pNT hh549 (pN_n hh549 z548 e954)).trans e954))
        have e956 : Tg h566 n1 = 101100 := ((pRT hh565).trans ((pNT hh560 (pN_n hh560 z559 e955)).trans e955))
        have e957 : Tg h577 n1 = 101100 := ((pRT hh576).trans ((pNT hh571 (pN_n hh571 z570 e956)).trans e956))
        have e958 : Tg h588 n1 = 101100 := ((pRT hh587).trans ((pNT hh582 (pN_n hh582 z581 e957)).trans e957))
        have e959 : Tg h599 n1 = 101100 := ((pRT hh598).trans ((pNT hh593 (pN_n hh593 z592 e958)).trans e958))
        have e960 : Tg h610 n1 = 101100 := ((pRT hh609).trans ((pNT hh604 (pN_n hh604 z603 e959)).trans e959))
        have e961 : Tg h621 n1 = 101100 := ((pRT hh620).trans ((pNT hh615 (pN_n hh615 z614 e960)).trans e960))
        have e962 : Tg h632 n1 = 101100 := ((pRT hh631).trans ((pNT hh626 (pN_n hh626 z625 e961)).trans e961))
        have e963 : Tg h643 n1 = 101100 := ((pRT hh642).trans ((pNT hh637 (pN_n hh637 z636 e962)).trans e962))
        have e964 : Tg h654 n1 = 101100 := ((pRT hh653).trans ((pNT hh648 (pN_n hh648 z647 e963)).trans e963))
        have e965 : Tg h665 n1 = 101100 := ((pRT hh664).trans ((pNT hh659 (pN_n hh659 z658 e964)).trans e964))
        have e966 : Tg h676 n1 = 101100 := ((pRT hh675).trans ((pNT hh670 (pN_n hh670 z669 e965)).trans e965))
        have e967 : Tg h687 n1 = 101100 := ((pRT hh686).trans ((pNT hh681 (pN_n hh681 z680 e966)).trans e966))
        have e968 : Tg h698 n1 = 101100 := ((pRT hh697).trans ((pNT hh692 (pN_n hh692 z691 e967)).trans e967))
        have e969 : Tg h709 n1 = 101100 := ((pRT hh708).trans ((pNT hh703 (pN_n hh703 z702 e968)).trans e968))
        have e970 : Tg h720 n1 = 101100 := ((pRT hh719).trans ((pNT hh714 (pN_n hh714 z713 e969)).trans e969))
        have e971 : Tg h731 n1 = 101100 := ((pRT hh730).trans ((pNT hh725 (pN_n hh725 z724 e970)).trans e970))
        have e972 : Tg h742 n1 = 101100 := ((pRT hh741).trans ((pNT hh736 (pN_n hh736 z735 e971)).trans e971))
        have e973 : Tg h753 n1 = 101100 := ((pRT hh752).trans ((pNT hh747 (pN_n hh747 z746 e972)).trans e972))
        have e974 : Tg h764 n1 = 101100 := ((pRT hh763).trans ((pNT hh758 (pN_n hh758 z757 e973)).trans e973))
        have e975 : Tg h775 n1 = 101100 := ((pRT hh774).trans ((pNT hh769 (pN_n hh769 z768 e974)).trans e974))
        have e976 : Tg h786 n1 = 101100 := ((pRT hh785).trans ((pNT hh780 (pN_n hh780 z779 e975)).trans e975))
        have e977 : Tg h797 n1 = 101100 := ((pRT hh796).trans ((pNT hh791 (pN_n hh791 z790 e976)).trans e976))
        have e978 : Tg h808 n1 = 101100 := ((pRT hh807).trans ((pNT hh802 (pN_n hh802 z801 e977)).trans e977))
        have e979 : Tg h819 n1 = 101100 := ((pRT hh818).trans ((pNT hh813 (pN_n hh813 z812 e978)).trans e978))
        have e980 : Tg h830 n1 = 101100 := ((pRT hh829).trans ((pNT hh824 (pN_n hh824 z823 e979)).trans e979))
        have e981 : Tg h841 n1 = 101100 := ((pRT hh840).trans ((pNT hh835 (pN_n hh835 z834 e980)).trans e980))
        have e982 : Tg h852 n1 = 101100 := ((pRT hh851).trans ((pNT hh846 (pN_n hh846 z845 e981)).trans e981))
        have e983 : Tg h863 n1 = 101100 := ((pRT hh862).trans ((pNT hh857 (pN_n hh857 z856 e982)).trans e982))
        have e984 : Tg h874 n1 = 101100 := ((pRT hh873).trans ((pNT hh868 (pN_n hh868 z867 e983)).trans e983))
        have e985 : Tg h885 n1 = 101100 := ((pRT hh884).trans ((pNT hh879 (pN_n hh879 z878 e984)).trans e984))
        have e986 : Tg h915 n1 = 101100 := ((pIT hh914).trans ((pIT hh910).trans (fxT F904 ((pRT hh895).trans ((pNT hh890 (pN_n hh890 z889 e985)).trans e985)))))
        have e987 : Rv h915 a0 4 = n11 := ((pIR hh914).trans ((pIR hh910).trans ((fxR F904 e917 rfl).trans ((pR_j hh895 (by decide)).trans ((pNR hh890 (pN_n hh890 z889 e893)).trans ((pR_j hh884 (by decide)).trans ((pNR hh879 (pN_n hh879 z878 e882)).trans ((pR_j hh873 (by decide)).trans ((pNR hh868 (pN_n hh868 z867 e871)).trans ((pR_j hh862 (by decide)).trans ((pNR hh857 (pN_n hh857 z856 e860)).trans ((pR_j hh851 (by decide)).trans ((pNR hh846 (pN_n hh846 z845 e849)).trans ((pR_j hh840 (by decide)).trans ((pNR hh835 (pN_n hh835 z834 e838)).trans ((pR_j hh829 (by decide)).trans ((pNR hh824 (pN_n hh824 z823 e827)).trans ((pR_j hh818 (by decide)).trans ((pNR hh813 (pN_n hh813 z812 e816)).trans ((pR_j hh807 (by decide)).trans ((pNR hh802 (pN_n hh802 z801 e805)).trans ((pR_j hh796 (by decide)).trans ((pNR hh791 (pN_n hh791 z790 e794)).trans ((pR_j hh785 (by decide)).trans ((pNR hh780 (pN_n hh780 z779 e783)).trans ((pR_j hh774 (by decide)).trans ((pNR hh769 (pN_n hh769 z768 e772)).trans ((pR_j hh763 (by decide)).trans ((pNR hh758 (pN_n hh758 z757 e761)).trans ((pR_j hh752 (by decide)).trans ((pNR hh747 (pN_n hh747 z746 e750)).trans ((pR_j hh741 (by decide)).trans ((pNR hh736 (pN_n hh736 z735 e739)).trans ((pR_j hh730 (by decide)).trans ((pNR hh725 (pN_n hh725 z724 e728)).trans ((pR_j hh719 (by decide)).trans ((pNR hh714 (pN_n hh714 z713 e717)).trans ((pR_j hh708 (by decide)).trans ((pNR hh703 (pN_n hh703 z702 e706)).trans ((pR_j hh697 (by decide)).trans ((pNR hh692 (pN_n hh692 z691 e695)).trans ((pR_j hh686 (by decide)).trans ((pNR hh681 (pN_n hh681 z680 e684)).trans ((pR_j hh675 (by decide)).trans ((pNR hh670 (pN_n hh670 z669 e673)).trans ((pR_j hh664 (by decide)).trans ((pNR hh659 (pN_n hh659 z658 e662)).trans ((pR_j hh653 (by decide)).trans ((pNR hh648 (pN_n hh648 z647 e651)).trans ((pR_j hh642 (by decide)).trans ((pNR hh637 (pN_n hh637 z636 e640)).trans ((pR_j hh631 (by decide)).trans ((pNR hh626 (pN_n hh626 z625 e629)).trans ((pR_j hh620 (by decide)).trans ((pNR hh615 (pN_n hh615 z614 e618)).trans ((pR_j hh609 (by decide)).trans ((pNR hh604 (pN_n hh604 z603 e607)).trans ((pR_j hh598 (by decide)).trans ((pNR hh593 (pN_n hh593 z592 e596)).trans ((pR_j hh587 (by decide)).trans ((pNR hh582 (pN_n hh582 z581 e585)).trans ((pR_j hh576 (by decide)).trans ((pNR hh571 (pN_n hh571 z570 e574)).trans ((pR_j hh565 (by decide)).trans ((pNR hh560 (pN_n hh560 z559 e563)).trans ((pR_j hh554 (by decide)).trans ((pNR hh549 (pN_n hh549 z548 e552)).trans ((pR_j hh543 (by decide)).trans ((pNR hh538 (pN_n hh538 z537 e541)).trans ((pR_j hh532 (by decide)).trans ((pNR hh527 (pN_n hh527 z526 e530)).trans ((pR_j hh521 (by decide)).trans ((pNR hh516 (pN_n hh516 z515 e519)).trans ((pR_j hh510 (by decide)).trans ((pNR hh505 (pN_n hh505 z504 e508)).trans ((pR_j hh499 (by decide)).trans ((pNR hh494 (pN_n hh494 z493 e497)).trans ((pR_j hh488 (by decide)).trans ((pNR hh483 (pN_n hh483 z482 e486)).trans ((pR_j hh477 (by decide)).trans ((pNR hh472 (pN_n hh472 z471 e475)).trans ((pR_j hh466 (by decide)).trans ((pNR hh461 (pN_n hh461 z460 e464)).trans ((pR_j hh455 (by decide)).trans ((pNR hh450 (pN_n hh450 z449 e453)).trans ((pR_j hh444 (by decide)).trans ((pNR hh439 (pN_n hh439 z438 e442)).trans ((pR_j hh433 (by decide)).trans ((pNR hh428 (pN_n hh428 z427 e431)).trans ((pR_j hh422 (by decide)).trans ((pNR hh417 (pN_n hh417 z416 e420)).trans ((pR_j hh411 (by decide)).trans ((pNR hh406 (pN_n hh406 z405 e409)).trans ((pR_j hh400 (by decide)).trans ((pNR hh395 (pN_n hh395 z394 e398)).trans ((pR_j hh389 (by decide)).trans ((pNR hh384 (pN_n hh384 z383 e387)).trans ((pR_j hh378 (by decide)).trans ((pNR hh373 (pN_n hh373 z372 e376)).trans ((pR_j hh367 (by decide)).trans ((pNR hh362 (pN_n hh362 z361 e365)).trans ((pR_j hh356 (by decide)).trans ((pNR hh351 (pN_n hh351 z350 e354)).trans ((pR_j hh345 (by decide)).trans ((pNR hh340 (pN_n hh340 z339 e343)).trans ((pR_j hh334 (by decide)).trans ((pNR hh329 (pN_n hh329 z328 e332)).trans ((pR_j hh323 (by decide)).trans ((pNR hh318 (pN_n hh318 z317 e321)).trans ((pR_j hh312 (by decide)).trans ((pNR hh307 (pN_n hh307 z306 e310)).trans ((pR_j hh301 (by decide)).trans ((pNR hh296 (pN_n hh296 z295 e299)).trans ((pR_j hh290 (by decide)).trans ((pNR hh285 (pN_n hh285 z284 e288)).trans ((pR_j hh279 (by decide)).trans ((pNR hh274 (pN_n hh274 z273 e277)).trans ((pR_j hh268 (by decide)).trans ((pNR hh263 (pN_n hh263 z262 e266)).trans ((pR_j hh257 (by decide)).trans ((pNR hh252 (pN_n hh252 z251 e255)).trans ((pR_j hh246 (by decide)).trans ((pNR hh241 (pN_n hh241 z240 e244)).trans ((pR_j hh235 (by decide)).trans ((pNR hh230 (pN_n hh230 z229 e233)).trans ((pR_j hh224 (by decide)).trans ((pNR hh219 (pN_n hh219 z218 e222)).trans ((pR_j hh213 (by decide)).trans ((pNR hh208 (pN_n hh208 z207 e211)).trans ((pR_j hh200 (by decide)).trans ((pJR hh195).trans ((pJR hh190).trans ((pJR hh185).trans ((pJR hh180).trans ((pJR hh175).trans ((pJR hh170).trans ((pJR hh165).trans ((pJR hh160).trans ((pJR hh155).trans ((pJR hh150).trans ((pJR hh145).trans ((pJR hh140).trans ((pJR hh135).trans ((pJR hh130).trans ((pJR hh125).trans ((pJR hh120).trans ((pJR hh115).trans ((pJR hh110).trans ((pJR hh105).trans ((pJR hh100).trans ((pJR hh95).trans ((pJR hh90).trans ((pJR hh85).trans ((pJR hh80).trans ((pJR hh75).trans ((pJR hh70).trans ((pJR hh65).trans ((pJR hh60).trans ((pJR hh55).trans ((pJR hh50).trans ((pNR hh47 (pN_n hh47 z46 e198)).trans ((pR_j hh41 (by decide)).trans ((pNR hh36 (pN_n hh36 z35 e39)).trans ((pR_j hh30 (by decide)).trans ((pNR hh25 (pN_n hh25 z24 e28)).trans (pR_e hh19))))))))))))))))))))))))))))))))))))))))))))))))))))))))))))))))))))))))))))))))))))))))))))))))))))))))))))))))))))))))))))))))))))))))))))))))))))))))))))))))))))))
        have e988 : Tg h20 n11 = 104100 := ((pRT hh19).trans (pN_T hh14))
        have e989 : Tg h31 n11 = 104100 := ((pRT hh30).trans ((pNT hh25 (pN_n hh25 z24 e988)).trans e988))
        have e990 : Tg h42 n11 = 104100 := ((pRT hh41).trans ((pNT hh36 (pN_n hh36 z35 e989)).trans e989))
        have e991 : Tg h201 n11 = 104100 := ((pRT hh200).trans ((pJT hh195).trans ((pJT hh190).trans ((pJT hh185).trans ((pJT hh180).trans ((pJT hh175).trans ((pJT hh170).trans ((pJT hh165).trans ((pJT hh160).trans ((pJT hh155).trans ((pJT hh150).trans ((pJT hh145).trans ((pJT hh140).trans ((pJT hh135).trans ((pJT hh130).trans ((pJT hh125).trans ((pJT hh120).trans ((pJT hh115).trans ((pJT hh110).trans ((pJT hh105).trans ((pJT hh100).trans ((pJT hh95).trans ((pJT hh90).trans ((pJT hh85).trans ((pJT hh80).trans ((pJT hh75).trans ((pJT hh70).trans ((pJT hh65).trans ((pJT hh60).trans ((pJT hh55).trans ((pJT hh50).trans ((pNT hh47 (pN_n hh47 z46 e990)).trans e990))))))))))))))))))))))))))))))))
        have e992 : Tg h214 n11 = 104100 := ((pRT hh213).trans ((pNT hh208 (pN_n hh208 z207 e991)).trans e991))
        have e993 : Tg h225 n11 = 104100 := ((pRT hh224).trans ((pNT hh219 (pN_n hh219 z218 e992)).trans e992))
        have e994 : Tg h236 n11 = 104100 := ((pRT hh235).trans ((pNT hh230 (pN_n hh230 z229 e993)).trans e993))
        have e995 : Tg h247 n11 = 104100 := ((pRT hh246).trans ((pNT hh241 (pN_n hh241 z240 e994)).trans e994))
        have e996 : Tg h258 n11 = 104100 := ((pRT hh257).trans ((pNT hh252 (pN_n hh252 z251 e995)).trans e995))
        have e997 : Tg h269 n11 = 104100 := ((pRT hh268).trans ((pNT hh263 (pN_n hh263 z262 e996)).trans e996))
        have e998 : Tg h280 n11 = 104100 := ((pRT hh279).trans ((pNT hh274 (pN_n hh274 z273 e997)).trans e997))
        have e999 : Tg h291 n11 = 104100 := ((pRT hh290).trans ((pNT hh285 (pN_n hh285 z284 e998)).trans e998))
        have e1000 : Tg h302 n11 = 104100 := ((pRT hh301).trans ((pNT hh296 (pN_n hh296 z295 e999)).trans e999))
        have e1001 : Tg h313 n11 = 104100 := ((pRT hh312).trans ((pNT hh307 (pN_n hh307 z306 e1000)).trans e1000))
        have e1002 : Tg h324 n11 = 104100 := ((pRT hh323).trans ((pNT hh318 (pN_n hh318 z317 e1001)).trans e1001))
        have e1003 : Tg h335 n11 = 104100 := ((pRT hh334).trans ((pNT hh329 (pN_n hh329 z328 e1002)).trans e1002))
        have e1004 : Tg h346 n11 = 104100 := ((pRT hh345).trans ((pNT hh340 (pN_n hh340 z339 e1003)).trans e1003))
        have e1005 : Tg h357 n11 = 104100 := ((pRT hh356).trans ((pNT hh351 (pN_n hh351 z350 e1004)).trans e1004))
        have e1006 : Tg h368 n11 = 104100 := ((pRT hh367).trans ((pNT hh362 (pN_n hh362 z361 e1005)).trans e1005))
        have e1007 : Tg h379 n11 = 104100 := ((pRT hh378).trans ((pNT hh373 (pN_n hh373 z372 e1006)).trans e1006))
        have e1008 : Tg h390 n11 = 104100 := ((pRT hh389).trans ((pNT hh384 (pN_n hh384 z383 e1007)).trans e1007))
        have e1009 : Tg h401 n11 = 104100 := ((pRT hh400).trans ((pNT hh395 (pN_n hh395 z394 e1008)).trans e1008))
        have e1010 : Tg h412 n11 = 104100 := ((pRT hh411).trans ((pNT hh406 (pN_n hh406 z405 e1009)).trans e1009))
        have e1011 : Tg h423 n11 = 104100 := ((pRT hh422).trans ((pNT hh417 (pN_n hh417 z416 e1010)).trans e1010))
        have e1012 : Tg h434 n11 = 104100 := ((pRT hh433).trans ((pNT hh428 (pN_n hh428 z427 e1011)).trans e1011))
        have e1013 : Tg h445 n11 = 104100 := ((pRT hh444).trans ((pNT hh439 (pN_n hh439 z438 e1012)).trans e1012))
        have e1014 : Tg h456 n11 = 104100 := ((pRT hh455).trans ((pNT hh450 (pN_n hh450 z449 e1013)).trans e1013))
        have e1015 : Tg h467 n11 = 104100 := ((pRT hh466).trans ((pNT hh461 (pN_n hh461 z460 e1014)).trans e1014))
        have e1016 : Tg h478 n11 = 104100 := ((pRT hh477).trans ((pNT hh472 (pN_n hh472 z471 e1015)).trans e1015))
        have e1017 : Tg h489 n11 = 104100 := ((pRT hh488).trans ((pNT hh483 (pN_n hh483 z482 e1016)).trans e1016))
        have e1018 : Tg h500 n11 = 104100 := ((pRT hh499).trans ((pNT hh494 (pN_n hh494 z493 e1017)).trans e1017))
        have e1019 : Tg h511 n11 = 104100 := ((pRT hh510).trans ((pNT hh505 (pN_n hh505 z504 e1018)).trans e1018))
        have e1020 : Tg h522 n11 = 104100 := ((pRT hh521).trans ((pNT hh516 (pN_n hh516 z515 e1019)).trans e1019))
        have e1021 : Tg h533 n11 = 104100 := ((pRT hh532).trans ((pNT hh527 (pN_n hh527 z526 e1020)).trans e1020))
        have e1022 : Tg h544 n11 = 104100 := ((pRT hh543).trans ((pNT hh538 (pN_n hh538 z537 e1021)).trans e1021))
        have e1023 : Tg h555 n11 = 104100 := ((pRT hh554).trans ((pNT hh549 (pN_n hh549 z548 e1022)).trans e1022))
        have e1024 : Tg h566 n11 = 104100 := ((pRT hh565).trans ((pNT hh560 (pN_n hh560 z559 e1023)).trans e1023))
        have e1025 : Tg h577 n11 = 104100 := ((pRT hh576).trans ((pNT hh571 (pN_n hh571 z570 e1024)).trans e1024))
        have e1026 : Tg h588 n11 = 104100 := ((pRT hh587).trans ((pNT hh582 (pN_n hh582 z581 e1025)).trans e1025))
        have e1027 : Tg h599 n11 = 104100 := ((pRT hh598).trans ((pNT hh593 (pN_n hh593 z592 e1026)).trans e1026))
        have e1028 : Tg h610 n11 = 104100 := ((pRT hh609).trans ((pNT hh604 (pN_n hh604 z603 e1027)).trans e1027))
        have e1029 : Tg h621 n11 = 104100 := ((pRT hh620).trans ((pNT hh615 (pN_n hh615 z614 e1028)).trans e1028))
        have e1030 : Tg h632 n11 = 104100 := ((pRT hh631).trans ((pNT hh626 (pN_n hh626 z625 e1029)).trans e1029))
        have e1031 : Tg h643 n11 = 104100 := ((pRT hh642).trans ((pNT hh637 (pN_n hh637 z636 e1030)).trans e1030))
        have e1032 : Tg h654 n11 = 104100 := ((pRT hh653).trans ((pNT hh648 (pN_n hh648 z647 e1031)).trans e1031))
        have e1033 : Tg h665 n11 = 104100 := ((pRT hh664).trans ((pNT hh659 (pN_n hh659 z658 e1032)).trans e1032))
        have e1034 : Tg h676 n11 = 104100 := ((pRT hh675).trans ((pNT hh670 (pN_n hh670 z669 e1033)).trans e1033))
        have e1035 : Tg h687 n11 = 104100 := ((pRT hh686).trans ((pNT hh681 (pN_n hh681 z680 e1034)).trans e1034))
        have e1036 : Tg h698 n11 = 104100 := ((pRT hh697).trans ((pNT hh692 (pN_n hh692 z691 e1035)).trans e1035))
        have e1037 : Tg h709 n11 = 104100 := ((pRT hh708).trans ((pNT hh703 (pN_n hh703 z702 e1036)).trans e1036))
        have e1038 : Tg h720 n11 = 104100 := ((pRT hh719).trans ((pNT hh714 (pN_n hh714 z713 e1037)).trans e1037))
        have e1039 : Tg h731 n11 = 104100 := ((pRT hh730).trans ((pNT hh725 (pN_n hh725 z724 e1038)).trans e1038))
        have e1040 : Tg h742 n11 = 104100 := ((pRT hh741).trans ((pNT hh736 (pN_n hh736 z735 e1039)).trans e1039))
        have e1041 : Tg h753 n11 = 104100 := ((pRT hh752).trans ((pNT hh747 (pN_n hh747 z746 e1040)).trans e1040))
        have e1042 : Tg h764 n11 = 104100 := ((pRT hh763).trans ((pNT hh758 (pN_n hh758 z757 e1041)).trans e1041))
        have e1043 : Tg h775 n11 = 104100 := ((pRT hh774).trans ((pNT hh769 (pN_n hh769 z768 e1042)).trans e1042))
        have e1044 : Tg h786 n11 = 104100 := ((pRT hh785).trans ((pNT hh780 (pN_n hh780 z779 e1043)).trans e1043))
        have e1045 : Tg h797 n11 = 104100 := ((pRT hh796).trans ((pNT hh791 (pN_n hh791 z790 e1044)).trans e1044))
        have e1046 : Tg h808 n11 = 104100 := ((pRT hh807).trans ((pNT hh802 (pN_n hh802 z801 e1045)).trans e1045))
        have e1047 : Tg h819 n11 = 104100 := ((pRT hh818).trans ((pNT hh813 (pN_n hh813 z812 e1046)).trans e1046))
        have e1048 : Tg h830 n11 = 104100 := ((pRT hh829).trans ((pNT hh824 (pN_n hh824 z823 e1047)).trans e1047))
        have e1049 : Tg h841 n11 = 104100 := ((pRT hh840).trans ((pNT hh835 (pN_n hh835 z834 e1048)).trans e1048))
        have e1050 : Tg h852 n11 = 104100 := ((pRT hh851).trans ((pNT hh846 (pN_n hh846 z845 e1049)).trans e1049))
        have e1051 : Tg h863 n11 = 104100 := ((pRT hh862).trans ((pNT hh857 (pN_n hh857 z856 e1050)).trans e1050))
        have e1052 : Tg h874 n11 = 104100 := ((pRT hh873).trans ((pNT hh868 (pN_n hh868 z867 e1051)).trans e1051))
        have e1053 : Tg h885 n11 = 104100 := ((pRT hh884).trans ((pNT hh879 (pN_n hh879 z878 e1052)).trans e1052))
        have e1054 : Tg h915 n11 = 104100 := ((pIT hh914).trans ((pIT hh910).trans (fxT F904 ((pRT hh895).trans ((pNT hh890 (pN_n hh890 z889 e1053)).trans e1053)))))
        have e1055 : Rv h915 a0 5 = n22 := ((pIR hh914).trans ((pIR hh910).trans ((fxR F904 e917 rfl).trans ((pR_j hh895 (by decide)).trans ((pNR hh890 (pN_n hh890 z889 e893)).trans ((pR_j hh884 (by decide)).trans ((pNR hh879 (pN_n hh879 z878 e882)).trans ((pR_j hh873 (by decide)).trans ((pNR hh868 (pN_n hh868 z867 e871)).trans ((pR_j hh862 (by decide)).trans ((pNR hh857 (pN_n hh857 z856 e860)).trans ((pR_j hh851 (by decide)).trans ((pNR hh846 (pN_n hh846 z845 e849)).trans ((pR_j hh840 (by decide)).trans ((pNR hh835 (pN_n hh835 z834 e838)).trans ((pR_j hh829 (by decide)).trans ((pNR hh824 (pN_n hh824 z823 e827)).trans ((pR_j hh818 (by decide)).trans ((pNR hh813 (pN_n hh813 z812 e816)).trans ((pR_j hh807 (by decide)).trans ((pNR hh802 (pN_n hh802 z801 e805)).trans ((pR_j hh796 (by decide)).trans ((pNR hh791 (pN_n hh791 z790 e794)).trans ((pR_j hh785 (by decide)).trans ((pNR hh780 (pN_n hh780 z779 e783)).trans ((pR_j hh774 (by decide)).trans ((pNR hh769 (pN_n hh769 z768 e772)).trans ((pR_j hh763 (by decide)).trans ((pNR hh758 (pN_n hh758 z757 e761)).trans ((pR_j hh752 (by decide)).trans ((pNR hh747 (pN_n hh747 z746 e750)).trans ((pR_j hh741 (by decide)).trans ((pNR hh736 (pN_n hh736 z735 e739)).trans ((pR_j hh730 (by decide)).trans ((pNR hh725 (pN_n hh725 z724 e728)).trans ((pR_j hh719 (by decide)).trans ((pNR hh714 (pN_n hh714 z713 e717)).trans ((pR_j hh708 (by decide)).trans ((pNR hh703 (pN_n hh703 z702 e706)).trans ((pR_j hh697 (by decide)).trans ((pNR hh692 (pN_n hh692 z691 e695)).trans ((pR_j hh686 (by decide)).trans ((pNR hh681 (pN_n hh681 z680 e684)).trans ((pR_j hh675 (by decide)).trans ((pNR hh670 (pN_n hh670 z669 e673)).trans ((pR_j hh664 (by decide)).trans ((pNR hh659 (pN_n hh659 z658 e662)).trans ((pR_j hh653 (by decide)).trans ((pNR hh648 (pN_n hh648 z647 e651)).trans ((pR_j hh642 (by decide)).trans ((pNR hh637 (pN_n hh637 z636 e640)).trans ((pR_j hh631 (by decide)).trans ((pNR hh626 (pN_n hh626 z625 e629)).trans ((pR_j hh620 (by decide)).trans ((pNR hh615 (pN_n hh615 z614 e618)).trans ((pR_j hh609 (by decide)).trans ((pNR hh604 (pN_n hh604 z603 e607)).trans ((pR_j hh598 (by decide)).trans ((pNR hh593 (pN_n hh593 z592 e596)).trans ((pR_j hh587 (by decide)).trans ((pNR hh582 (pN_n hh582 z581 e585)).trans ((pR_j hh576 (by decide)).trans ((pNR hh571 (pN_n hh571 z570 e574)).trans ((pR_j hh565 (by decide)).trans ((pNR hh560 (pN_n hh560 z559 e563)).trans ((pR_j hh554 (by decide)).trans ((pNR hh549 (pN_n hh549 z548 e552)).trans ((pR_j hh543 (by decide)).trans ((pNR hh538 (pN_n hh538 z537 e541)).trans ((pR_j hh532 (by decide)).trans ((pNR hh527 (pN_n hh527 z526 e530)).trans ((pR_j hh521 (by decide)).trans ((pNR hh516 (pN_n hh516 z515 e519)).trans ((pR_j hh510 (by decide)).trans ((pNR hh505 (pN_n hh505 z504 e508)).trans ((pR_j hh499 (by decide)).trans ((pNR hh494 (pN_n hh494 z493 e497)).trans ((pR_j hh488 (by decide)).trans ((pNR hh483 (pN_n hh483 z482 e486)).trans ((pR_j hh477 (by decide)).trans ((pNR hh472 (pN_n hh472 z471 e475)).trans ((pR_j hh466 (by decide)).trans ((pNR hh461 (pN_n hh461 z460 e464)).trans ((pR_j hh455 (by decide)).trans ((pNR hh450 (pN_n hh450 z449 e453)).trans ((pR_j hh444 (by decide)).trans ((pNR hh439 (pN_n hh439 z438 e442)).trans ((pR_j hh433 (by decide)).trans ((pNR hh428 (pN_n hh428 z427 e431)).trans ((pR_j hh422 (by decide)).trans ((pNR hh417 (pN_n hh417 z416 e420)).trans ((pR_j hh411 (by decide)).trans ((pNR hh406 (pN_n hh406 z405 e409)).trans ((pR_j hh400 (by decide)).trans ((pNR hh395 (pN_n hh395 z394 e398)).trans ((pR_j hh389 (by decide)).trans ((pNR hh384 (pN_n hh384 z383 e387)).trans ((pR_j hh378 (by decide)).trans ((pNR hh373 (pN_n hh373 z372 e376)).trans ((pR_j hh367 (by decide)).trans ((pNR hh362 (pN_n hh362 z361 e365)).trans ((pR_j hh356 (by decide)).trans ((pNR hh351 (pN_n hh351 z350 e354)).trans ((pR_j hh345 (by decide)).trans ((pNR hh340 (pN_n hh340 z339 e343)).trans ((pR_j hh334 (by decide)).trans ((pNR hh329 (pN_n hh329 z328 e332)).trans ((pR_j hh323 (by decide)).trans ((pNR hh318 (pN_n hh318 z317 e321)).trans ((pR_j hh312 (by decide)).trans ((pNR hh307 (pN_n hh307 z306 e310)).trans ((pR_j hh301 (by decide)).trans ((pNR hh296 (pN_n hh296 z295 e299)).trans ((pR_j hh290 (by decide)).trans ((pNR hh285 (pN_n hh285 z284 e288)).trans ((pR_j hh279 (by decide)).trans ((pNR hh274 (pN_n hh274 z273 e277)).trans ((pR_j hh268 (by decide)).trans ((pNR hh263 (pN_n hh263 z262 e266)).trans ((pR_j hh257 (by decide)).trans ((pNR hh252 (pN_n hh252 z251 e255)).trans ((pR_j hh246 (by decide)).trans ((pNR hh241 (pN_n hh241 z240 e244)).trans ((pR_j hh235 (by decide)).trans ((pNR hh230 (pN_n hh230 z229 e233)).trans ((pR_j hh224 (by decide)).trans ((pNR hh219 (pN_n hh219 z218 e222)).trans ((pR_j hh213 (by decide)).trans ((pNR hh208 (pN_n hh208 z207 e211)).trans ((pR_j hh200 (by decide)).trans ((pJR hh195).trans ((pJR hh190).trans ((pJR hh185).trans ((pJR hh180).trans ((pJR hh175).trans ((pJR hh170).trans ((pJR hh165).trans ((pJR hh160).trans ((pJR hh155).trans ((pJR hh150).trans ((pJR hh145).trans ((pJR hh140).trans ((pJR hh135).trans ((pJR hh130).trans ((pJR hh125).trans ((pJR hh120).trans ((pJR hh115).trans ((pJR hh110).trans ((pJR hh105).trans ((pJR hh100).trans ((pJR hh95).trans ((pJR hh90).trans ((pJR hh85).trans ((pJR hh80).trans ((pJR hh75).trans ((pJR hh70).trans ((pJR hh65).trans ((pJR hh60).trans ((pJR hh55).trans ((pJR hh50).trans ((pNR hh47 (pN_n hh47 z46 e198)).trans ((pR_j hh41 (by decide)).trans ((pNR hh36 (pN_n hh36 z35 e39)).trans (pR_e hh30))))))))))))))))))))))))))))))))))))))))))))))))))))))))))))))))))))))))))))))))))))))))))))))))))))))))))))))))))))))))))))))))))))))))))))))))))))))))))))))))))))
        have e1056 : Tg h31 n22 = 105100 := ((pRT hh30).trans (pN_T hh25))
        have e1057 : Tg h42 n22 = 105100 := ((pRT hh41).trans ((pNT hh36 (pN_n hh36 z35 e1056)).trans e1056))
        have e1058 : Tg h201 n22 = 105100 := ((pRT hh200).trans ((pJT hh195).trans ((pJT hh190).trans ((pJT hh185).trans ((pJT hh180).trans ((pJT hh175).trans ((pJT hh170).trans ((pJT hh165).trans ((pJT hh160).trans ((pJT hh155).trans ((pJT hh150).trans ((pJT hh145).trans ((pJT hh140).trans ((pJT hh135).trans ((pJT hh130).trans ((pJT hh125).trans ((pJT hh120).trans ((pJT hh115).trans ((pJT hh110).trans ((pJT hh105).trans ((pJT hh100).trans ((pJT hh95).trans ((pJT hh90).trans ((pJT hh85).trans ((pJT hh80).trans ((pJT hh75).trans ((pJT hh70).trans ((pJT hh65).trans ((pJT hh60).trans ((pJT hh55).trans ((pJT hh50).trans ((pNT hh47 (pN_n hh47 z46 e1057)).trans e1057))))))))))))))))))))))))))))))))
        have e1059 : Tg h214 n22 = 105100 := ((pRT hh213).trans ((pNT hh208 (pN_n hh208 z207 e1058)).trans e1058))
        have e1060 : Tg h225 n22 = 105100 := ((pRT hh224).trans ((pNT hh219 (pN_n hh219 z218 e1059)).trans e1059))
        have e1061 : Tg h236 n22 = 105100 := ((pRT hh235).trans ((pNT hh230 (pN_n hh230 z229 e1060)).trans e1060))
        have e1062 : Tg h247 n22 = 105100 := ((pRT hh246).trans ((pNT hh241 (pN_n hh241 z240 e1061)).trans e1061))
        have e1063 : Tg h258 n22 = 105100 := ((pRT hh257).trans ((pNT hh252 (pN_n hh252 z251 e1062)).trans e1062))
        have e1064 : Tg h269 n22 = 105100 := ((pRT hh268).trans ((pNT hh263 (pN_n hh263 z262 e1063)).trans e1063))
        have e1065 : Tg h280 n22 = 105100 := ((pRT hh279).trans ((pNT hh274 (pN_n hh274 z273 e1064)).trans e1064))
        have e1066 : Tg h291 n22 = 105100 := ((pRT hh290).trans ((pNT hh285 (pN_n hh285 z284 e1065)).trans e1065))
        have e1067 : Tg h302 n22 = 105100 := ((pRT hh301).trans ((pNT hh296 (pN_n hh296 z295 e1066)).trans e1066))
        have e1068 : Tg h313 n22 = 105100 := ((pRT hh312).trans ((pNT hh307 (pN_n hh307 z306 e1067)).trans e1067))
        have e1069 : Tg h324 n22 = 105100 := ((pRT hh323).trans ((pNT hh318 (pN_n hh318 z317 e1068)).trans e1068))
        have e1070 : Tg h335 n22 = 105100 := ((pRT hh334).trans ((pNT hh329 (pN_n hh329 z328 e1069)).trans e1069))
        have e1071 : Tg h346 n22 = 105100 := ((pRT hh345).trans ((pNT hh340 (pN_n hh340 z339 e1070)).trans e1070))
        have e1072 : Tg h357 n22 = 105100 := ((pRT hh356).trans ((pNT hh351 (pN_n hh351 z350 e1071)).trans e1071))
        have e1073 : Tg h368 n22 = 105100 := ((pRT hh367).trans ((pNT hh362 (pN_n hh362 z361 e1072)).trans e1072))
        have e1074 : Tg h379 n22 = 105100 := ((pRT hh378).trans ((pNT hh373 (pN_n hh373 z372 e1073)).trans e1073))
        have e1075 : Tg h390 n22 = 105100 := ((pRT hh389).trans ((pNT hh384 (pN_n hh384 z383 e1074)).trans e1074))
        have e1076 : Tg h401 n22 = 105100 := ((pRT hh400).trans ((pNT hh395 (pN_n hh395 z394 e1075)).trans e1075))
        have e1077 : Tg h412 n22 = 105100 := ((pRT hh411).trans ((pNT hh406 (pN_n hh406 z405 e1076)).trans e1076))
        have e1078 : Tg h423 n22 = 105100 := ((pRT hh422).trans ((pNT hh417 (pN_n hh417 z416 e1077)).trans e1077))
        have e1079 : Tg h434 n22 = 105100 := ((pRT hh433).trans ((pNT hh428 (pN_n hh428 z427 e1078)).trans e1078))
        have e1080 : Tg h445 n22 = 105100 := ((pRT hh444).trans ((pNT hh439 (pN_n hh439 z438 e1079)).trans e1079))
        have e1081 : Tg h456 n22 = 105100 := ((pRT hh455).trans ((pNT hh450 (pN_n hh450 z449 e1080)).trans e1080))
        have e1082 : Tg h467 n22 = 105100 := ((pRT hh466).trans ((pNT hh461 (pN_n hh461 z460 e1081)).trans e1081))
        have e1083 : Tg h478 n22 = 105100 := ((pRT hh477).trans ((pNT hh472 (pN_n hh472 z471 e1082)).trans e1082))
        have e1084 : Tg h489 n22 = 105100 := ((pRT hh488).trans ((pNT hh483 (pN_n hh483 z482 e1083)).trans e1083))
        have e1085 : Tg h500 n22 = 105100 := ((pRT hh499).trans ((pNT hh494 (pN_n hh494 z493 e1084)).trans e1084))
        have e1086 : Tg h511 n22 = 105100 := ((pRT hh510).trans ((pNT hh505 (pN_n hh505 z504 e1085)).trans e1085))
        have e1087 : Tg h522 n22 = 105100 := ((pRT hh521).trans ((pNT hh516 (pN_n hh516 z515 e1086)).trans e1086))
        have e1088 : Tg h533 n22 = 105100 := ((pRT hh532).trans ((pNT hh527 (pN_n hh527 z526 e1087)).trans e1087))
        have e1089 : Tg h544 n22 = 105100 := ((pRT hh543).trans ((pNT hh538 (pN_n hh538 z537 e1088)).trans e1088))
        have e1090 : Tg h555 n22 = 105100 := ((pRT hh554).trans ((pNT hh549 (pN_n hh549 z548 e1089)).trans e1089))
        have e1091 : Tg h566 n22 = 105100 := ((pRT hh565).trans ((pNT hh560 (pN_n hh560 z559 e1090)).trans e1090))
        have e1092 : Tg h577 n22 = 105100 := ((pRT hh576).trans ((pNT hh571 (pN_n hh571 z570 e1091)).trans e1091))
        have e1093 : Tg h588 n22 = 105100 := ((pRT hh587).trans ((pNT hh582 (pN_n hh582 z581 e1092)).trans e1092))
        have e1094 : Tg h599 n22 = 105100 := ((pRT hh598).trans ((pNT hh593 (pN_n hh593 z592 e1093)).trans e1093))
        have e1095 : Tg h610 n22 = 105100 := ((pRT hh609).trans ((pNT hh604 (pN_n hh604 z603 e1094)).trans e1094))
        have e1096 : Tg h621 n22 = 105100 := ((pRT hh620).trans ((pNT hh615 (pN_n hh615 z614 e1095)).trans e1095))
        have e1097 : Tg h632 n22 = 105100 := ((pRT hh631).trans ((pNT hh626 (pN_n hh626 z625 e1096)).trans e1096))
        have e1098 : Tg h643 n22 = 105100 := ((pRT hh642).trans ((pNT hh637 (pN_n hh637 z636 e1097)).trans e1097))
        have e1099 : Tg h654 n22 = 105100 := ((pRT hh653).trans ((pNT hh648 (pN_n hh648 z647 e1098)).trans e1098))
        have e1100 : Tg h665 n22 = 105100 := ((pRT hh664).trans ((pNT hh659 (pN_n hh659 z658 e1099)).trans e1099))
        have e1101 : Tg h676 n22 = 105100 := ((pRT hh675).trans ((pNT hh670 (pN_n hh670 z669 e1100)).trans e1100))
        have e1102 : Tg h687 n22 = 105100 := ((pRT hh686).trans ((pNT hh681 (pN_n hh681 z680 e1101)).trans e1101))
        have e1103 : Tg h698 n22 = 105100 := ((pRT hh697).trans ((pNT hh692 (pN_n hh692 z691 e1102)).trans e1102))
        have e1104 : Tg h709 n22 = 105100 := ((pRT hh708).trans ((pNT hh703 (pN_n hh703 z702 e1103)).trans e1103))
        have e1105 : Tg h720 n22 = 105100 := ((pRT hh719).trans ((pNT hh714 (pN_n hh714 z713 e1104)).trans e1104))
        have e1106 : Tg h731 n22 = 105100 := ((pRT hh730).trans ((pNT hh725 (pN_n hh725 z724 e1105)).trans e1105))
        have e1107 : Tg h742 n22 = 105100 := ((pRT hh741).trans ((pNT hh736 (pN_n hh736 z735 e1106)).trans e1106))
        have e1108 : Tg h753 n22 = 105100 := ((pRT hh752).trans ((pNT hh747 (pN_n hh747 z746 e1107)).trans e1107))
        have e1109 : Tg h764 n22 = 105100 := ((pRT hh763).trans ((pNT hh758 (pN_n hh758 z757 e1108)).trans e1108))
        have e1110 : Tg h775 n22 = 105100 := ((pRT hh774).trans ((pNT hh769 (pN_n hh769 z768 e1109)).trans e1109))
        have e1111 : Tg h786 n22 = 105100 := ((pRT hh785).trans ((pNT hh780 (pN_n hh780 z779 e1110)).trans e1110))
        have e1112 : Tg h797 n22 = 105100 := ((pRT hh796).trans ((pNT hh791 (pN_n hh791 z790 e1111)).trans e1111))
        have e1113 : Tg h808 n22 = 105100 := ((pRT hh807).trans ((pNT hh802 (pN_n hh802 z801 e1112)).trans e1112))
        have e1114 : Tg h819 n22 = 105100 := ((pRT hh818).trans ((pNT hh813 (pN_n hh813 z812 e1113)).trans e1113))
        have e1115 : Tg h830 n22 = 105100 := ((pRT hh829).trans ((pNT hh824 (pN_n hh824 z823 e1114)).trans e1114))
        have e1116 : Tg h841 n22 = 105100 := ((pRT hh840).trans ((pNT hh835 (pN_n hh835 z834 e1115)).trans e1115))
        have e1117 : Tg h852 n22 = 105100 := ((pRT hh851).trans ((pNT hh846 (pN_n hh846 z845 e1116)).trans e1116))
        have e1118 : Tg h863 n22 = 105100 := ((pRT hh862).trans ((pNT hh857 (pN_n hh857 z856 e1117)).trans e1117))
        have e1119 : Tg h874 n22 = 105100 := ((pRT hh873).trans ((pNT hh868 (pN_n hh868 z867 e1118)).trans e1118))
        have e1120 : Tg h885 n22 = 105100 := ((pRT hh884).trans ((pNT hh879 (pN_n hh879 z878 e1119)).trans e1119))
        have e1121 : Tg h915 n22 = 105100 := ((pIT hh914).trans ((pIT hh910).trans (fxT F904 ((pRT hh895).trans ((pNT hh890 (pN_n hh890 z889 e1120)).trans e1120)))))
        have e1122 : Rv h915 a0 6 = n33 := ((pIR hh914).trans ((pIR hh910).trans ((fxR F904 e917 rfl).trans ((pR_j hh895 (by decide)).trans ((pNR hh890 (pN_n hh890 z889 e893)).trans ((pR_j hh884 (by decide)).trans ((pNR hh879 (pN_n hh879 z878 e882)).trans ((pR_j hh873 (by decide)).trans ((pNR hh868 (pN_n hh868 z867 e871)).trans ((pR_j hh862 (by decide)).trans ((pNR hh857 (pN_n hh857 z856 e860)).trans ((pR_j hh851 (by decide)).trans ((pNR hh846 (pN_n hh846 z845 e849)).trans ((pR_j hh840 (by decide)).trans ((pNR hh835 (pN_n hh835 z834 e838)).trans ((pR_j hh829 (by decide)).trans ((pNR hh824 (pN_n hh824 z823 e827)).trans ((pR_j hh818 (by decide)).trans ((pNR hh813 (pN_n hh813 z812 e816)).trans ((pR_j hh807 (by decide)).trans ((pNR hh802 (pN_n hh802 z801 e805)).trans ((pR_j hh796 (by decide)).trans ((pNR hh791 (pN_n hh791 z790 e794)).trans ((pR_j hh785 (by decide)).trans ((pNR hh780 (pN_n hh780 z779 e783)).trans ((pR_j hh774 (by decide)).trans ((pNR hh769 (pN_n hh769 z768 e772)).trans ((pR_j hh763 (by decide)).trans ((pNR hh758 (pN_n hh758 z757 e761)).trans ((pR_j hh752 (by decide)).trans ((pNR hh747 (pN_n hh747 z746 e750)).trans ((pR_j hh741 (by decide)).trans ((pNR hh736 (pN_n hh736 z735 e739)).trans ((pR_j hh730 (by decide)).trans ((pNR hh725 (pN_n hh725 z724 e728)).trans ((pR_j hh719 (by decide)).trans ((pNR hh714 (pN_n hh714 z713 e717)).trans ((pR_j hh708 (by decide)).trans ((pNR hh703 (pN_n hh703 z702 e706)).trans ((pR_j hh697 (by decide)).trans ((pNR hh692 (pN_n hh692 z691 e695)).trans ((pR_j hh686 (by decide)).trans ((pNR hh681 (pN_n hh681 z680 e684)).trans ((pR_j hh675 (by decide)).trans ((pNR hh670 (pN_n hh670 z669 e673)).trans ((pR_j hh664 (by decide)).trans ((pNR hh659 (pN_n hh659 z658 e662)).trans ((pR_j hh653 (by decide)).trans ((pNR hh648 (pN_n hh648 z647 e651)).trans ((pR_j hh642 (by decide)).trans ((pNR hh637 (pN_n hh637 z636 e640)).trans ((pR_j hh631 (by decide)).trans ((pNR hh626 (pN_n hh626 z625 e629)).trans ((pR_j hh620 (by decide)).trans ((pNR hh615 (pN_n hh615 z614 e618)).trans ((pR_j hh609 (by decide)).trans ((pNR hh604 (pN_n hh604 z603 e607)).trans ((pR_j hh598 (by decide)).trans ((pNR hh593 (pN_n hh593 z592 e596)).trans ((pR_j hh587 (by decide)).trans ((pNR hh582 (pN_n hh582 z581 e585)).trans ((pR_j hh576 (by decide)).trans ((pNR hh571 (pN_n hh571 z570 e574)).trans ((pR_j hh565 (by decide)).trans ((pNR hh560 (pN_n hh560 z559 e563)).trans ((pR_j hh554 (by decide)).trans ((pNR hh549 (pN_n hh549 z548 e552)).trans ((pR_j hh543 (by decide)).trans ((pNR hh538 (pN_n hh538 z537 e541)).trans ((pR_j hh532 (by decide)).trans ((pNR hh527 (pN_n hh527 z526 e530)).trans ((pR_j hh521 (by decide)).trans ((pNR hh516 (pN_n hh516 z515 e519)).trans ((pR_j hh510 (by decide)).trans ((pNR hh505 (pN_n hh505 z504 e508)).trans ((pR_j hh499 (by decide)).trans ((pNR hh494 (pN_n hh494 z493 e497)).trans ((pR_j hh488 (by decide)).trans ((pNR hh483 (pN_n hh483 z482 e486)).trans ((pR_j hh477 (by decide)).trans ((pNR hh472 (pN_n hh472 z471 e475)).trans ((pR_j hh466 (by decide)).trans ((pNR hh461 (pN_n hh461 z460 e464)).trans ((pR_j hh455 (by decide)).trans ((pNR hh450 (pN_n hh450 z449 e453)).trans ((pR_j hh444 (by decide)).trans ((pNR hh439 (pN_n hh439 z438 e442)).trans ((pR_j hh433 (by decide)).trans ((pNR hh428 (pN_n hh428 z427 e431)).trans ((pR_j hh422 (by decide)).trans ((pNR hh417 (pN_n hh417 z416 e420)).trans ((pR_j hh411 (by decide)).trans ((pNR hh406 (pN_n hh406 z405 e409)).trans ((pR_j hh400 (by decide)).trans ((pNR hh395 (pN_n hh395 z394 e398)).trans ((pR_j hh389 (by decide)).trans ((pNR hh384 (pN_n hh384 z383 e387)).trans ((pR_j hh378 (by decide)).trans ((pNR hh373 (pN_n hh373 z372 e376)).trans ((pR_j hh367 (by decide)).trans ((pNR hh362 (pN_n hh362 z361 e365)).trans ((pR_j hh356 (by decide)).trans ((pNR hh351 (pN_n hh351 z350 e354)).trans ((pR_j hh345 (by decide)).trans ((pNR hh340 (pN_n hh340 z339 e343)).trans ((pR_j hh334 (by decide)).trans ((pNR hh329 (pN_n hh329 z328 e332)).trans ((pR_j hh323 (by decide)).trans ((pNR hh318 (pN_n hh318 z317 e321)).trans ((pR_j hh312 (by decide)).trans ((pNR hh307 (pN_n hh307 z306 e310)).trans ((pR_j hh301 (by decide)).trans ((pNR hh296 (pN_n hh296 z295 e299)).trans ((pR_j hh290 (by decide)).trans ((pNR hh285 (pN_n hh285 z284 e288)).trans ((pR_j hh279 (by decide)).trans ((pNR hh274 (pN_n hh274 z273 e277)).trans ((pR_j hh268 (by decide)).trans ((pNR hh263 (pN_n hh263 z262 e266)).trans ((pR_j hh257 (by decide)).trans ((pNR hh252 (pN_n hh252 z251 e255)).trans ((pR_j hh246 (by decide)).trans ((pNR hh241 (pN_n hh241 z240 e244)).trans ((pR_j hh235 (by decide)).trans ((pNR hh230 (pN_n hh230 z229 e233)).trans ((pR_j hh224 (by decide)).trans ((pNR hh219 (pN_n hh219 z218 e222)).trans ((pR_j hh213 (by decide)).trans ((pNR hh208 (pN_n hh208 z207 e211)).trans ((pR_j hh200 (by decide)).trans ((pJR hh195).trans ((pJR hh190).trans ((pJR hh185).trans ((pJR hh180).trans ((pJR hh175).trans ((pJR hh170).trans ((pJR hh165).trans ((pJR hh160).trans ((pJR hh155).trans ((pJR hh150).trans ((pJR hh145).trans ((pJR hh140).trans ((pJR hh135).trans ((pJR hh130).trans ((pJR hh125).trans ((pJR hh120).trans ((pJR hh115).trans ((pJR hh110).trans ((pJR hh105).trans ((pJR hh100).trans ((pJR hh95).trans ((pJR hh90).trans ((pJR hh85).trans ((pJR hh80).trans ((pJR hh75).trans ((pJR hh70).trans ((pJR hh65).trans ((pJR hh60).trans ((pJR hh55).trans ((pJR hh50).trans ((pNR hh47 (pN_n hh47 z46 e198)).trans (pR_e hh41))))))))))))))))))))))))))))))))))))))))))))))))))))))))))))))))))))))))))))))))))))))))))))))))))))))))))))))))))))))))))))))))))))))))))))))))))))))))))))))))))
        have e1123 : Tg h42 n33 = 106102 := ((pRT hh41).trans (pN_T hh36))
        have e1124 : Tg h201 n33 = 106102 := ((pRT hh200).trans ((pJT hh195).trans ((pJT hh190).trans ((pJT hh185).trans ((pJT hh180).trans ((pJT hh175).trans ((pJT hh170).trans ((pJT hh165).trans ((pJT hh160).trans ((pJT hh155).trans ((pJT hh150).trans ((pJT hh145).trans ((pJT hh140).trans ((pJT hh135).trans ((pJT hh130).trans ((pJT hh125).trans ((pJT hh120).trans ((pJT hh115).trans ((pJT hh110).trans ((pJT hh105).trans ((pJT hh100).trans ((pJT hh95).trans ((pJT hh90).trans ((pJT hh85).trans ((pJT hh80).trans ((pJT hh75).trans ((pJT hh70).trans ((pJT hh65).trans ((pJT hh60).trans ((pJT hh55).trans ((pJT hh50).trans ((pNT hh47 (pN_n hh47 z46 e1123)).trans e1123))))))))))))))))))))))))))))))))
        have e1125 : Tg h214 n33 = 106102 := ((pRT hh213).trans ((pNT hh208 (pN_n hh208 z207 e1124)).trans e1124))
        have e1126 : Tg h225 n33 = 106102 := ((pRT hh224).trans ((pNT hh219 (pN_n hh219 z218 e1125)).trans e1125))
        have e1127 : Tg h236 n33 = 106102 := ((pRT hh235).trans ((pNT hh230 (pN_n hh230 z229 e1126)).trans e1126))
        have e1128 : Tg h247 n33 = 106102 := ((pRT hh246).trans ((pNT hh241 (pN_n hh241 z240 e1127)).trans e1127))
        have e1129 : Tg h258 n33 = 106102 := ((pRT hh257).trans ((pNT hh252 (pN_n hh252 z251 e1128)).trans e1128))
        have e1130 : Tg h269 n33 = 106102 := ((pRT hh268).trans ((pNT hh263 (pN_n hh263 z262 e1129)).trans e1129))
        have e1131 : Tg h280 n33 = 106102 := ((pRT hh279).trans ((pNT hh274 (pN_n hh274 z273 e1130)).trans e1130))
        have e1132 : Tg h291 n33 = 106102 := ((pRT hh290).trans ((pNT hh285 (pN_n hh285 z284 e1131)).trans e1131))
        have e1133 : Tg h302 n33 = 106102 := ((pRT hh301).trans ((pNT hh296 (pN_n hh296 z295 e1132)).trans e1132))
        have e1134 : Tg h313 n33 = 106102 := ((pRT hh312).trans ((pNT hh307 (pN_n hh307 z306 e1133)).trans e1133))
        have e1135 : Tg h324 n33 = 106102 := ((pRT hh323).trans ((pNT hh318 (pN_n hh318 z317 e1134)).trans e1134))
        have e1136 : Tg h335 n33 = 106102 := ((pRT hh334).trans ((pNT hh329 (pN_n hh329 z328 e1135)).trans e1135))
        have e1137 : Tg h346 n33 = 106102 := ((pRT hh345).trans ((pNT hh340 (pN_n hh340 z339 e1136)).trans e1136))
        have e1138 : Tg h357 n33 = 106102 := ((pRT hh356).trans ((pNT hh351 (pN_n hh351 z350 e1137)).trans e1137))
        have e1139 : Tg h368 n33 = 106102 := ((pRT hh367).trans ((pNT hh362 (pN_n hh362 z361 e1138)).trans e1138))
        have e1140 : Tg h379 n33 = 106102 := ((pRT hh378).trans ((pNT hh373 (pN_n hh373 z372 e1139)).trans e1139))
        have e1141 : Tg h390 n33 = 106102 := ((pRT hh389).trans ((pNT hh384 (pN_n hh384 z383 e1140)).trans e1140))
        have e1142 : Tg h401 n33 = 106102 := ((pRT hh400).trans ((pNT hh395 (pN_n hh395 z394 e1141)).trans e1141))
        have e1143 : Tg h412 n33 = 106102 := ((pRT hh411).trans ((pNT hh406 (pN_n hh406 z405 e1142)).trans e1142))
        have e1144 : Tg h423 n33 = 106102 := ((pRT hh422).trans ((pNT hh417 (pN_n hh417 z416 e1143)).trans e1143))
        have e1145 : Tg h434 n33 = 106102 := ((pRT hh433).trans ((pNT hh428 (pN_n hh428 z427 e1144)).trans e1144))
        have e1146 : Tg h445 n33 = 106102 := ((pRT hh444).trans ((pNT hh439 (pN_n hh439 z438 e1145)).trans e1145))
        have e1147 : Tg h456 n33 = 106102 := ((pRT hh455).trans ((pNT hh450 (pN_n hh450 z449 e1146)).trans e1146))
        have e1148 : Tg h467 n33 = 106102 := ((pRT hh466).trans ((pNT hh461 (pN_n hh461 z460 e1147)).trans e1147))
        have e1149 : Tg h478 n33 = 106102 := ((pRT hh477).trans ((pNT hh472 (pN_n hh472 z471 e1148)).trans e1148))
        have e1150 : Tg h489 n33 = 106102 := ((pRT hh488).trans ((pNT hh483 (pN_n hh483 z482 e1149)).trans e1149))
        have e1151 : Tg h500 n33 = 106102 := ((pRT hh499).trans ((pNT hh494 (pN_n hh494 z493 e1150)).trans e1150))
        have e1152 : Tg h511 n33 = 106102 := ((pRT hh510).trans ((pNT hh505 (pN_n hh505 z504 e1151)).trans e1151))
        have e1153 : Tg h522 n33 = 106102 := ((pRT hh521).trans ((pNT hh516 (pN_n hh516 z515 e1152)).trans e1152))
        have e1154 : Tg h533 n33 = 106102 := ((pRT hh532).trans ((pNT hh527 (pN_n hh527 z526 e1153)).trans e1153))
        have e1155 : Tg h544 n33 = 106102 := ((pRT hh543).trans ((pNT hh538 (pN_n hh538 z537 e1154)).trans e1154))
        have e1156 : Tg h555 n33 = 106102 := ((pRT hh554).trans ((pNT hh549 (pN_n hh549 z548 e1155)).trans e1155))
        have e1157 : Tg h566 n33 = 106102 := ((pRT hh565).trans ((pNT hh560 (pN_n hh560 z559 e1156)).trans e1156))
        have e1158 : Tg h577 n33 = 106102 := ((pRT hh576).trans ((pNT hh571 (pN_n hh571 z570 e1157)).trans e1157))
        have e1159 : Tg h588 n33 = 106102 := ((pRT hh587).trans ((pNT hh582 (pN_n hh582 z581 e1158)).trans e1158))
        have e1160 : Tg h599 n33 = 106102 := ((pRT hh598).trans ((pNT hh593 (pN_n hh593 z592 e1159)).trans e1159))
        have e1161 : Tg h610 n33 = 106102 := ((pRT hh609).trans ((pNT hh604 (pN_n hh604 z603 e1160)).trans e1160))
        have e1162 : Tg h621 n33 = 106102 := ((pRT hh620).trans ((pNT hh615 (pN_n hh615 z614 e1161)).trans e1161))
        have e1163 : Tg h632 n33 = 106102 := ((pRT hh631).trans ((pNT hh626 (pN_n hh626 z625 e1162)).trans e1162))
        have e1164 : Tg h643 n33 = 106102 := ((pRT hh642).trans ((pNT hh637 (pN_n hh637 z636 e1163)).trans e1163))
        have e1165 : Tg h654 n33 = 106102 := ((pRT hh653).trans ((pNT hh648 (pN_n hh648 z647 e1164)).trans e1164))
        have e1166 : Tg h665 n33 = 106102 := ((pRT hh664).trans ((pNT hh659 (pN_n hh659 z658 e1165)).trans e1165))
        have e1167 : Tg h676 n33 = 106102 := ((pRT hh675).trans ((pNT hh670 (pN_n hh670 z669 e1166)).trans e1166))
        have e1168 : Tg h687 n33 = 106102 := ((pRT hh686).trans ((pNT hh681 (pN_n hh681 z680 e1167)).trans e1167))
        have e1169 : Tg h698 n33 = 106102 := ((pRT hh697).trans ((pNT hh692 (pN_n hh692 z691 e1168)).trans e1168))
        have e1170 : Tg h709 n33 = 106102 := ((pRT hh708).trans ((pNT hh703 (pN_n hh703 z702 e1169)).trans e1169))
        have e1171 : Tg h720 n33 = 106102 := ((pRT hh719).trans ((pNT hh714 (pN_n hh714 z713 e1170)).trans e1170))
        have e1172 : Tg h731 n33 = 106102 := ((pRT hh730).trans ((pNT hh725 (pN_n hh725 z724 e1171)).trans e1171))
        have e1173 : Tg h742 n33 = 106102 := ((pRT hh741).trans ((pNT hh736 (pN_n hh736 z735 e1172)).trans e1172))
        have e1174 : Tg h753 n33 = 106102 := ((pRT hh752).trans ((pNT hh747 (pN_n hh747 z746 e1173)).trans e1173))
        have e1175 : Tg h764 n33 = 106102 := ((pRT hh763).trans ((pNT hh758 (pN_n hh758 z757 e1174)).trans e1174))
        have e1176 : Tg h775 n33 = 106102 := ((pRT hh774).trans ((pNT hh769 (pN_n hh769 z768 e1175)).trans e1175))
        have e1177 : Tg h786 n33 = 106102 := ((pRT hh785).trans ((pNT hh780 (pN_n hh780 z779 e1176)).trans e1176))
        have e1178 : Tg h797 n33 = 106102 := ((pRT hh796).trans ((pNT hh791 (pN_n hh791 z790 e1177)).trans e1177))
        have e1179 : Tg h808 n33 = 106102 := ((pRT hh807).trans ((pNT hh802 (pN_n hh802 z801 e1178)).trans e1178))
        have e1180 : Tg h819 n33 = 106102 := ((pRT hh818).trans ((pNT hh813 (pN_n hh813 z812 e1179)).trans e1179))
        have e1181 : Tg h830 n33 = 106102 := ((pRT hh829).trans ((pNT hh824 (pN_n hh824 z823 e1180)).trans e1180))
        have e1182 : Tg h841 n33 = 106102 := ((pRT hh840).trans ((pNT hh835 (pN_n hh835 z834 e1181)).trans e1181))
        have e1183 : Tg h852 n33 = 106102 := ((pRT hh851).trans ((pNT hh846 (pN_n hh846 z845 e1182)).trans e1182))
        have e1184 : Tg h863 n33 = 106102 := ((pRT hh862).trans ((pNT hh857 (pN_n hh857 z856 e1183)).trans e1183))
        have e1185 : Tg h874 n33 = 106102 := ((pRT hh873).trans ((pNT hh868 (pN_n hh868 z867 e1184)).trans e1184))
        have e1186 : Tg h885 n33 = 106102 := ((pRT hh884).trans ((pNT hh879 (pN_n hh879 z878 e1185)).trans e1185))
        have e1187 : Tg h915 n33 = 106102 := ((pIT hh914).trans ((pIT hh910).trans (fxT F904 ((pRT hh895).trans ((pNT hh890 (pN_n hh890 z889 e1186)).trans e1186)))))
        have e1188 : Rv h915 a0 9 = n44 := ((pIR hh914).trans ((pIR hh910).trans ((fxR F904 e917 rfl).trans ((pR_j hh895 (by decide)).trans ((pNR hh890 (pN_n hh890 z889 e893)).trans ((pR_j hh884 (by decide)).trans ((pNR hh879 (pN_n hh879 z878 e882)).trans ((pR_j hh873 (by decide)).trans ((pNR hh868 (pN_n hh868 z867 e871)).trans ((pR_j hh862 (by decide)).trans ((pNR hh857 (pN_n hh857 z856 e860)).trans ((pR_j hh851 (by decide)).trans ((pNR hh846 (pN_n hh846 z845 e849)).trans ((pR_j hh840 (by decide)).trans ((pNR hh835 (pN_n hh835 z834 e838)).trans ((pR_j hh829 (by decide)).trans ((pNR hh824 (pN_n hh824 z823 e827)).trans ((pR_j hh818 (by decide)).trans ((pNR hh813 (pN_n hh813 z812 e816)).trans ((pR_j hh807 (by decide)).trans ((pNR hh802 (pN_n hh802 z801 e805)).trans ((pR_j hh796 (by decide)).trans ((pNR hh791 (pN_n hh791 z790 e794)).trans ((pR_j hh785 (by decide)).trans ((pNR hh780 (pN_n hh780 z779 e783)).trans ((pR_j hh774 (by decide)).trans ((pNR hh769 (pN_n hh769 z768 e772)).trans ((pR_j hh763 (by decide)).trans ((pNR hh758 (pN_n hh758 z757 e761)).trans ((pR_j hh752 (by decide)).trans ((pNR hh747 (pN_n hh747 z746 e750)).trans ((pR_j hh741 (by decide)).trans ((pNR hh736 (pN_n hh736 z735 e739)).trans ((pR_j hh730 (by decide)).trans ((pNR hh725 (pN_n hh725 z724 e728)).trans ((pR_j hh719 (by decide)).trans ((pNR hh714 (pN_n hh714 z713 e717)).trans ((pR_j hh708 (by decide)).trans ((pNR hh703 (pN_n hh703 z702 e706)).trans ((pR_j hh697 (by decide)).trans ((pNR hh692 (pN_n hh692 z691 e695)).trans ((pR_j hh686 (by decide)).trans ((pNR hh681 (pN_n hh681 z680 e684)).trans ((pR_j hh675 (by decide)).trans ((pNR hh670 (pN_n hh670 z669 e673)).trans ((pR_j hh664 (by decide)).trans ((pNR hh659 (pN_n hh659 z658 e662)).trans ((pR_j hh653 (by decide)).trans ((pNR hh648 (pN_n hh648 z647 e651)).trans ((pR_j hh642 (by decide)).trans ((pNR hh637 (pN_n hh637 z636 e640)).trans ((pR_j hh631 (by decide)).trans ((pNR hh626 (pN_n hh626 z625 e629)).trans ((pR_j hh620 (by decide)).trans ((pNR hh615 (pN_n hh615 z614 e618)).trans ((pR_j hh609 (by decide)).trans ((pNR hh604 (pN_n hh604 z603 e607)).trans ((pR_j hh598 (by decide)).trans ((pNR hh593 (pN_n hh593 z592 e596)).trans ((pR_j hh587 (by decide)).trans ((pNR hh582 (pN_n hh582 z581 e585)).trans ((pR_j hh576 (by decide)).trans ((pNR hh571 (pN_n hh571 z570 e574)).trans ((pR_j hh565 (by decide)).trans ((pNR hh560 (pN_n hh560 z559 e563)).trans ((pR_j hh554 (by decide)).trans ((pNR hh549 (pN_n hh549 z548 e552)).trans ((pR_j hh543 (by decide)).trans ((pNR hh538 (pN_n hh538 z537 e541)).trans ((pR_j hh532 (by decide)).trans ((pNR hh527 (pN_n hh527 z526 e530)).trans ((pR_j hh521 (by decide)).trans ((pNR hh516 (pN_n hh516 z515 e519)).trans ((pR_j hh510 (by decide)).trans ((pNR hh505 (pN_n hh505 z504 e508)).trans ((pR_j hh499 (by decide)).trans ((pNR hh494 (pN_n hh494 z493 e497)).trans ((pR_j hh488 (by decide)).trans ((pNR hh483 (pN_n hh483 z482 e486)).trans ((pR_j hh477 (by decide)).trans ((pNR hh472 (pN_n hh472 z471 e475)).trans ((pR_j hh466 (by decide)).trans ((pNR hh461 (pN_n hh461 z460 e464)).trans ((pR_j hh455 (by decide)).trans ((pNR hh450 (pN_n hh450 z449 e453)).trans ((pR_j hh444 (by decide)).trans ((pNR hh439 (pN_n hh439 z438 e442)).trans ((pR_j hh433 (by decide)).trans ((pNR hh428 (pN_n hh428 z427 e431)).trans ((pR_j hh422 (by decide)).trans ((pNR hh417 (pN_n hh417 z416 e420)).trans ((pR_j hh411 (by decide)).trans ((pNR hh406 (pN_n hh406 z405 e409)).trans ((pR_j hh400 (by decide)).trans ((pNR hh395 (pN_n hh395 z394 e398)).trans ((pR_j hh389 (by decide)).trans ((pNR hh384 (pN_n hh384 z383 e387)).trans ((pR_j hh378 (by decide)).trans ((pNR hh373 (pN_n hh373 z372 e376)).trans ((pR_j hh367 (by decide)).trans ((pNR hh362 (pN_n hh362 z361 e365)).trans ((pR_j hh356 (by decide)).trans ((pNR hh351 (pN_n hh351 z350 e354)).trans ((pR_j hh345 (by decide)).trans ((pNR hh340 (pN_n hh340 z339 e343)).trans ((pR_j hh334 (by decide)).trans ((pNR hh329 (pN_n hh329 z328 e332)).trans ((pR_j hh323 (by decide)).trans ((pNR hh318 (pN_n hh318 z317 e321)).trans ((pR_j hh312 (by decide)).trans ((pNR hh307 (pN_n hh307 z306 e310)).trans ((pR_j hh301 (by decide)).trans ((pNR hh296 (pN_n hh296 z295 e299)).trans ((pR_j hh290 (by decide)).trans ((pNR hh285 (pN_n hh285 z284 e288)).trans ((pR_j hh279 (by decide)).trans ((pNR hh274 (pN_n hh274 z273 e277)).trans ((pR_j hh268 (by decide)).trans ((pNR hh263 (pN_n hh263 z262 e266)).trans ((pR_j hh257 (by decide)).trans ((pNR hh252 (pN_n hh252 z251 e255)).trans ((pR_j hh246 (by decide)).trans ((pNR hh241 (pN_n hh241 z240 e244)).trans ((pR_j hh235 (by decide)).trans ((pNR hh230 (pN_n hh230 z229 e233)).trans ((pR_j hh224 (by decide)).trans ((pNR hh219 (pN_n hh219 z218 e222)).trans ((pR_j hh213 (by decide)).trans ((pNR hh208 (pN_n hh208 z207 e211)).trans (pR_e hh200))))))))))))))))))))))))))))))))))))))))))))))))))))))))))))))))))))))))))))))))))))))))))))))))))))))))))))))))))))))))))))))))))
        have e1189 : Tg h201 n44 = 109102 := ((pRT hh200).trans e203)
        have e1190 : Tg h214 n44 = 109102 := ((pRT hh213).trans ((pNT hh208 (pN_n hh208 z207 e1189)).trans e1189))
        have e1191 : Tg h225 n44 = 109102 := ((pRT hh224).trans ((pNT hh219 (pN_n hh219 z218 e1190)).trans e1190))
        have e1192 : Tg h236 n44 = 109102 := ((pRT hh235).trans ((pNT hh230 (pN_n hh230 z229 e1191)).trans e1191))
        have e1193 : Tg h247 n44 = 109102 := ((pRT hh246).trans ((pNT hh241 (pN_n hh241 z240 e1192)).trans e1192))
        have e1194 : Tg h258 n44 = 109102 := ((pRT hh257).trans ((pNT hh252 (pN_n hh252 z251 e1193)).trans e1193))
        have e1195 : Tg h269 n44 = 109102 := ((pRT hh268).trans ((pNT hh263 (pN_n hh263 z262 e1194)).trans e1194))
        have e1196 : Tg h280 n44 = 109102 := ((pRT hh279).trans ((pNT hh274 (pN_n hh274 z273 e1195)).trans e1195))
        have e1197 : Tg h291 n44 = 109102 := ((pRT hh290).trans ((pNT hh285 (pN_n hh285 z284 e1196)).trans e1196))
        have e1198 : Tg h302 n44 = 109102 := ((pRT hh301).trans ((pNT hh296 (pN_n hh296 z295 e1197)).trans e1197))
        have e1199 : Tg h313 n44 = 109102 := ((pRT hh312).trans ((pNT hh307 (pN_n hh307 z306 e1198)).trans e1198))
        have e1200 : Tg h324 n44 = 109102 := ((pRT hh323).trans ((pNT hh318 (pN_n hh318 z317 e1199)).trans e1199))
        have e1201 : Tg h335 n44 = 109102 := ((pRT hh334).trans ((pNT hh329 (pN_n hh329 z328 e1200)).trans e1200))
        have e1202 : Tg h346 n44 = 109102 := ((pRT hh345).trans ((pNT hh340 (pN_n hh340 z339 e1201)).trans e1201))
        have e1203 : Tg h357 n44 = 109102 := ((pRT hh356).trans ((pNT hh351 (pN_n hh351 z350 e1202)).trans e1202))
        have e1204 : Tg h368 n44 = 109102 := ((pRT hh367).trans ((pNT hh362 (pN_n hh362 z361 e1203)).trans e1203))
        have e1205 : Tg h379 n44 = 109102 := ((pRT hh378).trans ((pNT hh373 (pN_n hh373 z372 e1204)).trans e1204))
        have e1206 : Tg h390 n44 = 109102 := ((pRT hh389).trans ((pNT hh384 (pN_n hh384 z383 e1205)).trans e1205))
        have e1207 : Tg h401 n44 = 109102 := ((pRT hh400).trans ((pNT hh395 (pN_n hh395 z394 e1206)).trans e1206))
        have e1208 : Tg h412 n44 = 109102 := ((pRT hh411).trans ((pNT hh406 (pN_n hh406 z405 e1207)).trans e1207))
        have e1209 : Tg h423 n44 = 109102 := ((pRT hh422).trans ((pNT hh417 (pN_n hh417 z416 e1208)).trans e1208))
        have e1210 : Tg h434 n44 = 109102 := ((pRT hh433).trans ((pNT hh428 (pN_n hh428 z427 e1209)).trans e1209))
        have e1211 : Tg h445 n44 = 109102 := ((pRT hh444).trans ((pNT hh439 (pN_n hh439 z438 e1210)).trans e1210))
        have e1212 : Tg h456 n44 = 109102 := ((pRT hh455).trans ((pNT hh450 (pN_n hh450 z449 e1211)).trans e1211))
        have e1213 : Tg h467 n44 = 109102 := ((pRT hh466).trans ((pNT hh461 (pN_n hh461 z460 e1212)).trans e1212))
        have e1214 : Tg h478 n44 = 109102 := ((pRT hh477).trans ((pNT hh472 (pN_n hh472 z471 e1213)).trans e1213))
        have e1215 : Tg h489 n44 = 109102 := ((pRT hh488).trans ((pNT hh483 (pN_n hh483 z482 e1214)).trans e1214))
        have e1216 : Tg h500 n44 = 109102 := ((pRT hh499).trans ((pNT hh494 (pN_n hh494 z493 e1215)).trans e1215))
        have e1217 : Tg h511 n44 = 109102 := ((pRT hh510).trans ((pNT hh505 (pN_n hh505 z504 e1216)).trans e1216))
        have e1218 : Tg h522 n44 = 109102 := ((pRT hh521).trans ((pNT hh516 (pN_n hh516 z515 e1217)).trans e1217))
        have e1219 : Tg h533 n44 = 109102 := ((pRT hh532).trans ((pNT hh527 (pN_n hh527 z526 e1218)).trans e1218))
        have e1220 : Tg h544 n44 = 109102 := ((pRT hh543).trans ((pNT hh538 (pN_n hh538 z537 e1219)).trans e1219))
        have e1221 : Tg h555 n44 = 109102 := ((pRT hh554).trans ((pNT hh549 (pN_n hh549 z548 e1220)).trans e1220))
        have e1222 : Tg h566 n44 = 109102 := ((pRT hh565).trans ((pNT hh560 (pN_n hh560 z559 e1221)).trans e1221))
        have e1223 : Tg h577 n44 = 109102 := ((pRT hh576).trans ((pNT hh571 (pN_n hh571 z570 e1222)).trans e1222))
        have e1224 : Tg h588 n44 = 109102 := ((pRT hh587).trans ((pNT hh582 (pN_n hh582 z581 e1223)).trans e1223))
        have e1225 : Tg h599 n44 = 109102 := ((pRT hh598).trans ((pNT hh593 (pN_n hh593 z592 e1224)).trans e1224))
        have e1226 : Tg h610 n44 = 109102 := ((pRT hh609).trans ((pNT hh604 (pN_n hh604 z603 e1225)).trans e1225))
        have e1227 : Tg h621 n44 = 109102 := ((pRT hh620).trans ((pNT hh615 (pN_n hh615 z614 e1226)).trans e1226))
        have e1228 : Tg h632 n44 = 109102 := ((pRT hh631).trans ((pNT hh626 (pN_n hh626 z625 e1227)).trans e1227))
        have e1229 : Tg h643 n44 = 109102 := ((pRT hh642).trans ((pNT hh637 (pN_n hh637 z636 e1228)).trans e1228))
        have e1230 : Tg h654 n44 = 109102 := ((pRT hh653).trans ((pNT hh648 (pN_n hh648 z647 e1229)).trans e1229))
        have e1231 : Tg h665 n44 = 109102 := ((pRT hh664).trans ((pNT hh659 (pN_n hh659 z658 e1230)).trans e1230))
        have e1232 : Tg h676 n44 = 109102 := ((pRT hh675).trans ((pNT hh670 (pN_n hh670 z669 e1231)).trans e1231))
        have e1233 : Tg h687 n44 = 109102 := ((pRT hh686).trans ((pNT hh681 (pN_n hh681 z680 e1232)).trans e1232))
        have e1234 : Tg h698 n44 = 109102 := ((pRT hh697).trans ((pNT hh692 (pN_n hh692 z691 e1233)).trans e1233))
        have e1235 : Tg h709 n44 = 109102 := ((pRT hh708).trans ((pNT hh703 (pN_n hh703 z702 e1234)).trans e1234))
        have e1236 : Tg h720 n44 = 109102 := ((pRT hh719).trans ((pNT hh714 (pN_n hh714 z713 e1235)).trans e1235))
        have e1237 : Tg h731 n44 = 109102 := ((pRT hh730).trans ((pNT hh725 (pN_n hh725 z724 e1236)).trans e1236))
        have e1238 : Tg h742 n44 = 109102 := ((pRT hh741).trans ((pNT hh736 (pN_n hh736 z735 e1237)).trans e1237))
        have e1239 : Tg h753 n44 = 109102 := ((pRT hh752).trans ((pNT hh747 (pN_n hh747 z746 e1238)).trans e1238))
        have e1240 : Tg h764 n44 = 109102 := ((pRT hh763).trans ((pNT hh758 (pN_n hh758 z757 e1239)).trans e1239))
        have e1241 : Tg h775 n44 = 109102 := ((pRT hh774).trans ((pNT hh769 (pN_n hh769 z768 e1240)).trans e1240))
        have e1242 : Tg h786 n44 = 109102 := ((pRT hh785).trans ((pNT hh780 (pN_n hh780 z779 e1241)).trans e1241))
        have e1243 : Tg h797 n44 = 109102 := ((pRT hh796).trans ((pNT hh791 (pN_n hh791 z790 e1242)).trans e1242))
        have e1244 : Tg h808 n44 = 109102 := ((pRT hh807).trans ((pNT hh802 (pN_n hh802 z801 e1243)).trans e1243))
        have e1245 : Tg h819 n44 = 109102 := ((pRT hh818).trans ((pNT hh813 (pN_n hh813 z812 e1244)).trans e1244))
        have e1246 : Tg h830 n44 = 109102 := ((pRT hh829).trans ((pNT hh824 (pN_n hh824 z823 e1245)).trans e1245))
        have e1247 : Tg h841 n44 = 109102 := ((pRT hh840).trans ((pNT hh835 (pN_n hh835 z834 e1246)).trans e1246))
        have e1248 : Tg h852 n44 = 109102 := ((pRT hh851).trans ((pNT hh846 (pN_n hh846 z845 e1247)).trans e1247))
        have e1249 : Tg h863 n44 = 109102 := ((pRT hh862).trans ((pNT hh857 (pN_n hh857 z856 e1248)).trans e1248))
        have e1250 : Tg h874 n44 = 109102 := ((pRT hh873).trans ((pNT hh868 (pN_n hh868 z867 e1249)).trans e1249))
        have e1251 : Tg h885 n44 = 109102 := ((pRT hh884).trans ((pNT hh879 (pN_n hh879 z878 e1250)).trans e1250))
        have e1252 : Tg h915 n44 = 109102 := ((pIT hh914).trans ((pIT hh910).trans (fxT F904 ((pRT hh895).trans ((pNT hh890 (pN_n hh890 z889 e1251)).trans e1251)))))
        have e1253 : Rv h915 a0 11 = n205 := ((pIR hh914).trans ((pIR hh910).trans ((fxR F904 e917 rfl).trans ((pR_j hh895 (by decide)).trans ((pNR hh890 (pN_n hh890 z889 e893)).trans ((pR_j hh884 (by decide)).trans ((pNR hh879 (pN_n hh879 z878 e882)).trans ((pR_j hh873 (by decide)).trans ((pNR hh868 (pN_n hh868 z867 e871)).trans ((pR_j hh862 (by decide)).trans ((pNR hh857 (pN_n hh857 z856 e860)).trans ((pR_j hh851 (by decide)).trans ((pNR hh846 (pN_n hh846 z845 e849)).trans ((pR_j hh840 (by decide)).trans ((pNR hh835 (pN_n hh835 z834 e838)).trans ((pR_j hh829 (by decide)).trans ((pNR hh824 (pN_n hh824 z823 e827)).trans ((pR_j hh818 (by decide)).trans ((pNR hh813 (pN_n hh813 z812 e816)).trans ((pR_j hh807 (by decide)).trans ((pNR hh802 (pN_n hh802 z801 e805)).trans ((pR_j hh796 (by decide)).trans ((pNR hh791 (pN_n hh791 z790 e794)).trans ((pR_j hh785 (by decide)).trans ((pNR hh780 (pN_n hh780 z779 e783)).trans ((pR_j hh774 (by decide)).trans ((pNR hh769 (pN_n hh769 z768 e772)).trans ((pR_j hh763 (by decide)).trans ((pNR hh758 (pN_n hh758 z757 e761)).trans ((pR_j hh752 (by decide)).trans ((pNR hh747 (pN_n hh747 z746 e750)).trans ((pR_j hh741 (by decide)).trans ((pNR hh736 (pN_n hh736 z735 e739)).trans ((pR_j hh730 (by decide)).trans ((pNR hh725 (pN_n hh725 z724 e728)).trans ((pR_j hh719 (by decide)).trans ((pNR hh714 (pN_n hh714 z713 e717)).trans ((pR_j hh708 (by decide)).trans ((pNR hh703 (pN_n hh703 z702 e706)).trans ((pR_j hh697 (by decide)).trans ((pNR hh692 (pN_n hh692 z691 e695)).trans ((pR_j hh686 (by decide)).trans ((pNR hh681 (pN_n hh681 z680 e684)).trans ((pR_j hh675 (by decide)).trans ((pNR hh670 (pN_n hh670 z669 e673)).trans ((pR_j hh664 (by decide)).trans ((pNR hh659 (pN_n hh659 z658 e662)).trans ((pR_j hh653 (by decide)).trans ((pNR hh648 (pN_n hh648 z647 e651)).trans ((pR_j hh642 (by decide)).trans ((pNR hh637 (pN_n hh637 z636 e640)).trans ((pR_j hh631 (by decide)).trans ((pNR hh626 (pN_n hh626 z625 e629)).trans ((pR_j hh620 (by decide)).trans ((pNR hh615 (pN_n hh615 z614 e618)).trans ((pR_j hh609 (by decide)).trans ((pNR hh604 (pN_n hh604 z603 e607)).trans ((pR_j hh598 (by decide)).trans ((pNR hh593 (pN_n hh593 z592 e596)).trans ((pR_j hh587 (by decide)).trans ((pNR hh582 (pN_n hh582 z581 e585)).trans ((pR_j hh576 (by decide)).trans ((pNR hh571 (pN_n hh571 z570 e574)).trans ((pR_j hh565 (by decide)).trans ((pNR hh560 (pN_n hh560 z559 e563)).trans ((pR_j hh554 (by decide)).trans ((pNR hh549 (pN_n hh549 z548 e552)).trans ((pR_j hh543 (by decide)).trans ((pNR hh538 (pN_n hh538 z537 e541)).trans ((pR_j hh532 (by decide)).trans ((pNR hh527 (pN_n hh527 z526 e530)).trans ((pR_j hh521 (by decide)).trans ((pNR hh516 (pN_n hh516 z515 e519)).trans ((pR_j hh510 (by decide)).trans ((pNR hh505 (pN_n hh505 z504 e508)).trans ((pR_j hh499 (by decide)).trans ((pNR hh494 (pN_n hh494 z493 e497)).trans ((pR_j hh488 (by decide)).trans ((pNR hh483 (pN_n hh483 z482 e486)).trans ((pR_j hh477 (by decide)).trans ((pNR hh472 (pN_n hh472 z471 e475)).trans ((pR_j hh466 (by decide)).trans ((pNR hh461 (pN_n hh461 z460 e464)).trans ((pR_j hh455 (by decide)).trans ((pNR hh450 (pN_n hh450 z449 e453)).trans ((pR_j hh444 (by decide)).trans ((pNR hh439 (pN_n hh439 z438 e442)).trans ((pR_j hh433 (by decide)).trans ((pNR hh428 (pN_n hh428 z427 e431)).trans ((pR_j hh422 (by decide)).trans ((pNR hh417 (pN_n hh417 z416 e420)).trans ((pR_j hh411 (by decide)).trans ((pNR hh406 (pN_n hh406 z405 e409)).trans ((pR_j hh400 (by decide)).trans ((pNR hh395 (pN_n hh395 z394 e398)).trans ((pR_j hh389 (by decide)).trans ((pNR hh384 (pN_n hh384 z383 e387)).trans ((pR_j hh378 (by decide)).trans ((pNR hh373 (pN_n hh373 z372 e376)).trans ((pR_j hh367 (by decide)).trans ((pNR hh362 (pN_n hh362 z361 e365)).trans ((pR_j hh356 (by decide)).trans ((pNR hh351 (pN_n hh351 z350 e354)).trans ((pR_j hh345 (by decide)).trans ((pNR hh340 (pN_n hh340 z339 e343)).trans ((pR_j hh334 (by decide)).trans ((pNR hh329 (pN_n hh329 z328 e332)).trans ((pR_j hh323 (by decide)).trans ((pNR hh318 (pN_n hh318 z317 e321)).trans ((pR_j hh312 (by decide)).trans ((pNR hh307 (pN_n hh307 z306 e310)).trans ((pR_j hh301 (by decide)).trans ((pNR hh296 (pN_n hh296 z295 e299)).trans ((pR_j hh290 (by decide)).trans ((pNR hh285 (pN_n hh285 z284 e288)).trans ((pR_j hh279 (by decide)).trans ((pNR hh274 (pN_n hh274 z273 e277)).trans ((pR_j hh268 (by decide)).trans ((pNR hh263 (pN_n hh263 z262 e266)).trans ((pR_j hh257 (by decide)).trans ((pNR hh252 (pN_n hh252 z251 e255)).trans ((pR_j hh246 (by decide)).trans ((pNR hh241 (pN_n hh241 z240 e244)).trans ((pR_j hh235 (by decide)).trans ((pNR hh230 (pN_n hh230 z229 e233)).trans ((pR_j hh224 (by decide)).trans ((pNR hh219 (pN_n hh219 z218 e222)).trans (pR_e hh213))))))))))))))))))))))))))))))))))))))))))))))))))))))))))))))))))))))))))))))))))))))))))))))))))))))))))))))))))))))))))))))))
        have e1254 : Tg h214 n205 = 111100 := ((pRT hh213).trans (pN_T hh208))
        have e1255 : Tg h225 n205 = 111100 := ((pRT hh224).trans ((pNT hh219 (pN_n hh219 z218 e1254)).trans e1254))
        have e1256 : Tg h236 n205 = 111100 := ((pRT hh235).trans ((pNT hh230 (pN_n hh230 z229 e1255)).trans e1255))
        have e1257 : Tg h247 n205 = 111100 := ((pRT hh246).trans ((pNT hh241 (pN_n hh241 z240 e1256)).trans e1256))
        have e1258 : Tg h258 n205 = 111100 := ((pRT hh257).trans ((pNT hh252 (pN_n hh252 z251 e1257)).trans e1257))
        have e1259 : Tg h269 n205 = 111100 := ((pRT hh268).trans ((pNT hh263 (pN_n hh263 z262 e1258)).trans e1258))
        have e1260 : Tg h280 n205 = 111100 := ((pRT hh279).trans ((pNT hh274 (pN_n hh274 z273 e1259)).trans e1259))
        have e1261 : Tg h291 n205 = 111100 := ((pRT hh290).trans ((pNT hh285 (pN_n hh285 z284 e1260)).trans e1260))
        have e1262 : Tg h302 n205 = 111100 := ((pRT hh301).trans ((pNT hh296 (pN_n hh296 z295 e1261)).trans e1261))
        have e1263 : Tg h313 n205 = 111100 := ((pRT hh312).trans ((pNT hh307 (pN_n hh307 z306 e1262)).trans e1262))
        have e1264 : Tg h324 n205 = 111100 := ((pRT hh323).trans ((pNT hh318 (pN_n hh318 z317 e1263)).trans e1263))
        have e1265 : Tg h335 n205 = 111100 := ((pRT hh334).trans ((pNT hh329 (pN_n hh329 z328 e1264)).trans e1264))
        have e1266 : Tg h346 n205 = 111100 := ((pRT hh345).trans ((pNT hh340 (pN_n hh340 z339 e1265)).trans e1265))
        have e1267 : Tg h357 n205 = 111100 := ((pRT hh356).trans ((pNT hh351 (pN_n hh351 z350 e1266)).trans e1266))
        have e1268 : Tg h368 n205 = 111100 := ((pRT hh367).trans ((pNT hh362 (pN_n hh362 z361 e1267)).trans e1267))
        have e1269 : Tg h379 n205 = 111100 := ((pRT hh378).trans ((pNT hh373 (pN_n hh373 z372 e1268)).trans e1268))
        have e1270 : Tg h390 n205 = 111100 := ((pRT hh389).trans ((pNT hh384 (pN_n hh384 z383 e1269)).trans e1269))
        have e1271 : Tg h401 n205 = 111100 := ((pRT hh400).trans ((pNT hh395 (pN_n hh395 z394 e1270)).trans e1270))
        have e1272 : Tg h412 n205 = 111100 := ((pRT hh411).trans ((pNT hh406 (pN_n hh406 z405 e1271)).trans e1271))
        have e1273 : Tg h423 n205 = 111100 := ((pRT hh422).trans ((pNT hh417 (pN_n hh417 z416 e1272)).trans e1272))
        have e1274 : Tg h434 n205 = 111100 := ((pRT hh433).trans ((pNT hh428 (pN_n hh428 z427 e1273)).trans e1273))
        have e1275 : Tg h445 n205 = 111100 := ((pRT hh444).trans ((pNT hh439 (pN_n hh439 z438 e1274)).trans e1274))
        have e1276 : Tg h456 n205 = 111100 := ((pRT hh455).trans ((pNT hh450 (pN_n hh450 z449 e1275)).trans e1275))
        have e1277 : Tg h467 n205 = 111100 := ((pRT hh466).trans ((pNT hh461 (pN_n hh461 z460 e1276)).trans e1276))
        have e1278 : Tg h478 n205 = 111100 := ((pRT hh477).trans ((pNT hh472 (pN_n hh472 z471 e1277)).trans e1277))
        have e1279 : Tg h489 n205 = 111100 := ((pRT hh488).trans ((pNT hh483 (pN_n hh483 z482 e1278)).trans e1278))
        have e1280 : Tg h500 n205 = 111100 := ((pRT hh499).trans ((pNT hh494 (pN_n hh494 z493 e1279)).trans e1279))
        have e1281 : Tg h511 n205 = 111100 := ((pRT hh510).trans ((pNT hh505 (pN_n hh505 z504 e1280)).trans e1280))
        have e1282 : Tg h522 n205 = 111100 := ((pRT hh521).trans ((pNT hh516 (pN_n hh516 z515 e1281)).trans e1281))
        have e1283 : Tg h533 n205 = 111100 := ((pRT hh532).trans ((pNT hh527 (pN_n hh527 z526 e1282)).trans e1282))
        have e1284 : Tg h544 n205 = 111100 := ((pRT hh543).trans ((pNT hh538 (pN_n hh538 z537 e1283)).trans e1283))
        have e1285 : Tg h555 n205 = 111100 := ((pRT hh554).trans ((pNT hh549 (pN_n hh549 z548 e1284)).trans e1284))
        have e1286 : Tg h566 n205 = 111100 := ((pRT hh565).trans ((pNT hh560 (pN_n hh560 z559 e1285)).trans e1285))
        have e1287 : Tg h577 n205 = 111100 := ((pRT hh576).trans ((pNT hh571 (pN_n hh571 z570 e1286)).trans e1286))
        have e1288 : Tg h588 n205 = 111100 := ((pRT hh587).trans ((pNT hh582 (pN_n hh582 z581 e1287)).trans e1287))
        have e1289 : Tg h599 n205 = 111100 := ((pRT hh598).trans ((pNT hh593 (pN_n hh593 z592 e1288)).trans e1288))
        have e1290 : Tg h610 n205 = 111100 := ((pRT hh609).trans ((pNT hh604 (pN_n hh604 z603 e1289)).trans e1289))
        have e1291 : Tg h621 n205 = 111100 := ((pRT hh620).trans ((pNT hh615 (pN_n hh615 z614 e1290)).trans e1290))
        have e1292 : Tg h632 n205 = 111100 := ((pRT hh631).trans ((pNT hh626 (pN_n hh626 z625 e1291)).trans e1291))
        have e1293 : Tg h643 n205 = 111100 := ((pRT hh642).trans ((pNT hh637 (pN_n hh637 z636 e1292)).trans e1292))
        have e1294 : Tg h654 n205 = 111100 := ((pRT hh653).trans ((pNT hh648 (pN_n hh648 z647 e1293)).trans e1293))
        have e1295 : Tg h665 n205 = 111100 := ((pRT hh664).trans ((pNT hh659 (pN_n hh659 z658 e1294)).trans e1294))
        have e1296 : Tg h676 n205 = 111100 := ((pRT hh675).trans ((pNT hh670 (pN_n hh670 z669 e1295)).trans e1295))
        have e1297 : Tg h687 n205 = 111100 := ((pRT hh686).trans ((pNT hh681 (pN_n hh681 z680 e1296)).trans e1296))
        have e1298 : Tg h698 n205 = 111100 := ((pRT hh697).trans ((pNT hh692 (pN_n hh692 z691 e1297)).trans e1297))
        have e1299 : Tg h709 n205 = 111100 := ((pRT hh708).trans ((pNT hh703 (pN_n hh703 z702 e1298)).trans e1298))
        have e1300 : Tg h720 n205 = 111100 := ((pRT hh719).trans ((pNT hh714 (pN_n hh714 z713 e1299)).trans e1299))
        have e1301 : Tg h731 n205 = 111100 := ((pRT hh730).trans ((pNT hh725 (pN_n hh725 z724 e1300)).trans e1300))
        have e1302 : Tg h742 n205 = 111100 := ((pRT hh741).trans ((pNT hh736 (pN_n hh736 z735 e1301)).trans e1301))
        have e1303 : Tg h753 n205 = 111100 := ((pRT hh752).trans ((pNT hh747 (pN_n hh747 z746 e1302)).trans e1302))
        have e1304 : Tg h764 n205 = 111100 := ((pRT hh763).trans ((pNT hh758 (pN_n hh758 z757 e1303)).trans e1303))
        have e1305 : Tg h775 n205 = 111100 := ((pRT hh774).trans ((pNT hh769 (pN_n hh769 z768 e1304)).trans e1304))
        have e1306 : Tg h786 n205 = 111100 := ((pRT hh785).trans ((pNT hh780 (pN_n hh780 z779 e1305)).trans e1305))
        have e1307 : Tg h797 n205 = 111100 := ((pRT hh796).trans ((pNT hh791 (pN_n hh791 z790 e1306)).trans e1306))
        have e1308 : Tg h808 n205 = 111100 := ((pRT hh807).trans ((pNT hh802 (pN_n hh802 z801 e1307)).trans e1307))
        have e1309 : Tg h819 n205 = 111100 := ((pRT hh818).trans ((pNT hh813 (pN_n hh813 z812 e1308)).trans e1308))
        have e1310 : Tg h830 n205 = 111100 := ((pRT hh829).trans ((pNT hh824 (pN_n hh824 z823 e1309)).trans e1309))
        have e1311 : Tg h841 n205 = 111100 := ((pRT hh840).trans ((pNT hh835 (pN_n hh835 z834 e1310)).trans e1310))
        have e1312 : Tg h852 n205 = 111100 := ((pRT hh851).trans ((pNT hh846 (pN_n hh846 z845 e1311)).trans e1311))
        have e1313 : Tg h863 n205 = 111100 := ((pRT hh862).trans ((pNT hh857 (pN_n hh857 z856 e1312)).trans e1312))
        have e1314 : Tg h874 n205 = 111100 := ((pRT hh873).trans ((pNT hh868 (pN_n hh868 z867 e1313)).trans e1313))
        have e1315 : Tg h885 n205 = 111100 := ((pRT hh884).trans ((pNT hh879 (pN_n hh879 z878 e1314)).trans e1314))
        have e1316 : Tg h915 n205 = 111100 := ((pIT hh914).trans ((pIT hh910).trans (fxT F904 ((pRT hh895).trans ((pNT hh890 (pN_n hh890 z889 e1315)).trans e1315)))))
        have e1317 : Rv h915 a0 12 = n216 := ((pIR hh914).trans ((pIR hh910).trans ((fxR F904 e917 rfl).trans ((pR_j hh895 (by decide)).trans ((pNR hh890 (pN_n hh890 z889 e893)).trans ((pR_j hh884 (by decide)).trans ((pNR hh879 (pN_n hh879 z878 e882)).trans ((pR_j hh873 (by decide)).trans ((pNR hh868 (pN_n hh868 z867 e871)).trans ((pR_j hh862 (by decide)).trans ((pNR hh857 (pN_n hh857 z856 e860)).trans ((pR_j hh851 (by decide)).trans ((pNR hh846 (pN_n hh846 z845 e849)).trans ((pR_j hh840 (by decide)).trans ((pNR hh835 (pN_n hh835 z834 e838)).trans ((pR_j hh829 (by decide)).trans ((pNR hh824 (pN_n hh824 z823 e827)).trans ((pR_j hh818 (by decide)).trans ((pNR hh813 (pN_n hh813 z812 e816)).trans ((pR_j hh807 (by decide)).trans ((pNR hh802 (pN_n hh802 z801 e805)).trans ((pR_j hh796 (by decide)).trans ((pNR hh791 (pN_n hh791 z790 e794)).trans ((pR_j hh785 (by decide)).trans ((pNR hh780 (pN_n hh780 z779 e783)).trans ((pR_j hh774 (by decide)).trans ((pNR hh769 (pN_n hh769 z768 e772)).trans ((pR_j hh763 (by decide)).trans ((pNR hh758 (pN_n hh758 z757 e761)).trans ((pR_j hh752 (by decide)).trans ((pNR hh747 (pN_n hh747 z746 e750)).trans ((pR_j hh741 (by decide)).trans ((pNR hh736 (pN_n hh736 z735 e739)).trans ((pR_j hh730 (by decide)).trans ((pNR hh725 (pN_n hh725 z724 e728)).trans ((pR_j hh719 (by decide)).trans ((pNR hh714 (pN_n hh714 z713 e717)).trans ((pR_j hh708 (by decide)).trans ((pNR hh703 (pN_n hh703 z702 e706)).trans ((pR_j hh697 (by decide)).trans ((pNR hh692 (pN_n hh692 z691 e695)).trans ((pR_j hh686 (by decide)).trans ((pNR hh681 (pN_n hh681 z680 e684)).trans ((pR_j hh675 (by decide)).trans ((pNR hh670 (pN_n hh670 z669 e673)).trans ((pR_j hh664 (by decide)).trans ((pNR hh659 (pN_n hh659 z658 e662)).trans ((pR_j hh653 (by decide)).trans ((pNR hh648 (pN_n hh648 z647 e651)).trans ((pR_j hh642 (by decide)).trans ((pNR hh637 (pN_n hh637 z636 e640)).trans ((pR_j hh631 (by decide)).trans ((pNR hh626 (pN_n hh626 z625 e629)).trans ((pR_j hh620 (by decide)).trans ((pNR hh615 (pN_n hh615 z614 e618)).trans ((pR_j hh609 (by decide)).trans ((pNR hh604 (pN_n hh604 z603 e607)).trans ((pR_j hh598 (by decide)).trans ((pNR hh593 (pN_n hh593 z592 e596)).trans ((pR_j hh587 (by decide)).trans ((pNR hh582 (pN_n hh582 z581 e585)).trans ((pR_j hh576 (by decide)).trans ((pNR hh571 (pN_n hh571 z570 e574)).trans ((pR_j hh565 (by decide)).trans ((pNR hh560 (pN_n hh560 z559 e563)).trans ((pR_j hh554 (by decide)).trans ((pNR hh549 (pN_n hh549 z548 e552)).trans ((pR_j hh543 (by decide)).trans ((pNR hh538 (pN_n hh538 z537 e541)).trans ((pR_j hh532 (by decide)).trans ((pNR hh527 (pN_n hh527 z526 e530)).trans ((pR_j hh521 (by decide)).trans ((pNR hh516 (pN_n hh516 z515 e519)).trans ((pR_j hh510 (by decide)).trans ((pNR hh505 (pN_n hh505 z504 e508)).trans ((pR_j hh499 (by decide)).trans ((pNR hh494 (pN_n hh494 z493 e497)).trans ((pR_j hh488 (by decide)).trans ((pNR hh483 (pN_n hh483 z482 e486)).trans ((pR_j hh477 (by decide)).trans ((pNR hh472 (pN_n hh472 z471 e475)).trans ((pR_j hh466 (by decide)).trans ((pNR hh461 (pN_n hh461 z460 e464)).trans ((pR_j hh455 (by decide)).trans ((pNR hh450 (pN_n hh450 z449 e453)).trans ((pR_j hh444 (by decide)).trans ((pNR hh439 (pN_n hh439 z438 e442)).trans ((pR_j hh433 (by decide)).trans ((pNR hh428 (pN_n hh428 z427 e431)).trans ((pR_j hh422 (by decide)).trans ((pNR hh417 (pN_n hh417 z416 e420)).trans ((pR_j hh411 (by decide)).trans ((pNR hh406 (pN_n hh406 z405 e409)).trans ((pR_j hh400 (by decide)).trans ((pNR hh395 (pN_n hh395 z394 e398)).trans ((pR_j hh389 (by decide)).trans ((pNR hh384 (pN_n hh384 z383 e387)).trans ((pR_j hh378 (by decide)).trans ((pNR hh373 (pN_n hh373 z372 e376)).trans ((pR_j hh367 (by decide)).trans ((pNR hh362 (pN_n hh362 z361 e365)).trans ((pR_j hh356 (by decide)).trans ((pNR hh351 (pN_n hh351 z350 e354)).trans ((pR_j hh345 (by decide)).trans ((pNR hh340 (pN_n hh340 z339 e343)).trans ((pR_j hh334 (by decide)).trans ((pNR hh329 (pN_n hh329 z328 e332)).trans ((pR_j hh323 (by decide)).trans ((pNR hh318 (pN_n hh318 z317 e321)).trans ((pR_j hh312 (by decide)).trans ((pNR hh307 (pN_n hh307 z306 e310)).trans ((pR_j hh301 (by decide)).trans ((pNR hh296 (pN_n hh296 z295 e299)).trans ((pR_j hh290 (by decide)).trans ((pNR hh285 (pN_n hh285 z284 e288)).trans ((pR_j hh279 (by decide)).trans ((pNR hh274 (pN_n hh274 z273 e277)).trans ((pR_j hh268 (by decide)).trans ((pNR hh263 (pN_n hh263 z262 e266)).trans ((pR_j hh257 (by decide)).trans ((pNR hh252 (pN_n hh252 z251 e255)).trans ((pR_j hh246 (by decide)).trans ((pNR hh241 (pN_n hh241 z240 e244)).trans ((pR_j hh235 (by decide)).trans ((pNR hh230 (pN_n hh230 z229 e233)).trans (pR_e hh224))))))))))))))))))))))))))))))))))))))))))))))))))))))))))))))))))))))))))))))))))))))))))))))))))))))))))))))))))))))))))))))
        have e1318 : Tg h225 n216 = 112100 := ((pRT hh224).trans (pN_T hh219))
        have e1319 : Tg h236 n216 = 112100 := ((pRT hh235).trans ((pNT hh230 (pN_n hh230 z229 e1318)).trans e1318))
        have e1320 : Tg h247 n216 = 112100 := ((pRT hh246).trans ((pNT hh241 (pN_n hh241 z240 e1319)).trans e1319))
        have e1321 : Tg h258 n216 = 112100 := ((pRT hh257).trans ((pNT hh252 (pN_n hh252 z251 e1320)).trans e1320))
        have e1322 : Tg h269 n216 = 112100 := ((pRT hh268).trans ((pNT hh263 (pN_n hh263 z262 e1321)).trans e1321))
        have e1323 : Tg h280 n216 = 112100 := ((pRT hh279).trans ((pNT hh274 (pN_n hh274 z273 e1322)).trans e1322))
        have e1324 : Tg h291 n216 = 112100 := ((pRT hh290).trans ((pNT hh285 (pN_n hh285 z284 e1323)).trans e1323))
        have e1325 : Tg h302 n216 = 112100 := ((pRT hh301).trans ((pNT hh296 (pN_n hh296 z295 e1324)).trans e1324))
        have e1326 : Tg h313 n216 = 112100 := ((pRT hh312).trans ((pNT hh307 (pN_n hh307 z306 e1325)).trans e1325))
        have e1327 : Tg h324 n216 = 112100 := ((pRT hh323).trans ((pNT hh318 (pN_n hh318 z317 e1326)).trans e1326))
        have e1328 : Tg h335 n216 = 112100 := ((pRT hh334).trans ((pNT hh329 (pN_n hh329 z328 e1327)).trans e1327))
        have e1329 : Tg h346 n216 = 112100 := ((pRT hh345).trans ((pNT hh340 (pN_n hh340 z339 e1328)).trans e1328))
        have e1330 : Tg h357 n216 = 112100 := ((pRT hh356).trans ((pNT hh351 (pN_n hh351 z350 e1329)).trans e1329))
        have e1331 : Tg h368 n216 = 112100 := ((pRT hh367).trans ((pNT hh362 (pN_n hh362 z361 e1330)).trans e1330))
        have e1332 : Tg h379 n216 = 112100 := ((pRT hh378).trans ((pNT hh373 (pN_n hh373 z372 e1331)).trans e1331))
        have e1333 : Tg h390 n216 = 112100 := ((pRT hh389).trans ((pNT hh384 (pN_n hh384 z383 e1332)).trans e1332))
        have e1334 : Tg h401 n216 = 112100 := ((pRT hh400).trans ((pNT hh395 (pN_n hh395 z394 e1333)).trans e1333))
        have e1335 : Tg h412 n216 = 112100 := ((pRT hh411).trans ((pNT hh406 (pN_n hh406 z405 e1334)).trans e1334))
        have e1336 : Tg h423 n216 = 112100 := ((pRT hh422).trans ((pNT hh417 (pN_n hh417 z416 e1335)).trans e1335))
        have e1337 : Tg h434 n216 = 112100 := ((pRT hh433).trans ((pNT hh428 (pN_n hh428 z427 e1336)).trans e1336))
        have e1338 : Tg h445 n216 = 112100 := ((pRT hh444).trans ((pNT hh439 (pN_n hh439 z438 e1337)).trans e1337))
        have e1339 : Tg h456 n216 = 112100 := ((pRT hh455).trans ((pNT hh450 (pN_n hh450 z449 e1338)).trans e1338))
        have e1340 : Tg h467 n216 = 112100 := ((pRT hh466).trans ((pNT hh461 (pN_n hh461 z460 e1339)).trans e1339))
        have e1341 : Tg h478 n216 = 112100 := ((pRT hh477).trans ((pNT hh472 (pN_n hh472 z471 e1340)).trans e1340))
        have e1342 : Tg h489 n216 = 112100 := ((pRT hh488).trans ((pNT hh483 (pN_n hh483 z482 e1341)).trans e1341))
        have e1343 : Tg h500 n216 = 112100 := ((pRT hh499).trans ((pNT hh494 (pN_n hh494 z493 e1342)).trans e1342))
        have e1344 : Tg h511 n216 = 112100 := ((pRT hh510).trans ((pNT hh505 (pN_n hh505 z504 e1343)).trans e1343))
        have e1345 : Tg h522 n216 = 112100 := ((pRT hh521).trans ((pNT hh516 (pN_n hh516 z515 e1344)).trans e1344))
        have e1346 : Tg h533 n216 = 112100 := ((pRT hh532).trans ((pNT hh527 (pN_n hh527 z526 e1345)).trans e1345))
        have e1347 : Tg h544 n216 = 112100 := ((pRT hh543).trans ((pNT hh538 (pN_n hh538 z537 e1346)).trans e1346))
        have e1348 : Tg h555 n216 = 112100 := ((pRT hh554).trans ((pNT hh549 (pN_n hh549 z548 e1347)).trans e1347))
        have e1349 : Tg h566 n216 = 112100 := ((pRT hh565).trans ((pNT hh560 (pN_n hh560 z559 e1348)).trans e1348))
        have e1350 : Tg h577 n216 = 112100 := ((pRT hh576).trans ((pNT hh571 (pN_n hh571 z570 e1349)).trans e1349))
        have e1351 : Tg h588 n216 = 112100 := ((pRT hh587).trans ((pNT hh582 (pN_n hh582 z581 e1350)).trans e1350))
        have e1352 : Tg h599 n216 = 112100 := ((pRT hh598).trans ((pNT hh593 (pN_n hh593 z592 e1351)).trans e1351))
        have e1353 : Tg h610 n216 = 112100 := ((pRT hh609).trans ((pNT hh604 (pN_n hh604 z603 e1352)).trans e1352))
        have e1354 : Tg h621 n216 = 112100 := ((pRT hh620).trans ((pNT hh615 (pN_n hh615 z614 e1353)).trans e1353))
        have e1355 : Tg h632 n216 = 112100 := ((pRT hh631).trans ((pNT hh626 (pN_n hh626 z625 e1354)).trans e1354))
        have e1356 : Tg h643 n216 = 112100 := ((pRT hh642).trans ((pNT hh637 (pN_n hh637 z636 e1355)).trans e1355))
        have e1357 : Tg h654 n216 = 112100 := ((pRT hh653).trans ((pNT hh648 (pN_n hh648 z647 e1356)).trans e1356))
        have e1358 : Tg h665 n216 = 112100 := ((pRT hh664).trans ((pNT hh659 (pN_n hh659 z658 e1357)).trans e1357))
        have e1359 : Tg h676 n216 = 112100 := ((pRT hh675).trans ((pNT hh670 (pN_n hh670 z669 e1358)).trans e1358))
        have e1360 : Tg h687 n216 = 112100 := ((pRT hh686).trans ((pNT hh681 (pN_n hh681 z680 e1359)).trans e1359))
        have e1361 : Tg h698 n216 = 112100 := ((pRT hh697).trans ((pNT hh692 (pN_n hh692 z691 e1360)).trans e1360))
        have e1362 : Tg h709 n216 = 112100 := ((pRT hh708).trans ((pNT hh703 (pN_n hh703 z702 e1361)).trans e1361))
        have e1363 : Tg h720 n216 = 112100 := ((pRT hh719).trans ((pNT hh714 (pN_n hh714 z713 e1362)).trans e1362))
        have e1364 : Tg h731 n216 = 112100 := ((pRT hh730).trans ((pNT hh725 (pN_n hh725 z724 e1363)).trans e1363))
        have e1365 : Tg h742 n216 = 112100 := ((pRT hh741).trans ((pNT hh736 (pN_n hh736 z735 e1364)).trans e1364))
        have e1366 : Tg h753 n216 = 112100 := ((pRT hh752).trans ((pNT hh747 (pN_n hh747 z746 e1365)).trans e1365))
        have e1367 : Tg h764 n216 = 112100 := ((pRT hh763).trans ((pNT hh758 (pN_n hh758 z757 e1366)).trans e1366))
        have e1368 : Tg h775 n216 = 112100 := ((pRT hh774).trans ((pNT hh769 (pN_n hh769 z768 e1367)).trans e1367))
        have e1369 : Tg h786 n216 = 112100 := ((pRT hh785).trans ((pNT hh780 (pN_n hh780 z779 e1368)).trans e1368))
        have e1370 : Tg h797 n216 = 112100 := ((pRT hh796).trans ((pNT hh791 (pN_n hh791 z790 e1369)).trans e1369))
        have e1371 : Tg h808 n216 = 112100 := ((pRT hh807).trans ((pNT hh802 (pN_n hh802 z801 e1370)).trans e1370))
        have e1372 : Tg h819 n216 = 112100 := ((pRT hh818).trans ((pNT hh813 (pN_n hh813 z812 e1371)).trans e1371))
        have e1373 : Tg h830 n216 = 112100 := ((pRT hh829).trans ((pNT hh824 (pN_n hh824 z823 e1372)).trans e1372))
        have e1374 : Tg h841 n216 = 112100 := ((pRT hh840).trans ((pNT hh835 (pN_n hh835 z834 e1373)).trans e1373))
        have e1375 : Tg h852 n216 = 112100 := ((pRT hh851).trans ((pNT hh846 (pN_n hh846 z845 e1374)).trans e1374))
        have e1376 : Tg h863 n216 = 112100 := ((pRT hh862).trans ((pNT hh857 (pN_n hh857 z856 e1375)).trans e1375))
        have e1377 : Tg h874 n216 = 112100 := ((pRT hh873).trans ((pNT hh868 (pN_n hh868 z867 e1376)).trans e1376))
        have e1378 : Tg h885 n216 = 112100 := ((pRT hh884).trans ((pNT hh879 (pN_n hh879 z878 e1377)).trans e1377))
        have e1379 : Tg h915 n216 = 112100 := ((pIT hh914).trans ((pIT hh910).trans (fxT F904 ((pRT hh895).trans ((pNT hh890 (pN_n hh890 z889 e1378)).trans e1378)))))
        have e1380 : Rv h915 a0 13 = n227 := ((pIR hh914).trans ((pIR hh910).trans ((fxR F904 e917 rfl).trans ((pR_j hh895 (by decide)).trans ((pNR hh890 (pN_n hh890 z889 e893)).trans ((pR_j hh884 (by decide)).trans ((pNR hh879 (pN_n hh879 z878 e882)).trans ((pR_j hh873 (by decide)).trans ((pNR hh868 (pN_n hh868 z867 e871)).trans ((pR_j hh862 (by decide)).trans ((pNR hh857 (pN_n hh857 z856 e860)).trans ((pR_j hh851 (by decide)).trans ((pNR hh846 (pN_n hh846 z845 e849)).trans ((pR_j hh840 (by decide)).trans ((pNR hh835 (pN_n hh835 z834 e838)).trans ((pR_j hh829 (by decide)).trans ((pNR hh824 (pN_n hh824 z823 e827)).trans ((pR_j hh818 (by decide)).trans ((pNR hh813 (pN_n hh813 z812 e816)).trans ((pR_j hh807 (by decide)).trans ((pNR hh802 (pN_n hh802 z801 e805)).trans ((pR_j hh796 (by decide)).trans ((pNR hh791 (pN_n hh791 z790 e794)).trans ((pR_j hh785 (by decide)).trans ((pNR hh780 (pN_n hh780 z779 e783)).trans ((pR_j hh774 (by decide)).trans ((pNR hh769 (pN_n hh769 z768 e772)).trans ((pR_j hh763 (by decide)).trans ((pNR hh758 (pN_n hh758 z757 e761)).trans ((pR_j hh752 (by decide)).trans ((pNR hh747 (pN_n hh747 z746 e750)).trans ((pR_j hh741 (by decide)).trans ((pNR hh736 (pN_n hh736 z735 e739)).trans ((pR_j hh730 (by decide)).trans ((pNR hh725 (pN_n hh725 z724 e728)).trans ((pR_j hh719 (by decide)).trans ((pNR hh714 (pN_n hh714 z713 e717)).trans ((pR_j hh708 (by decide)).trans ((pNR hh703 (pN_n hh703 z702 e706)).trans ((pR_j hh697 (by decide)).trans ((pNR hh692 (pN_n hh692 z691 e695)).trans ((pR_j hh686 (by decide)).trans ((pNR hh681 (pN_n hh681 z680 e684)).trans ((pR_j hh675 (by decide)).trans ((pNR hh670 (pN_n hh670 z669 e673)).trans ((pR_j hh664 (by decide)).trans ((pNR hh659 (pN_n hh659 z658 e662)).trans ((pR_j hh653 (by decide)).trans ((pNR hh648 (pN_n hh648 z647 e651)).trans ((pR_j hh642 (by decide)).trans ((pNR hh637 (pN_n hh637 z636 e640)).trans ((pR_j hh631 (by decide)).trans ((pNR hh626 (pN_n hh626 z625 e629)).trans ((pR_j hh620 (by decide)).trans ((pNR hh615 (pN_n hh615 z614 e618)).trans ((pR_j hh609 (by decide)).trans ((pNR hh604 (pN_n hh604 z603 e607)).trans ((pR_j hh598 (by decide)).trans ((pNR hh593 (pN_n hh593 z592 e596)).trans ((pR_j hh587 (by decide)).trans ((pNR hh582 (pN_n hh582 z581 e585)).trans ((pR_j hh576 (by decide)).trans ((pNR hh571 (pN_n hh571 z570 e574)).trans ((pR_j hh565 (by decide)).trans ((pNR hh560 (pN_n hh560 z559 e563)).trans ((pR_j hh554 (by decide)).trans ((pNR hh549 (pN_n hh549 z548 e552)).trans ((pR_j hh543 (by decide)).trans ((pNR hh538 (pN_n hh538 z537 e541)).trans ((pR_j hh532 (by decide)).trans ((pNR hh527 (pN_n hh527 z526 e530)).trans ((pR_j hh521 (by decide)).trans ((pNR hh516 (pN_n hh516 z515 e519)).trans ((pR_j hh510 (by decide)).trans ((pNR hh505 (pN_n hh505 z504 e508)).trans ((pR_j hh499 (by decide)).trans ((pNR hh494 (pN_n hh494 z493 e497)).trans ((pR_j hh488 (by decide)).trans ((pNR hh483 (pN_n hh483 z482 e486)).trans ((pR_j hh477 (by decide)).trans ((pNR hh472 (pN_n hh472 z471 e475)).trans ((pR_j hh466 (by decide)).trans ((pNR hh461 (pN_n hh461 z460 e464)).trans ((pR_j hh455 (by decide)).trans ((pNR hh450 (pN_n hh450 z449 e453)).trans ((pR_j hh444 (by decide)).trans ((pNR hh439 (pN_n hh439 z438 e442)).trans ((pR_j hh433 (by decide)).trans ((pNR hh428 (pN_n hh428 z427 e431)).trans ((pR_j hh422 (by decide)).trans ((pNR hh417 (pN_n hh417 z416 e420)).trans ((pR_j hh411 (by decide)).trans ((pNR hh406 (pN_n hh406 z405 e409)).trans ((pR_j hh400 (by decide)).trans ((pNR hh395 (pN_n hh395 z394 e398)).trans ((pR_j hh389 (by decide)).trans ((pNR hh384 (pN_n hh384 z383 e387)).trans ((pR_j hh378 (by decide)).trans ((pNR hh373 (pN_n hh373 z372 e376)).trans ((pR_j hh367 (by decide)).trans ((pNR hh362 (pN_n hh362 z361 e365)).trans ((pR_j hh356 (by decide)).trans ((pNR hh351 (pN_n hh351 z350 e354)).trans ((pR_j hh345 (by decide)).trans ((pNR hh340 (pN_n hh340 z339 e343)).trans ((pR_j hh334 (by decide)).trans ((pNR hh329 (pN_n hh329 z328 e332)).trans ((pR_j hh323 (by decide)).trans ((pNR hh318 (pN_n hh318 z317 e321)).trans ((pR_j hh312 (by decide)).trans ((pNR hh307 (pN_n hh307 z306 e310)).trans ((pR_j hh301 (by decide)).trans ((pNR hh296 (pN_n hh296 z295 e299)).trans ((pR_j hh290 (by decide)).trans ((pNR hh285 (pN_n hh285 z284 e288)).trans ((pR_j hh279 (by decide)).trans ((pNR hh274 (pN_n hh274 z273 e277)).trans ((pR_j hh268 (by decide)).trans ((pNR hh263 (pN_n hh263 z262 e266)).trans ((pR_j hh257 (by decide)).trans ((pNR hh252 (pN_n hh252 z251 e255)).trans ((pR_j hh246 (by decide)).trans ((pNR hh241 (pN_n hh241 z240 e244)).trans (pR_e hh235))))))))))))))))))))))))))))))))))))))))))))))))))))))))))))))))))))))))))))))))))))))))))))))))))))))))))))))))))))))))))))
        have e1381 : Tg h236 n227 = 113102 := ((pRT hh235).trans (pN_T hh230))
        have e1382 : Tg h247 n227 = 113102 := ((pRT hh246).trans ((pNT hh241 (pN_n hh241 z240 e1381)).trans e1381))
        have e1383 : Tg h258 n227 = 113102 := ((pRT hh257).trans ((pNT hh252 (pN_n hh252 z251 e1382)).trans e1382))
        have e1384 : Tg h269 n227 = 113102 := ((pRT hh268).trans ((pNT hh263 (pN_n hh263 z262 e1383)).trans e1383))
        have e1385 : Tg h280 n227 = 113102 := ((pRT hh279).trans ((pNT hh274 (pN_n hh274 z273 e1384)).trans e1384))
        have e1386 : Tg h291 n227 = 113102 := ((pRT hh290).trans ((pNT hh285 (pN_n hh285 z284 e1385)).trans e1385))
        have e1387 : Tg h302 n227 = 113102 := ((pRT hh301).trans ((pNT hh296 (pN_n hh296 z295 e1386)).trans e1386))
        have e1388 : Tg h313 n227 = 113102 := ((pRT hh312).trans ((pNT hh307 (pN_n hh307 z306 e1387)).trans e1387))
        have e1389 : Tg h324 n227 = 113102 := ((pRT hh323).trans ((pNT hh318 (pN_n hh318 z317 e1388)).trans e1388))
        have e1390 : Tg h335 n227 = 113102 := ((pRT hh334).trans ((pNT hh329 (pN_n hh329 z328 e1389)).trans e1389))
        have e1391 : Tg h346 n227 = 113102 := ((pRT hh345).trans ((pNT hh340 (pN_n hh340 z339 e1390)).trans e1390))
        have e1392 : Tg h357 n227 = 113102 := ((pRT hh356).trans ((pNT hh351 (pN_n hh351 z350 e1391)).trans e1391))
        have e1393 : Tg h368 n227 = 113102 := ((pRT hh367).trans ((pNT hh362 (pN_n hh362 z361 e1392)).trans e1392))
        have e1394 : Tg h379 n227 = 113102 := ((pRT hh378).trans ((pNT hh373 (pN_n hh373 z372 e1393)).trans e1393))
        have e1395 : Tg h390 n227 = 113102 := ((pRT hh389).trans ((pNT hh384 (pN_n hh384 z383 e1394)).trans e1394))
        have e1396 : Tg h401 n227 = 113102 := ((pRT hh400).trans ((pNT hh395 (pN_n hh395 z394 e1395)).trans e1395))
        have e1397 : Tg h412 n227 = 113102 := ((pRT hh411).trans ((pNT hh406 (pN_n hh406 z405 e1396)).trans e1396))
        have e1398 : Tg h423 n227 = 113102 := ((pRT hh422).trans ((pNT hh417 (pN_n hh417 z416 e1397)).trans e1397))
        have e1399 : Tg h434 n227 = 113102 := ((pRT hh433).trans ((pNT hh428 (pN_n hh428 z427 e1398)).trans e1398))
        have e1400 : Tg h445 n227 = 113102 := ((pRT hh444).trans ((pNT hh439 (pN_n hh439 z438 e1399)).trans e1399))
        have e1401 : Tg h456 n227 = 113102 := ((pRT hh455).trans ((pNT hh450 (pN_n hh450 z449 e1400)).trans e1400))
        have e1402 : Tg h467 n227 = 113102 := ((pRT hh466).trans ((pNT hh461 (pN_n hh461 z460 e1401)).trans e1401))
        have e1403 : Tg h478 n227 = 113102 := ((pRT hh477).trans ((pNT hh472 (pN_n hh472 z471 e1402)).trans e1402))
        have e1404 : Tg h489 n227 = 113102 := ((pRT hh488).trans ((pNT hh483 (pN_n hh483 z482 e1403)).trans e1403))
        have e1405 : Tg h500 n227 = 113102 := ((pRT hh499).trans ((pNT hh494 (pN_n hh494 z493 e1404)).trans e1404))
        have e1406 : Tg h511 n227 = 113102 := ((pRT hh510).trans ((pNT hh505 (pN_n hh505 z504 e1405)).trans e1405))
        have e1407 : Tg h522 n227 = 113102 := ((pRT hh521).trans ((pNT hh516 (pN_n hh516 z515 e1406)).trans e1406))
        have e1408 : Tg h533 n227 = 113102 := ((pRT hh532).trans ((pNT hh527 (pN_n hh527 z526 e1407)).trans e1407))
        have e1409 : Tg h544 n227 = 113102 := ((pRT hh543).trans ((pNT hh538 (pN_n hh538 z537 e1408)).trans e1408))
        have e1410 : Tg h555 n227 = 113102 := ((pRT hh554).trans ((pNT hh549 (pN_n hh549 z548 e1409)).trans e1409))
        have e1411 : Tg h566 n227 = 113102 := ((pRT hh565).trans ((pNT hh560 (pN_n hh560 z559 e1410)).trans e1410))
        have e1412 : Tg h577 n227 = 113102 := ((pRT hh576).trans ((pNT hh571 (pN_n hh571 z570 e1411)).trans e1411))
        have e1413 : Tg h588 n227 = 113102 := ((pRT hh587).trans ((pNT hh582 (pN_n hh582 z581 e1412)).trans e1412))
        have e1414 : Tg h599 n227 = 113102 := ((pRT hh598).trans ((pNT hh593 (pN_n hh593 z592 e1413)).trans e1413))
        have e1415 : Tg h610 n227 = 113102 := ((pRT hh609).trans ((pNT hh604 (pN_n hh604 z603 e1414)).trans e1414))
        have e1416 : Tg h621 n227 = 113102 := ((pRT hh620).trans ((pNT hh615 (pN_n hh615 z614 e1415)).trans e1415))
        have e1417 : Tg h632 n227 = 113102 := ((pRT hh631).trans ((pNT hh626 (pN_n hh626 z625 e1416)).trans e1416))
        have e1418 : Tg h643 n227 = 113102 := ((pRT hh642).trans ((pNT hh637 (pN_n hh637 z636 e1417)).trans e1417))
        have e1419 : Tg h654 n227 = 113102 := ((pRT hh653).trans ((pNT hh648 (pN_n hh648 z647 e1418)).trans e1418))
        have e1420 : Tg h665 n227 = 113102 := ((pRT hh664).trans ((pNT hh659 (pN_n hh659 z658 e1419)).trans e1419))
        have e1421 : Tg h676 n227 = 113102 := ((pRT hh675).trans ((pNT hh670 (pN_n hh670 z669 e1420)).trans e1420))
        have e1422 : Tg h687 n227 = 113102 := ((pRT hh686).trans ((pNT hh681 (pN_n hh681 z680 e1421)).trans e1421))
        have e1423 : Tg h698 n227 = 113102 := ((pRT hh697).trans ((pNT hh692 (pN_n hh692 z691 e1422)).trans e1422))
        have e1424 : Tg h709 n227 = 113102 := ((pRT hh708).trans ((pNT hh703 (pN_n hh703 z702 e1423)).trans e1423))
        have e1425 : Tg h720 n227 = 113102 := ((pRT hh719).trans ((pNT hh714 (pN_n hh714 z713 e1424)).trans e1424))
        have e1426 : Tg h731 n227 = 113102 := ((pRT hh730).trans ((pNT hh725 (pN_n hh725 z724 e1425)).trans e1425))
        have e1427 : Tg h742 n227 = 113102 := ((pRT hh741).trans ((pNT hh736 (pN_n hh736 z735 e1426)).trans e1426))
        have e1428 : Tg h753 n227 = 113102 := ((pRT hh752).trans ((pNT hh747 (pN_n hh747 z746 e1427)).trans e1427))
        have e1429 : Tg h764 n227 = 113102 := ((pRT hh763).trans ((pNT hh758 (pN_n hh758 z757 e1428)).trans e1428))
        have e1430 : Tg h775 n227 = 113102 := ((pRT hh774).trans ((pNT hh769 (pN_n hh769 z768 e1429)).trans e1429))
        have e1431 : Tg h786 n227 = 113102 := ((pRT hh785).trans ((pNT hh780 (pN_n hh780 z779 e1430)).trans e1430))
        have e1432 : Tg h797 n227 = 113102 := ((pRT hh796).trans ((pNT hh791 (pN_n hh791 z790 e1431)).trans e1431))
        have e1433 : Tg h808 n227 = 113102 := ((pRT hh807).trans ((pNT hh802 (pN_n hh802 z801 e1432)).trans e1432))
        have e1434 : Tg h819 n227 = 113102 := ((pRT hh818).trans ((pNT hh813 (pN_n hh813 z812 e1433)).trans e1433))
        have e1435 : Tg h830 n227 = 113102 := ((pRT hh829).trans ((pNT hh824 (pN_n hh824 z823 e1434)).trans e1434))
        have e1436 : Tg h841 n227 = 113102 := ((pRT hh840).trans ((pNT hh835 (pN_n hh835 z834 e1435)).trans e1435))
        have e1437 : Tg h852 n227 = 113102 := ((pRT hh851).trans ((pNT hh846 (pN_n hh846 z845 e1436)).trans e1436))
        have e1438 : Tg h863 n227 = 113102 := ((pRT hh862).trans ((pNT hh857 (pN_n hh857 z856 e1437)).trans e1437))
        have e1439 : Tg h874 n227 = 113102 := ((pRT hh873).trans ((pNT hh868 (pN_n hh868 z867 e1438)).trans e1438))
        have e1440 : Tg h885 n227 = 113102 := ((pRT hh884).trans ((pNT hh879 (pN_n hh879 z878 e1439)).trans e1439))
        have e1441 : Tg h915 n227 = 113102 := ((pIT hh914).trans ((pIT hh910).trans (fxT F904 ((pRT hh895).trans ((pNT hh890 (pN_n hh890 z889 e1440)).trans e1440)))))
        have e1442 : Rv h915 a0 14 = n238 := ((pIR hh914).trans ((pIR hh910).trans ((fxR F904 e917 rfl).trans ((pR_j hh895 (by decide)).trans ((pNR hh890 (pN_n hh890 z889 e893)).trans ((pR_j hh884 (by decide)).trans ((pNR hh879 (pN_n hh879 z878 e882)).trans ((pR_j hh873 (by decide)).trans ((pNR hh868 (pN_n hh868 z867 e871)).trans ((pR_j hh862 (by decide)).trans ((pNR hh857 (pN_n hh857 z856 e860)).trans ((pR_j hh851 (by decide)).trans ((pNR hh846 (pN_n hh846 z845 e849)).trans ((pR_j hh840 (by decide)).trans ((pNR hh835 (pN_n hh835 z834 e838)).trans ((pR_j hh829 (by decide)).trans ((pNR hh824 (pN_n hh824 z823 e827)).trans ((pR_j hh818 (by decide)).trans ((pNR hh813 (pN_n hh813 z812 e816)).trans ((pR_j hh807 (by decide)).trans ((pNR hh802 (pN_n hh802 z801 e805)).trans ((pR_j hh796 (by decide)).trans ((pNR hh791 (pN_n hh791 z790 e794)).trans ((pR_j hh785 (by decide)).trans ((pNR hh780 (pN_n hh780 z779 e783)).trans ((pR_j hh774 (by decide)).trans ((pNR hh769 (pN_n hh769 z768 e772)).trans ((pR_j hh763 (by decide)).trans ((pNR hh758 (pN_n hh758 z757 e761)).trans ((pR_j hh752 (by decide)).trans ((pNR hh747 (pN_n hh747 z746 e750)).trans ((pR_j hh741 (by decide)).trans ((pNR hh736 (pN_n hh736 z735 e739)).trans ((pR_j hh730 (by decide)).trans ((pNR hh725 (pN_n hh725 z724 e728)).trans ((pR_j hh719 (by decide)).trans ((pNR hh714 (pN_n hh714 z713 e717)).trans ((pR_j hh708 (by decide)).trans ((pNR hh703 (pN_n hh703 z702 e706)).trans ((pR_j hh697 (by decide)).trans ((pNR hh692 (pN_n hh692 z691 e695)).trans ((pR_j hh686 (by decide)).trans ((pNR hh681 (pN_n hh681 z680 e684)).trans ((pR_j hh675 (by decide)).trans ((pNR hh670 (pN_n hh670 z669 e673)).trans ((pR_j hh664 (by decide)).trans ((pNR hh659 (pN_n hh659 z658 e662)).trans ((pR_j hh653 (by decide)).trans ((pNR hh648 (pN_n hh648 z647 e651)).trans ((pR_j hh642 (by decide)).trans ((pNR hh637 (pN_n hh637 z636 e640)).trans ((pR_j hh631 (by decide)).trans ((pNR hh626 (pN_n hh626 z625 e629)).trans ((pR_j hh620 (by decide)).trans ((pNR hh615 (pN_n hh615 z614 e618)).trans ((pR_j hh609 (by decide)).trans ((pNR hh604 (pN_n hh604 z603 e607)).trans ((pR_j hh598 (by decide)).trans ((pNR hh593 (pN_n hh593 z592 e596)).trans ((pR_j hh587 (by decide)).trans ((pNR hh582 (pN_n hh582 z581 e585)).trans ((pR_j hh576 (by decide)).trans ((pNR hh571 (pN_n hh571 z570 e574)).trans ((pR_j hh565 (by decide)).trans ((pNR hh560 (pN_n hh560 z559 e563)).trans ((pR_j hh554 (by decide)).trans ((pNR hh549 (pN_n hh549 z548 e552)).trans ((pR_j hh543 (by decide)).trans ((pNR hh538 (pN_n hh538 z537 e541)).trans ((pR_j hh532 (by decide)).trans ((pNR hh527 (pN_n hh527 z526 e530)).trans ((pR_j hh521 (by decide)).trans ((pNR hh516 (pN_n hh516 z515 e519)).trans ((pR_j hh510 (by decide)).trans ((pNR hh505 (pN_n hh505 z504 e508)).trans ((pR_j hh499 (by decide)).trans ((pNR hh494 (pN_n hh494 z493 e497)).trans ((pR_j hh488 (by decide)).trans ((pNR hh483 (pN_n hh483 z482 e486)).trans ((pR_j hh477 (by decide)).trans ((pNR hh472 (pN_n hh472 z471 e475)).trans ((pR_j hh466 (by decide)).trans ((pNR hh461 (pN_n hh461 z460 e464)).trans ((pR_j hh455 (by decide)).trans ((pNR hh450 (pN_n hh450 z449 e453)).trans ((pR_j hh444 (by decide)).trans ((pNR hh439 (pN_n hh439 z438 e442)).trans ((pR_j hh433 (by decide)).trans ((pNR hh428 (pN_n hh428 z427 e431)).trans ((pR_j hh422 (by decide)).trans ((pNR hh417 (pN_n hh417 z416 e420)).trans ((pR_j hh411 (by decide)).trans ((pNR hh406 (pN_n hh406 z405 e409)).trans ((pR_j hh400 (by decide)).trans ((pNR hh395 (pN_n hh395 z394 e398)).trans ((pR_j hh389 (by decide)).trans ((pNR hh384 (pN_n hh384 z383 e387)).trans ((pR_j hh378 (by decide)).trans ((pNR hh373 (pN_n hh373 z372 e376)).trans ((pR_j hh367 (by decide)).trans ((pNR hh362 (pN_n hh362 z361 e365)).trans ((pR_j hh356 (by decide)).trans ((pNR hh351 (pN_n hh351 z350 e354)).trans ((pR_j hh345 (by decide)).trans ((pNR hh340 (pN_n hh340 z339 e343)).trans ((pR_j hh334 (by decide)).trans ((pNR hh329 (pN_n hh329 z328 e332)).trans ((pR_j hh323 (by decide)).trans ((pNR hh318 (pN_n hh318 z317 e321)).trans ((pR_j hh312 (by decide)).trans ((pNR hh307 (pN_n hh307 z306 e310)).trans ((pR_j hh301 (by decide)).trans ((pNR hh296 (pN_n hh296 z295 e299)).trans ((pR_j hh290 (by decide)).trans ((pNR hh285 (pN_n hh285 z284 e288)).trans ((pR_j hh279 (by decide)).trans ((pNR hh274 (pN_n hh274 z273 e277)).trans ((pR_j hh268 (by decide)).trans ((pNR hh263 (pN_n hh263 z262 e266)).trans ((pR_j hh257 (by decide)).trans ((pNR hh252 (pN_n hh252 z251 e255)).trans (pR_e hh246))))))))))))))))))))))))))))))))))))))))))))))))))))))))))))))))))))))))))))))))))))))))))))))))))))))))))))))))))))))))))
        have e1443 : Tg h247 n238 = 114100 := ((pRT hh246).trans (pN_T hh241))
        have e1444 : Tg h258 n238 = 114100 := ((pRT hh257).trans ((pNT hh252 (pN_n hh252 z251 e1443)).trans e1443))
        have e1445 : Tg h269 n238 = 114100 := ((pRT hh268).trans ((pNT hh263 (pN_n hh263 z262 e1444)).trans e1444))
        have e1446 : Tg h280 n238 = 114100 := ((pRT hh279).trans ((pNT hh274 (pN_n hh274 z273 e1445)).trans e1445))
        have e1447 : Tg h291 n238 = 114100 := ((pRT hh290).trans ((pNT hh285 (pN_n hh285 z284 e1446)).trans e1446))
        have e1448 : Tg h302 n238 = 114100 := ((pRT hh301).trans ((pNT hh296 (pN_n hh296 z295 e1447)).trans e1447))
        have e1449 : Tg h313 n238 = 114100 := ((pRT hh312).trans ((pNT hh307 (pN_n hh307 z306 e1448)).trans e1448))
        have e1450 : Tg h324 n238 = 114100 := ((pRT hh323).trans ((pNT hh318 (pN_n hh318 z317 e1449)).trans e1449))
        have e1451 : Tg h335 n238 = 114100 := ((pRT hh334).trans ((pNT hh329 (pN_n hh329 z328 e1450)).trans e1450))
        have e1452 : Tg h346 n238 = 114100 := ((pRT hh345).trans ((pNT hh340 (pN_n hh340 z339 e1451)).trans e1451))
        have e1453 : Tg h357 n238 = 114100 := ((pRT hh356).trans ((pNT hh351 (pN_n hh351 z350 e1452)).trans e1452))
        have e1454 : Tg h368 n238 = 114100 := ((pRT hh367).trans ((pNT hh362 (pN_n hh362 z361 e1453)).trans e1453))
        have e1455 : Tg h379 n238 = 114100 := ((pRT hh378).trans ((pNT hh373 (pN_n hh373 z372 e1454)).trans e1454))
        have e1456 : Tg h390 n238 = 114100 := ((pRT hh389).trans ((pNT hh384 (pN_n hh384 z383 e1455)).trans e1455))
        have e1457 : Tg h401 n238 = 114100 := ((pRT hh400).trans ((pNT hh395 (pN_n hh395 z394 e1456)).trans e1456))
        have e1458 : Tg h412 n238 = 114100 := ((pRT hh411).trans ((pNT hh406 (pN_n hh406 z405 e1457)).trans e1457))
        have e1459 : Tg h423 n238 = 114100 := ((pRT hh422).trans ((pNT hh417 (pN_n hh417 z416 e1458)).trans e1458))
        have e1460 : Tg h434 n238 = 114100 := ((pRT hh433).trans ((pNT hh428 (pN_n hh428 z427 e1459)).trans e1459))
        have e1461 : Tg h445 n238 = 114100 := ((pRT hh444).trans ((pNT hh439 (pN_n hh439 z438 e1460)).trans e1460))
        have e1462 : Tg h456 n238 = 114100 := ((pRT hh455).trans ((pNT hh450 (pN_n hh450 z449 e1461)).trans e1461))
        have e1463 : Tg h467 n238 = 114100 := ((pRT hh466).trans ((pNT hh461 (pN_n hh461 z460 e1462)).trans e1462))
        have e1464 : Tg h478 n238 = 114100 := ((pRT hh477).trans ((pNT hh472 (pN_n hh472 z471 e1463)).trans e1463))
        have e1465 : Tg h489 n238 = 114100 := ((pRT hh488).trans ((pNT hh483 (pN_n hh483 z482 e1464)).trans e1464))
        have e1466 : Tg h500 n238 = 114100 := ((pRT hh499).trans ((pNT hh494 (pN_n hh494 z493 e1465)).trans e1465))
        have e1467 : Tg h511 n238 = 114100 := ((pRT hh510).trans ((pNT hh505 (pN_n hh505 z504 e1466)).trans e1466))
        have e1468 : Tg h522 n238 = 114100 := ((pRT hh521).trans ((pNT hh516 (pN_n hh516 z515 e1467)).trans e1467))
        have e1469 : Tg h533 n238 = 114100 := ((pRT hh532).trans ((pNT hh527 (pN_n hh527 z526 e1468)).trans e1468))
        have e1470 : Tg h544 n238 = 114100 := ((pRT hh543).trans ((pNT hh538 (pN_n hh538 z537 e1469)).trans e1469))
        have e1471 : Tg h555 n238 = 114100 := ((pRT hh554).trans ((pNT hh549 (pN_n hh549 z548 e1470)).trans e1470))
        have e1472 : Tg h566 n238 = 114100 := ((pRT hh565).trans ((pNT hh560 (pN_n hh560 z559 e1471)).trans e1471))
        have e1473 : Tg h577 n238 = 114100 := ((pRT hh576).trans ((pNT hh571 (pN_n hh571 z570 e1472)).trans e1472))
        have e1474 : Tg h588 n238 = 114100 := ((pRT hh587).trans ((pNT hh582 (pN_n hh582 z581 e1473)).trans e1473))
        have e1475 : Tg h599 n238 = 114100 := ((pRT hh598).trans ((pNT hh593 (pN_n hh593 z592 e1474)).trans e1474))
        have e1476 : Tg h610 n238 = 114100 := ((pRT hh609).trans ((pNT hh604 (pN_n hh604 z603 e1475)).trans e1475))
        have e1477 : Tg h621 n238 = 114100 := ((pRT hh620).trans ((pNT hh615 (pN_n hh615 z614 e1476)).trans e1476))
        have e1478 : Tg h632 n238 = 114100 := ((pRT hh631).trans ((pNT hh626 (pN_n hh626 z625 e1477)).trans e1477))
        have e1479 : Tg h643 n238 = 114100 := ((pRT hh642).trans ((pNT hh637 (pN_n hh637 z636 e1478)).trans e1478))
        have e1480 : Tg h654 n238 = 114100 := ((pRT hh653).trans ((pNT hh648 (pN_n hh648 z647 e1479)).trans e1479))
        have e1481 : Tg h665 n238 = 114100 := ((pRT hh664).trans ((pNT hh659 (pN_n hh659 z658 e1480)).trans e1480))
        have e1482 : Tg h676 n238 = 114100 := ((pRT hh675).trans ((pNT hh670 (pN_n hh670 z669 e1481)).trans e1481))
        have e1483 : Tg h687 n238 = 114100 := ((pRT hh686).trans ((pNT hh681 (pN_n hh681 z680 e1482)).trans e1482))
        have e1484 : Tg h698 n238 = 114100 := ((pRT hh697).trans ((pNT hh692 (pN_n hh692 z691 e1483)).trans e1483))
        have e1485 : Tg h709 n238 = 114100 := ((pRT hh708).trans ((pNT hh703 (pN_n hh703 z702 e1484)).trans e1484))
        have e1486 : Tg h720 n238 = 114100 := ((pRT hh719).trans ((pNT hh714 (pN_n hh714 z713 e1485)).trans e1485))
        have e1487 : Tg h731 n238 = 114100 := ((pRT hh730).trans ((pNT hh725 (pN_n hh725 z724 e1486)).trans e1486))
        have e1488 : Tg h742 n238 = 114100 := ((pRT hh741).trans ((pNT hh736 (pN_n hh736 z735 e1487)).trans e1487))
        have e1489 : Tg h753 n238 = 114100 := ((pRT hh752).trans ((pNT hh747 (pN_n hh747 z746 e1488)).trans e1488))
        have e1490 : Tg h764 n238 = 114100 := ((pRT hh763).trans ((pNT hh758 (pN_n hh758 z757 e1489)).trans e1489))
        have e1491 : Tg h775 n238 = 114100 := ((pRT hh774).trans ((pNT hh769 (pN_n hh769 z768 e1490)).trans e1490))
        have e1492 : Tg h786 n238 = 114100 := ((pRT hh785).trans ((pNT hh780 (pN_n hh780 z779 e1491)).trans e1491))
        have e1493 : Tg h797 n238 = 114100 := ((pRT hh796).trans ((pNT hh791 (pN_n hh791 z790 e1492)).trans e1492))
        have e1494 : Tg h808 n238 = 114100 := ((pRT hh807).trans ((pNT hh802 (pN_n hh802 z801 e1493)).trans e1493))
        have e1495 : Tg h819 n238 = 114100 := ((pRT hh818).trans ((pNT hh813 (pN_n hh813 z812 e1494)).trans e1494))
        have e1496 : Tg h830 n238 = 114100 := ((pRT hh829).trans ((pNT hh824 (pN_n hh824 z823 e1495)).trans e1495))
        have e1497 : Tg h841 n238 = 114100 := ((pRT hh840).trans ((pNT hh835 (pN_n hh835 z834 e1496)).trans e1496))
        have e1498 : Tg h852 n238 = 114100 := ((pRT hh851).trans ((pNT hh846 (pN_n hh846 z845 e1497)).trans e1497))
        have e1499 : Tg h863 n238 = 114100 := ((pRT hh862).trans ((pNT hh857 (pN_n hh857 z856 e1498)).trans e1498))
        have e1500 : Tg h874 n238 = 114100 := ((pRT hh873).trans ((pNT hh868 (pN_n hh868 z867 e1499)).trans e1499))
        have e1501 : Tg h885 n238 = 114100 := ((pRT hh884).trans ((pNT hh879 (pN_n hh879 z878 e1500)).trans e1500))
        have e1502 : Tg h915 n238 = 114100 := ((pIT hh914).trans ((pIT hh910).trans (fxT F904 ((pRT hh895).trans ((pNT hh890 (pN_n hh890 z889 e1501)).trans e1501)))))
        have e1503 : Rv h915 a0 15 = n249 := ((pIR hh914).trans ((pIR hh910).trans ((fxR F904 e917 rfl).trans ((pR_j hh895 (by decide)).trans ((pNR hh890 (pN_n hh890 z889 e893)).trans ((pR_j hh884 (by decide)).trans ((pNR hh879 (pN_n hh879 z878 e882)).trans ((pR_j hh873 (by decide)).trans ((pNR hh868 (pN_n hh868 z867 e871)).trans ((pR_j hh862 (by decide)).trans ((pNR hh857 (pN_n hh857 z856 e860)).trans ((pR_j hh851 (by decide)).trans ((pNR hh846 (pN_n hh846 z845 e849)).trans ((pR_j hh840 (by decide)).trans ((pNR hh835 (pN_n hh835 z834 e838)).trans ((pR_j hh829 (by decide)).trans ((pNR hh824 (pN_n hh824 z823 e827)).trans ((pR_j hh818 (by decide)).trans ((pNR hh813 (pN_n hh813 z812 e816)).trans ((pR_j hh807 (by decide)).trans ((pNR hh802 (pN_n hh802 z801 e805)).trans ((pR_j hh796 (by decide)).trans ((pNR hh791 (pN_n hh791 z790 e794)).trans ((pR_j hh785 (by decide)).trans ((pNR hh780 (pN_n hh780 z779 e783)).trans ((pR_j hh774 (by decide)).trans ((pNR hh769 (pN_n hh769 z768 e772)).trans ((pR_j hh763 (by decide)).trans ((pNR hh758 (pN_n hh758 z757 e761)).trans ((pR_j hh752 (by decide)).trans ((pNR hh747 (pN_n hh747 z746 e750)).trans ((pR_j hh741 (by decide)).trans ((pNR hh736 (pN_n hh736 z735 e739)).trans ((pR_j hh730 (by decide)).trans ((pNR hh725 (pN_n hh725 z724 e728)).trans ((pR_j hh719 (by decide)).trans ((pNR hh714 (pN_n hh714 z713 e717)).trans ((pR_j hh708 (by decide)).trans ((pNR hh703 (pN_n hh703 z702 e706)).trans ((pR_j hh697 (by decide)).trans ((pNR hh692 (pN_n hh692 z691 e695)).trans ((pR_j hh686 (by decide)).trans ((pNR hh681 (pN_n hh681 z680 e684)).trans ((pR_j hh675 (by decide)).trans ((pNR hh670 (pN_n hh670 z669 e673)).trans ((pR_j hh664 (by decide)).trans ((pNR hh659 (pN_n hh659 z658 e662)).trans ((pR_j hh653 (by decide)).trans ((pNR hh648 (pN_n hh648 z647 e651)).trans ((pR_j hh642 (by decide)).trans ((pNR hh637 (pN_n hh637 z636 e640)).trans ((pR_j hh631 (by decide)).trans ((pNR hh626 (pN_n hh626 z625 e629)).trans ((pR_j hh620 (by decide)).trans ((pNR hh615 (pN_n hh615 z614 e618)).trans ((pR_j hh609 (by decide)).trans ((pNR hh604 (pN_n hh604 z603 e607)).trans ((pR_j hh598 (by decide)).trans ((pNR hh593 (pN_n hh593 z592 e596)).trans ((pR_j hh587 (by decide)).trans ((pNR hh582 (pN_n hh582 z581 e585)).trans ((pR_j hh576 (by decide)).trans ((pNR hh571 (pN_n hh571 z570 e574)).trans ((pR_j hh565 (by decide)).trans ((pNR hh560 (pN_n hh560 z559 e563)).trans ((pR_j hh554 (by decide)).trans ((pNR hh549 (pN_n hh549 z548 e552)).trans ((pR_j hh543 (by decide)).trans ((pNR hh538 (pN_n hh538 z537 e541)).trans ((pR_j hh532 (by decide)).trans ((pNR hh527 (pN_n hh527 z526 e530)).trans ((pR_j hh521 (by decide)).trans ((pNR hh516 (pN_n hh516 z515 e519)).trans ((pR_j hh510 (by decide)).trans ((pNR hh505 (pN_n hh505 z504 e508)).trans ((pR_j hh499 (by decide)).trans ((pNR hh494 (pN_n hh494 z493 e497)).trans ((pR_j hh488 (by decide)).trans ((pNR hh483 (pN_n hh483 z482 e486)).trans ((pR_j hh477 (by decide)).trans ((pNR hh472 (pN_n hh472 z471 e475)).trans ((pR_j hh466 (by decide)).trans ((pNR hh461 (pN_n hh461 z460 e464)).trans ((pR_j hh455 (by decide)).trans ((pNR hh450 (pN_n hh450 z449 e453)).trans ((pR_j hh444 (by decide)).trans ((pNR hh439 (pN_n hh439 z438 e442)).trans ((pR_j hh433 (by decide)).trans ((pNR hh428 (pN_n hh428 z427 e431)).trans ((pR_j hh422 (by decide)).trans ((pNR hh417 (pN_n hh417 z416 e420)).trans ((pR_j hh411 (by decide)).trans ((pNR hh406 (pN_n hh406 z405 e409)).trans ((pR_j hh400 (by decide)).trans ((pNR hh395 (pN_n hh395 z394 e398)).trans ((pR_j hh389 (by decide)).trans ((pNR hh384 (pN_n hh384 z383 e387)).trans ((pR_j hh378 (by decide)).trans ((pNR hh373 (pN_n hh373 z372 e376)).trans ((pR_j hh367 (by decide)).trans ((pNR hh362 (pN_n hh362 z361 e365)).trans ((pR_j hh356 (by decide)).trans ((pNR hh351 (pN_n hh351 z350 e354)).trans ((pR_j hh345 (by decide)).trans ((pNR hh340 (pN_n hh340 z339 e343)).trans ((pR_j hh334 (by decide)).trans ((pNR hh329 (pN_n hh329 z328 e332)).trans ((pR_j hh323 (by decide)).trans ((pNR hh318 (pN_n hh318 z317 e321)).trans ((pR_j hh312 (by decide)).trans ((pNR hh307 (pN_n hh307 z306 e310)).trans ((pR_j hh301 (by decide)).trans ((pNR hh296 (pN_n hh296 z295 e299)).trans ((pR_j hh290 (by decide)).trans ((pNR hh285 (pN_n hh285 z284 e288)).trans ((pR_j hh279 (by decide)).trans ((pNR hh274 (pN_n hh274 z273 e277)).trans ((pR_j hh268 (by decide)).trans ((pNR hh263 (pN_n hh263 z262 e266)).trans (pR_e hh257))))))))))))))))))))))))))))))))))))))))))))))))))))))))))))))))))))))))))))))))))))))))))))))))))))))))))))))))))))))))
        have e1504 : Tg h258 n249 = 115100 := ((pRT hh257).trans (pN_T hh252))
        have e1505 : Tg h269 n249 = 115100 := ((pRT hh268).trans ((pNT hh263 (pN_n hh263 z262 e1504)).trans e1504))
        have e1506 : Tg h280 n249 = 115100 := ((pRT hh279).trans ((pNT hh274 (pN_n hh274 z273 e1505)).trans e1505))
        have e1507 : Tg h291 n249 = 115100 := ((pRT hh290).trans ((pNT hh285 (pN_n hh285 z284 e1506)).trans e1506))
        have e1508 : Tg h302 n249 = 115100 := ((pRT hh301).trans ((pNT hh296 (pN_n hh296 z295 e1507)).trans e1507))
        have e1509 : Tg h313 n249 = 115100 := ((pRT hh312).trans ((pNT hh307 (pN_n hh307 z306 e1508)).trans e1508))
        have e1510 : Tg h324 n249 = 115100 := ((pRT hh323).trans ((pNT hh318 (pN_n hh318 z317 e1509)).trans e1509))
        have e1511 : Tg h335 n249 = 115100 := ((pRT hh334).trans ((pNT hh329 (pN_n hh329 z328 e1510)).trans e1510))
        have e1512 : Tg h346 n249 = 115100 := ((pRT hh345).trans ((pNT hh340 (pN_n hh340 z339 e1511)).trans e1511))
        have e1513 : Tg h357 n249 = 115100 := ((pRT hh356).trans ((pNT hh351 (pN_n hh351 z350 e1512)).trans e1512))
        have e1514 : Tg h368 n249 = 115100 := ((pRT hh367).trans ((pNT hh362 (pN_n hh362 z361 e1513)).trans e1513))
        have e1515 : Tg h379 n249 = 115100 := ((pRT hh378).trans ((pNT hh373 (pN_n hh373 z372 e1514)).trans e1514))
        have e1516 : Tg h390 n249 = 115100 := ((pRT hh389).trans ((pNT hh384 (pN_n hh384 z383 e1515)).trans e1515))
        have e1517 : Tg h401 n249 = 115100 := ((pRT hh400).trans ((pNT hh395 (pN_n hh395 z394 e1516)).trans e1516))
        have e1518 : Tg h412 n249 = 115100 := ((pRT hh411).trans ((pNT hh406 (pN_n hh406 z405 e1517)).trans e1517))
        have e1519 : Tg h423 n249 = 115100 := ((pRT hh422).trans ((pNT hh417 (pN_n hh417 z416 e1518)).trans e1518))
        have e1520 : Tg h434 n249 = 115100 := ((pRT hh433).trans ((pNT hh428 (pN_n hh428 z427 e1519)).trans e1519))
        have e1521 : Tg h445 n249 = 115100 := ((pRT hh444).trans ((pNT hh439 (pN_n hh439 z438 e1520)).trans e1520))
        have e1522 : Tg h456 n249 = 115100 := ((pRT hh455).trans ((pNT hh450 (pN_n hh450 z449 e1521)).trans e1521))
        have e1523 : Tg h467 n249 = 115100 := ((pRT hh466).trans ((pNT hh461 (pN_n hh461 z460 e1522)).trans e1522))
        have e1524 : Tg h478 n249 = 115100 := ((pRT hh477).trans ((pNT hh472 (pN_n hh472 z471 e1523)).trans e1523))
        have e1525 : Tg h489 n249 = 115100 := ((pRT hh488).trans ((pNT hh483 (pN_n hh483 z482 e1524)).trans e1524))
        have e1526 : Tg h500 n249 = 115100 := ((pRT hh499).trans ((pNT hh494 (pN_n hh494 z493 e1525)).trans e1525))
        have e1527 : Tg h511 n249 = 115100 := ((pRT hh510).trans ((pNT hh505 (pN_n hh505 z504 e1526)).trans e1526))
        have e1528 : Tg h522 n249 = 115100 := ((pRT hh521).trans ((pNT hh516 (pN_n hh516 z515 e1527)).trans e1527))
        have e1529 : Tg h533 n249 = 115100 := ((pRT hh532).trans ((pNT hh527 (pN_n hh527 z526 e1528)).trans e1528))
        have e1530 : Tg h544 n249 = 115100 := ((pRT hh543).trans ((pNT hh538 (pN_n hh538 z537 e1529)).trans e1529))
        have e1531 : Tg h555 n249 = 115100 := ((pRT hh554).trans ((pNT hh549 (pN_n hh549 z548 e1530)).trans e1530))
        have e1532 : Tg h566 n249 = 115100 := ((pRT hh565).trans ((pNT hh560 (pN_n hh560 z559 e1531)).trans e1531))
        have e1533 : Tg h577 n249 = 115100 := ((pRT hh576).trans ((pNT hh571 (pN_n hh571 z570 e1532)).trans e1532))
        have e1534 : Tg h588 n249 = 115100 := ((pRT hh587).trans ((pNT hh582 (pN_n hh582 z581 e1533)).trans e1533))
        have e1535 : Tg h599 n249 = 115100 := ((pRT hh598).trans ((pNT hh593 (pN_n hh593 z592 e1534)).trans e1534))
        have e1536 : Tg h610 n249 = 115100 := ((pRT hh609).trans ((pNT hh604 (pN_n hh604 z603 e1535)).trans e1535))
        have e1537 : Tg h621 n249 = 115100 := ((pRT hh620).trans ((pNT hh615 (pN_n hh615 z614 e1536)).trans e1536))
        have e1538 : Tg h632 n249 = 115100 := ((pRT hh631).trans ((pNT hh626 (pN_n hh626 z625 e1537)).trans e1537))
        have e1539 : Tg h643 n249 = 115100 := ((pRT hh642).trans ((pNT hh637 (pN_n hh637 z636 e1538)).trans e1538))
        have e1540 : Tg h654 n249 = 115100 := ((pRT hh653).trans ((pNT hh648 (pN_n hh648 z647 e1539)).trans e1539))
        have e1541 : Tg h665 n249 = 115100 := ((pRT hh664).trans ((pNT hh659 (pN_n hh659 z658 e1540)).trans e1540))
        have e1542 : Tg h676 n249 = 115100 := ((pRT hh675).trans ((pNT hh670 (pN_n hh670 z669 e1541)).trans e1541))
        have e1543 : Tg h687 n249 = 115100 := ((pRT hh686).trans ((pNT hh681 (pN_n hh681 z680 e1542)).trans e1542))
        have e1544 : Tg h698 n249 = 115100 := ((pRT hh697).trans ((pNT hh692 (pN_n hh692 z691 e1543)).trans e1543))
        have e1545 : Tg h709 n249 = 115100 := ((pRT hh708).trans ((pNT hh703 (pN_n hh703 z702 e1544)).trans e1544))
        have e1546 : Tg h720 n249 = 115100 := ((pRT hh719).trans ((pNT hh714 (pN_n hh714 z713 e1545)).trans e1545))
        have e1547 : Tg h731 n249 = 115100 := ((pRT hh730).trans ((pNT hh725 (pN_n hh725 z724 e1546)).trans e1546))
        have e1548 : Tg h742 n249 = 115100 := ((pRT hh741).trans ((pNT hh736 (pN_n hh736 z735 e1547)).trans e1547))
        have e1549 : Tg h753 n249 = 115100 := ((pRT hh752).trans ((pNT hh747 (pN_n hh747 z746 e1548)).trans e1548))
        have e1550 : Tg h764 n249 = 115100 := ((pRT hh763).trans ((pNT hh758 (pN_n hh758 z757 e1549)).trans e1549))
        have e1551 : Tg h775 n249 = 115100 := ((pRT hh774).trans ((pNT hh769 (pN_n hh769 z768 e1550)).trans e1550))
        have e1552 : Tg h786 n249 = 115100 := ((pRT hh785).trans ((pNT hh780 (pN_n hh780 z779 e1551)).trans e1551))
        have e1553 : Tg h797 n249 = 115100 := ((pRT hh796).trans ((pNT hh791 (pN_n hh791 z790 e1552)).trans e1552))
        have e1554 : Tg h808 n249 = 115100 := ((pRT hh807).trans ((pNT hh802 (pN_n hh802 z801 e1553)).trans e1553))
        have e1555 : Tg h819 n249 = 115100 := ((pRT hh818).trans ((pNT hh813 (pN_n hh813 z812 e1554)).trans e1554))
        have e1556 : Tg h830 n249 = 115100 := ((pRT hh829).trans ((pNT hh824 (pN_n hh824 z823 e1555)).trans e1555))
        have e1557 : Tg h841 n249 = 115100 := ((pRT hh840).trans ((pNT hh835 (pN_n hh835 z834 e1556)).trans e1556))
        have e1558 : Tg h852 n249 = 115100 := ((pRT hh851).trans ((pNT hh846 (pN_n hh846 z845 e1557)).trans e1557))
        have e1559 : Tg h863 n249 = 115100 := ((pRT hh862).trans ((pNT hh857 (pN_n hh857 z856 e1558)).trans e1558))
        have e1560 : Tg h874 n249 = 115100 := ((pRT hh873).trans ((pNT hh868 (pN_n hh868 z867 e1559)).trans e1559))
        have e1561 : Tg h885 n249 = 115100 := ((pRT hh884).trans ((pNT hh879 (pN_n hh879 z878 e1560)).trans e1560))
        have e1562 : Tg h915 n249 = 115100 := ((pIT hh914).trans ((pIT hh910).trans (fxT F904 ((pRT hh895).trans ((pNT hh890 (pN_n hh890 z889 e1561)).trans e1561)))))
        have e1563 : Rv h915 a0 16 = n260 := ((pIR hh914).trans ((pIR hh910).trans ((fxR F904 e917 rfl).trans ((pR_j hh895 (by decide)).trans ((pNR hh890 (pN_n hh890 z889 e893)).trans ((pR_j hh884 (by decide)).trans ((pNR hh879 (pN_n hh879 z878 e882)).trans ((pR_j hh873 (by decide)).trans ((pNR hh868 (pN_n hh868 z867 e871)).trans ((pR_j hh862 (by decide)).trans ((pNR hh857 (pN_n hh857 z856 e860)).trans ((pR_j hh851 (by decide)).trans ((pNR hh846 (pN_n hh846 z845 e849)).trans ((pR_j hh840 (by decide)).trans ((pNR hh835 (pN_n hh835 z834 e838)).trans ((pR_j hh829 (by decide)).trans ((pNR hh824 (pN_n hh824 z823 e827)).trans ((pR_j hh818 (by decide)).trans ((pNR hh813 (pN_n hh813 z812 e816)).trans ((pR_j hh807 (by decide)).trans ((pNR hh802 (pN_n hh802 z801 e805)).trans ((pR_j hh796 (by decide)).trans ((pNR hh791 (pN_n hh791 z790 e794)).trans ((pR_j hh785 (by decide)).trans ((pNR hh780 (pN_n hh780 z779 e783)).trans ((pR_j hh774 (by decide)).trans ((pNR hh769 (pN_n hh769 z768 e772)).trans ((pR_j hh763 (by decide)).trans ((pNR hh758 (pN_n hh758 z757 e761)).trans ((pR_j hh752 (by decide)).trans ((pNR hh747 (pN_n hh747 z746 e750)).trans ((pR_j hh741 (by decide)).trans ((pNR hh736 (pN_n hh736 z735 e739)).trans ((pR_j hh730 (by decide)).trans ((pNR hh725 (pN_n hh725 z724 e728)).trans ((pR_j hh719 (by decide)).trans ((pNR hh714 (pN_n hh714 z713 e717)).trans ((pR_j hh708 (by decide)).trans ((pNR hh703 (pN_n hh703 z702 e706)).trans ((pR_j hh697 (by decide)).trans ((pNR hh692 (pN_n hh692 z691 e695)).trans ((pR_j hh686 (by decide)).trans ((pNR hh681 (pN_n hh681 z680 e684)).trans ((pR_j hh675 (by decide)).trans ((pNR hh670 (pN_n hh670 z669 e673)).trans ((pR_j hh664 (by decide)).trans ((pNR hh659 (pN_n hh659 z658 e662)).trans ((pR_j hh653 (by decide)).trans ((pNR hh648 (pN_n hh648 z647 e651)).trans ((pR_j hh642 (by decide)).trans ((pNR hh637 (pN_n hh637 z636 e640)).trans ((pR_j hh631 (by decide)).trans ((pNR hh626 (pN_n hh626 z625 e629)).trans ((pR_j hh620 (by decide)).trans ((pNR hh615 (pN_n hh615 z614 e618)).trans ((pR_j hh609 (by decide)).trans ((pNR hh604 (pN_n hh604 z603 e607)).trans ((pR_j hh598 (by decide)).trans ((pNR hh593 (pN_n hh593 z592 e596)).trans ((pR_j hh587 (by decide)).trans ((pNR hh582 (pN_n hh582 z581 e585)).trans ((pR_j hh576 (by decide)).trans ((pNR hh571 (pN_n hh571 z570 e574)).trans ((pR_j hh565 (by decide)).trans ((pNR hh560 (pN_n hh560 z559 e563)).trans ((pR_j hh554 (by decide)).trans ((pNR hh549 (pN_n hh549 z548 e552)).trans ((pR_j hh543 (by decide)).trans ((pNR hh538 (pN_n hh538 z537 e541)).trans ((pR_j hh532 (by decide)).trans ((pNR hh527 (pN_n hh527 z526 e530)).trans ((pR_j hh521 (by decide)).trans ((pNR hh516 (pN_n hh516 z515 e519)).trans ((pR_j hh510 (by decide)).trans ((pNR hh505 (pN_n hh505 z504 e508)).trans ((pR_j hh499 (by decide)).trans ((pNR hh494 (pN_n hh494 z493 e497)).trans ((pR_j hh488 (by decide)).trans ((pNR hh483 (pN_n hh483 z482 e486)).trans ((pR_j hh477 (by decide)).trans ((pNR hh472 (pN_n hh472 z471 e475)).trans ((pR_j hh466 (by decide)).trans ((pNR hh461 (pN_n hh461 z460 e464)).trans ((pR_j hh455 (by decide)).trans ((pNR hh450 (pN_n hh450 z449 e453)).trans ((pR_j hh444 (by decide)).trans ((pNR hh439 (pN_n hh439 z438 e442)).trans ((pR_j hh433 (by decide)).trans ((pNR hh428 (pN_n hh428 z427 e431)).trans ((pR_j hh422 (by decide)).trans ((pNR hh417 (pN_n hh417 z416 e420)).trans ((pR_j hh411 (by decide)).trans ((pNR hh406 (pN_n hh406 z405 e409)).trans ((pR_j hh400 (by decide)).trans ((pNR hh395 (pN_n hh395 z394 e398)).trans ((pR_j hh389 (by decide)).trans ((pNR hh384 (pN_n hh384 z383 e387)).trans ((pR_j hh378 (by decide)).trans ((pNR hh373 (pN_n hh373 z372 e376)).trans ((pR_j hh367 (by decide)).trans ((pNR hh362 (pN_n hh362 z361 e365)).trans ((pR_j hh356 (by decide)).trans ((pNR hh351 (pN_n hh351 z350 e354)).trans ((pR_j hh345 (by decide)).trans ((pNR hh340 (pN_n hh340 z339 e343)).trans ((pR_j hh334 (by decide)).trans ((pNR hh329 (pN_n hh329 z328 e332)).trans ((pR_j hh323 (by decide)).trans ((pNR hh318 (pN_n hh318 z317 e321)).trans ((pR_j hh312 (by decide)).trans ((pNR hh307 (pN_n hh307 z306 e310)).trans ((pR_j hh301 (by decide)).trans ((pNR hh296 (pN_n hh296 z295 e299)).trans ((pR_j hh290 (by decide)).trans ((pNR hh285 (pN_n hh285 z284 e288)).trans ((pR_j hh279 (by decide)).trans ((pNR hh274 (pN_n hh274 z273 e277)).trans (pR_e hh268))))))))))))))))))))))))))))))))))))))))))))))))))))))))))))))))))))))))))))))))))))))))))))))))))))))))))))))))))))))
        have e1564 : Tg h269 n260 = 116101 := ((pRT hh268).trans (pN_T hh263))
        have e1565 : Tg h280 n260 = 116101 := ((pRT hh279).trans ((pNT hh274 (pN_n hh274 z273 e1564)).trans e1564))
        have e1566 : Tg h291 n260 = 116101 := ((pRT hh290).trans ((pNT hh285 (pN_n hh285 z284 e1565)).trans e1565))
        have e1567 : Tg h302 n260 = 116101 := ((pRT hh301).trans ((pNT hh296 (pN_n hh296 z295 e1566)).trans e1566))
        have e1568 : Tg h313 n260 = 116101 := ((pRT hh312).trans ((pNT hh307 (pN_n hh307 z306 e1567)).trans e1567))
        have e1569 : Tg h324 n260 = 116101 := ((pRT hh323).trans ((pNT hh318 (pN_n hh318 z317 e1568)).trans e1568))
        have e1570 : Tg h335 n260 = 116101 := ((pRT hh334).trans ((pNT hh329 (pN_n hh329 z328 e1569)).trans e1569))
        have e1571 : Tg h346 n260 = 116101 := ((pRT hh345).trans ((pNT hh340 (pN_n hh340 z339 e1570)).trans e1570))
        have e1572 : Tg h357 n260 = 116101 := ((pRT hh356).trans ((pNT hh351 (pN_n hh351 z350 e1571)).trans e1571))
        have e1573 : Tg h368 n260 = 116101 := ((pRT hh367).trans ((pNT hh362 (pN_n hh362 z361 e1572)).trans e1572))
        have e1574 : Tg h379 n260 = 116101 := ((pRT hh378).trans ((pNT hh373 (pN_n hh373 z372 e1573)).trans e1573))
        have e1575 : Tg h390 n260 = 116101 := ((pRT hh389).trans ((pNT hh384 (pN_n hh384 z383 e1574)).trans e1574))
        have e1576 : Tg h401 n260 = 116101 := ((pRT hh400).trans ((pNT hh395 (pN_n hh395 z394 e1575)).trans e1575))
        have e1577 : Tg h412 n260 = 116101 := ((pRT hh411).trans ((pNT hh406 (pN_n hh406 z405 e1576)).trans e1576))
        have e1578 : Tg h423 n260 = 116101 := ((pRT hh422).trans ((pNT hh417 (pN_n hh417 z416 e1577)).trans e1577))
        have e1579 : Tg h434 n260 = 116101 := ((pRT hh433).trans ((pNT hh428 (pN_n hh428 z427 e1578)).trans e1578))
        have e1580 : Tg h445 n260 = 116101 := ((pRT hh444).trans ((pNT hh439 (pN_n hh439 z438 e1579)).trans e1579))
        have e1581 : Tg h456 n260 = 116101 := ((pRT hh455).trans ((pNT hh450 (pN_n hh450 z449 e1580)).trans e1580))
        have e1582 : Tg h467 n260 = 116101 := ((pRT hh466).trans ((pNT hh461 (pN_n hh461 z460 e1581)).trans e1581))
        have e1583 : Tg h478 n260 = 116101 := ((pRT hh477).trans ((pNT hh472 (pN_n hh472 z471 e1582)).trans e1582))
        have e1584 : Tg h489 n260 = 116101 := ((pRT hh488).trans ((pNT hh483 (pN_n hh483 z482 e1583)).trans e1583))
        have e1585 : Tg h500 n260 = 116101 := ((pRT hh499).trans ((pNT hh494 (pN_n hh494 z493 e1584)).trans e1584))
        have e1586 : Tg h511 n260 = 116101 := ((pRT hh510).trans ((pNT hh505 (pN_n hh505 z504 e1585)).trans e1585))
        have e1587 : Tg h522 n260 = 116101 := ((pRT hh521).trans ((pNT hh516 (pN_n hh516 z515 e1586)).trans e1586))
        have e1588 : Tg h533 n260 = 116101 := ((pRT hh532).trans ((pNT hh527 (pN_n hh527 z526 e1587)).trans e1587))
        have e1589 : Tg h544 n260 = 116101 := ((pRT hh543).trans ((pNT hh538 (pN_n hh538 z537 e1588)).trans e1588))
        have e1590 : Tg h555 n260 = 116101 := ((pRT hh554).trans ((pNT hh549 (pN_n hh549 z548 e1589)).trans e1589))
        have e1591 : Tg h566 n260 = 116101 := ((pRT hh565).trans ((pNT hh560 (pN_n hh560 z559 e1590)).trans e1590))
        have e1592 : Tg h577 n260 = 116101 := ((pRT hh576).trans ((pNT hh571 (pN_n hh571 z570 e1591)).trans e1591))
        have e1593 : Tg h588 n260 = 116101 := ((pRT hh587).trans ((pNT hh582 (pN_n hh582 z581 e1592)).trans e1592))
        have e1594 : Tg h599 n260 = 116101 := ((pRT hh598).trans ((pNT hh593 (pN_n hh593 z592 e1593)).trans e1593))
        have e1595 : Tg h610 n260 = 116101 := ((pRT hh609).trans ((pNT hh604 (pN_n hh604 z603 e1594)).trans e1594))
        have e1596 : Tg h621 n260 = 116101 := ((pRT hh620).trans ((pNT hh615 (pN_n hh615 z614 e1595)).trans e1595))
        have e1597 : Tg h632 n260 = 116101 := ((pRT hh631).trans ((pNT hh626 (pN_n hh626 z625 e1596)).trans e1596))
        have e1598 : Tg h643 n260 = 116101 := ((pRT hh642).trans ((pNT hh637 (pN_n hh637 z636 e1597)).trans e1597))
        have e1599 : Tg h654 n260 = 116101 := ((pRT hh653).trans ((pNT hh648 (pN_n hh648 z647 e1598)).trans e1598))
        have e1600 : Tg h665 n260 = 116101 := ((pRT hh664).trans ((pNT hh659 (pN_n hh659 z658 e1599)).trans e1599))
        have e1601 : Tg h676 n260 = 116101 := ((pRT hh675).trans ((pNT hh670 (pN_n hh670 z669 e1600)).trans e1600))
        have e1602 : Tg h687 n260 = 116101 := ((pRT hh686).trans ((pNT hh681 (pN_n hh681 z680 e1601)).trans e1601))
        have e1603 : Tg h698 n260 = 116101 := ((pRT hh697).trans ((pNT hh692 (pN_n hh692 z691 e1602)).trans e1602))
        have e1604 : Tg h709 n260 = 116101 := ((pRT hh708).trans ((pNT hh703 (pN_n hh703 z702 e1603)).trans e1603))
        have e1605 : Tg h720 n260 = 116101 := ((pRT hh719).trans ((pNT hh714 (pN_n hh714 z713 e1604)).trans e1604))
        have e1606 : Tg h731 n260 = 116101 := ((pRT hh730).trans ((pNT hh725 (pN_n hh725 z724 e1605)).trans e1605))
        have e1607 : Tg h742 n260 = 116101 := ((pRT hh741).trans ((pNT hh736 (pN_n hh736 z735 e1606)).trans e1606))
        have e1608 : Tg h753 n260 = 116101 := ((pRT hh752).trans ((pNT hh747 (pN_n hh747 z746 e1607)).trans e1607))
        have e1609 : Tg h764 n260 = 116101 := ((pRT hh763).trans ((pNT hh758 (pN_n hh758 z757 e1608)).trans e1608))
        have e1610 : Tg h775 n260 = 116101 := ((pRT hh774).trans ((pNT hh769 (pN_n hh769 z768 e1609)).trans e1609))
        have e1611 : Tg h786 n260 = 116101 := ((pRT hh785).trans ((pNT hh780 (pN_n hh780 z779 e1610)).trans e1610))
        have e1612 : Tg h797 n260 = 116101 := ((pRT hh796).trans ((pNT hh791 (pN_n hh791 z790 e1611)).trans e1611))
        have e1613 : Tg h808 n260 = 116101 := ((pRT hh807).trans ((pNT hh802 (pN_n hh802 z801 e1612)).trans e1612))
        have e1614 : Tg h819 n260 = 116101 := ((pRT hh818).trans ((pNT hh813 (pN_n hh813 z812 e1613)).trans e1613))
        have e1615 : Tg h830 n260 = 116101 := ((pRT hh829).trans ((pNT hh824 (pN_n hh824 z823 e1614)).trans e1614))
        have e1616 : Tg h841 n260 = 116101 := ((pRT hh840).trans ((pNT hh835 (pN_n hh835 z834 e1615)).trans e1615))
        have e1617 : Tg h852 n260 = 116101 := ((pRT hh851).trans ((pNT hh846 (pN_n hh846 z845 e1616)).trans e1616))
        have e1618 : Tg h863 n260 = 116101 := ((pRT hh862).trans ((pNT hh857 (pN_n hh857 z856 e1617)).trans e1617))
        have e1619 : Tg h874 n260 = 116101 := ((pRT hh873).trans ((pNT hh868 (pN_n hh868 z867 e1618)).trans e1618))
        have e1620 : Tg h885 n260 = 116101 := ((pRT hh884).trans ((pNT hh879 (pN_n hh879 z878 e1619)).trans e1619))
        have e1621 : Tg h915 n260 = 116101 := ((pIT hh914).trans ((pIT hh910).trans (fxT F904 ((pRT hh895).trans ((pNT hh890 (pN_n hh890 z889 e1620)).trans e1620)))))
        have e1622 : Rv h915 a0 17 = n271 := ((pIR hh914).trans ((pIR hh910).trans ((fxR F904 e917 rfl).trans ((pR_j hh895 (by decide)).trans ((pNR hh890 (pN_n hh890 z889 e893)).trans ((pR_j hh884 (by decide)).trans ((pNR hh879 (pN_n hh879 z878 e882)).trans ((pR_j hh873 (by decide)).trans ((pNR hh868 (pN_n hh868 z867 e871)).trans ((pR_j hh862 (by decide)).trans ((pNR hh857 (pN_n hh857 z856 e860)).trans ((pR_j hh851 (by decide)).trans ((pNR hh846 (pN_n hh846 z845 e849)).trans ((pR_j hh840 (by decide)).trans ((pNR hh835 (pN_n hh835 z834 e838)).trans ((pR_j hh829 (by decide)).trans ((pNR hh824 (pN_n hh824 z823 e827)).trans ((pR_j hh818 (by decide)).trans ((pNR hh813 (pN_n hh813 z812 e816)).trans ((pR_j hh807 (by decide)).trans ((pNR hh802 (pN_n hh802 z801 e805)).trans ((pR_j hh796 (by decide)).trans ((pNR hh791 (pN_n hh791 z790 e794)).trans ((pR_j hh785 (by decide)).trans ((pNR hh780 (pN_n hh780 z779 e783)).trans ((pR_j hh774 (by decide)).trans ((pNR hh769 (pN_n hh769 z768 e772)).trans ((pR_j hh763 (by decide)).trans ((pNR hh758 (pN_n hh758 z757 e761)).trans ((pR_j hh752 (by decide)).trans ((pNR hh747 (pN_n hh747 z746 e750)).trans ((pR_j hh741 (by decide)).trans ((pNR hh736 (pN_n hh736 z735 e739)).trans ((pR_j hh730 (by decide)).trans ((pNR hh725 (pN_n hh725 z724 e728)).trans ((pR_j hh719 (by decide)).trans ((pNR hh714 (pN_n hh714 z713 e717)).trans ((pR_j hh708 (by decide)).trans ((pNR hh703 (pN_n hh703 z702 e706)).trans ((pR_j hh697 (by decide)).trans ((pNR hh692 (pN_n hh692 z691 e695)).trans ((pR_j hh686 (by decide)).trans ((pNR hh681 (pN_n hh681 z680 e684)).trans ((pR_j hh675 (by decide)).trans ((pNR hh670 (pN_n hh670 z669 e673)).trans ((pR_j hh664 (by decide)).trans ((pNR hh659 (pN_n hh659 z658 e662)).trans ((pR_j hh653 (by decide)).trans ((pNR hh648 (pN_n hh648 z647 e651)).trans ((pR_j hh642 (by decide)).trans ((pNR hh637 (pN_n hh637 z636 e640)).trans ((pR_j hh631 (by decide)).trans ((pNR hh626 (pN_n hh626 z625 e629)).trans ((pR_j hh620 (by decide)).trans ((pNR hh615 (pN_n hh615 z614 e618)).trans ((pR_j hh609 (by decide)).trans ((pNR hh604 (pN_n hh604 z603 e607)).trans ((pR_j hh598 (by decide)).trans ((pNR hh593 (pN_n hh593 z592 e596)).trans ((pR_j hh587 (by decide)).trans ((pNR hh582 (pN_n hh582 z581 e585)).trans ((pR_j hh576 (by decide)).trans ((pNR hh571 (pN_n hh571 z570 e574)).trans ((pR_j hh565 (by decide)).trans ((pNR hh560 (pN_n hh560 z559 e563)).trans ((pR_j hh554 (by decide)).trans ((pNR hh549 (pN_n hh549 z548 e552)).trans ((pR_j hh543 (by decide)).trans ((pNR hh538 (pN_n hh538 z537 e541)).trans ((pR_j hh532 (by decide)).trans ((pNR hh527 (pN_n hh527 z526 e530)).trans ((pR_j hh521 (by decide)).trans ((pNR hh516 (pN_n hh516 z515 e519)).trans ((pR_j hh510 (by decide)).trans ((pNR hh505 (pN_n hh505 z504 e508)).trans ((pR_j hh499 (by decide)).trans ((pNR hh494 (pN_n hh494 z493 e497)).trans ((pR_j hh488 (by decide)).trans ((pNR hh483 (pN_n hh483 z482 e486)).trans ((pR_j hh477 (by decide)).trans ((pNR hh472 (pN_n hh472 z471 e475)).trans ((pR_j hh466 (by decide)).trans ((pNR hh461 (pN_n hh461 z460 e464)).trans ((pR_j hh455 (by decide)).trans ((pNR hh450 (pN_n hh450 z449 e453)).trans ((pR_j hh444 (by decide)).trans ((pNR hh439 (pN_n hh439 z438 e442)).trans ((pR_j hh433 (by decide)).trans ((pNR hh428 (pN_n hh428 z427 e431)).trans ((pR_j hh422 (by decide)).trans ((pNR hh417 (pN_n hh417 z416 e420)).trans ((pR_j hh411 (by decide)).trans ((pNR hh406 (pN_n hh406 z405 e409)).trans ((pR_j hh400 (by decide)).trans ((pNR hh395 (pN_n hh395 z394 e398)).trans ((pR_j hh389 (by decide)).trans ((pNR hh384 (pN_n hh384 z383 e387)).trans ((pR_j hh378 (by decide)).trans ((pNR hh373 (pN_n hh373 z372 e376)).trans ((pR_j hh367 (by decide)).trans ((pNR hh362 (pN_n hh362 z361 e365)).trans ((pR_j hh356 (by decide)).trans ((pNR hh351 (pN_n hh351 z350 e354)).trans ((pR_j hh345 (by decide)).trans ((pNR hh340 (pN_n hh340 z339 e343)).trans ((pR_j hh334 (by decide)).trans ((pNR hh329 (pN_n hh329 z328 e332)).trans ((pR_j hh323 (by decide)).trans ((pNR hh318 (pN_n hh318 z317 e321)).trans ((pR_j hh312 (by decide)).trans ((pNR hh307 (pN_n hh307 z306 e310)).trans ((pR_j hh301 (by decide)).trans ((pNR hh296 (pN_n hh296 z295 e299)).trans ((pR_j hh290 (by decide)).trans ((pNR hh285 (pN_n hh285 z284 e288)).trans (pR_e hh279))))))))))))))))))))))))))))))))))))))))))))))))))))))))))))))))))))))))))))))))))))))))))))))))))))))))))))))))))))
        have e1623 : Tg h280 n271 = 117101 := ((pRT hh279).trans (pN_T hh274))
        have e1624 : Tg h291 n271 = 117101 := ((pRT hh290).trans ((pNT hh285 (pN_n hh285 z284 e1623)).trans e1623))
        have e1625 : Tg h302 n271 = 117101 := ((pRT hh301).trans ((pNT hh296 (pN_n hh296 z295 e1624)).trans e1624))
        have e1626 : Tg h313 n271 = 117101 := ((pRT hh312).trans ((pNT hh307 (pN_n hh307 z306 e1625)).trans e1625))
        have e1627 : Tg h324 n271 = 117101 := ((pRT hh323).trans ((pNT hh318 (pN_n hh318 z317 e1626)).trans e1626))
        have e1628 : Tg h335 n271 = 117101 := ((pRT hh334).trans ((pNT hh329 (pN_n hh329 z328 e1627)).trans e1627))
        have e1629 : Tg h346 n271 = 117101 := ((pRT hh345).trans ((pNT hh340 (pN_n hh340 z339 e1628)).trans e1628))
        have e1630 : Tg h357 n271 = 117101 := ((pRT hh356).trans ((pNT hh351 (pN_n hh351 z350 e1629)).trans e1629))
        have e1631 : Tg h368 n271 = 117101 := ((pRT hh367).trans ((pNT hh362 (pN_n hh362 z361 e1630)).trans e1630))
        have e1632 : Tg h379 n271 = 117101 := ((pRT hh378).trans ((pNT hh373 (pN_n hh373 z372 e1631)).trans e1631))
        have e1633 : Tg h390 n271 = 117101 := ((pRT hh389).trans ((pNT hh384 (pN_n hh384 z383 e1632)).trans e1632))
        have e1634 : Tg h401 n271 = 117101 := ((pRT hh400).trans ((pNT hh395 (pN_n hh395 z394 e1633)).trans e1633))
        have e1635 : Tg h412 n271 = 117101 := ((pRT hh411).trans ((pNT hh406 (pN_n hh406 z405 e1634)).trans e1634))
        have e1636 : Tg h423 n271 = 117101 := ((pRT hh422).trans ((pNT hh417 (pN_n hh417 z416 e1635)).trans e1635))
        have e1637 : Tg h434 n271 = 117101 := ((pRT hh433).trans ((pNT hh428 (pN_n hh428 z427 e1636)).trans e1636))
        have e1638 : Tg h445 n271 = 117101 := ((pRT hh444).trans ((pNT hh439 (pN_n hh439 z438 e1637)).trans e1637))
        have e1639 : Tg h456 n271 = 117101 := ((pRT hh455).trans ((pNT hh450 (pN_n hh450 z449 e1638)).trans e1638))
        have e1640 : Tg h467 n271 = 117101 := ((pRT hh466).trans ((pNT hh461 (pN_n hh461 z460 e1639)).trans e1639))
        have e1641 : Tg h478 n271 = 117101 := ((pRT hh477).trans ((pNT hh472 (pN_n hh472 z471 e1640)).trans e1640))
        have e1642 : Tg h489 n271 = 117101 := ((pRT hh488).trans ((pNT hh483 (pN_n hh483 z482 e1641)).trans e1641))
        have e1643 : Tg h500 n271 = 117101 := ((pRT hh499).trans ((pNT hh494 (pN_n hh494 z493 e1642)).trans e1642))
        have e1644 : Tg h511 n271 = 117101 := ((pRT hh510).trans ((pNT hh505 (pN_n hh505 z504 e1643)).trans e1643))
        have e1645 : Tg h522 n271 = 117101 := ((pRT hh521).trans ((pNT hh516 (pN_n hh516 z515 e1644)).trans e1644))
        have e1646 : Tg h533 n271 = 117101 := ((pRT hh532).trans ((pNT hh527 (pN_n hh527 z526 e1645)).trans e1645))
        have e1647 : Tg h544 n271 = 117101 := ((pRT hh543).trans ((pNT hh538 (pN_n hh538 z537 e1646)).trans e1646))
        have e1648 : Tg h555 n271 = 117101 := ((pRT hh554).trans ((pNT hh549 (pN_n hh549 z548 e1647)).trans e1647))
        have e1649 : Tg h566 n271 = 117101 := ((pRT hh565).trans ((pNT hh560 (pN_n hh560 z559 e1648)).trans e1648))
        have e1650 : Tg h577 n271 = 117101 := ((pRT hh576).trans ((pNT hh571 (pN_n hh571 z570 e1649)).trans e1649))
        have e1651 : Tg h588 n271 = 117101 := ((pRT hh587).trans ((pNT hh582 (pN_n hh582 z581 e1650)).trans e1650))
        have e1652 : Tg h599 n271 = 117101 := ((pRT hh598).trans ((pNT hh593 (pN_n hh593 z592 e1651)).trans e1651))
        have e1653 : Tg h610 n271 = 117101 := ((pRT hh609).trans ((pNT hh604 (pN_n hh604 z603 e1652)).trans e1652))
        have e1654 : Tg h621 n271 = 117101 := ((pRT hh620).trans ((pNT hh615 (pN_n hh615 z614 e1653)).trans e1653))
        have e1655 : Tg h632 n271 = 117101 := ((pRT hh631).trans ((pNT hh626 (pN_n hh626 z625 e1654)).trans e1654))
        have e1656 : Tg h643 n271 = 117101 := ((pRT hh642).trans ((pNT hh637 (pN_n hh637 z636 e1655)).trans e1655))
        have e1657 : Tg h654 n271 = 117101 := ((pRT hh653).trans ((pNT hh648 (pN_n hh648 z647 e1656)).trans e1656))
        have e1658 : Tg h665 n271 = 117101 := ((pRT hh664).trans ((pNT hh659 (pN_n hh659 z658 e1657)).trans e1657))
        have e1659 : Tg h676 n271 = 117101 := ((pRT hh675).trans ((pNT hh670 (pN_n hh670 z669 e1658)).trans e1658))
        have e1660 : Tg h687 n271 = 117101 := ((pRT hh686).trans ((pNT hh681 (pN_n hh681 z680 e1659)).trans e1659))
        have e1661 : Tg h698 n271 = 117101 := ((pRT hh697).trans ((pNT hh692 (pN_n hh692 z691 e1660)).trans e1660))
        have e1662 : Tg h709 n271 = 117101 := ((pRT hh708).trans ((pNT hh703 (pN_n hh703 z702 e1661)).trans e1661))
        have e1663 : Tg h720 n271 = 117101 := ((pRT hh719).trans ((pNT hh714 (pN_n hh714 z713 e1662)).trans e1662))
        have e1664 : Tg h731 n271 = 117101 := ((pRT hh730).trans ((pNT hh725 (pN_n hh725 z724 e1663)).trans e1663))
        have e1665 : Tg h742 n271 = 117101 := ((pRT hh741).trans ((pNT hh736 (pN_n hh736 z735 e1664)).trans e1664))
        have e1666 : Tg h753 n271 = 117101 := ((pRT hh752).trans ((pNT hh747 (pN_n hh747 z746 e1665)).trans e1665))
        have e1667 : Tg h764 n271 = 117101 := ((pRT hh763).trans ((pNT hh758 (pN_n hh758 z757 e1666)).trans e1666))
        have e1668 : Tg h775 n271 = 117101 := ((pRT hh774).trans ((pNT hh769 (pN_n hh769 z768 e1667)).trans e1667))
        have e1669 : Tg h786 n271 = 117101 := ((pRT hh785).trans ((pNT hh780 (pN_n hh780 z779 e1668)).trans e1668))
        have e1670 : Tg h797 n271 = 117101 := ((pRT hh796).trans ((pNT hh791 (pN_n hh791 z790 e1669)).trans e1669))
        have e1671 : Tg h808 n271 = 117101 := ((pRT hh807).trans ((pNT hh802 (pN_n hh802 z801 e1670)).trans e1670))
        have e1672 : Tg h819 n271 = 117101 := ((pRT hh818).trans ((pNT hh813 (pN_n hh813 z812 e1671)).trans e1671))
        have e1673 : Tg h830 n271 = 117101 := ((pRT hh829).trans ((pNT hh824 (pN_n hh824 z823 e1672)).trans e1672))
        have e1674 : Tg h841 n271 = 117101 := ((pRT hh840).trans ((pNT hh835 (pN_n hh835 z834 e1673)).trans e1673))
        have e1675 : Tg h852 n271 = 117101 := ((pRT hh851).trans ((pNT hh846 (pN_n hh846 z845 e1674)).trans e1674))
        have e1676 : Tg h863 n271 = 117101 := ((pRT hh862).trans ((pNT hh857 (pN_n hh857 z856 e1675)).trans e1675))
        have e1677 : Tg h874 n271 = 117101 := ((pRT hh873).trans ((pNT hh868 (pN_n hh868 z867 e1676)).trans e1676))
        have e1678 : Tg h885 n271 = 117101 := ((pRT hh884).trans ((pNT hh879 (pN_n hh879 z878 e1677)).trans e1677))
        have e1679 : Tg h915 n271 = 117101 := ((pIT hh914).trans ((pIT hh910).trans (fxT F904 ((pRT hh895).trans ((pNT hh890 (pN_n hh890 z889 e1678)).trans e1678)))))
        have e1680 : Rv h915 a0 18 = n282 := ((pIR hh914).trans ((pIR hh910).trans ((fxR F904 e917 rfl).trans ((pR_j hh895 (by decide)).trans ((pNR hh890 (pN_n hh890 z889 e893)).trans ((pR_j hh884 (by decide)).trans ((pNR hh879 (pN_n hh879 z878 e882)).trans ((pR_j hh873 (by decide)).trans ((pNR hh868 (pN_n hh868 z867 e871)).trans ((pR_j hh862 (by decide)).trans ((pNR hh857 (pN_n hh857 z856 e860)).trans ((pR_j hh851 (by decide)).trans ((pNR hh846 (pN_n hh846 z845 e849)).trans ((pR_j hh840 (by decide)).trans ((pNR hh835 (pN_n hh835 z834 e838)).trans ((pR_j hh829 (by decide)).trans ((pNR hh824 (pN_n hh824 z823 e827)).trans ((pR_j hh818 (by decide)).trans ((pNR hh813 (pN_n hh813 z812 e816)).trans ((pR_j hh807 (by decide)).trans ((pNR hh802 (pN_n hh802 z801 e805)).trans ((pR_j hh796 (by decide)).trans ((pNR hh791 (pN_n hh791 z790 e794)).trans ((pR_j hh785 (by decide)).trans ((pNR hh780 (pN_n hh780 z779 e783)).trans ((pR_j hh774 (by decide)).trans ((pNR hh769 (pN_n hh769 z768 e772)).trans ((pR_j hh763 (by decide)).trans ((pNR hh758 (pN_n hh758 z757 e761)).trans ((pR_j hh752 (by decide)).trans ((pNR hh747 (pN_n hh747 z746 e750)).trans ((pR_j hh741 (by decide)).trans ((pNR hh736 (pN_n hh736 z735 e739)).trans ((pR_j hh730 (by decide)).trans ((pNR hh725 (pN_n hh725 z724 e728)).trans ((pR_j hh719 (by decide)).trans ((pNR hh714 (pN_n hh714 z713 e717)).trans ((pR_j hh708 (by decide)).trans ((pNR hh703 (pN_n hh703 z702 e706)).trans ((pR_j hh697 (by decide)).trans ((pNR hh692 (pN_n hh692 z691 e695)).trans ((pR_j hh686 (by decide)).trans ((pNR hh681 (pN_n hh681 z680 e684)).trans ((pR_j hh675 (by decide)).trans ((pNR hh670 (pN_n hh670 z669 e673)).trans ((pR_j hh664 (by decide)).trans ((pNR hh659 (pN_n hh659 z658 e662)).trans ((pR_j hh653 (by decide)).trans ((pNR hh648 (pN_n hh648 z647 e651)).trans ((pR_j hh642 (by decide)).trans ((pNR hh637 (pN_n hh637 z636 e640)).trans ((pR_j hh631 (by decide)).trans ((pNR hh626 (pN_n hh626 z625 e629)).trans ((pR_j hh620 (by decide)).trans ((pNR hh615 (pN_n hh615 z614 e618)).trans ((pR_j hh609 (by decide)).trans ((pNR hh604 (pN_n hh604 z603 e607)).trans ((pR_j hh598 (by decide)).trans ((pNR hh593 (pN_n hh593 z592 e596)).trans ((pR_j hh587 (by decide)).trans ((pNR hh582 (pN_n hh582 z581 e585)).trans ((pR_j hh576 (by decide)).trans ((pNR hh571 (pN_n hh571 z570 e574)).trans ((pR_j hh565 (by decide)).trans ((pNR hh560 (pN_n hh560 z559 e563)).trans ((pR_j hh554 (by decide)).trans ((pNR hh549 (pN_n hh549 z548 e552)).trans ((pR_j hh543 (by decide)).trans ((pNR hh538 (pN_n hh538 z537 e541)).trans ((pR_j hh532 (by decide)).trans ((pNR hh527 (pN_n hh527 z526 e530)).trans ((pR_j hh521 (by decide)).trans ((pNR hh516 (pN_n hh516 z515 e519)).trans ((pR_j hh510 (by decide)).trans ((pNR hh505 (pN_n hh505 z504 e508)).trans ((pR_j hh499 (by decide)).trans ((pNR hh494 (pN_n hh494 z493 e497)).trans ((pR_j hh488 (by decide)).trans ((pNR hh483 (pN_n hh483 z482 e486)).trans ((pR_j hh477 (by decide)).trans ((pNR hh472 (pN_n hh472 z471 e475)).trans ((pR_j hh466 (by decide)).trans ((pNR hh461 (pN_n hh461 z460 e464)).trans ((pR_j hh455 (by decide)).trans ((pNR hh450 (pN_n hh450 z449 e453)).trans ((pR_j hh444 (by decide)).trans ((pNR hh439 (pN_n hh439 z438 e442)).trans ((pR_j hh433 (by decide)).trans ((pNR hh428 (pN_n hh428 z427 e431)).trans ((pR_j hh422 (by decide)).trans ((pNR hh417 (pN_n hh417 z416 e420)).trans ((pR_j hh411 (by decide)).trans ((pNR hh406 (pN_n hh406 z405 e409)).trans ((pR_j hh400 (by decide)).trans ((pNR hh395 (pN_n hh395 z394 e398)).trans ((pR_j hh389 (by decide)).trans ((pNR hh384 (pN_n hh384 z383 e387)).trans ((pR_j hh378 (by decide)).trans ((pNR hh373 (pN_n hh373 z372 e376)).trans ((pR_j hh367 (by decide)).trans ((pNR hh362 (pN_n hh362 z361 e365)).trans ((pR_j hh356 (by decide)).trans ((pNR hh351 (pN_n hh351 z350 e354)).trans ((pR_j hh345 (by decide)).trans ((pNR hh340 (pN_n hh340 z339 e343)).trans ((pR_j hh334 (by decide)).trans ((pNR hh329 (pN_n hh329 z328 e332)).trans ((pR_j hh323 (by decide)).trans ((pNR hh318 (pN_n hh318 z317 e321)).trans ((pR_j hh312 (by decide)).trans ((pNR hh307 (pN_n hh307 z306 e310)).trans ((pR_j hh301 (by decide)).trans ((pNR hh296 (pN_n hh296 z295 e299)).trans (pR_e hh290))))))))))))))))))))))))))))))))))))))))))))))))))))))))))))))))))))))))))))))))))))))))))))))))))))))))))))))))))
        have e1681 : Tg h291 n282 = 118101 := ((pRT hh290).trans (pN_T hh285))
        have e1682 : Tg h302 n282 = 118101 := ((pRT hh301).trans ((pNT hh296 (pN_n hh296 z295 e1681)).trans e1681))
        have e1683 : Tg h313 n282 = 118101 := ((pRT hh312).trans ((pNT hh307 (pN_n hh307 z306 e1682)).trans e1682))
        have e1684 : Tg h324 n282 = 118101 := ((pRT hh323).trans ((pNT hh318 (pN_n hh318 z317 e1683)).trans e1683))
        have e1685 : Tg h335 n282 = 118101 := ((pRT hh334).trans ((pNT hh329 (pN_n hh329 z328 e1684)).trans e1684))
        have e1686 : Tg h346 n282 = 118101 := ((pRT hh345).trans ((pNT hh340 (pN_n hh340 z339 e1685)).trans e1685))
        have e1687 : Tg h357 n282 = 118101 := ((pRT hh356).trans ((pNT hh351 (pN_n hh351 z350 e1686)).trans e1686))
        have e1688 : Tg h368 n282 = 118101 := ((pRT hh367).trans ((pNT hh362 (pN_n hh362 z361 e1687)).trans e1687))
        have e1689 : Tg h379 n282 = 118101 := ((pRT hh378).trans ((pNT hh373 (pN_n hh373 z372 e1688)).trans e1688))
        have e1690 : Tg h390 n282 = 118101 := ((pRT hh389).trans ((pNT hh384 (pN_n hh384 z383 e1689)).trans e1689))
        have e1691 : Tg h401 n282 = 118101 := ((pRT hh400).trans ((pNT hh395 (pN_n hh395 z394 e1690)).trans e1690))
        have e1692 : Tg h412 n282 = 118101 := ((pRT hh411).trans ((pNT hh406 (pN_n hh406 z405 e1691)).trans e1691))
        have e1693 : Tg h423 n282 = 118101 := ((pRT hh422).trans ((pNT hh417 (pN_n hh417 z416 e1692)).trans e1692))
        have e1694 : Tg h434 n282 = 118101 := ((pRT hh433).trans ((pNT hh428 (pN_n hh428 z427 e1693)).trans e1693))
        have e1695 : Tg h445 n282 = 118101 := ((pRT hh444).trans ((pNT hh439 (pN_n hh439 z438 e1694)).trans e1694))
        have e1696 : Tg h456 n282 = 118101 := ((pRT hh455).trans ((pNT hh450 (pN_n hh450 z449 e1695)).trans e1695))
        have e1697 : Tg h467 n282 = 118101 := ((pRT hh466).trans ((pNT hh461 (pN_n hh461 z460 e1696)).trans e1696))
        have e1698 : Tg h478 n282 = 118101 := ((pRT hh477).trans ((pNT hh472 (pN_n hh472 z471 e1697)).trans e1697))
        have e1699 : Tg h489 n282 = 118101 := ((pRT hh488).trans ((pNT hh483 (pN_n hh483 z482 e1698)).trans e1698))
        have e1700 : Tg h500 n282 = 118101 := ((pRT hh499).trans ((pNT hh494 (pN_n hh494 z493 e1699)).trans e1699))
        have e1701 : Tg h511 n282 = 118101 := ((pRT hh510).trans ((pNT hh505 (pN_n hh505 z504 e1700)).trans e1700))
        have e1702 : Tg h522 n282 = 118101 := ((pRT hh521).trans ((pNT hh516 (pN_n hh516 z515 e1701)).trans e1701))
        have e1703 : Tg h533 n282 = 118101 := ((pRT hh532).trans ((pNT hh527 (pN_n hh527 z526 e1702)).trans e1702))
        have e1704 : Tg h544 n282 = 118101 := ((pRT hh543).trans ((pNT hh538 (pN_n hh538 z537 e1703)).trans e1703))
        have e1705 : Tg h555 n282 = 118101 := ((pRT hh554).trans ((pNT hh549 (pN_n hh549 z548 e1704)).trans e1704))
        have e1706 : Tg h566 n282 = 118101 := ((pRT hh565).trans ((pNT hh560 (pN_n hh560 z559 e1705)).trans e1705))
        have e1707 : Tg h577 n282 = 118101 := ((pRT hh576).trans ((pNT hh571 (pN_n hh571 z570 e1706)).trans e1706))
        have e1708 : Tg h588 n282 = 118101 := ((pRT hh587).trans ((pNT hh582 (pN_n hh582 z581 e1707)).trans e1707))
        have e1709 : Tg h599 n282 = 118101 := ((pRT hh598).trans ((pNT hh593 (pN_n hh593 z592 e1708)).trans e1708))
        have e1710 : Tg h610 n282 = 118101 := ((pRT hh609).trans ((pNT hh604 (pN_n hh604 z603 e1709)).trans e1709))
        have e1711 : Tg h621 n282 = 118101 := ((pRT hh620).trans ((pNT hh615 (pN_n hh615 z614 e1710)).trans e1710))
        have e1712 : Tg h632 n282 = 118101 := ((pRT hh631).trans ((pNT hh626 (pN_n hh626 z625 e1711)).trans e1711))
        have e1713 : Tg h643 n282 = 118101 := ((pRT hh642).trans ((pNT hh637 (pN_n hh637 z636 e1712)).trans e1712))
        have e1714 : Tg h654 n282 = 118101 := ((pRT hh653).trans ((pNT hh648 (pN_n hh648 z647 e1713)).trans e1713))
        have e1715 : Tg h665 n282 = 118101 := ((pRT hh664).trans ((pNT hh659 (pN_n hh659 z658 e1714)).trans e1714))
        have e1716 : Tg h676 n282 = 118101 := ((pRT hh675).trans ((pNT hh670 (pN_n hh670 z669 e1715)).trans e1715))
        have e1717 : Tg h687 n282 = 118101 := ((pRT hh686).trans ((pNT hh681 (pN_n hh681 z680 e1716)).trans e1716))
        have e1718 : Tg h698 n282 = 118101 := ((pRT hh697).trans ((pNT hh692 (pN_n hh692 z691 e1717)).trans e1717))
        have e1719 : Tg h709 n282 = 118101 := ((pRT hh708).trans ((pNT hh703 (pN_n hh703 z702 e1718)).trans e1718))
        have e1720 : Tg h720 n282 = 118101 := ((pRT hh719).trans ((pNT hh714 (pN_n hh714 z713 e1719)).trans e1719))
        have e1721 : Tg h731 n282 = 118101 := ((pRT hh730).trans ((pNT hh725 (pN_n hh725 z724 e1720)).trans e1720))
        have e1722 : Tg h742 n282 = 118101 := ((pRT hh741).trans ((pNT hh736 (pN_n hh736 z735 e1721)).trans e1721))
        have e1723 : Tg h753 n282 = 118101 := ((pRT hh752).trans ((pNT hh747 (pN_n hh747 z746 e1722)).trans e1722))
        have e1724 : Tg h764 n282 = 118101 := ((pRT hh763).trans ((pNT hh758 (pN_n hh758 z757 e1723)).trans e1723))
        have e1725 : Tg h775 n282 = 118101 := ((pRT hh774).trans ((pNT hh769 (pN_n hh769 z768 e1724)).trans e1724))
        have e1726 : Tg h786 n282 = 118101 := ((pRT hh785).trans ((pNT hh780 (pN_n hh780 z779 e1725)).trans e1725))
        have e1727 : Tg h797 n282 = 118101 := ((pRT hh796).trans ((pNT hh791 (pN_n hh791 z790 e1726)).trans e1726))
        have e1728 : Tg h808 n282 = 118101 := ((pRT hh807).trans ((pNT hh802 (pN_n hh802 z801 e1727)).trans e1727))
        have e1729 : Tg h819 n282 = 118101 := ((pRT hh818).trans ((pNT hh813 (pN_n hh813 z812 e1728)).trans e1728))
        have e1730 : Tg h830 n282 = 118101 := ((pRT hh829).trans ((pNT hh824 (pN_n hh824 z823 e1729)).trans e1729))
        have e1731 : Tg h841 n282 = 118101 := ((pRT hh840).trans ((pNT hh835 (pN_n hh835 z834 e1730)).trans e1730))
        have e1732 : Tg h852 n282 = 118101 := ((pRT hh851).trans ((pNT hh846 (pN_n hh846 z845 e1731)).trans e1731))
        have e1733 : Tg h863 n282 = 118101 := ((pRT hh862).trans ((pNT hh857 (pN_n hh857 z856 e1732)).trans e1732))
        have e1734 : Tg h874 n282 = 118101 := ((pRT hh873).trans ((pNT hh868 (pN_n hh868 z867 e1733)).trans e1733))
        have e1735 : Tg h885 n282 = 118101 := ((pRT hh884).trans ((pNT hh879 (pN_n hh879 z878 e1734)).trans e1734))
        have e1736 : Tg h915 n282 = 118101 := ((pIT hh914).trans ((pIT hh910).trans (fxT F904 ((pRT hh895).trans ((pNT hh890 (pN_n hh890 z889 e1735)).trans e1735)))))
        have e1737 : Rv h915 a0 19 = n293 := ((pIR hh914).trans ((pIR hh910).trans ((fxR F904 e917 rfl).trans ((pR_j hh895 (by decide)).trans ((pNR hh890 (pN_n hh890 z889 e893)).trans ((pR_j hh884 (by decide)).trans ((pNR hh879 (pN_n hh879 z878 e882)).trans ((pR_j hh873 (by decide)).trans ((pNR hh868 (pN_n hh868 z867 e871)).trans ((pR_j hh862 (by decide)).trans ((pNR hh857 (pN_n hh857 z856 e860)).trans ((pR_j hh851 (by decide)).trans ((pNR hh846 (pN_n hh846 z845 e849)).trans ((pR_j hh840 (by decide)).trans ((pNR hh835 (pN_n hh835 z834 e838)).trans ((pR_j hh829 (by decide)).trans ((pNR hh824 (pN_n hh824 z823 e827)).trans ((pR_j hh818 (by decide)).trans ((pNR hh813 (pN_n hh813 z812 e816)).trans ((pR_j hh807 (by decide)).trans ((pNR hh802 (pN_n hh802 z801 e805)).trans ((pR_j hh796 (by decide)).trans ((pNR hh791 (pN_n hh791 z790 e794)).trans ((pR_j hh785 (by decide)).trans ((pNR hh780 (pN_n hh780 z779 e783)).trans ((pR_j hh774 (by decide)).trans ((pNR hh769 (pN_n hh769 z768 e772)).trans ((pR_j hh763 (by decide)).trans ((pNR hh758 (pN_n hh758 z757 e761)).trans ((pR_j hh752 (by decide)).trans ((pNR hh747 (pN_n hh747 z746 e750)).trans ((pR_j hh741 (by decide)).trans ((pNR hh736 (pN_n hh736 z735 e739)).trans ((pR_j hh730 (by decide)).trans ((pNR hh725 (pN_n hh725 z724 e728)).trans ((pR_j hh719 (by decide)).trans ((pNR hh714 (pN_n hh714 z713 e717)).trans ((pR_j hh708 (by decide)).trans ((pNR hh703 (pN_n hh703 z702 e706)).trans ((pR_j hh697 (by decide)).trans ((pNR hh692 (pN_n hh692 z691 e695)).trans ((pR_j hh686 (by decide)).trans ((pNR hh681 (pN_n hh681 z680 e684)).trans ((pR_j hh675 (by decide)).trans ((pNR hh670 (pN_n hh670 z669 e673)).trans ((pR_j hh664 (by decide)).trans ((pNR hh659 (pN_n hh659 z658 e662)).trans ((pR_j hh653 (by decide)).trans ((pNR hh648 (pN_n hh648 z647 e651)).trans ((pR_j hh642 (by decide)).trans ((pNR hh637 (pN_n hh637 z636 e640)).trans ((pR_j hh631 (by decide)).trans ((pNR hh626 (pN_n hh626 z625 e629)).trans ((pR_j hh620 (by decide)).trans ((pNR hh615 (pN_n hh615 z614 e618)).trans ((pR_j hh609 (by decide)).trans ((pNR hh604 (pN_n hh604 z603 e607)).trans ((pR_j hh598 (by decide)).trans ((pNR hh593 (pN_n hh593 z592 e596)).trans ((pR_j hh587 (by decide)).trans ((pNR hh582 (pN_n hh582 z581 e585)).trans ((pR_j hh576 (by decide)).trans ((pNR hh571 (pN_n hh571 z570 e574)).trans ((pR_j hh565 (by decide)).trans ((pNR hh560 (pN_n hh560 z559 e563)).trans ((pR_j hh554 (by decide)).trans ((pNR hh549 (pN_n hh549 z548 e552)).trans ((pR_j hh543 (by decide)).trans ((pNR hh538 (pN_n hh538 z537 e541)).trans ((pR_j hh532 (by decide)).trans ((pNR hh527 (pN_n hh527 z526 e530)).trans ((pR_j hh521 (by decide)).trans ((pNR hh516 (pN_n hh516 z515 e519)).trans ((pR_j hh510 (by decide)).trans ((pNR hh505 (pN_n hh505 z504 e508)).trans ((pR_j hh499 (by decide)).trans ((pNR hh494 (pN_n hh494 z493 e497)).trans ((pR_j hh488 (by decide)).trans ((pNR hh483 (pN_n hh483 z482 e486)).trans ((pR_j hh477 (by decide)).trans ((pNR hh472 (pN_n hh472 z471 e475)).trans ((pR_j hh466 (by decide)).trans ((pNR hh461 (pN_n hh461 z460 e464)).trans ((pR_j hh455 (by decide)).trans ((pNR hh450 (pN_n hh450 z449 e453)).trans ((pR_j hh444 (by decide)).trans ((pNR hh439 (pN_n hh439 z438 e442)).trans ((pR_j hh433 (by decide)).trans ((pNR hh428 (pN_n hh428 z427 e431)).trans ((pR_j hh422 (by decide)).trans ((pNR hh417 (pN_n hh417 z416 e420)).trans ((pR_j hh411 (by decide)).trans ((pNR hh406 (pN_n hh406 z405 e409)).trans ((pR_j hh400 (by decide)).trans ((pNR hh395 (pN_n hh395 z394 e398)).trans ((pR_j hh389 (by decide)).trans ((pNR hh384 (pN_n hh384 z383 e387)).trans ((pR_j hh378 (by decide)).trans ((pNR hh373 (pN_n hh373 z372 e376)).trans ((pR_j hh367 (by decide)).trans ((pNR hh362 (pN_n hh362 z361 e365)).trans ((pR_j hh356 (by decide)).trans ((pNR hh351 (pN_n hh351 z350 e354)).trans ((pR_j hh345 (by decide)).trans ((pNR hh340 (pN_n hh340 z339 e343)).trans ((pR_j hh334 (by decide)).trans ((pNR hh329 (pN_n hh329 z328 e332)).trans ((pR_j hh323 (by decide)).trans ((pNR hh318 (pN_n hh318 z317 e321)).trans ((pR_j hh312 (by decide)).trans ((pNR hh307 (pN_n hh307 z306 e310)).trans (pR_e hh301))))))))))))))))))))))))))))))))))))))))))))))))))))))))))))))))))))))))))))))))))))))))))))))))))))))))))))))))
        have e1738 : Tg h302 n293 = 119100 := ((pRT hh301).trans (pN_T hh296))
        have e1739 : Tg h313 n293 = 119100 := ((pRT hh312).trans ((pNT hh307 (pN_n hh307 z306 e1738)).trans e1738))
        have e1740 : Tg h324 n293 = 119100 := ((pRT hh323).trans ((pNT hh318 (pN_n hh318 z317 e1739)).trans e1739))
        have e1741 : Tg h335 n293 = 119100 := ((pRT hh334).trans ((pNT hh329 (pN_n hh329 z328 e1740)).trans e1740))
        have e1742 : Tg h346 n293 = 119100 := ((pRT hh345).trans ((pNT hh340 (pN_n hh340 z339 e1741)).trans e1741))
        have e1743 : Tg h357 n293 = 119100 := ((pRT hh356).trans ((pNT hh351 (pN_n hh351 z350 e1742)).trans e1742))
        have e1744 : Tg h368 n293 = 119100 := ((pRT hh367).trans ((pNT hh362 (pN_n hh362 z361 e1743)).trans e1743))
        have e1745 : Tg h379 n293 = 119100 := ((pRT hh378).trans ((pNT hh373 (pN_n hh373 z372 e1744)).trans e1744))
        have e1746 : Tg h390 n293 = 119100 := ((pRT hh389).trans ((pNT hh384 (pN_n hh384 z383 e1745)).trans e1745))
        have e1747 : Tg h401 n293 = 119100 := ((pRT hh400).trans ((pNT hh395 (pN_n hh395 z394 e1746)).trans e1746))
        have e1748 : Tg h412 n293 = 119100 := ((pRT hh411).trans ((pNT hh406 (pN_n hh406 z405 e1747)).trans e1747))
        have e1749 : Tg h423 n293 = 119100 := ((pRT hh422).trans ((pNT hh417 (pN_n hh417 z416 e1748)).trans e1748))
        have e1750 : Tg h434 n293 = 119100 := ((pRT hh433).trans ((pNT hh428 (pN_n hh428 z427 e1749)).trans e1749))
        have e1751 : Tg h445 n293 = 119100 := ((pRT hh444).trans ((pNT hh439 (pN_n hh439 z438 e1750)).trans e1750))
        have e1752 : Tg h456 n293 = 119100 := ((pRT hh455).trans ((pNT hh450 (pN_n hh450 z449 e1751)).trans e1751))
        have e1753 : Tg h467 n293 = 119100 := ((pRT hh466).trans ((pNT hh461 (pN_n hh461 z460 e1752)).trans e1752))
        have e1754 : Tg h478 n293 = 119100 := ((pRT hh477).trans ((pNT hh472 (pN_n hh472 z471 e1753)).trans e1753))
        have e1755 : Tg h489 n293 = 119100 := ((pRT hh488).trans ((pNT hh483 (pN_n hh483 z482 e1754)).trans e1754))
        have e1756 : Tg h500 n293 = 119100 := ((pRT hh499).trans ((pNT hh494 (pN_n hh494 z493 e1755)).trans e1755))
        have e1757 : Tg h511 n293 = 119100 := ((pRT hh510).trans ((pNT hh505 (pN_n hh505 z504 e1756)).trans e1756))
        have e1758 : Tg h522 n293 = 119100 := ((pRT hh521).trans ((pNT hh516 (pN_n hh516 z515 e1757)).trans e1757))
        have e1759 : Tg h533 n293 = 119100 := ((pRT hh532).trans ((pNT hh527 (pN_n hh527 z526 e1758)).trans e1758))
        have e1760 : Tg h544 n293 = 119100 := ((pRT hh543).trans ((pNT hh538 (pN_n hh538 z537 e1759)).trans e1759))
        have e1761 : Tg h555 n293 = 119100 := ((pRT hh554).trans ((pNT hh549 (pN_n hh549 z548 e1760)).trans e1760))
        have e1762 : Tg h566 n293 = 119100 := ((pRT hh565).trans ((pNT hh560 (pN_n hh560 z559 e1761)).trans e1761))
        have e1763 : Tg h577 n293 = 119100 := ((pRT hh576).trans ((pNT hh571 (pN_n hh571 z570 e1762)).trans e1762))
        have e1764 : Tg h588 n293 = 119100 := ((pRT hh587).trans ((pNT hh582 (pN_n hh582 z581 e1763)).trans e1763))
        have e1765 : Tg h599 n293 = 119100 := ((pRT hh598).trans ((pNT hh593 (pN_n hh593 z592 e1764)).trans e1764))
        have e1766 : Tg h610 n293 = 119100 := ((pRT hh609).trans ((pNT hh604 (pN_n hh604 z603 e1765)).trans e1765))
        have e1767 : Tg h621 n293 = 119100 := ((pRT hh620).trans ((pNT hh615 (pN_n hh615 z614 e1766)).trans e1766))
        have e1768 : Tg h632 n293 = 119100 := ((pRT hh631).trans ((pNT hh626 (pN_n hh626 z625 e1767)).trans e1767))
        have e1769 : Tg h643 n293 = 119100 := ((pRT hh642).trans ((pNT hh637 (pN_n hh637 z636 e1768)).trans e1768))
        have e1770 : Tg h654 n293 = 119100 := ((pRT hh653).trans ((pNT hh648 (pN_n hh648 z647 e1769)).trans e1769))
        have e1771 : Tg h665 n293 = 119100 := ((pRT hh664).trans ((pNT hh659 (pN_n hh659 z658 e1770)).trans e1770))
        have e1772 : Tg h676 n293 = 119100 := ((pRT hh675).trans ((pNT hh670 (pN_n hh670 z669 e1771)).trans e1771))
        have e1773 : Tg h687 n293 = 119100 := ((pRT hh686).trans ((pNT hh681 (pN_n hh681 z680 e1772)).trans e1772))
        have e1774 : Tg h698 n293 = 119100 := ((pRT hh697).trans ((pNT hh692 (pN_n hh692 z691 e1773)).trans e1773))
        have e1775 : Tg h709 n293 = 119100 := ((pRT hh708).trans ((pNT hh703 (pN_n hh703 z702 e1774)).trans e1774))
        have e1776 : Tg h720 n293 = 119100 := ((pRT hh719).trans ((pNT hh714 (pN_n hh714 z713 e1775)).trans e1775))
        have e1777 : Tg h731 n293 = 119100 := ((pRT hh730).trans ((pNT hh725 (pN_n hh725 z724 e1776)).trans e1776))
        have e1778 : Tg h742 n293 = 119100 := ((pRT hh741).trans ((pNT hh736 (pN_n hh736 z735 e1777)).trans e1777))
        have e1779 : Tg h753 n293 = 119100 := ((pRT hh752).trans ((pNT hh747 (pN_n hh747 z746 e1778)).trans e1778))
        have e1780 : Tg h764 n293 = 119100 := ((pRT hh763).trans ((pNT hh758 (pN_n hh758 z757 e1779)).trans e1779))
        have e1781 : Tg h775 n293 = 119100 := ((pRT hh774).trans ((pNT hh769 (pN_n hh769 z768 e1780)).trans e1780))
        have e1782 : Tg h786 n293 = 119100 := ((pRT hh785).trans ((pNT hh780 (pN_n hh780 z779 e1781)).trans e1781))
        have e1783 : Tg h797 n293 = 119100 := ((pRT hh796).trans ((pNT hh791 (pN_n hh791 z790 e1782)).trans e1782))
        have e1784 : Tg h808 n293 = 119100 := ((pRT hh807).trans ((pNT hh802 (pN_n hh802 z801 e1783)).trans e1783))
        have e1785 : Tg h819 n293 = 119100 := ((pRT hh818).trans ((pNT hh813 (pN_n hh813 z812 e1784)).trans e1784))
        have e1786 : Tg h830 n293 = 119100 := ((pRT hh829).trans ((pNT hh824 (pN_n hh824 z823 e1785)).trans e1785))
        have e1787 : Tg h841 n293 = 119100 := ((pRT hh840).trans ((pNT hh835 (pN_n hh835 z834 e1786)).trans e1786))
        have e1788 : Tg h852 n293 = 119100 := ((pRT hh851).trans ((pNT hh846 (pN_n hh846 z845 e1787)).trans e1787))
        have e1789 : Tg h863 n293 = 119100 := ((pRT hh862).trans ((pNT hh857 (pN_n hh857 z856 e1788)).trans e1788))
        have e1790 : Tg h874 n293 = 119100 := ((pRT hh873).trans ((pNT hh868 (pN_n hh868 z867 e1789)).trans e1789))
        have e1791 : Tg h885 n293 = 119100 := ((pRT hh884).trans ((pNT hh879 (pN_n hh879 z878 e1790)).trans e1790))
        have e1792 : Tg h915 n293 = 119100 := ((pIT hh914).trans ((pIT hh910).trans (fxT F904 ((pRT hh895).trans ((pNT hh890 (pN_n hh890 z889 e1791)).trans e1791)))))
        have e1793 : Rv h915 a0 20 = n304 := ((pIR hh914).trans ((pIR hh910).trans ((fxR F904 e917 rfl).trans ((pR_j hh895 (by decide)).trans ((pNR hh890 (pN_n hh890 z889 e893)).trans ((pR_j hh884 (by decide)).trans ((pNR hh879 (pN_n hh879 z878 e882)).trans ((pR_j hh873 (by decide)).trans ((pNR hh868 (pN_n hh868 z867 e871)).trans ((pR_j hh862 (by decide)).trans ((pNR hh857 (pN_n hh857 z856 e860)).trans ((pR_j hh851 (by decide)).trans ((pNR hh846 (pN_n hh846 z845 e849)).trans ((pR_j hh840 (by decide)).trans ((pNR hh835 (pN_n hh835 z834 e838)).trans ((pR_j hh829 (by decide)).trans ((pNR hh824 (pN_n hh824 z823 e827)).trans ((pR_j hh818 (by decide)).trans ((pNR hh813 (pN_n hh813 z812 e816)).trans ((pR_j hh807 (by decide)).trans ((pNR hh802 (pN_n hh802 z801 e805)).trans ((pR_j hh796 (by decide)).trans ((pNR hh791 (pN_n hh791 z790 e794)).trans ((pR_j hh785 (by decide)).trans ((pNR hh780 (pN_n hh780 z779 e783)).trans ((pR_j hh774 (by decide)).trans ((pNR hh769 (pN_n hh769 z768 e772)).trans ((pR_j hh763 (by decide)).trans ((pNR hh758 (pN_n hh758 z757 e761)).trans ((pR_j hh752 (by decide)).trans ((pNR hh747 (pN_n hh747 z746 e750)).trans ((pR_j hh741 (by decide)).trans ((pNR hh736 (pN_n hh736 z735 e739)).trans ((pR_j hh730 (by decide)).trans ((pNR hh725 (pN_n hh725 z724 e728)).trans ((pR_j hh719 (by decide)).trans ((pNR hh714 (pN_n hh714 z713 e717)).trans ((pR_j hh708 (by decide)).trans ((pNR hh703 (pN_n hh703 z702 e706)).trans ((pR_j hh697 (by decide)).trans ((pNR hh692 (pN_n hh692 z691 e695)).trans ((pR_j hh686 (by decide)).trans ((pNR hh681 (pN_n hh681 z680 e684)).trans ((pR_j hh675 (by decide)).trans ((pNR hh670 (pN_n hh670 z669 e673)).trans ((pR_j hh664 (by decide)).trans ((pNR hh659 (pN_n hh659 z658 e662)).trans ((pR_j hh653 (by decide)).trans ((pNR hh648 (pN_n hh648 z647 e651)).trans ((pR_j hh642 (by decide)).trans ((pNR hh637 (pN_n hh637 z636 e640)).trans ((pR_j hh631 (by decide)).trans ((pNR hh626 (pN_n hh626 z625 e629)).trans ((pR_j hh620 (by decide)).trans ((pNR hh615 (pN_n hh615 z614 e618)).trans ((pR_j hh609 (by decide)).trans ((pNR hh604 (pN_n hh604 z603 e607)).trans ((pR_j hh598 (by decide)).trans ((pNR hh593 (pN_n hh593 z592 e596)).trans ((pR_j hh587 (by decide)).trans ((pNR hh582 (pN_n hh582 z581 e585)).trans ((pR_j hh576 (by decide)).trans ((pNR hh571 (pN_n hh571 z570 e574)).trans ((pR_j hh565 (by decide)).trans ((pNR hh560 (pN_n hh560 z559 e563)).trans ((pR_j hh554 (by decide)).trans ((pNR hh549 (pN_n hh549 z548 e552)).trans ((pR_j hh543 (by decide)).trans ((pNR hh538 (pN_n hh538 z537 e541)).trans ((pR_j hh532 (by decide)).trans ((pNR hh527 (pN_n hh527 z526 e530)).trans ((pR_j hh521 (by decide)).trans ((pNR hh516 (pN_n hh516 z515 e519)).trans ((pR_j hh510 (by decide)).trans ((pNR hh505 (pN_n hh505 z504 e508)).trans ((pR_j hh499 (by decide)).trans ((pNR hh494 (pN_n hh494 z493 e497)).trans ((pR_j hh488 (by decide)).trans ((pNR hh483 (pN_n hh483 z482 e486)).trans ((pR_j hh477 (by decide)).trans ((pNR hh472 (pN_n hh472 z471 e475)).trans ((pR_j hh466 (by decide)).trans ((pNR hh461 (pN_n hh461 z460 e464)).trans ((pR_j hh455 (by decide)).trans ((pNR hh450 (pN_n hh450 z449 e453)).trans ((pR_j hh444 (by decide)).trans ((pNR hh439 (pN_n hh439 z438 e442)).trans ((pR_j hh433 (by decide)).trans ((pNR hh428 (pN_n hh428 z427 e431)).trans ((pR_j hh422 (by decide)).trans ((pNR hh417 (pN_n hh417 z416 e420)).trans ((pR_j hh411 (by decide)).trans ((pNR hh406 (pN_n hh406 z405 e409)).trans ((pR_j hh400 (by decide)).trans ((pNR hh395 (pN_n hh395 z394 e398)).trans ((pR_j hh389 (by decide)).trans ((pNR hh384 (pN_n hh384 z383 e387)).trans ((pR_j hh378 (by decide)).trans ((pNR hh373 (pN_n hh373 z372 e376)).trans ((pR_j hh367 (by decide)).trans ((pNR hh362 (pN_n hh362 z361 e365)).trans ((pR_j hh356 (by decide)).trans ((pNR hh351 (pN_n hh351 z350 e354)).trans ((pR_j hh345 (by decide)).trans ((pNR hh340 (pN_n hh340 z339 e343)).trans ((pR_j hh334 (by decide)).trans ((pNR hh329 (pN_n hh329 z328 e332)).trans ((pR_j hh323 (by decide)).trans ((pNR hh318 (pN_n hh318 z317 e321)).trans (pR_e hh312))))))))))))))))))))))))))))))))))))))))))))))))))))))))))))))))))))))))))))))))))))))))))))))))))))))))))))))
        have e1794 : Tg h313 n304 = 120101 := ((pRT hh312).trans (pN_T hh307))
        have e1795 : Tg h324 n304 = 120101 := ((pRT hh323).trans ((pNT hh318 (pN_n hh318 z317 e1794)).trans e1794))
        have e1796 : Tg h335 n304 = 120101 := ((pRT hh334).trans ((pNT hh329 (pN_n hh329 z328 e1795)).trans e1795))
        have e1797 : Tg h346 n304 = 120101 := ((pRT hh345).trans ((pNT hh340 (pN_n hh340 z339 e1796)).trans e1796))
        have e1798 : Tg h357 n304 = 120101 := ((pRT hh356).trans ((pNT hh351 (pN_n hh351 z350 e1797)).trans e1797))
        have e1799 : Tg h368 n304 = 120101 := ((pRT hh367).trans ((pNT hh362 (pN_n hh362 z361 e1798)).trans e1798))
        have e1800 : Tg h379 n304 = 120101 := ((pRT hh378).trans ((pNT hh373 (pN_n hh373 z372 e1799)).trans e1799))
        have e1801 : Tg h390 n304 = 120101 := ((pRT hh389).trans ((pNT hh384 (pN_n hh384 z383 e1800)).trans e1800))
        have e1802 : Tg h401 n304 = 120101 := ((pRT hh400).trans ((pNT hh395 (pN_n hh395 z394 e1801)).trans e1801))
        have e1803 : Tg h412 n304 = 120101 := ((pRT hh411).trans ((pNT hh406 (pN_n hh406 z405 e1802)).trans e1802))
        have e1804 : Tg h423 n304 = 120101 := ((pRT hh422).trans ((pNT hh417 (pN_n hh417 z416 e1803)).trans e1803))
        have e1805 : Tg h434 n304 = 120101 := ((pRT hh433).trans ((pNT hh428 (pN_n hh428 z427 e1804)).trans e1804))
        have e1806 : Tg h445 n304 = 120101 := ((pRT hh444).trans ((pNT hh439 (pN_n hh439 z438 e1805)).trans e1805))
        have e1807 : Tg h456 n304 = 120101 := ((pRT hh455).trans ((pNT hh450 (pN_n hh450 z449 e1806)).trans e1806))
        have e1808 : Tg h467 n304 = 120101 := ((pRT hh466).trans ((pNT hh461 (pN_n hh461 z460 e1807)).trans e1807))
        have e1809 : Tg h478 n304 = 120101 := ((pRT hh477).trans ((pNT hh472 (pN_n hh472 z471 e1808)).trans e1808))
        have e1810 : Tg h489 n304 = 120101 := ((pRT hh488).trans ((pNT hh483 (pN_n hh483 z482 e1809)).trans e1809))
        have e1811 : Tg h500 n304 = 120101 := ((pRT hh499).trans ((pNT hh494 (pN_n hh494 z493 e1810)).trans e1810))
        have e1812 : Tg h511 n304 = 120101 := ((pRT hh510).trans ((pNT hh505 (pN_n hh505 z504 e1811)).trans e1811))
        have e1813 : Tg h522 n304 = 120101 := ((pRT hh521).trans ((pNT hh516 (pN_n hh516 z515 e1812)).trans e1812))
        have e1814 : Tg h533 n304 = 120101 := ((pRT hh532).trans ((pNT hh527 (pN_n hh527 z526 e1813)).trans e1813))
        have e1815 : Tg h544 n304 = 120101 := ((pRT hh543).trans ((pNT hh538 (pN_n hh538 z537 e1814)).trans e1814))
        have e1816 : Tg h555 n304 = 120101 := ((pRT hh554).trans ((pNT hh549 (pN_n hh549 z548 e1815)).trans e1815))
        have e1817 : Tg h566 n304 = 120101 := ((pRT hh565).trans ((pNT hh560 (pN_n hh560 z559 e1816)).trans e1816))
        have e1818 : Tg h577 n304 = 120101 := ((pRT hh576).trans ((pNT hh571 (pN_n hh571 z570 e1817)).trans e1817))
        have e1819 : Tg h588 n304 = 120101 := ((pRT hh587).trans ((pNT hh582 (pN_n hh582 z581 e1818)).trans e1818))
        have e1820 : Tg h599 n304 = 120101 := ((pRT hh598).trans ((pNT hh593 (pN_n hh593 z592 e1819)).trans e1819))
        have e1821 : Tg h610 n304 = 120101 := ((pRT hh609).trans ((pNT hh604 (pN_n hh604 z603 e1820)).trans e1820))
        have e1822 : Tg h621 n304 = 120101 := ((pRT hh620).trans ((pNT hh615 (pN_n hh615 z614 e1821)).trans e1821))
        have e1823 : Tg h632 n304 = 120101 := ((pRT hh631).trans ((pNT hh626 (pN_n hh626 z625 e1822)).trans e1822))
        have e1824 : Tg h643 n304 = 120101 := ((pRT hh642).trans ((pNT hh637 (pN_n hh637 z636 e1823)).trans e1823))
        have e1825 : Tg h654 n304 = 120101 := ((pRT hh653).trans ((pNT hh648 (pN_n hh648 z647 e1824)).trans e1824))
        have e1826 : Tg h665 n304 = 120101 := ((pRT hh664).trans ((pNT hh659 (pN_n hh659 z658 e1825)).trans e1825))
        have e1827 : Tg h676 n304 = 120101 := ((pRT hh675).trans ((pNT hh670 (pN_n hh670 z669 e1826)).trans e1826))
        have e1828 : Tg h687 n304 = 120101 := ((pRT hh686).trans ((pNT hh681 (pN_n hh681 z680 e1827)).trans e1827))
        have e1829 : Tg h698 n304 = 120101 := ((pRT hh697).trans ((pNT hh692 (pN_n hh692 z691 e1828)).trans e1828))
        have e1830 : Tg h709 n304 = 120101 := ((pRT hh708).trans ((pNT hh703 (pN_n hh703 z702 e1829)).trans e1829))
        have e1831 : Tg h720 n304 = 120101 := ((pRT hh719).trans ((pNT hh714 (pN_n hh714 z713 e1830)).trans e1830))
        have e1832 : Tg h731 n304 = 120101 := ((pRT hh730).trans ((pNT hh725 (pN_n hh725 z724 e1831)).trans e1831))
        have e1833 : Tg h742 n304 = 120101 := ((pRT hh741).trans ((pNT hh736 (pN_n hh736 z735 e1832)).trans e1832))
        have e1834 : Tg h753 n304 = 120101 := ((pRT hh752).trans ((pNT hh747 (pN_n hh747 z746 e1833)).trans e1833))
        have e1835 : Tg h764 n304 = 120101 := ((pRT hh763).trans ((pNT hh758 (pN_n hh758 z757 e1834)).trans e1834))
        have e1836 : Tg h775 n304 = 120101 := ((pRT hh774).trans ((pNT hh769 (pN_n hh769 z768 e1835)).trans e1835))
        have e1837 : Tg h786 n304 = 120101 := ((pRT hh785).trans ((pNT hh780 (pN_n hh780 z779 e1836)).trans e1836))
        have e1838 : Tg h797 n304 = 120101 := ((pRT hh796).trans ((pNT hh791 (pN_n hh791 z790 e1837)).trans e1837))
        have e1839 : Tg h808 n304 = 120101 := ((pRT hh807).trans ((pNT hh802 (pN_n hh802 z801 e1838)).trans e1838))
        have e1840 : Tg h819 n304 = 120101 := ((pRT hh818).trans ((pNT hh813 (pN_n hh813 z812 e1839)).trans e1839))
        have e1841 : Tg h830 n304 = 120101 := ((pRT hh829).trans ((pNT hh824 (pN_n hh824 z823 e1840)).trans e1840))
        have e1842 : Tg h841 n304 = 120101 := ((pRT hh840).trans ((pNT hh835 (pN_n hh835 z834 e1841)).trans e1841))
        have e1843 : Tg h852 n304 = 120101 := ((pRT hh851).trans ((pNT hh846 (pN_n hh846 z845 e1842)).trans e1842))
        have e1844 : Tg h863 n304 = 120101 := ((pRT hh862).trans ((pNT hh857 (pN_n hh857 z856 e1843)).trans e1843))
        have e1845 : Tg h874 n304 = 120101 := ((pRT hh873).trans ((pNT hh868 (pN_n hh868 z867 e1844)).trans e1844))
        have e1846 : Tg h885 n304 = 120101 := ((pRT hh884).trans ((pNT hh879 (pN_n hh879 z878 e1845)).trans e1845))
        have e1847 : Tg h915 n304 = 120101 := ((pIT hh914).trans ((pIT hh910).trans (fxT F904 ((pRT hh895).trans ((pNT hh890 (pN_n hh890 z889 e1846)).trans e1846)))))
        have e1848 : Rv h915 a0 21 = n315 := ((pIR hh914).trans ((pIR hh910).trans ((fxR F904 e917 rfl).trans ((pR_j hh895 (by decide)).trans ((pNR hh890 (pN_n hh890 z889 e893)).trans ((pR_j hh884 (by decide)).trans ((pNR hh879 (pN_n hh879 z878 e882)).trans ((pR_j hh873 (by decide)).trans ((pNR hh868 (pN_n hh868 z867 e871)).trans ((pR_j hh862 (by decide)).trans ((pNR hh857 (pN_n hh857 z856 e860)).trans ((pR_j hh851 (by decide)).trans ((pNR hh846 (pN_n hh846 z845 e849)).trans ((pR_j hh840 (by decide)).trans ((pNR hh835 (pN_n hh835 z834 e838)).trans ((pR_j hh829 (by decide)).trans ((pNR hh824 (pN_n hh824 z823 e827)).trans ((pR_j hh818 (by decide)).trans ((pNR hh813 (pN_n hh813 z812 e816)).trans ((pR_j hh807 (by decide)).trans ((pNR hh802 (pN_n hh802 z801 e805)).trans ((pR_j hh796 (by decide)).trans ((pNR hh791 (pN_n hh791 z790 e794)).trans ((pR_j hh785 (by decide)).trans ((pNR hh780 (pN_n hh780 z779 e783)).trans ((pR_j hh774 (by decide)).trans ((pNR hh769 (pN_n hh769 z768 e772)).trans ((pR_j hh763 (by decide)).trans ((pNR hh758 (pN_n hh758 z757 e761)).trans ((pR_j hh752 (by decide)).trans ((pNR hh747 (pN_n hh747 z746 e750)).trans ((pR_j hh741 (by decide)).trans ((pNR hh736 (pN_n hh736 z735 e739)).trans ((pR_j hh730 (by decide)).trans ((pNR hh725 (pN_n hh725 z724 e728)).trans ((pR_j hh719 (by decide)).trans ((pNR hh714 (pN_n hh714 z713 e717)).trans ((pR_j hh708 (by decide)).trans ((pNR hh703 (pN_n hh703 z702 e706)).trans ((pR_j hh697 (by decide)).trans ((pNR hh692 (pN_n hh692 z691 e695)).trans ((pR_j hh686 (by decide)).trans ((pNR hh681 (pN_n hh681 z680 e684)).trans ((pR_j hh675 (by decide)).trans ((pNR hh670 (pN_n hh670 z669 e673)).trans ((pR_j hh664 (by decide)).trans ((pNR hh659 (pN_n hh659 z658 e662)).trans ((pR_j hh653 (by decide)).trans ((pNR hh648 (pN_n hh648 z647 e651)).trans ((pR_j hh642 (by decide)).trans ((pNR hh637 (pN_n hh637 z636 e640)).trans ((pR_j hh631 (by decide)).trans ((pNR hh626 (pN_n hh626 z625 e629)).trans ((pR_j hh620 (by decide)).trans ((pNR hh615 (pN_n hh615 z614 e618)).trans ((pR_j hh609 (by decide)).trans ((pNR hh604 (pN_n hh604 z603 e607)).trans ((pR_j hh598 (by decide)).trans ((pNR hh593 (pN_n hh593 z592 e596)).trans ((pR_j hh587 (by decide)).trans ((pNR hh582 (pN_n hh582 z581 e585)).trans ((pR_j hh576 (by decide)).trans ((pNR hh571 (pN_n hh571 z570 e574)).trans ((pR_j hh565 (by decide)).trans ((pNR hh560 (pN_n hh560 z559 e563)).trans ((pR_j hh554 (by decide)).trans ((pNR hh549 (pN_n hh549 z548 e552)).trans ((pR_j hh543 (by decide)).trans ((pNR hh538 (pN_n hh538 z537 e541)).trans ((pR_j hh532 (by decide)).trans ((pNR hh527 (pN_n hh527 z526 e530)).trans ((pR_j hh521 (by decide)).trans ((pNR hh516 (pN_n hh516 z515 e519)).trans ((pR_j hh510 (by decide)).trans ((pNR hh505 (pN_n hh505 z504 e508)).trans ((pR_j hh499 (by decide)).trans ((pNR hh494 (pN_n hh494 z493 e497)).trans ((pR_j hh488 (by decide)).trans ((pNR hh483 (pN_n hh483 z482 e486)).trans ((pR_j hh477 (by decide)).trans ((pNR hh472 (pN_n hh472 z471 e475)).trans ((pR_j hh466 (by decide)).trans ((pNR hh461 (pN_n hh461 z460 e464)).trans ((pR_j hh455 (by decide)).trans ((pNR hh450 (pN_n hh450 z449 e453)).trans ((pR_j hh444 (by decide)).trans ((pNR hh439 (pN_n hh439 z438 e442)).trans ((pR_j hh433 (by decide)).trans ((pNR hh428 (pN_n hh428 z427 e431)).trans ((pR_j hh422 (by decide)).trans ((pNR hh417 (pN_n hh417 z416 e420)).trans ((pR_j hh411 (by decide)).trans ((pNR hh406 (pN_n hh406 z405 e409)).trans ((pR_j hh400 (by decide)).trans ((pNR hh395 (pN_n hh395 z394 e398)).trans ((pR_j hh389 (by decide)).trans ((pNR hh384 (pN_n hh384 z383 e387)).trans ((pR_j hh378 (by decide)).trans ((pNR hh373 (pN_n hh373 z372 e376)).trans ((pR_j hh367 (by decide)).trans ((pNR hh362 (pN_n hh362 z361 e365)).trans ((pR_j hh356 (by decide)).trans ((pNR hh351 (pN_n hh351 z350 e354)).trans ((pR_j hh345 (by decide)).trans ((pNR hh340 (pN_n hh340 z339 e343)).trans ((pR_j hh334 (by decide)).trans ((pNR hh329 (pN_n hh329 z328 e332)).trans (pR_e hh323))))))))))))))))))))))))))))))))))))))))))))))))))))))))))))))))))))))))))))))))))))))))))))))))))))))))))))
        have e1849 : Tg h324 n315 = 121100 := ((pRT hh323).trans (pN_T hh318))
        have e1850 : Tg h335 n315 = 121100 := ((pRT hh334).trans ((pNT hh329 (pN_n hh329 z328 e1849)).trans e1849))
        have e1851 : Tg h346 n315 = 121100 := ((pRT hh345).trans ((pNT hh340 (pN_n hh340 z339 e1850)).trans e1850))
        have e1852 : Tg h357 n315 = 121100 := ((pRT hh356).trans ((pNT hh351 (pN_n hh351 z350 e1851)).trans e1851))
        have e1853 : Tg h368 n315 = 121100 := ((pRT hh367).trans ((pNT hh362 (pN_n hh362 z361 e1852)).trans e1852))
        have e1854 : Tg h379 n315 = 121100 := ((pRT hh378).trans ((pNT hh373 (pN_n hh373 z372 e1853)).trans e1853))
        have e1855 : Tg h390 n315 = 121100 := ((pRT hh389).trans ((pNT hh384 (pN_n hh384 z383 e1854)).trans e1854))
        have e1856 : Tg h401 n315 = 121100 := ((pRT hh400).trans ((pNT hh395 (pN_n hh395 z394 e1855)).trans e1855))
        have e1857 : Tg h412 n315 = 121100 := ((pRT hh411).trans ((pNT hh406 (pN_n hh406 z405 e1856)).trans e1856))
        have e1858 : Tg h423 n315 = 121100 := ((pRT hh422).trans ((pNT hh417 (pN_n hh417 z416 e1857)).trans e1857))
        have e1859 : Tg h434 n315 = 121100 := ((pRT hh433).trans ((pNT hh428 (pN_n hh428 z427 e1858)).trans e1858))
        have e1860 : Tg h445 n315 = 121100 := ((pRT hh444).trans ((pNT hh439 (pN_n hh439 z438 e1859)).trans e1859))
        have e1861 : Tg h456 n315 = 121100 := ((pRT hh455).trans ((pNT hh450 (pN_n hh450 z449 e1860)).trans e1860))
        have e1862 : Tg h467 n315 = 121100 := ((pRT hh466).trans ((pNT hh461 (pN_n hh461 z460 e1861)).trans e1861))
        have e1863 : Tg h478 n315 = 121100 := ((pRT hh477).trans ((pNT hh472 (pN_n hh472 z471 e1862)).trans e1862))
        have e1864 : Tg h489 n315 = 121100 := ((pRT hh488).trans ((pNT hh483 (pN_n hh483 z482 e1863)).trans e1863))
        have e1865 : Tg h500 n315 = 121100 := ((pRT hh499).trans ((pNT hh494 (pN_n hh494 z493 e1864)).trans e1864))
        have e1866 : Tg h511 n315 = 121100 := ((pRT hh510).trans ((pNT hh505 (pN_n hh505 z504 e1865)).trans e1865))
        have e1867 : Tg h522 n315 = 121100 := ((pRT hh521).trans ((pNT hh516 (pN_n hh516 z515 e1866)).trans e1866))
        have e1868 : Tg h533 n315 = 121100 := ((pRT hh532).trans ((pNT hh527 (pN_n hh527 z526 e1867)).trans e1867))
        have e1869 : Tg h544 n315 = 121100 := ((pRT hh543).trans ((pNT hh538 (pN_n hh538 z537 e1868)).trans e1868))
        have e1870 : Tg h555 n315 = 121100 := ((pRT hh554).trans ((pNT hh549 (pN_n hh549 z548 e1869)).trans e1869))
        have e1871 : Tg h566 n315 = 121100 := ((pRT hh565).trans ((pNT hh560 (pN_n hh560 z559 e1870)).trans e1870))
        have e1872 : Tg h577 n315 = 121100 := ((pRT hh576).trans ((pNT hh571 (pN_n hh571 z570 e1871)).trans e1871))
        have e1873 : Tg h588 n315 = 121100 := ((pRT hh587).trans ((pNT hh582 (pN_n hh582 z581 e1872)).trans e1872))
        have e1874 : Tg h599 n315 = 121100 := ((pRT hh598).trans ((pNT hh593 (pN_n hh593 z592 e1873)).trans e1873))
        have e1875 : Tg h610 n315 = 121100 := ((pRT hh609).trans ((pNT hh604 (pN_n hh604 z603 e1874)).trans e1874))
        have e1876 : Tg h621 n315 = 121100 := ((pRT hh620).trans ((pNT hh615 (pN_n hh615 z614 e1875)).trans e1875))
        have e1877 : Tg h632 n315 = 121100 := ((pRT hh631).trans ((pNT hh626 (pN_n hh626 z625 e1876)).trans e1876))
        have e1878 : Tg h643 n315 = 121100 := ((pRT hh642).trans ((pNT hh637 (pN_n hh637 z636 e1877)).trans e1877))
        have e1879 : Tg h654 n315 = 121100 := ((pRT hh653).trans ((pNT hh648 (pN_n hh648 z647 e1878)).trans e1878))
        have e1880 : Tg h665 n315 = 121100 := ((pRT hh664).trans ((pNT hh659 (pN_n hh659 z658 e1879)).trans e1879))
        have e1881 : Tg h676 n315 = 121100 := ((pRT hh675).trans ((pNT hh670 (pN_n hh670 z669 e1880)).trans e1880))
        have e1882 : Tg h687 n315 = 121100 := ((pRT hh686).trans ((pNT hh681 (pN_n hh681 z680 e1881)).trans e1881))
        have e1883 : Tg h698 n315 = 121100 := ((pRT hh697).trans ((pNT hh692 (pN_n hh692 z691 e1882)).trans e1882))
        have e1884 : Tg h709 n315 = 121100 := ((pRT hh708).trans ((pNT hh703 (pN_n hh703 z702 e1883)).trans e1883))
        have e1885 : Tg h720 n315 = 121100 := ((pRT hh719).trans ((pNT hh714 (pN_n hh714 z713 e1884)).trans e1884))
        have e1886 : Tg h731 n315 = 121100 := ((pRT hh730).trans ((pNT hh725 (pN_n hh725 z724 e1885)).trans e1885))
        have e1887 : Tg h742 n315 = 121100 := ((pRT hh741).trans ((pNT hh736 (pN_n hh736 z735 e1886)).trans e1886))
        have e1888 : Tg h753 n315 = 121100 := ((pRT hh752).trans ((pNT hh747 (pN_n hh747 z746 e1887)).trans e1887))
        have e1889 : Tg h764 n315 = 121100 := ((pRT hh763).trans ((pNT hh758 (pN_n hh758 z757 e1888)).trans e1888))
        have e1890 : Tg h775 n315 = 121100 := ((pRT hh774).trans ((pNT hh769 (pN_n hh769 z768 e1889)).trans e1889))
        have e1891 : Tg h786 n315 = 121100 := ((pRT hh785).trans ((pNT hh780 (pN_n hh780 z779 e1890)).trans e1890))
        have e1892 : Tg h797 n315 = 121100 := ((pRT hh796).trans ((pNT hh791 (pN_n hh791 z790 e1891)).trans e1891))
        have e1893 : Tg h808 n315 = 121100 := ((pRT hh807).trans ((pNT hh802 (pN_n hh802 z801 e1892)).trans e1892))
        have e1894 : Tg h819 n315 = 121100 := ((pRT hh818).trans ((pNT hh813 (pN_n hh813 z812 e1893)).trans e1893))
        have e1895 : Tg h830 n315 = 121100 := ((pRT hh829).trans ((pNT hh824 (pN_n hh824 z823 e1894)).trans e1894))
        have e1896 : Tg h841 n315 = 121100 := ((pRT hh840).trans ((pNT hh835 (pN_n hh835 z834 e1895)).trans e1895))
        have e1897 : Tg h852 n315 = 121100 := ((pRT hh851).trans ((pNT hh846 (pN_n hh846 z845 e1896)).trans e1896))
        have e1898 : Tg h863 n315 = 121100 := ((pRT hh862).trans ((pNT hh857 (pN_n hh857 z856 e1897)).trans e1897))
        have e1899 : Tg h874 n315 = 121100 := ((pRT hh873).trans ((pNT hh868 (pN_n hh868 z867 e1898)).trans e1898))
        have e1900 : Tg h885 n315 = 121100 := ((pRT hh884).trans ((pNT hh879 (pN_n hh879 z878 e1899)).trans e1899))
        have e1901 : Tg h915 n315 = 121100 := ((pIT hh914).trans ((pIT hh910).trans (fxT F904 ((pRT hh895).trans ((pNT hh890 (pN_n hh890 z889 e1900)).trans e1900)))))
        have e1902 : Rv h915 a0 22 = n326 := ((pIR hh914).trans ((pIR hh910).trans ((fxR F904 e917 rfl).trans ((pR_j hh895 (by decide)).trans ((pNR hh890 (pN_n hh890 z889 e893)).trans ((pR_j hh884 (by decide)).trans ((pNR hh879 (pN_n hh879 z878 e882)).trans ((pR_j hh873 (by decide)).trans ((pNR hh868 (pN_n hh868 z867 e871)).trans ((pR_j hh862 (by decide)).trans ((pNR hh857 (pN_n hh857 z856 e860)).trans ((pR_j hh851 (by decide)).trans ((pNR hh846 (pN_n hh846 z845 e849)).trans ((pR_j hh840 (by decide)).trans ((pNR hh835 (pN_n hh835 z834 e838)).trans ((pR_j hh829 (by decide)).trans ((pNR hh824 (pN_n hh824 z823 e827)).trans ((pR_j hh818 (by decide)).trans ((pNR hh813 (pN_n hh813 z812 e816)).trans ((pR_j hh807 (by decide)).trans ((pNR hh802 (pN_n hh802 z801 e805)).trans ((pR_j hh796 (by decide)).trans ((pNR hh791 (pN_n hh791 z790 e794)).trans ((pR_j hh785 (by decide)).trans ((pNR hh780 (pN_n hh780 z779 e783)).trans ((pR_j hh774 (by decide)).trans ((pNR hh769 (pN_n hh769 z768 e772)).trans ((pR_j hh763 (by decide)).trans ((pNR hh758 (pN_n hh758 z757 e761)).trans ((pR_j hh752 (by decide)).trans ((pNR hh747 (pN_n hh747 z746 e750)).trans ((pR_j hh741 (by decide)).trans ((pNR hh736 (pN_n hh736 z735 e739)).trans ((pR_j hh730 (by decide)).trans ((pNR hh725 (pN_n hh725 z724 e728)).trans ((pR_j hh719 (by decide)).trans ((pNR hh714 (pN_n hh714 z713 e717)).trans ((pR_j hh708 (by decide)).trans ((pNR hh703 (pN_n hh703 z702 e706)).trans ((pR_j hh697 (by decide)).trans ((pNR hh692 (pN_n hh692 z691 e695)).trans ((pR_j hh686 (by decide)).trans ((pNR hh681 (pN_n hh681 z680 e684)).trans ((pR_j hh675 (by decide)).trans ((pNR hh670 (pN_n hh670 z669 e673)).trans ((pR_j hh664 (by decide)).trans ((pNR hh659 (pN_n hh659 z658 e662)).trans ((pR_j hh653 (by decide)).trans ((pNR hh648 (pN_n hh648 z647 e651)).trans ((pR_j hh642 (by decide)).trans ((pNR hh637 (pN_n hh637 z636 e640)).trans ((pR_j hh631 (by decide)).trans ((pNR hh626 (pN_n hh626 z625 e629)).trans ((pR_j hh620 (by decide)).trans ((pNR hh615 (pN_n hh615 z614 e618)).trans ((pR_j hh609 (by decide)).trans ((pNR hh604 (pN_n hh604 z603 e607)).trans ((pR_j hh598 (by decide)).trans ((pNR hh593 (pN_n hh593 z592 e596)).trans ((pR_j hh587 (by decide)).trans ((pNR hh582 (pN_n hh582 z581 e585)).trans ((pR_j hh576 (by decide)).trans ((pNR hh571 (pN_n hh571 z570 e574)).trans ((pR_j hh565 (by decide)).trans ((pNR hh560 (pN_n hh560 z559 e563)).trans ((pR_j hh554 (by decide)).trans ((pNR hh549 (pN_n hh549 z548 e552)).trans ((pR_j hh543 (by decide)).trans ((pNR hh538 (pN_n hh538 z537 e541)).trans ((pR_j hh532 (by decide)).trans ((pNR hh527 (pN_n hh527 z526 e530)).trans ((pR_j hh521 (by decide)).trans ((pNR hh516 (pN_n hh516 z515 e519)).trans ((pR_j hh510 (by decide)).trans ((pNR hh505 (pN_n hh505 z504 e508)).trans ((pR_j hh499 (by decide)).trans ((pNR hh494 (pN_n hh494 z493 e497)).trans ((pR_j hh488 (by decide)).trans ((pNR hh483 (pN_n hh483 z482 e486)).trans ((pR_j hh477 (by decide)).trans ((pNR hh472 (pN_n hh472 z471 e475)).trans ((pR_j hh466 (by decide)).trans ((pNR hh461 (pN_n hh461 z460 e464)).trans ((pR_j hh455 (by decide)).trans ((pNR hh450 (pN_n hh450 z449 e453)).trans ((pR_j hh444 (by decide)).trans ((pNR hh439 (pN_n hh439 z438 e442)).trans ((pR_j hh433 (by decide)).trans ((pNR hh428 (pN_n hh428 z427 e431)).trans ((pR_j hh422 (by decide)).trans ((pNR hh417 (pN_n hh417 z416 e420)).trans ((pR_j hh411 (by decide)).trans ((pNR hh406 (pN_n hh406 z405 e409)).trans ((pR_j hh400 (by decide)).trans ((pNR hh395 (pN_n hh395 z394 e398)).trans ((pR_j hh389 (by decide)).trans ((pNR hh384 (pN_n hh384 z383 e387)).trans ((pR_j hh378 (by decide)).trans ((pNR hh373 (pN_n hh373 z372 e376)).trans ((pR_j hh367 (by decide)).trans ((pNR hh362 (pN_n hh362 z361 e365)).trans ((pR_j hh356 (by decide)).trans ((pNR hh351 (pN_n hh351 z350 e354)).trans ((pR_j hh345 (by decide)).trans ((pNR hh340 (pN_n hh340 z339 e343)).trans (pR_e hh334))))))))))))))))))))))))))))))))))))))))))))))))))))))))))))))))))))))))))))))))))))))))))))))))))))))))))
        have e1903 : Tg h335 n326 = 122100 := ((pRT hh334).trans (pN_T hh329))
        have e1904 : Tg h346 n326 = 122100 := ((pRT hh345).trans ((pNT hh340 (pN_n hh340 z339 e1903)).trans e1903))
        have e1905 : Tg h357 n326 = 122100 := ((pRT hh356).trans ((pNT hh351 (pN_n hh351 z350 e1904)).trans e1904))
        have e1906 : Tg h368 n326 = 122100 := ((pRT hh367).trans ((pNT hh362 (pN_n hh362 z361 e1905)).trans e1905))
        have e1907 : Tg h379 n326 = 122100 := ((pRT hh378).trans ((pNT hh373 (pN_n hh373 z372 e1906)).trans e1906))
        have e1908 : Tg h390 n326 = 122100 := ((pRT hh389).trans ((pNT hh384 (pN_n hh384 z383 e1907)).trans e1907))
        have e1909 : Tg h401 n326 = 122100 := ((pRT hh400).trans ((pNT hh395 (pN_n hh395 z394 e1908)).trans e1908))
        have e1910 : Tg h412 n326 = 122100 := ((pRT hh411).trans ((pNT hh406 (pN_n hh406 z405 e1909)).trans e1909))
        have e1911 : Tg h423 n326 = 122100 := ((pRT hh422).trans ((pNT hh417 (pN_n hh417 z416 e1910)).trans e1910))
        have e1912 : Tg h434 n326 = 122100 := ((pRT hh433).trans ((pNT hh428 (pN_n hh428 z427 e1911)).trans e1911))
        have e1913 : Tg h445 n326 = 122100 := ((pRT hh444).trans ((pNT hh439 (pN_n hh439 z438 e1912)).trans e1912))
        have e1914 : Tg h456 n326 = 122100 := ((pRT hh455).trans ((pNT hh450 (pN_n hh450 z449 e1913)).trans e1913))
        have e1915 : Tg h467 n326 = 122100 := ((pRT hh466).trans ((pNT hh461 (pN_n hh461 z460 e1914)).trans e1914))
        have e1916 : Tg h478 n326 = 122100 := ((pRT hh477).trans ((pNT hh472 (pN_n hh472 z471 e1915)).trans e1915))
        have e1917 : Tg h489 n326 = 122100 := ((pRT hh488).trans ((pNT hh483 (pN_n hh483 z482 e1916)).trans e1916))
        have e1918 : Tg h500 n326 = 122100 := ((pRT hh499).trans ((pNT hh494 (pN_n hh494 z493 e1917)).trans e1917))
        have e1919 : Tg h511 n326 = 122100 := ((pRT hh510).trans ((pNT hh505 (pN_n hh505 z504 e1918)).trans e1918))
        have e1920 : Tg h522 n326 = 122100 := ((pRT hh521).trans ((pNT hh516 (pN_n hh516 z515 e1919)).trans e1919))
        have e1921 : Tg h533 n326 = 122100 := ((pRT hh532).trans ((pNT hh527 (pN_n hh527 z526 e1920)).trans e1920))
        have e1922 : Tg h544 n326 = 122100 := ((pRT hh543).trans ((pNT hh538 (pN_n hh538 z537 e1921)).trans e1921))
        have e1923 : Tg h555 n326 = 122100 := ((pRT hh554).trans ((pNT hh549 (pN_n hh549 z548 e1922)).trans e1922))
        have e1924 : Tg h566 n326 = 122100 := ((pRT hh565).trans ((pNT hh560 (pN_n hh560 z559 e1923)).trans e1923))
        have e1925 : Tg h577 n326 = 122100 := ((pRT hh576).trans ((pNT hh571 (pN_n hh571 z570 e1924)).trans e1924))
        have e1926 : Tg h588 n326 = 122100 := ((pRT hh587).trans ((pNT hh582 (pN_n hh582 z581 e1925)).trans e1925))
        have e1927 : Tg h599 n326 = 122100 := ((pRT hh598).trans ((pNT hh593 (pN_n hh593 z592 e1926)).trans e1926))
        have e1928 : Tg h610 n326 = 122100 := ((pRT hh609).trans ((pNT hh604 (pN_n hh604 z603 e1927)).trans e1927))
        have e1929 : Tg h621 n326 = 122100 := ((pRT hh620).trans ((pNT hh615 (pN_n hh615 z614 e1928)).trans e1928))
        have e1930 : Tg h632 n326 = 122100 := ((pRT hh631).trans ((pNT hh626 (pN_n hh626 z625 e1929)).trans e1929))
        have e1931 : Tg h643 n326 = 122100 := ((pRT hh642).trans ((pNT hh637 (pN_n hh637 z636 e1930)).trans e1930))
        have e1932 : Tg h654 n326 = 122100 := ((pRT hh653).trans ((pNT hh648 (pN_n hh648 z647 e1931)).trans e1931))
        have e1933 : Tg h665 n326 = 122100 := ((pRT hh664).trans ((pNT hh659 (pN_n hh659 z658 e1932)).trans e1932))
        have e1934 : Tg h676 n326 = 122100 := ((pRT hh675).trans ((pNT hh670 (pN_n hh670 z669 e1933)).trans e1933))
        have e1935 : Tg h687 n326 = 122100 := ((pRT hh686).trans ((pNT hh681 (pN_n hh681 z680 e1934)).trans e1934))
        have e1936 : Tg h698 n326 = 122100 := ((pRT hh697).trans ((pNT hh692 (pN_n hh692 z691 e1935)).trans e1935))
        have e1937 : Tg h709 n326 = 122100 := ((pRT hh708).trans ((pNT hh703 (pN_n hh703 z702 e1936)).trans e1936))
        have e1938 : Tg h720 n326 = 122100 := ((pRT hh719).trans ((pNT hh714 (pN_n hh714 z713 e1937)).trans e1937))
        have e1939 : Tg h731 n326 = 122100 := ((pRT hh730).trans ((pNT hh725 (pN_n hh725 z724 e1938)).trans e1938))
        have e1940 : Tg h742 n326 = 122100 := ((pRT hh741).trans ((pNT hh736 (pN_n hh736 z735 e1939)).trans e1939))
        have e1941 : Tg h753 n326 = 122100 := ((pRT hh752).trans ((pNT hh747 (pN_n hh747 z746 e1940)).trans e1940))
        have e1942 : Tg h764 n326 = 122100 := ((pRT hh763).trans ((pNT hh758 (pN_n hh758 z757 e1941)).trans e1941))
        have e1943 : Tg h775 n326 = 122100 := ((pRT hh774).trans ((pNT hh769 (pN_n hh769 z768 e1942)).trans e1942))
        have e1944 : Tg h786 n326 = 122100 := ((pRT hh785).trans ((pNT hh780 (pN_n hh780 z779 e1943)).trans e1943))
        have e1945 : Tg h797 n326 = 122100 := ((pRT hh796).trans ((pNT hh791 (pN_n hh791 z790 e1944)).trans e1944))
        have e1946 : Tg h808 n326 = 122100 := ((pRT hh807).trans ((pNT hh802 (pN_n hh802 z801 e1945)).trans e1945))
        have e1947 : Tg h819 n326 = 122100 := ((pRT hh818).trans ((pNT hh813 (pN_n hh813 z812 e1946)).trans e1946))
        have e1948 : Tg h830 n326 = 122100 := ((pRT hh829).trans ((pNT hh824 (pN_n hh824 z823 e1947)).trans e1947))
        have e1949 : Tg h841 n326 = 122100 := ((pRT hh840).trans ((pNT hh835 (pN_n hh835 z834 e1948)).trans e1948))
        have e1950 : Tg h852 n326 = 122100 := ((pRT hh851).trans ((pNT hh846 (pN_n hh846 z845 e1949)).trans e1949))
        have e1951 : Tg h863 n326 = 122100 := ((pRT hh862).trans ((pNT hh857 (pN_n hh857 z856 e1950)).trans e1950))
        have e1952 : Tg h874 n326 = 122100 := ((pRT hh873).trans ((pNT hh868 (pN_n hh868 z867 e1951)).trans e1951))
        have e1953 : Tg h885 n326 = 122100 := ((pRT hh884).trans ((pNT hh879 (pN_n hh879 z878 e1952)).trans e1952))
        have e1954 : Tg h915 n326 = 122100 := ((pIT hh914).trans ((pIT hh910).trans (fxT F904 ((pRT hh895).trans ((pNT hh890 (pN_n hh890 z889 e1953)).trans e1953)))))
        have e1955 : Rv h915 a0 23 = n337 := ((pIR hh914).trans ((pIR hh910).trans ((fxR F904 e917 rfl).trans ((pR_j hh895 (by decide)).trans ((pNR hh890 (pN_n hh890 z889 e893)).trans ((pR_j hh884 (by decide)).trans ((pNR hh879 (pN_n hh879 z878 e882)).trans ((pR_j hh873 (by decide)).trans ((pNR hh868 (pN_n hh868 z867 e871)).trans ((pR_j hh862 (by decide)).trans ((pNR hh857 (pN_n hh857 z856 e860)).trans ((pR_j hh851 (by decide)).trans ((pNR hh846 (pN_n hh846 z845 e849)).trans ((pR_j hh840 (by decide)).trans ((pNR hh835 (pN_n hh835 z834 e838)).trans ((pR_j hh829 (by decide)).trans ((pNR hh824 (pN_n hh824 z823 e827)).trans ((pR_j hh818 (by decide)).trans ((pNR hh813 (pN_n hh813 z812 e816)).trans ((pR_j hh807 (by decide)).trans ((pNR hh802 (pN_n hh802 z801 e805)).trans ((pR_j hh796 (by decide)).trans ((pNR hh791 (pN_n hh791 z790 e794)).trans ((pR_j hh785 (by decide)).trans ((pNR hh780 (pN_n hh780 z779 e783)).trans ((pR_j hh774 (by decide)).trans ((pNR hh769 (pN_n hh769 z768 e772)).trans ((pR_j hh763 (by decide)).trans ((pNR hh758 (pN_n hh758 z757 e761)).trans ((pR_j hh752 (by decide)).trans ((pNR hh747 (pN_n hh747 z746 e750)).trans ((pR_j hh741 (by decide)).trans ((pNR hh736 (pN_n hh736 z735 e739)).trans ((pR_j hh730 (by decide)).trans ((pNR hh725 (pN_n hh725 z724 e728)).trans ((pR_j hh719 (by decide)).trans ((pNR hh714 (pN_n hh714 z713 e717)).trans ((pR_j hh708 (by decide)).trans ((pNR hh703 (pN_n hh703 z702 e706)).trans ((pR_j hh697 (by decide)).trans ((pNR hh692 (pN_n hh692 z691 e695)).trans ((pR_j hh686 (by decide)).trans ((pNR hh681 (pN_n hh681 z680 e684)).trans ((pR_j hh675 (by decide)).trans ((pNR hh670 (pN_n hh670 z669 e673)).trans ((pR_j hh664 (by decide)).trans ((pNR hh659 (pN_n hh659 z658 e662)).trans ((pR_j hh653 (by decide)).trans ((pNR hh648 (pN_n hh648 z647 e651)).trans ((pR_j hh642 (by decide)).trans ((pNR hh637 (pN_n hh637 z636 e640)).trans ((pR_j hh631 (by decide)).trans ((pNR hh626 (pN_n hh626 z625 e629)).trans ((pR_j hh620 (by decide)).trans ((pNR hh615 (pN_n hh615 z614 e618)).trans ((pR_j hh609 (by decide)).trans ((pNR hh604 (pN_n hh604 z603 e607)).trans ((pR_j hh598 (by decide)).trans ((pNR hh593 (pN_n hh593 z592 e596)).trans ((pR_j hh587 (by decide)).trans ((pNR hh582 (pN_n hh582 z581 e585)).trans ((pR_j hh576 (by decide)).trans ((pNR hh571 (pN_n hh571 z570 e574)).trans ((pR_j hh565 (by decide)).trans ((pNR hh560 (pN_n hh560 z559 e563)).trans ((pR_j hh554 (by decide)).trans ((pNR hh549 (pN_n hh549 z548 e552)).trans ((pR_j hh543 (by decide)).trans ((pNR hh538 (pN_n hh538 z537 e541)).trans ((pR_j hh532 (by decide)).trans ((pNR hh527 (pN_n hh527 z526 e530)).trans ((pR_j hh521 (by decide)).trans ((pNR hh516 (pN_n hh516 z515 e519)).trans ((pR_j hh510 (by decide)).trans ((pNR hh505 (pN_n hh505 z504 e508)).trans ((pR_j hh499 (by decide)).trans ((pNR hh494 (pN_n hh494 z493 e497)).trans ((pR_j hh488 (by decide)).trans ((pNR hh483 (pN_n hh483 z482 e486)).trans ((pR_j hh477 (by decide)).trans ((pNR hh472 (pN_n hh472 z471 e475)).trans ((pR_j hh466 (by decide)).trans ((pNR hh461 (pN_n hh461 z460 e464)).trans ((pR_j hh455 (by decide)).trans ((pNR hh450 (pN_n hh450 z449 e453)).trans ((pR_j hh444 (by decide)).trans ((pNR hh439 (pN_n hh439 z438 e442)).trans ((pR_j hh433 (by decide)).trans ((pNR hh428 (pN_n hh428 z427 e431)).trans ((pR_j hh422 (by decide)).trans ((pNR hh417 (pN_n hh417 z416 e420)).trans ((pR_j hh411 (by decide)).trans ((pNR hh406 (pN_n hh406 z405 e409)).trans ((pR_j hh400 (by decide)).trans ((pNR hh395 (pN_n hh395 z394 e398)).trans ((pR_j hh389 (by decide)).trans ((pNR hh384 (pN_n hh384 z383 e387)).trans ((pR_j hh378 (by decide)).trans ((pNR hh373 (pN_n hh373 z372 e376)).trans ((pR_j hh367 (by decide)).trans ((pNR hh362 (pN_n hh362 z361 e365)).trans ((pR_j hh356 (by decide)).trans ((pNR hh351 (pN_n hh351 z350 e354)).trans (pR_e hh345))))))))))))))))))))))))))))))))))))))))))))))))))))))))))))))))))))))))))))))))))))))))))))))))))))))))
        have e1956 : Tg h346 n337 = 123100 := ((pRT hh345).trans (pN_T hh340))
        have e1957 : Tg h357 n337 = 123100 := ((pRT hh356).trans ((pNT hh351 (pN_n hh351 z350 e1956)).trans e1956))
        have e1958 : Tg h368 n337 = 123100 := ((pRT hh367).trans ((pNT hh362 (pN_n hh362 z361 e1957)).trans e1957))
        have e1959 : Tg h379 n337 = 123100 := ((pRT hh378).trans ((pNT hh373 (pN_n hh373 z372 e1958)).trans e1958))
        have e1960 : Tg h390 n337 = 123100 := ((pRT hh389).trans ((pNT hh384 (pN_n hh384 z383 e1959)).trans e1959))
        have e1961 : Tg h401 n337 = 123100 := ((pRT hh400).trans ((pNT hh395 (pN_n hh395 z394 e1960)).trans e1960))
        have e1962 : Tg h412 n337 = 123100 := ((pRT hh411).trans ((pNT hh406 (pN_n hh406 z405 e1961)).trans e1961))
        have e1963 : Tg h423 n337 = 123100 := ((pRT hh422).trans ((pNT hh417 (pN_n hh417 z416 e1962)).trans e1962))
        have e1964 : Tg h434 n337 = 123100 := ((pRT hh433).trans ((pNT hh428 (pN_n hh428 z427 e1963)).trans e1963))
        have e1965 : Tg h445 n337 = 123100 := ((pRT hh444).trans ((pNT hh439 (pN_n hh439 z438 e1964)).trans e1964))
        have e1966 : Tg h456 n337 = 123100 := ((pRT hh455).trans ((pNT hh450 (pN_n hh450 z449 e1965)).trans e1965))
        have e1967 : Tg h467 n337 = 123100 := ((pRT hh466).trans ((pNT hh461 (pN_n hh461 z460 e1966)).trans e1966))
        have e1968 : Tg h478 n337 = 123100 := ((pRT hh477).trans ((pNT hh472 (pN_n hh472 z471 e1967)).trans e1967))
        have e1969 : Tg h489 n337 = 123100 := ((pRT hh488).trans ((pNT hh483 (pN_n hh483 z482 e1968)).trans e1968))
        have e1970 : Tg h500 n337 = 123100 := ((pRT hh499).trans ((pNT hh494 (pN_n hh494 z493 e1969)).trans e1969))
        have e1971 : Tg h511 n337 = 123100 := ((pRT hh510).trans ((pNT hh505 (pN_n hh505 z504 e1970)).trans e1970))
        have e1972 : Tg h522 n337 = 123100 := ((pRT hh521).trans ((pNT hh516 (pN_n hh516 z515 e1971)).trans e1971))
        have e1973 : Tg h533 n337 = 123100 := ((pRT hh532).trans ((pNT hh527 (pN_n hh527 z526 e1972)).trans e1972))
        have e1974 : Tg h544 n337 = 123100 := ((pRT hh543).trans ((pNT hh538 (pN_n hh538 z537 e1973)).trans e1973))
        have e1975 : Tg h555 n337 = 123100 := ((pRT hh554).trans ((pNT hh549 (pN_n hh549 z548 e1974)).trans e1974))
        have e1976 : Tg h566 n337 = 123100 := ((pRT hh565).trans ((pNT hh560 (pN_n hh560 z559 e1975)).trans e1975))
        have e1977 : Tg h577 n337 = 123100 := ((pRT hh576).trans ((pNT hh571 (pN_n hh571 z570 e1976)).trans e1976))
        have e1978 : Tg h588 n337 = 123100 := ((pRT hh587).trans ((pNT hh582 (pN_n hh582 z581 e1977)).trans e1977))
        have e1979 : Tg h599 n337 = 123100 := ((pRT hh598).trans ((pNT hh593 (pN_n hh593 z592 e1978)).trans e1978))
        have e1980 : Tg h610 n337 = 123100 := ((pRT hh609).trans ((pNT hh604 (pN_n hh604 z603 e1979)).trans e1979))
        have e1981 : Tg h621 n337 = 123100 := ((pRT hh620).trans ((pNT hh615 (pN_n hh615 z614 e1980)).trans e1980))
        have e1982 : Tg h632 n337 = 123100 := ((pRT hh631).trans ((pNT hh626 (pN_n hh626 z625 e1981)).trans e1981))
        have e1983 : Tg h643 n337 = 123100 := ((pRT hh642).trans ((pNT hh637 (pN_n hh637 z636 e1982)).trans e1982))
        have e1984 : Tg h654 n337 = 123100 := ((pRT hh653).trans ((pNT hh648 (pN_n hh648 z647 e1983)).trans e1983))
        have e1985 : Tg h665 n337 = 123100 := ((pRT hh664).trans ((pNT hh659 (pN_n hh659 z658 e1984)).trans e1984))
        have e1986 : Tg h676 n337 = 123100 := ((pRT hh675).trans ((pNT hh670 (pN_n hh670 z669 e1985)).trans e1985))
        have e1987 : Tg h687 n337 = 123100 := ((pRT hh686).trans ((pNT hh681 (pN_n hh681 z680 e1986)).trans e1986))
        have e1988 : Tg h698 n337 = 123100 := ((pRT hh697).trans ((pNT hh692 (pN_n hh692 z691 e1987)).trans e1987))
        have e1989 : Tg h709 n337 = 123100 := ((pRT hh708).trans ((pNT hh703 (pN_n hh703 z702 e1988)).trans e1988))
        have e1990 : Tg h720 n337 = 123100 := ((pRT hh719).trans ((pNT hh714 (pN_n hh714 z713 e1989)).trans e1989))
        have e1991 : Tg h731 n337 = 123100 := ((pRT hh730).trans ((pNT hh725 (pN_n hh725 z724 e1990)).trans e1990))
        have e1992 : Tg h742 n337 = 123100 := ((pRT hh741).trans ((pNT hh736 (pN_n hh736 z735 e1991)).trans e1991))
        have e1993 : Tg h753 n337 = 123100 := ((pRT hh752).trans ((pNT hh747 (pN_n hh747 z746 e1992)).trans e1992))
        have e1994 : Tg h764 n337 = 123100 := ((pRT hh763).trans ((pNT hh758 (pN_n hh758 z757 e1993)).trans e1993))
        have e1995 : Tg h775 n337 = 123100 := ((pRT hh774).trans ((pNT hh769 (pN_n hh769 z768 e1994)).trans e1994))
        have e1996 : Tg h786 n337 = 123100 := ((pRT hh785).trans ((pNT hh780 (pN_n hh780 z779 e1995)).trans e1995))
        have e1997 : Tg h797 n337 = 123100 := ((pRT hh796).trans ((pNT hh791 (pN_n hh791 z790 e1996)).trans e1996))
        have e1998 : Tg h808 n337 = 123100 := ((pRT hh807).trans ((pNT hh802 (pN_n hh802 z801 e1997)).trans e1997))
        have e1999 : Tg h819 n337 = 123100 := ((pRT hh818).trans ((pNT hh813 (pN_n hh813 z812 e1998)).trans e1998))
        have e2000 : Tg h830 n337 = 123100 := ((pRT hh829).trans ((pNT hh824 (pN_n hh824 z823 e1999)).trans e1999))
        have e2001 : Tg h841 n337 = 123100 := ((pRT hh840).trans ((pNT hh835 (pN_n hh835 z834 e2000)).trans e2000))
        have e2002 : Tg h852 n337 = 123100 := ((pRT hh851).trans ((pNT hh846 (pN_n hh846 z845 e2001)).trans e2001))
        have e2003 : Tg h863 n337 = 123100 := ((pRT hh862).trans ((pNT hh857 (pN_n hh857 z856 e2002)).trans e2002))
        have e2004 : Tg h874 n337 = 123100 := ((pRT hh873).trans ((pNT hh868 (pN_n hh868 z867 e2003)).trans e2003))
        have e2005 : Tg h885 n337 = 123100 := ((pRT hh884).trans ((pNT hh879 (pN_n hh879 z878 e2004)).trans e2004))
        have e2006 : Tg h915 n337 = 123100 := ((pIT hh914).trans ((pIT hh910).trans (fxT F904 ((pRT hh895).trans ((pNT hh890 (pN_n hh890 z889 e2005)).trans e2005)))))
        have e2007 : Rv h915 a0 24 = n348 := ((pIR hh914).trans ((pIR hh910).trans ((fxR F904 e917 rfl).trans ((pR_j hh895 (by decide)).trans ((pNR hh890 (pN_n hh890 z889 e893)).trans ((pR_j hh884 (by decide)).trans ((pNR hh879 (pN_n hh879 z878 e882)).trans ((pR_j hh873 (by decide)).trans ((pNR hh868 (pN_n hh868 z867 e871)).trans ((pR_j hh862 (by decide)).trans ((pNR hh857 (pN_n hh857 z856 e860)).trans ((pR_j hh851 (by decide)).trans ((pNR hh846 (pN_n hh846 z845 e849)).trans ((pR_j hh840 (by decide)).trans ((pNR hh835 (pN_n hh835 z834 e838)).trans ((pR_j hh829 (by decide)).trans ((pNR hh824 (pN_n hh824 z823 e827)).trans ((pR_j hh818 (by decide)).trans ((pNR hh813 (pN_n hh813 z812 e816)).trans ((pR_j hh807 (by decide)).trans ((pNR hh802 (pN_n hh802 z801 e805)).trans ((pR_j hh796 (by decide)).trans ((pNR hh791 (pN_n hh791 z790 e794)).trans ((pR_j hh785 (by decide)).trans ((pNR hh780 (pN_n hh780 z779 e783)).trans ((pR_j hh774 (by decide)).trans ((pNR hh769 (pN_n hh769 z768 e772)).trans ((pR_j hh763 (by decide)).trans ((pNR hh758 (pN_n hh758 z757 e761)).trans ((pR_j hh752 (by decide)).trans ((pNR hh747 (pN_n hh747 z746 e750)).trans ((pR_j hh741 (by decide)).trans ((pNR hh736 (pN_n hh736 z735 e739)).trans ((pR_j hh730 (by decide)).trans ((pNR hh725 (pN_n hh725 z724 e728)).trans ((pR_j hh719 (by decide)).trans ((pNR hh714 (pN_n hh714 z713 e717)).trans ((pR_j hh708 (by decide)).trans ((pNR hh703 (pN_n hh703 z702 e706)).trans ((pR_j hh697 (by decide)).trans ((pNR hh692 (pN_n hh692 z691 e695)).trans ((pR_j hh686 (by decide)).trans ((pNR hh681 (pN_n hh681 z680 e684)).trans ((pR_j hh675 (by decide)).trans ((pNR hh670 (pN_n hh670 z669 e673)).trans ((pR_j hh664 (by decide)).trans ((pNR hh659 (pN_n hh659 z658 e662)).trans ((pR_j hh653 (by decide)).trans ((pNR hh648 (pN_n hh648 z647 e651)).trans ((pR_j hh642 (by decide)).trans ((pNR hh637 (pN_n hh637 z636 e640)).trans ((pR_j hh631 (by decide)).trans ((pNR hh626 (pN_n hh626 z625 e629)).trans ((pR_j hh620 (by decide)).trans ((pNR hh615 (pN_n hh615 z614 e618)).trans ((pR_j hh609 (by decide)).trans ((pNR hh604 (pN_n hh604 z603 e607)).trans ((pR_j hh598 (by decide)).trans ((pNR hh593 (pN_n hh593 z592 e596)).trans ((pR_j hh587 (by decide)).trans ((pNR hh582 (pN_n hh582 z581 e585)).trans ((pR_j hh576 (by decide)).trans ((pNR hh571 (pN_n hh571 z570 e574)).trans ((pR_j hh565 (by decide)).trans ((pNR hh560 (pN_n hh560 z559 e563)).trans ((pR_j hh554 (by decide)).trans ((pNR hh549 (pN_n hh549 z548 e552)).trans ((pR_j hh543 (by decide)).trans ((pNR hh538 (pN_n hh538 z537 e541)).trans ((pR_j hh532 (by decide)).trans ((pNR hh527 (pN_n hh527 z526 e530)).trans ((pR_j hh521 (by decide)).trans ((pNR hh516 (pN_n hh516 z515 e519)).trans ((pR_j hh510 (by decide)).trans ((pNR hh505 (pN_n hh505 z504 e508)).trans ((pR_j hh499 (by decide)).trans ((pNR hh494 (pN_n hh494 z493 e497)).trans ((pR_j hh488 (by decide)).trans ((pNR hh483 (pN_n hh483 z482 e486)).trans ((pR_j hh477 (by decide)).trans ((pNR hh472 (pN_n hh472 z471 e475)).trans ((pR_j hh466 (by decide)).trans ((pNR hh461 (pN_n hh461 z460 e464)).trans ((pR_j hh455 (by decide)).trans ((pNR hh450 (pN_n hh450 z449 e453)).trans ((pR_j hh444 (by decide)).trans ((pNR hh439 (pN_n hh439 z438 e442)).trans ((pR_j hh433 (by decide)).trans ((pNR hh428 (pN_n hh428 z427 e431)).trans ((pR_j hh422 (by decide)).trans ((pNR hh417 (pN_n hh417 z416 e420)).trans ((pR_j hh411 (by decide)).trans ((pNR hh406 (pN_n hh406 z405 e409)).trans ((pR_j hh400 (by decide)).trans ((pNR hh395 (pN_n hh395 z394 e398)).trans ((pR_j hh389 (by decide)).trans ((pNR hh384 (pN_n hh384 z383 e387)).trans ((pR_j hh378 (by decide)).trans ((pNR hh373 (pN_n hh373 z372 e376)).trans ((pR_j hh367 (by decide)).trans ((pNR hh362 (pN_n hh362 z361 e365)).trans (pR_e hh356))))))))))))))))))))))))))))))))))))))))))))))))))))))))))))))))))))))))))))))))))))))))))))))))))))))
        have e2008 : Tg h357 n348 = 124100 := ((pRT hh356).trans (pN_T hh351))
        have e2009 : Tg h368 n348 = 124100 := ((pRT hh367).trans ((pNT hh362 (pN_n hh362 z361 e2008)).trans e2008))
        have e2010 : Tg h379 n348 = 124100 := ((pRT hh378).trans ((pNT hh373 (pN_n hh373 z372 e2009)).trans e2009))
        have e2011 : Tg h390 n348 = 124100 := ((pRT hh389).trans ((pNT hh384 (pN_n hh384 z383 e2010)).trans e2010))
        have e2012 : Tg h401 n348 = 124100 := ((pRT hh400).trans ((pNT hh395 (pN_n hh395 z394 e2011)).trans e2011))
        have e2013 : Tg h412 n348 = 124100 := ((pRT hh411).trans ((pNT hh406 (pN_n hh406 z405 e2012)).trans e2012))
        have e2014 : Tg h423 n348 = 124100 := ((pRT hh422).trans ((pNT hh417 (pN_n hh417 z416 e2013)).trans e2013))
        have e2015 : Tg h434 n348 = 124100 := ((pRT hh433).trans ((pNT hh428 (pN_n hh428 z427 e2014)).trans e2014))
        have e2016 : Tg h445 n348 = 124100 := ((pRT hh444).trans ((pNT hh439 (pN_n hh439 z438 e2015)).trans e2015))
        have e2017 : Tg h456 n348 = 124100 := ((pRT hh455).trans ((pNT hh450 (pN_n hh450 z449 e2016)).trans e2016))
        have e2018 : Tg h467 n348 = 124100 := ((pRT hh466).trans ((pNT hh461 (pN_n hh461 z460 e2017)).trans e2017))
        have e2019 : Tg h478 n348 = 124100 := ((pRT hh477).trans ((pNT hh472 (pN_n hh472 z471 e2018)).trans e2018))
        have e2020 : Tg h489 n348 = 124100 := ((pRT hh488).trans ((pNT hh483 (pN_n hh483 z482 e2019)).trans e2019))
        have e2021 : Tg h500 n348 = 124100 := ((pRT hh499).trans ((pNT hh494 (pN_n hh494 z493 e2020)).trans e2020))
        have e2022 : Tg h511 n348 = 124100 := ((pRT hh510).trans ((pNT hh505 (pN_n hh505 z504 e2021)).trans e2021))
        have e2023 : Tg h522 n348 = 124100 := ((pRT hh521).trans ((pNT hh516 (pN_n hh516 z515 e2022)).trans e2022))
        have e2024 : Tg h533 n348 = 124100 := ((pRT hh532).trans ((pNT hh527 (pN_n hh527 z526 e2023)).trans e2023))
        have e2025 : Tg h544 n348 = 124100 := ((pRT hh543).trans ((pNT hh538 (pN_n hh538 z537 e2024)).trans e2024))
        have e2026 : Tg h555 n348 = 124100 := ((pRT hh554).trans ((pNT hh549 (pN_n hh549 z548 e2025)).trans e2025))
        have e2027 : Tg h566 n348 = 124100 := ((pRT hh565).trans ((pNT hh560 (pN_n hh560 z559 e2026)).trans e2026))
        have e2028 : Tg h577 n348 = 124100 := ((pRT hh576).trans ((pNT hh571 (pN_n hh571 z570 e2027)).trans e2027))
        have e2029 : Tg h588 n348 = 124100 := ((pRT hh587).trans ((pNT hh582 (pN_n hh582 z581 e2028)).trans e2028))
        have e2030 : Tg h599 n348 = 124100 := ((pRT hh598).trans ((pNT hh593 (pN_n hh593 z592 e2029)).trans e2029))
        have e2031 : Tg h610 n348 = 124100 := ((pRT hh609).trans ((pNT hh604 (pN_n hh604 z603 e2030)).trans e2030))
        have e2032 : Tg h621 n348 = 124100 := ((pRT hh620).trans ((pNT hh615 (pN_n hh615 z614 e2031)).trans e2031))
        have e2033 : Tg h632 n348 = 124100 := ((pRT hh631).trans ((pNT hh626 (pN_n hh626 z625 e2032)).trans e2032))
        have e2034 : Tg h643 n348 = 124100 := ((pRT hh642).trans ((pNT hh637 (pN_n hh637 z636 e2033)).trans e2033))
        have e2035 : Tg h654 n348 = 124100 := ((pRT hh653).trans ((pNT hh648 (pN_n hh648 z647 e2034)).trans e2034))
        have e2036 : Tg h665 n348 = 124100 := ((pRT hh664).trans ((pNT hh659 (pN_n hh659 z658 e2035)).trans e2035))
        have e2037 : Tg h676 n348 = 124100 := ((pRT hh675).trans ((pNT hh670 (pN_n hh670 z669 e2036)).trans e2036))
        have e2038 : Tg h687 n348 = 124100 := ((pRT hh686).trans ((pNT hh681 (pN_n hh681 z680 e2037)).trans e2037))
        have e2039 : Tg h698 n348 = 124100 := ((pRT hh697).trans ((pNT hh692 (pN_n hh692 z691 e2038)).trans e2038))
        have e2040 : Tg h709 n348 = 124100 := ((pRT hh708).trans ((pNT hh703 (pN_n hh703 z702 e2039)).trans e2039))
        have e2041 : Tg h720 n348 = 124100 := ((pRT hh719).trans ((pNT hh714 (pN_n hh714 z713 e2040)).trans e2040))
        have e2042 : Tg h731 n348 = 124100 := ((pRT hh730).trans ((pNT hh725 (pN_n hh725 z724 e2041)).trans e2041))
        have e2043 : Tg h742 n348 = 124100 := ((pRT hh741).trans ((pNT hh736 (pN_n hh736 z735 e2042)).trans e2042))
        have e2044 : Tg h753 n348 = 124100 := ((pRT hh752).trans ((pNT hh747 (pN_n hh747 z746 e2043)).trans e2043))
        have e2045 : Tg h764 n348 = 124100 := ((pRT hh763).trans ((pNT hh758 (pN_n hh758 z757 e2044)).trans e2044))
        have e2046 : Tg h775 n348 = 124100 := ((pRT hh774).trans ((pNT hh769 (pN_n hh769 z768 e2045)).trans e2045))
        have e2047 : Tg h786 n348 = 124100 := ((pRT hh785).trans ((pNT hh780 (pN_n hh780 z779 e2046)).trans e2046))
        have e2048 : Tg h797 n348 = 124100 := ((pRT hh796).trans ((pNT hh791 (pN_n hh791 z790 e2047)).trans e2047))
        have e2049 : Tg h808 n348 = 124100 := ((pRT hh807).trans ((pNT hh802 (pN_n hh802 z801 e2048)).trans e2048))
        have e2050 : Tg h819 n348 = 124100 := ((pRT hh818).trans ((pNT hh813 (pN_n hh813 z812 e2049)).trans e2049))
        have e2051 : Tg h830 n348 = 124100 := ((pRT hh829).trans ((pNT hh824 (pN_n hh824 z823 e2050)).trans e2050))
        have e2052 : Tg h841 n348 = 124100 := ((pRT hh840).trans ((pNT hh835 (pN_n hh835 z834 e2051)).trans e2051))
        have e2053 : Tg h852 n348 = 124100 := ((pRT hh851).trans ((pNT hh846 (pN_n hh846 z845 e2052)).trans e2052))
        have e2054 : Tg h863 n348 = 124100 := ((pRT hh862).trans ((pNT hh857 (pN_n hh857 z856 e2053)).trans e2053))
        have e2055 : Tg h874 n348 = 124100 := ((pRT hh873).trans ((pNT hh868 (pN_n hh868 z867 e2054)).trans e2054))
        have e2056 : Tg h885 n348 = 124100 := ((pRT hh884).trans ((pNT hh879 (pN_n hh879 z878 e2055)).trans e2055))
        have e2057 : Tg h915 n348 = 124100 := ((pIT hh914).trans ((pIT hh910).trans (fxT F904 ((pRT hh895).trans ((pNT hh890 (pN_n hh890 z889 e2056)).trans e2056)))))
        have e2058 : Rv h915 a0 25 = n359 := ((pIR hh914).trans ((pIR hh910).trans ((fxR F904 e917 rfl).trans ((pR_j hh895 (by decide)).trans ((pNR hh890 (pN_n hh890 z889 e893)).trans ((pR_j hh884 (by decide)).trans ((pNR hh879 (pN_n hh879 z878 e882)).trans ((pR_j hh873 (by decide)).trans ((pNR hh868 (pN_n hh868 z867 e871)).trans ((pR_j hh862 (by decide)).trans ((pNR hh857 (pN_n hh857 z856 e860)).trans ((pR_j hh851 (by decide)).trans ((pNR hh846 (pN_n hh846 z845 e849)).trans ((pR_j hh840 (by decide)).trans ((pNR hh835 (pN_n hh835 z834 e838)).trans ((pR_j hh829 (by decide)).trans ((pNR hh824 (pN_n hh824 z823 e827)).trans ((pR_j hh818 (by decide)).trans ((pNR hh813 (pN_n hh813 z812 e816)).trans ((pR_j hh807 (by decide)).trans ((pNR hh802 (pN_n hh802 z801 e805)).trans ((pR_j hh796 (by decide)).trans ((pNR hh791 (pN_n hh791 z790 e794)).trans ((pR_j hh785 (by decide)).trans ((pNR hh780 (pN_n hh780 z779 e783)).trans ((pR_j hh774 (by decide)).trans ((pNR hh769 (pN_n hh769 z768 e772)).trans ((pR_j hh763 (by decide)).trans ((pNR hh758 (pN_n hh758 z757 e761)).trans ((pR_j hh752 (by decide)).trans ((pNR hh747 (pN_n hh747 z746 e750)).trans ((pR_j hh741 (by decide)).trans ((pNR hh736 (pN_n hh736 z735 e739)).trans ((pR_j hh730 (by decide)).trans ((pNR hh725 (pN_n hh725 z724 e728)).trans ((pR_j hh719 (by decide)).trans ((pNR hh714 (pN_n hh714 z713 e717)).trans ((pR_j hh708 (by decide)).trans ((pNR hh703 (pN_n hh703 z702 e706)).trans ((pR_j hh697 (by decide)).trans ((pNR hh692 (pN_n hh692 z691 e695)).trans ((pR_j hh686 (by decide)).trans ((pNR hh681 (pN_n hh681 z680 e684)).trans ((pR_j hh675 (by decide)).trans ((pNR hh670 (pN_n hh670 z669 e673)).trans ((pR_j hh664 (by decide)).trans ((pNR hh659 (pN_n hh659 z658 e662)).trans ((pR_j hh653 (by decide)).trans ((pNR hh648 (pN_n hh648 z647 e651)).trans ((pR_j hh642 (by decide)).trans ((pNR hh637 (pN_n hh637 z636 e640)).trans ((pR_j hh631 (by decide)).trans ((pNR hh626 (pN_n hh626 z625 e629)).trans ((pR_j hh620 (by decide)).trans ((pNR hh615 (pN_n hh615 z614 e618)).trans ((pR_j hh609 (by decide)).trans ((pNR hh604 (pN_n hh604 z603 e607)).trans ((pR_j hh598 (by decide)).trans ((pNR hh593 (pN_n hh593 z592 e596)).trans ((pR_j hh587 (by decide)).trans ((pNR hh582 (pN_n hh582 z581 e585)).trans ((pR_j hh576 (by decide)).trans ((pNR hh571 (pN_n hh571 z570 e574)).trans ((pR_j hh565 (by decide)).trans ((pNR hh560 (pN_n hh560 z559 e563)).trans ((pR_j hh554 (by decide)).trans ((pNR hh549 (pN_n hh549 z548 e552)).trans ((pR_j hh543 (by decide)).trans ((pNR hh538 (pN_n hh538 z537 e541)).trans ((pR_j hh532 (by decide)).trans ((pNR hh527 (pN_n hh527 z526 e530)).trans ((pR_j hh521 (by decide)).trans ((pNR hh516 (pN_n hh516 z515 e519)).trans ((pR_j hh510 (by decide)).trans ((pNR hh505 (pN_n hh505 z504 e508)).trans ((pR_j hh499 (by decide)).trans ((pNR hh494 (pN_n hh494 z493 e497)).trans ((pR_j hh488 (by decide)).trans ((pNR hh483 (pN_n hh483 z482 e486)).trans ((pR_j hh477 (by decide)).trans ((pNR hh472 (pN_n hh472 z471 e475)).trans ((pR_j hh466 (by decide)).trans ((pNR hh461 (pN_n hh461 z460 e464)).trans ((pR_j hh455 (by decide)).trans ((pNR hh450 (pN_n hh450 z449 e453)).trans ((pR_j hh444 (by decide)).trans ((pNR hh439 (pN_n hh439 z438 e442)).trans ((pR_j hh433 (by decide)).trans ((pNR hh428 (pN_n hh428 z427 e431)).trans ((pR_j hh422 (by decide)).trans ((pNR hh417 (pN_n hh417 z416 e420)).trans ((pR_j hh411 (by decide)).trans ((pNR hh406 (pN_n hh406 z405 e409)).trans ((pR_j hh400 (by decide)).trans ((pNR hh395 (pN_n hh395 z394 e398)).trans ((pR_j hh389 (by decide)).trans ((pNR hh384 (pN_n hh384 z383 e387)).trans ((pR_j hh378 (by decide)).trans ((pNR hh373 (pN_n hh373 z372 e376)).trans (pR_e hh367))))))))))))))))))))))))))))))))))))))))))))))))))))))))))))))))))))))))))))))))))))))))))))))))))))
        have e2059 : Tg h368 n359 = 125100 := ((pRT hh367).trans (pN_T hh362))
        have e2060 : Tg h379 n359 = 125100 := ((pRT hh378).trans ((pNT hh373 (pN_n hh373 z372 e2059)).trans e2059))
        have e2061 : Tg h390 n359 = 125100 := ((pRT hh389).trans ((pNT hh384 (pN_n hh384 z383 e2060)).trans e2060))
        have e2062 : Tg h401 n359 = 125100 := ((pRT hh400).trans ((pNT hh395 (pN_n hh395 z394 e2061)).trans e2061))
        have e2063 : Tg h412 n359 = 125100 := ((pRT hh411).trans ((pNT hh406 (pN_n hh406 z405 e2062)).trans e2062))
        have e2064 : Tg h423 n359 = 125100 := ((pRT hh422).trans ((pNT hh417 (pN_n hh417 z416 e2063)).trans e2063))
        have e2065 : Tg h434 n359 = 125100 := ((pRT hh433).trans ((pNT hh428 (pN_n hh428 z427 e2064)).trans e2064))
        have e2066 : Tg h445 n359 = 125100 := ((pRT hh444).trans ((pNT hh439 (pN_n hh439 z438 e2065)).trans e2065))
        have e2067 : Tg h456 n359 = 125100 := ((pRT hh455).trans ((pNT hh450 (pN_n hh450 z449 e2066)).trans e2066))
        have e2068 : Tg h467 n359 = 125100 := ((pRT hh466).trans ((pNT hh461 (pN_n hh461 z460 e2067)).trans e2067))
        have e2069 : Tg h478 n359 = 125100 := ((pRT hh477).trans ((pNT hh472 (pN_n hh472 z471 e2068)).trans e2068))
        have e2070 : Tg h489 n359 = 125100 := ((pRT hh488).trans ((pNT hh483 (pN_n hh483 z482 e2069)).trans e2069))
        have e2071 : Tg h500 n359 = 125100 := ((pRT hh499).trans ((pNT hh494 (pN_n hh494 z493 e2070)).trans e2070))
        have e2072 : Tg h511 n359 = 125100 := ((pRT hh510).trans ((pNT hh505 (pN_n hh505 z504 e2071)).trans e2071))
        have e2073 : Tg h522 n359 = 125100 := ((pRT hh521).trans ((pNT hh516 (pN_n hh516 z515 e2072)).trans e2072))
        have e2074 : Tg h533 n359 = 125100 := ((pRT hh532).trans ((pNT hh527 (pN_n hh527 z526 e2073)).trans e2073))
        have e2075 : Tg h544 n359 = 125100 := ((pRT hh543).trans ((pNT hh538 (pN_n hh538 z537 e2074)).trans e2074))
        have e2076 : Tg h555 n359 = 125100 := ((pRT hh554).trans ((pNT hh549 (pN_n hh549 z548 e2075)).trans e2075))
        have e2077 : Tg h566 n359 = 125100 := ((pRT hh565).trans ((pNT hh560 (pN_n hh560 z559 e2076)).trans e2076))
        have e2078 : Tg h577 n359 = 125100 := ((pRT hh576).trans ((pNT hh571 (pN_n hh571 z570 e2077)).trans e2077))
        have e2079 : Tg h588 n359 = 125100 := ((pRT hh587).trans ((pNT hh582 (pN_n hh582 z581 e2078)).trans e2078))
        have e2080 : Tg h599 n359 = 125100 := ((pRT hh598).trans ((pNT hh593 (pN_n hh593 z592 e2079)).trans e2079))
        have e2081 : Tg h610 n359 = 125100 := ((pRT hh609).trans ((pNT hh604 (pN_n hh604 z603 e2080)).trans e2080))
        have e2082 : Tg h621 n359 = 125100 := ((pRT hh620).trans ((pNT hh615 (pN_n hh615 z614 e2081)).trans e2081))
        have e2083 : Tg h632 n359 = 125100 := ((pRT hh631).trans ((pNT hh626 (pN_n hh626 z625 e2082)).trans e2082))
        have e2084 : Tg h643 n359 = 125100 := ((pRT hh642).trans ((pNT hh637 (pN_n hh637 z636 e2083)).trans e2083))
        have e2085 : Tg h654 n359 = 125100 := ((pRT hh653).trans ((pNT hh648 (pN_n hh648 z647 e2084)).trans e2084))
        have e2086 : Tg h665 n359 = 125100 := ((pRT hh664).trans ((pNT hh659 (pN_n hh659 z658 e2085)).trans e2085))
        have e2087 : Tg h676 n359 = 125100 := ((pRT hh675).trans ((pNT hh670 (pN_n hh670 z669 e2086)).trans e2086))
        have e2088 : Tg h687 n359 = 125100 := ((pRT hh686).trans ((pNT hh681 (pN_n hh681 z680 e2087)).trans e2087))
        have e2089 : Tg h698 n359 = 125100 := ((pRT hh697).trans ((pNT hh692 (pN_n hh692 z691 e2088)).trans e2088))
        have e2090 : Tg h709 n359 = 125100 := ((pRT hh708).trans ((pNT hh703 (pN_n hh703 z702 e2089)).trans e2089))
        have e2091 : Tg h720 n359 = 125100 := ((pRT hh719).trans ((pNT hh714 (pN_n hh714 z713 e2090)).trans e2090))
        have e2092 : Tg h731 n359 = 125100 := ((pRT hh730).trans ((pNT hh725 (pN_n hh725 z724 e2091)).trans e2091))
        have e2093 : Tg h742 n359 = 125100 := ((pRT hh741).trans ((pNT hh736 (pN_n hh736 z735 e2092)).trans e2092))
        have e2094 : Tg h753 n359 = 125100 := ((pRT hh752).trans ((pNT hh747 (pN_n hh747 z746 e2093)).trans e2093))
        have e2095 : Tg h764 n359 = 125100 := ((pRT hh763).trans ((pNT hh758 (pN_n hh758 z757 e2094)).trans e2094))
        have e2096 : Tg h775 n359 = 125100 := ((pRT hh774).trans ((pNT hh769 (pN_n hh769 z768 e2095)).trans e2095))
        have e2097 : Tg h786 n359 = 125100 := ((pRT hh785).trans ((pNT hh780 (pN_n hh780 z779 e2096)).trans e2096))
        have e2098 : Tg h797 n359 = 125100 := ((pRT hh796).trans ((pNT hh791 (pN_n hh791 z790 e2097)).trans e2097))
        have e2099 : Tg h808 n359 = 125100 := ((pRT hh807).trans ((pNT hh802 (pN_n hh802 z801 e2098)).trans e2098))
        have e2100 : Tg h819 n359 = 125100 := ((pRT hh818).trans ((pNT hh813 (pN_n hh813 z812 e2099)).trans e2099))
        have e2101 : Tg h830 n359 = 125100 := ((pRT hh829).trans ((pNT hh824 (pN_n hh824 z823 e2100)).trans e2100))
        have e2102 : Tg h841 n359 = 125100 := ((pRT hh840).trans ((pNT hh835 (pN_n hh835 z834 e2101)).trans e2101))
        have e2103 : Tg h852 n359 = 125100 := ((pRT hh851).trans ((pNT hh846 (pN_n hh846 z845 e2102)).trans e2102))
        have e2104 : Tg h863 n359 = 125100 := ((pRT hh862).trans ((pNT hh857 (pN_n hh857 z856 e2103)).trans e2103))
        have e2105 : Tg h874 n359 = 125100 := ((pRT hh873).trans ((pNT hh868 (pN_n hh868 z867 e2104)).trans e2104))
        have e2106 : Tg h885 n359 = 125100 := ((pRT hh884).trans ((pNT hh879 (pN_n hh879 z878 e2105)).trans e2105))
        have e2107 : Tg h915 n359 = 125100 := ((pIT hh914).trans ((pIT hh910).trans (fxT F904 ((pRT hh895).trans ((pNT hh890 (pN_n hh890 z889 e2106)).trans e2106)))))
        have e2108 : Rv h915 a0 26 = n370 := ((pIR hh914).trans ((pIR hh910).trans ((fxR F904 e917 rfl).trans ((pR_j hh895 (by decide)).trans ((pNR hh890 (pN_n hh890 z889 e893)).trans ((pR_j hh884 (by decide)).trans ((pNR hh879 (pN_n hh879 z878 e882)).trans ((pR_j hh873 (by decide)).trans ((pNR hh868 (pN_n hh868 z867 e871)).trans ((pR_j hh862 (by decide)).trans ((pNR hh857 (pN_n hh857 z856 e860)).trans ((pR_j hh851 (by decide)).trans ((pNR hh846 (pN_n hh846 z845 e849)).trans ((pR_j hh840 (by decide)).trans ((pNR hh835 (pN_n hh835 z834 e838)).trans ((pR_j hh829 (by decide)).trans ((pNR hh824 (pN_n hh824 z823 e827)).trans ((pR_j hh818 (by decide)).trans ((pNR hh813 (pN_n hh813 z812 e816)).trans ((pR_j hh807 (by decide)).trans ((pNR hh802 (pN_n hh802 z801 e805)).trans ((pR_j hh796 (by decide)).trans ((pNR hh791 (pN_n hh791 z790 e794)).trans ((pR_j hh785 (by decide)).trans ((pNR hh780 (pN_n hh780 z779 e783)).trans ((pR_j hh774 (by decide)).trans ((pNR hh769 (pN_n hh769 z768 e772)).trans ((pR_j hh763 (by decide)).trans ((pNR hh758 (pN_n hh758 z757 e761)).trans ((pR_j hh752 (by decide)).trans ((pNR hh747 (pN_n hh747 z746 e750)).trans ((pR_j hh741 (by decide)).trans ((pNR hh736 (pN_n hh736 z735 e739)).trans ((pR_j hh730 (by decide)).trans ((pNR hh725 (pN_n hh725 z724 e728)).trans ((pR_j hh719 (by decide)).trans ((pNR hh714 (pN_n hh714 z713 e717)).trans ((pR_j hh708 (by decide)).trans ((pNR hh703 (pN_n hh703 z702 e706)).trans ((pR_j hh697 (by decide)).trans ((pNR hh692 (pN_n hh692 z691 e695)).trans ((pR_j hh686 (by decide)).trans ((pNR hh681 (pN_n hh681 z680 e684)).trans ((pR_j hh675 (by decide)).trans ((pNR hh670 (pN_n hh670 z669 e673)).trans ((pR_j hh664 (by decide)).trans ((pNR hh659 (pN_n hh659 z658 e662)).trans ((pR_j hh653 (by decide)).trans ((pNR hh648 (pN_n hh648 z647 e651)).trans ((pR_j hh642 (by decide)).trans ((pNR hh637 (pN_n hh637 z636 e640)).trans ((pR_j hh631 (by decide)).trans ((pNR hh626 (pN_n hh626 z625 e629)).trans ((pR_j hh620 (by decide)).trans ((pNR hh615 (pN_n hh615 z614 e618)).trans ((pR_j hh609 (by decide)).trans ((pNR hh604 (pN_n hh604 z603 e607)).trans ((pR_j hh598 (by decide)).trans ((pNR hh593 (pN_n hh593 z592 e596)).trans ((pR_j hh587 (by decide)).trans ((pNR hh582 (pN_n hh582 z581 e585)).trans ((pR_j hh576 (by decide)).trans ((pNR hh571 (pN_n hh571 z570 e574)).trans ((pR_j hh565 (by decide)).trans ((pNR hh560 (pN_n hh560 z559 e563)).trans ((pR_j hh554 (by decide)).trans ((pNR hh549 (pN_n hh549 z548 e552)).trans ((pR_j hh543 (by decide)).trans ((pNR hh538 (pN_n hh538 z537 e541)).trans ((pR_j hh532 (by decide)).trans ((pNR hh527 (pN_n hh527 z526 e530)).trans ((pR_j hh521 (by decide)).trans ((pNR hh516 (pN_n hh516 z515 e519)).trans ((pR_j hh510 (by decide)).trans ((pNR hh505 (pN_n hh505 z504 e508)).trans ((pR_j hh499 (by decide)).trans ((pNR hh494 (pN_n hh494 z493 e497)).trans ((pR_j hh488 (by decide)).trans ((pNR hh483 (pN_n hh483 z482 e486)).trans ((pR_j hh477 (by decide)).trans ((pNR hh472 (pN_n hh472 z471 e475)).trans ((pR_j hh466 (by decide)).trans ((pNR hh461 (pN_n hh461 z460 e464)).trans ((pR_j hh455 (by decide)).trans ((pNR hh450 (pN_n hh450 z449 e453)).trans ((pR_j hh444 (by decide)).trans ((pNR hh439 (pN_n hh439 z438 e442)).trans ((pR_j hh433 (by decide)).trans ((pNR hh428 (pN_n hh428 z427 e431)).trans ((pR_j hh422 (by decide)).trans ((pNR hh417 (pN_n hh417 z416 e420)).trans ((pR_j hh411 (by decide)).trans ((pNR hh406 (pN_n hh406 z405 e409)).trans ((pR_j hh400 (by decide)).trans ((pNR hh395 (pN_n hh395 z394 e398)).trans ((pR_j hh389 (by decide)).trans ((pNR hh384 (pN_n hh384 z383 e387)).trans (pR_e hh378))))))))))))))))))))))))))))))))))))))))))))))))))))))))))))))))))))))))))))))))))))))))))))))))))
        have e2109 : Tg h379 n370 = 126100 := ((pRT hh378).trans (pN_T hh373))
        have e2110 : Tg h390 n370 = 126100 := ((pRT hh389).trans ((pNT hh384 (pN_n hh384 z383 e2109)).trans e2109))
        have e2111 : Tg h401 n370 = 126100 := ((pRT hh400).trans ((pNT hh395 (pN_n hh395 z394 e2110)).trans e2110))
        have e2112 : Tg h412 n370 = 126100 := ((pRT hh411).trans ((pNT hh406 (pN_n hh406 z405 e2111)).trans e2111))
        have e2113 : Tg h423 n370 = 126100 := ((pRT hh422).trans ((pNT hh417 (pN_n hh417 z416 e2112)).trans e2112))
        have e2114 : Tg h434 n370 = 126100 := ((pRT hh433).trans ((pNT hh428 (pN_n hh428 z427 e2113)).trans e2113))
        have e2115 : Tg h445 n370 = 126100 := ((pRT hh444).trans ((pNT hh439 (pN_n hh439 z438 e2114)).trans e2114))
        have e2116 : Tg h456 n370 = 126100 := ((pRT hh455).trans ((pNT hh450 (pN_n hh450 z449 e2115)).trans e2115))
        have e2117 : Tg h467 n370 = 126100 := ((pRT hh466).trans ((pNT hh461 (pN_n hh461 z460 e2116)).trans e2116))
        have e2118 : Tg h478 n370 = 126100 := ((pRT hh477).trans ((pNT hh472 (pN_n hh472 z471 e2117)).trans e2117))
        have e2119 : Tg h489 n370 = 126100 := ((pRT hh488).trans ((pNT hh483 (pN_n hh483 z482 e2118)).trans e2118))
        have e2120 : Tg h500 n370 = 126100 := ((pRT hh499).trans ((pNT hh494 (pN_n hh494 z493 e2119)).trans e2119))
        have e2121 : Tg h511 n370 = 126100 := ((pRT hh510).trans ((pNT hh505 (pN_n hh505 z504 e2120)).trans e2120))
        have e2122 : Tg h522 n370 = 126100 := ((pRT hh521).trans ((pNT hh516 (pN_n hh516 z515 e2121)).trans e2121))
        have e2123 : Tg h533 n370 = 126100 := ((pRT hh532).trans ((pNT hh527 (pN_n hh527 z526 e2122)).trans e2122))
        have e2124 : Tg h544 n370 = 126100 := ((pRT hh543).trans ((pNT hh538 (pN_n hh538 z537 e2123)).trans e2123))
        have e2125 : Tg h555 n370 = 126100 := ((pRT hh554).trans ((pNT hh549 (pN_n hh549 z548 e2124)).trans e2124))
        have e2126 : Tg h566 n370 = 126100 := ((pRT hh565).trans ((pNT hh560 (pN_n hh560 z559 e2125)).trans e2125))
        have e2127 : Tg h577 n370 = 126100 := ((pRT hh576).trans ((pNT hh571 (pN_n hh571 z570 e2126)).trans e2126))
        have e2128 : Tg h588 n370 = 126100 := ((pRT hh587).trans ((pNT hh582 (pN_n hh582 z581 e2127)).trans e2127))
        have e2129 : Tg h599 n370 = 126100 := ((pRT hh598).trans ((pNT hh593 (pN_n hh593 z592 e2128)).trans e2128))
        have e2130 : Tg h610 n370 = 126100 := ((pRT hh609).trans ((pNT hh604 (pN_n hh604 z603 e2129)).trans e2129))
        have e2131 : Tg h621 n370 = 126100 := ((pRT hh620).trans ((pNT hh615 (pN_n hh615 z614 e2130)).trans e2130))
        have e2132 : Tg h632 n370 = 126100 := ((pRT hh631).trans ((pNT hh626 (pN_n hh626 z625 e2131)).trans e2131))
        have e2133 : Tg h643 n370 = 126100 := ((pRT hh642).trans ((pNT hh637 (pN_n hh637 z636 e2132)).trans e2132))
        have e2134 : Tg h654 n370 = 126100 := ((pRT hh653).trans ((pNT hh648 (pN_n hh648 z647 e2133)).trans e2133))
        have e2135 : Tg h665 n370 = 126100 := ((pRT hh664).trans ((pNT hh659 (pN_n hh659 z658 e2134)).trans e2134))
        have e2136 : Tg h676 n370 = 126100 := ((pRT hh675).trans ((pNT hh670 (pN_n hh670 z669 e2135)).trans e2135))
        have e2137 : Tg h687 n370 = 126100 := ((pRT hh686).trans ((pNT hh681 (pN_n hh681 z680 e2136)).trans e2136))
        have e2138 : Tg h698 n370 = 126100 := ((pRT hh697).trans ((pNT hh692 (pN_n hh692 z691 e2137)).trans e2137))
        have e2139 : Tg h709 n370 = 126100 := ((pRT hh708).trans ((pNT hh703 (pN_n hh703 z702 e2138)).trans e2138))
        have e2140 : Tg h720 n370 = 126100 := ((pRT hh719).trans ((pNT hh714 (pN_n hh714 z713 e2139)).trans e2139))
        have e2141 : Tg h731 n370 = 126100 := ((pRT hh730).trans ((pNT hh725 (pN_n hh725 z724 e2140)).trans e2140))
        have e2142 : Tg h742 n370 = 126100 := ((pRT hh741).trans ((pNT hh736 (pN_n hh736 z735 e2141)).trans e2141))
        have e2143 : Tg h753 n370 = 126100 := ((pRT hh752).trans ((pNT hh747 (pN_n hh747 z746 e2142)).trans e2142))
        have e2144 : Tg h764 n370 = 126100 := ((pRT hh763).trans ((pNT hh758 (pN_n hh758 z757 e2143)).trans e2143))
        have e2145 : Tg h775 n370 = 126100 := ((pRT hh774).trans ((pNT hh769 (pN_n hh769 z768 e2144)).trans e2144))
        have e2146 : Tg h786 n370 = 126100 := ((pRT hh785).trans ((pNT hh780 (pN_n hh780 z779 e2145)).trans e2145))
        have e2147 : Tg h797 n370 = 126100 := ((pRT hh796).trans ((pNT hh791 (pN_n hh791 z790 e2146)).trans e2146))
        have e2148 : Tg h808 n370 = 126100 := ((pRT hh807).trans ((pNT hh802 (pN_n hh802 z801 e2147)).trans e2147))
        have e2149 : Tg h819 n370 = 126100 := ((pRT hh818).trans ((pNT hh813 (pN_n hh813 z812 e2148)).trans e2148))
        have e2150 : Tg h830 n370 = 126100 := ((pRT hh829).trans ((pNT hh824 (pN_n hh824 z823 e2149)).trans e2149))
        have e2151 : Tg h841 n370 = 126100 := ((pRT hh840).trans ((pNT hh835 (pN_n hh835 z834 e2150)).trans e2150))
        have e2152 : Tg h852 n370 = 126100 := ((pRT hh851).trans ((pNT hh846 (pN_n hh846 z845 e2151)).trans e2151))
        have e2153 : Tg h863 n370 = 126100 := ((pRT hh862).trans ((pNT hh857 (pN_n hh857 z856 e2152)).trans e2152))
        have e2154 : Tg h874 n370 = 126100 := ((pRT hh873).trans ((pNT hh868 (pN_n hh868 z867 e2153)).trans e2153))
        have e2155 : Tg h885 n370 = 126100 := ((pRT hh884).trans ((pNT hh879 (pN_n hh879 z878 e2154)).trans e2154))
        have e2156 : Tg h915 n370 = 126100 := ((pIT hh914).trans ((pIT hh910).trans (fxT F904 ((pRT hh895).trans ((pNT hh890 (pN_n hh890 z889 e2155)).trans e2155)))))
        have e2157 : Rv h915 a0 27 = n381 := ((pIR hh914).trans ((pIR hh910).trans ((fxR F904 e917 rfl).trans ((pR_j hh895 (by decide)).trans ((pNR hh890 (pN_n hh890 z889 e893)).trans ((pR_j hh884 (by decide)).trans ((pNR hh879 (pN_n hh879 z878 e882)).trans ((pR_j hh873 (by decide)).trans ((pNR hh868 (pN_n hh868 z867 e871)).trans ((pR_j hh862 (by decide)).trans ((pNR hh857 (pN_n hh857 z856 e860)).trans ((pR_j hh851 (by decide)).trans ((pNR hh846 (pN_n hh846 z845 e849)).trans ((pR_j hh840 (by decide)).trans ((pNR hh835 (pN_n hh835 z834 e838)).trans ((pR_j hh829 (by decide)).trans ((pNR hh824 (pN_n hh824 z823 e827)).trans ((pR_j hh818 (by decide)).trans ((pNR hh813 (pN_n hh813 z812 e816)).trans ((pR_j hh807 (by decide)).trans ((pNR hh802 (pN_n hh802 z801 e805)).trans ((pR_j hh796 (by decide)).trans ((pNR hh791 (pN_n hh791 z790 e794)).trans ((pR_j hh785 (by decide)).trans ((pNR hh780 (pN_n hh780 z779 e783)).trans ((pR_j hh774 (by decide)).trans ((pNR hh769 (pN_n hh769 z768 e772)).trans ((pR_j hh763 (by decide)).trans ((pNR hh758 (pN_n hh758 z757 e761)).trans ((pR_j hh752 (by decide)).trans ((pNR hh747 (pN_n hh747 z746 e750)).trans ((pR_j hh741 (by decide)).trans ((pNR hh736 (pN_n hh736 z735 e739)).trans ((pR_j hh730 (by decide)).trans ((pNR hh725 (pN_n hh725 z724 e728)).trans ((pR_j hh719 (by decide)).trans ((pNR hh714 (pN_n hh714 z713 e717)).trans ((pR_j hh708 (by decide)).trans ((pNR hh703 (pN_n hh703 z702 e706)).trans ((pR_j hh697 (by decide)).trans ((pNR hh692 (pN_n hh692 z691 e695)).trans ((pR_j hh686 (by decide)).trans ((pNR hh681 (pN_n hh681 z680 e684)).trans ((pR_j hh675 (by decide)).trans ((pNR hh670 (pN_n hh670 z669 e673)).trans ((pR_j hh664 (by decide)).trans ((pNR hh659 (pN_n hh659 z658 e662)).trans ((pR_j hh653 (by decide)).trans ((pNR hh648 (pN_n hh648 z647 e651)).trans ((pR_j hh642 (by decide)).trans ((pNR hh637 (pN_n hh637 z636 e640)).trans ((pR_j hh631 (by decide)).trans ((pNR hh626 (pN_n hh626 z625 e629)).trans ((pR_j hh620 (by decide)).trans ((pNR hh615 (pN_n hh615 z614 e618)).trans ((pR_j hh609 (by decide)).trans ((pNR hh604 (pN_n hh604 z603 e607)).trans ((pR_j hh598 (by decide)).trans ((pNR hh593 (pN_n hh593 z592 e596)).trans ((pR_j hh587 (by decide)).trans ((pNR hh582 (pN_n hh582 z581 e585)).trans ((pR_j hh576 (by decide)).trans ((pNR hh571 (pN_n hh571 z570 e574)).trans ((pR_j hh565 (by decide)).trans ((pNR hh560 (pN_n hh560 z559 e563)).trans ((pR_j hh554 (by decide)).trans ((pNR hh549 (pN_n hh549 z548 e552)).trans ((pR_j hh543 (by decide)).trans ((pNR hh538 (pN_n hh538 z537 e541)).trans ((pR_j hh532 (by decide)).trans ((pNR hh527 (pN_n hh527 z526 e530)).trans ((pR_j hh521 (by decide)).trans ((pNR hh516 (pN_n hh516 z515 e519)).trans ((pR_j hh510 (by decide)).trans ((pNR hh505 (pN_n hh505 z504 e508)).trans ((pR_j hh499 (by decide)).trans ((pNR hh494 (pN_n hh494 z493 e497)).trans ((pR_j hh488 (by decide)).trans ((pNR hh483 (pN_n hh483 z482 e486)).trans ((pR_j hh477 (by decide)).trans ((pNR hh472 (pN_n hh472 z471 e475)).trans ((pR_j hh466 (by decide)).trans ((pNR hh461 (pN_n hh461 z460 e464)).trans ((pR_j hh455 (by decide)).trans ((pNR hh450 (pN_n hh450 z449 e453)).trans ((pR_j hh444 (by decide)).trans ((pNR hh439 (pN_n hh439 z438 e442)).trans ((pR_j hh433 (by decide)).trans ((pNR hh428 (pN_n hh428 z427 e431)).trans ((pR_j hh422 (by decide)).trans ((pNR hh417 (pN_n hh417 z416 e420)).trans ((pR_j hh411 (by decide)).trans ((pNR hh406 (pN_n hh406 z405 e409)).trans ((pR_j hh400 (by decide)).trans ((pNR hh395 (pN_n hh395 z394 e398)).trans (pR_e hh389))))))))))))))))))))))))))))))))))))))))))))))))))))))))))))))))))))))))))))))))))))))))))))))))
        have e2158 : Tg h390 n381 = 127100 := ((pRT hh389).trans (pN_T hh384))
        have e2159 : Tg h401 n381 = 127100 := ((pRT hh400).trans ((pNT hh395 (pN_n hh395 z394 e2158)).trans e2158))
        have e2160 : Tg h412 n381 = 127100 := ((pRT hh411).trans ((pNT hh406 (pN_n hh406 z405 e2159)).trans e2159))
        have e2161 : Tg h423 n381 = 127100 := ((pRT hh422).trans ((pNT hh417 (pN_n hh417 z416 e2160)).trans e2160))
        have e2162 : Tg h434 n381 = 127100 := ((pRT hh433).trans ((pNT hh428 (pN_n hh428 z427 e2161)).trans e2161))
        have e2163 : Tg h445 n381 = 127100 := ((pRT hh444).trans ((pNT hh439 (pN_n hh439 z438 e2162)).trans e2162))
        have e2164 : Tg h456 n381 = 127100 := ((pRT hh455).trans ((pNT hh450 (pN_n hh450 z449 e2163)).trans e2163))
        have e2165 : Tg h467 n381 = 127100 := ((pRT hh466).trans ((pNT hh461 (pN_n hh461 z460 e2164)).trans e2164))
        have e2166 : Tg h478 n381 = 127100 := ((pRT hh477).trans ((pNT hh472 (pN_n hh472 z471 e2165)).trans e2165))
        have e2167 : Tg h489 n381 = 127100 := ((pRT hh488).trans ((pNT hh483 (pN_n hh483 z482 e2166)).trans e2166))
        have e2168 : Tg h500 n381 = 127100 := ((pRT hh499).trans ((pNT hh494 (pN_n hh494 z493 e2167)).trans e2167))
        have e2169 : Tg h511 n381 = 127100 := ((pRT hh510).trans ((pNT hh505 (pN_n hh505 z504 e2168)).trans e2168))
        have e2170 : Tg h522 n381 = 127100 := ((pRT hh521).trans ((pNT hh516 (pN_n hh516 z515 e2169)).trans e2169))
        have e2171 : Tg h533 n381 = 127100 := ((pRT hh532).trans ((pNT hh527 (pN_n hh527 z526 e2170)).trans e2170))
        have e2172 : Tg h544 n381 = 127100 := ((pRT hh543).trans ((pNT hh538 (pN_n hh538 z537 e2171)).trans e2171))
        have e2173 : Tg h555 n381 = 127100 := ((pRT hh554).trans ((pNT hh549 (pN_n hh549 z548 e2172)).trans e2172))
        have e2174 : Tg h566 n381 = 127100 := ((pRT hh565).trans ((pNT hh560 (pN_n hh560 z559 e2173)).trans e2173))
        have e2175 : Tg h577 n381 = 127100 := ((pRT hh576).trans ((pNT hh571 (pN_n hh571 z570 e2174)).trans e2174))
        have e2176 : Tg h588 n381 = 127100 := ((pRT hh587).trans ((pNT hh582 (pN_n hh582 z581 e2175)).trans e2175))
        have e2177 : Tg h599 n381 = 127100 := ((pRT hh598).trans ((pNT hh593 (pN_n hh593 z592 e2176)).trans e2176))
        have e2178 : Tg h610 n381 = 127100 := ((pRT hh609).trans ((pNT hh604 (pN_n hh604 z603 e2177)).trans e2177))
        have e2179 : Tg h621 n381 = 127100 := ((pRT hh620).trans ((pNT hh615 (pN_n hh615 z614 e2178)).trans e2178))
        have e2180 : Tg h632 n381 = 127100 := ((pRT hh631).trans ((pNT hh626 (pN_n hh626 z625 e2179)).trans e2179))
        have e2181 : Tg h643 n381 = 127100 := ((pRT hh642).trans ((pNT hh637 (pN_n hh637 z636 e2180)).trans e2180))
        have e2182 : Tg h654 n381 = 127100 := ((pRT hh653).trans ((pNT hh648 (pN_n hh648 z647 e2181)).trans e2181))
        have e2183 : Tg h665 n381 = 127100 := ((pRT hh664).trans ((pNT hh659 (pN_n hh659 z658 e2182)).trans e2182))
        have e2184 : Tg h676 n381 = 127100 := ((pRT hh675).trans ((pNT hh670 (pN_n hh670 z669 e2183)).trans e2183))
        have e2185 : Tg h687 n381 = 127100 := ((pRT hh686).trans ((pNT hh681 (pN_n hh681 z680 e2184)).trans e2184))
        have e2186 : Tg h698 n381 = 127100 := ((pRT hh697).trans ((pNT hh692 (pN_n hh692 z691 e2185)).trans e2185))
        have e2187 : Tg h709 n381 = 127100 := ((pRT hh708).trans ((pNT hh703 (pN_n hh703 z702 e2186)).trans e2186))
        have e2188 : Tg h720 n381 = 127100 := ((pRT hh719).trans ((pNT hh714 (pN_n hh714 z713 e2187)).trans e2187))
        have e2189 : Tg h731 n381 = 127100 := ((pRT hh730).trans ((pNT hh725 (pN_n hh725 z724 e2188)).trans e2188))
        have e2190 : Tg h742 n381 = 127100 := ((pRT hh741).trans ((pNT hh736 (pN_n hh736 z735 e2189)).trans e2189))
        have e2191 : Tg h753 n381 = 127100 := ((pRT hh752).trans ((pNT hh747 (pN_n hh747 z746 e2190)).trans e2190))
        have e2192 : Tg h764 n381 = 127100 := ((pRT hh763).trans ((pNT hh758 (pN_n hh758 z757 e2191)).trans e2191))
        have e2193 : Tg h775 n381 = 127100 := ((pRT hh774).trans ((pNT hh769 (pN_n hh769 z768 e2192)).trans e2192))
        have e2194 : Tg h786 n381 = 127100 := ((pRT hh785).trans ((pNT hh780 (pN_n hh780 z779 e2193)).trans e2193))
        have e2195 : Tg h797 n381 = 127100 := ((pRT hh796).trans ((pNT hh791 (pN_n hh791 z790 e2194)).trans e2194))
        have e2196 : Tg h808 n381 = 127100 := ((pRT hh807).trans ((pNT hh802 (pN_n hh802 z801 e2195)).trans e2195))
        have e2197 : Tg h819 n381 = 127100 := ((pRT hh818).trans ((pNT hh813 (pN_n hh813 z812 e2196)).trans e2196))
        have e2198 : Tg h830 n381 = 127100 := ((pRT hh829).trans ((pNT hh824 (pN_n hh824 z823 e2197)).trans e2197))
        have e2199 : Tg h841 n381 = 127100 := ((pRT hh840).trans ((pNT hh835 (pN_n hh835 z834 e2198)).trans e2198))
        have e2200 : Tg h852 n381 = 127100 := ((pRT hh851).trans ((pNT hh846 (pN_n hh846 z845 e2199)).trans e2199))
        have e2201 : Tg h863 n381 = 127100 := ((pRT hh862).trans ((pNT hh857 (pN_n hh857 z856 e2200)).trans e2200))
        have e2202 : Tg h874 n381 = 127100 := ((pRT hh873).trans ((pNT hh868 (pN_n hh868 z867 e2201)).trans e2201))
        have e2203 : Tg h885 n381 = 127100 := ((pRT hh884).trans ((pNT hh879 (pN_n hh879 z878 e2202)).trans e2202))
        have e2204 : Tg h915 n381 = 127100 := ((pIT hh914).trans ((pIT hh910).trans (fxT F904 ((pRT hh895).trans ((pNT hh890 (pN_n hh890 z889 e2203)).trans e2203)))))
        have e2205 : Rv h915 a0 29 = n392 := ((pIR hh914).trans ((pIR hh910).trans ((fxR F904 e917 rfl).trans ((pR_j hh895 (by decide)).trans ((pNR hh890 (pN_n hh890 z889 e893)).trans ((pR_j hh884 (by decide)).trans ((pNR hh879 (pN_n hh879 z878 e882)).trans ((pR_j hh873 (by decide)).trans ((pNR hh868 (pN_n hh868 z867 e871)).trans ((pR_j hh862 (by decide)).trans ((pNR hh857 (pN_n hh857 z856 e860)).trans ((pR_j hh851 (by decide)).trans ((pNR hh846 (pN_n hh846 z845 e849)).trans ((pR_j hh840 (by decide)).trans ((pNR hh835 (pN_n hh835 z834 e838)).trans ((pR_j hh829 (by decide)).trans ((pNR hh824 (pN_n hh824 z823 e827)).trans ((pR_j hh818 (by decide)).trans ((pNR hh813 (pN_n hh813 z812 e816)).trans ((pR_j hh807 (by decide)).trans ((pNR hh802 (pN_n hh802 z801 e805)).trans ((pR_j hh796 (by decide)).trans ((pNR hh791 (pN_n hh791 z790 e794)).trans ((pR_j hh785 (by decide)).trans ((pNR hh780 (pN_n hh780 z779 e783)).trans ((pR_j hh774 (by decide)).trans ((pNR hh769 (pN_n hh769 z768 e772)).trans ((pR_j hh763 (by decide)).trans ((pNR hh758 (pN_n hh758 z757 e761)).trans ((pR_j hh752 (by decide)).trans ((pNR hh747 (pN_n hh747 z746 e750)).trans ((pR_j hh741 (by decide)).trans ((pNR hh736 (pN_n hh736 z735 e739)).trans ((pR_j hh730 (by decide)).trans ((pNR hh725 (pN_n hh725 z724 e728)).trans ((pR_j hh719 (by decide)).trans ((pNR hh714 (pN_n hh714 z713 e717)).trans ((pR_j hh708 (by decide)).trans ((pNR hh703 (pN_n hh703 z702 e706)).trans ((pR_j hh697 (by decide)).trans ((pNR hh692 (pN_n hh692 z691 e695)).trans ((pR_j hh686 (by decide)).trans ((pNR hh681 (pN_n hh681 z680 e684)).trans ((pR_j hh675 (by decide)).trans ((pNR hh670 (pN_n hh670 z669 e673)).trans ((pR_j hh664 (by decide)).trans ((pNR hh659 (pN_n hh659 z658 e662)).trans ((pR_j hh653 (by decide)).trans ((pNR hh648 (pN_n hh648 z647 e651)).trans ((pR_j hh642 (by decide)).trans ((pNR hh637 (pN_n hh637 z636 e640)).trans ((pR_j hh631 (by decide)).trans ((pNR hh626 (pN_n hh626 z625 e629)).trans ((pR_j hh620 (by decide)).trans ((pNR hh615 (pN_n hh615 z614 e618)).trans ((pR_j hh609 (by decide)).trans ((pNR hh604 (pN_n hh604 z603 e607)).trans ((pR_j hh598 (by decide)).trans ((pNR hh593 (pN_n hh593 z592 e596)).trans ((pR_j hh587 (by decide)).trans ((pNR hh582 (pN_n hh582 z581 e585)).trans ((pR_j hh576 (by decide)).trans ((pNR hh571 (pN_n hh571 z570 e574)).trans ((pR_j hh565 (by decide)).trans ((pNR hh560 (pN_n hh560 z559 e563)).trans ((pR_j hh554 (by decide)).trans ((pNR hh549 (pN_n hh549 z548 e552)).trans ((pR_j hh543 (by decide)).trans ((pNR hh538 (pN_n hh538 z537 e541)).trans ((pR_j hh532 (by decide)).trans ((pNR hh527 (pN_n hh527 z526 e530)).trans ((pR_j hh521 (by decide)).trans ((pNR hh516 (pN_n hh516 z515 e519)).trans ((pR_j hh510 (by decide)).trans ((pNR hh505 (pN_n hh505 z504 e508)).trans ((pR_j hh499 (by decide)).trans ((pNR hh494 (pN_n hh494 z493 e497)).trans ((pR_j hh488 (by decide)).trans ((pNR hh483 (pN_n hh483 z482 e486)).trans ((pR_j hh477 (by decide)).trans ((pNR hh472 (pN_n hh472 z471 e475)).trans ((pR_j hh466 (by decide)).trans ((pNR hh461 (pN_n hh461 z460 e464)).trans ((pR_j hh455 (by decide)).trans ((pNR hh450 (pN_n hh450 z449 e453)).trans ((pR_j hh444 (by decide)).trans ((pNR hh439 (pN_n hh439 z438 e442)).trans ((pR_j hh433 (by decide)).trans ((pNR hh428 (pN_n hh428 z427 e431)).trans ((pR_j hh422 (by decide)).trans ((pNR hh417 (pN_n hh417 z416 e420)).trans ((pR_j hh411 (by decide)).trans ((pNR hh406 (pN_n hh406 z405 e409)).trans (pR_e hh400))))))))))))))))))))))))))))))))))))))))))))))))))))))))))))))))))))))))))))))))))))))))))))))
        have e2206 : Tg h401 n392 = 129100 := ((pRT hh400).trans (pN_T hh395))
        have e2207 : Tg h412 n392 = 129100 := ((pRT hh411).trans ((pNT hh406 (pN_n hh406 z405 e2206)).trans e2206))
        have e2208 : Tg h423 n392 = 129100 := ((pRT hh422).trans ((pNT hh417 (pN_n hh417 z416 e2207)).trans e2207))
        have e2209 : Tg h434 n392 = 129100 := ((pRT hh433).trans ((pNT hh428 (pN_n hh428 z427 e2208)).trans e2208))
        have e2210 : Tg h445 n392 = 129100 := ((pRT hh444).trans ((pNT hh439 (pN_n hh439 z438 e2209)).trans e2209))
        have e2211 : Tg h456 n392 = 129100 := ((pRT hh455).trans ((pNT hh450 (pN_n hh450 z449 e2210)).trans e2210))
        have e2212 : Tg h467 n392 = 129100 := ((pRT hh466).trans ((pNT hh461 (pN_n hh461 z460 e2211)).trans e2211))
        have e2213 : Tg h478 n392 = 129100 := ((pRT hh477).trans ((pNT hh472 (pN_n hh472 z471 e2212)).trans e2212))
        have e2214 : Tg h489 n392 = 129100 := ((pRT hh488).trans ((pNT hh483 (pN_n hh483 z482 e2213)).trans e2213))
        have e2215 : Tg h500 n392 = 129100 := ((pRT hh499).trans ((pNT hh494 (pN_n hh494 z493 e2214)).trans e2214))
        have e2216 : Tg h511 n392 = 129100 := ((pRT hh510).trans ((pNT hh505 (pN_n hh505 z504 e2215)).trans e2215))
        have e2217 : Tg h522 n392 = 129100 := ((pRT hh521).trans ((pNT hh516 (pN_n hh516 z515 e2216)).trans e2216))
        have e2218 : Tg h533 n392 = 129100 := ((pRT hh532).trans ((pNT hh527 (pN_n hh527 z526 e2217)).trans e2217))
        have e2219 : Tg h544 n392 = 129100 := ((pRT hh543).trans ((pNT hh538 (pN_n hh538 z537 e2218)).trans e2218))
        have e2220 : Tg h555 n392 = 129100 := ((pRT hh554).trans ((pNT hh549 (pN_n hh549 z548 e2219)).trans e2219))
        have e2221 : Tg h566 n392 = 129100 := ((pRT hh565).trans ((pNT hh560 (pN_n hh560 z559 e2220)).trans e2220))
        have e2222 : Tg h577 n392 = 129100 := ((pRT hh576).trans ((pNT hh571 (pN_n hh571 z570 e2221)).trans e2221))
        have e2223 : Tg h588 n392 = 129100 := ((pRT hh587).trans ((pNT hh582 (pN_n hh582 z581 e2222)).trans e2222))
        have e2224 : Tg h599 n392 = 129100 := ((pRT hh598).trans ((pNT hh593 (pN_n hh593 z592 e2223)).trans e2223))
        have e2225 : Tg h610 n392 = 129100 := ((pRT hh609).trans ((pNT hh604 (pN_n hh604 z603 e2224)).trans e2224))
        have e2226 : Tg h621 n392 = 129100 := ((pRT hh620).trans ((pNT hh615 (pN_n hh615 z614 e2225)).trans e2225))
        have e2227 : Tg h632 n392 = 129100 := ((pRT hh631).trans ((pNT hh626 (pN_n hh626 z625 e2226)).trans e2226))
        have e2228 : Tg h643 n392 = 129100 := ((pRT hh642).trans ((pNT hh637 (pN_n hh637 z636 e2227)).trans e2227))
        have e2229 : Tg h654 n392 = 129100 := ((pRT hh653).trans ((pNT hh648 (pN_n hh648 z647 e2228)).trans e2228))
        have e2230 : Tg h665 n392 = 129100 := ((pRT hh664).trans ((pNT hh659 (pN_n hh659 z658 e2229)).trans e2229))
        have e2231 : Tg h676 n392 = 129100 := ((pRT hh675).trans ((pNT hh670 (pN_n hh670 z669 e2230)).trans e2230))
        have e2232 : Tg h687 n392 = 129100 := ((pRT hh686).trans ((pNT hh681 (pN_n hh681 z680 e2231)).trans e2231))
        have e2233 : Tg h698 n392 = 129100 := ((pRT hh697).trans ((pNT hh692 (pN_n hh692 z691 e2232)).trans e2232))
        have e2234 : Tg h709 n392 = 129100 := ((pRT hh708).trans ((pNT hh703 (pN_n hh703 z702 e2233)).trans e2233))
        have e2235 : Tg h720 n392 = 129100 := ((pRT hh719).trans ((pNT hh714 (pN_n hh714 z713 e2234)).trans e2234))
        have e2236 : Tg h731 n392 = 129100 := ((pRT hh730).trans ((pNT hh725 (pN_n hh725 z724 e2235)).trans e2235))
        have e2237 : Tg h742 n392 = 129100 := ((pRT hh741).trans ((pNT hh736 (pN_n hh736 z735 e2236)).trans e2236))
        have e2238 : Tg h753 n392 = 129100 := ((pRT hh752).trans ((pNT hh747 (pN_n hh747 z746 e2237)).trans e2237))
        have e2239 : Tg h764 n392 = 129100 := ((pRT hh763).trans ((pNT hh758 (pN_n hh758 z757 e2238)).trans e2238))
        have e2240 : Tg h775 n392 = 129100 := ((pRT hh774).trans ((pNT hh769 (pN_n hh769 z768 e2239)).trans e2239))
        have e2241 : Tg h786 n392 = 129100 := ((pRT hh785).trans ((pNT hh780 (pN_n hh780 z779 e2240)).trans e2240))
        have e2242 : Tg h797 n392 = 129100 := ((pRT hh796).trans ((pNT hh791 (pN_n hh791 z790 e2241)).trans e2241))
        have e2243 : Tg h808 n392 = 129100 := ((pRT hh807).trans ((pNT hh802 (pN_n hh802 z801 e2242)).trans e2242))
        have e2244 : Tg h819 n392 = 129100 := ((pRT hh818).trans ((pNT hh813 (pN_n hh813 z812 e2243)).trans e2243))
        have e2245 : Tg h830 n392 = 129100 := ((pRT hh829).trans ((pNT hh824 (pN_n hh824 z823 e2244)).trans e2244))
        have e2246 : Tg h841 n392 = 129100 := ((pRT hh840).trans ((pNT hh835 (pN_n hh835 z834 e2245)).trans e2245))
        have e2247 : Tg h852 n392 = 129100 := ((pRT hh851).trans ((pNT hh846 (pN_n hh846 z845 e2246)).trans e2246))
        have e2248 : Tg h863 n392 = 129100 := ((pRT hh862).trans ((pNT hh857 (pN_n hh857 z856 e2247)).trans e2247))
        have e2249 : Tg h874 n392 = 129100 := ((pRT hh873).trans ((pNT hh868 (pN_n hh868 z867 e2248)).trans e2248))
        have e2250 : Tg h885 n392 = 129100 := ((pRT hh884).trans ((pNT hh879 (pN_n hh879 z878 e2249)).trans e2249))
        have e2251 : Tg h915 n392 = 129100 := ((pIT hh914).trans ((pIT hh910).trans (fxT F904 ((pRT hh895).trans ((pNT hh890 (pN_n hh890 z889 e2250)).trans e2250)))))
        have e2252 : Rv h915 a0 30 = n403 := ((pIR hh914).trans ((pIR hh910).trans ((fxR F904 e917 rfl).trans ((pR_j hh895 (by decide)).trans ((pNR hh890 (pN_n hh890 z889 e893)).trans ((pR_j hh884 (by decide)).trans ((pNR hh879 (pN_n hh879 z878 e882)).trans ((pR_j hh873 (by decide)).trans ((pNR hh868 (pN_n hh868 z867 e871)).trans ((pR_j hh862 (by decide)).trans ((pNR hh857 (pN_n hh857 z856 e860)).trans ((pR_j hh851 (by decide)).trans ((pNR hh846 (pN_n hh846 z845 e849)).trans ((pR_j hh840 (by decide)).trans ((pNR hh835 (pN_n hh835 z834 e838)).trans ((pR_j hh829 (by decide)).trans ((pNR hh824 (pN_n hh824 z823 e827)).trans ((pR_j hh818 (by decide)).trans ((pNR hh813 (pN_n hh813 z812 e816)).trans ((pR_j hh807 (by decide)).trans ((pNR hh802 (pN_n hh802 z801 e805)).trans ((pR_j hh796 (by decide)).trans ((pNR hh791 (pN_n hh791 z790 e794)).trans ((pR_j hh785 (by decide)).trans ((pNR hh780 (pN_n hh780 z779 e783)).trans ((pR_j hh774 (by decide)).trans ((pNR hh769 (pN_n hh769 z768 e772)).trans ((pR_j hh763 (by decide)).trans ((pNR hh758 (pN_n hh758 z757 e761)).trans ((pR_j hh752 (by decide)).trans ((pNR hh747 (pN_n hh747 z746 e750)).trans ((pR_j hh741 (by decide)).trans ((pNR hh736 (pN_n hh736 z735 e739)).trans ((pR_j hh730 (by decide)).trans ((pNR hh725 (pN_n hh725 z724 e728)).trans ((pR_j hh719 (by decide)).trans ((pNR hh714 (pN_n hh714 z713 e717)).trans ((pR_j hh708 (by decide)).trans ((pNR hh703 (pN_n hh703 z702 e706)).trans ((pR_j hh697 (by decide)).trans ((pNR hh692 (pN_n hh692 z691 e695)).trans ((pR_j hh686 (by decide)).trans ((pNR hh681 (pN_n hh681 z680 e684)).trans ((pR_j hh675 (by decide)).trans ((pNR hh670 (pN_n hh670 z669 e673)).trans ((pR_j hh664 (by decide)).trans ((pNR hh659 (pN_n hh659 z658 e662)).trans ((pR_j hh653 (by decide)).trans ((pNR hh648 (pN_n hh648 z647 e651)).trans ((pR_j hh642 (by decide)).trans ((pNR hh637 (pN_n hh637 z636 e640)).trans ((pR_j hh631 (by decide)).trans ((pNR hh626 (pN_n hh626 z625 e629)).trans ((pR_j hh620 (by decide)).trans ((pNR hh615 (pN_n hh615 z614 e618)).trans ((pR_j hh609 (by decide)).trans ((pNR hh604 (pN_n hh604 z603 e607)).trans ((pR_j hh598 (by decide)).trans ((pNR hh593 (pN_n hh593 z592 e596)).trans ((pR_j hh587 (by decide)).trans ((pNR hh582 (pN_n hh582 z581 e585)).trans ((pR_j hh576 (by decide)).trans ((pNR hh571 (pN_n hh571 z570 e574)).trans ((pR_j hh565 (by decide)).trans ((pNR hh560 (pN_n hh560 z559 e563)).trans ((pR_j hh554 (by decide)).trans ((pNR hh549 (pN_n hh549 z548 e552)).trans ((pR_j hh543 (by decide)).trans ((pNR hh538 (pN_n hh538 z537 e541)).trans ((pR_j hh532 (by decide)).trans ((pNR hh527 (pN_n hh527 z526 e530)).trans ((pR_j hh521 (by decide)).trans ((pNR hh516 (pN_n hh516 z515 e519)).trans ((pR_j hh510 (by decide)).trans ((pNR hh505 (pN_n hh505 z504 e508)).trans ((pR_j hh499 (by decide)).trans ((pNR hh494 (pN_n hh494 z493 e497)).trans ((pR_j hh488 (by decide)).trans ((pNR hh483 (pN_n hh483 z482 e486)).trans ((pR_j hh477 (by decide)).trans ((pNR hh472 (pN_n hh472 z471 e475)).trans ((pR_j hh466 (by decide)).trans ((pNR hh461 (pN_n hh461 z460 e464)).trans ((pR_j hh455 (by decide)).trans ((pNR hh450 (pN_n hh450 z449 e453)).trans ((pR_j hh444 (by decide)).trans ((pNR hh439 (pN_n hh439 z438 e442)).trans ((pR_j hh433 (by decide)).trans ((pNR hh428 (pN_n hh428 z427 e431)).trans ((pR_j hh422 (by decide)).trans ((pNR hh417 (pN_n hh417 z416 e420)).trans (pR_e hh411))))))))))))))))))))))))))))))))))))))))))))))))))))))))))))))))))))))))))))))))))))))))))))
        have e2253 : Tg h412 n403 = 130100 := ((pRT hh411).trans (pN_T hh406))
        have e2254 : Tg h423 n403 = 130100 := ((pRT hh422).trans ((pNT hh417 (pN_n hh417 z416 e2253)).trans e2253))
        have e2255 : Tg h434 n403 = 130100 := ((pRT hh433).trans ((pNT hh428 (pN_n hh428 z427 e2254)).trans e2254))
        have e2256 : Tg h445 n403 = 130100 := ((pRT hh444).trans ((pNT hh439 (pN_n hh439 z438 e2255)).trans e2255))
        have e2257 : Tg h456 n403 = 130100 := ((pRT hh455).trans ((pNT hh450 (pN_n hh450 z449 e2256)).trans e2256))
        have e2258 : Tg h467 n403 = 130100 := ((pRT hh466).trans ((pNT hh461 (pN_n hh461 z460 e2257)).trans e2257))
        have e2259 : Tg h478 n403 = 130100 := ((pRT hh477).trans ((pNT hh472 (pN_n hh472 z471 e2258)).trans e2258))
        have e2260 : Tg h489 n403 = 130100 := ((pRT hh488).trans ((pNT hh483 (pN_n hh483 z482 e2259)).trans e2259))
        have e2261 : Tg h500 n403 = 130100 := ((pRT hh499).trans ((pNT hh494 (pN_n hh494 z493 e2260)).trans e2260))
        have e2262 : Tg h511 n403 = 130100 := ((pRT hh510).trans ((pNT hh505 (pN_n hh505 z504 e2261)).trans e2261))
        have e2263 : Tg h522 n403 = 130100 := ((pRT hh521).trans ((pNT hh516 (pN_n hh516 z515 e2262)).trans e2262))
        have e2264 : Tg h533 n403 = 130100 := ((pRT hh532).trans ((pNT hh527 (pN_n hh527 z526 e2263)).trans e2263))
        have e2265 : Tg h544 n403 = 130100 := ((pRT hh543).trans ((pNT hh538 (pN_n hh538 z537 e2264)).trans e2264))
        have e2266 : Tg h555 n403 = 130100 := ((pRT hh554).trans ((pNT hh549 (pN_n hh549 z548 e2265)).trans e2265))
        have e2267 : Tg h566 n403 = 130100 := ((pRT hh565).trans ((pNT hh560 (pN_n hh560 z559 e2266)).trans e2266))
        have e2268 : Tg h577 n403 = 130100 := ((pRT hh576).trans ((pNT hh571 (pN_n hh571 z570 e2267)).trans e2267))
        have e2269 : Tg h588 n403 = 130100 := ((pRT hh587).trans ((pNT hh582 (pN_n hh582 z581 e2268)).trans e2268))
        have e2270 : Tg h599 n403 = 130100 := ((pRT hh598).trans ((pNT hh593 (pN_n hh593 z592 e2269)).trans e2269))
        have e2271 : Tg h610 n403 = 130100 := ((pRT hh609).trans ((pNT hh604 (pN_n hh604 z603 e2270)).trans e2270))
        have e2272 : Tg h621 n403 = 130100 := ((pRT hh620).trans ((pNT hh615 (pN_n hh615 z614 e2271)).trans e2271))
        have e2273 : Tg h632 n403 = 130100 := ((pRT hh631).trans ((pNT hh626 (pN_n hh626 z625 e2272)).trans e2272))
        have e2274 : Tg h643 n403 = 130100 := ((pRT hh642).trans ((pNT hh637 (pN_n hh637 z636 e2273)).trans e2273))
        have e2275 : Tg h654 n403 = 130100 := ((pRT hh653).trans ((pNT hh648 (pN_n hh648 z647 e2274)).trans e2274))
        have e2276 : Tg h665 n403 = 130100 := ((pRT hh664).trans ((pNT hh659 (pN_n hh659 z658 e2275)).trans e2275))
        have e2277 : Tg h676 n403 = 130100 := ((pRT hh675).trans ((pNT hh670 (pN_n hh670 z669 e2276)).trans e2276))
        have e2278 : Tg h687 n403 = 130100 := ((pRT hh686).trans ((pNT hh681 (pN_n hh681 z680 e2277)).trans e2277))
        have e2279 : Tg h698 n403 = 130100 := ((pRT hh697).trans ((pNT hh692 (pN_n hh692 z691 e2278)).trans e2278))
        have e2280 : Tg h709 n403 = 130100 := ((pRT hh708).trans ((pNT hh703 (pN_n hh703 z702 e2279)).trans e2279))
        have e2281 : Tg h720 n403 = 130100 := ((pRT hh719).trans ((pNT hh714 (pN_n hh714 z713 e2280)).trans e2280))
        have e2282 : Tg h731 n403 = 130100 := ((pRT hh730).trans ((pNT hh725 (pN_n hh725 z724 e2281)).trans e2281))
        have e2283 : Tg h742 n403 = 130100 := ((pRT hh741).trans ((pNT hh736 (pN_n hh736 z735 e2282)).trans e2282))
        have e2284 : Tg h753 n403 = 130100 := ((pRT hh752).trans ((pNT hh747 (pN_n hh747 z746 e2283)).trans e2283))
        have e2285 : Tg h764 n403 = 130100 := ((pRT hh763).trans ((pNT hh758 (pN_n hh758 z757 e2284)).trans e2284))
        have e2286 : Tg h775 n403 = 130100 := ((pRT hh774).trans ((pNT hh769 (pN_n hh769 z768 e2285)).trans e2285))
        have e2287 : Tg h786 n403 = 130100 := ((pRT hh785).trans ((pNT hh780 (pN_n hh780 z779 e2286)).trans e2286))
        have e2288 : Tg h797 n403 = 130100 := ((pRT hh796).trans ((pNT hh791 (pN_n hh791 z790 e2287)).trans e2287))
        have e2289 : Tg h808 n403 = 130100 := ((pRT hh807).trans ((pNT hh802 (pN_n hh802 z801 e2288)).trans e2288))
        have e2290 : Tg h819 n403 = 130100 := ((pRT hh818).trans ((pNT hh813 (pN_n hh813 z812 e2289)).trans e2289))
        have e2291 : Tg h830 n403 = 130100 := ((pRT hh829).trans ((pNT hh824 (pN_n hh824 z823 e2290)).trans e2290))
        have e2292 : Tg h841 n403 = 130100 := ((pRT hh840).trans ((pNT hh835 (pN_n hh835 z834 e2291)).trans e2291))
        have e2293 : Tg h852 n403 = 130100 := ((pRT hh851).trans ((pNT hh846 (pN_n hh846 z845 e2292)).trans e2292))
        have e2294 : Tg h863 n403 = 130100 := ((pRT hh862).trans ((pNT hh857 (pN_n hh857 z856 e2293)).trans e2293))
        have e2295 : Tg h874 n403 = 130100 := ((pRT hh873).trans ((pNT hh868 (pN_n hh868 z867 e2294)).trans e2294))
        have e2296 : Tg h885 n403 = 130100 := ((pRT hh884).trans ((pNT hh879 (pN_n hh879 z878 e2295)).trans e2295))
        have e2297 : Tg h915 n403 = 130100 := ((pIT hh914).trans ((pIT hh910).trans (fxT F904 ((pRT hh895).trans ((pNT hh890 (pN_n hh890 z889 e2296)).trans e2296)))))
        have e2298 : Rv h915 a0 31 = n414 := ((pIR hh914).trans ((pIR hh910).trans ((fxR F904 e917 rfl).trans ((pR_j hh895 (by decide)).trans ((pNR hh890 (pN_n hh890 z889 e893)).trans ((pR_j hh884 (by decide)).trans ((pNR hh879 (pN_n hh879 z878 e882)).trans ((pR_j hh873 (by decide)).trans ((pNR hh868 (pN_n hh868 z867 e871)).trans ((pR_j hh862 (by decide)).trans ((pNR hh857 (pN_n hh857 z856 e860)).trans ((pR_j hh851 (by decide)).trans ((pNR hh846 (pN_n hh846 z845 e849)).trans ((pR_j hh840 (by decide)).trans ((pNR hh835 (pN_n hh835 z834 e838)).trans ((pR_j hh829 (by decide)).trans ((pNR hh824 (pN_n hh824 z823 e827)).trans ((pR_j hh818 (by decide)).trans ((pNR hh813 (pN_n hh813 z812 e816)).trans ((pR_j hh807 (by decide)).trans ((pNR hh802 (pN_n hh802 z801 e805)).trans ((pR_j hh796 (by decide)).trans ((pNR hh791 (pN_n hh791 z790 e794)).trans ((pR_j hh785 (by decide)).trans ((pNR hh780 (pN_n hh780 z779 e783)).trans ((pR_j hh774 (by decide)).trans ((pNR hh769 (pN_n hh769 z768 e772)).trans ((pR_j hh763 (by decide)).trans ((pNR hh758 (pN_n hh758 z757 e761)).trans ((pR_j hh752 (by decide)).trans ((pNR hh747 (pN_n hh747 z746 e750)).trans ((pR_j hh741 (by decide)).trans ((pNR hh736 (pN_n hh736 z735 e739)).trans ((pR_j hh730 (by decide)).trans ((pNR hh725 (pN_n hh725 z724 e728)).trans ((pR_j hh719 (by decide)).trans ((pNR hh714 (pN_n hh714 z713 e717)).trans ((pR_j hh708 (by decide)).trans ((pNR hh703 (pN_n hh703 z702 e706)).trans ((pR_j hh697 (by decide)).trans ((pNR hh692 (pN_n hh692 z691 e695)).trans ((pR_j hh686 (by decide)).trans ((pNR hh681 (pN_n hh681 z680 e684)).trans ((pR_j hh675 (by decide)).trans ((pNR hh670 (pN_n hh670 z669 e673)).trans ((pR_j hh664 (by decide)).trans ((pNR hh659 (pN_n hh659 z658 e662)).trans ((pR_j hh653 (by decide)).trans ((pNR hh648 (pN_n hh648 z647 e651)).trans ((pR_j hh642 (by decide)).trans ((pNR hh637 (pN_n hh637 z636 e640)).trans ((pR_j hh631 (by decide)).trans ((pNR hh626 (pN_n hh626 z625 e629)).trans ((pR_j hh620 (by decide)).trans ((pNR hh615 (pN_n hh615 z614 e618)).trans ((pR_j hh609 (by decide)).trans ((pNR hh604 (pN_n hh604 z603 e607)).trans ((pR_j hh598 (by decide)).trans ((pNR hh593 (pN_n hh593 z592 e596)).trans ((pR_j hh587 (by decide)).trans ((pNR hh582 (pN_n hh582 z581 e585)).trans ((pR_j hh576 (by decide)).trans ((pNR hh571 (pN_n hh571 z570 e574)).trans ((pR_j hh565 (by decide)).trans ((pNR hh560 (pN_n hh560 z559 e563)).trans ((pR_j hh554 (by decide)).trans ((pNR hh549 (pN_n hh549 z548 e552)).trans ((pR_j hh543 (by decide)).trans ((pNR hh538 (pN_n hh538 z537 e541)).trans ((pR_j hh532 (by decide)).trans ((pNR hh527 (pN_n hh527 z526 e530)).trans ((pR_j hh521 (by decide)).trans ((pNR hh516 (pN_n hh516 z515 e519)).trans ((pR_j hh510 (by decide)).trans ((pNR hh505 (pN_n hh505 z504 e508)).trans ((pR_j hh499 (by decide)).trans ((pNR hh494 (pN_n hh494 z493 e497)).trans ((pR_j hh488 (by decide)).trans ((pNR hh483 (pN_n hh483 z482 e486)).trans ((pR_j hh477 (by decide)).trans ((pNR hh472 (pN_n hh472 z471 e475)).trans ((pR_j hh466 (by decide)).trans ((pNR hh461 (pN_n hh461 z460 e464)).trans ((pR_j hh455 (by decide)).trans ((pNR hh450 (pN_n hh450 z449 e453)).trans ((pR_j hh444 (by decide)).trans ((pNR hh439 (pN_n hh439 z438 e442)).trans ((pR_j hh433 (by decide)).trans ((pNR hh428 (pN_n hh428 z427 e431)).trans (pR_e hh422))))))))))))))))))))))))))))))))))))))))))))))))))))))))))))))))))))))))))))))))))))))))))
        have e2299 : Tg h423 n414 = 131100 := ((pRT hh422).trans (pN_T hh417))
        have e2300 : Tg h434 n414 = 131100 := ((pRT hh433).trans ((pNT hh428 (pN_n hh428 z427 e2299)).trans e2299))
        have e2301 : Tg h445 n414 = 131100 := ((pRT hh444).trans ((pNT hh439 (pN_n hh439 z438 e2300)).trans e2300))
        have e2302 : Tg h456 n414 = 131100 := ((pRT hh455).trans ((pNT hh450 (pN_n hh450 z449 e2301)).trans e2301))
        have e2303 : Tg h467 n414 = 131100 := ((pRT hh466).trans ((pNT hh461 (pN_n hh461 z460 e2302)).trans e2302))
        have e2304 : Tg h478 n414 = 131100 := ((pRT hh477).trans ((pNT hh472 (pN_n hh472 z471 e2303)).trans e2303))
        have e2305 : Tg h489 n414 = 131100 := ((pRT hh488).trans ((pNT hh483 (pN_n hh483 z482 e2304)).trans e2304))
        have e2306 : Tg h500 n414 = 131100 := ((pRT hh499).trans ((pNT hh494 (pN_n hh494 z493 e2305)).trans e2305))
        have e2307 : Tg h511 n414 = 131100 := ((pRT hh510).trans ((pNT hh505 (pN_n hh505 z504 e2306)).trans e2306))
        have e2308 : Tg h522 n414 = 131100 := ((pRT hh521).trans ((pNT hh516 (pN_n hh516 z515 e2307)).trans e2307))
        have e2309 : Tg h533 n414 = 131100 := ((pRT hh532).trans ((pNT hh527 (pN_n hh527 z526 e2308)).trans e2308))
        have e2310 : Tg h544 n414 = 131100 := ((pRT hh543).trans ((pNT hh538 (pN_n hh538 z537 e2309)).trans e2309))
        have e2311 : Tg h555 n414 = 131100 := ((pRT hh554).trans ((pNT hh549 (pN_n hh549 z548 e2310)).trans e2310))
        have e2312 : Tg h566 n414 = 131100 := ((pRT hh565).trans ((pNT hh560 (pN_n hh560 z559 e2311)).trans e2311))
        have e2313 : Tg h577 n414 = 131100 := ((pRT hh576).trans ((pNT hh571 (pN_n hh571 z570 e2312)).trans e2312))
        have e2314 : Tg h588 n414 = 131100 := ((pRT hh587).trans ((pNT hh582 (pN_n hh582 z581 e2313)).trans e2313))
        have e2315 : Tg h599 n414 = 131100 := ((pRT hh598).trans ((pNT hh593 (pN_n hh593 z592 e2314)).trans e2314))
        have e2316 : Tg h610 n414 = 131100 := ((pRT hh609).trans ((pNT hh604 (pN_n hh604 z603 e2315)).trans e2315))
        have e2317 : Tg h621 n414 = 131100 := ((pRT hh620).trans ((pNT hh615 (pN_n hh615 z614 e2316)).trans e2316))
        have e2318 : Tg h632 n414 = 131100 := ((pRT hh631).trans ((pNT hh626 (pN_n hh626 z625 e2317)).trans e2317))
        have e2319 : Tg h643 n414 = 131100 := ((pRT hh642).trans ((pNT hh637 (pN_n hh637 z636 e2318)).trans e2318))
        have e2320 : Tg h654 n414 = 131100 := ((pRT hh653).trans ((pNT hh648 (pN_n hh648 z647 e2319)).trans e2319))
        have e2321 : Tg h665 n414 = 131100 := ((pRT hh664).trans ((pNT hh659 (pN_n hh659 z658 e2320)).trans e2320))
        have e2322 : Tg h676 n414 = 131100 := ((pRT hh675).trans ((pNT hh670 (pN_n hh670 z669 e2321)).trans e2321))
        have e2323 : Tg h687 n414 = 131100 := ((pRT hh686).trans ((pNT hh681 (pN_n hh681 z680 e2322)).trans e2322))
        have e2324 : Tg h698 n414 = 131100 := ((pRT hh697).trans ((pNT hh692 (pN_n hh692 z691 e2323)).trans e2323))
        have e2325 : Tg h709 n414 = 131100 := ((pRT hh708).trans ((pNT hh703 (pN_n hh703 z702 e2324)).trans e2324))
        have e2326 : Tg h720 n414 = 131100 := ((pRT hh719).trans ((pNT hh714 (pN_n hh714 z713 e2325)).trans e2325))
        have e2327 : Tg h731 n414 = 131100 := ((pRT hh730).trans ((pNT hh725 (pN_n hh725 z724 e2326)).trans e2326))
        have e2328 : Tg h742 n414 = 131100 := ((pRT hh741).trans ((pNT hh736 (pN_n hh736 z735 e2327)).trans e2327))
        have e2329 : Tg h753 n414 = 131100 := ((pRT hh752).trans ((pNT hh747 (pN_n hh747 z746 e2328)).trans e2328))
        have e2330 : Tg h764 n414 = 131100 := ((pRT hh763).trans ((pNT hh758 (pN_n hh758 z757 e2329)).trans e2329))
        have e2331 : Tg h775 n414 = 131100 := ((pRT hh774).trans ((pNT hh769 (pN_n hh769 z768 e2330)).trans e2330))
        have e2332 : Tg h786 n414 = 131100 := ((pRT hh785).trans ((pNT hh780 (pN_n hh780 z779 e2331)).trans e2331))
        have e2333 : Tg h797 n414 = 131100 := ((pRT hh796).trans ((pNT hh791 (pN_n hh791 z790 e2332)).trans e2332))
        have e2334 : Tg h808 n414 = 131100 := ((pRT hh807).trans ((pNT hh802 (pN_n hh802 z801 e2333)).trans e2333))
        have e2335 : Tg h819 n414 = 131100 := ((pRT hh818).trans ((pNT hh813 (pN_n hh813 z812 e2334)).trans e2334))
        have e2336 : Tg h830 n414 = 131100 := ((pRT hh829).trans ((pNT hh824 (pN_n hh824 z823 e2335)).trans e2335))
        have e2337 : Tg h841 n414 = 131100 := ((pRT hh840).trans ((pNT hh835 (pN_n hh835 z834 e2336)).trans e2336))
        have e2338 : Tg h852 n414 = 131100 := ((pRT hh851).trans ((pNT hh846 (pN_n hh846 z845 e2337)).trans e2337))
        have e2339 : Tg h863 n414 = 131100 := ((pRT hh862).trans ((pNT hh857 (pN_n hh857 z856 e2338)).trans e2338))
        have e2340 : Tg h874 n414 = 131100 := ((pRT hh873).trans ((pNT hh868 (pN_n hh868 z867 e2339)).trans e2339))
        have e2341 : Tg h885 n414 = 131100 := ((pRT hh884).trans ((pNT hh879 (pN_n hh879 z878 e2340)).trans e2340))
        have e2342 : Tg h915 n414 = 131100 := ((pIT hh914).trans ((pIT hh910).trans (fxT F904 ((pRT hh895).trans ((pNT hh890 (pN_n hh890 z889 e2341)).trans e2341)))))
        have e2343 : Rv h915 a0 32 = n425 := ((pIR hh914).trans ((pIR hh910).trans ((fxR F904 e917 rfl).trans ((pR_j hh895 (by decide)).trans ((pNR hh890 (pN_n hh890 z889 e893)).trans ((pR_j hh884 (by decide)).trans ((pNR hh879 (pN_n hh879 z878 e882)).trans ((pR_j hh873 (by decide)).trans ((pNR hh868 (pN_n hh868 z867 e871)).trans ((pR_j hh862 (by decide)).trans ((pNR hh857 (pN_n hh857 z856 e860)).trans ((pR_j hh851 (by decide)).trans ((pNR hh846 (pN_n hh846 z845 e849)).trans ((pR_j hh840 (by decide)).trans ((pNR hh835 (pN_n hh835 z834 e838)).trans ((pR_j hh829 (by decide)).trans ((pNR hh824 (pN_n hh824 z823 e827)).trans ((pR_j hh818 (by decide)).trans ((pNR hh813 (pN_n hh813 z812 e816)).trans ((pR_j hh807 (by decide)).trans ((pNR hh802 (pN_n hh802 z801 e805)).trans ((pR_j hh796 (by decide)).trans ((pNR hh791 (pN_n hh791 z790 e794)).trans ((pR_j hh785 (by decide)).trans ((pNR hh780 (pN_n hh780 z779 e783)).trans ((pR_j hh774 (by decide)).trans ((pNR hh769 (pN_n hh769 z768 e772)).trans ((pR_j hh763 (by decide)).trans ((pNR hh758 (pN_n hh758 z757 e761)).trans ((pR_j hh752 (by decide)).trans ((pNR hh747 (pN_n hh747 z746 e750)).trans ((pR_j hh741 (by decide)).trans ((pNR hh736 (pN_n hh736 z735 e739)).trans ((pR_j hh730 (by decide)).trans ((pNR hh725 (pN_n hh725 z724 e728)).trans ((pR_j hh719 (by decide)).trans ((pNR hh714 (pN_n hh714 z713 e717)).trans ((pR_j hh708 (by decide)).trans ((pNR hh703 (pN_n hh703 z702 e706)).trans ((pR_j hh697 (by decide)).trans ((pNR hh692 (pN_n hh692 z691 e695)).trans ((pR_j hh686 (by decide)).trans ((pNR hh681 (pN_n hh681 z680 e684)).trans ((pR_j hh675 (by decide)).trans ((pNR hh670 (pN_n hh670 z669 e673)).trans ((pR_j hh664 (by decide)).trans ((pNR hh659 (pN_n hh659 z658 e662)).trans ((pR_j hh653 (by decide)).trans ((pNR hh648 (pN_n hh648 z647 e651)).trans ((pR_j hh642 (by decide)).trans ((pNR hh637 (pN_n hh637 z636 e640)).trans ((pR_j hh631 (by decide)).trans ((pNR hh626 (pN_n hh626 z625 e629)).trans ((pR_j hh620 (by decide)).trans ((pNR hh615 (pN_n hh615 z614 e618)).trans ((pR_j hh609 (by decide)).trans ((pNR hh604 (pN_n hh604 z603 e607)).trans ((pR_j hh598 (by decide)).trans ((pNR hh593 (pN_n hh593 z592 e596)).trans ((pR_j hh587 (by decide)).trans ((pNR hh582 (pN_n hh582 z581 e585)).trans ((pR_j hh576 (by decide)).trans ((pNR hh571 (pN_n hh571 z570 e574)).trans ((pR_j hh565 (by decide)).trans ((pNR hh560 (pN_n hh560 z559 e563)).trans ((pR_j hh554 (by decide)).trans ((pNR hh549 (pN_n hh549 z548 e552)).trans ((pR_j hh543 (by decide)).trans ((pNR hh538 (pN_n hh538 z537 e541)).trans ((pR_j hh532 (by decide)).trans ((pNR hh527 (pN_n hh527 z526 e530)).trans ((pR_j hh521 (by decide)).trans ((pNR hh516 (pN_n hh516 z515 e519)).trans ((pR_j hh510 (by decide)).trans ((pNR hh505 (pN_n hh505 z504 e508)).trans ((pR_j hh499 (by decide)).trans ((pNR hh494 (pN_n hh494 z493 e497)).trans ((pR_j hh488 (by decide)).trans ((pNR hh483 (pN_n hh483 z482 e486)).trans ((pR_j hh477 (by decide)).trans ((pNR hh472 (pN_n hh472 z471 e475)).trans ((pR_j hh466 (by decide)).trans ((pNR hh461 (pN_n hh461 z460 e464)).trans ((pR_j hh455 (by decide)).trans ((pNR hh450 (pN_n hh450 z449 e453)).trans ((pR_j hh444 (by decide)).trans ((pNR hh439 (pN_n hh439 z438 e442)).trans (pR_e hh433))))))))))))))))))))))))))))))))))))))))))))))))))))))))))))))))))))))))))))))))))))))))
        have e2344 : Tg h434 n425 = 132100 := ((pRT hh433).trans (pN_T hh428))
        have e2345 : Tg h445 n425 = 132100 := ((pRT hh444).trans ((pNT hh439 (pN_n hh439 z438 e2344)).trans e2344))
        have e2346 : Tg h456 n425 = 132100 := ((pRT hh455).trans ((pNT hh450 (pN_n hh450 z449 e2345)).trans e2345))
        have e2347 : Tg h467 n425 = 132100 := ((pRT hh466).trans ((pNT hh461 (pN_n hh461 z460 e2346)).trans e2346))
        have e2348 : Tg h478 n425 = 132100 := ((pRT hh477).trans ((pNT hh472 (pN_n hh472 z471 e2347)).trans e2347))
        have e2349 : Tg h489 n425 = 132100 := ((pRT hh488).trans ((pNT hh483 (pN_n hh483 z482 e2348)).trans e2348))
        have e2350 : Tg h500 n425 = 132100 := ((pRT hh499).trans ((pNT hh494 (pN_n hh494 z493 e2349)).trans e2349))
        have e2351 : Tg h511 n425 = 132100 := ((pRT hh510).trans ((pNT hh505 (pN_n hh505 z504 e2350)).trans e2350))
        have e2352 : Tg h522 n425 = 132100 := ((pRT hh521).trans ((pNT hh516 (pN_n hh516 z515 e2351)).trans e2351))
        have e2353 : Tg h533 n425 = 132100 := ((pRT hh532).trans ((pNT hh527 (pN_n hh527 z526 e2352)).trans e2352))
        have e2354 : Tg h544 n425 = 132100 := ((pRT hh543).trans ((pNT hh538 (pN_n hh538 z537 e2353)).trans e2353))
        have e2355 : Tg h555 n425 = 132100 := ((pRT hh554).trans ((pNT hh549 (pN_n hh549 z548 e2354)).trans e2354))
        have e2356 : Tg h566 n425 = 132100 := ((pRT hh565).trans ((pNT hh560 (pN_n hh560 z559 e2355)).trans e2355))
        have e2357 : Tg h577 n425 = 132100 := ((pRT hh576).trans ((pNT hh571 (pN_n hh571 z570 e2356)).trans e2356))
        have e2358 : Tg h588 n425 = 132100 := ((pRT hh587).trans ((pNT hh582 (pN_n hh582 z581 e2357)).trans e2357))
        have e2359 : Tg h599 n425 = 132100 := ((pRT hh598).trans ((pNT hh593 (pN_n hh593 z592 e2358)).trans e2358))
        have e2360 : Tg h610 n425 = 132100 := ((pRT hh609).trans ((pNT hh604 (pN_n hh604 z603 e2359)).trans e2359))
        have e2361 : Tg h621 n425 = 132100 := ((pRT hh620).trans ((pNT hh615 (pN_n hh615 z614 e2360)).trans e2360))
        have e2362 : Tg h632 n425 = 132100 := ((pRT hh631).trans ((pNT hh626 (pN_n hh626 z625 e2361)).trans e2361))
        have e2363 : Tg h643 n425 = 132100 := ((pRT hh642).trans ((pNT hh637 (pN_n hh637 z636 e2362)).trans e2362))
        have e2364 : Tg h654 n425 = 132100 := ((pRT hh653).trans ((pNT hh648 (pN_n hh648 z647 e2363)).trans e2363))
        have e2365 : Tg h665 n425 = 132100 := ((pRT hh664).trans ((pNT hh659 (pN_n hh659 z658 e2364)).trans e2364))
        have e2366 : Tg h676 n425 = 132100 := ((pRT hh675).trans ((pNT hh670 (pN_n hh670 z669 e2365)).trans e2365))
        have e2367 : Tg h687 n425 = 132100 := ((pRT hh686).trans ((pNT hh681 (pN_n hh681 z680 e2366)).trans e2366))
        have e2368 : Tg h698 n425 = 132100 := ((pRT hh697).trans ((pNT hh692 (pN_n hh692 z691 e2367)).trans e2367))
        have e2369 : Tg h709 n425 = 132100 := ((pRT hh708).trans ((pNT hh703 (pN_n hh703 z702 e2368)).trans e2368))
        have e2370 : Tg h720 n425 = 132100 := ((pRT hh719).trans ((pNT hh714 (pN_n hh714 z713 e2369)).trans e2369))
        have e2371 : Tg h731 n425 = 132100 := ((pRT hh730).trans ((pNT hh725 (pN_n hh725 z724 e2370)).trans e2370))
        have e2372 : Tg h742 n425 = 132100 := ((pRT hh741).trans ((pNT hh736 (pN_n hh736 z735 e2371)).trans e2371))
        have e2373 : Tg h753 n425 = 132100 := ((pRT hh752).trans ((pNT hh747 (pN_n hh747 z746 e2372)).trans e2372))
        have e2374 : Tg h764 n425 = 132100 := ((pRT hh763).trans ((pNT hh758 (pN_n hh758 z757 e2373)).trans e2373))
        have e2375 : Tg h775 n425 = 132100 := ((pRT hh774).trans ((pNT hh769 (pN_n hh769 z768 e2374)).trans e2374))
        have e2376 : Tg h786 n425 = 132100 := ((pRT hh785).trans ((pNT hh780 (pN_n hh780 z779 e2375)).trans e2375))
        have e2377 : Tg h797 n425 = 132100 := ((pRT hh796).trans ((pNT hh791 (pN_n hh791 z790 e2376)).trans e2376))
        have e2378 : Tg h808 n425 = 132100 := ((pRT hh807).trans ((pNT hh802 (pN_n hh802 z801 e2377)).trans e2377))
        have e2379 : Tg h819 n425 = 132100 := ((pRT hh818).trans ((pNT hh813 (pN_n hh813 z812 e2378)).trans e2378))
        have e2380 : Tg h830 n425 = 132100 := ((pRT hh829).trans ((pNT hh824 (pN_n hh824 z823 e2379)).trans e2379))
        have e2381 : Tg h841 n425 = 132100 := ((pRT hh840).trans ((pNT hh835 (pN_n hh835 z834 e2380)).trans e2380))
        have e2382 : Tg h852 n425 = 132100 := ((pRT hh851).trans ((pNT hh846 (pN_n hh846 z845 e2381)).trans e2381))
        have e2383 : Tg h863 n425 = 132100 := ((pRT hh862).trans ((pNT hh857 (pN_n hh857 z856 e2382)).trans e2382))
        have e2384 : Tg h874 n425 = 132100 := ((pRT hh873).trans ((pNT hh868 (pN_n hh868 z867 e2383)).trans e2383))
        have e2385 : Tg h885 n425 = 132100 := ((pRT hh884).trans ((pNT hh879 (pN_n hh879 z878 e2384)).trans e2384))
        have e2386 : Tg h915 n425 = 132100 := ((pIT hh914).trans ((pIT hh910).trans (fxT F904 ((pRT hh895).trans ((pNT hh890 (pN_n hh890 z889 e2385)).trans e2385)))))
        have e2387 : Rv h915 a0 36 = n436 := ((pIR hh914).trans ((pIR hh910).trans ((fxR F904 e917 rfl).trans ((pR_j hh895 (by decide)).trans ((pNR hh890 (pN_n hh890 z889 e893)).trans ((pR_j hh884 (by decide)).trans ((pNR hh879 (pN_n hh879 z878 e882)).trans ((pR_j hh873 (by decide)).trans ((pNR hh868 (pN_n hh868 z867 e871)).trans ((pR_j hh862 (by decide)).trans ((pNR hh857 (pN_n hh857 z856 e860)).trans ((pR_j hh851 (by decide)).trans ((pNR hh846 (pN_n hh846 z845 e849)).trans ((pR_j hh840 (by decide)).trans ((pNR hh835 (pN_n hh835 z834 e838)).trans ((pR_j hh829 (by decide)).trans ((pNR hh824 (pN_n hh824 z823 e827)).trans ((pR_j hh818 (by decide)).trans ((pNR hh813 (pN_n hh813 z812 e816)).trans ((pR_j hh807 (by decide)).trans ((pNR hh802 (pN_n hh802 z801 e805)).trans ((pR_j hh796 (by decide)).trans ((pNR hh791 (pN_n hh791 z790 e794)).trans ((pR_j hh785 (by decide)).trans ((pNR hh780 (pN_n hh780 z779 e783)).trans ((pR_j hh774 (by decide)).trans ((pNR hh769 (pN_n hh769 z768 e772)).trans ((pR_j hh763 (by decide)).trans ((pNR hh758 (pN_n hh758 z757 e761)).trans ((pR_j hh752 (by decide)).trans ((pNR hh747 (pN_n hh747 z746 e750)).trans ((pR_j hh741 (by decide)).trans ((pNR hh736 (pN_n hh736 z735 e739)).trans ((pR_j hh730 (by decide)).trans ((pNR hh725 (pN_n hh725 z724 e728)).trans ((pR_j hh719 (by decide)).trans ((pNR hh714 (pN_n hh714 z713 e717)).trans ((pR_j hh708 (by decide)).trans ((pNR hh703 (pN_n hh703 z702 e706)).trans ((pR_j hh697 (by decide)).trans ((pNR hh692 (pN_n hh692 z691 e695)).trans ((pR_j hh686 (by decide)).trans ((pNR hh681 (pN_n hh681 z680 e684)).trans ((pR_j hh675 (by decide)).trans ((pNR hh670 (pN_n hh670 z669 e673)).trans ((pR_j hh664 (by decide)).trans ((pNR hh659 (pN_n hh659 z658 e662)).trans ((pR_j hh653 (by decide)).trans ((pNR hh648 (pN_n hh648 z647 e651)).trans ((pR_j hh642 (by decide)).trans ((pNR hh637 (pN_n hh637 z636 e640)).trans ((pR_j hh631 (by decide)).trans ((pNR hh626 (pN_n hh626 z625 e629)).trans ((pR_j hh620 (by decide)).trans ((pNR hh615 (pN_n hh615 z614 e618)).trans ((pR_j hh609 (by decide)).trans ((pNR hh604 (pN_n hh604 z603 e607)).trans ((pR_j hh598 (by decide)).trans ((pNR hh593 (pN_n hh593 z592 e596)).trans ((pR_j hh587 (by decide)).trans ((pNR hh582 (pN_n hh582 z581 e585)).trans ((pR_j hh576 (by decide)).trans ((pNR hh571 (pN_n hh571 z570 e574)).trans ((pR_j hh565 (by decide)).trans ((pNR hh560 (pN_n hh560 z559 e563)).trans ((pR_j hh554 (by decide)).trans ((pNR hh549 (pN_n hh549 z548 e552)).trans ((pR_j hh543 (by decide)).trans ((pNR hh538 (pN_n hh538 z537 e541)).trans ((pR_j hh532 (by decide)).trans ((pNR hh527 (pN_n hh527 z526 e530)).trans ((pR_j hh521 (by decide)).trans ((pNR hh516 (pN_n hh516 z515 e519)).trans ((pR_j hh510 (by decide)).trans ((pNR hh505 (pN_n hh505 z504 e508)).trans ((pR_j hh499 (by decide)).trans ((pNR hh494 (pN_n hh494 z493 e497)).trans ((pR_j hh488 (by decide)).trans ((pNR hh483 (pN_n hh483 z482 e486)).trans ((pR_j hh477 (by decide)).trans ((pNR hh472 (pN_n hh472 z471 e475)).trans ((pR_j hh466 (by decide)).trans ((pNR hh461 (pN_n hh461 z460 e464)).trans ((pR_j hh455 (by decide)).trans ((pNR hh450 (pN_n hh450 z449 e453)).trans (pR_e hh444))))))))))))))))))))))))))))))))))))))))))))))))))))))))))))))))))))))))))))))))))))))
        have e2388 : Tg h445 n436 = 136100 := ((pRT hh444).trans (pN_T hh439))
        have e2389 : Tg h456 n436 = 136100 := ((pRT hh455).trans ((pNT hh450 (pN_n hh450 z449 e2388)).trans e2388))
        have e2390 : Tg h467 n436 = 136100 := ((pRT hh466).trans ((pNT hh461 (pN_n hh461 z460 e2389)).trans e2389))
        have e2391 : Tg h478 n436 = 136100 := ((pRT hh477).trans ((pNT hh472 (pN_n hh472 z471 e2390)).trans e2390))
        have e2392 : Tg h489 n436 = 136100 := ((pRT hh488).trans ((pNT hh483 (pN_n hh483 z482 e2391)).trans e2391))
        have e2393 : Tg h500 n436 = 136100 := ((pRT hh499).trans ((pNT hh494 (pN_n hh494 z493 e2392)).trans e2392))
        have e2394 : Tg h511 n436 = 136100 := ((pRT hh510).trans ((pNT hh505 (pN_n hh505 z504 e2393)).trans e2393))
        have e2395 : Tg h522 n436 = 136100 := ((pRT hh521).trans ((pNT hh516 (pN_n hh516 z515 e2394)).trans e2394))
        have e2396 : Tg h533 n436 = 136100 := ((pRT hh532).trans ((pNT hh527 (pN_n hh527 z526 e2395)).trans e2395))
        have e2397 : Tg h544 n436 = 136100 := ((pRT hh543).trans ((pNT hh538 (pN_n hh538 z537 e2396)).trans e2396))
        have e2398 : Tg h555 n436 = 136100 := ((pRT hh554).trans ((pNT hh549 (pN_n hh549 z548 e2397)).trans e2397))
        have e2399 : Tg h566 n436 = 136100 := ((pRT hh565).trans ((pNT hh560 (pN_n hh560 z559 e2398)).trans e2398))
        have e2400 : Tg h577 n436 = 136100 := ((pRT hh576).trans ((pNT hh571 (pN_n hh571 z570 e2399)).trans e2399))
        have e2401 : Tg h588 n436 = 136100 := ((pRT hh587).trans ((pNT hh582 (pN_n hh582 z581 e2400)).trans e2400))
        have e2402 : Tg h599 n436 = 136100 := ((pRT hh598).trans ((pNT hh593 (pN_n hh593 z592 e2401)).trans e2401))
        have e2403 : Tg h610 n436 = 136100 := ((pRT hh609).trans ((pNT hh604 (pN_n hh604 z603 e2402)).trans e2402))
        have e2404 : Tg h621 n436 = 136100 := ((pRT hh620).trans ((pNT hh615 (pN_n hh615 z614 e2403)).trans e2403))
        have e2405 : Tg h632 n436 = 136100 := ((pRT hh631).trans ((pNT hh626 (pN_n hh626 z625 e2404)).trans e2404))
        have e2406 : Tg h643 n436 = 136100 := ((pRT hh642).trans ((pNT hh637 (pN_n hh637 z636 e2405)).trans e2405))
        have e2407 : Tg h654 n436 = 136100 := ((pRT hh653).trans ((pNT hh648 (pN_n hh648 z647 e2406)).trans e2406))
        have e2408 : Tg h665 n436 = 136100 := ((pRT hh664).trans ((pNT hh659 (pN_n hh659 z658 e2407)).trans e2407))
        have e2409 : Tg h676 n436 = 136100 := ((pRT hh675).trans ((pNT hh670 (pN_n hh670 z669 e2408)).trans e2408))
        have e2410 : Tg h687 n436 = 136100 := ((pRT hh686).trans ((pNT hh681 (pN_n hh681 z680 e2409)).trans e2409))
        have e2411 : Tg h698 n436 = 136100 := ((pRT hh697).trans ((pNT hh692 (pN_n hh692 z691 e2410)).trans e2410))
        have e2412 : Tg h709 n436 = 136100 := ((pRT hh708).trans ((pNT hh703 (pN_n hh703 z702 e2411)).trans e2411))
        have e2413 : Tg h720 n436 = 136100 := ((pRT hh719).trans ((pNT hh714 (pN_n hh714 z713 e2412)).trans e2412))
        have e2414 : Tg h731 n436 = 136100 := ((pRT hh730).trans ((pNT hh725 (pN_n hh725 z724 e2413)).trans e2413))
        have e2415 : Tg h742 n436 = 136100 := ((pRT hh741).trans ((pNT hh736 (pN_n hh736 z735 e2414)).trans e2414))
        have e2416 : Tg h753 n436 = 136100 := ((pRT hh752).trans ((pNT hh747 (pN_n hh747 z746 e2415)).trans e2415))
        have e2417 : Tg h764 n436 = 136100 := ((pRT hh763).trans ((pNT hh758 (pN_n hh758 z757 e2416)).trans e2416))
        have e2418 : Tg h775 n436 = 136100 := ((pRT hh774).trans ((pNT hh769 (pN_n hh769 z768 e2417)).trans e2417))
        have e2419 : Tg h786 n436 = 136100 := ((pRT hh785).trans ((pNT hh780 (pN_n hh780 z779 e2418)).trans e2418))
        have e2420 : Tg h797 n436 = 136100 := ((pRT hh796).trans ((pNT hh791 (pN_n hh791 z790 e2419)).trans e2419))
        have e2421 : Tg h808 n436 = 136100 := ((pRT hh807).trans ((pNT hh802 (pN_n hh802 z801 e2420)).trans e2420))
        have e2422 : Tg h819 n436 = 136100 := ((pRT hh818).trans ((pNT hh813 (pN_n hh813 z812 e2421)).trans e2421))
        have e2423 : Tg h830 n436 = 136100 := ((pRT hh829).trans ((pNT hh824 (pN_n hh824 z823 e2422)).trans e2422))
        have e2424 : Tg h841 n436 = 136100 := ((pRT hh840).trans ((pNT hh835 (pN_n hh835 z834 e2423)).trans e2423))
        have e2425 : Tg h852 n436 = 136100 := ((pRT hh851).trans ((pNT hh846 (pN_n hh846 z845 e2424)).trans e2424))
        have e2426 : Tg h863 n436 = 136100 := ((pRT hh862).trans ((pNT hh857 (pN_n hh857 z856 e2425)).trans e2425))
        have e2427 : Tg h874 n436 = 136100 := ((pRT hh873).trans ((pNT hh868 (pN_n hh868 z867 e2426)).trans e2426))
        have e2428 : Tg h885 n436 = 136100 := ((pRT hh884).trans ((pNT hh879 (pN_n hh879 z878 e2427)).trans e2427))
        have e2429 : Tg h915 n436 = 136100 := ((pIT hh914).trans ((pIT hh910).trans (fxT F904 ((pRT hh895).trans ((pNT hh890 (pN_n hh890 z889 e2428)).trans e2428)))))
        have e2430 : Rv h915 a0 37 = n447 := ((pIR hh914).trans ((pIR hh910).trans ((fxR F904 e917 rfl).trans ((pR_j hh895 (by decide)).trans ((pNR hh890 (pN_n hh890 z889 e893)).trans ((pR_j hh884 (by decide)).trans ((pNR hh879 (pN_n hh879 z878 e882)).trans ((pR_j hh873 (by decide)).trans ((pNR hh868 (pN_n hh868 z867 e871)).trans ((pR_j hh862 (by decide)).trans ((pNR hh857 (pN_n hh857 z856 e860)).trans ((pR_j hh851 (by decide)).trans ((pNR hh846 (pN_n hh846 z845 e849)).trans ((pR_j hh840 (by decide)).trans ((pNR hh835 (pN_n hh835 z834 e838)).trans ((pR_j hh829 (by decide)).trans ((pNR hh824 (pN_n hh824 z823 e827)).trans ((pR_j hh818 (by decide)).trans ((pNR hh813 (pN_n hh813 z812 e816)).trans ((pR_j hh807 (by decide)).trans ((pNR hh802 (pN_n hh802 z801 e805)).trans ((pR_j hh796 (by decide)).trans ((pNR hh791 (pN_n hh791 z790 e794)).trans ((pR_j hh785 (by decide)).trans ((pNR hh780 (pN_n hh780 z779 e783)).trans ((pR_j hh774 (by decide)).trans ((pNR hh769 (pN_n hh769 z768 e772)).trans ((pR_j hh763 (by decide)).trans ((pNR hh758 (pN_n hh758 z757 e761)).trans ((pR_j hh752 (by decide)).trans ((pNR hh747 (pN_n hh747 z746 e750)).trans ((pR_j hh741 (by decide)).trans ((pNR hh736 (pN_n hh736 z735 e739)).trans ((pR_j hh730 (by decide)).trans ((pNR hh725 (pN_n hh725 z724 e728)).trans ((pR_j hh719 (by decide)).trans ((pNR hh714 (pN_n hh714 z713 e717)).trans ((pR_j hh708 (by decide)).trans ((pNR hh703 (pN_n hh703 z702 e706)).trans ((pR_j hh697 (by decide)).trans ((pNR hh692 (pN_n hh692 z691 e695)).trans ((pR_j hh686 (by decide)).trans ((pNR hh681 (pN_n hh681 z680 e684)).trans ((pR_j hh675 (by decide)).trans ((pNR hh670 (pN_n hh670 z669 e673)).trans ((pR_j hh664 (by decide)).trans ((pNR hh659 (pN_n hh659 z658 e662)).trans ((pR_j hh653 (by decide)).trans ((pNR hh648 (pN_n hh648 z647 e651)).trans ((pR_j hh642 (by decide)).trans ((pNR hh637 (pN_n hh637 z636 e640)).trans ((pR_j hh631 (by decide)).trans ((pNR hh626 (pN_n hh626 z625 e629)).trans ((pR_j hh620 (by decide)).trans ((pNR hh615 (pN_n hh615 z614 e618)).trans ((pR_j hh609 (by decide)).trans ((pNR hh604 (pN_n hh604 z603 e607)).trans ((pR_j hh598 (by decide)).trans ((pNR hh593 (pN_n hh593 z592 e596)).trans ((pR_j hh587 (by decide)).trans ((pNR hh582 (pN_n hh582 z581 e585)).trans ((pR_j hh576 (by decide)).trans ((pNR hh571 (pN_n hh571 z570 e574)).trans ((pR_j hh565 (by decide)).trans ((pNR hh560 (pN_n hh560 z559 e563)).trans ((pR_j hh554 (by decide)).trans ((pNR hh549 (pN_n hh549 z548 e552)).trans ((pR_j hh543 (by decide)).trans ((pNR hh538 (pN_n hh538 z537 e541)).trans ((pR_j hh532 (by decide)).trans ((pNR hh527 (pN_n hh527 z526 e530)).trans ((pR_j hh521 (by decide)).trans ((pNR hh516 (pN_n hh516 z515 e519)).trans ((pR_j hh510 (by decide)).trans ((pNR hh505 (pN_n hh505 z504 e508)).trans ((pR_j hh499 (by decide)).trans ((pNR hh494 (pN_n hh494 z493 e497)).trans ((pR_j hh488 (by decide)).trans ((pNR hh483 (pN_n hh483 z482 e486)).trans ((pR_j hh477 (by decide)).trans ((pNR hh472 (pN_n hh472 z471 e475)).trans ((pR_j hh466 (by decide)).trans ((pNR hh461 (pN_n hh461 z460 e464)).trans (pR_e hh455))))))))))))))))))))))))))))))))))))))))))))))))))))))))))))))))))))))))))))))))))))
        have e2431 : Tg h456 n447 = 137101 := ((pRT hh455).trans (pN_T hh450))
        have e2432 : Tg h467 n447 = 137101 := ((pRT hh466).trans ((pNT hh461 (pN_n hh461 z460 e2431)).trans e2431))
        have e2433 : Tg h478 n447 = 137101 := ((pRT hh477).trans ((pNT hh472 (pN_n hh472 z471 e2432)).trans e2432))
        have e2434 : Tg h489 n447 = 137101 := ((pRT hh488).trans ((pNT hh483 (pN_n hh483 z482 e2433)).trans e2433))
        have e2435 : Tg h500 n447 = 137101 := ((pRT hh499).trans ((pNT hh494 (pN_n hh494 z493 e2434)).trans e2434))
        have e2436 : Tg h511 n447 = 137101 := ((pRT hh510).trans ((pNT hh505 (pN_n hh505 z504 e2435)).trans e2435))
        have e2437 : Tg h522 n447 = 137101 := ((pRT hh521).trans ((pNT hh516 (pN_n hh516 z515 e2436)).trans e2436))
        have e2438 : Tg h533 n447 = 137101 := ((pRT hh532).trans ((pNT hh527 (pN_n hh527 z526 e2437)).trans e2437))
        have e2439 : Tg h544 n447 = 137101 := ((pRT hh543).trans ((pNT hh538 (pN_n hh538 z537 e2438)).trans e2438))
        have e2440 : Tg h555 n447 = 137101 := ((pRT hh554).trans ((pNT hh549 (pN_n hh549 z548 e2439)).trans e2439))
        have e2441 : Tg h566 n447 = 137101 := ((pRT hh565).trans ((pNT hh560 (pN_n hh560 z559 e2440)).trans e2440))
        have e2442 : Tg h577 n447 = 137101 := ((pRT hh576).trans ((pNT hh571 (pN_n hh571 z570 e2441)).trans e2441))
        have e2443 : Tg h588 n447 = 137101 := ((pRT hh587).trans ((pNT hh582 (pN_n hh582 z581 e2442)).trans e2442))
        have e2444 : Tg h599 n447 = 137101 := ((pRT hh598).trans ((pNT hh593 (pN_n hh593 z592 e2443)).trans e2443))
        have e2445 : Tg h610 n447 = 137101 := ((pRT hh609).trans ((pNT hh604 (pN_n hh604 z603 e2444)).trans e2444))
        have e2446 : Tg h621 n447 = 137101 := ((pRT hh620).trans ((pNT hh615 (pN_n hh615 z614 e2445)).trans e2445))
        have e2447 : Tg h632 n447 = 137101 := ((pRT hh631).trans ((pNT hh626 (pN_n hh626 z625 e2446)).trans e2446))
        have e2448 : Tg h643 n447 = 137101 := ((pRT hh642).trans ((pNT hh637 (pN_n hh637 z636 e2447)).trans e2447))
        have e2449 : Tg h654 n447 = 137101 := ((pRT hh653).trans ((pNT hh648 (pN_n hh648 z647 e2448)).trans e2448))
        have e2450 : Tg h665 n447 = 137101 := ((pRT hh664).trans ((pNT hh659 (pN_n hh659 z658 e2449)).trans e2449))
        have e2451 : Tg h676 n447 = 137101 := ((pRT hh675).trans ((pNT hh670 (pN_n hh670 z669 e2450)).trans e2450))
        have e2452 : Tg h687 n447 = 137101 := ((pRT hh686).trans ((pNT hh681 (pN_n hh681 z680 e2451)).trans e2451))
        have e2453 : Tg h698 n447 = 137101 := ((pRT hh697).trans ((pNT hh692 (pN_n hh692 z691 e2452)).trans e2452))
        have e2454 : Tg h709 n447 = 137101 := ((pRT hh708).trans ((pNT hh703 (pN_n hh703 z702 e2453)).trans e2453))
        have e2455 : Tg h720 n447 = 137101 := ((pRT hh719).trans ((pNT hh714 (pN_n hh714 z713 e2454)).trans e2454))
        have e2456 : Tg h731 n447 = 137101 := ((pRT hh730).trans ((pNT hh725 (pN_n hh725 z724 e2455)).trans e2455))
        have e2457 : Tg h742 n447 = 137101 := ((pRT hh741).trans ((pNT hh736 (pN_n hh736 z735 e2456)).trans e2456))
        have e2458 : Tg h753 n447 = 137101 := ((pRT hh752).trans ((pNT hh747 (pN_n hh747 z746 e2457)).trans e2457))
        have e2459 : Tg h764 n447 = 137101 := ((pRT hh763).trans ((pNT hh758 (pN_n hh758 z757 e2458)).trans e2458))
        have e2460 : Tg h775 n447 = 137101 := ((pRT hh774).trans ((pNT hh769 (pN_n hh769 z768 e2459)).trans e2459))
        have e2461 : Tg h786 n447 = 137101 := ((pRT hh785).trans ((pNT hh780 (pN_n hh780 z779 e2460)).trans e2460))
        have e2462 : Tg h797 n447 = 137101 := ((pRT hh796).trans ((pNT hh791 (pN_n hh791 z790 e2461)).trans e2461))
        have e2463 : Tg h808 n447 = 137101 := ((pRT hh807).trans ((pNT hh802 (pN_n hh802 z801 e2462)).trans e2462))
        have e2464 : Tg h819 n447 = 137101 := ((pRT hh818).trans ((pNT hh813 (pN_n hh813 z812 e2463)).trans e2463))
        have e2465 : Tg h830 n447 = 137101 := ((pRT hh829).trans ((pNT hh824 (pN_n hh824 z823 e2464)).trans e2464))
        have e2466 : Tg h841 n447 = 137101 := ((pRT hh840).trans ((pNT hh835 (pN_n hh835 z834 e2465)).trans e2465))
        have e2467 : Tg h852 n447 = 137101 := ((pRT hh851).trans ((pNT hh846 (pN_n hh846 z845 e2466)).trans e2466))
        have e2468 : Tg h863 n447 = 137101 := ((pRT hh862).trans ((pNT hh857 (pN_n hh857 z856 e2467)).trans e2467))
        have e2469 : Tg h874 n447 = 137101 := ((pRT hh873).trans ((pNT hh868 (pN_n hh868 z867 e2468)).trans e2468))
        have e2470 : Tg h885 n447 = 137101 := ((pRT hh884).trans ((pNT hh879 (pN_n hh879 z878 e2469)).trans e2469))
        have e2471 : Tg h915 n447 = 137101 := ((pIT hh914).trans ((pIT hh910).trans (fxT F904 ((pRT hh895).trans ((pNT hh890 (pN_n hh890 z889 e2470)).trans e2470)))))
        have e2472 : Rv h915 a0 38 = n458 := ((pIR hh914).trans ((pIR hh910).trans ((fxR F904 e917 rfl).trans ((pR_j hh895 (by decide)).trans ((pNR hh890 (pN_n hh890 z889 e893)).trans ((pR_j hh884 (by decide)).trans ((pNR hh879 (pN_n hh879 z878 e882)).trans ((pR_j hh873 (by decide)).trans ((pNR hh868 (pN_n hh868 z867 e871)).trans ((pR_j hh862 (by decide)).trans ((pNR hh857 (pN_n hh857 z856 e860)).trans ((pR_j hh851 (by decide)).trans ((pNR hh846 (pN_n hh846 z845 e849)).trans ((pR_j hh840 (by decide)).trans ((pNR hh835 (pN_n hh835 z834 e838)).trans ((pR_j hh829 (by decide)).trans ((pNR hh824 (pN_n hh824 z823 e827)).trans ((pR_j hh818 (by decide)).trans ((pNR hh813 (pN_n hh813 z812 e816)).trans ((pR_j hh807 (by decide)).trans ((pNR hh802 (pN_n hh802 z801 e805)).trans ((pR_j hh796 (by decide)).trans ((pNR hh791 (pN_n hh791 z790 e794)).trans ((pR_j hh785 (by decide)).trans ((pNR hh780 (pN_n hh780 z779 e783)).trans ((pR_j hh774 (by decide)).trans ((pNR hh769 (pN_n hh769 z768 e772)).trans ((pR_j hh763 (by decide)).trans ((pNR hh758 (pN_n hh758 z757 e761)).trans ((pR_j hh752 (by decide)).trans ((pNR hh747 (pN_n hh747 z746 e750)).trans ((pR_j hh741 (by decide)).trans ((pNR hh736 (pN_n hh736 z735 e739)).trans ((pR_j hh730 (by decide)).trans ((pNR hh725 (pN_n hh725 z724 e728)).trans ((pR_j hh719 (by decide)).trans ((pNR hh714 (pN_n hh714 z713 e717)).trans ((pR_j hh708 (by decide)).trans ((pNR hh703 (pN_n hh703 z702 e706)).trans ((pR_j hh697 (by decide)).trans ((pNR hh692 (pN_n hh692 z691 e695)).trans ((pR_j hh686 (by decide)).trans ((pNR hh681 (pN_n hh681 z680 e684)).trans ((pR_j hh675 (by decide)).trans ((pNR hh670 (pN_n hh670 z669 e673)).trans ((pR_j hh664 (by decide)).trans ((pNR hh659 (pN_n hh659 z658 e662)).trans ((pR_j hh653 (by decide)).trans ((pNR hh648 (pN_n hh648 z647 e651)).trans ((pR_j hh642 (by decide)).trans ((pNR hh637 (pN_n hh637 z636 e640)).trans ((pR_j hh631 (by decide)).trans ((pNR hh626 (pN_n hh626 z625 e629)).trans ((pR_j hh620 (by decide)).trans ((pNR hh615 (pN_n hh615 z614 e618)).trans ((pR_j hh609 (by decide)).trans ((pNR hh604 (pN_n hh604 z603 e607)).trans ((pR_j hh598 (by decide)).trans ((pNR hh593 (pN_n hh593 z592 e596)).trans ((pR_j hh587 (by decide)).trans ((pNR hh582 (pN_n hh582 z581 e585)).trans ((pR_j hh576 (by decide)).trans ((pNR hh571 (pN_n hh571 z570 e574)).trans ((pR_j hh565 (by decide)).trans ((pNR hh560 (pN_n hh560 z559 e563)).trans ((pR_j hh554 (by decide)).trans ((pNR hh549 (pN_n hh549 z548 e552)).trans ((pR_j hh543 (by decide)).trans ((pNR hh538 (pN_n hh538 z537 e541)).trans ((pR_j hh532 (by decide)).trans ((pNR hh527 (pN_n hh527 z526 e530)).trans ((pR_j hh521 (by decide)).trans ((pNR hh516 (pN_n hh516 z515 e519)).trans ((pR_j hh510 (by decide)).trans ((pNR hh505 (pN_n hh505 z504 e508)).trans ((pR_j hh499 (by decide)).trans ((pNR hh494 (pN_n hh494 z493 e497)).trans ((pR_j hh488 (by decide)).trans ((pNR hh483 (pN_n hh483 z482 e486)).trans ((pR_j hh477 (by decide)).trans ((pNR hh472 (pN_n hh472 z471 e475)).trans (pR_e hh466))))))))))))))))))))))))))))))))))))))))))))))))))))))))))))))))))))))))))))))))))
        have e2473 : Tg h467 n458 = 138101 := ((pRT hh466).trans (pN_T hh461))
        have e2474 : Tg h478 n458 = 138101 := ((pRT hh477).trans ((pNT hh472 (pN_n hh472 z471 e2473)).trans e2473))
        have e2475 : Tg h489 n458 = 138101 := ((pRT hh488).trans ((pNT hh483 (pN_n hh483 z482 e2474)).trans e2474))
        have e2476 : Tg h500 n458 = 138101 := ((pRT hh499).trans ((pNT hh494 (pN_n hh494 z493 e2475)).trans e2475))
        have e2477 : Tg h511 n458 = 138101 := ((pRT hh510).trans ((pNT hh505 (pN_n hh505 z504 e2476)).trans e2476))
        have e2478 : Tg h522 n458 = 138101 := ((pRT hh521).trans ((pNT hh516 (pN_n hh516 z515 e2477)).trans e2477))
        have e2479 : Tg h533 n458 = 138101 := ((pRT hh532).trans ((pNT hh527 (pN_n hh527 z526 e2478)).trans e2478))
        have e2480 : Tg h544 n458 = 138101 := ((pRT hh543).trans ((pNT hh538 (pN_n hh538 z537 e2479)).trans e2479))
        have e2481 : Tg h555 n458 = 138101 := ((pRT hh554).trans ((pNT hh549 (pN_n hh549 z548 e2480)).trans e2480))
        have e2482 : Tg h566 n458 = 138101 := ((pRT hh565).trans ((pNT hh560 (pN_n hh560 z559 e2481)).trans e2481))
        have e2483 : Tg h577 n458 = 138101 := ((pRT hh576).trans ((pNT hh571 (pN_n hh571 z570 e2482)).trans e2482))
        have e2484 : Tg h588 n458 = 138101 := ((pRT hh587).trans ((pNT hh582 (pN_n hh582 z581 e2483)).trans e2483))
        have e2485 : Tg h599 n458 = 138101 := ((pRT hh598).trans ((pNT hh593 (pN_n hh593 z592 e2484)).trans e2484))
        have e2486 : Tg h610 n458 = 138101 := ((pRT hh609).trans ((pNT hh604 (pN_n hh604 z603 e2485)).trans e2485))
        have e2487 : Tg h621 n458 = 138101 := ((pRT hh620).trans ((pNT hh615 (pN_n hh615 z614 e2486)).trans e2486))
        have e2488 : Tg h632 n458 = 138101 := ((pRT hh631).trans ((pNT hh626 (pN_n hh626 z625 e2487)).trans e2487))
        have e2489 : Tg h643 n458 = 138101 := ((pRT hh642).trans ((pNT hh637 (pN_n hh637 z636 e2488)).trans e2488))
        have e2490 : Tg h654 n458 = 138101 := ((pRT hh653).trans ((pNT hh648 (pN_n hh648 z647 e2489)).trans e2489))
        have e2491 : Tg h665 n458 = 138101 := ((pRT hh664).trans ((pNT hh659 (pN_n hh659 z658 e2490)).trans e2490))
        have e2492 : Tg h676 n458 = 138101 := ((pRT hh675).trans ((pNT hh670 (pN_n hh670 z669 e2491)).trans e2491))
        have e2493 : Tg h687 n458 = 138101 := ((pRT hh686).trans ((pNT hh681 (pN_n hh681 z680 e2492)).trans e2492))
        have e2494 : Tg h698 n458 = 138101 := ((pRT hh697).trans ((pNT hh692 (pN_n hh692 z691 e2493)).trans e2493))
        have e2495 : Tg h709 n458 = 138101 := ((pRT hh708).trans ((pNT hh703 (pN_n hh703 z702 e2494)).trans e2494))
        have e2496 : Tg h720 n458 = 138101 := ((pRT hh719).trans ((pNT hh714 (pN_n hh714 z713 e2495)).trans e2495))
        have e2497 : Tg h731 n458 = 138101 := ((pRT hh730).trans ((pNT hh725 (pN_n hh725 z724 e2496)).trans e2496))
        have e2498 : Tg h742 n458 = 138101 := ((pRT hh741).trans ((pNT hh736 (pN_n hh736 z735 e2497)).trans e2497))
        have e2499 : Tg h753 n458 = 138101 := ((pRT hh752).trans ((pNT hh747 (pN_n hh747 z746 e2498)).trans e2498))
        have e2500 : Tg h764 n458 = 138101 := ((pRT hh763).trans ((pNT hh758 (pN_n hh758 z757 e2499)).trans e2499))
        have e2501 : Tg h775 n458 = 138101 := ((pRT hh774).trans ((pNT hh769 (pN_n hh769 z768 e2500)).trans e2500))
        have e2502 : Tg h786 n458 = 138101 := ((pRT hh785).trans ((pNT hh780 (pN_n hh780 z779 e2501)).trans e2501))
        have e2503 : Tg h797 n458 = 138101 := ((pRT hh796).trans ((pNT hh791 (pN_n hh791 z790 e2502)).trans e2502))
        have e2504 : Tg h808 n458 = 138101 := ((pRT hh807).trans ((pNT hh802 (pN_n hh802 z801 e2503)).trans e2503))
        have e2505 : Tg h819 n458 = 138101 := ((pRT hh818).trans ((pNT hh813 (pN_n hh813 z812 e2504)).trans e2504))
        have e2506 : Tg h830 n458 = 138101 := ((pRT hh829).trans ((pNT hh824 (pN_n hh824 z823 e2505)).trans e2505))
        have e2507 : Tg h841 n458 = 138101 := ((pRT hh840).trans ((pNT hh835 (pN_n hh835 z834 e2506)).trans e2506))
        have e2508 : Tg h852 n458 = 138101 := ((pRT hh851).trans ((pNT hh846 (pN_n hh846 z845 e2507)).trans e2507))
        have e2509 : Tg h863 n458 = 138101 := ((pRT hh862).trans ((pNT hh857 (pN_n hh857 z856 e2508)).trans e2508))
        have e2510 : Tg h874 n458 = 138101 := ((pRT hh873).trans ((pNT hh868 (pN_n hh868 z867 e2509)).trans e2509))
        have e2511 : Tg h885 n458 = 138101 := ((pRT hh884).trans ((pNT hh879 (pN_n hh879 z878 e2510)).trans e2510))
        have e2512 : Tg h915 n458 = 138101 := ((pIT hh914).trans ((pIT hh910).trans (fxT F904 ((pRT hh895).trans ((pNT hh890 (pN_n hh890 z889 e2511)).trans e2511)))))
        have e2513 : Rv h915 a0 39 = n469 := ((pIR hh914).trans ((pIR hh910).trans ((fxR F904 e917 rfl).trans ((pR_j hh895 (by decide)).trans ((pNR hh890 (pN_n hh890 z889 e893)).trans ((pR_j hh884 (by decide)).trans ((pNR hh879 (pN_n hh879 z878 e882)).trans ((pR_j hh873 (by decide)).trans ((pNR hh868 (pN_n hh868 z867 e871)).trans ((pR_j hh862 (by decide)).trans ((pNR hh857 (pN_n hh857 z856 e860)).trans ((pR_j hh851 (by decide)).trans ((pNR hh846 (pN_n hh846 z845 e849)).trans ((pR_j hh840 (by decide)).trans ((pNR hh835 (pN_n hh835 z834 e838)).trans ((pR_j hh829 (by decide)).trans ((pNR hh824 (pN_n hh824 z823 e827)).trans ((pR_j hh818 (by decide)).trans ((pNR hh813 (pN_n hh813 z812 e816)).trans ((pR_j hh807 (by decide)).trans ((pNR hh802 (pN_n hh802 z801 e805)).trans ((pR_j hh796 (by decide)).trans ((pNR hh791 (pN_n hh791 z790 e794)).trans ((pR_j hh785 (by decide)).trans ((pNR hh780 (pN_n hh780 z779 e783)).trans ((pR_j hh774 (by decide)).trans ((pNR hh769 (pN_n hh769 z768 e772)).trans ((pR_j hh763 (by decide)).trans ((pNR hh758 (pN_n hh758 z757 e761)).trans ((pR_j hh752 (by decide)).trans ((pNR hh747 (pN_n hh747 z746 e750)).trans ((pR_j hh741 (by decide)).trans ((pNR hh736 (pN_n hh736 z735 e739)).trans ((pR_j hh730 (by decide)).trans ((pNR hh725 (pN_n hh725 z724 e728)).trans ((pR_j hh719 (by decide)).trans ((pNR hh714 (pN_n hh714 z713 e717)).trans ((pR_j hh708 (by decide)).trans ((pNR hh703 (pN_n hh703 z702 e706)).trans ((pR_j hh697 (by decide)).trans ((pNR hh692 (pN_n hh692 z691 e695)).trans ((pR_j hh686 (by decide)).trans ((pNR hh681 (pN_n hh681 z680 e684)).trans ((pR_j hh675 (by decide)).trans ((pNR hh670 (pN_n hh670 z669 e673)).trans ((pR_j hh664 (by decide)).trans ((pNR hh659 (pN_n hh659 z658 e662)).trans ((pR_j hh653 (by decide)).trans ((pNR hh648 (pN_n hh648 z647 e651)).trans ((pR_j hh642 (by decide)).trans ((pNR hh637 (pN_n hh637 z636 e640)).trans ((pR_j hh631 (by decide)).trans ((pNR hh626 (pN_n hh626 z625 e629)).trans ((pR_j hh620 (by decide)).trans ((pNR hh615 (pN_n hh615 z614 e618)).trans ((pR_j hh609 (by decide)).trans ((pNR hh604 (pN_n hh604 z603 e607)).trans ((pR_j hh598 (by decide)).trans ((pNR hh593 (pN_n hh593 z592 e596)).trans ((pR_j hh587 (by decide)).trans ((pNR hh582 (pN_n hh582 z581 e585)).trans ((pR_j hh576 (by decide)).trans ((pNR hh571 (pN_n hh571 z570 e574)).trans ((pR_j hh565 (by decide)).trans ((pNR hh560 (pN_n hh560 z559 e563)).trans ((pR_j hh554 (by decide)).trans ((pNR hh549 (pN_n hh549 z548 e552)).trans ((pR_j hh543 (by decide)).trans ((pNR hh538 (pN_n hh538 z537 e541)).trans ((pR_j hh532 (by decide)).trans ((pNR hh527 (pN_n hh527 z526 e530)).trans ((pR_j hh521 (by decide)).trans ((pNR hh516 (pN_n hh516 z515 e519)).trans ((pR_j hh510 (by decide)).trans ((pNR hh505 (pN_n hh505 z504 e508)).trans ((pR_j hh499 (by decide)).trans ((pNR hh494 (pN_n hh494 z493 e497)).trans ((pR_j hh488 (by decide)).trans ((pNR hh483 (pN_n hh483 z482 e486)).trans (pR_e hh477))))))))))))))))))))))))))))))))))))))))))))))))))))))))))))))))))))))))))))))))
        have e2514 : Tg h478 n469 = 139100 := ((pRT hh477).trans (pN_T hh472))
        have e2515 : Tg h489 n469 = 139100 := ((pRT hh488).trans ((pNT hh483 (pN_n hh483 z482 e2514)).trans e2514))
        have e2516 : Tg h500 n469 = 139100 := ((pRT hh499).trans ((pNT hh494 (pN_n hh494 z493 e2515)).trans e2515))
        have e2517 : Tg h511 n469 = 139100 := ((pRT hh510).trans ((pNT hh505 (pN_n hh505 z504 e2516)).trans e2516))
        have e2518 : Tg h522 n469 = 139100 := ((pRT hh521).trans ((pNT hh516 (pN_n hh516 z515 e2517)).trans e2517))
        have e2519 : Tg h533 n469 = 139100 := ((pRT hh532).trans ((pNT hh527 (pN_n hh527 z526 e2518)).trans e2518))
        have e2520 : Tg h544 n469 = 139100 := ((pRT hh543).trans ((pNT hh538 (pN_n hh538 z537 e2519)).trans e2519))
        have e2521 : Tg h555 n469 = 139100 := ((pRT hh554).trans ((pNT hh549 (pN_n hh549 z548 e2520)).trans e2520))
        have e2522 : Tg h566 n469 = 139100 := ((pRT hh565).trans ((pNT hh560 (pN_n hh560 z559 e2521)).trans e2521))
        have e2523 : Tg h577 n469 = 139100 := ((pRT hh576).trans ((pNT hh571 (pN_n hh571 z570 e2522)).trans e2522))
        have e2524 : Tg h588 n469 = 139100 := ((pRT hh587).trans ((pNT hh582 (pN_n hh582 z581 e2523)).trans e2523))
        have e2525 : Tg h599 n469 = 139100 := ((pRT hh598).trans ((pNT hh593 (pN_n hh593 z592 e2524)).trans e2524))
        have e2526 : Tg h610 n469 = 139100 := ((pRT hh609).trans ((pNT hh604 (pN_n hh604 z603 e2525)).trans e2525))
        have e2527 : Tg h621 n469 = 139100 := ((pRT hh620).trans ((pNT hh615 (pN_n hh615 z614 e2526)).trans e2526))
        have e2528 : Tg h632 n469 = 139100 := ((pRT hh631).trans ((pNT hh626 (pN_n hh626 z625 e2527)).trans e2527))
        have e2529 : Tg h643 n469 = 139100 := ((pRT hh642).trans ((pNT hh637 (pN_n hh637 z636 e2528)).trans e2528))
        have e2530 : Tg h654 n469 = 139100 := ((pRT hh653).trans ((pNT hh648 (pN_n hh648 z647 e2529)).trans e2529))
        have e2531 : Tg h665 n469 = 139100 := ((pRT hh664).trans ((pNT hh659 (pN_n hh659 z658 e2530)).trans e2530))
        have e2532 : Tg h676 n469 = 139100 := ((pRT hh675).trans ((pNT hh670 (pN_n hh670 z669 e2531)).trans e2531))
        have e2533 : Tg h687 n469 = 139100 := ((pRT hh686).trans ((pNT hh681 (pN_n hh681 z680 e2532)).trans e2532))
        have e2534 : Tg h698 n469 = 139100 := ((pRT hh697).trans ((pNT hh692 (pN_n hh692 z691 e2533)).trans e2533))
        have e2535 : Tg h709 n469 = 139100 := ((pRT hh708).trans ((pNT hh703 (pN_n hh703 z702 e2534)).trans e2534))
        have e2536 : Tg h720 n469 = 139100 := ((pRT hh719).trans ((pNT hh714 (pN_n hh714 z713 e2535)).trans e2535))
        have e2537 : Tg h731 n469 = 139100 := ((pRT hh730).trans ((pNT hh725 (pN_n hh725 z724 e2536)).trans e2536))
        have e2538 : Tg h742 n469 = 139100 := ((pRT hh741).trans ((pNT hh736 (pN_n hh736 z735 e2537)).trans e2537))
        have e2539 : Tg h753 n469 = 139100 := ((pRT hh752).trans ((pNT hh747 (pN_n hh747 z746 e2538)).trans e2538))
        have e2540 : Tg h764 n469 = 139100 := ((pRT hh763).trans ((pNT hh758 (pN_n hh758 z757 e2539)).trans e2539))
        have e2541 : Tg h775 n469 = 139100 := ((pRT hh774).trans ((pNT hh769 (pN_n hh769 z768 e2540)).trans e2540))
        have e2542 : Tg h786 n469 = 139100 := ((pRT hh785).trans ((pNT hh780 (pN_n hh780 z779 e2541)).trans e2541))
        have e2543 : Tg h797 n469 = 139100 := ((pRT hh796).trans ((pNT hh791 (pN_n hh791 z790 e2542)).trans e2542))
        have e2544 : Tg h808 n469 = 139100 := ((pRT hh807).trans ((pNT hh802 (pN_n hh802 z801 e2543)).trans e2543))
        have e2545 : Tg h819 n469 = 139100 := ((pRT hh818).trans ((pNT hh813 (pN_n hh813 z812 e2544)).trans e2544))
        have e2546 : Tg h830 n469 = 139100 := ((pRT hh829).trans ((pNT hh824 (pN_n hh824 z823 e2545)).trans e2545))
        have e2547 : Tg h841 n469 = 139100 := ((pRT hh840).trans ((pNT hh835 (pN_n hh835 z834 e2546)).trans e2546))
        have e2548 : Tg h852 n469 = 139100 := ((pRT hh851).trans ((pNT hh846 (pN_n hh846 z845 e2547)).trans e2547))
        have e2549 : Tg h863 n469 = 139100 := ((pRT hh862).trans ((pNT hh857 (pN_n hh857 z856 e2548)).trans e2548))
        have e2550 : Tg h874 n469 = 139100 := ((pRT hh873).trans ((pNT hh868 (pN_n hh868 z867 e2549)).trans e2549))
        have e2551 : Tg h885 n469 = 139100 := ((pRT hh884).trans ((pNT hh879 (pN_n hh879 z878 e2550)).trans e2550))
        have e2552 : Tg h915 n469 = 139100 := ((pIT hh914).trans ((pIT hh910).trans (fxT F904 ((pRT hh895).trans ((pNT hh890 (pN_n hh890 z889 e2551)).trans e2551)))))
        have e2553 : Rv h915 a0 41 = n480 := ((pIR hh914).trans ((pIR hh910).trans ((fxR F904 e917 rfl).trans ((pR_j hh895 (by decide)).trans ((pNR hh890 (pN_n hh890 z889 e893)).trans ((pR_j hh884 (by decide)).trans ((pNR hh879 (pN_n hh879 z878 e882)).trans ((pR_j hh873 (by decide)).trans ((pNR hh868 (pN_n hh868 z867 e871)).trans ((pR_j hh862 (by decide)).trans ((pNR hh857 (pN_n hh857 z856 e860)).trans ((pR_j hh851 (by decide)).trans ((pNR hh846 (pN_n hh846 z845 e849)).trans ((pR_j hh840 (by decide)).trans ((pNR hh835 (pN_n hh835 z834 e838)).trans ((pR_j hh829 (by decide)).trans ((pNR hh824 (pN_n hh824 z823 e827)).trans ((pR_j hh818 (by decide)).trans ((pNR hh813 (pN_n hh813 z812 e816)).trans ((pR_j hh807 (by decide)).trans ((pNR hh802 (pN_n hh802 z801 e805)).trans ((pR_j hh796 (by decide)).trans ((pNR hh791 (pN_n hh791 z790 e794)).trans ((pR_j hh785 (by decide)).trans ((pNR hh780 (pN_n hh780 z779 e783)).trans ((pR_j hh774 (by decide)).trans ((pNR hh769 (pN_n hh769 z768 e772)).trans ((pR_j hh763 (by decide)).trans ((pNR hh758 (pN_n hh758 z757 e761)).trans ((pR_j hh752 (by decide)).trans ((pNR hh747 (pN_n hh747 z746 e750)).trans ((pR_j hh741 (by decide)).trans ((pNR hh736 (pN_n hh736 z735 e739)).trans ((pR_j hh730 (by decide)).trans ((pNR hh725 (pN_n hh725 z724 e728)).trans ((pR_j hh719 (by decide)).trans ((pNR hh714 (pN_n hh714 z713 e717)).trans ((pR_j hh708 (by decide)).trans ((pNR hh703 (pN_n hh703 z702 e706)).trans ((pR_j hh697 (by decide)).trans ((pNR hh692 (pN_n hh692 z691 e695)).trans ((pR_j hh686 (by decide)).trans ((pNR hh681 (pN_n hh681 z680 e684)).trans ((pR_j hh675 (by decide)).trans ((pNR hh670 (pN_n hh670 z669 e673)).trans ((pR_j hh664 (by decide)).trans ((pNR hh659 (pN_n hh659 z658 e662)).trans ((pR_j hh653 (by decide)).trans ((pNR hh648 (pN_n hh648 z647 e651)).trans ((pR_j hh642 (by decide)).trans ((pNR hh637 (pN_n hh637 z636 e640)).trans ((pR_j hh631 (by decide)).trans ((pNR hh626 (pN_n hh626 z625 e629)).trans ((pR_j hh620 (by decide)).trans ((pNR hh615 (pN_n hh615 z614 e618)).trans ((pR_j hh609 (by decide)).trans ((pNR hh604 (pN_n hh604 z603 e607)).trans ((pR_j hh598 (by decide)).trans ((pNR hh593 (pN_n hh593 z592 e596)).trans ((pR_j hh587 (by decide)).trans ((pNR hh582 (pN_n hh582 z581 e585)).trans ((pR_j hh576 (by decide)).trans ((pNR hh571 (pN_n hh571 z570 e574)).trans ((pR_j hh565 (by decide)).trans ((pNR hh560 (pN_n hh560 z559 e563)).trans ((pR_j hh554 (by decide)).trans ((pNR hh549 (pN_n hh549 z548 e552)).trans ((pR_j hh543 (by decide)).trans ((pNR hh538 (pN_n hh538 z537 e541)).trans ((pR_j hh532 (by decide)).trans ((pNR hh527 (pN_n hh527 z526 e530)).trans ((pR_j hh521 (by decide)).trans ((pNR hh516 (pN_n hh516 z515 e519)).trans ((pR_j hh510 (by decide)).trans ((pNR hh505 (pN_n hh505 z504 e508)).trans ((pR_j hh499 (by decide)).trans ((pNR hh494 (pN_n hh494 z493 e497)).trans (pR_e hh488))))))))))))))))))))))))))))))))))))))))))))))))))))))))))))))))))))))))))))))
        have e2554 : Tg h489 n480 = 141100 := ((pRT hh488).trans (pN_T hh483))
        have e2555 : Tg h500 n480 = 141100 := ((pRT hh499).trans ((pNT hh494 (pN_n hh494 z493 e2554)).trans e2554))
        have e2556 : Tg h511 n480 = 141100 := ((pRT hh510).trans ((pNT hh505 (pN_n hh505 z504 e2555)).trans e2555))
        have e2557 : Tg h522 n480 = 141100 := ((pRT hh521).trans ((pNT hh516 (pN_n hh516 z515 e2556)).trans e2556))
        have e2558 : Tg h533 n480 = 141100 := ((pRT hh532).trans ((pNT hh527 (pN_n hh527 z526 e2557)).trans e2557))
        have e2559 : Tg h544 n480 = 141100 := ((pRT hh543).trans ((pNT hh538 (pN_n hh538 z537 e2558)).trans e2558))
        have e2560 : Tg h555 n480 = 141100 := ((pRT hh554).trans ((pNT hh549 (pN_n hh549 z548 e2559)).trans e2559))
        have e2561 : Tg h566 n480 = 141100 := ((pRT hh565).trans ((pNT hh560 (pN_n hh560 z559 e2560)).trans e2560))
        have e2562 : Tg h577 n480 = 141100 := ((pRT hh576).trans ((pNT hh571 (pN_n hh571 z570 e2561)).trans e2561))
        have e2563 : Tg h588 n480 = 141100 := ((pRT hh587).trans ((pNT hh582 (pN_n hh582 z581 e2562)).trans e2562))
        have e2564 : Tg h599 n480 = 141100 := ((pRT hh598).trans ((pNT hh593 (pN_n hh593 z592 e2563)).trans e2563))
        have e2565 : Tg h610 n480 = 141100 := ((pRT hh609).trans ((pNT hh604 (pN_n hh604 z603 e2564)).trans e2564))
        have e2566 : Tg h621 n480 = 141100 := ((pRT hh620).trans ((pNT hh615 (pN_n hh615 z614 e2565)).trans e2565))
        have e2567 : Tg h632 n480 = 141100 := ((pRT hh631).trans ((pNT hh626 (pN_n hh626 z625 e2566)).trans e2566))
        have e2568 : Tg h643 n480 = 141100 := ((pRT hh642).trans ((pNT hh637 (pN_n hh637 z636 e2567)).trans e2567))
        have e2569 : Tg h654 n480 = 141100 := ((pRT hh653).trans ((pNT hh648 (pN_n hh648 z647 e2568)).trans e2568))
        have e2570 : Tg h665 n480 = 141100 := ((pRT hh664).trans ((pNT hh659 (pN_n hh659 z658 e2569)).trans e2569))
        have e2571 : Tg h676 n480 = 141100 := ((pRT hh675).trans ((pNT hh670 (pN_n hh670 z669 e2570)).trans e2570))
        have e2572 : Tg h687 n480 = 141100 := ((pRT hh686).trans ((pNT hh681 (pN_n hh681 z680 e2571)).trans e2571))
        have e2573 : Tg h698 n480 = 141100 := ((pRT hh697).trans ((pNT hh692 (pN_n hh692 z691 e2572)).trans e2572))
        have e2574 : Tg h709 n480 = 141100 := ((pRT hh708).trans ((pNT hh703 (pN_n hh703 z702 e2573)).trans e2573))
        have e2575 : Tg h720 n480 = 141100 := ((pRT hh719).trans ((pNT hh714 (pN_n hh714 z713 e2574)).trans e2574))
        have e2576 : Tg h731 n480 = 141100 := ((pRT hh730).trans ((pNT hh725 (pN_n hh725 z724 e2575)).trans e2575))
        have e2577 : Tg h742 n480 = 141100 := ((pRT hh741).trans ((pNT hh736 (pN_n hh736 z735 e2576)).trans e2576))
        have e2578 : Tg h753 n480 = 141100 := ((pRT hh752).trans ((pNT hh747 (pN_n hh747 z746 e2577)).trans e2577))
        have e2579 : Tg h764 n480 = 141100 := ((pRT hh763).trans ((pNT hh758 (pN_n hh758 z757 e2578)).trans e2578))
        have e2580 : Tg h775 n480 = 141100 := ((pRT hh774).trans ((pNT hh769 (pN_n hh769 z768 e2579)).trans e2579))
        have e2581 : Tg h786 n480 = 141100 := ((pRT hh785).trans ((pNT hh780 (pN_n hh780 z779 e2580)).trans e2580))
        have e2582 : Tg h797 n480 = 141100 := ((pRT hh796).trans ((pNT hh791 (pN_n hh791 z790 e2581)).trans e2581))
        have e2583 : Tg h808 n480 = 141100 := ((pRT hh807).trans ((pNT hh802 (pN_n hh802 z801 e2582)).trans e2582))
        have e2584 : Tg h819 n480 = 141100 := ((pRT hh818).trans ((pNT hh813 (pN_n hh813 z812 e2583)).trans e2583))
        have e2585 : Tg h830 n480 = 141100 := ((pRT hh829).trans ((pNT hh824 (pN_n hh824 z823 e2584)).trans e2584))
        have e2586 : Tg h841 n480 = 141100 := ((pRT hh840).trans ((pNT hh835 (pN_n hh835 z834 e2585)).trans e2585))
        have e2587 : Tg h852 n480 = 141100 := ((pRT hh851).trans ((pNT hh846 (pN_n hh846 z845 e2586)).trans e2586))
        have e2588 : Tg h863 n480 = 141100 := ((pRT hh862).trans ((pNT hh857 (pN_n hh857 z856 e2587)).trans e2587))
        have e2589 : Tg h874 n480 = 141100 := ((pRT hh873).trans ((pNT hh868 (pN_n hh868 z867 e2588)).trans e2588))
        have e2590 : Tg h885 n480 = 141100 := ((pRT hh884).trans ((pNT hh879 (pN_n hh879 z878 e2589)).trans e2589))
        have e2591 : Tg h915 n480 = 141100 := ((pIT hh914).trans ((pIT hh910).trans (fxT F904 ((pRT hh895).trans ((pNT hh890 (pN_n hh890 z889 e2590)).trans e2590)))))
        have e2592 : Rv h915 a0 42 = n491 := ((pIR hh914).trans ((pIR hh910).trans ((fxR F904 e917 rfl).trans ((pR_j hh895 (by decide)).trans ((pNR hh890 (pN_n hh890 z889 e893)).trans ((pR_j hh884 (by decide)).trans ((pNR hh879 (pN_n hh879 z878 e882)).trans ((pR_j hh873 (by decide)).trans ((pNR hh868 (pN_n hh868 z867 e871)).trans ((pR_j hh862 (by decide)).trans ((pNR hh857 (pN_n hh857 z856 e860)).trans ((pR_j hh851 (by decide)).trans ((pNR hh846 (pN_n hh846 z845 e849)).trans ((pR_j hh840 (by decide)).trans ((pNR hh835 (pN_n hh835 z834 e838)).trans ((pR_j hh829 (by decide)).trans ((pNR hh824 (pN_n hh824 z823 e827)).trans ((pR_j hh818 (by decide)).trans ((pNR hh813 (pN_n hh813 z812 e816)).trans ((pR_j hh807 (by decide)).trans ((pNR hh802 (pN_n hh802 z801 e805)).trans ((pR_j hh796 (by decide)).trans ((pNR hh791 (pN_n hh791 z790 e794)).trans ((pR_j hh785 (by decide)).trans ((pNR hh780 (pN_n hh780 z779 e783)).trans ((pR_j hh774 (by decide)).trans ((pNR hh769 (pN_n hh769 z768 e772)).trans ((pR_j hh763 (by decide)).trans ((pNR hh758 (pN_n hh758 z757 e761)).trans ((pR_j hh752 (by decide)).trans ((pNR hh747 (pN_n hh747 z746 e750)).trans ((pR_j hh741 (by decide)).trans ((pNR hh736 (pN_n hh736 z735 e739)).trans ((pR_j hh730 (by decide)).trans ((pNR hh725 (pN_n hh725 z724 e728)).trans ((pR_j hh719 (by decide)).trans ((pNR hh714 (pN_n hh714 z713 e717)).trans ((pR_j hh708 (by decide)).trans ((pNR hh703 (pN_n hh703 z702 e706)).trans ((pR_j hh697 (by decide)).trans ((pNR hh692 (pN_n hh692 z691 e695)).trans ((pR_j hh686 (by decide)).trans ((pNR hh681 (pN_n hh681 z680 e684)).trans ((pR_j hh675 (by decide)).trans ((pNR hh670 (pN_n hh670 z669 e673)).trans ((pR_j hh664 (by decide)).trans ((pNR hh659 (pN_n hh659 z658 e662)).trans ((pR_j hh653 (by decide)).trans ((pNR hh648 (pN_n hh648 z647 e651)).trans ((pR_j hh642 (by decide)).trans ((pNR hh637 (pN_n hh637 z636 e640)).trans ((pR_j hh631 (by decide)).trans ((pNR hh626 (pN_n hh626 z625 e629)).trans ((pR_j hh620 (by decide)).trans ((pNR hh615 (pN_n hh615 z614 e618)).trans ((pR_j hh609 (by decide)).trans ((pNR hh604 (pN_n hh604 z603 e607)).trans ((pR_j hh598 (by decide)).trans ((pNR hh593 (pN_n hh593 z592 e596)).trans ((pR_j hh587 (by decide)).trans ((pNR hh582 (pN_n hh582 z581 e585)).trans ((pR_j hh576 (by decide)).trans ((pNR hh571 (pN_n hh571 z570 e574)).trans ((pR_j hh565 (by decide)).trans ((pNR hh560 (pN_n hh560 z559 e563)).trans ((pR_j hh554 (by decide)).trans ((pNR hh549 (pN_n hh549 z548 e552)).trans ((pR_j hh543 (by decide)).trans ((pNR hh538 (pN_n hh538 z537 e541)).trans ((pR_j hh532 (by decide)).trans ((pNR hh527 (pN_n hh527 z526 e530)).trans ((pR_j hh521 (by decide)).trans ((pNR hh516 (pN_n hh516 z515 e519)).trans ((pR_j hh510 (by decide)).trans ((pNR hh505 (pN_n hh505 z504 e508)).trans (pR_e hh499))))))))))))))))))))))))))))))))))))))))))))))))))))))))))))))))))))))))))))
        have e2593 : Tg h500 n491 = 142100 := ((pRT hh499).trans (pN_T hh494))
        have e2594 : Tg h511 n491 = 142100 := ((pRT hh510).trans ((pNT hh505 (pN_n hh505 z504 e2593)).trans e2593))
        have e2595 : Tg h522 n491 = 142100 := ((pRT hh521).trans ((pNT hh516 (pN_n hh516 z515 e2594)).trans e2594))
        have e2596 : Tg h533 n491 = 142100 := ((pRT hh532).trans ((pNT hh527 (pN_n hh527 z526 e2595)).trans e2595))
        have e2597 : Tg h544 n491 = 142100 := ((pRT hh543).trans ((pNT hh538 (pN_n hh538 z537 e2596)).trans e2596))
        have e2598 : Tg h555 n491 = 142100 := ((pRT hh554).trans ((pNT hh549 (pN_n hh549 z548 e2597)).trans e2597))
        have e2599 : Tg h566 n491 = 142100 := ((pRT hh565).trans ((pNT hh560 (pN_n hh560 z559 e2598)).trans e2598))
        have e2600 : Tg h577 n491 = 142100 := ((pRT hh576).trans ((pNT hh571 (pN_n hh571 z570 e2599)).trans e2599))
        have e2601 : Tg h588 n491 = 142100 := ((pRT hh587).trans ((pNT hh582 (pN_n hh582 z581 e2600)).trans e2600))
        have e2602 : Tg h599 n491 = 142100 := ((pRT hh598).trans ((pNT hh593 (pN_n hh593 z592 e2601)).trans e2601))
        have e2603 : Tg h610 n491 = 142100 := ((pRT hh609).trans ((pNT hh604 (pN_n hh604 z603 e2602)).trans e2602))
        have e2604 : Tg h621 n491 = 142100 := ((pRT hh620).trans ((pNT hh615 (pN_n hh615 z614 e2603)).trans e2603))
        have e2605 : Tg h632 n491 = 142100 := ((pRT hh631).trans ((pNT hh626 (pN_n hh626 z625 e2604)).trans e2604))
        have e2606 : Tg h643 n491 = 142100 := ((pRT hh642).trans ((pNT hh637 (pN_n hh637 z636 e2605)).trans e2605))
        have e2607 : Tg h654 n491 = 142100 := ((pRT hh653).trans ((pNT hh648 (pN_n hh648 z647 e2606)).trans e2606))
        have e2608 : Tg h665 n491 = 142100 := ((pRT hh664).trans ((pNT hh659 (pN_n hh659 z658 e2607)).trans e2607))
        have e2609 : Tg h676 n491 = 142100 := ((pRT hh675).trans ((pNT hh670 (pN_n hh670 z669 e2608)).trans e2608))
        have e2610 : Tg h687 n491 = 142100 := ((pRT hh686).trans ((pNT hh681 (pN_n hh681 z680 e2609)).trans e2609))
        have e2611 : Tg h698 n491 = 142100 := ((pRT hh697).trans ((pNT hh692 (pN_n hh692 z691 e2610)).trans e2610))
        have e2612 : Tg h709 n491 = 142100 := ((pRT hh708).trans ((pNT hh703 (pN_n hh703 z702 e2611)).trans e2611))
        have e2613 : Tg h720 n491 = 142100 := ((pRT hh719).trans ((pNT hh714 (pN_n hh714 z713 e2612)).trans e2612))
        have e2614 : Tg h731 n491 = 142100 := ((pRT hh730).trans ((pNT hh725 (pN_n hh725 z724 e2613)).trans e2613))
        have e2615 : Tg h742 n491 = 142100 := ((pRT hh741).trans ((pNT hh736 (pN_n hh736 z735 e2614)).trans e2614))
        have e2616 : Tg h753 n491 = 142100 := ((pRT hh752).trans ((pNT hh747 (pN_n hh747 z746 e2615)).trans e2615))
        have e2617 : Tg h764 n491 = 142100 := ((pRT hh763).trans ((pNT hh758 (pN_n hh758 z757 e2616)).trans e2616))
        have e2618 : Tg h775 n491 = 142100 := ((pRT hh774).trans ((pNT hh769 (pN_n hh769 z768 e2617)).trans e2617))
        have e2619 : Tg h786 n491 = 142100 := ((pRT hh785).trans ((pNT hh780 (pN_n hh780 z779 e2618)).trans e2618))
        have e2620 : Tg h797 n491 = 142100 := ((pRT hh796).trans ((pNT hh791 (pN_n hh791 z790 e2619)).trans e2619))
        have e2621 : Tg h808 n491 = 142100 := ((pRT hh807).trans ((pNT hh802 (pN_n hh802 z801 e2620)).trans e2620))
        have e2622 : Tg h819 n491 = 142100 := ((pRT hh818).trans ((pNT hh813 (pN_n hh813 z812 e2621)).trans e2621))
        have e2623 : Tg h830 n491 = 142100 := ((pRT hh829).trans ((pNT hh824 (pN_n hh824 z823 e2622)).trans e2622))
        have e2624 : Tg h841 n491 = 142100 := ((pRT hh840).trans ((pNT hh835 (pN_n hh835 z834 e2623)).trans e2623))
        have e2625 : Tg h852 n491 = 142100 := ((pRT hh851).trans ((pNT hh846 (pN_n hh846 z845 e2624)).trans e2624))
        have e2626 : Tg h863 n491 = 142100 := ((pRT hh862).trans ((pNT hh857 (pN_n hh857 z856 e2625)).trans e2625))
        have e2627 : Tg h874 n491 = 142100 := ((pRT hh873).trans ((pNT hh868 (pN_n hh868 z867 e2626)).trans e2626))
        have e2628 : Tg h885 n491 = 142100 := ((pRT hh884).trans ((pNT hh879 (pN_n hh879 z878 e2627)).trans e2627))
        have e2629 : Tg h915 n491 = 142100 := ((pIT hh914).trans ((pIT hh910).trans (fxT F904 ((pRT hh895).trans ((pNT hh890 (pN_n hh890 z889 e2628)).trans e2628)))))
        have e2630 : Rv h915 a0 43 = n502 := ((pIR hh914).trans ((pIR hh910).trans ((fxR F904 e917 rfl).trans ((pR_j hh895 (by decide)).trans ((pNR hh890 (pN_n hh890 z889 e893)).trans ((pR_j hh884 (by decide)).trans ((pNR hh879 (pN_n hh879 z878 e882)).trans ((pR_j hh873 (by decide)).trans ((pNR hh868 (pN_n hh868 z867 e871)).trans ((pR_j hh862 (by decide)).trans ((pNR hh857 (pN_n hh857 z856 e860)).trans ((pR_j hh851 (by decide)).trans ((pNR hh846 (pN_n hh846 z845 e849)).trans ((pR_j hh840 (by decide)).trans ((pNR hh835 (pN_n hh835 z834 e838)).trans ((pR_j hh829 (by decide)).trans ((pNR hh824 (pN_n hh824 z823 e827)).trans ((pR_j hh818 (by decide)).trans ((pNR hh813 (pN_n hh813 z812 e816)).trans ((pR_j hh807 (by decide)).trans ((pNR hh802 (pN_n hh802 z801 e805)).trans ((pR_j hh796 (by decide)).trans ((pNR hh791 (pN_n hh791 z790 e794)).trans ((pR_j hh785 (by decide)).trans ((pNR hh780 (pN_n hh780 z779 e783)).trans ((pR_j hh774 (by decide)).trans ((pNR hh769 (pN_n hh769 z768 e772)).trans ((pR_j hh763 (by decide)).trans ((pNR hh758 (pN_n hh758 z757 e761)).trans ((pR_j hh752 (by decide)).trans ((pNR hh747 (pN_n hh747 z746 e750)).trans ((pR_j hh741 (by decide)).trans ((pNR hh736 (pN_n hh736 z735 e739)).trans ((pR_j hh730 (by decide)).trans ((pNR hh725 (pN_n hh725 z724 e728)).trans ((pR_j hh719 (by decide)).trans ((pNR hh714 (pN_n hh714 z713 e717)).trans ((pR_j hh708 (by decide)).trans ((pNR hh703 (pN_n hh703 z702 e706)).trans ((pR_j hh697 (by decide)).trans ((pNR hh692 (pN_n hh692 z691 e695)).trans ((pR_j hh686 (by decide)).trans ((pNR hh681 (pN_n hh681 z680 e684)).trans ((pR_j hh675 (by decide)).trans ((pNR hh670 (pN_n hh670 z669 e673)).trans ((pR_j hh664 (by decide)).trans ((pNR hh659 (pN_n hh659 z658 e662)).trans ((pR_j hh653 (by decide)).trans ((pNR hh648 (pN_n hh648 z647 e651)).trans ((pR_j hh642 (by decide)).trans ((pNR hh637 (pN_n hh637 z636 e640)).trans ((pR_j hh631 (by decide)).trans ((pNR hh626 (pN_n hh626 z625 e629)).trans ((pR_j hh620 (by decide)).trans ((pNR hh615 (pN_n hh615 z614 e618)).trans ((pR_j hh609 (by decide)).trans ((pNR hh604 (pN_n hh604 z603 e607)).trans ((pR_j hh598 (by decide)).trans ((pNR hh593 (pN_n hh593 z592 e596)).trans ((pR_j hh587 (by decide)).trans ((pNR hh582 (pN_n hh582 z581 e585)).trans ((pR_j hh576 (by decide)).trans ((pNR hh571 (pN_n hh571 z570 e574)).trans ((pR_j hh565 (by decide)).trans ((pNR hh560 (pN_n hh560 z559 e563)).trans ((pR_j hh554 (by decide)).trans ((pNR hh549 (pN_n hh549 z548 e552)).trans ((pR_j hh543 (by decide)).trans ((pNR hh538 (pN_n hh538 z537 e541)).trans ((pR_j hh532 (by decide)).trans ((pNR hh527 (pN_n hh527 z526 e530)).trans ((pR_j hh521 (by decide)).trans ((pNR hh516 (pN_n hh516 z515 e519)).trans (pR_e hh510))))))))))))))))))))))))))))))))))))))))))))))))))))))))))))))))))))))))))
        have e2631 : Tg h511 n502 = 143100 := ((pRT hh510).trans (pN_T hh505))
        have e2632 : Tg h522 n502 = 143100 := ((pRT hh521).trans ((pNT hh516 (pN_n hh516 z515 e2631)).trans e2631))
        have e2633 : Tg h533 n502 = 143100 := ((pRT hh532).trans ((pNT hh527 (pN_n hh527 z526 e2632)).trans e2632))
        have e2634 : Tg h544 n502 = 143100 := ((pRT hh543).trans ((pNT hh538 (pN_n hh538 z537 e2633)).trans e2633))
        have e2635 : Tg h555 n502 = 143100 := ((pRT hh554).trans ((pNT hh549 (pN_n hh549 z548 e2634)).trans e2634))
        have e2636 : Tg h566 n502 = 143100 := ((pRT hh565).trans ((pNT hh560 (pN_n hh560 z559 e2635)).trans e2635))
        have e2637 : Tg h577 n502 = 143100 := ((pRT hh576).trans ((pNT hh571 (pN_n hh571 z570 e2636)).trans e2636))
        have e2638 : Tg h588 n502 = 143100 := ((pRT hh587).trans ((pNT hh582 (pN_n hh582 z581 e2637)).trans e2637))
        have e2639 : Tg h599 n502 = 143100 := ((pRT hh598).trans ((pNT hh593 (pN_n hh593 z592 e2638)).trans e2638))
        have e2640 : Tg h610 n502 = 143100 := ((pRT hh609).trans ((pNT hh604 (pN_n hh604 z603 e2639)).trans e2639))
        have e2641 : Tg h621 n502 = 143100 := ((pRT hh620).trans ((pNT hh615 (pN_n hh615 z614 e2640)).trans e2640))
        have e2642 : Tg h632 n502 = 143100 := ((pRT hh631).trans ((pNT hh626 (pN_n hh626 z625 e2641)).trans e2641))
        have e2643 : Tg h643 n502 = 143100 := ((pRT hh642).trans ((pNT hh637 (pN_n hh637 z636 e2642)).trans e2642))
        have e2644 : Tg h654 n502 = 143100 := ((pRT hh653).trans ((pNT hh648 (pN_n hh648 z647 e2643)).trans e2643))
        have e2645 : Tg h665 n502 = 143100 := ((pRT hh664).trans ((pNT hh659 (pN_n hh659 z658 e2644)).trans e2644))
        have e2646 : Tg h676 n502 = 143100 := ((pRT hh675).trans ((pNT hh670 (pN_n hh670 z669 e2645)).trans e2645))
        have e2647 : Tg h687 n502 = 143100 := ((pRT hh686).trans ((pNT hh681 (pN_n hh681 z680 e2646)).trans e2646))
        have e2648 : Tg h698 n502 = 143100 := ((pRT hh697).trans ((pNT hh692 (pN_n hh692 z691 e2647)).trans e2647))
        have e2649 : Tg h709 n502 = 143100 := ((pRT hh708).trans ((pNT hh703 (pN_n hh703 z702 e2648)).trans e2648))
        have e2650 : Tg h720 n502 = 143100 := ((pRT hh719).trans ((pNT hh714 (pN_n hh714 z713 e2649)).trans e2649))
        have e2651 : Tg h731 n502 = 143100 := ((pRT hh730).trans ((pNT hh725 (pN_n hh725 z724 e2650)).trans e2650))
        have e2652 : Tg h742 n502 = 143100 := ((pRT hh741).trans ((pNT hh736 (pN_n hh736 z735 e2651)).trans e2651))
        have e2653 : Tg h753 n502 = 143100 := ((pRT hh752).trans ((pNT hh747 (pN_n hh747 z746 e2652)).trans e2652))
        have e2654 : Tg h764 n502 = 143100 := ((pRT hh763).trans ((pNT hh758 (pN_n hh758 z757 e2653)).trans e2653))
        have e2655 : Tg h775 n502 = 143100 := ((pRT hh774).trans ((pNT hh769 (pN_n hh769 z768 e2654)).trans e2654))
        have e2656 : Tg h786 n502 = 143100 := ((pRT hh785).trans ((pNT hh780 (pN_n hh780 z779 e2655)).trans e2655))
        have e2657 : Tg h797 n502 = 143100 := ((pRT hh796).trans ((pNT hh791 (pN_n hh791 z790 e2656)).trans e2656))
        have e2658 : Tg h808 n502 = 143100 := ((pRT hh807).trans ((pNT hh802 (pN_n hh802 z801 e2657)).trans e2657))
        have e2659 : Tg h819 n502 = 143100 := ((pRT hh818).trans ((pNT hh813 (pN_n hh813 z812 e2658)).trans e2658))
        have e2660 : Tg h830 n502 = 143100 := ((pRT hh829).trans ((pNT hh824 (pN_n hh824 z823 e2659)).trans e2659))
        have e2661 : Tg h841 n502 = 143100 := ((pRT hh840).trans ((pNT hh835 (pN_n hh835 z834 e2660)).trans e2660))
        have e2662 : Tg h852 n502 = 143100 := ((pRT hh851).trans ((pNT hh846 (pN_n hh846 z845 e2661)).trans e2661))
        have e2663 : Tg h863 n502 = 143100 := ((pRT hh862).trans ((pNT hh857 (pN_n hh857 z856 e2662)).trans e2662))
        have e2664 : Tg h874 n502 = 143100 := ((pRT hh873).trans ((pNT hh868 (pN_n hh868 z867 e2663)).trans e2663))
        have e2665 : Tg h885 n502 = 143100 := ((pRT hh884).trans ((pNT hh879 (pN_n hh879 z878 e2664)).trans e2664))
        have e2666 : Tg h915 n502 = 143100 := ((pIT hh914).trans ((pIT hh910).trans (fxT F904 ((pRT hh895).trans ((pNT hh890 (pN_n hh890 z889 e2665)).trans e2665)))))
        have e2667 : Rv h915 a0 44 = n513 := ((pIR hh914).trans ((pIR hh910).trans ((fxR F904 e917 rfl).trans ((pR_j hh895 (by decide)).trans ((pNR hh890 (pN_n hh890 z889 e893)).trans ((pR_j hh884 (by decide)).trans ((pNR hh879 (pN_n hh879 z878 e882)).trans ((pR_j hh873 (by decide)).trans ((pNR hh868 (pN_n hh868 z867 e871)).trans ((pR_j hh862 (by decide)).trans ((pNR hh857 (pN_n hh857 z856 e860)).trans ((pR_j hh851 (by decide)).trans ((pNR hh846 (pN_n hh846 z845 e849)).trans ((pR_j hh840 (by decide)).trans ((pNR hh835 (pN_n hh835 z834 e838)).trans ((pR_j hh829 (by decide)).trans ((pNR hh824 (pN_n hh824 z823 e827)).trans ((pR_j hh818 (by decide)).trans ((pNR hh813 (pN_n hh813 z812 e816)).trans ((pR_j hh807 (by decide)).trans ((pNR hh802 (pN_n hh802 z801 e805)).trans ((pR_j hh796 (by decide)).trans ((pNR hh791 (pN_n hh791 z790 e794)).trans ((pR_j hh785 (by decide)).trans ((pNR hh780 (pN_n hh780 z779 e783)).trans ((pR_j hh774 (by decide)).trans ((pNR hh769 (pN_n hh769 z768 e772)).trans ((pR_j hh763 (by decide)).trans ((pNR hh758 (pN_n hh758 z757 e761)).trans ((pR_j hh752 (by decide)).trans ((pNR hh747 (pN_n hh747 z746 e750)).trans ((pR_j hh741 (by decide)).trans ((pNR hh736 (pN_n hh736 z735 e739)).trans ((pR_j hh730 (by decide)).trans ((pNR hh725 (pN_n hh725 z724 e728)).trans ((pR_j hh719 (by decide)).trans ((pNR hh714 (pN_n hh714 z713 e717)).trans ((pR_j hh708 (by decide)).trans ((pNR hh703 (pN_n hh703 z702 e706)).trans ((pR_j hh697 (by decide)).trans ((pNR hh692 (pN_n hh692 z691 e695)).trans ((pR_j hh686 (by decide)).trans ((pNR hh681 (pN_n hh681 z680 e684)).trans ((pR_j hh675 (by decide)).trans ((pNR hh670 (pN_n hh670 z669 e673)).trans ((pR_j hh664 (by decide)).trans ((pNR hh659 (pN_n hh659 z658 e662)).trans ((pR_j hh653 (by decide)).trans ((pNR hh648 (pN_n hh648 z647 e651)).trans ((pR_j hh642 (by decide)).trans ((pNR hh637 (pN_n hh637 z636 e640)).trans ((pR_j hh631 (by decide)).trans ((pNR hh626 (pN_n hh626 z625 e629)).trans ((pR_j hh620 (by decide)).trans ((pNR hh615 (pN_n hh615 z614 e618)).trans ((pR_j hh609 (by decide)).trans ((pNR hh604 (pN_n hh604 z603 e607)).trans ((pR_j hh598 (by decide)).trans ((pNR hh593 (pN_n hh593 z592 e596)).trans ((pR_j hh587 (by decide)).trans ((pNR hh582 (pN_n hh582 z581 e585)).trans ((pR_j hh576 (by decide)).trans ((pNR hh571 (pN_n hh571 z570 e574)).trans ((pR_j hh565 (by decide)).trans ((pNR hh560 (pN_n hh560 z559 e563)).trans ((pR_j hh554 (by decide)).trans ((pNR hh549 (pN_n hh549 z548 e552)).trans ((pR_j hh543 (by decide)).trans ((pNR hh538 (pN_n hh538 z537 e541)).trans ((pR_j hh532 (by decide)).trans ((pNR hh527 (pN_n hh527 z526 e530)).trans (pR_e hh521))))))))))))))))))))))))))))))))))))))))))))))))))))))))))))))))))))))))
        have e2668 : Tg h522 n513 = 144100 := ((pRT hh521).trans (pN_T hh516))
        have e2669 : Tg h533 n513 = 144100 := ((pRT hh532).trans ((pNT hh527 (pN_n hh527 z526 e2668)).trans e2668))
        have e2670 : Tg h544 n513 = 144100 := ((pRT hh543).trans ((pNT hh538 (pN_n hh538 z537 e2669)).trans e2669))
        have e2671 : Tg h555 n513 = 144100 := ((pRT hh554).trans ((pNT hh549 (pN_n hh549 z548 e2670)).trans e2670))
        have e2672 : Tg h566 n513 = 144100 := ((pRT hh565).trans ((pNT hh560 (pN_n hh560 z559 e2671)).trans e2671))
        have e2673 : Tg h577 n513 = 144100 := ((pRT hh576).trans ((pNT hh571 (pN_n hh571 z570 e2672)).trans e2672))
        have e2674 : Tg h588 n513 = 144100 := ((pRT hh587).trans ((pNT hh582 (pN_n hh582 z581 e2673)).trans e2673))
        have e2675 : Tg h599 n513 = 144100 := ((pRT hh598).trans ((pNT hh593 (pN_n hh593 z592 e2674)).trans e2674))
        have e2676 : Tg h610 n513 = 144100 := ((pRT hh609).trans ((pNT hh604 (pN_n hh604 z603 e2675)).trans e2675))
        have e2677 : Tg h621 n513 = 144100 := ((pRT hh620).trans ((pNT hh615 (pN_n hh615 z614 e2676)).trans e2676))
        have e2678 : Tg h632 n513 = 144100 := ((pRT hh631).trans ((pNT hh626 (pN_n hh626 z625 e2677)).trans e2677))
        have e2679 : Tg h643 n513 = 144100 := ((pRT hh642).trans ((pNT hh637 (pN_n hh637 z636 e2678)).trans e2678))
        have e2680 : Tg h654 n513 = 144100 := ((pRT hh653).trans ((pNT hh648 (pN_n hh648 z647 e2679)).trans e2679))
        have e2681 : Tg h665 n513 = 144100 := ((pRT hh664).trans ((pNT hh659 (pN_n hh659 z658 e2680)).trans e2680))
        have e2682 : Tg h676 n513 = 144100 := ((pRT hh675).trans ((pNT hh670 (pN_n hh670 z669 e2681)).trans e2681))
        have e2683 : Tg h687 n513 = 144100 := ((pRT hh686).trans ((pNT hh681 (pN_n hh681 z680 e2682)).trans e2682))
        have e2684 : Tg h698 n513 = 144100 := ((pRT hh697).trans ((pNT hh692 (pN_n hh692 z691 e2683)).trans e2683))
        have e2685 : Tg h709 n513 = 144100 := ((pRT hh708).trans ((pNT hh703 (pN_n hh703 z702 e2684)).trans e2684))
        have e2686 : Tg h720 n513 = 144100 := ((pRT hh719).trans ((pNT hh714 (pN_n hh714 z713 e2685)).trans e2685))
        have e2687 : Tg h731 n513 = 144100 := ((pRT hh730).trans ((pNT hh725 (pN_n hh725 z724 e2686)).trans e2686))
        have e2688 : Tg h742 n513 = 144100 := ((pRT hh741).trans ((pNT hh736 (pN_n hh736 z735 e2687)).trans e2687))
        have e2689 : Tg h753 n513 = 144100 := ((pRT hh752).trans ((pNT hh747 (pN_n hh747 z746 e2688)).trans e2688))
        have e2690 : Tg h764 n513 = 144100 := ((pRT hh763).trans ((pNT hh758 (pN_n hh758 z757 e2689)).trans e2689))
        have e2691 : Tg h775 n513 = 144100 := ((pRT hh774).trans ((pNT hh769 (pN_n hh769 z768 e2690)).trans e2690))
        have e2692 : Tg h786 n513 = 144100 := ((pRT hh785).trans ((pNT hh780 (pN_n hh780 z779 e2691)).trans e2691))
        have e2693 : Tg h797 n513 = 144100 := ((pRT hh796).trans ((pNT hh791 (pN_n hh791 z790 e2692)).trans e2692))
        have e2694 : Tg h808 n513 = 144100 := ((pRT hh807).trans ((pNT hh802 (pN_n hh802 z801 e2693)).trans e2693))
        have e2695 : Tg h819 n513 = 144100 := ((pRT hh818).trans ((pNT hh813 (pN_n hh813 z812 e2694)).trans e2694))
        have e2696 : Tg h830 n513 = 144100 := ((pRT hh829).trans ((pNT hh824 (pN_n hh824 z823 e2695)).trans e2695))
        have e2697 : Tg h841 n513 = 144100 := ((pRT hh840).trans ((pNT hh835 (pN_n hh835 z834 e2696)).trans e2696))
        have e2698 : Tg h852 n513 = 144100 := ((pRT hh851).trans ((pNT hh846 (pN_n hh846 z845 e2697)).trans e2697))
        have e2699 : Tg h863 n513 = 144100 := ((pRT hh862).trans ((pNT hh857 (pN_n hh857 z856 e2698)).trans e2698))
        have e2700 : Tg h874 n513 = 144100 := ((pRT hh873).trans ((pNT hh868 (pN_n hh868 z867 e2699)).trans e2699))
        have e2701 : Tg h885 n513 = 144100 := ((pRT hh884).trans ((pNT hh879 (pN_n hh879 z878 e2700)).trans e2700))
        have e2702 : Tg h915 n513 = 144100 := ((pIT hh914).trans ((pIT hh910).trans (fxT F904 ((pRT hh895).trans ((pNT hh890 (pN_n hh890 z889 e2701)).trans e2701)))))
        have e2703 : Rv h915 a0 45 = n524 := ((pIR hh914).trans ((pIR hh910).trans ((fxR F904 e917 rfl).trans ((pR_j hh895 (by decide)).trans ((pNR hh890 (pN_n hh890 z889 e893)).trans ((pR_j hh884 (by decide)).trans ((pNR hh879 (pN_n hh879 z878 e882)).trans ((pR_j hh873 (by decide)).trans ((pNR hh868 (pN_n hh868 z867 e871)).trans ((pR_j hh862 (by decide)).trans ((pNR hh857 (pN_n hh857 z856 e860)).trans ((pR_j hh851 (by decide)).trans ((pNR hh846 (pN_n hh846 z845 e849)).trans ((pR_j hh840 (by decide)).trans ((pNR hh835 (pN_n hh835 z834 e838)).trans ((pR_j hh829 (by decide)).trans ((pNR hh824 (pN_n hh824 z823 e827)).trans ((pR_j hh818 (by decide)).trans ((pNR hh813 (pN_n hh813 z812 e816)).trans ((pR_j hh807 (by decide)).trans ((pNR hh802 (pN_n hh802 z801 e805)).trans ((pR_j hh796 (by decide)).trans ((pNR hh791 (pN_n hh791 z790 e794)).trans ((pR_j hh785 (by decide)).trans ((pNR hh780 (pN_n hh780 z779 e783)).trans ((pR_j hh774 (by decide)).trans ((pNR hh769 (pN_n hh769 z768 e772)).trans ((pR_j hh763 (by decide)).trans ((pNR hh758 (pN_n hh758 z757 e761)).trans ((pR_j hh752 (by decide)).trans ((pNR hh747 (pN_n hh747 z746 e750)).trans ((pR_j hh741 (by decide)).trans ((pNR hh736 (pN_n hh736 z735 e739)).trans ((pR_j hh730 (by decide)).trans ((pNR hh725 (pN_n hh725 z724 e728)).trans ((pR_j hh719 (by decide)).trans ((pNR hh714 (pN_n hh714 z713 e717)).trans ((pR_j hh708 (by decide)).trans ((pNR hh703 (pN_n hh703 z702 e706)).trans ((pR_j hh697 (by decide)).trans ((pNR hh692 (pN_n hh692 z691 e695)).trans ((pR_j hh686 (by decide)).trans ((pNR hh681 (pN_n hh681 z680 e684)).trans ((pR_j hh675 (by decide)).trans ((pNR hh670 (pN_n hh670 z669 e673)).trans ((pR_j hh664 (by decide)).trans ((pNR hh659 (pN_n hh659 z658 e662)).trans ((pR_j hh653 (by decide)).trans ((pNR hh648 (pN_n hh648 z647 e651)).trans ((pR_j hh642 (by decide)).trans ((pNR hh637 (pN_n hh637 z636 e640)).trans ((pR_j hh631 (by decide)).trans ((pNR hh626 (pN_n hh626 z625 e629)).trans ((pR_j hh620 (by decide)).trans ((pNR hh615 (pN_n hh615 z614 e618)).trans ((pR_j hh609 (by decide)).trans ((pNR hh604 (pN_n hh604 z603 e607)).trans ((pR_j hh598 (by decide)).trans ((pNR hh593 (pN_n hh593 z592 e596)).trans ((pR_j hh587 (by decide)).trans ((pNR hh582 (pN_n hh582 z581 e585)).trans ((pR_j hh576 (by decide)).trans ((pNR hh571 (pN_n hh571 z570 e574)).trans ((pR_j hh565 (by decide)).trans ((pNR hh560 (pN_n hh560 z559 e563)).trans ((pR_j hh554 (by decide)).trans ((pNR hh549 (pN_n hh549 z548 e552)).trans ((pR_j hh543 (by decide)).trans ((pNR hh538 (pN_n hh538 z537 e541)).trans (pR_e hh532))))))))))))))))))))))))))))))))))))))))))))))))))))))))))))))))))))))
        have e2704 : Tg h533 n524 = 145100 := ((pRT hh532).trans (pN_T hh527))
        have e2705 : Tg h544 n524 = 145100 := ((pRT hh543).trans ((pNT hh538 (pN_n hh538 z537 e2704)).trans e2704))
        have e2706 : Tg h555 n524 = 145100 := ((pRT hh554).trans ((pNT hh549 (pN_n hh549 z548 e2705)).trans e2705))
        have e2707 : Tg h566 n524 = 145100 := ((pRT hh565).trans ((pNT hh560 (pN_n hh560 z559 e2706)).trans e2706))
        have e2708 : Tg h577 n524 = 145100 := ((pRT hh576).trans ((pNT hh571 (pN_n hh571 z570 e2707)).trans e2707))
        have e2709 : Tg h588 n524 = 145100 := ((pRT hh587).trans ((pNT hh582 (pN_n hh582 z581 e2708)).trans e2708))
        have e2710 : Tg h599 n524 = 145100 := ((pRT hh598).trans ((pNT hh593 (pN_n hh593 z592 e2709)).trans e2709))
        have e2711 : Tg h610 n524 = 145100 := ((pRT hh609).trans ((pNT hh604 (pN_n hh604 z603 e2710)).trans e2710))
        have e2712 : Tg h621 n524 = 145100 := ((pRT hh620).trans ((pNT hh615 (pN_n hh615 z614 e2711)).trans e2711))
        have e2713 : Tg h632 n524 = 145100 := ((pRT hh631).trans ((pNT hh626 (pN_n hh626 z625 e2712)).trans e2712))
        have e2714 : Tg h643 n524 = 145100 := ((pRT hh642).trans ((pNT hh637 (pN_n hh637 z636 e2713)).trans e2713))
        have e2715 : Tg h654 n524 = 145100 := ((pRT hh653).trans ((pNT hh648 (pN_n hh648 z647 e2714)).trans e2714))
        have e2716 : Tg h665 n524 = 145100 := ((pRT hh664).trans ((pNT hh659 (pN_n hh659 z658 e2715)).trans e2715))
        have e2717 : Tg h676 n524 = 145100 := ((pRT hh675).trans ((pNT hh670 (pN_n hh670 z669 e2716)).trans e2716))
        have e2718 : Tg h687 n524 = 145100 := ((pRT hh686).trans ((pNT hh681 (pN_n hh681 z680 e2717)).trans e2717))
        have e2719 : Tg h698 n524 = 145100 := ((pRT hh697).trans ((pNT hh692 (pN_n hh692 z691 e2718)).trans e2718))
        have e2720 : Tg h709 n524 = 145100 := ((pRT hh708).trans ((pNT hh703 (pN_n hh703 z702 e2719)).trans e2719))
        have e2721 : Tg h720 n524 = 145100 := ((pRT hh719).trans ((pNT hh714 (pN_n hh714 z713 e2720)).trans e2720))
        have e2722 : Tg h731 n524 = 145100 := ((pRT hh730).trans ((pNT hh725 (pN_n hh725 z724 e2721)).trans e2721))
        have e2723 : Tg h742 n524 = 145100 := ((pRT hh741).trans ((pNT hh736 (pN_n hh736 z735 e2722)).trans e2722))
        have e2724 : Tg h753 n524 = 145100 := ((pRT hh752).trans ((pNT hh747 (pN_n hh747 z746 e2723)).trans e2723))
        have e2725 : Tg h764 n524 = 145100 := ((pRT hh763).trans ((pNT hh758 (pN_n hh758 z757 e2724)).trans e2724))
        have e2726 : Tg h775 n524 = 145100 := ((pRT hh774).trans ((pNT hh769 (pN_n hh769 z768 e2725)).trans e2725))
        have e2727 : Tg h786 n524 = 145100 := ((pRT hh785).trans ((pNT hh780 (pN_n hh780 z779 e2726)).trans e2726))
        have e2728 : Tg h797 n524 = 145100 := ((pRT hh796).trans ((pNT hh791 (pN_n hh791 z790 e2727)).trans e2727))
        have e2729 : Tg h808 n524 = 145100 := ((pRT hh807).trans ((pNT hh802 (pN_n hh802 z801 e2728)).trans e2728))
        have e2730 : Tg h819 n524 = 145100 := ((pRT hh818).trans ((pNT hh813 (pN_n hh813 z812 e2729)).trans e2729))
        have e2731 : Tg h830 n524 = 145100 := ((pRT hh829).trans ((pNT hh824 (pN_n hh824 z823 e2730)).trans e2730))
        have e2732 : Tg h841 n524 = 145100 := ((pRT hh840).trans ((pNT hh835 (pN_n hh835 z834 e2731)).trans e2731))
        have e2733 : Tg h852 n524 = 145100 := ((pRT hh851).trans ((pNT hh846 (pN_n hh846 z845 e2732)).trans e2732))
        have e2734 : Tg h863 n524 = 145100 := ((pRT hh862).trans ((pNT hh857 (pN_n hh857 z856 e2733)).trans e2733))
        have e2735 : Tg h874 n524 = 145100 := ((pRT hh873).trans ((pNT hh868 (pN_n hh868 z867 e2734)).trans e2734))
        have e2736 : Tg h885 n524 = 145100 := ((pRT hh884).trans ((pNT hh879 (pN_n hh879 z878 e2735)).trans e2735))
        have e2737 : Tg h915 n524 = 145100 := ((pIT hh914).trans ((pIT hh910).trans (fxT F904 ((pRT hh895).trans ((pNT hh890 (pN_n hh890 z889 e2736)).trans e2736)))))
        have e2738 : Rv h915 a0 46 = n535 := ((pIR hh914).trans ((pIR hh910).trans ((fxR F904 e917 rfl).trans ((pR_j hh895 (by decide)).trans ((pNR hh890 (pN_n hh890 z889 e893)).trans ((pR_j hh884 (by decide)).trans ((pNR hh879 (pN_n hh879 z878 e882)).trans ((pR_j hh873 (by decide)).trans ((pNR hh868 (pN_n hh868 z867 e871)).trans ((pR_j hh862 (by decide)).trans ((pNR hh857 (pN_n hh857 z856 e860)).trans ((pR_j hh851 (by decide)).trans ((pNR hh846 (pN_n hh846 z845 e849)).trans ((pR_j hh840 (by decide)).trans ((pNR hh835 (pN_n hh835 z834 e838)).trans ((pR_j hh829 (by decide)).trans ((pNR hh824 (pN_n hh824 z823 e827)).trans ((pR_j hh818 (by decide)).trans ((pNR hh813 (pN_n hh813 z812 e816)).trans ((pR_j hh807 (by decide)).trans ((pNR hh802 (pN_n hh802 z801 e805)).trans ((pR_j hh796 (by decide)).trans ((pNR hh791 (pN_n hh791 z790 e794)).trans ((pR_j hh785 (by decide)).trans ((pNR hh780 (pN_n hh780 z779 e783)).trans ((pR_j hh774 (by decide)).trans ((pNR hh769 (pN_n hh769 z768 e772)).trans ((pR_j hh763 (by decide)).trans ((pNR hh758 (pN_n hh758 z757 e761)).trans ((pR_j hh752 (by decide)).trans ((pNR hh747 (pN_n hh747 z746 e750)).trans ((pR_j hh741 (by decide)).trans ((pNR hh736 (pN_n hh736 z735 e739)).trans ((pR_j hh730 (by decide)).trans ((pNR hh725 (pN_n hh725 z724 e728)).trans ((pR_j hh719 (by decide)).trans ((pNR hh714 (pN_n hh714 z713 e717)).trans ((pR_j hh708 (by decide)).trans ((pNR hh703 (pN_n hh703 z702 e706)).trans ((pR_j hh697 (by decide)).trans ((pNR hh692 (pN_n hh692 z691 e695)).trans ((pR_j hh686 (by decide)).trans ((pNR hh681 (pN_n hh681 z680 e684)).trans ((pR_j hh675 (by decide)).trans ((pNR hh670 (pN_n hh670 z669 e673)).trans ((pR_j hh664 (by decide)).trans ((pNR hh659 (pN_n hh659 z658 e662)).trans ((pR_j hh653 (by decide)).trans ((pNR hh648 (pN_n hh648 z647 e651)).trans ((pR_j hh642 (by decide)).trans ((pNR hh637 (pN_n hh637 z636 e640)).trans ((pR_j hh631 (by decide)).trans ((pNR hh626 (pN_n hh626 z625 e629)).trans ((pR_j hh620 (by decide)).trans ((pNR hh615 (pN_n hh615 z614 e618)).trans ((pR_j hh609 (by decide)).trans ((pNR hh604 (pN_n hh604 z603 e607)).trans ((pR_j hh598 (by decide)).trans ((pNR hh593 (pN_n hh593 z592 e596)).trans ((pR_j hh587 (by decide)).trans ((pNR hh582 (pN_n hh582 z581 e585)).trans ((pR_j hh576 (by decide)).trans ((pNR hh571 (pN_n hh571 z570 e574)).trans ((pR_j hh565 (by decide)).trans ((pNR hh560 (pN_n hh560 z559 e563)).trans ((pR_j hh554 (by decide)).trans ((pNR hh549 (pN_n hh549 z548 e552)).trans (pR_e hh543))))))))))))))))))))))))))))))))))))))))))))))))))))))))))))))))))))
        have e2739 : Tg h544 n535 = 146100 := ((pRT hh543).trans (pN_T hh538))
        have e2740 : Tg h555 n535 = 146100 := ((pRT hh554).trans ((pNT hh549 (pN_n hh549 z548 e2739)).trans e2739))
        have e2741 : Tg h566 n535 = 146100 := ((pRT hh565).trans ((pNT hh560 (pN_n hh560 z559 e2740)).trans e2740))
        have e2742 : Tg h577 n535 = 146100 := ((pRT hh576).trans ((pNT hh571 (pN_n hh571 z570 e2741)).trans e2741))
        have e2743 : Tg h588 n535 = 146100 := ((pRT hh587).trans ((pNT hh582 (pN_n hh582 z581 e2742)).trans e2742))
        have e2744 : Tg h599 n535 = 146100 := ((pRT hh598).trans ((pNT hh593 (pN_n hh593 z592 e2743)).trans e2743))
        have e2745 : Tg h610 n535 = 146100 := ((pRT hh609).trans ((pNT hh604 (pN_n hh604 z603 e2744)).trans e2744))
        have e2746 : Tg h621 n535 = 146100 := ((pRT hh620).trans ((pNT hh615 (pN_n hh615 z614 e2745)).trans e2745))
        have e2747 : Tg h632 n535 = 146100 := ((pRT hh631).trans ((pNT hh626 (pN_n hh626 z625 e2746)).trans e2746))
        have e2748 : Tg h643 n535 = 146100 := ((pRT hh642).trans ((pNT hh637 (pN_n hh637 z636 e2747)).trans e2747))
        have e2749 : Tg h654 n535 = 146100 := ((pRT hh653).trans ((pNT hh648 (pN_n hh648 z647 e2748)).trans e2748))
        have e2750 : Tg h665 n535 = 146100 := ((pRT hh664).trans ((pNT hh659 (pN_n hh659 z658 e2749)).trans e2749))
        have e2751 : Tg h676 n535 = 146100 := ((pRT hh675).trans ((pNT hh670 (pN_n hh670 z669 e2750)).trans e2750))
        have e2752 : Tg h687 n535 = 146100 := ((pRT hh686).trans ((pNT hh681 (pN_n hh681 z680 e2751)).trans e2751))
        have e2753 : Tg h698 n535 = 146100 := ((pRT hh697).trans ((pNT hh692 (pN_n hh692 z691 e2752)).trans e2752))
        have e2754 : Tg h709 n535 = 146100 := ((pRT hh708).trans ((pNT hh703 (pN_n hh703 z702 e2753)).trans e2753))
        have e2755 : Tg h720 n535 = 146100 := ((pRT hh719).trans ((pNT hh714 (pN_n hh714 z713 e2754)).trans e2754))
        have e2756 : Tg h731 n535 = 146100 := ((pRT hh730).trans ((pNT hh725 (pN_n hh725 z724 e2755)).trans e2755))
        have e2757 : Tg h742 n535 = 146100 := ((pRT hh741).trans ((pNT hh736 (pN_n hh736 z735 e2756)).trans e2756))
        have e2758 : Tg h753 n535 = 146100 := ((pRT hh752).trans ((pNT hh747 (pN_n hh747 z746 e2757)).trans e2757))
        have e2759 : Tg h764 n535 = 146100 := ((pRT hh763).trans ((pNT hh758 (pN_n hh758 z757 e2758)).trans e2758))
        have e2760 : Tg h775 n535 = 146100 := ((pRT hh774).trans ((pNT hh769 (pN_n hh769 z768 e2759)).trans e2759))
        have e2761 : Tg h786 n535 = 146100 := ((pRT hh785).trans ((pNT hh780 (pN_n hh780 z779 e2760)).trans e2760))
        have e2762 : Tg h797 n535 = 146100 := ((pRT hh796).trans ((pNT hh791 (pN_n hh791 z790 e2761)).trans e2761))
        have e2763 : Tg h808 n535 = 146100 := ((pRT hh807).trans ((pNT hh802 (pN_n hh802 z801 e2762)).trans e2762))
        have e2764 : Tg h819 n535 = 146100 := ((pRT hh818).trans ((pNT hh813 (pN_n hh813 z812 e2763)).trans e2763))
        have e2765 : Tg h830 n535 = 146100 := ((pRT hh829).trans ((pNT hh824 (pN_n hh824 z823 e2764)).trans e2764))
        have e2766 : Tg h841 n535 = 146100 := ((pRT hh840).trans ((pNT hh835 (pN_n hh835 z834 e2765)).trans e2765))
        have e2767 : Tg h852 n535 = 146100 := ((pRT hh851).trans ((pNT hh846 (pN_n hh846 z845 e2766)).trans e2766))
        have e2768 : Tg h863 n535 = 146100 := ((pRT hh862).trans ((pNT hh857 (pN_n hh857 z856 e2767)).trans e2767))
        have e2769 : Tg h874 n535 = 146100 := ((pRT hh873).trans ((pNT hh868 (pN_n hh868 z867 e2768)).trans e2768))
        have e2770 : Tg h885 n535 = 146100 := ((pRT hh884).trans ((pNT hh879 (pN_n hh879 z878 e2769)).trans e2769))
        have e2771 : Tg h915 n535 = 146100 := ((pIT hh914).trans ((pIT hh910).trans (fxT F904 ((pRT hh895).trans ((pNT hh890 (pN_n hh890 z889 e2770)).trans e2770)))))
        have e2772 : Rv h915 a0 47 = n546 := ((pIR hh914).trans ((pIR hh910).trans ((fxR F904 e917 rfl).trans ((pR_j hh895 (by decide)).trans ((pNR hh890 (pN_n hh890 z889 e893)).trans ((pR_j hh884 (by decide)).trans ((pNR hh879 (pN_n hh879 z878 e882)).trans ((pR_j hh873 (by decide)).trans ((pNR hh868 (pN_n hh868 z867 e871)).trans ((pR_j hh862 (by decide)).trans ((pNR hh857 (pN_n hh857 z856 e860)).trans ((pR_j hh851 (by decide)).trans ((pNR hh846 (pN_n hh846 z845 e849)).trans ((pR_j hh840 (by decide)).trans ((pNR hh835 (pN_n hh835 z834 e838)).trans ((pR_j hh829 (by decide)).trans ((pNR hh824 (pN_n hh824 z823 e827)).trans ((pR_j hh818 (by decide)).trans ((pNR hh813 (pN_n hh813 z812 e816)).trans ((pR_j hh807 (by decide)).trans ((pNR hh802 (pN_n hh802 z801 e805)).trans ((pR_j hh796 (by decide)).trans ((pNR hh791 (pN_n hh791 z790 e794)).trans ((pR_j hh785 (by decide)).trans ((pNR hh780 (pN_n hh780 z779 e783)).trans ((pR_j hh774 (by decide)).trans ((pNR hh769 (pN_n hh769 z768 e772)).trans ((pR_j hh763 (by decide)).trans ((pNR hh758 (pN_n hh758 z757 e761)).trans ((pR_j hh752 (by decide)).trans ((pNR hh747 (pN_n hh747 z746 e750)).trans ((pR_j hh741 (by decide)).trans ((pNR hh736 (pN_n hh736 z735 e739)).trans ((pR_j hh730 (by decide)).trans ((pNR hh725 (pN_n hh725 z724 e728)).trans ((pR_j hh719 (by decide)).trans ((pNR hh714 (pN_n hh714 z713 e717)).trans ((pR_j hh708 (by decide)).trans ((pNR hh703 (pN_n hh703 z702 e706)).trans ((pR_j hh697 (by decide)).trans ((pNR hh692 (pN_n hh692 z691 e695)).trans ((pR_j hh686 (by decide)).trans ((pNR hh681 (pN_n hh681 z680 e684)).trans ((pR_j hh675 (by decide)).trans ((pNR hh670 (pN_n hh670 z669 e673)).trans ((pR_j hh664 (by decide)).trans ((pNR hh659 (pN_n hh659 z658 e662)).trans ((pR_j hh653 (by decide)).trans ((pNR hh648 (pN_n hh648 z647 e651)).trans ((pR_j hh642 (by decide)).trans ((pNR hh637 (pN_n hh637 z636 e640)).trans ((pR_j hh631 (by decide)).trans ((pNR hh626 (pN_n hh626 z625 e629)).trans ((pR_j hh620 (by decide)).trans ((pNR hh615 (pN_n hh615 z614 e618)).trans ((pR_j hh609 (by decide)).trans ((pNR hh604 (pN_n hh604 z603 e607)).trans ((pR_j hh598 (by decide)).trans ((pNR hh593 (pN_n hh593 z592 e596)).trans ((pR_j hh587 (by decide)).trans ((pNR hh582 (pN_n hh582 z581 e585)).trans ((pR_j hh576 (by decide)).trans ((pNR hh571 (pN_n hh571 z570 e574)).trans ((pR_j hh565 (by decide)).trans ((pNR hh560 (pN_n hh560 z559 e563)).trans (pR_e hh554))))))))))))))))))))))))))))))))))))))))))))))))))))))))))))))))))
        have e2773 : Tg h555 n546 = 147100 := ((pRT hh554).trans (pN_T hh549))
        have e2774 : Tg h566 n546 = 147100 := ((pRT hh565).trans ((pNT hh560 (pN_n hh560 z559 e2773)).trans e2773))
        have e2775 : Tg h577 n546 = 147100 := ((pRT hh576).trans ((pNT hh571 (pN_n hh571 z570 e2774)).trans e2774))
        have e2776 : Tg h588 n546 = 147100 := ((pRT hh587).trans ((pNT hh582 (pN_n hh582 z581 e2775)).trans e2775))
        have e2777 : Tg h599 n546 = 147100 := ((pRT hh598).trans ((pNT hh593 (pN_n hh593 z592 e2776)).trans e2776))
        have e2778 : Tg h610 n546 = 147100 := ((pRT hh609).trans ((pNT hh604 (pN_n hh604 z603 e2777)).trans e2777))
        have e2779 : Tg h621 n546 = 147100 := ((pRT hh620).trans ((pNT hh615 (pN_n hh615 z614 e2778)).trans e2778))
        have e2780 : Tg h632 n546 = 147100 := ((pRT hh631).trans ((pNT hh626 (pN_n hh626 z625 e2779)).trans e2779))
        have e2781 : Tg h643 n546 = 147100 := ((pRT hh642).trans ((pNT hh637 (pN_n hh637 z636 e2780)).trans e2780))
        have e2782 : Tg h654 n546 = 147100 := ((pRT hh653).trans ((pNT hh648 (pN_n hh648 z647 e2781)).trans e2781))
        have e2783 : Tg h665 n546 = 147100 := ((pRT hh664).trans ((pNT hh659 (pN_n hh659 z658 e2782)).trans e2782))
        have e2784 : Tg h676 n546 = 147100 := ((pRT hh675).trans ((pNT hh670 (pN_n hh670 z669 e2783)).trans e2783))
        have e2785 : Tg h687 n546 = 147100 := ((pRT hh686).trans ((pNT hh681 (pN_n hh681 z680 e2784)).trans e2784))
        have e2786 : Tg h698 n546 = 147100 := ((pRT hh697).trans ((pNT hh692 (pN_n hh692 z691 e2785)).trans e2785))
        have e2787 : Tg h709 n546 = 147100 := ((pRT hh708).trans ((pNT hh703 (pN_n hh703 z702 e2786)).trans e2786))
        have e2788 : Tg h720 n546 = 147100 := ((pRT hh719).trans ((pNT hh714 (pN_n hh714 z713 e2787)).trans e2787))
        have e2789 : Tg h731 n546 = 147100 := ((pRT hh730).trans ((pNT hh725 (pN_n hh725 z724 e2788)).trans e2788))
        have e2790 : Tg h742 n546 = 147100 := ((pRT hh741).trans ((pNT hh736 (pN_n hh736 z735 e2789)).trans e2789))
        have e2791 : Tg h753 n546 = 147100 := ((pRT hh752).trans ((pNT hh747 (pN_n hh747 z746 e2790)).trans e2790))
        have e2792 : Tg h764 n546 = 147100 := ((pRT hh763).trans ((pNT hh758 (pN_n hh758 z757 e2791)).trans e2791))
        have e2793 : Tg h775 n546 = 147100 := ((pRT hh774).trans ((pNT hh769 (pN_n hh769 z768 e2792)).trans e2792))
        have e2794 : Tg h786 n546 = 147100 := ((pRT hh785).trans ((pNT hh780 (pN_n hh780 z779 e2793)).trans e2793))
        have e2795 : Tg h797 n546 = 147100 := ((pRT hh796).trans ((pNT hh791 (pN_n hh791 z790 e2794)).trans e2794))
        have e2796 : Tg h808 n546 = 147100 := ((pRT hh807).trans ((pNT hh802 (pN_n hh802 z801 e2795)).trans e2795))
        have e2797 : Tg h819 n546 = 147100 := ((pRT hh818).trans ((pNT hh813 (pN_n hh813 z812 e2796)).trans e2796))
        have e2798 : Tg h830 n546 = 147100 := ((pRT hh829).trans ((pNT hh824 (pN_n hh824 z823 e2797)).trans e2797))
        have e2799 : Tg h841 n546 = 147100 := ((pRT hh840).trans ((pNT hh835 (pN_n hh835 z834 e2798)).trans e2798))
        have e2800 : Tg h852 n546 = 147100 := ((pRT hh851).trans ((pNT hh846 (pN_n hh846 z845 e2799)).trans e2799))
        have e2801 : Tg h863 n546 = 147100 := ((pRT hh862).trans ((pNT hh857 (pN_n hh857 z856 e2800)).trans e2800))
        have e2802 : Tg h874 n546 = 147100 := ((pRT hh873).trans ((pNT hh868 (pN_n hh868 z867 e2801)).trans e2801))
        have e2803 : Tg h885 n546 = 147100 := ((pRT hh884).trans ((pNT hh879 (pN_n hh879 z878 e2802)).trans e2802))
        have e2804 : Tg h915 n546 = 147100 := ((pIT hh914).trans ((pIT hh910).trans (fxT F904 ((pRT hh895).trans ((pNT hh890 (pN_n hh890 z889 e2803)).trans e2803)))))
        have e2805 : Rv h915 a0 48 = n557 := ((pIR hh914).trans ((pIR hh910).trans ((fxR F904 e917 rfl).trans ((pR_j hh895 (by decide)).trans ((pNR hh890 (pN_n hh890 z889 e893)).trans ((pR_j hh884 (by decide)).trans ((pNR hh879 (pN_n hh879 z878 e882)).trans ((pR_j hh873 (by decide)).trans ((pNR hh868 (pN_n hh868 z867 e871)).trans ((pR_j hh862 (by decide)).trans ((pNR hh857 (pN_n hh857 z856 e860)).trans ((pR_j hh851 (by decide)).trans ((pNR hh846 (pN_n hh846 z845 e849)).trans ((pR_j hh840 (by decide)).trans ((pNR hh835 (pN_n hh835 z834 e838)).trans ((pR_j hh829 (by decide)).trans ((pNR hh824 (pN_n hh824 z823 e827)).trans ((pR_j hh818 (by decide)).trans ((pNR hh813 (pN_n hh813 z812 e816)).trans ((pR_j hh807 (by decide)).trans ((pNR hh802 (pN_n hh802 z801 e805)).trans ((pR_j hh796 (by decide)).trans ((pNR hh791 (pN_n hh791 z790 e794)).trans ((pR_j hh785 (by decide)).trans ((pNR hh780 (pN_n hh780 z779 e783)).trans ((pR_j hh774 (by decide)).trans ((pNR hh769 (pN_n hh769 z768 e772)).trans ((pR_j hh763 (by decide)).trans ((pNR hh758 (pN_n hh758 z757 e761)).trans ((pR_j hh752 (by decide)).trans ((pNR hh747 (pN_n hh747 z746 e750)).trans ((pR_j hh741 (by decide)).trans ((pNR hh736 (pN_n hh736 z735 e739)).trans ((pR_j hh730 (by decide)).trans ((pNR hh725 (pN_n hh725 z724 e728)).trans ((pR_j hh719 (by decide)).trans ((pNR hh714 (pN_n hh714 z713 e717)).trans ((pR_j hh708 (by decide)).trans ((pNR hh703 (pN_n hh703 z702 e706)).trans ((pR_j hh697 (by decide)).trans ((pNR hh692 (pN_n hh692 z691 e695)).trans ((pR_j hh686 (by decide)).trans ((pNR hh681 (pN_n hh681 z680 e684)).trans ((pR_j hh675 (by decide)).trans ((pNR hh670 (pN_n hh670 z669 e673)).trans ((pR_j hh664 (by decide)).trans ((pNR hh659 (pN_n hh659 z658 e662)).trans ((pR_j hh653 (by decide)).trans ((pNR hh648 (pN_n hh648 z647 e651)).trans ((pR_j hh642 (by decide)).trans ((pNR hh637 (pN_n hh637 z636 e640)).trans ((pR_j hh631 (by decide)).trans ((pNR hh626 (pN_n hh626 z625 e629)).trans ((pR_j hh620 (by decide)).trans ((pNR hh615 (pN_n hh615 z614 e618)).trans ((pR_j hh609 (by decide)).trans ((pNR hh604 (pN_n hh604 z603 e607)).trans ((pR_j hh598 (by decide)).trans ((pNR hh593 (pN_n hh593 z592 e596)).trans ((pR_j hh587 (by decide)).trans ((pNR hh582 (pN_n hh582 z581 e585)).trans ((pR_j hh576 (by decide)).trans ((pNR hh571 (pN_n hh571 z570 e574)).trans (pR_e hh565))))))))))))))))))))))))))))))))))))))))))))))))))))))))))))))))
        have e2806 : Tg h566 n557 = 148100 := ((pRT hh565).trans (pN_T hh560))
        have e2807 : Tg h577 n557 = 148100 := ((pRT hh576).trans ((pNT hh571 (pN_n hh571 z570 e2806)).trans e2806))
        have e2808 : Tg h588 n557 = 148100 := ((pRT hh587).trans ((pNT hh582 (pN_n hh582 z581 e2807)).trans e2807))
        have e2809 : Tg h599 n557 = 148100 := ((pRT hh598).trans ((pNT hh593 (pN_n hh593 z592 e2808)).trans e2808))
        have e2810 : Tg h610 n557 = 148100 := ((pRT hh609).trans ((pNT hh604 (pN_n hh604 z603 e2809)).trans e2809))
        have e2811 : Tg h621 n557 = 148100 := ((pRT hh620).trans ((pNT hh615 (pN_n hh615 z614 e2810)).trans e2810))
        have e2812 : Tg h632 n557 = 148100 := ((pRT hh631).trans ((pNT hh626 (pN_n hh626 z625 e2811)).trans e2811))
        have e2813 : Tg h643 n557 = 148100 := ((pRT hh642).trans ((pNT hh637 (pN_n hh637 z636 e2812)).trans e2812))
        have e2814 : Tg h654 n557 = 148100 := ((pRT hh653).trans ((pNT hh648 (pN_n hh648 z647 e2813)).trans e2813))
        have e2815 : Tg h665 n557 = 148100 := ((pRT hh664).trans ((pNT hh659 (pN_n hh659 z658 e2814)).trans e2814))
        have e2816 : Tg h676 n557 = 148100 := ((pRT hh675).trans ((pNT hh670 (pN_n hh670 z669 e2815)).trans e2815))
        have e2817 : Tg h687 n557 = 148100 := ((pRT hh686).trans ((pNT hh681 (pN_n hh681 z680 e2816)).trans e2816))
        have e2818 : Tg h698 n557 = 148100 := ((pRT hh697).trans ((pNT hh692 (pN_n hh692 z691 e2817)).trans e2817))
        have e2819 : Tg h709 n557 = 148100 := ((pRT hh708).trans ((pNT hh703 (pN_n hh703 z702 e2818)).trans e2818))
        have e2820 : Tg h720 n557 = 148100 := ((pRT hh719).trans ((pNT hh714 (pN_n hh714 z713 e2819)).trans e2819))
        have e2821 : Tg h731 n557 = 148100 := ((pRT hh730).trans ((pNT hh725 (pN_n hh725 z724 e2820)).trans e2820))
        have e2822 : Tg h742 n557 = 148100 := ((pRT hh741).trans ((pNT hh736 (pN_n hh736 z735 e2821)).trans e2821))
        have e2823 : Tg h753 n557 = 148100 := ((pRT hh752).trans ((pNT hh747 (pN_n hh747 z746 e2822)).trans e2822))
        have e2824 : Tg h764 n557 = 148100 := ((pRT hh763).trans ((pNT hh758 (pN_n hh758 z757 e2823)).trans e2823))
        have e2825 : Tg h775 n557 = 148100 := ((pRT hh774).trans ((pNT hh769 (pN_n hh769 z768 e2824)).trans e2824))
        have e2826 : Tg h786 n557 = 148100 := ((pRT hh785).trans ((pNT hh780 (pN_n hh780 z779 e2825)).trans e2825))
        have e2827 : Tg h797 n557 = 148100 := ((pRT hh796).trans ((pNT hh791 (pN_n hh791 z790 e2826)).trans e2826))
        have e2828 : Tg h808 n557 = 148100 := ((pRT hh807).trans ((pNT hh802 (pN_n hh802 z801 e2827)).trans e2827))
        have e2829 : Tg h819 n557 = 148100 := ((pRT hh818).trans ((pNT hh813 (pN_n hh813 z812 e2828)).trans e2828))
        have e2830 : Tg h830 n557 = 148100 := ((pRT hh829).trans ((pNT hh824 (pN_n hh824 z823 e2829)).trans e2829))
        have e2831 : Tg h841 n557 = 148100 := ((pRT hh840).trans ((pNT hh835 (pN_n hh835 z834 e2830)).trans e2830))
        have e2832 : Tg h852 n557 = 148100 := ((pRT hh851).trans ((pNT hh846 (pN_n hh846 z845 e2831)).trans e2831))
        have e2833 : Tg h863 n557 = 148100 := ((pRT hh862).trans ((pNT hh857 (pN_n hh857 z856 e2832)).trans e2832))
        have e2834 : Tg h874 n557 = 148100 := ((pRT hh873).trans ((pNT hh868 (pN_n hh868 z867 e2833)).trans e2833))
        have e2835 : Tg h885 n557 = 148100 := ((pRT hh884).trans ((pNT hh879 (pN_n hh879 z878 e2834)).trans e2834))
        have e2836 : Tg h915 n557 = 148100 := ((pIT hh914).trans ((pIT hh910).trans (fxT F904 ((pRT hh895).trans ((pNT hh890 (pN_n hh890 z889 e2835)).trans e2835)))))
        have e2837 : Rv h915 a0 49 = n568 := ((pIR hh914).trans ((pIR hh910).trans ((fxR F904 e917 rfl).trans ((pR_j hh895 (by decide)).trans ((pNR hh890 (pN_n hh890 z889 e893)).trans ((pR_j hh884 (by decide)).trans ((pNR hh879 (pN_n hh879 z878 e882)).trans ((pR_j hh873 (by decide)).trans ((pNR hh868 (pN_n hh868 z867 e871)).trans ((pR_j hh862 (by decide)).trans ((pNR hh857 (pN_n hh857 z856 e860)).trans ((pR_j hh851 (by decide)).trans ((pNR hh846 (pN_n hh846 z845 e849)).trans ((pR_j hh840 (by decide)).trans ((pNR hh835 (pN_n hh835 z834 e838)).trans ((pR_j hh829 (by decide)).trans ((pNR hh824 (pN_n hh824 z823 e827)).trans ((pR_j hh818 (by decide)).trans ((pNR hh813 (pN_n hh813 z812 e816)).trans ((pR_j hh807 (by decide)).trans ((pNR hh802 (pN_n hh802 z801 e805)).trans ((pR_j hh796 (by decide)).trans ((pNR hh791 (pN_n hh791 z790 e794)).trans ((pR_j hh785 (by decide)).trans ((pNR hh780 (pN_n hh780 z779 e783)).trans ((pR_j hh774 (by decide)).trans ((pNR hh769 (pN_n hh769 z768 e772)).trans ((pR_j hh763 (by decide)).trans ((pNR hh758 (pN_n hh758 z757 e761)).trans ((pR_j hh752 (by decide)).trans ((pNR hh747 (pN_n hh747 z746 e750)).trans ((pR_j hh741 (by decide)).trans ((pNR hh736 (pN_n hh736 z735 e739)).trans ((pR_j hh730 (by decide)).trans ((pNR hh725 (pN_n hh725 z724 e728)).trans ((pR_j hh719 (by decide)).trans ((pNR hh714 (pN_n hh714 z713 e717)).trans ((pR_j hh708 (by decide)).trans ((pNR hh703 (pN_n hh703 z702 e706)).trans ((pR_j hh697 (by decide)).trans ((pNR hh692 (pN_n hh692 z691 e695)).trans ((pR_j hh686 (by decide)).trans ((pNR hh681 (pN_n hh681 z680 e684)).trans ((pR_j hh675 (by decide)).trans ((pNR hh670 (pN_n hh670 z669 e673)).trans ((pR_j hh664 (by decide)).trans ((pNR hh659 (pN_n hh659 z658 e662)).trans ((pR_j hh653 (by decide)).trans ((pNR hh648 (pN_n hh648 z647 e651)).trans ((pR_j hh642 (by decide)).trans ((pNR hh637 (pN_n hh637 z636 e640)).trans ((pR_j hh631 (by decide)).trans ((pNR hh626 (pN_n hh626 z625 e629)).trans ((pR_j hh620 (by decide)).trans ((pNR hh615 (pN_n hh615 z614 e618)).trans ((pR_j hh609 (by decide)).trans ((pNR hh604 (pN_n hh604 z603 e607)).trans ((pR_j hh598 (by decide)).trans ((pNR hh593 (pN_n hh593 z592 e596)).trans ((pR_j hh587 (by decide)).trans ((pNR hh582 (pN_n hh582 z581 e585)).trans (pR_e hh576))))))))))))))))))))))))))))))))))))))))))))))))))))))))))))))
        have e2838 : Tg h577 n568 = 149100 := ((pRT hh576).trans (pN_T hh571))
        have e2839 : Tg h588 n568 = 149100 := ((pRT hh587).trans ((pNT hh582 (pN_n hh582 z581 e2838)).trans e2838))
        have e2840 : Tg h599 n568 = 149100 := ((pRT hh598).trans ((pNT hh593 (pN_n hh593 z592 e2839)).trans e2839))
        have e2841 : Tg h610 n568 = 149100 := ((pRT hh609).trans ((pNT hh604 (pN_n hh604 z603 e2840)).trans e2840))
        have e2842 : Tg h621 n568 = 149100 := ((pRT hh620).trans ((pNT hh615 (pN_n hh615 z614 e2841)).trans e2841))
        have e2843 : Tg h632 n568 = 149100 := ((pRT hh631).trans ((pNT hh626 (pN_n hh626 z625 e2842)).trans e2842))
        have e2844 : Tg h643 n568 = 149100 := ((pRT hh642).trans ((pNT hh637 (pN_n hh637 z636 e2843)).trans e2843))
        have e2845 : Tg h654 n568 = 149100 := ((pRT hh653).trans ((pNT hh648 (pN_n hh648 z647 e2844)).trans e2844))
        have e2846 : Tg h665 n568 = 149100 := ((pRT hh664).trans ((pNT hh659 (pN_n hh659 z658 e2845)).trans e2845))
        have e2847 : Tg h676 n568 = 149100 := ((pRT hh675).trans ((pNT hh670 (pN_n hh670 z669 e2846)).trans e2846))
        have e2848 : Tg h687 n568 = 149100 := ((pRT hh686).trans ((pNT hh681 (pN_n hh681 z680 e2847)).trans e2847))
        have e2849 : Tg h698 n568 = 149100 := ((pRT hh697).trans ((pNT hh692 (pN_n hh692 z691 e2848)).trans e2848))
        have e2850 : Tg h709 n568 = 149100 := ((pRT hh708).trans ((pNT hh703 (pN_n hh703 z702 e2849)).trans e2849))
        have e2851 : Tg h720 n568 = 149100 := ((pRT hh719).trans ((pNT hh714 (pN_n hh714 z713 e2850)).trans e2850))
        have e2852 : Tg h731 n568 = 149100 := ((pRT hh730).trans ((pNT hh725 (pN_n hh725 z724 e2851)).trans e2851))
        have e2853 : Tg h742 n568 = 149100 := ((pRT hh741).trans ((pNT hh736 (pN_n hh736 z735 e2852)).trans e2852))
        have e2854 : Tg h753 n568 = 149100 := ((pRT hh752).trans ((pNT hh747 (pN_n hh747 z746 e2853)).trans e2853))
        have e2855 : Tg h764 n568 = 149100 := ((pRT hh763).trans ((pNT hh758 (pN_n hh758 z757 e2854)).trans e2854))
        have e2856 : Tg h775 n568 = 149100 := ((pRT hh774).trans ((pNT hh769 (pN_n hh769 z768 e2855)).trans e2855))
        have e2857 : Tg h786 n568 = 149100 := ((pRT hh785).trans ((pNT hh780 (pN_n hh780 z779 e2856)).trans e2856))
        have e2858 : Tg h797 n568 = 149100 := ((pRT hh796).trans ((pNT hh791 (pN_n hh791 z790 e2857)).trans e2857))
        have e2859 : Tg h808 n568 = 149100 := ((pRT hh807).trans ((pNT hh802 (pN_n hh802 z801 e2858)).trans e2858))
        have e2860 : Tg h819 n568 = 149100 := ((pRT hh818).trans ((pNT hh813 (pN_n hh813 z812 e2859)).trans e2859))
        have e2861 : Tg h830 n568 = 149100 := ((pRT hh829).trans ((pNT hh824 (pN_n hh824 z823 e2860)).trans e2860))
        have e2862 : Tg h841 n568 = 149100 := ((pRT hh840).trans ((pNT hh835 (pN_n hh835 z834 e2861)).trans e2861))
        have e2863 : Tg h852 n568 = 149100 := ((pRT hh851).trans ((pNT hh846 (pN_n hh846 z845 e2862)).trans e2862))
        have e2864 : Tg h863 n568 = 149100 := ((pRT hh862).trans ((pNT hh857 (pN_n hh857 z856 e2863)).trans e2863))
        have e2865 : Tg h874 n568 = 149100 := ((pRT hh873).trans ((pNT hh868 (pN_n hh868 z867 e2864)).trans e2864))
        have e2866 : Tg h885 n568 = 149100 := ((pRT hh884).trans ((pNT hh879 (pN_n hh879 z878 e2865)).trans e2865))
        have e2867 : Tg h915 n568 = 149100 := ((pIT hh914).trans ((pIT hh910).trans (fxT F904 ((pRT hh895).trans ((pNT hh890 (pN_n hh890 z889 e2866)).trans e2866)))))
        have e2868 : Rv h915 a0 50 = n579 := ((pIR hh914).trans ((pIR hh910).trans ((fxR F904 e917 rfl).trans ((pR_j hh895 (by decide)).trans ((pNR hh890 (pN_n hh890 z889 e893)).trans ((pR_j hh884 (by decide)).trans ((pNR hh879 (pN_n hh879 z878 e882)).trans ((pR_j hh873 (by decide)).trans ((pNR hh868 (pN_n hh868 z867 e871)).trans ((pR_j hh862 (by decide)).trans ((pNR hh857 (pN_n hh857 z856 e860)).trans ((pR_j hh851 (by decide)).trans ((pNR hh846 (pN_n hh846 z845 e849)).trans ((pR_j hh840 (by decide)).trans ((pNR hh835 (pN_n hh835 z834 e838)).trans ((pR_j hh829 (by decide)).trans ((pNR hh824 (pN_n hh824 z823 e827)).trans ((pR_j hh818 (by decide)).trans ((pNR hh813 (pN_n hh813 z812 e816)).trans ((pR_j hh807 (by decide)).trans ((pNR hh802 (pN_n hh802 z801 e805)).trans ((pR_j hh796 (by decide)).trans ((pNR hh791 (pN_n hh791 z790 e794)).trans ((pR_j hh785 (by decide)).trans ((pNR hh780 (pN_n hh780 z779 e783)).trans ((pR_j hh774 (by decide)).trans ((pNR hh769 (pN_n hh769 z768 e772)).trans ((pR_j hh763 (by decide)).trans ((pNR hh758 (pN_n hh758 z757 e761)).trans ((pR_j hh752 (by decide)).trans ((pNR hh747 (pN_n hh747 z746 e750)).trans ((pR_j hh741 (by decide)).trans ((pNR hh736 (pN_n hh736 z735 e739)).trans ((pR_j hh730 (by decide)).trans ((pNR hh725 (pN_n hh725 z724 e728)).trans ((pR_j hh719 (by decide)).trans ((pNR hh714 (pN_n hh714 z713 e717)).trans ((pR_j hh708 (by decide)).trans ((pNR hh703 (pN_n hh703 z702 e706)).trans ((pR_j hh697 (by decide)).trans ((pNR hh692 (pN_n hh692 z691 e695)).trans ((pR_j hh686 (by decide)).trans ((pNR hh681 (pN_n hh681 z680 e684)).trans ((pR_j hh675 (by decide)).trans ((pNR hh670 (pN_n hh670 z669 e673)).trans ((pR_j hh664 (by decide)).trans ((pNR hh659 (pN_n hh659 z658 e662)).trans ((pR_j hh653 (by decide)).trans ((pNR hh648 (pN_n hh648 z647 e651)).trans ((pR_j hh642 (by decide)).trans ((pNR hh637 (pN_n hh637 z636 e640)).trans ((pR_j hh631 (by decide)).trans ((pNR hh626 (pN_n hh626 z625 e629)).trans ((pR_j hh620 (by decide)).trans ((pNR hh615 (pN_n hh615 z614 e618)).trans ((pR_j hh609 (by decide)).trans ((pNR hh604 (pN_n hh604 z603 e607)).trans ((pR_j hh598 (by decide)).trans ((pNR hh593 (pN_n hh593 z592 e596)).trans (pR_e hh587))))))))))))))))))))))))))))))))))))))))))))))))))))))))))))
        have e2869 : Tg h588 n579 = 150100 := ((pRT hh587).trans (pN_T hh582))
        have e2870 : Tg h599 n579 = 150100 := ((pRT hh598).trans ((pNT hh593 (pN_n hh593 z592 e2869)).trans e2869))
        have e2871 : Tg h610 n579 = 150100 := ((pRT hh609).trans ((pNT hh604 (pN_n hh604 z603 e2870)).trans e2870))
        have e2872 : Tg h621 n579 = 150100 := ((pRT hh620).trans ((pNT hh615 (pN_n hh615 z614 e2871)).trans e2871))
        have e2873 : Tg h632 n579 = 150100 := ((pRT hh631).trans ((pNT hh626 (pN_n hh626 z625 e2872)).trans e2872))
        have e2874 : Tg h643 n579 = 150100 := ((pRT hh642).trans ((pNT hh637 (pN_n hh637 z636 e2873)).trans e2873))
        have e2875 : Tg h654 n579 = 150100 := ((pRT hh653).trans ((pNT hh648 (pN_n hh648 z647 e2874)).trans e2874))
        have e2876 : Tg h665 n579 = 150100 := ((pRT hh664).trans ((pNT hh659 (pN_n hh659 z658 e2875)).trans e2875))
        have e2877 : Tg h676 n579 = 150100 := ((pRT hh675).trans ((pNT hh670 (pN_n hh670 z669 e2876)).trans e2876))
        have e2878 : Tg h687 n579 = 150100 := ((pRT hh686).trans ((pNT hh681 (pN_n hh681 z680 e2877)).trans e2877))
        have e2879 : Tg h698 n579 = 150100 := ((pRT hh697).trans ((pNT hh692 (pN_n hh692 z691 e2878)).trans e2878))
        have e2880 : Tg h709 n579 = 150100 := ((pRT hh708).trans ((pNT hh703 (pN_n hh703 z702 e2879)).trans e2879))
        have e2881 : Tg h720 n579 = 150100 := ((pRT hh719).trans ((pNT hh714 (pN_n hh714 z713 e2880)).trans e2880))
        have e2882 : Tg h731 n579 = 150100 := ((pRT hh730).trans ((pNT hh725 (pN_n hh725 z724 e2881)).trans e2881))
        have e2883 : Tg h742 n579 = 150100 := ((pRT hh741).trans ((pNT hh736 (pN_n hh736 z735 e2882)).trans e2882))
        have e2884 : Tg h753 n579 = 150100 := ((pRT hh752).trans ((pNT hh747 (pN_n hh747 z746 e2883)).trans e2883))
        have e2885 : Tg h764 n579 = 150100 := ((pRT hh763).trans ((pNT hh758 (pN_n hh758 z757 e2884)).trans e2884))
        have e2886 : Tg h775 n579 = 150100 := ((pRT hh774).trans ((pNT hh769 (pN_n hh769 z768 e2885)).trans e2885))
        have e2887 : Tg h786 n579 = 150100 := ((pRT hh785).trans ((pNT hh780 (pN_n hh780 z779 e2886)).trans e2886))
        have e2888 : Tg h797 n579 = 150100 := ((pRT hh796).trans ((pNT hh791 (pN_n hh791 z790 e2887)).trans e2887))
        have e2889 : Tg h808 n579 = 150100 := ((pRT hh807).trans ((pNT hh802 (pN_n hh802 z801 e2888)).trans e2888))
        have e2890 : Tg h819 n579 = 150100 := ((pRT hh818).trans ((pNT hh813 (pN_n hh813 z812 e2889)).trans e2889))
        have e2891 : Tg h830 n579 = 150100 := ((pRT hh829).trans ((pNT hh824 (pN_n hh824 z823 e2890)).trans e2890))
        have e2892 : Tg h841 n579 = 150100 := ((pRT hh840).trans ((pNT hh835 (pN_n hh835 z834 e2891)).trans e2891))
        have e2893 : Tg h852 n579 = 150100 := ((pRT hh851).trans ((pNT hh846 (pN_n hh846 z845 e2892)).trans e2892))
        have e2894 : Tg h863 n579 = 150100 := ((pRT hh862).trans ((pNT hh857 (pN_n hh857 z856 e2893)).trans e2893))
        have e2895 : Tg h874 n579 = 150100 := ((pRT hh873).trans ((pNT hh868 (pN_n hh868 z867 e2894)).trans e2894))
        have e2896 : Tg h885 n579 = 150100 := ((pRT hh884).trans ((pNT hh879 (pN_n hh879 z878 e2895)).trans e2895))
        have e2897 : Tg h915 n579 = 150100 := ((pIT hh914).trans ((pIT hh910).trans (fxT F904 ((pRT hh895).trans ((pNT hh890 (pN_n hh890 z889 e2896)).trans e2896)))))
        have e2898 : Rv h915 a0 51 = n590 := ((pIR hh914).trans ((pIR hh910).trans ((fxR F904 e917 rfl).trans ((pR_j hh895 (by decide)).trans ((pNR hh890 (pN_n hh890 z889 e893)).trans ((pR_j hh884 (by decide)).trans ((pNR hh879 (pN_n hh879 z878 e882)).trans ((pR_j hh873 (by decide)).trans ((pNR hh868 (pN_n hh868 z867 e871)).trans ((pR_j hh862 (by decide)).trans ((pNR hh857 (pN_n hh857 z856 e860)).trans ((pR_j hh851 (by decide)).trans ((pNR hh846 (pN_n hh846 z845 e849)).trans ((pR_j hh840 (by decide)).trans ((pNR hh835 (pN_n hh835 z834 e838)).trans ((pR_j hh829 (by decide)).trans ((pNR hh824 (pN_n hh824 z823 e827)).trans ((pR_j hh818 (by decide)).trans ((pNR hh813 (pN_n hh813 z812 e816)).trans ((pR_j hh807 (by decide)).trans ((pNR hh802 (pN_n hh802 z801 e805)).trans ((pR_j hh796 (by decide)).trans ((pNR hh791 (pN_n hh791 z790 e794)).trans ((pR_j hh785 (by decide)).trans ((pNR hh780 (pN_n hh780 z779 e783)).trans ((pR_j hh774 (by decide)).trans ((pNR hh769 (pN_n hh769 z768 e772)).trans ((pR_j hh763 (by decide)).trans ((pNR hh758 (pN_n hh758 z757 e761)).trans ((pR_j hh752 (by decide)).trans ((pNR hh747 (pN_n hh747 z746 e750)).trans ((pR_j hh741 (by decide)).trans ((pNR hh736 (pN_n hh736 z735 e739)).trans ((pR_j hh730 (by decide)).trans ((pNR hh725 (pN_n hh725 z724 e728)).trans ((pR_j hh719 (by decide)).trans ((pNR hh714 (pN_n hh714 z713 e717)).trans ((pR_j hh708 (by decide)).trans ((pNR hh703 (pN_n hh703 z702 e706)).trans ((pR_j hh697 (by decide)).trans ((pNR hh692 (pN_n hh692 z691 e695)).trans ((pR_j hh686 (by decide)).trans ((pNR hh681 (pN_n hh681 z680 e684)).trans ((pR_j hh675 (by decide)).trans ((pNR hh670 (pN_n hh670 z669 e673)).trans ((pR_j hh664 (by decide)).trans ((pNR hh659 (pN_n hh659 z658 e662)).trans ((pR_j hh653 (by decide)).trans ((pNR hh648 (pN_n hh648 z647 e651)).trans ((pR_j hh642 (by decide)).trans ((pNR hh637 (pN_n hh637 z636 e640)).trans ((pR_j hh631 (by decide)).trans ((pNR hh626 (pN_n hh626 z625 e629)).trans ((pR_j hh620 (by decide)).trans ((pNR hh615 (pN_n hh615 z614 e618)).trans ((pR_j hh609 (by decide)).trans ((pNR hh604 (pN_n hh604 z603 e607)).trans (pR_e hh598))))))))))))))))))))))))))))))))))))))))))))))))))))))))))
        have e2899 : Tg h599 n590 = 151100 := ((pRT hh598).trans (pN_T hh593))
        have e2900 : Tg h610 n590 = 151100 := ((pRT hh609).trans ((pNT hh604 (pN_n hh604 z603 e2899)).trans e2899))
        have e2901 : Tg h621 n590 = 151100 := ((pRT hh620).trans ((pNT hh615 (pN_n hh615 z614 e2900)).trans e2900))
        have e2902 : Tg h632 n590 = 151100 := ((pRT hh631).trans ((pNT hh626 (pN_n hh626 z625 e2901)).trans e2901))
        have e2903 : Tg h643 n590 = 151100 := ((pRT hh642).trans ((pNT hh637 (pN_n hh637 z636 e2902)).trans e2902))
        have e2904 : Tg h654 n590 = 151100 := ((pRT hh653).trans ((pNT hh648 (pN_n hh648 z647 e2903)).trans e2903))
        have e2905 : Tg h665 n590 = 151100 := ((pRT hh664).trans ((pNT hh659 (pN_n hh659 z658 e2904)).trans e2904))
        have e2906 : Tg h676 n590 = 151100 := ((pRT hh675).trans ((pNT hh670 (pN_n hh670 z669 e2905)).trans e2905))
        have e2907 : Tg h687 n590 = 151100 := ((pRT hh686).trans ((pNT hh681 (pN_n hh681 z680 e2906)).trans e2906))
        have e2908 : Tg h698 n590 = 151100 := ((pRT hh697).trans ((pNT hh692 (pN_n hh692 z691 e2907)).trans e2907))
        have e2909 : Tg h709 n590 = 151100 := ((pRT hh708).trans ((pNT hh703 (pN_n hh703 z702 e2908)).trans e2908))
        have e2910 : Tg h720 n590 = 151100 := ((pRT hh719).trans ((pNT hh714 (pN_n hh714 z713 e2909)).trans e2909))
        have e2911 : Tg h731 n590 = 151100 := ((pRT hh730).trans ((pNT hh725 (pN_n hh725 z724 e2910)).trans e2910))
        have e2912 : Tg h742 n590 = 151100 := ((pRT hh741).trans ((pNT hh736 (pN_n hh736 z735 e2911)).trans e2911))
        have e2913 : Tg h753 n590 = 151100 := ((pRT hh752).trans ((pNT hh747 (pN_n hh747 z746 e2912)).trans e2912))
        have e2914 : Tg h764 n590 = 151100 := ((pRT hh763).trans ((pNT hh758 (pN_n hh758 z757 e2913)).trans e2913))
        have e2915 : Tg h775 n590 = 151100 := ((pRT hh774).trans ((pNT hh769 (pN_n hh769 z768 e2914)).trans e2914))
        have e2916 : Tg h786 n590 = 151100 := ((pRT hh785).trans ((pNT hh780 (pN_n hh780 z779 e2915)).trans e2915))
        have e2917 : Tg h797 n590 = 151100 := ((pRT hh796).trans ((pNT hh791 (pN_n hh791 z790 e2916)).trans e2916))
        have e2918 : Tg h808 n590 = 151100 := ((pRT hh807).trans ((pNT hh802 (pN_n hh802 z801 e2917)).trans e2917))
        have e2919 : Tg h819 n590 = 151100 := ((pRT hh818).trans ((pNT hh813 (pN_n hh813 z812 e2918)).trans e2918))
        have e2920 : Tg h830 n590 = 151100 := ((pRT hh829).trans ((pNT hh824 (pN_n hh824 z823 e2919)).trans e2919))
        have e2921 : Tg h841 n590 = 151100 := ((pRT hh840).trans ((pNT hh835 (pN_n hh835 z834 e2920)).trans e2920))
        have e2922 : Tg h852 n590 = 151100 := ((pRT hh851).trans ((pNT hh846 (pN_n hh846 z845 e2921)).trans e2921))
        have e2923 : Tg h863 n590 = 151100 := ((pRT hh862).trans ((pNT hh857 (pN_n hh857 z856 e2922)).trans e2922))
        have e2924 : Tg h874 n590 = 151100 := ((pRT hh873).trans ((pNT hh868 (pN_n hh868 z867 e2923)).trans e2923))
        have e2925 : Tg h885 n590 = 151100 := ((pRT hh884).trans ((pNT hh879 (pN_n hh879 z878 e2924)).trans e2924))
        have e2926 : Tg h915 n590 = 151100 := ((pIT hh914).trans ((pIT hh910).trans (fxT F904 ((pRT hh895).trans ((pNT hh890 (pN_n hh890 z889 e2925)).trans e2925)))))
        have e2927 : Rv h915 a0 52 = n601 := ((pIR hh914).trans ((pIR hh910).trans ((fxR F904 e917 rfl).trans ((pR_j hh895 (by decide)).trans ((pNR hh890 (pN_n hh890 z889 e893)).trans ((pR_j hh884 (by decide)).trans ((pNR hh879 (pN_n hh879 z878 e882)).trans ((pR_j hh873 (by decide)).trans ((pNR hh868 (pN_n hh868 z867 e871)).trans ((pR_j hh862 (by decide)).trans ((pNR hh857 (pN_n hh857 z856 e860)).trans ((pR_j hh851 (by decide)).trans ((pNR hh846 (pN_n hh846 z845 e849)).trans ((pR_j hh840 (by decide)).trans ((pNR hh835 (pN_n hh835 z834 e838)).trans ((pR_j hh829 (by decide)).trans ((pNR hh824 (pN_n hh824 z823 e827)).trans ((pR_j hh818 (by decide)).trans ((pNR hh813 (pN_n hh813 z812 e816)).trans ((pR_j hh807 (by decide)).trans ((pNR hh802 (pN_n hh802 z801 e805)).trans ((pR_j hh796 (by decide)).trans ((pNR hh791 (pN_n hh791 z790 e794)).trans ((pR_j hh785 (by decide)).trans ((pNR hh780 (pN_n hh780 z779 e783)).trans ((pR_j hh774 (by decide)).trans ((pNR hh769 (pN_n hh769 z768 e772)).trans ((pR_j hh763 (by decide)).trans ((pNR hh758 (pN_n hh758 z757 e761)).trans ((pR_j hh752 (by decide)).trans ((pNR hh747 (pN_n hh747 z746 e750)).trans ((pR_j hh741 (by decide)).trans ((pNR hh736 (pN_n hh736 z735 e739)).trans ((pR_j hh730 (by decide)).trans ((pNR hh725 (pN_n hh725 z724 e728)).trans ((pR_j hh719 (by decide)).trans ((pNR hh714 (pN_n hh714 z713 e717)).trans ((pR_j hh708 (by decide)).trans ((pNR hh703 (pN_n hh703 z702 e706)).trans ((pR_j hh697 (by decide)).trans ((pNR hh692 (pN_n hh692 z691 e695)).trans ((pR_j hh686 (by decide)).trans ((pNR hh681 (pN_n hh681 z680 e684)).trans ((pR_j hh675 (by decide)).trans ((pNR hh670 (pN_n hh670 z669 e673)).trans ((pR_j hh664 (by decide)).trans ((pNR hh659 (pN_n hh659 z658 e662)).trans ((pR_j hh653 (by decide)).trans ((pNR hh648 (pN_n hh648 z647 e651)).trans ((pR_j hh642 (by decide)).trans ((pNR hh637 (pN_n hh637 z636 e640)).trans ((pR_j hh631 (by decide)).trans ((pNR hh626 (pN_n hh626 z625 e629)).trans ((pR_j hh620 (by decide)).trans ((pNR hh615 (pN_n hh615 z614 e618)).trans (pR_e hh609))))))))))))))))))))))))))))))))))))))))))))))))))))))))
        have e2928 : Tg h610 n601 = 152101 := ((pRT hh609).trans (pN_T hh604))
        have e2929 : Tg h621 n601 = 152101 := ((pRT hh620).trans ((pNT hh615 (pN_n hh615 z614 e2928)).trans e2928))
        have e2930 : Tg h632 n601 = 152101 := ((pRT hh631).trans ((pNT hh626 (pN_n hh626 z625 e2929)).trans e2929))
        have e2931 : Tg h643 n601 = 152101 := ((pRT hh642).trans ((pNT hh637 (pN_n hh637 z636 e2930)).trans e2930))
        have e2932 : Tg h654 n601 = 152101 := ((pRT hh653).trans ((pNT hh648 (pN_n hh648 z647 e2931)).trans e2931))
        have e2933 : Tg h665 n601 = 152101 := ((pRT hh664).trans ((pNT hh659 (pN_n hh659 z658 e2932)).trans e2932))
        have e2934 : Tg h676 n601 = 152101 := ((pRT hh675).trans ((pNT hh670 (pN_n hh670 z669 e2933)).trans e2933))
        have e2935 : Tg h687 n601 = 152101 := ((pRT hh686).trans ((pNT hh681 (pN_n hh681 z680 e2934)).trans e2934))
        have e2936 : Tg h698 n601 = 152101 := ((pRT hh697).trans ((pNT hh692 (pN_n hh692 z691 e2935)).trans e2935))
        have e2937 : Tg h709 n601 = 152101 := ((pRT hh708).trans ((pNT hh703 (pN_n hh703 z702 e2936)).trans e2936))
        have e2938 : Tg h720 n601 = 152101 := ((pRT hh719).trans ((pNT hh714 (pN_n hh714 z713 e2937)).trans e2937))
        have e2939 : Tg h731 n601 = 152101 := ((pRT hh730).trans ((pNT hh725 (pN_n hh725 z724 e2938)).trans e2938))
        have e2940 : Tg h742 n601 = 152101 := ((pRT hh741).trans ((pNT hh736 (pN_n hh736 z735 e2939)).trans e2939))
        have e2941 : Tg h753 n601 = 152101 := ((pRT hh752).trans ((pNT hh747 (pN_n hh747 z746 e2940)).trans e2940))
        have e2942 : Tg h764 n601 = 152101 := ((pRT hh763).trans ((pNT hh758 (pN_n hh758 z757 e2941)).trans e2941))
        have e2943 : Tg h775 n601 = 152101 := ((pRT hh774).trans ((pNT hh769 (pN_n hh769 z768 e2942)).trans e2942))
        have e2944 : Tg h786 n601 = 152101 := ((pRT hh785).trans ((pNT hh780 (pN_n hh780 z779 e2943)).trans e2943))
        have e2945 : Tg h797 n601 = 152101 := ((pRT hh796).trans ((pNT hh791 (pN_n hh791 z790 e2944)).trans e2944))
        have e2946 : Tg h808 n601 = 152101 := ((pRT hh807).trans ((pNT hh802 (pN_n hh802 z801 e2945)).trans e2945))
        have e2947 : Tg h819 n601 = 152101 := ((pRT hh818).trans ((pNT hh813 (pN_n hh813 z812 e2946)).trans e2946))
        have e2948 : Tg h830 n601 = 152101 := ((pRT hh829).trans ((pNT hh824 (pN_n hh824 z823 e2947)).trans e2947))
        have e2949 : Tg h841 n601 = 152101 := ((pRT hh840).trans ((pNT hh835 (pN_n hh835 z834 e2948)).trans e2948))
        have e2950 : Tg h852 n601 = 152101 := ((pRT hh851).trans ((pNT hh846 (pN_n hh846 z845 e2949)).trans e2949))
        have e2951 : Tg h863 n601 = 152101 := ((pRT hh862).trans ((pNT hh857 (pN_n hh857 z856 e2950)).trans e2950))
        have e2952 : Tg h874 n601 = 152101 := ((pRT hh873).trans ((pNT hh868 (pN_n hh868 z867 e2951)).trans e2951))
        have e2953 : Tg h885 n601 = 152101 := ((pRT hh884).trans ((pNT hh879 (pN_n hh879 z878 e2952)).trans e2952))
        have e2954 : Tg h915 n601 = 152101 := ((pIT hh914).trans ((pIT hh910).trans (fxT F904 ((pRT hh895).trans ((pNT hh890 (pN_n hh890 z889 e2953)).trans e2953)))))
        have e2955 : Rv h915 a0 53 = n612 := ((pIR hh914).trans ((pIR hh910).trans ((fxR F904 e917 rfl).trans ((pR_j hh895 (by decide)).trans ((pNR hh890 (pN_n hh890 z889 e893)).trans ((pR_j hh884 (by decide)).trans ((pNR hh879 (pN_n hh879 z878 e882)).trans ((pR_j hh873 (by decide)).trans ((pNR hh868 (pN_n hh868 z867 e871)).trans ((pR_j hh862 (by decide)).trans ((pNR hh857 (pN_n hh857 z856 e860)).trans ((pR_j hh851 (by decide)).trans ((pNR hh846 (pN_n hh846 z845 e849)).trans ((pR_j hh840 (by decide)).trans ((pNR hh835 (pN_n hh835 z834 e838)).trans ((pR_j hh829 (by decide)).trans ((pNR hh824 (pN_n hh824 z823 e827)).trans ((pR_j hh818 (by decide)).trans ((pNR hh813 (pN_n hh813 z812 e816)).trans ((pR_j hh807 (by decide)).trans ((pNR hh802 (pN_n hh802 z801 e805)).trans ((pR_j hh796 (by decide)).trans ((pNR hh791 (pN_n hh791 z790 e794)).trans ((pR_j hh785 (by decide)).trans ((pNR hh780 (pN_n hh780 z779 e783)).trans ((pR_j hh774 (by decide)).trans ((pNR hh769 (pN_n hh769 z768 e772)).trans ((pR_j hh763 (by decide)).trans ((pNR hh758 (pN_n hh758 z757 e761)).trans ((pR_j hh752 (by decide)).trans ((pNR hh747 (pN_n hh747 z746 e750)).trans ((pR_j hh741 (by decide)).trans ((pNR hh736 (pN_n hh736 z735 e739)).trans ((pR_j hh730 (by decide)).trans ((pNR hh725 (pN_n hh725 z724 e728)).trans ((pR_j hh719 (by decide)).trans ((pNR hh714 (pN_n hh714 z713 e717)).trans ((pR_j hh708 (by decide)).trans ((pNR hh703 (pN_n hh703 z702 e706)).trans ((pR_j hh697 (by decide)).trans ((pNR hh692 (pN_n hh692 z691 e695)).trans ((pR_j hh686 (by decide)).trans ((pNR hh681 (pN_n hh681 z680 e684)).trans ((pR_j hh675 (by decide)).trans ((pNR hh670 (pN_n hh670 z669 e673)).trans ((pR_j hh664 (by decide)).trans ((pNR hh659 (pN_n hh659 z658 e662)).trans ((pR_j hh653 (by decide)).trans ((pNR hh648 (pN_n hh648 z647 e651)).trans ((pR_j hh642 (by decide)).trans ((pNR hh637 (pN_n hh637 z636 e640)).trans ((pR_j hh631 (by decide)).trans ((pNR hh626 (pN_n hh626 z625 e629)).trans (pR_e hh620))))))))))))))))))))))))))))))))))))))))))))))))))))))
        have e2956 : Tg h621 n612 = 153101 := ((pRT hh620).trans (pN_T hh615))
        have e2957 : Tg h632 n612 = 153101 := ((pRT hh631).trans ((pNT hh626 (pN_n hh626 z625 e2956)).trans e2956))
        have e2958 : Tg h643 n612 = 153101 := ((pRT hh642).trans ((pNT hh637 (pN_n hh637 z636 e2957)).trans e2957))
        have e2959 : Tg h654 n612 = 153101 := ((pRT hh653).trans ((pNT hh648 (pN_n hh648 z647 e2958)).trans e2958))
        have e2960 : Tg h665 n612 = 153101 := ((pRT hh664).trans ((pNT hh659 (pN_n hh659 z658 e2959)).trans e2959))
        have e2961 : Tg h676 n612 = 153101 := ((pRT hh675).trans ((pNT hh670 (pN_n hh670 z669 e2960)).trans e2960))
        have e2962 : Tg h687 n612 = 153101 := ((pRT hh686).trans ((pNT hh681 (pN_n hh681 z680 e2961)).trans e2961))
        have e2963 : Tg h698 n612 = 153101 := ((pRT hh697).trans ((pNT hh692 (pN_n hh692 z691 e2962)).trans e2962))
        have e2964 : Tg h709 n612 = 153101 := ((pRT hh708).trans ((pNT hh703 (pN_n hh703 z702 e2963)).trans e2963))
        have e2965 : Tg h720 n612 = 153101 := ((pRT hh719).trans ((pNT hh714 (pN_n hh714 z713 e2964)).trans e2964))
        have e2966 : Tg h731 n612 = 153101 := ((pRT hh730).trans ((pNT hh725 (pN_n hh725 z724 e2965)).trans e2965))
        have e2967 : Tg h742 n612 = 153101 := ((pRT hh741).trans ((pNT hh736 (pN_n hh736 z735 e2966)).trans e2966))
        have e2968 : Tg h753 n612 = 153101 := ((pRT hh752).trans ((pNT hh747 (pN_n hh747 z746 e2967)).trans e2967))
        have e2969 : Tg h764 n612 = 153101 := ((pRT hh763).trans ((pNT hh758 (pN_n hh758 z757 e2968)).trans e2968))
        have e2970 : Tg h775 n612 = 153101 := ((pRT hh774).trans ((pNT hh769 (pN_n hh769 z768 e2969)).trans e2969))
        have e2971 : Tg h786 n612 = 153101 := ((pRT hh785).trans ((pNT hh780 (pN_n hh780 z779 e2970)).trans e2970))
        have e2972 : Tg h797 n612 = 153101 := ((pRT hh796).trans ((pNT hh791 (pN_n hh791 z790 e2971)).trans e2971))
        have e2973 : Tg h808 n612 = 153101 := ((pRT hh807).trans ((pNT hh802 (pN_n hh802 z801 e2972)).trans e2972))
        have e2974 : Tg h819 n612 = 153101 := ((pRT hh818).trans ((pNT hh813 (pN_n hh813 z812 e2973)).trans e2973))
        have e2975 : Tg h830 n612 = 153101 := ((pRT hh829).trans ((pNT hh824 (pN_n hh824 z823 e2974)).trans e2974))
        have e2976 : Tg h841 n612 = 153101 := ((pRT hh840).trans ((pNT hh835 (pN_n hh835 z834 e2975)).trans e2975))
        have e2977 : Tg h852 n612 = 153101 := ((pRT hh851).trans ((pNT hh846 (pN_n hh846 z845 e2976)).trans e2976))
        have e2978 : Tg h863 n612 = 153101 := ((pRT hh862).trans ((pNT hh857 (pN_n hh857 z856 e2977)).trans e2977))
        have e2979 : Tg h874 n612 = 153101 := ((pRT hh873).trans ((pNT hh868 (pN_n hh868 z867 e2978)).trans e2978))
        have e2980 : Tg h885 n612 = 153101 := ((pRT hh884).trans ((pNT hh879 (pN_n hh879 z878 e2979)).trans e2979))
        have e2981 : Tg h915 n612 = 153101 := ((pIT hh914).trans ((pIT hh910).trans (fxT F904 ((pRT hh895).trans ((pNT hh890 (pN_n hh890 z889 e2980)).trans e2980)))))
        have e2982 : Rv h915 a0 54 = n623 := ((pIR hh914).trans ((pIR hh910).trans ((fxR F904 e917 rfl).trans ((pR_j hh895 (by decide)).trans ((pNR hh890 (pN_n hh890 z889 e893)).trans ((pR_j hh884 (by decide)).trans ((pNR hh879 (pN_n hh879 z878 e882)).trans ((pR_j hh873 (by decide)).trans ((pNR hh868 (pN_n hh868 z867 e871)).trans ((pR_j hh862 (by decide)).trans ((pNR hh857 (pN_n hh857 z856 e860)).trans ((pR_j hh851 (by decide)).trans ((pNR hh846 (pN_n hh846 z845 e849)).trans ((pR_j hh840 (by decide)).trans ((pNR hh835 (pN_n hh835 z834 e838)).trans ((pR_j hh829 (by decide)).trans ((pNR hh824 (pN_n hh824 z823 e827)).trans ((pR_j hh818 (by decide)).trans ((pNR hh813 (pN_n hh813 z812 e816)).trans ((pR_j hh807 (by decide)).trans ((pNR hh802 (pN_n hh802 z801 e805)).trans ((pR_j hh796 (by decide)).trans ((pNR hh791 (pN_n hh791 z790 e794)).trans ((pR_j hh785 (by decide)).trans ((pNR hh780 (pN_n hh780 z779 e783)).trans ((pR_j hh774 (by decide)).trans ((pNR hh769 (pN_n hh769 z768 e772)).trans ((pR_j hh763 (by decide)).trans ((pNR hh758 (pN_n hh758 z757 e761)).trans ((pR_j hh752 (by decide)).trans ((pNR hh747 (pN_n hh747 z746 e750)).trans ((pR_j hh741 (by decide)).trans ((pNR hh736 (pN_n hh736 z735 e739)).trans ((pR_j hh730 (by decide)).trans ((pNR hh725 (pN_n hh725 z724 e728)).trans ((pR_j hh719 (by decide)).trans ((pNR hh714 (pN_n hh714 z713 e717)).trans ((pR_j hh708 (by decide)).trans ((pNR hh703 (pN_n hh703 z702 e706)).trans ((pR_j hh697 (by decide)).trans ((pNR hh692 (pN_n hh692 z691 e695)).trans ((pR_j hh686 (by decide)).trans ((pNR hh681 (pN_n hh681 z680 e684)).trans ((pR_j hh675 (by decide)).trans ((pNR hh670 (pN_n hh670 z669 e673)).trans ((pR_j hh664 (by decide)).trans ((pNR hh659 (pN_n hh659 z658 e662)).trans ((pR_j hh653 (by decide)).trans ((pNR hh648 (pN_n hh648 z647 e651)).trans ((pR_j hh642 (by decide)).trans ((pNR hh637 (pN_n hh637 z636 e640)).trans (pR_e hh631))))))))))))))))))))))))))))))))))))))))))))))))))))
        have e2983 : Tg h632 n623 = 154100 := ((pRT hh631).trans (pN_T hh626))
        have e2984 : Tg h643 n623 = 154100 := ((pRT hh642).trans ((pNT hh637 (pN_n hh637 z636 e2983)).trans e2983))
        have e2985 : Tg h654 n623 = 154100 := ((pRT hh653).trans ((pNT hh648 (pN_n hh648 z647 e2984)).trans e2984))
        have e2986 : Tg h665 n623 = 154100 := ((pRT hh664).trans ((pNT hh659 (pN_n hh659 z658 e2985)).trans e2985))
        have e2987 : Tg h676 n623 = 154100 := ((pRT hh675).trans ((pNT hh670 (pN_n hh670 z669 e2986)).trans e2986))
        have e2988 : Tg h687 n623 = 154100 := ((pRT hh686).trans ((pNT hh681 (pN_n hh681 z680 e2987)).trans e2987))
        have e2989 : Tg h698 n623 = 154100 := ((pRT hh697).trans ((pNT hh692 (pN_n hh692 z691 e2988)).trans e2988))
        have e2990 : Tg h709 n623 = 154100 := ((pRT hh708).trans ((pNT hh703 (pN_n hh703 z702 e2989)).trans e2989))
        have e2991 : Tg h720 n623 = 154100 := ((pRT hh719).trans ((pNT hh714 (pN_n hh714 z713 e2990)).trans e2990))
        have e2992 : Tg h731 n623 = 154100 := ((pRT hh730).trans ((pNT hh725 (pN_n hh725 z724 e2991)).trans e2991))
        have e2993 : Tg h742 n623 = 154100 := ((pRT hh741).trans ((pNT hh736 (pN_n hh736 z735 e2992)).trans e2992))
        have e2994 : Tg h753 n623 = 154100 := ((pRT hh752).trans ((pNT hh747 (pN_n hh747 z746 e2993)).trans e2993))
        have e2995 : Tg h764 n623 = 154100 := ((pRT hh763).trans ((pNT hh758 (pN_n hh758 z757 e2994)).trans e2994))
        have e2996 : Tg h775 n623 = 154100 := ((pRT hh774).trans ((pNT hh769 (pN_n hh769 z768 e2995)).trans e2995))
        have e2997 : Tg h786 n623 = 154100 := ((pRT hh785).trans ((pNT hh780 (pN_n hh780 z779 e2996)).trans e2996))
        have e2998 : Tg h797 n623 = 154100 := ((pRT hh796).trans ((pNT hh791 (pN_n hh791 z790 e2997)).trans e2997))
        have e2999 : Tg h808 n623 = 154100 := ((pRT hh807).trans ((pNT hh802 (pN_n hh802 z801 e2998)).trans e2998))
        have e3000 : Tg h819 n623 = 154100 := ((pRT hh818).trans ((pNT hh813 (pN_n hh813 z812 e2999)).trans e2999))
        have e3001 : Tg h830 n623 = 154100 := ((pRT hh829).trans ((pNT hh824 (pN_n hh824 z823 e3000)).trans e3000))
        have e3002 : Tg h841 n623 = 154100 := ((pRT hh840).trans ((pNT hh835 (pN_n hh835 z834 e3001)).trans e3001))
        have e3003 : Tg h852 n623 = 154100 := ((pRT hh851).trans ((pNT hh846 (pN_n hh846 z845 e3002)).trans e3002))
        have e3004 : Tg h863 n623 = 154100 := ((pRT hh862).trans ((pNT hh857 (pN_n hh857 z856 e3003)).trans e3003))
        have e3005 : Tg h874 n623 = 154100 := ((pRT hh873).trans ((pNT hh868 (pN_n hh868 z867 e3004)).trans e3004))
        have e3006 : Tg h885 n623 = 154100 := ((pRT hh884).trans ((pNT hh879 (pN_n hh879 z878 e3005)).trans e3005))
        have e3007 : Tg h915 n623 = 154100 := ((pIT hh914).trans ((pIT hh910).trans (fxT F904 ((pRT hh895).trans ((pNT hh890 (pN_n hh890 z889 e3006)).trans e3006)))))
        have e3008 : Rv h915 a0 55 = n634 := ((pIR hh914).trans ((pIR hh910).trans ((fxR F904 e917 rfl).trans ((pR_j hh895 (by decide)).trans ((pNR hh890 (pN_n hh890 z889 e893)).trans ((pR_j hh884 (by decide)).trans ((pNR hh879 (pN_n hh879 z878 e882)).trans ((pR_j hh873 (by decide)).trans ((pNR hh868 (pN_n hh868 z867 e871)).trans ((pR_j hh862 (by decide)).trans ((pNR hh857 (pN_n hh857 z856 e860)).trans ((pR_j hh851 (by decide)).trans ((pNR hh846 (pN_n hh846 z845 e849)).trans ((pR_j hh840 (by decide)).trans ((pNR hh835 (pN_n hh835 z834 e838)).trans ((pR_j hh829 (by decide)).trans ((pNR hh824 (pN_n hh824 z823 e827)).trans ((pR_j hh818 (by decide)).trans ((pNR hh813 (pN_n hh813 z812 e816)).trans ((pR_j hh807 (by decide)).trans ((pNR hh802 (pN_n hh802 z801 e805)).trans ((pR_j hh796 (by decide)).trans ((pNR hh791 (pN_n hh791 z790 e794)).trans ((pR_j hh785 (by decide)).trans ((pNR hh780 (pN_n hh780 z779 e783)).trans ((pR_j hh774 (by decide)).trans ((pNR hh769 (pN_n hh769 z768 e772)).trans ((pR_j hh763 (by decide)).trans ((pNR hh758 (pN_n hh758 z757 e761)).trans ((pR_j hh752 (by decide)).trans ((pNR hh747 (pN_n hh747 z746 e750)).trans ((pR_j hh741 (by decide)).trans ((pNR hh736 (pN_n hh736 z735 e739)).trans ((pR_j hh730 (by decide)).trans ((pNR hh725 (pN_n hh725 z724 e728)).trans ((pR_j hh719 (by decide)).trans ((pNR hh714 (pN_n hh714 z713 e717)).trans ((pR_j hh708 (by decide)).trans ((pNR hh703 (pN_n hh703 z702 e706)).trans ((pR_j hh697 (by decide)).trans ((pNR hh692 (pN_n hh692 z691 e695)).trans ((pR_j hh686 (by decide)).trans ((pNR hh681 (pN_n hh681 z680 e684)).trans ((pR_j hh675 (by decide)).trans ((pNR hh670 (pN_n hh670 z669 e673)).trans ((pR_j hh664 (by decide)).trans ((pNR hh659 (pN_n hh659 z658 e662)).trans ((pR_j hh653 (by decide)).trans ((pNR hh648 (pN_n hh648 z647 e651)).trans (pR_e hh642))))))))))))))))))))))))))))))))))))))))))))))))))
        have e3009 : Tg h643 n634 = 155100 := ((pRT hh642).trans (pN_T hh637))
        have e3010 : Tg h654 n634 = 155100 := ((pRT hh653).trans ((pNT hh648 (pN_n hh648 z647 e3009)).trans e3009))
        have e3011 : Tg h665 n634 = 155100 := ((pRT hh664).trans ((pNT hh659 (pN_n hh659 z658 e3010)).trans e3010))
        have e3012 : Tg h676 n634 = 155100 := ((pRT hh675).trans ((pNT hh670 (pN_n hh670 z669 e3011)).trans e3011))
        have e3013 : Tg h687 n634 = 155100 := ((pRT hh686).trans ((pNT hh681 (pN_n hh681 z680 e3012)).trans e3012))
        have e3014 : Tg h698 n634 = 155100 := ((pRT hh697).trans ((pNT hh692 (pN_n hh692 z691 e3013)).trans e3013))
        have e3015 : Tg h709 n634 = 155100 := ((pRT hh708).trans ((pNT hh703 (pN_n hh703 z702 e3014)).trans e3014))
        have e3016 : Tg h720 n634 = 155100 := ((pRT hh719).trans ((pNT hh714 (pN_n hh714 z713 e3015)).trans e3015))
        have e3017 : Tg h731 n634 = 155100 := ((pRT hh730).trans ((pNT hh725 (pN_n hh725 z724 e3016)).trans e3016))
        have e3018 : Tg h742 n634 = 155100 := ((pRT hh741).trans ((pNT hh736 (pN_n hh736 z735 e3017)).trans e3017))
        have e3019 : Tg h753 n634 = 155100 := ((pRT hh752).trans ((pNT hh747 (pN_n hh747 z746 e3018)).trans e3018))
        have e3020 : Tg h764 n634 = 155100 := ((pRT hh763).trans ((pNT hh758 (pN_n hh758 z757 e3019)).trans e3019))
        have e3021 : Tg h775 n634 = 155100 := ((pRT hh774).trans ((pNT hh769 (pN_n hh769 z768 e3020)).trans e3020))
        have e3022 : Tg h786 n634 = 155100 := ((pRT hh785).trans ((pNT hh780 (pN_n hh780 z779 e3021)).trans e3021))
        have e3023 : Tg h797 n634 = 155100 := ((pRT hh796).trans ((pNT hh791 (pN_n hh791 z790 e3022)).trans e3022))
        have e3024 : Tg h808 n634 = 155100 := ((pRT hh807).trans ((pNT hh802 (pN_n hh802 z801 e3023)).trans e3023))
        have e3025 : Tg h819 n634 = 155100 := ((pRT hh818).trans ((pNT hh813 (pN_n hh813 z812 e3024)).trans e3024))
        have e3026 : Tg h830 n634 = 155100 := ((pRT hh829).trans ((pNT hh824 (pN_n hh824 z823 e3025)).trans e3025))
        have e3027 : Tg h841 n634 = 155100 := ((pRT hh840).trans ((pNT hh835 (pN_n hh835 z834 e3026)).trans e3026))
        have e3028 : Tg h852 n634 = 155100 := ((pRT hh851).trans ((pNT hh846 (pN_n hh846 z845 e3027)).trans e3027))
        have e3029 : Tg h863 n634 = 155100 := ((pRT hh862).trans ((pNT hh857 (pN_n hh857 z856 e3028)).trans e3028))
        have e3030 : Tg h874 n634 = 155100 := ((pRT hh873).trans ((pNT hh868 (pN_n hh868 z867 e3029)).trans e3029))
        have e3031 : Tg h885 n634 = 155100 := ((pRT hh884).trans ((pNT hh879 (pN_n hh879 z878 e3030)).trans e3030))
        have e3032 : Tg h915 n634 = 155100 := ((pIT hh914).trans ((pIT hh910).trans (fxT F904 ((pRT hh895).trans ((pNT hh890 (pN_n hh890 z889 e3031)).trans e3031)))))
        have e3033 : Rv h915 a0 56 = n645 := ((pIR hh914).trans ((pIR hh910).trans ((fxR F904 e917 rfl).trans ((pR_j hh895 (by decide)).trans ((pNR hh890 (pN_n hh890 z889 e893)).trans ((pR_j hh884 (by decide)).trans ((pNR hh879 (pN_n hh879 z878 e882)).trans ((pR_j hh873 (by decide)).trans ((pNR hh868 (pN_n hh868 z867 e871)).trans ((pR_j hh862 (by decide)).trans ((pNR hh857 (pN_n hh857 z856 e860)).trans ((pR_j hh851 (by decide)).trans ((pNR hh846 (pN_n hh846 z845 e849)).trans ((pR_j hh840 (by decide)).trans ((pNR hh835 (pN_n hh835 z834 e838)).trans ((pR_j hh829 (by decide)).trans ((pNR hh824 (pN_n hh824 z823 e827)).trans ((pR_j hh818 (by decide)).trans ((pNR hh813 (pN_n hh813 z812 e816)).trans ((pR_j hh807 (by decide)).trans ((pNR hh802 (pN_n hh802 z801 e805)).trans ((pR_j hh796 (by decide)).trans ((pNR hh791 (pN_n hh791 z790 e794)).trans ((pR_j hh785 (by decide)).trans ((pNR hh780 (pN_n hh780 z779 e783)).trans ((pR_j hh774 (by decide)).trans ((pNR hh769 (pN_n hh769 z768 e772)).trans ((pR_j hh763 (by decide)).trans ((pNR hh758 (pN_n hh758 z757 e761)).trans ((pR_j hh752 (by decide)).trans ((pNR hh747 (pN_n hh747 z746 e750)).trans ((pR_j hh741 (by decide)).trans ((pNR hh736 (pN_n hh736 z735 e739)).trans ((pR_j hh730 (by decide)).trans ((pNR hh725 (pN_n hh725 z724 e728)).trans ((pR_j hh719 (by decide)).trans ((pNR hh714 (pN_n hh714 z713 e717)).trans ((pR_j hh708 (by decide)).trans ((pNR hh703 (pN_n hh703 z702 e706)).trans ((pR_j hh697 (by decide)).trans ((pNR hh692 (pN_n hh692 z691 e695)).trans ((pR_j hh686 (by decide)).trans ((pNR hh681 (pN_n hh681 z680 e684)).trans ((pR_j hh675 (by decide)).trans ((pNR hh670 (pN_n hh670 z669 e673)).trans ((pR_j hh664 (by decide)).trans ((pNR hh659 (pN_n hh659 z658 e662)).trans (pR_e hh653))))))))))))))))))))))))))))))))))))))))))))))))
        have e3034 : Tg h654 n645 = 156100 := ((pRT hh653).trans (pN_T hh648))
        have e3035 : Tg h665 n645 = 156100 := ((pRT hh664).trans ((pNT hh659 (pN_n hh659 z658 e3034)).trans e3034))
        have e3036 : Tg h676 n645 = 156100 := ((pRT hh675).trans ((pNT hh670 (pN_n hh670 z669 e3035)).trans e3035))
        have e3037 : Tg h687 n645 = 156100 := ((pRT hh686).trans ((pNT hh681 (pN_n hh681 z680 e3036)).trans e3036))
        have e3038 : Tg h698 n645 = 156100 := ((pRT hh697).trans ((pNT hh692 (pN_n hh692 z691 e3037)).trans e3037))
        have e3039 : Tg h709 n645 = 156100 := ((pRT hh708).trans ((pNT hh703 (pN_n hh703 z702 e3038)).trans e3038))
        have e3040 : Tg h720 n645 = 156100 := ((pRT hh719).trans ((pNT hh714 (pN_n hh714 z713 e3039)).trans e3039))
        have e3041 : Tg h731 n645 = 156100 := ((pRT hh730).trans ((pNT hh725 (pN_n hh725 z724 e3040)).trans e3040))
        have e3042 : Tg h742 n645 = 156100 := ((pRT hh741).trans ((pNT hh736 (pN_n hh736 z735 e3041)).trans e3041))
        have e3043 : Tg h753 n645 = 156100 := ((pRT hh752).trans ((pNT hh747 (pN_n hh747 z746 e3042)).trans e3042))
        have e3044 : Tg h764 n645 = 156100 := ((pRT hh763).trans ((pNT hh758 (pN_n hh758 z757 e3043)).trans e3043))
        have e3045 : Tg h775 n645 = 156100 := ((pRT hh774).trans ((pNT hh769 (pN_n hh769 z768 e3044)).trans e3044))
        have e3046 : Tg h786 n645 = 156100 := ((pRT hh785).trans ((pNT hh780 (pN_n hh780 z779 e3045)).trans e3045))
        have e3047 : Tg h797 n645 = 156100 := ((pRT hh796).trans ((pNT hh791 (pN_n hh791 z790 e3046)).trans e3046))
        have e3048 : Tg h808 n645 = 156100 := ((pRT hh807).trans ((pNT hh802 (pN_n hh802 z801 e3047)).trans e3047))
        have e3049 : Tg h819 n645 = 156100 := ((pRT hh818).trans ((pNT hh813 (pN_n hh813 z812 e3048)).trans e3048))
        have e3050 : Tg h830 n645 = 156100 := ((pRT hh829).trans ((pNT hh824 (pN_n hh824 z823 e3049)).trans e3049))
        have e3051 : Tg h841 n645 = 156100 := ((pRT hh840).trans ((pNT hh835 (pN_n hh835 z834 e3050)).trans e3050))
        have e3052 : Tg h852 n645 = 156100 := ((pRT hh851).trans ((pNT hh846 (pN_n hh846 z845 e3051)).trans e3051))
        have e3053 : Tg h863 n645 = 156100 := ((pRT hh862).trans ((pNT hh857 (pN_n hh857 z856 e3052)).trans e3052))
        have e3054 : Tg h874 n645 = 156100 := ((pRT hh873).trans ((pNT hh868 (pN_n hh868 z867 e3053)).trans e3053))
        have e3055 : Tg h885 n645 = 156100 := ((pRT hh884).trans ((pNT hh879 (pN_n hh879 z878 e3054)).trans e3054))
        have e3056 : Tg h915 n645 = 156100 := ((pIT hh914).trans ((pIT hh910).trans (fxT F904 ((pRT hh895).trans ((pNT hh890 (pN_n hh890 z889 e3055)).trans e3055)))))
        have e3057 : Rv h915 a0 58 = n656 := ((pIR hh914).trans ((pIR hh910).trans ((fxR F904 e917 rfl).trans ((pR_j hh895 (by decide)).trans ((pNR hh890 (pN_n hh890 z889 e893)).trans ((pR_j hh884 (by decide)).trans ((pNR hh879 (pN_n hh879 z878 e882)).trans ((pR_j hh873 (by decide)).trans ((pNR hh868 (pN_n hh868 z867 e871)).trans ((pR_j hh862 (by decide)).trans ((pNR hh857 (pN_n hh857 z856 e860)).trans ((pR_j hh851 (by decide)).trans ((pNR hh846 (pN_n hh846 z845 e849)).trans ((pR_j hh840 (by decide)).trans ((pNR hh835 (pN_n hh835 z834 e838)).trans ((pR_j hh829 (by decide)).trans ((pNR hh824 (pN_n hh824 z823 e827)).trans ((pR_j hh818 (by decide)).trans ((pNR hh813 (pN_n hh813 z812 e816)).trans ((pR_j hh807 (by decide)).trans ((pNR hh802 (pN_n hh802 z801 e805)).trans ((pR_j hh796 (by decide)).trans ((pNR hh791 (pN_n hh791 z790 e794)).trans ((pR_j hh785 (by decide)).trans ((pNR hh780 (pN_n hh780 z779 e783)).trans ((pR_j hh774 (by decide)).trans ((pNR hh769 (pN_n hh769 z768 e772)).trans ((pR_j hh763 (by decide)).trans ((pNR hh758 (pN_n hh758 z757 e761)).trans ((pR_j hh752 (by decide)).trans ((pNR hh747 (pN_n hh747 z746 e750)).trans ((pR_j hh741 (by decide)).trans ((pNR hh736 (pN_n hh736 z735 e739)).trans ((pR_j hh730 (by decide)).trans ((pNR hh725 (pN_n hh725 z724 e728)).trans ((pR_j hh719 (by decide)).trans ((pNR hh714 (pN_n hh714 z713 e717)).trans ((pR_j hh708 (by decide)).trans ((pNR hh703 (pN_n hh703 z702 e706)).trans ((pR_j hh697 (by decide)).trans ((pNR hh692 (pN_n hh692 z691 e695)).trans ((pR_j hh686 (by decide)).trans ((pNR hh681 (pN_n hh681 z680 e684)).trans ((pR_j hh675 (by decide)).trans ((pNR hh670 (pN_n hh670 z669 e673)).trans (pR_e hh664))))))))))))))))))))))))))))))))))))))))))))))
        have e3058 : Tg h665 n656 = 158101 := ((pRT hh664).trans (pN_T hh659))
        have e3059 : Tg h676 n656 = 158101 := ((pRT hh675).trans ((pNT hh670 (pN_n hh670 z669 e3058)).trans e3058))
        have e3060 : Tg h687 n656 = 158101 := ((pRT hh686).trans ((pNT hh681 (pN_n hh681 z680 e3059)).trans e3059))
        have e3061 : Tg h698 n656 = 158101 := ((pRT hh697).trans ((pNT hh692 (pN_n hh692 z691 e3060)).trans e3060))
        have e3062 : Tg h709 n656 = 158101 := ((pRT hh708).trans ((pNT hh703 (pN_n hh703 z702 e3061)).trans e3061))
        have e3063 : Tg h720 n656 = 158101 := ((pRT hh719).trans ((pNT hh714 (pN_n hh714 z713 e3062)).trans e3062))
        have e3064 : Tg h731 n656 = 158101 := ((pRT hh730).trans ((pNT hh725 (pN_n hh725 z724 e3063)).trans e3063))
        have e3065 : Tg h742 n656 = 158101 := ((pRT hh741).trans ((pNT hh736 (pN_n hh736 z735 e3064)).trans e3064))
        have e3066 : Tg h753 n656 = 158101 := ((pRT hh752).trans ((pNT hh747 (pN_n hh747 z746 e3065)).trans e3065))
        have e3067 : Tg h764 n656 = 158101 := ((pRT hh763).trans ((pNT hh758 (pN_n hh758 z757 e3066)).trans e3066))
        have e3068 : Tg h775 n656 = 158101 := ((pRT hh774).trans ((pNT hh769 (pN_n hh769 z768 e3067)).trans e3067))
        have e3069 : Tg h786 n656 = 158101 := ((pRT hh785).trans ((pNT hh780 (pN_n hh780 z779 e3068)).trans e3068))
        have e3070 : Tg h797 n656 = 158101 := ((pRT hh796).trans ((pNT hh791 (pN_n hh791 z790 e3069)).trans e3069))
        have e3071 : Tg h808 n656 = 158101 := ((pRT hh807).trans ((pNT hh802 (pN_n hh802 z801 e3070)).trans e3070))
        have e3072 : Tg h819 n656 = 158101 := ((pRT hh818).trans ((pNT hh813 (pN_n hh813 z812 e3071)).trans e3071))
        have e3073 : Tg h830 n656 = 158101 := ((pRT hh829).trans ((pNT hh824 (pN_n hh824 z823 e3072)).trans e3072))
        have e3074 : Tg h841 n656 = 158101 := ((pRT hh840).trans ((pNT hh835 (pN_n hh835 z834 e3073)).trans e3073))
        have e3075 : Tg h852 n656 = 158101 := ((pRT hh851).trans ((pNT hh846 (pN_n hh846 z845 e3074)).trans e3074))
        have e3076 : Tg h863 n656 = 158101 := ((pRT hh862).trans ((pNT hh857 (pN_n hh857 z856 e3075)).trans e3075))
        have e3077 : Tg h874 n656 = 158101 := ((pRT hh873).trans ((pNT hh868 (pN_n hh868 z867 e3076)).trans e3076))
        have e3078 : Tg h885 n656 = 158101 := ((pRT hh884).trans ((pNT hh879 (pN_n hh879 z878 e3077)).trans e3077))
        have e3079 : Tg h915 n656 = 158101 := ((pIT hh914).trans ((pIT hh910).trans (fxT F904 ((pRT hh895).trans ((pNT hh890 (pN_n hh890 z889 e3078)).trans e3078)))))
        have e3080 : Rv h915 a0 59 = n667 := ((pIR hh914).trans ((pIR hh910).trans ((fxR F904 e917 rfl).trans ((pR_j hh895 (by decide)).trans ((pNR hh890 (pN_n hh890 z889 e893)).trans ((pR_j hh884 (by decide)).trans ((pNR hh879 (pN_n hh879 z878 e882)).trans ((pR_j hh873 (by decide)).trans ((pNR hh868 (pN_n hh868 z867 e871)).trans ((pR_j hh862 (by decide)).trans ((pNR hh857 (pN_n hh857 z856 e860)).trans ((pR_j hh851 (by decide)).trans ((pNR hh846 (pN_n hh846 z845 e849)).trans ((pR_j hh840 (by decide)).trans ((pNR hh835 (pN_n hh835 z834 e838)).trans ((pR_j hh829 (by decide)).trans ((pNR hh824 (pN_n hh824 z823 e827)).trans ((pR_j hh818 (by decide)).trans ((pNR hh813 (pN_n hh813 z812 e816)).trans ((pR_j hh807 (by decide)).trans ((pNR hh802 (pN_n hh802 z801 e805)).trans ((pR_j hh796 (by decide)).trans ((pNR hh791 (pN_n hh791 z790 e794)).trans ((pR_j hh785 (by decide)).trans ((pNR hh780 (pN_n hh780 z779 e783)).trans ((pR_j hh774 (by decide)).trans ((pNR hh769 (pN_n hh769 z768 e772)).trans ((pR_j hh763 (by decide)).trans ((pNR hh758 (pN_n hh758 z757 e761)).trans ((pR_j hh752 (by decide)).trans ((pNR hh747 (pN_n hh747 z746 e750)).trans ((pR_j hh741 (by decide)).trans ((pNR hh736 (pN_n hh736 z735 e739)).trans ((pR_j hh730 (by decide)).trans ((pNR hh725 (pN_n hh725 z724 e728)).trans ((pR_j hh719 (by decide)).trans ((pNR hh714 (pN_n hh714 z713 e717)).trans ((pR_j hh708 (by decide)).trans ((pNR hh703 (pN_n hh703 z702 e706)).trans ((pR_j hh697 (by decide)).trans ((pNR hh692 (pN_n hh692 z691 e695)).trans ((pR_j hh686 (by decide)).trans ((pNR hh681 (pN_n hh681 z680 e684)).trans (pR_e hh675))))))))))))))))))))))))))))))))))))))))))))
        have e3081 : Tg h676 n667 = 159100 := ((pRT hh675).trans (pN_T hh670))
        have e3082 : Tg h687 n667 = 159100 := ((pRT hh686).trans ((pNT hh681 (pN_n hh681 z680 e3081)).trans e3081))
        have e3083 : Tg h698 n667 = 159100 := ((pRT hh697).trans ((pNT hh692 (pN_n hh692 z691 e3082)).trans e3082))
        have e3084 : Tg h709 n667 = 159100 := ((pRT hh708).trans ((pNT hh703 (pN_n hh703 z702 e3083)).trans e3083))
        have e3085 : Tg h720 n667 = 159100 := ((pRT hh719).trans ((pNT hh714 (pN_n hh714 z713 e3084)).trans e3084))
        have e3086 : Tg h731 n667 = 159100 := ((pRT hh730).trans ((pNT hh725 (pN_n hh725 z724 e3085)).trans e3085))
        have e3087 : Tg h742 n667 = 159100 := ((pRT hh741).trans ((pNT hh736 (pN_n hh736 z735 e3086)).trans e3086))
        have e3088 : Tg h753 n667 = 159100 := ((pRT hh752).trans ((pNT hh747 (pN_n hh747 z746 e3087)).trans e3087))
        have e3089 : Tg h764 n667 = 159100 := ((pRT hh763).trans ((pNT hh758 (pN_n hh758 z757 e3088)).trans e3088))
        have e3090 : Tg h775 n667 = 159100 := ((pRT hh774).trans ((pNT hh769 (pN_n hh769 z768 e3089)).trans e3089))
        have e3091 : Tg h786 n667 = 159100 := ((pRT hh785).trans ((pNT hh780 (pN_n hh780 z779 e3090)).trans e3090))
        have e3092 : Tg h797 n667 = 159100 := ((pRT hh796).trans ((pNT hh791 (pN_n hh791 z790 e3091)).trans e3091))
        have e3093 : Tg h808 n667 = 159100 := ((pRT hh807).trans ((pNT hh802 (pN_n hh802 z801 e3092)).trans e3092))
        have e3094 : Tg h819 n667 = 159100 := ((pRT hh818).trans ((pNT hh813 (pN_n hh813 z812 e3093)).trans e3093))
        have e3095 : Tg h830 n667 = 159100 := ((pRT hh829).trans ((pNT hh824 (pN_n hh824 z823 e3094)).trans e3094))
        have e3096 : Tg h841 n667 = 159100 := ((pRT hh840).trans ((pNT hh835 (pN_n hh835 z834 e3095)).trans e3095))
        have e3097 : Tg h852 n667 = 159100 := ((pRT hh851).trans ((pNT hh846 (pN_n hh846 z845 e3096)).trans e3096))
        have e3098 : Tg h863 n667 = 159100 := ((pRT hh862).trans ((pNT hh857 (pN_n hh857 z856 e3097)).trans e3097))
        have e3099 : Tg h874 n667 = 159100 := ((pRT hh873).trans ((pNT hh868 (pN_n hh868 z867 e3098)).trans e3098))
        have e3100 : Tg h885 n667 = 159100 := ((pRT hh884).trans ((pNT hh879 (pN_n hh879 z878 e3099)).trans e3099))
        have e3101 : Tg h915 n667 = 159100 := ((pIT hh914).trans ((pIT hh910).trans (fxT F904 ((pRT hh895).trans ((pNT hh890 (pN_n hh890 z889 e3100)).trans e3100)))))
        have e3102 : Rv h915 a0 60 = n678 := ((pIR hh914).trans ((pIR hh910).trans ((fxR F904 e917 rfl).trans ((pR_j hh895 (by decide)).trans ((pNR hh890 (pN_n hh890 z889 e893)).trans ((pR_j hh884 (by decide)).trans ((pNR hh879 (pN_n hh879 z878 e882)).trans ((pR_j hh873 (by decide)).trans ((pNR hh868 (pN_n hh868 z867 e871)).trans ((pR_j hh862 (by decide)).trans ((pNR hh857 (pN_n hh857 z856 e860)).trans ((pR_j hh851 (by decide)).trans ((pNR hh846 (pN_n hh846 z845 e849)).trans ((pR_j hh840 (by decide)).trans ((pNR hh835 (pN_n hh835 z834 e838)).trans ((pR_j hh829 (by decide)).trans ((pNR hh824 (pN_n hh824 z823 e827)).trans ((pR_j hh818 (by decide)).trans ((pNR hh813 (pN_n hh813 z812 e816)).trans ((pR_j hh807 (by decide)).trans ((pNR hh802 (pN_n hh802 z801 e805)).trans ((pR_j hh796 (by decide)).trans ((pNR hh791 (pN_n hh791 z790 e794)).trans ((pR_j hh785 (by decide)).trans ((pNR hh780 (pN_n hh780 z779 e783)).trans ((pR_j hh774 (by decide)).trans ((pNR hh769 (pN_n hh769 z768 e772)).trans ((pR_j hh763 (by decide)).trans ((pNR hh758 (pN_n hh758 z757 e761)).trans ((pR_j hh752 (by decide)).trans ((pNR hh747 (pN_n hh747 z746 e750)).trans ((pR_j hh741 (by decide)).trans ((pNR hh736 (pN_n hh736 z735 e739)).trans ((pR_j hh730 (by decide)).trans ((pNR hh725 (pN_n hh725 z724 e728)).trans ((pR_j hh719 (by decide)).trans ((pNR hh714 (pN_n hh714 z713 e717)).trans ((pR_j hh708 (by decide)).trans ((pNR hh703 (pN_n hh703 z702 e706)).trans ((pR_j hh697 (by decide)).trans ((pNR hh692 (pN_n hh692 z691 e695)).trans (pR_e hh686))))))))))))))))))))))))))))))))))))))))))
        have e3103 : Tg h687 n678 = 160100 := ((pRT hh686).trans (pN_T hh681))
        have e3104 : Tg h698 n678 = 160100 := ((pRT hh697).trans ((pNT hh692 (pN_n hh692 z691 e3103)).trans e3103))
        have e3105 : Tg h709 n678 = 160100 := ((pRT hh708).trans ((pNT hh703 (pN_n hh703 z702 e3104)).trans e3104))
        have e3106 : Tg h720 n678 = 160100 := ((pRT hh719).trans ((pNT hh714 (pN_n hh714 z713 e3105)).trans e3105))
        have e3107 : Tg h731 n678 = 160100 := ((pRT hh730).trans ((pNT hh725 (pN_n hh725 z724 e3106)).trans e3106))
        have e3108 : Tg h742 n678 = 160100 := ((pRT hh741).trans ((pNT hh736 (pN_n hh736 z735 e3107)).trans e3107))
        have e3109 : Tg h753 n678 = 160100 := ((pRT hh752).trans ((pNT hh747 (pN_n hh747 z746 e3108)).trans e3108))
        have e3110 : Tg h764 n678 = 160100 := ((pRT hh763).trans ((pNT hh758 (pN_n hh758 z757 e3109)).trans e3109))
        have e3111 : Tg h775 n678 = 160100 := ((pRT hh774).trans ((pNT hh769 (pN_n hh769 z768 e3110)).trans e3110))
        have e3112 : Tg h786 n678 = 160100 := ((pRT hh785).trans ((pNT hh780 (pN_n hh780 z779 e3111)).trans e3111))
        have e3113 : Tg h797 n678 = 160100 := ((pRT hh796).trans ((pNT hh791 (pN_n hh791 z790 e3112)).trans e3112))
        have e3114 : Tg h808 n678 = 160100 := ((pRT hh807).trans ((pNT hh802 (pN_n hh802 z801 e3113)).trans e3113))
        have e3115 : Tg h819 n678 = 160100 := ((pRT hh818).trans ((pNT hh813 (pN_n hh813 z812 e3114)).trans e3114))
        have e3116 : Tg h830 n678 = 160100 := ((pRT hh829).trans ((pNT hh824 (pN_n hh824 z823 e3115)).trans e3115))
        have e3117 : Tg h841 n678 = 160100 := ((pRT hh840).trans ((pNT hh835 (pN_n hh835 z834 e3116)).trans e3116))
        have e3118 : Tg h852 n678 = 160100 := ((pRT hh851).trans ((pNT hh846 (pN_n hh846 z845 e3117)).trans e3117))
        have e3119 : Tg h863 n678 = 160100 := ((pRT hh862).trans ((pNT hh857 (pN_n hh857 z856 e3118)).trans e3118))
        have e3120 : Tg h874 n678 = 160100 := ((pRT hh873).trans ((pNT hh868 (pN_n hh868 z867 e3119)).trans e3119))
        have e3121 : Tg h885 n678 = 160100 := ((pRT hh884).trans ((pNT hh879 (pN_n hh879 z878 e3120)).trans e3120))
        have e3122 : Tg h915 n678 = 160100 := ((pIT hh914).trans ((pIT hh910).trans (fxT F904 ((pRT hh895).trans ((pNT hh890 (pN_n hh890 z889 e3121)).trans e3121)))))
        have e3123 : Rv h915 a0 61 = n689 := ((pIR hh914).trans ((pIR hh910).trans ((fxR F904 e917 rfl).trans ((pR_j hh895 (by decide)).trans ((pNR hh890 (pN_n hh890 z889 e893)).trans ((pR_j hh884 (by decide)).trans ((pNR hh879 (pN_n hh879 z878 e882)).trans ((pR_j hh873 (by decide)).trans ((pNR hh868 (pN_n hh868 z867 e871)).trans ((pR_j hh862 (by decide)).trans ((pNR hh857 (pN_n hh857 z856 e860)).trans ((pR_j hh851 (by decide)).trans ((pNR hh846 (pN_n hh846 z845 e849)).trans ((pR_j hh840 (by decide)).trans ((pNR hh835 (pN_n hh835 z834 e838)).trans ((pR_j hh829 (by decide)).trans ((pNR hh824 (pN_n hh824 z823 e827)).trans ((pR_j hh818 (by decide)).trans ((pNR hh813 (pN_n hh813 z812 e816)).trans ((pR_j hh807 (by decide)).trans ((pNR hh802 (pN_n hh802 z801 e805)).trans ((pR_j hh796 (by decide)).trans ((pNR hh791 (pN_n hh791 z790 e794)).trans ((pR_j hh785 (by decide)).trans ((pNR hh780 (pN_n hh780 z779 e783)).trans ((pR_j hh774 (by decide)).trans ((pNR hh769 (pN_n hh769 z768 e772)).trans ((pR_j hh763 (by decide)).trans ((pNR hh758 (pN_n hh758 z757 e761)).trans ((pR_j hh752 (by decide)).trans ((pNR hh747 (pN_n hh747 z746 e750)).trans ((pR_j hh741 (by decide)).trans ((pNR hh736 (pN_n hh736 z735 e739)).trans ((pR_j hh730 (by decide)).trans ((pNR hh725 (pN_n hh725 z724 e728)).trans ((pR_j hh719 (by decide)).trans ((pNR hh714 (pN_n hh714 z713 e717)).trans ((pR_j hh708 (by decide)).trans ((pNR hh703 (pN_n hh703 z702 e706)).trans (pR_e hh697))))))))))))))))))))))))))))))))))))))))
        have e3124 : Tg h698 n689 = 161100 := ((pRT hh697).trans (pN_T hh692))
        have e3125 : Tg h709 n689 = 161100 := ((pRT hh708).trans ((pNT hh703 (pN_n hh703 z702 e3124)).trans e3124))
        have e3126 : Tg h720 n689 = 161100 := ((pRT hh719).trans ((pNT hh714 (pN_n hh714 z713 e3125)).trans e3125))
        have e3127 : Tg h731 n689 = 161100 := ((pRT hh730).trans ((pNT hh725 (pN_n hh725 z724 e3126)).trans e3126))
        have e3128 : Tg h742 n689 = 161100 := ((pRT hh741).trans ((pNT hh736 (pN_n hh736 z735 e3127)).trans e3127))
        have e3129 : Tg h753 n689 = 161100 := ((pRT hh752).trans ((pNT hh747 (pN_n hh747 z746 e3128)).trans e3128))
        have e3130 : Tg h764 n689 = 161100 := ((pRT hh763).trans ((pNT hh758 (pN_n hh758 z757 e3129)).trans e3129))
        have e3131 : Tg h775 n689 = 161100 := ((pRT hh774).trans ((pNT hh769 (pN_n hh769 z768 e3130)).trans e3130))
        have e3132 : Tg h786 n689 = 161100 := ((pRT hh785).trans ((pNT hh780 (pN_n hh780 z779 e3131)).trans e3131))
        have e3133 : Tg h797 n689 = 161100 := ((pRT hh796).trans ((pNT hh791 (pN_n hh791 z790 e3132)).trans e3132))
        have e3134 : Tg h808 n689 = 161100 := ((pRT hh807).trans ((pNT hh802 (pN_n hh802 z801 e3133)).trans e3133))
        have e3135 : Tg h819 n689 = 161100 := ((pRT hh818).trans ((pNT hh813 (pN_n hh813 z812 e3134)).trans e3134))
        have e3136 : Tg h830 n689 = 161100 := ((pRT hh829).trans ((pNT hh824 (pN_n hh824 z823 e3135)).trans e3135))
        have e3137 : Tg h841 n689 = 161100 := ((pRT hh840).trans ((pNT hh835 (pN_n hh835 z834 e3136)).trans e3136))
        have e3138 : Tg h852 n689 = 161100 := ((pRT hh851).trans ((pNT hh846 (pN_n hh846 z845 e3137)).trans e3137))
        have e3139 : Tg h863 n689 = 161100 := ((pRT hh862).trans ((pNT hh857 (pN_n hh857 z856 e3138)).trans e3138))
        have e3140 : Tg h874 n689 = 161100 := ((pRT hh873).trans ((pNT hh868 (pN_n hh868 z867 e3139)).trans e3139))
        have e3141 : Tg h885 n689 = 161100 := ((pRT hh884).trans ((pNT hh879 (pN_n hh879 z878 e3140)).trans e3140))
        have e3142 : Tg h915 n689 = 161100 := ((pIT hh914).trans ((pIT hh910).trans (fxT F904 ((pRT hh895).trans ((pNT hh890 (pN_n hh890 z889 e3141)).trans e3141)))))
        have e3143 : Rv h915 a0 63 = n700 := ((pIR hh914).trans ((pIR hh910).trans ((fxR F904 e917 rfl).trans ((pR_j hh895 (by decide)).trans ((pNR hh890 (pN_n hh890 z889 e893)).trans ((pR_j hh884 (by decide)).trans ((pNR hh879 (pN_n hh879 z878 e882)).trans ((pR_j hh873 (by decide)).trans ((pNR hh868 (pN_n hh868 z867 e871)).trans ((pR_j hh862 (by decide)).trans ((pNR hh857 (pN_n hh857 z856 e860)).trans ((pR_j hh851 (by decide)).trans ((pNR hh846 (pN_n hh846 z845 e849)).trans ((pR_j hh840 (by decide)).trans ((pNR hh835 (pN_n hh835 z834 e838)).trans ((pR_j hh829 (by decide)).trans ((pNR hh824 (pN_n hh824 z823 e827)).trans ((pR_j hh818 (by decide)).trans ((pNR hh813 (pN_n hh813 z812 e816)).trans ((pR_j hh807 (by decide)).trans ((pNR hh802 (pN_n hh802 z801 e805)).trans ((pR_j hh796 (by decide)).trans ((pNR hh791 (pN_n hh791 z790 e794)).trans ((pR_j hh785 (by decide)).trans ((pNR hh780 (pN_n hh780 z779 e783)).trans ((pR_j hh774 (by decide)).trans ((pNR hh769 (pN_n hh769 z768 e772)).trans ((pR_j hh763 (by decide)).trans ((pNR hh758 (pN_n hh758 z757 e761)).trans ((pR_j hh752 (by decide)).trans ((pNR hh747 (pN_n hh747 z746 e750)).trans ((pR_j hh741 (by decide)).trans ((pNR hh736 (pN_n hh736 z735 e739)).trans ((pR_j hh730 (by decide)).trans ((pNR hh725 (pN_n hh725 z724 e728)).trans ((pR_j hh719 (by decide)).trans ((pNR hh714 (pN_n hh714 z713 e717)).trans (pR_e hh708))))))))))))))))))))))))))))))))))))))
        have e3144 : Tg h709 n700 = 163100 := ((pRT hh708).trans (pN_T hh703))
        have e3145 : Tg h720 n700 = 163100 := ((pRT hh719).trans ((pNT hh714 (pN_n hh714 z713 e3144)).trans e3144))
        have e3146 : Tg h731 n700 = 163100 := ((pRT hh730).trans ((pNT hh725 (pN_n hh725 z724 e3145)).trans e3145))
        have e3147 : Tg h742 n700 = 163100 := ((pRT hh741).trans ((pNT hh736 (pN_n hh736 z735 e3146)).trans e3146))
        have e3148 : Tg h753 n700 = 163100 := ((pRT hh752).trans ((pNT hh747 (pN_n hh747 z746 e3147)).trans e3147))
        have e3149 : Tg h764 n700 = 163100 := ((pRT hh763).trans ((pNT hh758 (pN_n hh758 z757 e3148)).trans e3148))
        have e3150 : Tg h775 n700 = 163100 := ((pRT hh774).trans ((pNT hh769 (pN_n hh769 z768 e3149)).trans e3149))
        have e3151 : Tg h786 n700 = 163100 := ((pRT hh785).trans ((pNT hh780 (pN_n hh780 z779 e3150)).trans e3150))
        have e3152 : Tg h797 n700 = 163100 := ((pRT hh796).trans ((pNT hh791 (pN_n hh791 z790 e3151)).trans e3151))
        have e3153 : Tg h808 n700 = 163100 := ((pRT hh807).trans ((pNT hh802 (pN_n hh802 z801 e3152)).trans e3152))
        have e3154 : Tg h819 n700 = 163100 := ((pRT hh818).trans ((pNT hh813 (pN_n hh813 z812 e3153)).trans e3153))
        have e3155 : Tg h830 n700 = 163100 := ((pRT hh829).trans ((pNT hh824 (pN_n hh824 z823 e3154)).trans e3154))
        have e3156 : Tg h841 n700 = 163100 := ((pRT hh840).trans ((pNT hh835 (pN_n hh835 z834 e3155)).trans e3155))
        have e3157 : Tg h852 n700 = 163100 := ((pRT hh851).trans ((pNT hh846 (pN_n hh846 z845 e3156)).trans e3156))
        have e3158 : Tg h863 n700 = 163100 := ((pRT hh862).trans ((pNT hh857 (pN_n hh857 z856 e3157)).trans e3157))
        have e3159 : Tg h874 n700 = 163100 := ((pRT hh873).trans ((pNT hh868 (pN_n hh868 z867 e3158)).trans e3158))
        have e3160 : Tg h885 n700 = 163100 := ((pRT hh884).trans ((pNT hh879 (pN_n hh879 z878 e3159)).trans e3159))
        have e3161 : Tg h915 n700 = 163100 := ((pIT hh914).trans ((pIT hh910).trans (fxT F904 ((pRT hh895).trans ((pNT hh890 (pN_n hh890 z889 e3160)).trans e3160)))))
        have e3162 : Rv h915 a0 64 = n711 := ((pIR hh914).trans ((pIR hh910).trans ((fxR F904 e917 rfl).trans ((pR_j hh895 (by decide)).trans ((pNR hh890 (pN_n hh890 z889 e893)).trans ((pR_j hh884 (by decide)).trans ((pNR hh879 (pN_n hh879 z878 e882)).trans ((pR_j hh873 (by decide)).trans ((pNR hh868 (pN_n hh868 z867 e871)).trans ((pR_j hh862 (by decide)).trans ((pNR hh857 (pN_n hh857 z856 e860)).trans ((pR_j hh851 (by decide)).trans ((pNR hh846 (pN_n hh846 z845 e849)).trans ((pR_j hh840 (by decide)).trans ((pNR hh835 (pN_n hh835 z834 e838)).trans ((pR_j hh829 (by decide)).trans ((pNR hh824 (pN_n hh824 z823 e827)).trans ((pR_j hh818 (by decide)).trans ((pNR hh813 (pN_n hh813 z812 e816)).trans ((pR_j hh807 (by decide)).trans ((pNR hh802 (pN_n hh802 z801 e805)).trans ((pR_j hh796 (by decide)).trans ((pNR hh791 (pN_n hh791 z790 e794)).trans ((pR_j hh785 (by decide)).trans ((pNR hh780 (pN_n hh780 z779 e783)).trans ((pR_j hh774 (by decide)).trans ((pNR hh769 (pN_n hh769 z768 e772)).trans ((pR_j hh763 (by decide)).trans ((pNR hh758 (pN_n hh758 z757 e761)).trans ((pR_j hh752 (by decide)).trans ((pNR hh747 (pN_n hh747 z746 e750)).trans ((pR_j hh741 (by decide)).trans ((pNR hh736 (pN_n hh736 z735 e739)).trans ((pR_j hh730 (by decide)).trans ((pNR hh725 (pN_n hh725 z724 e728)).trans (pR_e hh719))))))))))))))))))))))))))))))))))))
        have e3163 : Tg h720 n711 = 164100 := ((pRT hh719).trans (pN_T hh714))
        have e3164 : Tg h731 n711 = 164100 := ((pRT hh730).trans ((pNT hh725 (pN_n hh725 z724 e3163)).trans e3163))
        have e3165 : Tg h742 n711 = 164100 := ((pRT hh741).trans ((pNT hh736 (pN_n hh736 z735 e3164)).trans e3164))
        have e3166 : Tg h753 n711 = 164100 := ((pRT hh752).trans ((pNT hh747 (pN_n hh747 z746 e3165)).trans e3165))
        have e3167 : Tg h764 n711 = 164100 := ((pRT hh763).trans ((pNT hh758 (pN_n hh758 z757 e3166)).trans e3166))
        have e3168 : Tg h775 n711 = 164100 := ((pRT hh774).trans ((pNT hh769 (pN_n hh769 z768 e3167)).trans e3167))
        have e3169 : Tg h786 n711 = 164100 := ((pRT hh785).trans ((pNT hh780 (pN_n hh780 z779 e3168)).trans e3168))
        have e3170 : Tg h797 n711 = 164100 := ((pRT hh796).trans ((pNT hh791 (pN_n hh791 z790 e3169)).trans e3169))
        have e3171 : Tg h808 n711 = 164100 := ((pRT hh807).trans ((pNT hh802 (pN_n hh802 z801 e3170)).trans e3170))
        have e3172 : Tg h819 n711 = 164100 := ((pRT hh818).trans ((pNT hh813 (pN_n hh813 z812 e3171)).trans e3171))
        have e3173 : Tg h830 n711 = 164100 := ((pRT hh829).trans ((pNT hh824 (pN_n hh824 z823 e3172)).trans e3172))
        have e3174 : Tg h841 n711 = 164100 := ((pRT hh840).trans ((pNT hh835 (pN_n hh835 z834 e3173)).trans e3173))
        have e3175 : Tg h852 n711 = 164100 := ((pRT hh851).trans ((pNT hh846 (pN_n hh846 z845 e3174)).trans e3174))
        have e3176 : Tg h863 n711 = 164100 := ((pRT hh862).trans ((pNT hh857 (pN_n hh857 z856 e3175)).trans e3175))
        have e3177 : Tg h874 n711 = 164100 := ((pRT hh873).trans ((pNT hh868 (pN_n hh868 z867 e3176)).trans e3176))
        have e3178 : Tg h885 n711 = 164100 := ((pRT hh884).trans ((pNT hh879 (pN_n hh879 z878 e3177)).trans e3177))
        have e3179 : Tg h915 n711 = 164100 := ((pIT hh914).trans ((pIT hh910).trans (fxT F904 ((pRT hh895).trans ((pNT hh890 (pN_n hh890 z889 e3178)).trans e3178)))))
        have e3180 : Rv h915 a0 65 = n722 := ((pIR hh914).trans ((pIR hh910).trans ((fxR F904 e917 rfl).trans ((pR_j hh895 (by decide)).trans ((pNR hh890 (pN_n hh890 z889 e893)).trans ((pR_j hh884 (by decide)).trans ((pNR hh879 (pN_n hh879 z878 e882)).trans ((pR_j hh873 (by decide)).trans ((pNR hh868 (pN_n hh868 z867 e871)).trans ((pR_j hh862 (by decide)).trans ((pNR hh857 (pN_n hh857 z856 e860)).trans ((pR_j hh851 (by decide)).trans ((pNR hh846 (pN_n hh846 z845 e849)).trans ((pR_j hh840 (by decide)).trans ((pNR hh835 (pN_n hh835 z834 e838)).trans ((pR_j hh829 (by decide)).trans ((pNR hh824 (pN_n hh824 z823 e827)).trans ((pR_j hh818 (by decide)).trans ((pNR hh813 (pN_n hh813 z812 e816)).trans ((pR_j hh807 (by decide)).trans ((pNR hh802 (pN_n hh802 z801 e805)).trans ((pR_j hh796 (by decide)).trans ((pNR hh791 (pN_n hh791 z790 e794)).trans ((pR_j hh785 (by decide)).trans ((pNR hh780 (pN_n hh780 z779 e783)).trans ((pR_j hh774 (by decide)).trans ((pNR hh769 (pN_n hh769 z768 e772)).trans ((pR_j hh763 (by decide)).trans ((pNR hh758 (pN_n hh758 z757 e761)).trans ((pR_j hh752 (by decide)).trans ((pNR hh747 (pN_n hh747 z746 e750)).trans ((pR_j hh741 (by decide)).trans ((pNR hh736 (pN_n hh736 z735 e739)).trans (pR_e hh730))))))))))))))))))))))))))))))))))
        have e3181 : Tg h731 n722 = 165100 := ((pRT hh730).trans (pN_T hh725))
        have e3182 : Tg h742 n722 = 165100 := ((pRT hh741).trans ((pNT hh736 (pN_n hh736 z735 e3181)).trans e3181))
        have e3183 : Tg h753 n722 = 165100 := ((pRT hh752).trans ((pNT hh747 (pN_n hh747 z746 e3182)).trans e3182))
        have e3184 : Tg h764 n722 = 165100 := ((pRT hh763).trans ((pNT hh758 (pN_n hh758 z757 e3183)).trans e3183))
        have e3185 : Tg h775 n722 = 165100 := ((pRT hh774).trans ((pNT hh769 (pN_n hh769 z768 e3184)).trans e3184))
        have e3186 : Tg h786 n722 = 165100 := ((pRT hh785).trans ((pNT hh780 (pN_n hh780 z779 e3185)).trans e3185))
        have e3187 : Tg h797 n722 = 165100 := ((pRT hh796).trans ((pNT hh791 (pN_n hh791 z790 e3186)).trans e3186))
        have e3188 : Tg h808 n722 = 165100 := ((pRT hh807).trans ((pNT hh802 (pN_n hh802 z801 e3187)).trans e3187))
        have e3189 : Tg h819 n722 = 165100 := ((pRT hh818).trans ((pNT hh813 (pN_n hh813 z812 e3188)).trans e3188))
        have e3190 : Tg h830 n722 = 165100 := ((pRT hh829).trans ((pNT hh824 (pN_n hh824 z823 e3189)).trans e3189))
        have e3191 : Tg h841 n722 = 165100 := ((pRT hh840).trans ((pNT hh835 (pN_n hh835 z834 e3190)).trans e3190))
        have e3192 : Tg h852 n722 = 165100 := ((pRT hh851).trans ((pNT hh846 (pN_n hh846 z845 e3191)).trans e3191))
        have e3193 : Tg h863 n722 = 165100 := ((pRT hh862).trans ((pNT hh857 (pN_n hh857 z856 e3192)).trans e3192))
        have e3194 : Tg h874 n722 = 165100 := ((pRT hh873).trans ((pNT hh868 (pN_n hh868 z867 e3193)).trans e3193))
        have e3195 : Tg h885 n722 = 165100 := ((pRT hh884).trans ((pNT hh879 (pN_n hh879 z878 e3194)).trans e3194))
        have e3196 : Tg h915 n722 = 165100 := ((pIT hh914).trans ((pIT hh910).trans (fxT F904 ((pRT hh895).trans ((pNT hh890 (pN_n hh890 z889 e3195)).trans e3195)))))
        have e3197 : Rv h915 a0 66 = n733 := ((pIR hh914).trans ((pIR hh910).trans ((fxR F904 e917 rfl).trans ((pR_j hh895 (by decide)).trans ((pNR hh890 (pN_n hh890 z889 e893)).trans ((pR_j hh884 (by decide)).trans ((pNR hh879 (pN_n hh879 z878 e882)).trans ((pR_j hh873 (by decide)).trans ((pNR hh868 (pN_n hh868 z867 e871)).trans ((pR_j hh862 (by decide)).trans ((pNR hh857 (pN_n hh857 z856 e860)).trans ((pR_j hh851 (by decide)).trans ((pNR hh846 (pN_n hh846 z845 e849)).trans ((pR_j hh840 (by decide)).trans ((pNR hh835 (pN_n hh835 z834 e838)).trans ((pR_j hh829 (by decide)).trans ((pNR hh824 (pN_n hh824 z823 e827)).trans ((pR_j hh818 (by decide)).trans ((pNR hh813 (pN_n hh813 z812 e816)).trans ((pR_j hh807 (by decide)).trans ((pNR hh802 (pN_n hh802 z801 e805)).trans ((pR_j hh796 (by decide)).trans ((pNR hh791 (pN_n hh791 z790 e794)).trans ((pR_j hh785 (by decide)).trans ((pNR hh780 (pN_n hh780 z779 e783)).trans ((pR_j hh774 (by decide)).trans ((pNR hh769 (pN_n hh769 z768 e772)).trans ((pR_j hh763 (by decide)).trans ((pNR hh758 (pN_n hh758 z757 e761)).trans ((pR_j hh752 (by decide)).trans ((pNR hh747 (pN_n hh747 z746 e750)).trans (pR_e hh741))))))))))))))))))))))))))))))))
        have e3198 : Tg h742 n733 = 166100 := ((pRT hh741).trans (pN_T hh736))
        have e3199 : Tg h753 n733 = 166100 := ((pRT hh752).trans ((pNT hh747 (pN_n hh747 z746 e3198)).trans e3198))
        have e3200 : Tg h764 n733 = 166100 := ((pRT hh763).trans ((pNT hh758 (pN_n hh758 z757 e3199)).trans e3199))
        have e3201 : Tg h775 n733 = 166100 := ((pRT hh774).trans ((pNT hh769 (pN_n hh769 z768 e3200)).trans e3200))
        have e3202 : Tg h786 n733 = 166100 := ((pRT hh785).trans ((pNT hh780 (pN_n hh780 z779 e3201)).trans e3201))
        have e3203 : Tg h797 n733 = 166100 := ((pRT hh796).trans ((pNT hh791 (pN_n hh791 z790 e3202)).trans e3202))
        have e3204 : Tg h808 n733 = 166100 := ((pRT hh807).trans ((pNT hh802 (pN_n hh802 z801 e3203)).trans e3203))
        have e3205 : Tg h819 n733 = 166100 := ((pRT hh818).trans ((pNT hh813 (pN_n hh813 z812 e3204)).trans e3204))
        have e3206 : Tg h830 n733 = 166100 := ((pRT hh829).trans ((pNT hh824 (pN_n hh824 z823 e3205)).trans e3205))
        have e3207 : Tg h841 n733 = 166100 := ((pRT hh840).trans ((pNT hh835 (pN_n hh835 z834 e3206)).trans e3206))
        have e3208 : Tg h852 n733 = 166100 := ((pRT hh851).trans ((pNT hh846 (pN_n hh846 z845 e3207)).trans e3207))
        have e3209 : Tg h863 n733 = 166100 := ((pRT hh862).trans ((pNT hh857 (pN_n hh857 z856 e3208)).trans e3208))
        have e3210 : Tg h874 n733 = 166100 := ((pRT hh873).trans ((pNT hh868 (pN_n hh868 z867 e3209)).trans e3209))
        have e3211 : Tg h885 n733 = 166100 := ((pRT hh884).trans ((pNT hh879 (pN_n hh879 z878 e3210)).trans e3210))
        have e3212 : Tg h915 n733 = 166100 := ((pIT hh914).trans ((pIT hh910).trans (fxT F904 ((pRT hh895).trans ((pNT hh890 (pN_n hh890 z889 e3211)).trans e3211)))))
        have e3213 : Rv h915 a0 67 = n744 := ((pIR hh914).trans ((pIR hh910).trans ((fxR F904 e917 rfl).trans ((pR_j hh895 (by decide)).trans ((pNR hh890 (pN_n hh890 z889 e893)).trans ((pR_j hh884 (by decide)).trans ((pNR hh879 (pN_n hh879 z878 e882)).trans ((pR_j hh873 (by decide)).trans ((pNR hh868 (pN_n hh868 z867 e871)).trans ((pR_j hh862 (by decide)).trans ((pNR hh857 (pN_n hh857 z856 e860)).trans ((pR_j hh851 (by decide)).trans ((pNR hh846 (pN_n hh846 z845 e849)).trans ((pR_j hh840 (by decide)).trans ((pNR hh835 (pN_n hh835 z834 e838)).trans ((pR_j hh829 (by decide)).trans ((pNR hh824 (pN_n hh824 z823 e827)).trans ((pR_j hh818 (by decide)).trans ((pNR hh813 (pN_n hh813 z812 e816)).trans ((pR_j hh807 (by decide)).trans ((pNR hh802 (pN_n hh802 z801 e805)).trans ((pR_j hh796 (by decide)).trans ((pNR hh791 (pN_n hh791 z790 e794)).trans ((pR_j hh785 (by decide)).trans ((pNR hh780 (pN_n hh780 z779 e783)).trans ((pR_j hh774 (by decide)).trans ((pNR hh769 (pN_n hh769 z768 e772)).trans ((pR_j hh763 (by decide)).trans ((pNR hh758 (pN_n hh758 z757 e761)).trans (pR_e hh752))))))))))))))))))))))))))))))
        have e3214 : Tg h753 n744 = 167100 := ((pRT hh752).trans (pN_T hh747))
        have e3215 : Tg h764 n744 = 167100 := ((pRT hh763).trans ((pNT hh758 (pN_n hh758 z757 e3214)).trans e3214))
        have e3216 : Tg h775 n744 = 167100 := ((pRT hh774).trans ((pNT hh769 (pN_n hh769 z768 e3215)).trans e3215))
        have e3217 : Tg h786 n744 = 167100 := ((pRT hh785).trans ((pNT hh780 (pN_n hh780 z779 e3216)).trans e3216))
        have e3218 : Tg h797 n744 = 167100 := ((pRT hh796).trans ((pNT hh791 (pN_n hh791 z790 e3217)).trans e3217))
        have e3219 : Tg h808 n744 = 167100 := ((pRT hh807).trans ((pNT hh802 (pN_n hh802 z801 e3218)).trans e3218))
        have e3220 : Tg h819 n744 = 167100 := ((pRT hh818).trans ((pNT hh813 (pN_n hh813 z812 e3219)).trans e3219))
        have e3221 : Tg h830 n744 = 167100 := ((pRT hh829).trans ((pNT hh824 (pN_n hh824 z823 e3220)).trans e3220))
        have e3222 : Tg h841 n744 = 167100 := ((pRT hh840).trans ((pNT hh835 (pN_n hh835 z834 e3221)).trans e3221))
        have e3223 : Tg h852 n744 = 167100 := ((pRT hh851).trans ((pNT hh846 (pN_n hh846 z845 e3222)).trans e3222))
        have e3224 : Tg h863 n744 = 167100 := ((pRT hh862).trans ((pNT hh857 (pN_n hh857 z856 e3223)).trans e3223))
        have e3225 : Tg h874 n744 = 167100 := ((pRT hh873).trans ((pNT hh868 (pN_n hh868 z867 e3224)).trans e3224))
        have e3226 : Tg h885 n744 = 167100 := ((pRT hh884).trans ((pNT hh879 (pN_n hh879 z878 e3225)).trans e3225))
        have e3227 : Tg h915 n744 = 167100 := ((pIT hh914).trans ((pIT hh910).trans (fxT F904 ((pRT hh895).trans ((pNT hh890 (pN_n hh890 z889 e3226)).trans e3226)))))
        have e3228 : Rv h915 a0 68 = n755 := ((pIR hh914).trans ((pIR hh910).trans ((fxR F904 e917 rfl).trans ((pR_j hh895 (by decide)).trans ((pNR hh890 (pN_n hh890 z889 e893)).trans ((pR_j hh884 (by decide)).trans ((pNR hh879 (pN_n hh879 z878 e882)).trans ((pR_j hh873 (by decide)).trans ((pNR hh868 (pN_n hh868 z867 e871)).trans ((pR_j hh862 (by decide)).trans ((pNR hh857 (pN_n hh857 z856 e860)).trans ((pR_j hh851 (by decide)).trans ((pNR hh846 (pN_n hh846 z845 e849)).trans ((pR_j hh840 (by decide)).trans ((pNR hh835 (pN_n hh835 z834 e838)).trans ((pR_j hh829 (by decide)).trans ((pNR hh824 (pN_n hh824 z823 e827)).trans ((pR_j hh818 (by decide)).trans ((pNR hh813 (pN_n hh813 z812 e816)).trans ((pR_j hh807 (by decide)).trans ((pNR hh802 (pN_n hh802 z801 e805)).trans ((pR_j hh796 (by decide)).trans ((pNR hh791 (pN_n hh791 z790 e794)).trans ((pR_j hh785 (by decide)).trans ((pNR hh780 (pN_n hh780 z779 e783)).trans ((pR_j hh774 (by decide)).trans ((pNR hh769 (pN_n hh769 z768 e772)).trans (pR_e hh763))))))))))))))))))))))))))))
        have e3229 : Tg h764 n755 = 168100 := ((pRT hh763).trans (pN_T hh758))
        have e3230 : Tg h775 n755 = 168100 := ((pRT hh774).trans ((pNT hh769 (pN_n hh769 z768 e3229)).trans e3229))
        have e3231 : Tg h786 n755 = 168100 := ((pRT hh785).trans ((pNT hh780 (pN_n hh780 z779 e3230)).trans e3230))
        have e3232 : Tg h797 n755 = 168100 := ((pRT hh796).trans ((pNT hh791 (pN_n hh791 z790 e3231)).trans e3231))
        have e3233 : Tg h808 n755 = 168100 := ((pRT hh807).trans ((pNT hh802 (pN_n hh802 z801 e3232)).trans e3232))
        have e3234 : Tg h819 n755 = 168100 := ((pRT hh818).trans ((pNT hh813 (pN_n hh813 z812 e3233)).trans e3233))
        have e3235 : Tg h830 n755 = 168100 := ((pRT hh829).trans ((pNT hh824 (pN_n hh824 z823 e3234)).trans e3234))
        have e3236 : Tg h841 n755 = 168100 := ((pRT hh840).trans ((pNT hh835 (pN_n hh835 z834 e3235)).trans e3235))
        have e3237 : Tg h852 n755 = 168100 := ((pRT hh851).trans ((pNT hh846 (pN_n hh846 z845 e3236)).trans e3236))
        have e3238 : Tg h863 n755 = 168100 := ((pRT hh862).trans ((pNT hh857 (pN_n hh857 z856 e3237)).trans e3237))
        have e3239 : Tg h874 n755 = 168100 := ((pRT hh873).trans ((pNT hh868 (pN_n hh868 z867 e3238)).trans e3238))
        have e3240 : Tg h885 n755 = 168100 := ((pRT hh884).trans ((pNT hh879 (pN_n hh879 z878 e3239)).trans e3239))
        have e3241 : Tg h915 n755 = 168100 := ((pIT hh914).trans ((pIT hh910).trans (fxT F904 ((pRT hh895).trans ((pNT hh890 (pN_n hh890 z889 e3240)).trans e3240)))))
        have e3242 : Rv h915 a0 70 = n766 := ((pIR hh914).trans ((pIR hh910).trans ((fxR F904 e917 rfl).trans ((pR_j hh895 (by decide)).trans ((pNR hh890 (pN_n hh890 z889 e893)).trans ((pR_j hh884 (by decide)).trans ((pNR hh879 (pN_n hh879 z878 e882)).trans ((pR_j hh873 (by decide)).trans ((pNR hh868 (pN_n hh868 z867 e871)).trans ((pR_j hh862 (by decide)).trans ((pNR hh857 (pN_n hh857 z856 e860)).trans ((pR_j hh851 (by decide)).trans ((pNR hh846 (pN_n hh846 z845 e849)).trans ((pR_j hh840 (by decide)).trans ((pNR hh835 (pN_n hh835 z834 e838)).trans ((pR_j hh829 (by decide)).trans ((pNR hh824 (pN_n hh824 z823 e827)).trans ((pR_j hh818 (by decide)).trans ((pNR hh813 (pN_n hh813 z812 e816)).trans ((pR_j hh807 (by decide)).trans ((pNR hh802 (pN_n hh802 z801 e805)).trans ((pR_j hh796 (by decide)).trans ((pNR hh791 (pN_n hh791 z790 e794)).trans ((pR_j hh785 (by decide)).trans ((pNR hh780 (pN_n hh780 z779 e783)).trans (pR_e hh774))))))))))))))))))))))))))
        have e3243 : Tg h775 n766 = 170101 := ((pRT hh774).trans (pN_T hh769))
        have e3244 : Tg h786 n766 = 170101 := ((pRT hh785).trans ((pNT hh780 (pN_n hh780 z779 e3243)).trans e3243))
        have e3245 : Tg h797 n766 = 170101 := ((pRT hh796).trans ((pNT hh791 (pN_n hh791 z790 e3244)).trans e3244))
        have e3246 : Tg h808 n766 = 170101 := ((pRT hh807).trans ((pNT hh802 (pN_n hh802 z801 e3245)).trans e3245))
        have e3247 : Tg h819 n766 = 170101 := ((pRT hh818).trans ((pNT hh813 (pN_n hh813 z812 e3246)).trans e3246))
        have e3248 : Tg h830 n766 = 170101 := ((pRT hh829).trans ((pNT hh824 (pN_n hh824 z823 e3247)).trans e3247))
        have e3249 : Tg h841 n766 = 170101 := ((pRT hh840).trans ((pNT hh835 (pN_n hh835 z834 e3248)).trans e3248))
        have e3250 : Tg h852 n766 = 170101 := ((pRT hh851).trans ((pNT hh846 (pN_n hh846 z845 e3249)).trans e3249))
        have e3251 : Tg h863 n766 = 170101 := ((pRT hh862).trans ((pNT hh857 (pN_n hh857 z856 e3250)).trans e3250))
        have e3252 : Tg h874 n766 = 170101 := ((pRT hh873).trans ((pNT hh868 (pN_n hh868 z867 e3251)).trans e3251))
        have e3253 : Tg h885 n766 = 170101 := ((pRT hh884).trans ((pNT hh879 (pN_n hh879 z878 e3252)).trans e3252))
        have e3254 : Tg h915 n766 = 170101 := ((pIT hh914).trans ((pIT hh910).trans (fxT F904 ((pRT hh895).trans ((pNT hh890 (pN_n hh890 z889 e3253)).trans e3253)))))
        have e3255 : Rv h915 a0 71 = n777 := ((pIR hh914).trans ((pIR hh910).trans ((fxR F904 e917 rfl).trans ((pR_j hh895 (by decide)).trans ((pNR hh890 (pN_n hh890 z889 e893)).trans ((pR_j hh884 (by decide)).trans ((pNR hh879 (pN_n hh879 z878 e882)).trans ((pR_j hh873 (by decide)).trans ((pNR hh868 (pN_n hh868 z867 e871)).trans ((pR_j hh862 (by decide)).trans ((pNR hh857 (pN_n hh857 z856 e860)).trans ((pR_j hh851 (by decide)).trans ((pNR hh846 (pN_n hh846 z845 e849)).trans ((pR_j hh840 (by decide)).trans ((pNR hh835 (pN_n hh835 z834 e838)).trans ((pR_j hh829 (by decide)).trans ((pNR hh824 (pN_n hh824 z823 e827)).trans ((pR_j hh818 (by decide)).trans ((pNR hh813 (pN_n hh813 z812 e816)).trans ((pR_j hh807 (by decide)).trans ((pNR hh802 (pN_n hh802 z801 e805)).trans ((pR_j hh796 (by decide)).trans ((pNR hh791 (pN_n hh791 z790 e794)).trans (pR_e hh785))))))))))))))))))))))))
        have e3256 : Tg h786 n777 = 171100 := ((pRT hh785).trans (pN_T hh780))
        have e3257 : Tg h797 n777 = 171100 := ((pRT hh796).trans ((pNT hh791 (pN_n hh791 z790 e3256)).trans e3256))
        have e3258 : Tg h808 n777 = 171100 := ((pRT hh807).trans ((pNT hh802 (pN_n hh802 z801 e3257)).trans e3257))
        have e3259 : Tg h819 n777 = 171100 := ((pRT hh818).trans ((pNT hh813 (pN_n hh813 z812 e3258)).trans e3258))
        have e3260 : Tg h830 n777 = 171100 := ((pRT hh829).trans ((pNT hh824 (pN_n hh824 z823 e3259)).trans e3259))
        have e3261 : Tg h841 n777 = 171100 := ((pRT hh840).trans ((pNT hh835 (pN_n hh835 z834 e3260)).trans e3260))
        have e3262 : Tg h852 n777 = 171100 := ((pRT hh851).trans ((pNT hh846 (pN_n hh846 z845 e3261)).trans e3261))
        have e3263 : Tg h863 n777 = 171100 := ((pRT hh862).trans ((pNT hh857 (pN_n hh857 z856 e3262)).trans e3262))
        have e3264 : Tg h874 n777 = 171100 := ((pRT hh873).trans ((pNT hh868 (pN_n hh868 z867 e3263)).trans e3263))
        have e3265 : Tg h885 n777 = 171100 := ((pRT hh884).trans ((pNT hh879 (pN_n hh879 z878 e3264)).trans e3264))
        have e3266 : Tg h915 n777 = 171100 := ((pIT hh914).trans ((pIT hh910).trans (fxT F904 ((pRT hh895).trans ((pNT hh890 (pN_n hh890 z889 e3265)).trans e3265)))))
        have e3267 : Rv h915 a0 72 = n788 := ((pIR hh914).trans ((pIR hh910).trans ((fxR F904 e917 rfl).trans ((pR_j hh895 (by decide)).trans ((pNR hh890 (pN_n hh890 z889 e893)).trans ((pR_j hh884 (by decide)).trans ((pNR hh879 (pN_n hh879 z878 e882)).trans ((pR_j hh873 (by decide)).trans ((pNR hh868 (pN_n hh868 z867 e871)).trans ((pR_j hh862 (by decide)).trans ((pNR hh857 (pN_n hh857 z856 e860)).trans ((pR_j hh851 (by decide)).trans ((pNR hh846 (pN_n hh846 z845 e849)).trans ((pR_j hh840 (by decide)).trans ((pNR hh835 (pN_n hh835 z834 e838)).trans ((pR_j hh829 (by decide)).trans ((pNR hh824 (pN_n hh824 z823 e827)).trans ((pR_j hh818 (by decide)).trans ((pNR hh813 (pN_n hh813 z812 e816)).trans ((pR_j hh807 (by decide)).trans ((pNR hh802 (pN_n hh802 z801 e805)).trans (pR_e hh796))))))))))))))))))))))
        have e3268 : Tg h797 n788 = 172102 := ((pRT hh796).trans (pN_T hh791))
        have e3269 : Tg h808 n788 = 172102 := ((pRT hh807).trans ((pNT hh802 (pN_n hh802 z801 e3268)).trans e3268))
        have e3270 : Tg h819 n788 = 172102 := ((pRT hh818).trans ((pNT hh813 (pN_n hh813 z812 e3269)).trans e3269))
        have e3271 : Tg h830 n788 = 172102 := ((pRT hh829).trans ((pNT hh824 (pN_n hh824 z823 e3270)).trans e3270))
        have e3272 : Tg h841 n788 = 172102 := ((pRT hh840).trans ((pNT hh835 (pN_n hh835 z834 e3271)).trans e3271))
        have e3273 : Tg h852 n788 = 172102 := ((pRT hh851).trans ((pNT hh846 (pN_n hh846 z845 e3272)).trans e3272))
        have e3274 : Tg h863 n788 = 172102 := ((pRT hh862).trans ((pNT hh857 (pN_n hh857 z856 e3273)).trans e3273))
        have e3275 : Tg h874 n788 = 172102 := ((pRT hh873).trans ((pNT hh868 (pN_n hh868 z867 e3274)).trans e3274))
        have e3276 : Tg h885 n788 = 172102 := ((pRT hh884).trans ((pNT hh879 (pN_n hh879 z878 e3275)).trans e3275))
        have e3277 : Tg h915 n788 = 172102 := ((pIT hh914).trans ((pIT hh910).trans (fxT F904 ((pRT hh895).trans ((pNT hh890 (pN_n hh890 z889 e3276)).trans e3276)))))
        have e3278 : Rv h915 a0 73 = n799 := ((pIR hh914).trans ((pIR hh910).trans ((fxR F904 e917 rfl).trans ((pR_j hh895 (by decide)).trans ((pNR hh890 (pN_n hh890 z889 e893)).trans ((pR_j hh884 (by decide)).trans ((pNR hh879 (pN_n hh879 z878 e882)).trans ((pR_j hh873 (by decide)).trans ((pNR hh868 (pN_n hh868 z867 e871)).trans ((pR_j hh862 (by decide)).trans ((pNR hh857 (pN_n hh857 z856 e860)).trans ((pR_j hh851 (by decide)).trans ((pNR hh846 (pN_n hh846 z845 e849)).trans ((pR_j hh840 (by decide)).trans ((pNR hh835 (pN_n hh835 z834 e838)).trans ((pR_j hh829 (by decide)).trans ((pNR hh824 (pN_n hh824 z823 e827)).trans ((pR_j hh818 (by decide)).trans ((pNR hh813 (pN_n hh813 z812 e816)).trans (pR_e hh807))))))))))))))))))))
        have e3279 : Tg h808 n799 = 173101 := ((pRT hh807).trans (pN_T hh802))
        have e3280 : Tg h819 n799 = 173101 := ((pRT hh818).trans ((pNT hh813 (pN_n hh813 z812 e3279)).trans e3279))
        have e3281 : Tg h830 n799 = 173101 := ((pRT hh829).trans ((pNT hh824 (pN_n hh824 z823 e3280)).trans e3280))
        have e3282 : Tg h841 n799 = 173101 := ((pRT hh840).trans ((pNT hh835 (pN_n hh835 z834 e3281)).trans e3281))
        have e3283 : Tg h852 n799 = 173101 := ((pRT hh851).trans ((pNT hh846 (pN_n hh846 z845 e3282)).trans e3282))
        have e3284 : Tg h863 n799 = 173101 := ((pRT hh862).trans ((pNT hh857 (pN_n hh857 z856 e3283)).trans e3283))
        have e3285 : Tg h874 n799 = 173101 := ((pRT hh873).trans ((pNT hh868 (pN_n hh868 z867 e3284)).trans e3284))
        have e3286 : Tg h885 n799 = 173101 := ((pRT hh884).trans ((pNT hh879 (pN_n hh879 z878 e3285)).trans e3285))
        have e3287 : Tg h915 n799 = 173101 := ((pIT hh914).trans ((pIT hh910).trans (fxT F904 ((pRT hh895).trans ((pNT hh890 (pN_n hh890 z889 e3286)).trans e3286)))))
        have e3288 : Rv h915 a0 74 = n810 := ((pIR hh914).trans ((pIR hh910).trans ((fxR F904 e917 rfl).trans ((pR_j hh895 (by decide)).trans ((pNR hh890 (pN_n hh890 z889 e893)).trans ((pR_j hh884 (by decide)).trans ((pNR hh879 (pN_n hh879 z878 e882)).trans ((pR_j hh873 (by decide)).trans ((pNR hh868 (pN_n hh868 z867 e871)).trans ((pR_j hh862 (by decide)).trans ((pNR hh857 (pN_n hh857 z856 e860)).trans ((pR_j hh851 (by decide)).trans ((pNR hh846 (pN_n hh846 z845 e849)).trans ((pR_j hh840 (by decide)).trans ((pNR hh835 (pN_n hh835 z834 e838)).trans ((pR_j hh829 (by decide)).trans ((pNR hh824 (pN_n hh824 z823 e827)).trans (pR_e hh818))))))))))))))))))
        have e3289 : Tg h819 n810 = 174101 := ((pRT hh818).trans (pN_T hh813))
        have e3290 : Tg h830 n810 = 174101 := ((pRT hh829).trans ((pNT hh824 (pN_n hh824 z823 e3289)).trans e3289))
        have e3291 : Tg h841 n810 = 174101 := ((pRT hh840).trans ((pNT hh835 (pN_n hh835 z834 e3290)).trans e3290))
        have e3292 : Tg h852 n810 = 174101 := ((pRT hh851).trans ((pNT hh846 (pN_n hh846 z845 e3291)).trans e3291))
        have e3293 : Tg h863 n810 = 174101 := ((pRT hh862).trans ((pNT hh857 (pN_n hh857 z856 e3292)).trans e3292))
        have e3294 : Tg h874 n810 = 174101 := ((pRT hh873).trans ((pNT hh868 (pN_n hh868 z867 e3293)).trans e3293))
        have e3295 : Tg h885 n810 = 174101 := ((pRT hh884).trans ((pNT hh879 (pN_n hh879 z878 e3294)).trans e3294))
        have e3296 : Tg h915 n810 = 174101 := ((pIT hh914).trans ((pIT hh910).trans (fxT F904 ((pRT hh895).trans ((pNT hh890 (pN_n hh890 z889 e3295)).trans e3295)))))
        have e3297 : Rv h915 a0 75 = n821 := ((pIR hh914).trans ((pIR hh910).trans ((fxR F904 e917 rfl).trans ((pR_j hh895 (by decide)).trans ((pNR hh890 (pN_n hh890 z889 e893)).trans ((pR_j hh884 (by decide)).trans ((pNR hh879 (pN_n hh879 z878 e882)).trans ((pR_j hh873 (by decide)).trans ((pNR hh868 (pN_n hh868 z867 e871)).trans ((pR_j hh862 (by decide)).trans ((pNR hh857 (pN_n hh857 z856 e860)).trans ((pR_j hh851 (by decide)).trans ((pNR hh846 (pN_n hh846 z845 e849)).trans ((pR_j hh840 (by decide)).trans ((pNR hh835 (pN_n hh835 z834 e838)).trans (pR_e hh829))))))))))))))))
        have e3298 : Tg h830 n821 = 175100 := ((pRT hh829).trans (pN_T hh824))
        have e3299 : Tg h841 n821 = 175100 := ((pRT hh840).trans ((pNT hh835 (pN_n hh835 z834 e3298)).trans e3298))
        have e3300 : Tg h852 n821 = 175100 := ((pRT hh851).trans ((pNT hh846 (pN_n hh846 z845 e3299)).trans e3299))
        have e3301 : Tg h863 n821 = 175100 := ((pRT hh862).trans ((pNT hh857 (pN_n hh857 z856 e3300)).trans e3300))
        have e3302 : Tg h874 n821 = 175100 := ((pRT hh873).trans ((pNT hh868 (pN_n hh868 z867 e3301)).trans e3301))
        have e3303 : Tg h885 n821 = 175100 := ((pRT hh884).trans ((pNT hh879 (pN_n hh879 z878 e3302)).trans e3302))
        have e3304 : Tg h915 n821 = 175100 := ((pIT hh914).trans ((pIT hh910).trans (fxT F904 ((pRT hh895).trans ((pNT hh890 (pN_n hh890 z889 e3303)).trans e3303)))))
        have e3305 : Rv h915 a0 76 = n832 := ((pIR hh914).trans ((pIR hh910).trans ((fxR F904 e917 rfl).trans ((pR_j hh895 (by decide)).trans ((pNR hh890 (pN_n hh890 z889 e893)).trans ((pR_j hh884 (by decide)).trans ((pNR hh879 (pN_n hh879 z878 e882)).trans ((pR_j hh873 (by decide)).trans ((pNR hh868 (pN_n hh868 z867 e871)).trans ((pR_j hh862 (by decide)).trans ((pNR hh857 (pN_n hh857 z856 e860)).trans ((pR_j hh851 (by decide)).trans ((pNR hh846 (pN_n hh846 z845 e849)).trans (pR_e hh840))))))))))))))
        have e3306 : Tg h841 n832 = 176100 := ((pRT hh840).trans (pN_T hh835))
        have e3307 : Tg h852 n832 = 176100 := ((pRT hh851).trans ((pNT hh846 (pN_n hh846 z845 e3306)).trans e3306))
        have e3308 : Tg h863 n832 = 176100 := ((pRT hh862).trans ((pNT hh857 (pN_n hh857 z856 e3307)).trans e3307))
        have e3309 : Tg h874 n832 = 176100 := ((pRT hh873).trans ((pNT hh868 (pN_n hh868 z867 e3308)).trans e3308))
        have e3310 : Tg h885 n832 = 176100 := ((pRT hh884).trans ((pNT hh879 (pN_n hh879 z878 e3309)).trans e3309))
        have e3311 : Tg h915 n832 = 176100 := ((pIT hh914).trans ((pIT hh910).trans (fxT F904 ((pRT hh895).trans ((pNT hh890 (pN_n hh890 z889 e3310)).trans e3310)))))
        have e3312 : Rv h915 a0 81 = n843 := ((pIR hh914).trans ((pIR hh910).trans ((fxR F904 e917 rfl).trans ((pR_j hh895 (by decide)).trans ((pNR hh890 (pN_n hh890 z889 e893)).trans ((pR_j hh884 (by decide)).trans ((pNR hh879 (pN_n hh879 z878 e882)).trans ((pR_j hh873 (by decide)).trans ((pNR hh868 (pN_n hh868 z867 e871)).trans ((pR_j hh862 (by decide)).trans ((pNR hh857 (pN_n hh857 z856 e860)).trans (pR_e hh851))))))))))))
        have e3313 : Tg h852 n843 = 181100 := ((pRT hh851).trans (pN_T hh846))
        have e3314 : Tg h863 n843 = 181100 := ((pRT hh862).trans ((pNT hh857 (pN_n hh857 z856 e3313)).trans e3313))
        have e3315 : Tg h874 n843 = 181100 := ((pRT hh873).trans ((pNT hh868 (pN_n hh868 z867 e3314)).trans e3314))
        have e3316 : Tg h885 n843 = 181100 := ((pRT hh884).trans ((pNT hh879 (pN_n hh879 z878 e3315)).trans e3315))
        have e3317 : Tg h915 n843 = 181100 := ((pIT hh914).trans ((pIT hh910).trans (fxT F904 ((pRT hh895).trans ((pNT hh890 (pN_n hh890 z889 e3316)).trans e3316)))))
        have e3318 : Rv h915 a0 82 = n854 := ((pIR hh914).trans ((pIR hh910).trans ((fxR F904 e917 rfl).trans ((pR_j hh895 (by decide)).trans ((pNR hh890 (pN_n hh890 z889 e893)).trans ((pR_j hh884 (by decide)).trans ((pNR hh879 (pN_n hh879 z878 e882)).trans ((pR_j hh873 (by decide)).trans ((pNR hh868 (pN_n hh868 z867 e871)).trans (pR_e hh862))))))))))
        have e3319 : Tg h863 n854 = 182101 := ((pRT hh862).trans (pN_T hh857))
        have e3320 : Tg h874 n854 = 182101 := ((pRT hh873).trans ((pNT hh868 (pN_n hh868 z867 e3319)).trans e3319))
        have e3321 : Tg h885 n854 = 182101 := ((pRT hh884).trans ((pNT hh879 (pN_n hh879 z878 e3320)).trans e3320))
        have e3322 : Tg h915 n854 = 182101 := ((pIT hh914).trans ((pIT hh910).trans (fxT F904 ((pRT hh895).trans ((pNT hh890 (pN_n hh890 z889 e3321)).trans e3321)))))
        have e3323 : Rv h915 a0 84 = n865 := ((pIR hh914).trans ((pIR hh910).trans ((fxR F904 e917 rfl).trans ((pR_j hh895 (by decide)).trans ((pNR hh890 (pN_n hh890 z889 e893)).trans ((pR_j hh884 (by decide)).trans ((pNR hh879 (pN_n hh879 z878 e882)).trans (pR_e hh873))))))))
        have e3324 : Tg h874 n865 = 184100 := ((pRT hh873).trans (pN_T hh868))
        have e3325 : Tg h885 n865 = 184100 := ((pRT hh884).trans ((pNT hh879 (pN_n hh879 z878 e3324)).trans e3324))
        have e3326 : Tg h915 n865 = 184100 := ((pIT hh914).trans ((pIT hh910).trans (fxT F904 ((pRT hh895).trans ((pNT hh890 (pN_n hh890 z889 e3325)).trans e3325)))))
        have e3327 : Rv h915 a0 85 = n876 := ((pIR hh914).trans ((pIR hh910).trans ((fxR F904 e917 rfl).trans ((pR_j hh895 (by decide)).trans ((pNR hh890 (pN_n hh890 z889 e893)).trans (pR_e hh884))))))
        have e3328 : Tg h885 n876 = 185100 := ((pRT hh884).trans (pN_T hh879))
        have e3329 : Tg h915 n876 = 185100 := ((pIT hh914).trans ((pIT hh910).trans (fxT F904 ((pRT hh895).trans ((pNT hh890 (pN_n hh890 z889 e3328)).trans e3328)))))
        have e3330 : Rv h915 a0 86 = n887 := ((pIR hh914).trans ((pIR hh910).trans ((fxR F904 e917 rfl).trans (pR_e hh895))))
        have e3331 : Tg h915 n887 = 186100 := ((pIT hh914).trans ((pIT hh910).trans (fxT F904 ((pRT hh895).trans (pN_T hh890)))))
        have e3332 : Iv h915 a0 10 = 0 := ((pI_j hh914 (by decide)).trans ((pI_j hh910 (by decide)).trans ((fxI F904 e917 rfl).trans ((pRI hh895).trans ((pNI hh890 (pN_n hh890 z889 e893)).trans ((pRI hh884).trans ((pNI hh879 (pN_n hh879 z878 e882)).trans ((pRI hh873).trans ((pNI hh868 (pN_n hh868 z867 e871)).trans ((pRI hh862).trans ((pNI hh857 (pN_n hh857 z856 e860)).trans ((pRI hh851).trans ((pNI hh846 (pN_n hh846 z845 e849)).trans ((pRI hh840).trans ((pNI hh835 (pN_n hh835 z834 e838)).trans ((pRI hh829).trans ((pNI hh824 (pN_n hh824 z823 e827)).trans ((pRI hh818).trans ((pNI hh813 (pN_n hh813 z812 e816)).trans ((pRI hh807).trans ((pNI hh802 (pN_n hh802 z801 e805)).trans ((pRI hh796).trans ((pNI hh791 (pN_n hh791 z790 e794)).trans ((pRI hh785).trans ((pNI hh780 (pN_n hh780 z779 e783)).trans ((pRI hh774).trans ((pNI hh769 (pN_n hh769 z768 e772)).trans ((pRI hh763).trans ((pNI hh758 (pN_n hh758 z757 e761)).trans ((pRI hh752).trans ((pNI hh747 (pN_n hh747 z746 e750)).trans ((pRI hh741).trans ((pNI hh736 (pN_n hh736 z735 e739)).trans ((pRI hh730).trans ((pNI hh725 (pN_n hh725 z724 e728)).trans ((pRI hh719).trans ((pNI hh714 (pN_n hh714 z713 e717)).trans ((pRI hh708).trans ((pNI hh703 (pN_n hh703 z702 e706)).trans ((pRI hh697).trans ((pNI hh692 (pN_n hh692 z691 e695)).trans ((pRI hh686).trans ((pNI hh681 (pN_n hh681 z680 e684)).trans ((pRI hh675).trans ((pNI hh670 (pN_n hh670 z669 e673)).trans ((pRI hh664).trans ((pNI hh659 (pN_n hh659 z658 e662)).trans ((pRI hh653).trans ((pNI hh648 (pN_n hh648 z647 e651)).trans ((pRI hh642).trans ((pNI hh637 (pN_n hh637 z636 e640)).trans ((pRI hh631).trans ((pNI hh626 (pN_n hh626 z625 e629)).trans ((pRI hh620).trans ((pNI hh615 (pN_n hh615 z614 e618)).trans ((pRI hh609).trans ((pNI hh604 (pN_n hh604 z603 e607)).trans ((pRI hh598).trans ((pNI hh593 (pN_n hh593 z592 e596)).trans ((pRI hh587).trans ((pNI hh582 (pN_n hh582 z581 e585)).trans ((pRI hh576).trans ((pNI hh571 (pN_n hh571 z570 e574)).trans ((pRI hh565).trans ((pNI hh560 (pN_n hh560 z559 e563)).trans ((pRI hh554).trans ((pNI hh549 (pN_n hh549 z548 e552)).trans ((pRI hh543).trans ((pNI hh538 (pN_n hh538 z537 e541)).trans ((pRI hh532).trans ((pNI hh527 (pN_n hh527 z526 e530)).trans ((pRI hh521).trans ((pNI hh516 (pN_n hh516 z515 e519)).trans ((pRI hh510).trans ((pNI hh505 (pN_n hh505 z504 e508)).trans ((pRI hh499).trans ((pNI hh494 (pN_n hh494 z493 e497)).trans ((pRI hh488).trans ((pNI hh483 (pN_n hh483 z482 e486)).trans ((pRI hh477).trans ((pNI hh472 (pN_n hh472 z471 e475)).trans ((pRI hh466).trans ((pNI hh461 (pN_n hh461 z460 e464)).trans ((pRI hh455).trans ((pNI hh450 (pN_n hh450 z449 e453)).trans ((pRI hh444).trans ((pNI hh439 (pN_n hh439 z438 e442)).trans ((pRI hh433).trans ((pNI hh428 (pN_n hh428 z427 e431)).trans ((pRI hh422).trans ((pNI hh417 (pN_n hh417 z416 e420)).trans ((pRI hh411).trans ((pNI hh406 (pN_n hh406 z405 e409)).trans ((pRI hh400).trans ((pNI hh395 (pN_n hh395 z394 e398)).trans ((pRI hh389).trans ((pNI hh384 (pN_n hh384 z383 e387)).trans ((pRI hh378).trans ((pNI hh373 (pN_n hh373 z372 e376)).trans ((pRI hh367).trans ((pNI hh362 (pN_n hh362 z361 e365)).trans ((pRI hh356).trans ((pNI hh351 (pN_n hh351 z350 e354)).trans ((pRI hh345).trans ((pNI hh340 (pN_n hh340 z339 e343)).trans ((pRI hh334).trans ((pNI hh329 (pN_n hh329 z328 e332)).trans ((pRI hh323).trans ((pNI hh318 (pN_n hh318 z317 e321)).trans ((pRI hh312).trans ((pNI hh307 (pN_n hh307 z306 e310)).trans ((pRI hh301).trans ((pNI hh296 (pN_n hh296 z295 e299)).trans ((pRI hh290).trans ((pNI hh285 (pN_n hh285 z284 e288)).trans ((pRI hh279).trans ((pNI hh274 (pN_n hh274 z273 e277)).trans ((pRI hh268).trans ((pNI hh263 (pN_n hh263 z262 e266)).trans ((pRI hh257).trans ((pNI hh252 (pN_n hh252 z251 e255)).trans ((pRI hh246).trans ((pNI hh241 (pN_n hh241 z240 e244)).trans ((pRI hh235).trans ((pNI hh230 (pN_n hh230 z229 e233)).trans ((pRI hh224).trans ((pNI hh219 (pN_n hh219 z218 e222)).trans ((pRI hh213).trans ((pNI hh208 (pN_n hh208 z207 e211)).trans ((pRI hh200).trans ((pJI hh195).trans ((pJI hh190).trans ((pJI hh185).trans ((pJI hh180).trans ((pJI hh175).trans ((pJI hh170).trans ((pJI hh165).trans ((pJI hh160).trans ((pJI hh155).trans ((pJI hh150).trans ((pJI hh145).trans ((pJI hh140).trans ((pJI hh135).trans ((pJI hh130).trans ((pJI hh125).trans ((pJI hh120).trans ((pJI hh115).trans ((pJI hh110).trans ((pJI hh105).trans ((pJI hh100).trans ((pJI hh95).trans ((pJI hh90).trans ((pJI hh85).trans ((pJI hh80).trans ((pJI hh75).trans ((pJI hh70).trans ((pJI hh65).trans ((pJI hh60).trans ((pJI hh55).trans ((pJI hh50).trans ((pNI hh47 (pN_n hh47 z46 e198)).trans ((pRI hh41).trans ((pNI hh36 (pN_n hh36 z35 e39)).trans ((pRI hh30).trans ((pNI hh25 (pN_n hh25 z24 e28)).trans ((pRI hh19).trans ((pNI hh14 (pN_n hh14 z13 e17)).trans ((pRI hh8).trans ((pNI hh4 (pN_n hh4 z3 ta0)).trans P_zm.1)))))))))))))))))))))))))))))))))))))))))))))))))))))))))))))))))))))))))))))))))))))))))))))))))))))))))))))))))))))))))))))))))))))))))))))))))))))))))))))))))))))))))
        have e3333 : Tg h396 n381 = 127100 := ((pNT hh395 (pN_n hh395 z394 e2158)).trans e2158)
        have e3334 : Tg h407 n381 = 127100 := ((pNT hh406 (pN_n hh406 z405 e2159)).trans e2159)
        have e3335 : Tg h418 n381 = 127100 := ((pNT hh417 (pN_n hh417 z416 e2160)).trans e2160)
        have e3336 : Tg h429 n381 = 127100 := ((pNT hh428 (pN_n hh428 z427 e2161)).trans e2161)
        have e3337 : Tg h440 n381 = 127100 := ((pNT hh439 (pN_n hh439 z438 e2162)).trans e2162)
        have e3338 : Tg h451 n381 = 127100 := ((pNT hh450 (pN_n hh450 z449 e2163)).trans e2163)
        have e3339 : Tg h462 n381 = 127100 := ((pNT hh461 (pN_n hh461 z460 e2164)).trans e2164)
        have e3340 : Tg h473 n381 = 127100 := ((pNT hh472 (pN_n hh472 z471 e2165)).trans e2165)
        have e3341 : Tg h484 n381 = 127100 := ((pNT hh483 (pN_n hh483 z482 e2166)).trans e2166)
        have e3342 : Tg h495 n381 = 127100 := ((pNT hh494 (pN_n hh494 z493 e2167)).trans e2167)
        have e3343 : Tg h506 n381 = 127100 := ((pNT hh505 (pN_n hh505 z504 e2168)).trans e2168)
        have e3344 : Tg h517 n381 = 127100 := ((pNT hh516 (pN_n hh516 z515 e2169)).trans e2169)
        have e3345 : Tg h528 n381 = 127100 := ((pNT hh527 (pN_n hh527 z526 e2170)).trans e2170)
        have e3346 : Tg h539 n381 = 127100 := ((pNT hh538 (pN_n hh538 z537 e2171)).trans e2171)
        have e3347 : Tg h550 n381 = 127100 := ((pNT hh549 (pN_n hh549 z548 e2172)).trans e2172)
        have e3348 : Tg h561 n381 = 127100 := ((pNT hh560 (pN_n hh560 z559 e2173)).trans e2173)
        have e3349 : Tg h572 n381 = 127100 := ((pNT hh571 (pN_n hh571 z570 e2174)).trans e2174)
        have e3350 : Tg h583 n381 = 127100 := ((pNT hh582 (pN_n hh582 z581 e2175)).trans e2175)
        have e3351 : Tg h594 n381 = 127100 := ((pNT hh593 (pN_n hh593 z592 e2176)).trans e2176)
        have e3352 : Tg h605 n381 = 127100 := ((pNT hh604 (pN_n hh604 z603 e2177)).trans e2177)
        have e3353 : Tg h616 n381 = 127100 := ((pNT hh615 (pN_n hh615 z614 e2178)).trans e2178)
        have e3354 : Tg h627 n381 = 127100 := ((pNT hh626 (pN_n hh626 z625 e2179)).trans e2179)
        have e3355 : Tg h638 n381 = 127100 := ((pNT hh637 (pN_n hh637 z636 e2180)).trans e2180)
        have e3356 : Tg h649 n381 = 127100 := ((pNT hh648 (pN_n hh648 z647 e2181)).trans e2181)
        have e3357 : Tg h660 n381 = 127100 := ((pNT hh659 (pN_n hh659 z658 e2182)).trans e2182)
        have e3358 : Tg h671 n381 = 127100 := ((pNT hh670 (pN_n hh670 z669 e2183)).trans e2183)
        have e3359 : Tg h682 n381 = 127100 := ((pNT hh681 (pN_n hh681 z680 e2184)).trans e2184)
        have e3360 : Tg h693 n381 = 127100 := ((pNT hh692 (pN_n hh692 z691 e2185)).trans e2185)
        have e3361 : Tg h704 n381 = 127100 := ((pNT hh703 (pN_n hh703 z702 e2186)).trans e2186)
        have e3362 : Tg h715 n381 = 127100 := ((pNT hh714 (pN_n hh714 z713 e2187)).trans e2187)
        have e3363 : Tg h726 n381 = 127100 := ((pNT hh725 (pN_n hh725 z724 e2188)).trans e2188)
        have e3364 : Tg h737 n381 = 127100 := ((pNT hh736 (pN_n hh736 z735 e2189)).trans e2189)
        have e3365 : Tg h748 n381 = 127100 := ((pNT hh747 (pN_n hh747 z746 e2190)).trans e2190)
        have e3366 : Tg h759 n381 = 127100 := ((pNT hh758 (pN_n hh758 z757 e2191)).trans e2191)
        have e3367 : Tg h770 n381 = 127100 := ((pNT hh769 (pN_n hh769 z768 e2192)).trans e2192)
        have e3368 : Tg h781 n381 = 127100 := ((pNT hh780 (pN_n hh780 z779 e2193)).trans e2193)
        have e3369 : Tg h792 n381 = 127100 := ((pNT hh791 (pN_n hh791 z790 e2194)).trans e2194)
        have e3370 : Tg h803 n381 = 127100 := ((pNT hh802 (pN_n hh802 z801 e2195)).trans e2195)
        have e3371 : Tg h814 n381 = 127100 := ((pNT hh813 (pN_n hh813 z812 e2196)).trans e2196)
        have e3372 : Tg h825 n381 = 127100 := ((pNT hh824 (pN_n hh824 z823 e2197)).trans e2197)
        have e3373 : Tg h836 n381 = 127100 := ((pNT hh835 (pN_n hh835 z834 e2198)).trans e2198)
        have e3374 : Tg h847 n381 = 127100 := ((pNT hh846 (pN_n hh846 z845 e2199)).trans e2199)
        have e3375 : Tg h858 n381 = 127100 := ((pNT hh857 (pN_n hh857 z856 e2200)).trans e2200)
        have e3376 : Tg h869 n381 = 127100 := ((pNT hh868 (pN_n hh868 z867 e2201)).trans e2201)
        have e3377 : Tg h880 n381 = 127100 := ((pNT hh879 (pN_n hh879 z878 e2202)).trans e2202)
        have e3378 : Tg h891 n381 = 127100 := ((pNT hh890 (pN_n hh890 z889 e2203)).trans e2203)
        have e3379 : Tg h896 n381 = 127100 := ((pRT hh895).trans e3378)
        have e3380 : Tg h899 n381 = 127100 := (fxT F904 e3379)
        have e3381 : Tg h911 n381 = 127100 := ((pIT hh910).trans e3380)
        have p3382 := (LZ_fx ((Fx.rf (wr := [202435]) (h := h911)).pI e913 hh914 rfl) e3381 rfl (LZ_fx ((Fx.rf (wr := [202434]) (h := h899)).pI e909 hh910 rfl) e3380 rfl (LZ_fx F904 e3379 rfl (LZ_fx ((Fx.rf (wr := [202486]) (h := h891)).pR e894 hh895 rfl) e3378 rfl (LZ_fx ((Fx.rf (wr := [1000186100]) (h := h885)).pN z889 hh890 rfl) e2203 rfl (LZ_fx ((Fx.rf (wr := [202485]) (h := h880)).pR e883 hh884 rfl) e3377 rfl (LZ_fx ((Fx.rf (wr := [1000185100]) (h := h874)).pN z878 hh879 rfl) e2202 rfl (LZ_fx ((Fx.rf (wr := [202484]) (h := h869)).pR e872 hh873 rfl) e3376 rfl (LZ_fx ((Fx.rf (wr := [1000184100]) (h := h863)).pN z867 hh868 rfl) e2201 rfl (LZ_fx ((Fx.rf (wr := [202482]) (h := h858)).pR e861 hh862 rfl) e3375 rfl (LZ_fx ((Fx.rf (wr := [1000182101]) (h := h852)).pN z856 hh857 rfl) e2200 rfl (LZ_fx ((Fx.rf (wr := [202481]) (h := h847)).pR e850 hh851 rfl) e3374 rfl (LZ_fx ((Fx.rf (wr := [1000181100]) (h := h841)).pN z845 hh846 rfl) e2199 rfl (LZ_fx ((Fx.rf (wr := [202476]) (h := h836)).pR e839 hh840 rfl) e3373 rfl (LZ_fx ((Fx.rf (wr := [1000176100]) (h := h830)).pN z834 hh835 rfl) e2198 rfl (LZ_fx ((Fx.rf (wr := [202475]) (h := h825)).pR e828 hh829 rfl) e3372 rfl (LZ_fx ((Fx.rf (wr := [1000175100]) (h := h819)).pN z823 hh824 rfl) e2197 rfl (LZ_fx ((Fx.rf (wr := [202474]) (h := h814)).pR e817 hh818 rfl) e3371 rfl (LZ_fx ((Fx.rf (wr := [1000174101]) (h := h808)).pN z812 hh813 rfl) e2196 rfl (LZ_fx ((Fx.rf (wr := [202473]) (h := h803)).pR e806 hh807 rfl) e3370 rfl (LZ_fx ((Fx.rf (wr := [1000173101]) (h := h797)).pN z801 hh802 rfl) e2195 rfl (LZ_fx ((Fx.rf (wr := [202472]) (h := h792)).pR e795 hh796 rfl) e3369 rfl (LZ_fx ((Fx.rf (wr := [1000172102]) (h := h786)).pN z790 hh791 rfl) e2194 rfl (LZ_fx ((Fx.rf (wr := [202471]) (h := h781)).pR e784 hh785 rfl) e3368 rfl (LZ_fx ((Fx.rf (wr := [1000171100]) (h := h775)).pN z779 hh780 rfl) e2193 rfl (LZ_fx ((Fx.rf (wr := [202470]) (h := h770)).pR e773 hh774 rfl) e3367 rfl (LZ_fx ((Fx.rf (wr := [1000170101]) (h := h764)).pN z768 hh769 rfl) e2192 rfl (LZ_fx ((Fx.rf (wr := [202468]) (h := h759)).pR e762 hh763 rfl) e3366 rfl (LZ_fx ((Fx.rf (wr := [1000168100]) (h := h753)).pN z757 hh758 rfl) e2191 rfl (LZ_fx ((Fx.rf (wr := [202467]) (h := h748)).pR e751 hh752 rfl) e3365 rfl (LZ_fx ((Fx.rf (wr := [1000167100]) (h := h742)).pN z746 hh747 rfl) e2190 rfl (LZ_fx ((Fx.rf (wr := [202466]) (h := h737)).pR e740 hh741 rfl) e3364 rfl (LZ_fx ((Fx.rf (wr := [1000166100]) (h := h731)).pN z735 hh736 rfl) e2189 rfl (LZ_fx ((Fx.rf (wr := [202465]) (h := h726)).pR e729 hh730 rfl) e3363 rfl (LZ_fx ((Fx.rf (wr := [1000165100]) (h := h720)).pN z724 hh725 rfl) e2188 rfl (LZ_fx ((Fx.rf (wr := [202464]) (h := h715)).pR e718 hh719 rfl) e3362 rfl (LZ_fx ((Fx.rf (wr := [1000164100]) (h := h709)).pN z713 hh714 rfl) e2187 rfl (LZ_fx ((Fx.rf (wr := [202463]) (h := h704)).pR e707 hh708 rfl) e3361 rfl (LZ_fx ((Fx.rf (wr := [1000163100]) (h := h698)).pN z702 hh703 rfl) e2186 rfl (LZ_fx ((Fx.rf (wr := [202461]) (h := h693)).pR e696 hh697 rfl) e3360 rfl (LZ_fx ((Fx.rf (wr := [1000161100]) (h := h687)).pN z691 hh692 rfl) e2185 rfl (LZ_fx ((Fx.rf (wr := [202460]) (h := h682)).pR e685 hh686 rfl) e3359 rfl (LZ_fx ((Fx.rf (wr := [1000160100]) (h := h676)).pN z680 hh681 rfl) e2184 rfl (LZ_fx ((Fx.rf (wr := [202459]) (h := h671)).pR e674 hh675 rfl) e3358 rfl (LZ_fx ((Fx.rf (wr := [1000159100]) (h := h665)).pN z669 hh670 rfl) e2183 rfl (LZ_fx ((Fx.rf (wr := [202458]) (h := h660)).pR e663 hh664 rfl) e3357 rfl (LZ_fx ((Fx.rf (wr := [1000158101]) (h := h654)).pN z658 hh659 rfl) e2182 rfl (LZ_fx ((Fx.rf (wr := [202456]) (h := h649)).pR e652 hh653 rfl) e3356 rfl (LZ_fx ((Fx.rf (wr := [1000156100]) (h := h643)).pN z647 hh648 rfl) e2181 rfl (LZ_fx ((Fx.rf (wr := [202455]) (h := h638)).pR e641 hh642 rfl) e3355 rfl (LZ_fx ((Fx.rf (wr := [1000155100]) (h := h632)).pN z636 hh637 rfl) e2180 rfl (LZ_fx ((Fx.rf (wr := [202454]) (h := h627)).pR e630 hh631 rfl) e3354 rfl (LZ_fx ((Fx.rf (wr := [1000154100]) (h := h621)).pN z625 hh626 rfl) e2179 rfl (LZ_fx ((Fx.rf (wr := [202453]) (h := h616)).pR e619 hh620 rfl) e3353 rfl (LZ_fx ((Fx.rf (wr := [1000153101]) (h := h610)).pN z614 hh615 rfl) e2178 rfl (LZ_fx ((Fx.rf (wr := [202452]) (h := h605)).pR e608 hh609 rfl) e3352 rfl (LZ_fx ((Fx.rf (wr := [1000152101]) (h := h599)).pN z603 hh604 rfl) e2177 rfl (LZ_fx ((Fx.rf (wr := [202451]) (h := h594)).pR e597 hh598 rfl) e3351 rfl (LZ_fx ((Fx.rf (wr := [1000151100]) (h := h588)).pN z592 hh593 rfl) e2176 rfl (LZ_fx ((Fx.rf (wr := [202450]) (h := h583)).pR e586 hh587 rfl) e3350 rfl (LZ_fx ((Fx.rf (wr := [1000150100]) (h := h577)).pN z581 hh582 rfl) e2175 rfl (LZ_fx ((Fx.rf (wr := [202449]) (h := h572)).pR e575 hh576 rfl) e3349 rfl (LZ_fx ((Fx.rf (wr := [1000149100]) (h := h566)).pN z570 hh571 rfl) e2174 rfl (LZ_fx ((Fx.rf (wr := [202448]) (h := h561)).pR e564 hh565 rfl) e3348 rfl (LZ_fx ((Fx.rf (wr := [1000148100]) (h := h555)).pN z559 hh560 rfl) e2173 rfl (LZ_fx ((Fx.rf (wr := [202447]) (h := h550)).pR e553 hh554 rfl) e3347 rfl (LZ_fx ((Fx.rf (wr := [1000147100]) (h := h544)).pN z548 hh549 rfl) e2172 rfl (LZ_fx ((Fx.rf (wr := [202446]) (h := h539)).pR e542 hh543 rfl) e3346 rfl (LZ_fx ((Fx.rf (wr := [1000146100]) (h := h533)).pN z537 hh538 rfl) e2171 rfl (LZ_fx ((Fx.rf (wr := [202445]) (h := h528)).pR e531 hh532 rfl) e3345 rfl (LZ_fx ((Fx.rf (wr := [1000145100]) (h := h522)).pN z526 hh527 rfl) e2170 rfl (LZ_fx ((Fx.rf (wr := [202444]) (h := h517)).pR e520 hh521 rfl) e3344 rfl (LZ_fx ((Fx.rf (wr := [1000144100]) (h := h511)).pN z515 hh516 rfl) e2169 rfl (LZ_fx ((Fx.rf (wr := [202443]) (h := h506)).pR e509 hh510 rfl) e3343 rfl (LZ_fx ((Fx.rf (wr := [1000143100]) (h := h500)).pN z504 hh505 rfl) e2168 rfl (LZ_fx ((Fx.rf (wr := [202442]) (h := h495)).pR e498 hh499 rfl) e3342 rfl (LZ_fx ((Fx.rf (wr := [1000142100]) (h := h489)).pN z493 hh494 rfl) e2167 rfl (LZ_fx ((Fx.rf (wr := [202441]) (h := h484)).pR e487 hh488 rfl) e3341 rfl (LZ_fx ((Fx.rf (wr := [1000141100]) (h := h478)).pN z482 hh483 rfl) e2166 rfl (LZ_fx ((Fx.rf (wr := [202439]) (h := h473)).pR e476 hh477 rfl) e3340 rfl (LZ_fx ((Fx.rf (wr := [1000139100]) (h := h467)).pN z471 hh472 rfl) e2165 rfl (LZ_fx ((Fx.rf (wr := [202438]) (h := h462)).pR e465 hh466 rfl) e3339 rfl (LZ_fx ((Fx.rf (wr := [1000138101]) (h := h456)).pN z460 hh461 rfl) e2164 rfl (LZ_fx ((Fx.rf (wr := [202437]) (h := h451)).pR e454 hh455 rfl) e3338 rfl (LZ_fx ((Fx.rf (wr := [1000137101]) (h := h445)).pN z449 hh450 rfl) e2163 rfl (LZ_fx ((Fx.rf (wr := [202436]) (h := h440)).pR e443 hh444 rfl) e3337 rfl (LZ_fx ((Fx.rf (wr := [1000136100]) (h := h434)).pN z438 hh439 rfl) e2162 rfl (LZ_fx ((Fx.rf (wr := [202432]) (h := h429)).pR e432 hh433 rfl) e3336 rfl (LZ_fx ((Fx.rf (wr := [1000132100]) (h := h423)).pN z427 hh428 rfl) e2161 rfl (LZ_fx ((Fx.rf (wr := [202431]) (h := h418)).pR e421 hh422 rfl) e3335 rfl (LZ_fx ((Fx.rf (wr := [1000131100]) (h := h412)).pN z416 hh417 rfl) e2160 rfl (LZ_fx ((Fx.rf (wr := [202430]) (h := h407)).pR e410 hh411 rfl) e3334 rfl (LZ_fx ((Fx.rf (wr := [1000130100]) (h := h401)).pN z405 hh406 rfl) e2159 rfl (LZ_fx ((Fx.rf (wr := [202429]) (h := h396)).pR e399 hh400 rfl) e3333 rfl (LZ_fx ((Fx.rf (wr := [1000129100]) (h := h390)).pN z394 hh395 rfl) e2158 rfl (LZ_fx ((Fx.rf (wr := [202427]) (h := h385)).pR e388 hh389 rfl) (pN_T hh384) rfl (LZ_new hh384)))))))))))))))))))))))))))))))))))))))))))))))))))))))))))))))))))))))))))))))))))))))))))))))))
        exact g_vret C hr ⟨O916, ((((((((((((((((((((((((((((((((((((((((((((((((((((((((((((((((((((((((((((((((((((((((((((((((((((((((((((((((((((((((((((((((((((((((((((((((((((((((((((((((((((((((((Fx.rf (wr := wr_k_X12_init)).pN z3 hh4 rfl).pR e7 hh8 rfl).pN z13 hh14 rfl).pR e18 hh19 rfl).pN z24 hh25 rfl).pR e29 hh30 rfl).pN z35 hh36 rfl).pR e40 hh41 rfl).pN z46 hh47 rfl).pJa (pN_T hh47) ar_109102 hh50 rfl).pJa e53 ar_109102 hh55 rfl).pJa e58 ar_109102 hh60 rfl).pJa e63 ar_109102 hh65 rfl).pJa e68 ar_109102 hh70 rfl).pJa e73 ar_109102 hh75 rfl).pJa e78 ar_109102 hh80 rfl).pJa e83 ar_109102 hh85 rfl).pJa e88 ar_109102 hh90 rfl).pJa e93 ar_109102 hh95 rfl).pJa e98 ar_109102 hh100 rfl).pJa e103 ar_109102 hh105 rfl).pJa e108 ar_109102 hh110 rfl).pJa e113 ar_109102 hh115 rfl).pJa e118 ar_109102 hh120 rfl).pJa e123 ar_109102 hh125 rfl).pJa e128 ar_109102 hh130 rfl).pJa e133 ar_109102 hh135 rfl).pJa e138 ar_109102 hh140 rfl).pJa e143 ar_109102 hh145 rfl).pJa e148 ar_109102 hh150 rfl).pJa e153 ar_109102 hh155 rfl).pJa e158 ar_109102 hh160 rfl).pJa e163 ar_109102 hh165 rfl).pJa e168 ar_109102 hh170 rfl).pJa e173 ar_109102 hh175 rfl).pJa e178 ar_109102 hh180 rfl).pJa e183 ar_109102 hh185 rfl).pJa e188 ar_109102 hh190 rfl).pJa e193 ar_109102 hh195 rfl).pR e199 hh200 rfl).pN z207 hh208 rfl).pR e212 hh213 rfl).pN z218 hh219 rfl).pR e223 hh224 rfl).pN z229 hh230 rfl).pR e234 hh235 rfl).pN z240 hh241 rfl).pR e245 hh246 rfl).pN z251 hh252 rfl).pR e256 hh257 rfl).pN z262 hh263 rfl).pR e267 hh268 rfl).pN z273 hh274 rfl).pR e278 hh279 rfl).pN z284 hh285 rfl).pR e289 hh290 rfl).pN z295 hh296 rfl).pR e300 hh301 rfl).pN z306 hh307 rfl).pR e311 hh312 rfl).pN z317 hh318 rfl).pR e322 hh323 rfl).pN z328 hh329 rfl).pR e333 hh334 rfl).pN z339 hh340 rfl).pR e344 hh345 rfl).pN z350 hh351 rfl).pR e355 hh356 rfl).pN z361 hh362 rfl).pR e366 hh367 rfl).pN z372 hh373 rfl).pR e377 hh378 rfl).pN z383 hh384 rfl).pR e388 hh389 rfl).pN z394 hh395 rfl).pR e399 hh400 rfl).pN z405 hh406 rfl).pR e410 hh411 rfl).pN z416 hh417 rfl).pR e421 hh422 rfl).pN z427 hh428 rfl).pR e432 hh433 rfl).pN z438 hh439 rfl).pR e443 hh444 rfl).pN z449 hh450 rfl).pR e454 hh455 rfl).pN z460 hh461 rfl).pR e465 hh466 rfl).pN z471 hh472 rfl).pR e476 hh477 rfl).pN z482 hh483 rfl).pR e487 hh488 rfl).pN z493 hh494 rfl).pR e498 hh499 rfl).pN z504 hh505 rfl).pR e509 hh510 rfl).pN z515 hh516 rfl).pR e520 hh521 rfl).pN z526 hh527 rfl).pR e531 hh532 rfl).pN z537 hh538 rfl).pR e542 hh543 rfl).pN z548 hh549 rfl).pR e553 hh554 rfl).pN z559 hh560 rfl).pR e564 hh565 rfl).pN z570 hh571 rfl).pR e575 hh576 rfl).pN z581 hh582 rfl).pR e586 hh587 rfl).pN z592 hh593 rfl).pR e597 hh598 rfl).pN z603 hh604 rfl).pR e608 hh609 rfl).pN z614 hh615 rfl).pR e619 hh620 rfl).pN z625 hh626 rfl).pR e630 hh631 rfl).pN z636 hh637 rfl).pR e641 hh642 rfl).pN z647 hh648 rfl).pR e652 hh653 rfl).pN z658 hh659 rfl).pR e663 hh664 rfl).pN z669 hh670 rfl).pR e674 hh675 rfl).pN z680 hh681 rfl).pR e685 hh686 rfl).pN z691 hh692 rfl).pR e696 hh697 rfl).pN z702 hh703 rfl).pR e707 hh708 rfl).pN z713 hh714 rfl).pR e718 hh719 rfl).pN z724 hh725 rfl).pR e729 hh730 rfl).pN z735 hh736 rfl).pR e740 hh741 rfl).pN z746 hh747 rfl).pR e751 hh752 rfl).pN z757 hh758 rfl).pR e762 hh763 rfl).pN z768 hh769 rfl).pR e773 hh774 rfl).pN z779 hh780 rfl).pR e784 hh785 rfl).pN z790 hh791 rfl).pR e795 hh796 rfl).pN z801 hh802 rfl).pR e806 hh807 rfl).pN z812 hh813 rfl).pR e817 hh818 rfl).pN z823 hh824 rfl).pR e828 hh829 rfl).pN z834 hh835 rfl).pR e839 hh840 rfl).pN z845 hh846 rfl).pR e850 hh851 rfl).pN z856 hh857 rfl).pR e861 hh862 rfl).pN z867 hh868 rfl).pR e872 hh873 rfl).pN z878 hh879 rfl).pR e883 hh884 rfl).pN z889 hh890 rfl).pR e894 hh895 rfl).call F904 rfl).pI e909 hh910 rfl).pI e913 hh914 rfl), (by rw [e918]; exact nz_of O916 e986), (by rw [e987]; exact nz_of O916 e1054), (by rw [e1055]; exact nz_of O916 e1121), (by rw [e1122]; exact nz_of O916 e1187), (by rw [e1188]; exact nz_of O916 e1252), (by rw [e1253]; exact nz_of O916 e1316), (by rw [e1317]; exact nz_of O916 e1379), (by rw [e1380]; exact nz_of O916 e1441), (by rw [e1442]; exact nz_of O916 e1502), (by rw [e1503]; exact nz_of O916 e1562), (by rw [e1563]; exact nz_of O916 e1621), (by rw [e1622]; exact nz_of O916 e1679), (by rw [e1680]; exact nz_of O916 e1736), (by rw [e1737]; exact nz_of O916 e1792), (by rw [e1793]; exact nz_of O916 e1847), (by rw [e1848]; exact nz_of O916 e1901), (by rw [e1902]; exact nz_of O916 e1954), (by rw [e1955]; exact nz_of O916 e2006), (by rw [e2007]; exact nz_of O916 e2057), (by rw [e2058]; exact nz_of O916 e2107), (by rw [e2108]; exact nz_of O916 e2156), (by rw [e2157]; exact nz_of O916 e2204), (by rw [e2205]; exact nz_of O916 e2251), (by rw [e2252]; exact nz_of O916 e2297), (by rw [e2298]; exact nz_of O916 e2342), (by rw [e2343]; exact nz_of O916 e2386), (by rw [e2387]; exact nz_of O916 e2429), (by rw [e2430]; exact nz_of O916 e2471), (by rw [e2472]; exact nz_of O916 e2512), (by rw [e2513]; exact nz_of O916 e2552), (by rw [e2553]; exact nz_of O916 e2591), (by rw [e2592]; exact nz_of O916 e2629), (by rw [e2630]; exact nz_of O916 e2666), (by rw [e2667]; exact nz_of O916 e2702), (by rw [e2703]; exact nz_of O916 e2737), (by rw [e2738]; exact nz_of O916 e2771), (by rw [e2772]; exact nz_of O916 e2804), (by rw [e2805]; exact nz_of O916 e2836), (by rw [e2837]; exact nz_of O916 e2867), (by rw [e2868]; exact nz_of O916 e2897), (by rw [e2898]; exact nz_of O916 e2926), (by rw [e2927]; exact nz_of O916 e2954), (by rw [e2955]; exact nz_of O916 e2981), (by rw [e2982]; exact nz_of O916 e3007), (by rw [e3008]; exact nz_of O916 e3032), (by rw [e3033]; exact nz_of O916 e3056), (by rw [e3057]; exact nz_of O916 e3079), (by rw [e3080]; exact nz_of O916 e3101), (by rw [e3102]; exact nz_of O916 e3122), (by rw [e3123]; exact nz_of O916 e3142), (by rw [e3143]; exact nz_of O916 e3161), (by rw [e3162]; exact nz_of O916 e3179), (by rw [e3180]; exact nz_of O916 e3196), (by rw [e3197]; exact nz_of O916 e3212), (by rw [e3213]; exact nz_of O916 e3227), (by rw [e3228]; exact nz_of O916 e3241), (by rw [e3242]; exact nz_of O916 e3254), (by rw [e3255]; exact nz_of O916 e3266), (by rw [e3267]; exact nz_of O916 e3277), (by rw [e3278]; exact nz_of O916 e3287), (by rw [e3288]; exact nz_of O916 e3296), (by rw [e3297]; exact nz_of O916 e3304), (by rw [e3305]; exact nz_of O916 e3311), (by rw [e3312]; exact nz_of O916 e3317), (by rw [e3318]; exact nz_of O916 e3322), (by rw [e3323]; exact nz_of O916 e3326), (by rw [e3327]; exact nz_of O916 e3329), (by rw [e3330]; exact nz_of O916 e3331), ⟨fun b hb => absurd hb (by rw [e3332]; omega), fun k _ => by rw [e2157, p3382 k]; omega⟩⟩ (by decide) (by decide) dX12_init_814
      · have f3383 : (0 : Int) ≤ x898 ∧ x898 ≤ (95 : Int) := r_lt f905 (il 96) q907 (by decide) (by decide)
        refine g_aload_n C rfl 0 rfl dX12_init_775 ?_
        have e3384 : Tg h899 a0 = 1012 := (fxT F904 ((pRT hh895).trans e894))
        have e3385 : Tg h896 a0 = 1012 := ((pRT hh895).trans e894)
        have e3386 : Rv h899 a0 36 = n436 := ((fxR F904 e3385 rfl).trans ((pR_j hh895 (by decide)).trans ((pNR hh890 (pN_n hh890 z889 e893)).trans ((pR_j hh884 (by decide)).trans ((pNR hh879 (pN_n hh879 z878 e882)).trans ((pR_j hh873 (by decide)).trans ((pNR hh868 (pN_n hh868 z867 e871)).trans ((pR_j hh862 (by decide)).trans ((pNR hh857 (pN_n hh857 z856 e860)).trans ((pR_j hh851 (by decide)).trans ((pNR hh846 (pN_n hh846 z845 e849)).trans ((pR_j hh840 (by decide)).trans ((pNR hh835 (pN_n hh835 z834 e838)).trans ((pR_j hh829 (by decide)).trans ((pNR hh824 (pN_n hh824 z823 e827)).trans ((pR_j hh818 (by decide)).trans ((pNR hh813 (pN_n hh813 z812 e816)).trans ((pR_j hh807 (by decide)).trans ((pNR hh802 (pN_n hh802 z801 e805)).trans ((pR_j hh796 (by decide)).trans ((pNR hh791 (pN_n hh791 z790 e794)).trans ((pR_j hh785 (by decide)).trans ((pNR hh780 (pN_n hh780 z779 e783)).trans ((pR_j hh774 (by decide)).trans ((pNR hh769 (pN_n hh769 z768 e772)).trans ((pR_j hh763 (by decide)).trans ((pNR hh758 (pN_n hh758 z757 e761)).trans ((pR_j hh752 (by decide)).trans ((pNR hh747 (pN_n hh747 z746 e750)).trans ((pR_j hh741 (by decide)).trans ((pNR hh736 (pN_n hh736 z735 e739)).trans ((pR_j hh730 (by decide)).trans ((pNR hh725 (pN_n hh725 z724 e728)).trans ((pR_j hh719 (by decide)).trans ((pNR hh714 (pN_n hh714 z713 e717)).trans ((pR_j hh708 (by decide)).trans ((pNR hh703 (pN_n hh703 z702 e706)).trans ((pR_j hh697 (by decide)).trans ((pNR hh692 (pN_n hh692 z691 e695)).trans ((pR_j hh686 (by decide)).trans ((pNR hh681 (pN_n hh681 z680 e684)).trans ((pR_j hh675 (by decide)).trans ((pNR hh670 (pN_n hh670 z669 e673)).trans ((pR_j hh664 (by decide)).trans ((pNR hh659 (pN_n hh659 z658 e662)).trans ((pR_j hh653 (by decide)).trans ((pNR hh648 (pN_n hh648 z647 e651)).trans ((pR_j hh642 (by decide)).trans ((pNR hh637 (pN_n hh637 z636 e640)).trans ((pR_j hh631 (by decide)).trans ((pNR hh626 (pN_n hh626 z625 e629)).trans ((pR_j hh620 (by decide)).trans ((pNR hh615 (pN_n hh615 z614 e618)).trans ((pR_j hh609 (by decide)).trans ((pNR hh604 (pN_n hh604 z603 e607)).trans ((pR_j hh598 (by decide)).trans ((pNR hh593 (pN_n hh593 z592 e596)).trans ((pR_j hh587 (by decide)).trans ((pNR hh582 (pN_n hh582 z581 e585)).trans ((pR_j hh576 (by decide)).trans ((pNR hh571 (pN_n hh571 z570 e574)).trans ((pR_j hh565 (by decide)).trans ((pNR hh560 (pN_n hh560 z559 e563)).trans ((pR_j hh554 (by decide)).trans ((pNR hh549 (pN_n hh549 z548 e552)).trans ((pR_j hh543 (by decide)).trans ((pNR hh538 (pN_n hh538 z537 e541)).trans ((pR_j hh532 (by decide)).trans ((pNR hh527 (pN_n hh527 z526 e530)).trans ((pR_j hh521 (by decide)).trans ((pNR hh516 (pN_n hh516 z515 e519)).trans ((pR_j hh510 (by decide)).trans ((pNR hh505 (pN_n hh505 z504 e508)).trans ((pR_j hh499 (by decide)).trans ((pNR hh494 (pN_n hh494 z493 e497)).trans ((pR_j hh488 (by decide)).trans ((pNR hh483 (pN_n hh483 z482 e486)).trans ((pR_j hh477 (by decide)).trans ((pNR hh472 (pN_n hh472 z471 e475)).trans ((pR_j hh466 (by decide)).trans ((pNR hh461 (pN_n hh461 z460 e464)).trans ((pR_j hh455 (by decide)).trans ((pNR hh450 (pN_n hh450 z449 e453)).trans (pR_e hh444))))))))))))))))))))))))))))))))))))))))))))))))))))))))))))))))))))))))))))))))))))
        refine gf_R C fk_LandSurveyModel_161 rfl e3384 e3386 dX12_init_776 ?_
        refine g_iload_n C rfl 1 rfl dX12_init_779 ?_
        refine g_sipush C (by decide) dX12_init_780 ?_
        have e3387 : Tg h445 n436 = 136100 := ((pRT hh444).trans (pN_T hh439))
        have e3388 : Tg h456 n436 = 136100 := ((pRT hh455).trans ((pNT hh450 (pN_n hh450 z449 e3387)).trans e3387))
        have e3389 : Tg h467 n436 = 136100 := ((pRT hh466).trans ((pNT hh461 (pN_n hh461 z460 e3388)).trans e3388))
        have e3390 : Tg h478 n436 = 136100 := ((pRT hh477).trans ((pNT hh472 (pN_n hh472 z471 e3389)).trans e3389))
        have e3391 : Tg h489 n436 = 136100 := ((pRT hh488).trans ((pNT hh483 (pN_n hh483 z482 e3390)).trans e3390))
        have e3392 : Tg h500 n436 = 136100 := ((pRT hh499).trans ((pNT hh494 (pN_n hh494 z493 e3391)).trans e3391))
        have e3393 : Tg h511 n436 = 136100 := ((pRT hh510).trans ((pNT hh505 (pN_n hh505 z504 e3392)).trans e3392))
        have e3394 : Tg h522 n436 = 136100 := ((pRT hh521).trans ((pNT hh516 (pN_n hh516 z515 e3393)).trans e3393))
        have e3395 : Tg h533 n436 = 136100 := ((pRT hh532).trans ((pNT hh527 (pN_n hh527 z526 e3394)).trans e3394))
        have e3396 : Tg h544 n436 = 136100 := ((pRT hh543).trans ((pNT hh538 (pN_n hh538 z537 e3395)).trans e3395))
        have e3397 : Tg h555 n436 = 136100 := ((pRT hh554).trans ((pNT hh549 (pN_n hh549 z548 e3396)).trans e3396))
        have e3398 : Tg h566 n436 = 136100 := ((pRT hh565).trans ((pNT hh560 (pN_n hh560 z559 e3397)).trans e3397))
        have e3399 : Tg h577 n436 = 136100 := ((pRT hh576).trans ((pNT hh571 (pN_n hh571 z570 e3398)).trans e3398))
        have e3400 : Tg h588 n436 = 136100 := ((pRT hh587).trans ((pNT hh582 (pN_n hh582 z581 e3399)).trans e3399))
        have e3401 : Tg h599 n436 = 136100 := ((pRT hh598).trans ((pNT hh593 (pN_n hh593 z592 e3400)).trans e3400))
        have e3402 : Tg h610 n436 = 136100 := ((pRT hh609).trans ((pNT hh604 (pN_n hh604 z603 e3401)).trans e3401))
        have e3403 : Tg h621 n436 = 136100 := ((pRT hh620).trans ((pNT hh615 (pN_n hh615 z614 e3402)).trans e3402))
        have e3404 : Tg h632 n436 = 136100 := ((pRT hh631).trans ((pNT hh626 (pN_n hh626 z625 e3403)).trans e3403))
        have e3405 : Tg h643 n436 = 136100 := ((pRT hh642).trans ((pNT hh637 (pN_n hh637 z636 e3404)).trans e3404))
        have e3406 : Tg h654 n436 = 136100 := ((pRT hh653).trans ((pNT hh648 (pN_n hh648 z647 e3405)).trans e3405))
        have e3407 : Tg h665 n436 = 136100 := ((pRT hh664).trans ((pNT hh659 (pN_n hh659 z658 e3406)).trans e3406))
        have e3408 : Tg h676 n436 = 136100 := ((pRT hh675).trans ((pNT hh670 (pN_n hh670 z669 e3407)).trans e3407))
        have e3409 : Tg h687 n436 = 136100 := ((pRT hh686).trans ((pNT hh681 (pN_n hh681 z680 e3408)).trans e3408))
        have e3410 : Tg h698 n436 = 136100 := ((pRT hh697).trans ((pNT hh692 (pN_n hh692 z691 e3409)).trans e3409))
        have e3411 : Tg h709 n436 = 136100 := ((pRT hh708).trans ((pNT hh703 (pN_n hh703 z702 e3410)).trans e3410))
        have e3412 : Tg h720 n436 = 136100 := ((pRT hh719).trans ((pNT hh714 (pN_n hh714 z713 e3411)).trans e3411))
        have e3413 : Tg h731 n436 = 136100 := ((pRT hh730).trans ((pNT hh725 (pN_n hh725 z724 e3412)).trans e3412))
        have e3414 : Tg h742 n436 = 136100 := ((pRT hh741).trans ((pNT hh736 (pN_n hh736 z735 e3413)).trans e3413))
        have e3415 : Tg h753 n436 = 136100 := ((pRT hh752).trans ((pNT hh747 (pN_n hh747 z746 e3414)).trans e3414))
        have e3416 : Tg h764 n436 = 136100 := ((pRT hh763).trans ((pNT hh758 (pN_n hh758 z757 e3415)).trans e3415))
        have e3417 : Tg h775 n436 = 136100 := ((pRT hh774).trans ((pNT hh769 (pN_n hh769 z768 e3416)).trans e3416))
        have e3418 : Tg h786 n436 = 136100 := ((pRT hh785).trans ((pNT hh780 (pN_n hh780 z779 e3417)).trans e3417))
        have e3419 : Tg h797 n436 = 136100 := ((pRT hh796).trans ((pNT hh791 (pN_n hh791 z790 e3418)).trans e3418))
        have e3420 : Tg h808 n436 = 136100 := ((pRT hh807).trans ((pNT hh802 (pN_n hh802 z801 e3419)).trans e3419))
        have e3421 : Tg h819 n436 = 136100 := ((pRT hh818).trans ((pNT hh813 (pN_n hh813 z812 e3420)).trans e3420))
        have e3422 : Tg h830 n436 = 136100 := ((pRT hh829).trans ((pNT hh824 (pN_n hh824 z823 e3421)).trans e3421))
        have e3423 : Tg h841 n436 = 136100 := ((pRT hh840).trans ((pNT hh835 (pN_n hh835 z834 e3422)).trans e3422))
        have e3424 : Tg h852 n436 = 136100 := ((pRT hh851).trans ((pNT hh846 (pN_n hh846 z845 e3423)).trans e3423))
        have e3425 : Tg h863 n436 = 136100 := ((pRT hh862).trans ((pNT hh857 (pN_n hh857 z856 e3424)).trans e3424))
        have e3426 : Tg h874 n436 = 136100 := ((pRT hh873).trans ((pNT hh868 (pN_n hh868 z867 e3425)).trans e3425))
        have e3427 : Tg h885 n436 = 136100 := ((pRT hh884).trans ((pNT hh879 (pN_n hh879 z878 e3426)).trans e3426))
        have e3428 : Tg h899 n436 = 136100 := (fxT F904 ((pRT hh895).trans ((pNT hh890 (pN_n hh890 z889 e3427)).trans e3427)))
        have e3429 : Tg h896 n436 = 136100 := ((pRT hh895).trans ((pNT hh890 (pN_n hh890 z889 e3427)).trans e3427))
        have e3430 : Ln h899 n436 = 96 := ((fxL F904 e3429).trans ((pRL hh895).trans ((pNL hh890 (pN_n hh890 z889 e3427)).trans ((pRL hh884).trans ((pNL hh879 (pN_n hh879 z878 e3426)).trans ((pRL hh873).trans ((pNL hh868 (pN_n hh868 z867 e3425)).trans ((pRL hh862).trans ((pNL hh857 (pN_n hh857 z856 e3424)).trans ((pRL hh851).trans ((pNL hh846 (pN_n hh846 z845 e3423)).trans ((pRL hh840).trans ((pNL hh835 (pN_n hh835 z834 e3422)).trans ((pRL hh829).trans ((pNL hh824 (pN_n hh824 z823 e3421)).trans ((pRL hh818).trans ((pNL hh813 (pN_n hh813 z812 e3420)).trans ((pRL hh807).trans ((pNL hh802 (pN_n hh802 z801 e3419)).trans ((pRL hh796).trans ((pNL hh791 (pN_n hh791 z790 e3418)).trans ((pRL hh785).trans ((pNL hh780 (pN_n hh780 z779 e3417)).trans ((pRL hh774).trans ((pNL hh769 (pN_n hh769 z768 e3416)).trans ((pRL hh763).trans ((pNL hh758 (pN_n hh758 z757 e3415)).trans ((pRL hh752).trans ((pNL hh747 (pN_n hh747 z746 e3414)).trans ((pRL hh741).trans ((pNL hh736 (pN_n hh736 z735 e3413)).trans ((pRL hh730).trans ((pNL hh725 (pN_n hh725 z724 e3412)).trans ((pRL hh719).trans ((pNL hh714 (pN_n hh714 z713 e3411)).trans ((pRL hh708).trans ((pNL hh703 (pN_n hh703 z702 e3410)).trans ((pRL hh697).trans ((pNL hh692 (pN_n hh692 z691 e3409)).trans ((pRL hh686).trans ((pNL hh681 (pN_n hh681 z680 e3408)).trans ((pRL hh675).trans ((pNL hh670 (pN_n hh670 z669 e3407)).trans ((pRL hh664).trans ((pNL hh659 (pN_n hh659 z658 e3406)).trans ((pRL hh653).trans ((pNL hh648 (pN_n hh648 z647 e3405)).trans ((pRL hh642).trans ((pNL hh637 (pN_n hh637 z636 e3404)).trans ((pRL hh631).trans ((pNL hh626 (pN_n hh626 z625 e3403)).trans ((pRL hh620).trans ((pNL hh615 (pN_n hh615 z614 e3402)).trans ((pRL hh609).trans ((pNL hh604 (pN_n hh604 z603 e3401)).trans ((pRL hh598).trans ((pNL hh593 (pN_n hh593 z592 e3400)).trans ((pRL hh587).trans ((pNL hh582 (pN_n hh582 z581 e3399)).trans ((pRL hh576).trans ((pNL hh571 (pN_n hh571 z570 e3398)).trans ((pRL hh565).trans ((pNL hh560 (pN_n hh560 z559 e3397)).trans ((pRL hh554).trans ((pNL hh549 (pN_n hh549 z548 e3396)).trans ((pRL hh543).trans ((pNL hh538 (pN_n hh538 z537 e3395)).trans ((pRL hh532).trans ((pNL hh527 (pN_n hh527 z526 e3394)).trans ((pRL hh521).trans ((pNL hh516 (pN_n hh516 z515 e3393)).trans ((pRL hh510).trans ((pNL hh505 (pN_n hh505 z504 e3392)).trans ((pRL hh499).trans ((pNL hh494 (pN_n hh494 z493 e3391)).trans ((pRL hh488).trans ((pNL hh483 (pN_n hh483 z482 e3390)).trans ((pRL hh477).trans ((pNL hh472 (pN_n hh472 z471 e3389)).trans ((pRL hh466).trans ((pNL hh461 (pN_n hh461 z460 e3388)).trans ((pRL hh455).trans ((pNL hh450 (pN_n hh450 z449 e3387)).trans ((pRL hh444).trans (pN_L hh439)))))))))))))))))))))))))))))))))))))))))))))))))))))))))))))))))))))))))))))))))))))
        refine g_iast C e3428 rfl e3430 (ix f3383 (by decide) (by decide)) (iw (il 500) (by decide) (by decide)) dX12_init_783 (fun h3432 hh3431 => ?_)
        have O3433 := O903.pIa e3428 ar_136100 hh3431 rI_136100_0 (iw (il 500) (by decide) (by decide)) nofun
        refine g_aload_n C rfl 0 rfl dX12_init_784 ?_
        have e3434 : Tg h3432 a0 = 1012 := ((pIT hh3431).trans e3384)
        have e3435 : Rv h3432 a0 37 = n447 := ((pIR hh3431).trans ((fxR F904 e3385 rfl).trans ((pR_j hh895 (by decide)).trans ((pNR hh890 (pN_n hh890 z889 e893)).trans ((pR_j hh884 (by decide)).trans ((pNR hh879 (pN_n hh879 z878 e882)).trans ((pR_j hh873 (by decide)).trans ((pNR hh868 (pN_n hh868 z867 e871)).trans ((pR_j hh862 (by decide)).trans ((pNR hh857 (pN_n hh857 z856 e860)).trans ((pR_j hh851 (by decide)).trans ((pNR hh846 (pN_n hh846 z845 e849)).trans ((pR_j hh840 (by decide)).trans ((pNR hh835 (pN_n hh835 z834 e838)).trans ((pR_j hh829 (by decide)).trans ((pNR hh824 (pN_n hh824 z823 e827)).trans ((pR_j hh818 (by decide)).trans ((pNR hh813 (pN_n hh813 z812 e816)).trans ((pR_j hh807 (by decide)).trans ((pNR hh802 (pN_n hh802 z801 e805)).trans ((pR_j hh796 (by decide)).trans ((pNR hh791 (pN_n hh791 z790 e794)).trans ((pR_j hh785 (by decide)).trans ((pNR hh780 (pN_n hh780 z779 e783)).trans ((pR_j hh774 (by decide)).trans ((pNR hh769 (pN_n hh769 z768 e772)).trans ((pR_j hh763 (by decide)).trans ((pNR hh758 (pN_n hh758 z757 e761)).trans ((pR_j hh752 (by decide)).trans ((pNR hh747 (pN_n hh747 z746 e750)).trans ((pR_j hh741 (by decide)).trans ((pNR hh736 (pN_n hh736 z735 e739)).trans ((pR_j hh730 (by decide)).trans ((pNR hh725 (pN_n hh725 z724 e728)).trans ((pR_j hh719 (by decide)).trans ((pNR hh714 (pN_n hh714 z713 e717)).trans ((pR_j hh708 (by decide)).trans ((pNR hh703 (pN_n hh703 z702 e706)).trans ((pR_j hh697 (by decide)).trans ((pNR hh692 (pN_n hh692 z691 e695)).trans ((pR_j hh686 (by decide)).trans ((pNR hh681 (pN_n hh681 z680 e684)).trans ((pR_j hh675 (by decide)).trans ((pNR hh670 (pN_n hh670 z669 e673)).trans ((pR_j hh664 (by decide)).trans ((pNR hh659 (pN_n hh659 z658 e662)).trans ((pR_j hh653 (by decide)).trans ((pNR hh648 (pN_n hh648 z647 e651)).trans ((pR_j hh642 (by decide)).trans ((pNR hh637 (pN_n hh637 z636 e640)).trans ((pR_j hh631 (by decide)).trans ((pNR hh626 (pN_n hh626 z625 e629)).trans ((pR_j hh620 (by decide)).trans ((pNR hh615 (pN_n hh615 z614 e618)).trans ((pR_j hh609 (by decide)).trans ((pNR hh604 (pN_n hh604 z603 e607)).trans ((pR_j hh598 (by decide)).trans ((pNR hh593 (pN_n hh593 z592 e596)).trans ((pR_j hh587 (by decide)).trans ((pNR hh582 (pN_n hh582 z581 e585)).trans ((pR_j hh576 (by decide)).trans ((pNR hh571 (pN_n hh571 z570 e574)).trans ((pR_j hh565 (by decide)).trans ((pNR hh560 (pN_n hh560 z559 e563)).trans ((pR_j hh554 (by decide)).trans ((pNR hh549 (pN_n hh549 z548 e552)).trans ((pR_j hh543 (by decide)).trans ((pNR hh538 (pN_n hh538 z537 e541)).trans ((pR_j hh532 (by decide)).trans ((pNR hh527 (pN_n hh527 z526 e530)).trans ((pR_j hh521 (by decide)).trans ((pNR hh516 (pN_n hh516 z515 e519)).trans ((pR_j hh510 (by decide)).trans ((pNR hh505 (pN_n hh505 z504 e508)).trans ((pR_j hh499 (by decide)).trans ((pNR hh494 (pN_n hh494 z493 e497)).trans ((pR_j hh488 (by decide)).trans ((pNR hh483 (pN_n hh483 z482 e486)).trans ((pR_j hh477 (by decide)).trans ((pNR hh472 (pN_n hh472 z471 e475)).trans ((pR_j hh466 (by decide)).trans ((pNR hh461 (pN_n hh461 z460 e464)).trans (pR_e hh455)))))))))))))))))))))))))))))))))))))))))))))))))))))))))))))))))))))))))))))))))))
        refine gf_R C fk_LandSurveyModel_164 rfl e3434 e3435 dX12_init_785 ?_
        refine g_iload_n C rfl 1 rfl dX12_init_788 ?_
        refine g_iconst C dX12_init_789 ?_
        have e3436 : Tg h456 n447 = 137101 := ((pRT hh455).trans (pN_T hh450))
        have e3437 : Tg h467 n447 = 137101 := ((pRT hh466).trans ((pNT hh461 (pN_n hh461 z460 e3436)).trans e3436))
        have e3438 : Tg h478 n447 = 137101 := ((pRT hh477).trans ((pNT hh472 (pN_n hh472 z471 e3437)).trans e3437))
        have e3439 : Tg h489 n447 = 137101 := ((pRT hh488).trans ((pNT hh483 (pN_n hh483 z482 e3438)).trans e3438))
        have e3440 : Tg h500 n447 = 137101 := ((pRT hh499).trans ((pNT hh494 (pN_n hh494 z493 e3439)).trans e3439))
        have e3441 : Tg h511 n447 = 137101 := ((pRT hh510).trans ((pNT hh505 (pN_n hh505 z504 e3440)).trans e3440))
        have e3442 : Tg h522 n447 = 137101 := ((pRT hh521).trans ((pNT hh516 (pN_n hh516 z515 e3441)).trans e3441))
        have e3443 : Tg h533 n447 = 137101 := ((pRT hh532).trans ((pNT hh527 (pN_n hh527 z526 e3442)).trans e3442))
        have e3444 : Tg h544 n447 = 137101 := ((pRT hh543).trans ((pNT hh538 (pN_n hh538 z537 e3443)).trans e3443))
        have e3445 : Tg h555 n447 = 137101 := ((pRT hh554).trans ((pNT hh549 (pN_n hh549 z548 e3444)).trans e3444))
        have e3446 : Tg h566 n447 = 137101 := ((pRT hh565).trans ((pNT hh560 (pN_n hh560 z559 e3445)).trans e3445))
        have e3447 : Tg h577 n447 = 137101 := ((pRT hh576).trans ((pNT hh571 (pN_n hh571 z570 e3446)).trans e3446))
        have e3448 : Tg h588 n447 = 137101 := ((pRT hh587).trans ((pNT hh582 (pN_n hh582 z581 e3447)).trans e3447))
        have e3449 : Tg h599 n447 = 137101 := ((pRT hh598).trans ((pNT hh593 (pN_n hh593 z592 e3448)).trans e3448))
        have e3450 : Tg h610 n447 = 137101 := ((pRT hh609).trans ((pNT hh604 (pN_n hh604 z603 e3449)).trans e3449))
        have e3451 : Tg h621 n447 = 137101 := ((pRT hh620).trans ((pNT hh615 (pN_n hh615 z614 e3450)).trans e3450))
        have e3452 : Tg h632 n447 = 137101 := ((pRT hh631).trans ((pNT hh626 (pN_n hh626 z625 e3451)).trans e3451))
        have e3453 : Tg h643 n447 = 137101 := ((pRT hh642).trans ((pNT hh637 (pN_n hh637 z636 e3452)).trans e3452))
        have e3454 : Tg h654 n447 = 137101 := ((pRT hh653).trans ((pNT hh648 (pN_n hh648 z647 e3453)).trans e3453))
        have e3455 : Tg h665 n447 = 137101 := ((pRT hh664).trans ((pNT hh659 (pN_n hh659 z658 e3454)).trans e3454))
        have e3456 : Tg h676 n447 = 137101 := ((pRT hh675).trans ((pNT hh670 (pN_n hh670 z669 e3455)).trans e3455))
        have e3457 : Tg h687 n447 = 137101 := ((pRT hh686).trans ((pNT hh681 (pN_n hh681 z680 e3456)).trans e3456))
        have e3458 : Tg h698 n447 = 137101 := ((pRT hh697).trans ((pNT hh692 (pN_n hh692 z691 e3457)).trans e3457))
        have e3459 : Tg h709 n447 = 137101 := ((pRT hh708).trans ((pNT hh703 (pN_n hh703 z702 e3458)).trans e3458))
        have e3460 : Tg h720 n447 = 137101 := ((pRT hh719).trans ((pNT hh714 (pN_n hh714 z713 e3459)).trans e3459))
        have e3461 : Tg h731 n447 = 137101 := ((pRT hh730).trans ((pNT hh725 (pN_n hh725 z724 e3460)).trans e3460))
        have e3462 : Tg h742 n447 = 137101 := ((pRT hh741).trans ((pNT hh736 (pN_n hh736 z735 e3461)).trans e3461))
        have e3463 : Tg h753 n447 = 137101 := ((pRT hh752).trans ((pNT hh747 (pN_n hh747 z746 e3462)).trans e3462))
        have e3464 : Tg h764 n447 = 137101 := ((pRT hh763).trans ((pNT hh758 (pN_n hh758 z757 e3463)).trans e3463))
        have e3465 : Tg h775 n447 = 137101 := ((pRT hh774).trans ((pNT hh769 (pN_n hh769 z768 e3464)).trans e3464))
        have e3466 : Tg h786 n447 = 137101 := ((pRT hh785).trans ((pNT hh780 (pN_n hh780 z779 e3465)).trans e3465))
        have e3467 : Tg h797 n447 = 137101 := ((pRT hh796).trans ((pNT hh791 (pN_n hh791 z790 e3466)).trans e3466))
        have e3468 : Tg h808 n447 = 137101 := ((pRT hh807).trans ((pNT hh802 (pN_n hh802 z801 e3467)).trans e3467))
        have e3469 : Tg h819 n447 = 137101 := ((pRT hh818).trans ((pNT hh813 (pN_n hh813 z812 e3468)).trans e3468))
        have e3470 : Tg h830 n447 = 137101 := ((pRT hh829).trans ((pNT hh824 (pN_n hh824 z823 e3469)).trans e3469))
        have e3471 : Tg h841 n447 = 137101 := ((pRT hh840).trans ((pNT hh835 (pN_n hh835 z834 e3470)).trans e3470))
        have e3472 : Tg h852 n447 = 137101 := ((pRT hh851).trans ((pNT hh846 (pN_n hh846 z845 e3471)).trans e3471))
        have e3473 : Tg h863 n447 = 137101 := ((pRT hh862).trans ((pNT hh857 (pN_n hh857 z856 e3472)).trans e3472))
        have e3474 : Tg h874 n447 = 137101 := ((pRT hh873).trans ((pNT hh868 (pN_n hh868 z867 e3473)).trans e3473))
        have e3475 : Tg h885 n447 = 137101 := ((pRT hh884).trans ((pNT hh879 (pN_n hh879 z878 e3474)).trans e3474))
        have e3476 : Tg h3432 n447 = 137101 := ((pIT hh3431).trans (fxT F904 ((pRT hh895).trans ((pNT hh890 (pN_n hh890 z889 e3475)).trans e3475))))
        have e3477 : Tg h896 n447 = 137101 := ((pRT hh895).trans ((pNT hh890 (pN_n hh890 z889 e3475)).trans e3475))
        have e3478 : Ln h3432 n447 = 96 := ((pIL hh3431).trans ((fxL F904 e3477).trans ((pRL hh895).trans ((pNL hh890 (pN_n hh890 z889 e3475)).trans ((pRL hh884).trans ((pNL hh879 (pN_n hh879 z878 e3474)).trans ((pRL hh873).trans ((pNL hh868 (pN_n hh868 z867 e3473)).trans ((pRL hh862).trans ((pNL hh857 (pN_n hh857 z856 e3472)).trans ((pRL hh851).trans ((pNL hh846 (pN_n hh846 z845 e3471)).trans ((pRL hh840).trans ((pNL hh835 (pN_n hh835 z834 e3470)).trans ((pRL hh829).trans ((pNL hh824 (pN_n hh824 z823 e3469)).trans ((pRL hh818).trans ((pNL hh813 (pN_n hh813 z812 e3468)).trans ((pRL hh807).trans ((pNL hh802 (pN_n hh802 z801 e3467)).trans ((pRL hh796).trans ((pNL hh791 (pN_n hh791 z790 e3466)).trans ((pRL hh785).trans ((pNL hh780 (pN_n hh780 z779 e3465)).trans ((pRL hh774).trans ((pNL hh769 (pN_n hh769 z768 e3464)).trans ((pRL hh763).trans ((pNL hh758 (pN_n hh758 z757 e3463)).trans ((pRL hh752).trans ((pNL hh747 (pN_n hh747 z746 e3462)).trans ((pRL hh741).trans ((pNL hh736 (pN_n hh736 z735 e3461)).trans ((pRL hh730).trans ((pNL hh725 (pN_n hh725 z724 e3460)).trans ((pRL hh719).trans ((pNL hh714 (pN_n hh714 z713 e3459)).trans ((pRL hh708).trans ((pNL hh703 (pN_n hh703 z702 e3458)).trans ((pRL hh697).trans ((pNL hh692 (pN_n hh692 z691 e3457)).trans ((pRL hh686).trans ((pNL hh681 (pN_n hh681 z680 e3456)).trans ((pRL hh675).trans ((pNL hh670 (pN_n hh670 z669 e3455)).trans ((pRL hh664).trans ((pNL hh659 (pN_n hh659 z658 e3454)).trans ((pRL hh653).trans ((pNL hh648 (pN_n hh648 z647 e3453)).trans ((pRL hh642).trans ((pNL hh637 (pN_n hh637 z636 e3452)).trans ((pRL hh631).trans ((pNL hh626 (pN_n hh626 z625 e3451)).trans ((pRL hh620).trans ((pNL hh615 (pN_n hh615 z614 e3450)).trans ((pRL hh609).trans ((pNL hh604 (pN_n hh604 z603 e3449)).trans ((pRL hh598).trans ((pNL hh593 (pN_n hh593 z592 e3448)).trans ((pRL hh587).trans ((pNL hh582 (pN_n hh582 z581 e3447)).trans ((pRL hh576).trans ((pNL hh571 (pN_n hh571 z570 e3446)).trans ((pRL hh565).trans ((pNL hh560 (pN_n hh560 z559 e3445)).trans ((pRL hh554).trans ((pNL hh549 (pN_n hh549 z548 e3444)).trans ((pRL hh543).trans ((pNL hh538 (pN_n hh538 z537 e3443)).trans ((pRL hh532).trans ((pNL hh527 (pN_n hh527 z526 e3442)).trans ((pRL hh521).trans ((pNL hh516 (pN_n hh516 z515 e3441)).trans ((pRL hh510).trans ((pNL hh505 (pN_n hh505 z504 e3440)).trans ((pRL hh499).trans ((pNL hh494 (pN_n hh494 z493 e3439)).trans ((pRL hh488).trans ((pNL hh483 (pN_n hh483 z482 e3438)).trans ((pRL hh477).trans ((pNL hh472 (pN_n hh472 z471 e3437)).trans ((pRL hh466).trans ((pNL hh461 (pN_n hh461 z460 e3436)).trans ((pRL hh455).trans (pN_L hh450))))))))))))))))))))))))))))))))))))))))))))))))))))))))))))))))))))))))))))))))))))
        refine g_zast C e3476 rfl e3478 (ix f3383 (by decide) (by decide)) (iw (il 1) (by decide) (by decide)) dX12_init_790 (fun h3480 hh3479 => ?_)
        have O3481 := O3433.pIa e3476 ar_137101 hh3479 rI_137101_0 (iw (il 1) (by decide) (by decide)) nofun
        refine g_aload_n C rfl 0 rfl dX12_init_791 ?_
        have e3482 : Tg h3480 a0 = 1012 := ((pIT hh3479).trans e3434)
        have e3483 : Rv h3480 a0 39 = n469 := ((pIR hh3479).trans ((pIR hh3431).trans ((fxR F904 e3385 rfl).trans ((pR_j hh895 (by decide)).trans ((pNR hh890 (pN_n hh890 z889 e893)).trans ((pR_j hh884 (by decide)).trans ((pNR hh879 (pN_n hh879 z878 e882)).trans ((pR_j hh873 (by decide)).trans ((pNR hh868 (pN_n hh868 z867 e871)).trans ((pR_j hh862 (by decide)).trans ((pNR hh857 (pN_n hh857 z856 e860)).trans ((pR_j hh851 (by decide)).trans ((pNR hh846 (pN_n hh846 z845 e849)).trans ((pR_j hh840 (by decide)).trans ((pNR hh835 (pN_n hh835 z834 e838)).trans ((pR_j hh829 (by decide)).trans ((pNR hh824 (pN_n hh824 z823 e827)).trans ((pR_j hh818 (by decide)).trans ((pNR hh813 (pN_n hh813 z812 e816)).trans ((pR_j hh807 (by decide)).trans ((pNR hh802 (pN_n hh802 z801 e805)).trans ((pR_j hh796 (by decide)).trans ((pNR hh791 (pN_n hh791 z790 e794)).trans ((pR_j hh785 (by decide)).trans ((pNR hh780 (pN_n hh780 z779 e783)).trans ((pR_j hh774 (by decide)).trans ((pNR hh769 (pN_n hh769 z768 e772)).trans ((pR_j hh763 (by decide)).trans ((pNR hh758 (pN_n hh758 z757 e761)).trans ((pR_j hh752 (by decide)).trans ((pNR hh747 (pN_n hh747 z746 e750)).trans ((pR_j hh741 (by decide)).trans ((pNR hh736 (pN_n hh736 z735 e739)).trans ((pR_j hh730 (by decide)).trans ((pNR hh725 (pN_n hh725 z724 e728)).trans ((pR_j hh719 (by decide)).trans ((pNR hh714 (pN_n hh714 z713 e717)).trans ((pR_j hh708 (by decide)).trans ((pNR hh703 (pN_n hh703 z702 e706)).trans ((pR_j hh697 (by decide)).trans ((pNR hh692 (pN_n hh692 z691 e695)).trans ((pR_j hh686 (by decide)).trans ((pNR hh681 (pN_n hh681 z680 e684)).trans ((pR_j hh675 (by decide)).trans ((pNR hh670 (pN_n hh670 z669 e673)).trans ((pR_j hh664 (by decide)).trans ((pNR hh659 (pN_n hh659 z658 e662)).trans ((pR_j hh653 (by decide)).trans ((pNR hh648 (pN_n hh648 z647 e651)).trans ((pR_j hh642 (by decide)).trans ((pNR hh637 (pN_n hh637 z636 e640)).trans ((pR_j hh631 (by decide)).trans ((pNR hh626 (pN_n hh626 z625 e629)).trans ((pR_j hh620 (by decide)).trans ((pNR hh615 (pN_n hh615 z614 e618)).trans ((pR_j hh609 (by decide)).trans ((pNR hh604 (pN_n hh604 z603 e607)).trans ((pR_j hh598 (by decide)).trans ((pNR hh593 (pN_n hh593 z592 e596)).trans ((pR_j hh587 (by decide)).trans ((pNR hh582 (pN_n hh582 z581 e585)).trans ((pR_j hh576 (by decide)).trans ((pNR hh571 (pN_n hh571 z570 e574)).trans ((pR_j hh565 (by decide)).trans ((pNR hh560 (pN_n hh560 z559 e563)).trans ((pR_j hh554 (by decide)).trans ((pNR hh549 (pN_n hh549 z548 e552)).trans ((pR_j hh543 (by decide)).trans ((pNR hh538 (pN_n hh538 z537 e541)).trans ((pR_j hh532 (by decide)).trans ((pNR hh527 (pN_n hh527 z526 e530)).trans ((pR_j hh521 (by decide)).trans ((pNR hh516 (pN_n hh516 z515 e519)).trans ((pR_j hh510 (by decide)).trans ((pNR hh505 (pN_n hh505 z504 e508)).trans ((pR_j hh499 (by decide)).trans ((pNR hh494 (pN_n hh494 z493 e497)).trans ((pR_j hh488 (by decide)).trans ((pNR hh483 (pN_n hh483 z482 e486)).trans (pR_e hh477))))))))))))))))))))))))))))))))))))))))))))))))))))))))))))))))))))))))))))))))
        refine gf_R C fk_LandSurveyModel_170 rfl e3482 e3483 dX12_init_792 ?_
        refine g_iload_n C rfl 1 rfl dX12_init_795 ?_
        refine g_iconst C dX12_init_796 ?_
        have e3484 : Tg h478 n469 = 139100 := ((pRT hh477).trans (pN_T hh472))
        have e3485 : Tg h489 n469 = 139100 := ((pRT hh488).trans ((pNT hh483 (pN_n hh483 z482 e3484)).trans e3484))
        have e3486 : Tg h500 n469 = 139100 := ((pRT hh499).trans ((pNT hh494 (pN_n hh494 z493 e3485)).trans e3485))
        have e3487 : Tg h511 n469 = 139100 := ((pRT hh510).trans ((pNT hh505 (pN_n hh505 z504 e3486)).trans e3486))
        have e3488 : Tg h522 n469 = 139100 := ((pRT hh521).trans ((pNT hh516 (pN_n hh516 z515 e3487)).trans e3487))
        have e3489 : Tg h533 n469 = 139100 := ((pRT hh532).trans ((pNT hh527 (pN_n hh527 z526 e3488)).trans e3488))
        have e3490 : Tg h544 n469 = 139100 := ((pRT hh543).trans ((pNT hh538 (pN_n hh538 z537 e3489)).trans e3489))
        have e3491 : Tg h555 n469 = 139100 := ((pRT hh554).trans ((pNT hh549 (pN_n hh549 z548 e3490)).trans e3490))
        have e3492 : Tg h566 n469 = 139100 := ((pRT hh565).trans ((pNT hh560 (pN_n hh560 z559 e3491)).trans e3491))
        have e3493 : Tg h577 n469 = 139100 := ((pRT hh576).trans ((pNT hh571 (pN_n hh571 z570 e3492)).trans e3492))
        have e3494 : Tg h588 n469 = 139100 := ((pRT hh587).trans ((pNT hh582 (pN_n hh582 z581 e3493)).trans e3493))
        have e3495 : Tg h599 n469 = 139100 := ((pRT hh598).trans ((pNT hh593 (pN_n hh593 z592 e3494)).trans e3494))
        have e3496 : Tg h610 n469 = 139100 := ((pRT hh609).trans ((pNT hh604 (pN_n hh604 z603 e3495)).trans e3495))
        have e3497 : Tg h621 n469 = 139100 := ((pRT hh620).trans ((pNT hh615 (pN_n hh615 z614 e3496)).trans e3496))
        have e3498 : Tg h632 n469 = 139100 := ((pRT hh631).trans ((pNT hh626 (pN_n hh626 z625 e3497)).trans e3497))
        have e3499 : Tg h643 n469 = 139100 := ((pRT hh642).trans ((pNT hh637 (pN_n hh637 z636 e3498)).trans e3498))
        have e3500 : Tg h654 n469 = 139100 := ((pRT hh653).trans ((pNT hh648 (pN_n hh648 z647 e3499)).trans e3499))
        have e3501 : Tg h665 n469 = 139100 := ((pRT hh664).trans ((pNT hh659 (pN_n hh659 z658 e3500)).trans e3500))
        have e3502 : Tg h676 n469 = 139100 := ((pRT hh675).trans ((pNT hh670 (pN_n hh670 z669 e3501)).trans e3501))
        have e3503 : Tg h687 n469 = 139100 := ((pRT hh686).trans ((pNT hh681 (pN_n hh681 z680 e3502)).trans e3502))
        have e3504 : Tg h698 n469 = 139100 := ((pRT hh697).trans ((pNT hh692 (pN_n hh692 z691 e3503)).trans e3503))
        have e3505 : Tg h709 n469 = 139100 := ((pRT hh708).trans ((pNT hh703 (pN_n hh703 z702 e3504)).trans e3504))
        have e3506 : Tg h720 n469 = 139100 := ((pRT hh719).trans ((pNT hh714 (pN_n hh714 z713 e3505)).trans e3505))
        have e3507 : Tg h731 n469 = 139100 := ((pRT hh730).trans ((pNT hh725 (pN_n hh725 z724 e3506)).trans e3506))
        have e3508 : Tg h742 n469 = 139100 := ((pRT hh741).trans ((pNT hh736 (pN_n hh736 z735 e3507)).trans e3507))
        have e3509 : Tg h753 n469 = 139100 := ((pRT hh752).trans ((pNT hh747 (pN_n hh747 z746 e3508)).trans e3508))
        have e3510 : Tg h764 n469 = 139100 := ((pRT hh763).trans ((pNT hh758 (pN_n hh758 z757 e3509)).trans e3509))
        have e3511 : Tg h775 n469 = 139100 := ((pRT hh774).trans ((pNT hh769 (pN_n hh769 z768 e3510)).trans e3510))
        have e3512 : Tg h786 n469 = 139100 := ((pRT hh785).trans ((pNT hh780 (pN_n hh780 z779 e3511)).trans e3511))
        have e3513 : Tg h797 n469 = 139100 := ((pRT hh796).trans ((pNT hh791 (pN_n hh791 z790 e3512)).trans e3512))
        have e3514 : Tg h808 n469 = 139100 := ((pRT hh807).trans ((pNT hh802 (pN_n hh802 z801 e3513)).trans e3513))
        have e3515 : Tg h819 n469 = 139100 := ((pRT hh818).trans ((pNT hh813 (pN_n hh813 z812 e3514)).trans e3514))
        have e3516 : Tg h830 n469 = 139100 := ((pRT hh829).trans ((pNT hh824 (pN_n hh824 z823 e3515)).trans e3515))
        have e3517 : Tg h841 n469 = 139100 := ((pRT hh840).trans ((pNT hh835 (pN_n hh835 z834 e3516)).trans e3516))
        have e3518 : Tg h852 n469 = 139100 := ((pRT hh851).trans ((pNT hh846 (pN_n hh846 z845 e3517)).trans e3517))
        have e3519 : Tg h863 n469 = 139100 := ((pRT hh862).trans ((pNT hh857 (pN_n hh857 z856 e3518)).trans e3518))
        have e3520 : Tg h874 n469 = 139100 := ((pRT hh873).trans ((pNT hh868 (pN_n hh868 z867 e3519)).trans e3519))
        have e3521 : Tg h885 n469 = 139100 := ((pRT hh884).trans ((pNT hh879 (pN_n hh879 z878 e3520)).trans e3520))
        have e3522 : Tg h3480 n469 = 139100 := ((pIT hh3479).trans ((pIT hh3431).trans (fxT F904 ((pRT hh895).trans ((pNT hh890 (pN_n hh890 z889 e3521)).trans e3521)))))
        have e3523 : Tg h896 n469 = 139100 := ((pRT hh895).trans ((pNT hh890 (pN_n hh890 z889 e3521)).trans e3521))
        have e3524 : Ln h3480 n469 = 96 := ((pIL hh3479).trans ((pIL hh3431).trans ((fxL F904 e3523).trans ((pRL hh895).trans ((pNL hh890 (pN_n hh890 z889 e3521)).trans ((pRL hh884).trans ((pNL hh879 (pN_n hh879 z878 e3520)).trans ((pRL hh873).trans ((pNL hh868 (pN_n hh868 z867 e3519)).trans ((pRL hh862).trans ((pNL hh857 (pN_n hh857 z856 e3518)).trans ((pRL hh851).trans ((pNL hh846 (pN_n hh846 z845 e3517)).trans ((pRL hh840).trans ((pNL hh835 (pN_n hh835 z834 e3516)).trans ((pRL hh829).trans ((pNL hh824 (pN_n hh824 z823 e3515)).trans ((pRL hh818).trans ((pNL hh813 (pN_n hh813 z812 e3514)).trans ((pRL hh807).trans ((pNL hh802 (pN_n hh802 z801 e3513)).trans ((pRL hh796).trans ((pNL hh791 (pN_n hh791 z790 e3512)).trans ((pRL hh785).trans ((pNL hh780 (pN_n hh780 z779 e3511)).trans ((pRL hh774).trans ((pNL hh769 (pN_n hh769 z768 e3510)).trans ((pRL hh763).trans ((pNL hh758 (pN_n hh758 z757 e3509)).trans ((pRL hh752).trans ((pNL hh747 (pN_n hh747 z746 e3508)).trans ((pRL hh741).trans ((pNL hh736 (pN_n hh736 z735 e3507)).trans ((pRL hh730).trans ((pNL hh725 (pN_n hh725 z724 e3506)).trans ((pRL hh719).trans ((pNL hh714 (pN_n hh714 z713 e3505)).trans ((pRL hh708).trans ((pNL hh703 (pN_n hh703 z702 e3504)).trans ((pRL hh697).trans ((pNL hh692 (pN_n hh692 z691 e3503)).trans ((pRL hh686).trans ((pNL hh681 (pN_n hh681 z680 e3502)).trans ((pRL hh675).trans ((pNL hh670 (pN_n hh670 z669 e3501)).trans ((pRL hh664).trans ((pNL hh659 (pN_n hh659 z658 e3500)).trans ((pRL hh653).trans ((pNL hh648 (pN_n hh648 z647 e3499)).trans ((pRL hh642).trans ((pNL hh637 (pN_n hh637 z636 e3498)).trans ((pRL hh631).trans ((pNL hh626 (pN_n hh626 z625 e3497)).trans ((pRL hh620).trans ((pNL hh615 (pN_n hh615 z614 e3496)).trans ((pRL hh609).trans ((pNL hh604 (pN_n hh604 z603 e3495)).trans ((pRL hh598).trans ((pNL hh593 (pN_n hh593 z592 e3494)).trans ((pRL hh587).trans ((pNL hh582 (pN_n hh582 z581 e3493)).trans ((pRL hh576).trans ((pNL hh571 (pN_n hh571 z570 e3492)).trans ((pRL hh565).trans ((pNL hh560 (pN_n hh560 z559 e3491)).trans ((pRL hh554).trans ((pNL hh549 (pN_n hh549 z548 e3490)).trans ((pRL hh543).trans ((pNL hh538 (pN_n hh538 z537 e3489)).trans ((pRL hh532).trans ((pNL hh527 (pN_n hh527 z526 e3488)).trans ((pRL hh521).trans ((pNL hh516 (pN_n hh516 z515 e3487)).trans ((pRL hh510).trans ((pNL hh505 (pN_n hh505 z504 e3486)).trans ((pRL hh499).trans ((pNL hh494 (pN_n hh494 z493 e3485)).trans ((pRL hh488).trans ((pNL hh483 (pN_n hh483 z482 e3484)).trans ((pRL hh477).trans (pN_L hh472)))))))))))))))))))))))))))))))))))))))))))))))))))))))))))))))))))))))))))))))))
        refine g_iast C e3522 rfl e3524 (ix f3383 (by decide) (by decide)) (iw (il (-1)) (by decide) (by decide)) dX12_init_797 (fun h3526 hh3525 => ?_)
        have O3527 := O3481.pIa e3522 ar_139100 hh3525 rI_139100_0 (iw (il (-1)) (by decide) (by decide)) nofun
        have f3528 : (1 : Int) ≤ (x898 + 1) ∧ (x898 + 1) ≤ (96 : Int) := ia_add f3383 (il 1) (by decide) (by decide)
        refine g_iinc C [(1, .inl (x898 + 1)), (0, .inr (.inr a0))] 1 rfl (by decide) rfl dX12_init_798 ?_
        refine g_goto C 769 (by decide) dX12_init_801 ?_
        refine GW.sub [1, 0] rfl ?_
        exact ih901 _ (by omega) (x898 + 1) h3526 rfl O3527 (((F904.pIa e3428 ar_136100 hh3431 rfl).pIa e3476 ar_137101 hh3479 rfl).pIa e3522 ar_139100 hh3525 rfl) (iw f3528 (by decide) (by decide))
  exact L900 _ 0 h896 rfl O897 Fx.rf (iw (il 0) (by decide) (by decide))
