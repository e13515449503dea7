abbrev cX12_begins : ByteArray := prog_14_method_19_code
def yX12_begins : MethodName := ⟨RX12, "begins", "()V"⟩
theorem okX12_begins : yok yX12_begins 0 := by decide +kernel
theorem dX12_begins_0 : decode cX12_begins 0 = .ok (.aload_n 0, 1) := by decide +kernel
theorem dX12_begins_1 : decode cX12_begins 1 = .ok (.getfield 100, 3) := by decide +kernel
theorem dX12_begins_4 : decode cX12_begins 4 = .ok (.bipush 8, 2) := by decide +kernel
theorem dX12_begins_6 : decode cX12_begins 6 = .ok (.iconst 0, 1) := by decide +kernel
theorem dX12_begins_7 : decode cX12_begins 7 = .ok (.iastore, 1) := by decide +kernel
theorem dX12_begins_8 : decode cX12_begins 8 = .ok (.aload_n 0, 1) := by decide +kernel
theorem dX12_begins_9 : decode cX12_begins 9 = .ok (.getfield 119, 3) := by decide +kernel
theorem dX12_begins_12 : decode cX12_begins 12 = .ok (.bipush 8, 2) := by decide +kernel
theorem dX12_begins_14 : decode cX12_begins 14 = .ok (.iconst 0, 1) := by decide +kernel
theorem dX12_begins_15 : decode cX12_begins 15 = .ok (.bastore, 1) := by decide +kernel
theorem dX12_begins_16 : decode cX12_begins 16 = .ok (.aload_n 0, 1) := by decide +kernel
theorem dX12_begins_17 : decode cX12_begins 17 = .ok (.getfield 122, 3) := by decide +kernel
theorem dX12_begins_20 : decode cX12_begins 20 = .ok (.bipush 8, 2) := by decide +kernel
theorem dX12_begins_22 : decode cX12_begins 22 = .ok (.bipush 10, 2) := by decide +kernel
theorem dX12_begins_24 : decode cX12_begins 24 = .ok (.iastore, 1) := by decide +kernel
theorem dX12_begins_25 : decode cX12_begins 25 = .ok (.aload_n 0, 1) := by decide +kernel
theorem dX12_begins_26 : decode cX12_begins 26 = .ok (.getfield 125, 3) := by decide +kernel
theorem dX12_begins_29 : decode cX12_begins 29 = .ok (.bipush 8, 2) := by decide +kernel
theorem dX12_begins_31 : decode cX12_begins 31 = .ok (.iconst 0, 1) := by decide +kernel
theorem dX12_begins_32 : decode cX12_begins 32 = .ok (.bastore, 1) := by decide +kernel
theorem dX12_begins_33 : decode cX12_begins 33 = .ok (.aload_n 0, 1) := by decide +kernel
theorem dX12_begins_34 : decode cX12_begins 34 = .ok (.getfield 128, 3) := by decide +kernel
theorem dX12_begins_37 : decode cX12_begins 37 = .ok (.bipush 8, 2) := by decide +kernel
theorem dX12_begins_39 : decode cX12_begins 39 = .ok (.bipush 20, 2) := by decide +kernel
theorem dX12_begins_41 : decode cX12_begins 41 = .ok (.iastore, 1) := by decide +kernel
theorem dX12_begins_42 : decode cX12_begins 42 = .ok (.aload_n 0, 1) := by decide +kernel
theorem dX12_begins_43 : decode cX12_begins 43 = .ok (.getfield 137, 3) := by decide +kernel
theorem dX12_begins_46 : decode cX12_begins 46 = .ok (.bipush 8, 2) := by decide +kernel
theorem dX12_begins_48 : decode cX12_begins 48 = .ok (.iconst 0, 1) := by decide +kernel
theorem dX12_begins_49 : decode cX12_begins 49 = .ok (.iastore, 1) := by decide +kernel
theorem dX12_begins_50 : decode cX12_begins 50 = .ok (.aload_n 0, 1) := by decide +kernel
theorem dX12_begins_51 : decode cX12_begins 51 = .ok (.iconst 0, 1) := by decide +kernel
theorem dX12_begins_52 : decode cX12_begins 52 = .ok (.putfield 336, 3) := by decide +kernel
theorem dX12_begins_55 : decode cX12_begins 55 = .ok (.bipush 80, 2) := by decide +kernel
theorem dX12_begins_57 : decode cX12_begins 57 = .ok (.istore_n 1, 1) := by decide +kernel
theorem dX12_begins_58 : decode cX12_begins 58 = .ok (.iload_n 1, 1) := by decide +kernel
theorem dX12_begins_59 : decode cX12_begins 59 = .ok (.bipush 90, 2) := by decide +kernel
theorem dX12_begins_61 : decode cX12_begins 61 = .ok (.if_icmp .ge 30, 3) := by decide +kernel
theorem dX12_begins_91 : decode cX12_begins 91 = .ok (.return_, 1) := by decide +kernel
theorem dX12_begins_64 : decode cX12_begins 64 = .ok (.aload_n 0, 1) := by decide +kernel
theorem dX12_begins_65 : decode cX12_begins 65 = .ok (.getfield 131, 3) := by decide +kernel
theorem dX12_begins_68 : decode cX12_begins 68 = .ok (.iload_n 1, 1) := by decide +kernel
theorem dX12_begins_69 : decode cX12_begins 69 = .ok (.iconst (-1), 1) := by decide +kernel
theorem dX12_begins_70 : decode cX12_begins 70 = .ok (.iastore, 1) := by decide +kernel
theorem dX12_begins_71 : decode cX12_begins 71 = .ok (.aload_n 0, 1) := by decide +kernel
theorem dX12_begins_72 : decode cX12_begins 72 = .ok (.getfield 112, 3) := by decide +kernel
theorem dX12_begins_75 : decode cX12_begins 75 = .ok (.iload_n 1, 1) := by decide +kernel
theorem dX12_begins_76 : decode cX12_begins 76 = .ok (.iconst 0, 1) := by decide +kernel
theorem dX12_begins_77 : decode cX12_begins 77 = .ok (.bastore, 1) := by decide +kernel
theorem dX12_begins_78 : decode cX12_begins 78 = .ok (.aload_n 0, 1) := by decide +kernel
theorem dX12_begins_79 : decode cX12_begins 79 = .ok (.getfield 116, 3) := by decide +kernel
theorem dX12_begins_82 : decode cX12_begins 82 = .ok (.iload_n 1, 1) := by decide +kernel
theorem dX12_begins_83 : decode cX12_begins 83 = .ok (.iconst 0, 1) := by decide +kernel
theorem dX12_begins_84 : decode cX12_begins 84 = .ok (.bastore, 1) := by decide +kernel
theorem dX12_begins_85 : decode cX12_begins 85 = .ok (.iinc 1 1, 3) := by decide +kernel
theorem dX12_begins_88 : decode cX12_begins 88 = .ok (.goto (-30), 3) := by decide +kernel
abbrev cX12_cutAll : ByteArray := prog_14_method_9_code
def yX12_cutAll : MethodName := ⟨RX12, "cutAll", "()V"⟩
theorem okX12_cutAll : yok yX12_cutAll 0 := by decide +kernel
theorem kw_1509 : Cond.fieldLink "LandSurveyModel" 298 "LandSurveyModel" "size" "I" ∈ uu := uu_in (i := 1509) (by decide +kernel) (by decide +kernel)
theorem fk_LandSurveyModel_298 : fkI "LandSurveyModel" 298 11 3 RX12 TX12 87 := ⟨rfl, rfl, inX12, by decide, kw_1509, by decide⟩
theorem dX12_cutAll_0 : decode cX12_cutAll 0 = .ok (.aload_n 0, 1) := by decide +kernel
theorem dX12_cutAll_1 : decode cX12_cutAll 1 = .ok (.aload_n 0, 1) := by decide +kernel
theorem dX12_cutAll_2 : decode cX12_cutAll 2 = .ok (.getfield 11, 3) := by decide +kernel
theorem dX12_cutAll_5 : decode cX12_cutAll 5 = .ok (.putfield 298, 3) := by decide +kernel
theorem pk_LandSurveyModel_3 : pk RX12 TX12 87 3 tyX12 false := ⟨tyX12_ok, nmX12, rfl⟩
theorem dX12_cutAll_8 : decode cX12_cutAll 8 = .ok (.aload_n 0, 1) := by decide +kernel
theorem dX12_cutAll_9 : decode cX12_cutAll 9 = .ok (.iconst 0, 1) := by decide +kernel
theorem dX12_cutAll_10 : decode cX12_cutAll 10 = .ok (.putfield 11, 3) := by decide +kernel
theorem dX12_cutAll_13 : decode cX12_cutAll 13 = .ok (.iconst 0, 1) := by decide +kernel
theorem dX12_cutAll_14 : decode cX12_cutAll 14 = .ok (.istore_n 1, 1) := by decide +kernel
theorem dX12_cutAll_15 : decode cX12_cutAll 15 = .ok (.iconst 0, 1) := by decide +kernel
theorem dX12_cutAll_16 : decode cX12_cutAll 16 = .ok (.istore_n 2, 1) := by decide +kernel
theorem dX12_cutAll_17 : decode cX12_cutAll 17 = .ok (.iload_n 2, 1) := by decide +kernel
theorem dX12_cutAll_18 : decode cX12_cutAll 18 = .ok (.aload_n 0, 1) := by decide +kernel
theorem dX12_cutAll_19 : decode cX12_cutAll 19 = .ok (.getfield 298, 3) := by decide +kernel
theorem dX12_cutAll_22 : decode cX12_cutAll 22 = .ok (.if_icmp .ge 257, 3) := by decide +kernel
theorem dX12_cutAll_279 : decode cX12_cutAll 279 = .ok (.aload_n 0, 1) := by decide +kernel
theorem dX12_cutAll_280 : decode cX12_cutAll 280 = .ok (.getfield 24, 3) := by decide +kernel
theorem dX12_cutAll_283 : decode cX12_cutAll 283 = .ok (.iload_n 1, 1) := by decide +kernel
theorem dX12_cutAll_284 : decode cX12_cutAll 284 = .ok (.iconst 0, 1) := by decide +kernel
theorem dX12_cutAll_285 : decode cX12_cutAll 285 = .ok (.iastore, 1) := by decide +kernel
theorem dX12_cutAll_286 : decode cX12_cutAll 286 = .ok (.aload_n 0, 1) := by decide +kernel
theorem dX12_cutAll_287 : decode cX12_cutAll 287 = .ok (.getfield 27, 3) := by decide +kernel
theorem dX12_cutAll_290 : decode cX12_cutAll 290 = .ok (.iload_n 1, 1) := by decide +kernel
theorem dX12_cutAll_291 : decode cX12_cutAll 291 = .ok (.aload_n 0, 1) := by decide +kernel
theorem dX12_cutAll_292 : decode cX12_cutAll 292 = .ok (.getfield 298, 3) := by decide +kernel
theorem dX12_cutAll_295 : decode cX12_cutAll 295 = .ok (.iastore, 1) := by decide +kernel
theorem dX12_cutAll_296 : decode cX12_cutAll 296 = .ok (.aload_n 0, 1) := by decide +kernel
theorem dX12_cutAll_297 : decode cX12_cutAll 297 = .ok (.iconst 0, 1) := by decide +kernel
theorem dX12_cutAll_298 : decode cX12_cutAll 298 = .ok (.putfield 317, 3) := by decide +kernel
theorem dX12_cutAll_301 : decode cX12_cutAll 301 = .ok (.aload_n 0, 1) := by decide +kernel
theorem dX12_cutAll_302 : decode cX12_cutAll 302 = .ok (.iconst 0, 1) := by decide +kernel
theorem dX12_cutAll_303 : decode cX12_cutAll 303 = .ok (.putfield 320, 3) := by decide +kernel
theorem dX12_cutAll_306 : decode cX12_cutAll 306 = .ok (.return_, 1) := by decide +kernel
theorem dX12_cutAll_25 : decode cX12_cutAll 25 = .ok (.aload_n 0, 1) := by decide +kernel
theorem dX12_cutAll_26 : decode cX12_cutAll 26 = .ok (.getfield 14, 3) := by decide +kernel
theorem dX12_cutAll_29 : decode cX12_cutAll 29 = .ok (.iload_n 2, 1) := by decide +kernel
theorem dX12_cutAll_30 : decode cX12_cutAll 30 = .ok (.iaload, 1) := by decide +kernel
theorem dX12_cutAll_31 : decode cX12_cutAll 31 = .ok (.istore_n 3, 1) := by decide +kernel
theorem dX12_cutAll_32 : decode cX12_cutAll 32 = .ok (.iload_n 3, 1) := by decide +kernel
theorem dX12_cutAll_33 : decode cX12_cutAll 33 = .ok (.bipush 10, 2) := by decide +kernel
theorem dX12_cutAll_35 : decode cX12_cutAll 35 = .ok (.if_icmp .eq 9, 3) := by decide +kernel
theorem dX12_cutAll_44 : decode cX12_cutAll 44 = .ok (.iinc 2 1, 3) := by decide +kernel
theorem dX12_cutAll_47 : decode cX12_cutAll 47 = .ok (.goto (-30), 3) := by decide +kernel
theorem dX12_cutAll_38 : decode cX12_cutAll 38 = .ok (.iload_n 3, 1) := by decide +kernel
theorem dX12_cutAll_39 : decode cX12_cutAll 39 = .ok (.bipush 32, 2) := by decide +kernel
theorem dX12_cutAll_41 : decode cX12_cutAll 41 = .ok (.if_icmp .ne 9, 3) := by decide +kernel
theorem dX12_cutAll_50 : decode cX12_cutAll 50 = .ok (.iload_n 2, 1) := by decide +kernel
theorem dX12_cutAll_51 : decode cX12_cutAll 51 = .ok (.istore 4, 2) := by decide +kernel
theorem dX12_cutAll_53 : decode cX12_cutAll 53 = .ok (.lconst 0, 1) := by decide +kernel
theorem dX12_cutAll_54 : decode cX12_cutAll 54 = .ok (.lstore 5, 2) := by decide +kernel
theorem dX12_cutAll_56 : decode cX12_cutAll 56 = .ok (.aload_n 0, 1) := by decide +kernel
theorem dX12_cutAll_57 : decode cX12_cutAll 57 = .ok (.getfield 27, 3) := by decide +kernel
theorem dX12_cutAll_60 : decode cX12_cutAll 60 = .ok (.iload_n 1, 1) := by decide +kernel
theorem dX12_cutAll_61 : decode cX12_cutAll 61 = .ok (.iload_n 2, 1) := by decide +kernel
theorem dX12_cutAll_62 : decode cX12_cutAll 62 = .ok (.iastore, 1) := by decide +kernel
theorem dX12_cutAll_63 : decode cX12_cutAll 63 = .ok (.iload_n 3, 1) := by decide +kernel
theorem dX12_cutAll_64 : decode cX12_cutAll 64 = .ok (.invokestatic 294, 3) := by decide +kernel
theorem dX12_cutAll_67 : decode cX12_cutAll 67 = .ok (.ifCond .eq 85, 3) := by decide +kernel
theorem dX12_cutAll_152 : decode cX12_cutAll 152 = .ok (.iload_n 3, 1) := by decide +kernel
theorem dX12_cutAll_153 : decode cX12_cutAll 153 = .ok (.invokestatic 307, 3) := by decide +kernel
theorem kw_1785 : Cond.code yX12_isDigit prog_14_method_6_code 1 (some .boolean) ∈ uu := uu_in (i := 1785) (by decide +kernel) (by decide +kernel)
theorem kw_1783 : Cond.methodLink "LandSurveyModel" 307 yX12_isDigit ∈ uu := uu_in (i := 1783) (by decide +kernel) (by decide +kernel)
theorem kw_1784 : Cond.static yX12_isDigit ∈ uu := uu_in (i := 1784) (by decide +kernel) (by decide +kernel)
theorem lk_LandSurveyModel_307 : lkS "LandSurveyModel" 307 yX12_isDigit cX12_isDigit 1 (some .boolean) 1 := ⟨kw_1783, kw_1784, kw_152, kw_1785, okX12_isDigit⟩
theorem dX12_cutAll_156 : decode cX12_cutAll 156 = .ok (.ifCond .eq 84, 3) := by decide +kernel
theorem dX12_cutAll_240 : decode cX12_cutAll 240 = .ok (.iload_n 3, 1) := by decide +kernel
theorem dX12_cutAll_241 : decode cX12_cutAll 241 = .ok (.i2l, 1) := by decide +kernel
theorem dX12_cutAll_242 : decode cX12_cutAll 242 = .ok (.lstore 5, 2) := by decide +kernel
theorem dX12_cutAll_244 : decode cX12_cutAll 244 = .ok (.aload_n 0, 1) := by decide +kernel
theorem dX12_cutAll_245 : decode cX12_cutAll 245 = .ok (.getfield 24, 3) := by decide +kernel
theorem dX12_cutAll_248 : decode cX12_cutAll 248 = .ok (.iload_n 1, 1) := by decide +kernel
theorem dX12_cutAll_249 : decode cX12_cutAll 249 = .ok (.iload_n 3, 1) := by decide +kernel
theorem dX12_cutAll_250 : decode cX12_cutAll 250 = .ok (.invokestatic 314, 3) := by decide +kernel
theorem kw_1790 : Cond.code yX12_isSignOf prog_14_method_8_code 1 (some .boolean) ∈ uu := uu_in (i := 1790) (by decide +kernel) (by decide +kernel)
theorem kw_1788 : Cond.methodLink "LandSurveyModel" 314 yX12_isSignOf ∈ uu := uu_in (i := 1788) (by decide +kernel) (by decide +kernel)
theorem kw_1789 : Cond.static yX12_isSignOf ∈ uu := uu_in (i := 1789) (by decide +kernel) (by decide +kernel)
theorem lk_LandSurveyModel_314 : lkS "LandSurveyModel" 314 yX12_isSignOf cX12_isSignOf 1 (some .boolean) 1 := ⟨kw_1788, kw_1789, kw_152, kw_1790, okX12_isSignOf⟩
theorem dX12_cutAll_253 : decode cX12_cutAll 253 = .ok (.ifCond .eq 7, 3) := by decide +kernel
theorem dX12_cutAll_260 : decode cX12_cutAll 260 = .ok (.iconst 4, 1) := by decide +kernel
theorem dX12_cutAll_261 : decode cX12_cutAll 261 = .ok (.iastore, 1) := by decide +kernel
theorem dX12_cutAll_262 : decode cX12_cutAll 262 = .ok (.iinc 2 1, 3) := by decide +kernel
theorem dX12_cutAll_265 : decode cX12_cutAll 265 = .ok (.aload_n 0, 1) := by decide +kernel
theorem dX12_cutAll_266 : decode cX12_cutAll 266 = .ok (.getfield 30, 3) := by decide +kernel
theorem dX12_cutAll_269 : decode cX12_cutAll 269 = .ok (.iload_n 1, 1) := by decide +kernel
theorem dX12_cutAll_270 : decode cX12_cutAll 270 = .ok (.lload 5, 2) := by decide +kernel
theorem dX12_cutAll_272 : decode cX12_cutAll 272 = .ok (.lastore, 1) := by decide +kernel
theorem dX12_cutAll_273 : decode cX12_cutAll 273 = .ok (.iinc 1 1, 3) := by decide +kernel
theorem dX12_cutAll_276 : decode cX12_cutAll 276 = .ok (.goto (-259), 3) := by decide +kernel
theorem dX12_cutAll_256 : decode cX12_cutAll 256 = .ok (.iconst 3, 1) := by decide +kernel
theorem dX12_cutAll_257 : decode cX12_cutAll 257 = .ok (.goto 4, 3) := by decide +kernel
theorem dX12_cutAll_159 : decode cX12_cutAll 159 = .ok (.iload_n 2, 1) := by decide +kernel
theorem dX12_cutAll_160 : decode cX12_cutAll 160 = .ok (.aload_n 0, 1) := by decide +kernel
theorem dX12_cutAll_161 : decode cX12_cutAll 161 = .ok (.getfield 298, 3) := by decide +kernel
theorem dX12_cutAll_164 : decode cX12_cutAll 164 = .ok (.if_icmp .ge 54, 3) := by decide +kernel
theorem dX12_cutAll_218 : decode cX12_cutAll 218 = .ok (.aload_n 0, 1) := by decide +kernel
theorem dX12_cutAll_219 : decode cX12_cutAll 219 = .ok (.getfield 24, 3) := by decide +kernel
theorem dX12_cutAll_222 : decode cX12_cutAll 222 = .ok (.iload_n 1, 1) := by decide +kernel
theorem dX12_cutAll_223 : decode cX12_cutAll 223 = .ok (.iload_n 2, 1) := by decide +kernel
theorem dX12_cutAll_224 : decode cX12_cutAll 224 = .ok (.iload 4, 2) := by decide +kernel
theorem dX12_cutAll_226 : decode cX12_cutAll 226 = .ok (.isub, 1) := by decide +kernel
theorem dX12_cutAll_227 : decode cX12_cutAll 227 = .ok (.iconst 4, 1) := by decide +kernel
theorem dX12_cutAll_228 : decode cX12_cutAll 228 = .ok (.if_icmp .le 7, 3) := by decide +kernel
theorem dX12_cutAll_235 : decode cX12_cutAll 235 = .ok (.iconst 2, 1) := by decide +kernel
theorem dX12_cutAll_236 : decode cX12_cutAll 236 = .ok (.iastore, 1) := by decide +kernel
theorem dX12_cutAll_237 : decode cX12_cutAll 237 = .ok (.goto 28, 3) := by decide +kernel
theorem dX12_cutAll_231 : decode cX12_cutAll 231 = .ok (.iconst 4, 1) := by decide +kernel
theorem dX12_cutAll_232 : decode cX12_cutAll 232 = .ok (.goto 4, 3) := by decide +kernel
theorem dX12_cutAll_167 : decode cX12_cutAll 167 = .ok (.aload_n 0, 1) := by decide +kernel
theorem dX12_cutAll_168 : decode cX12_cutAll 168 = .ok (.getfield 14, 3) := by decide +kernel
theorem dX12_cutAll_171 : decode cX12_cutAll 171 = .ok (.iload_n 2, 1) := by decide +kernel
theorem dX12_cutAll_172 : decode cX12_cutAll 172 = .ok (.iaload, 1) := by decide +kernel
theorem dX12_cutAll_173 : decode cX12_cutAll 173 = .ok (.invokestatic 307, 3) := by decide +kernel
theorem dX12_cutAll_176 : decode cX12_cutAll 176 = .ok (.ifCond .eq 42, 3) := by decide +kernel
theorem dX12_cutAll_179 : decode cX12_cutAll 179 = .ok (.iload_n 2, 1) := by decide +kernel
theorem dX12_cutAll_180 : decode cX12_cutAll 180 = .ok (.iload 4, 2) := by decide +kernel
theorem dX12_cutAll_182 : decode cX12_cutAll 182 = .ok (.isub, 1) := by decide +kernel
theorem dX12_cutAll_183 : decode cX12_cutAll 183 = .ok (.iconst 4, 1) := by decide +kernel
theorem dX12_cutAll_184 : decode cX12_cutAll 184 = .ok (.if_icmp .ge 24, 3) := by decide +kernel
theorem dX12_cutAll_208 : decode cX12_cutAll 208 = .ok (.lload 5, 2) := by decide +kernel
theorem dX12_cutAll_210 : decode cX12_cutAll 210 = .ok (.lstore 5, 2) := by decide +kernel
theorem dX12_cutAll_212 : decode cX12_cutAll 212 = .ok (.iinc 2 1, 3) := by decide +kernel
theorem dX12_cutAll_215 : decode cX12_cutAll 215 = .ok (.goto (-56), 3) := by decide +kernel
theorem dX12_cutAll_187 : decode cX12_cutAll 187 = .ok (.ldc2_w 310, 3) := by decide +kernel
theorem kw_1786 : Cond.constantLong "LandSurveyModel" 310 (10) ∈ uu := uu_in (i := 1786) (by decide +kernel) (by decide +kernel)
theorem dX12_cutAll_190 : decode cX12_cutAll 190 = .ok (.lload 5, 2) := by decide +kernel
theorem dX12_cutAll_192 : decode cX12_cutAll 192 = .ok (.lmul, 1) := by decide +kernel
theorem dX12_cutAll_193 : decode cX12_cutAll 193 = .ok (.aload_n 0, 1) := by decide +kernel
theorem dX12_cutAll_194 : decode cX12_cutAll 194 = .ok (.getfield 14, 3) := by decide +kernel
theorem dX12_cutAll_197 : decode cX12_cutAll 197 = .ok (.iload_n 2, 1) := by decide +kernel
theorem dX12_cutAll_198 : decode cX12_cutAll 198 = .ok (.iaload, 1) := by decide +kernel
theorem dX12_cutAll_199 : decode cX12_cutAll 199 = .ok (.i2l, 1) := by decide +kernel
theorem dX12_cutAll_200 : decode cX12_cutAll 200 = .ok (.ladd, 1) := by decide +kernel
theorem dX12_cutAll_201 : decode cX12_cutAll 201 = .ok (.ldc2_w 312, 3) := by decide +kernel
theorem kw_1787 : Cond.constantLong "LandSurveyModel" 312 (48) ∈ uu := uu_in (i := 1787) (by decide +kernel) (by decide +kernel)
theorem dX12_cutAll_204 : decode cX12_cutAll 204 = .ok (.lsub, 1) := by decide +kernel
theorem dX12_cutAll_205 : decode cX12_cutAll 205 = .ok (.goto 5, 3) := by decide +kernel
theorem dX12_cutAll_70 : decode cX12_cutAll 70 = .ok (.iload_n 2, 1) := by decide +kernel
theorem dX12_cutAll_71 : decode cX12_cutAll 71 = .ok (.aload_n 0, 1) := by decide +kernel
theorem dX12_cutAll_72 : decode cX12_cutAll 72 = .ok (.getfield 298, 3) := by decide +kernel
theorem dX12_cutAll_75 : decode cX12_cutAll 75 = .ok (.if_icmp .ge 54, 3) := by decide +kernel
theorem dX12_cutAll_129 : decode cX12_cutAll 129 = .ok (.aload_n 0, 1) := by decide +kernel
theorem dX12_cutAll_130 : decode cX12_cutAll 130 = .ok (.getfield 24, 3) := by decide +kernel
theorem dX12_cutAll_133 : decode cX12_cutAll 133 = .ok (.iload_n 1, 1) := by decide +kernel
theorem dX12_cutAll_134 : decode cX12_cutAll 134 = .ok (.iload_n 2, 1) := by decide +kernel
theorem dX12_cutAll_135 : decode cX12_cutAll 135 = .ok (.iload 4, 2) := by decide +kernel
theorem dX12_cutAll_137 : decode cX12_cutAll 137 = .ok (.isub, 1) := by decide +kernel
theorem dX12_cutAll_138 : decode cX12_cutAll 138 = .ok (.bipush 8, 2) := by decide +kernel
theorem dX12_cutAll_140 : decode cX12_cutAll 140 = .ok (.if_icmp .le 7, 3) := by decide +kernel
theorem dX12_cutAll_147 : decode cX12_cutAll 147 = .ok (.iconst 1, 1) := by decide +kernel
theorem dX12_cutAll_148 : decode cX12_cutAll 148 = .ok (.iastore, 1) := by decide +kernel
theorem dX12_cutAll_149 : decode cX12_cutAll 149 = .ok (.goto 116, 3) := by decide +kernel
theorem dX12_cutAll_143 : decode cX12_cutAll 143 = .ok (.iconst 4, 1) := by decide +kernel
theorem dX12_cutAll_144 : decode cX12_cutAll 144 = .ok (.goto 4, 3) := by decide +kernel
theorem dX12_cutAll_78 : decode cX12_cutAll 78 = .ok (.aload_n 0, 1) := by decide +kernel
theorem dX12_cutAll_79 : decode cX12_cutAll 79 = .ok (.getfield 14, 3) := by decide +kernel
theorem dX12_cutAll_82 : decode cX12_cutAll 82 = .ok (.iload_n 2, 1) := by decide +kernel
theorem dX12_cutAll_83 : decode cX12_cutAll 83 = .ok (.iaload, 1) := by decide +kernel
theorem dX12_cutAll_84 : decode cX12_cutAll 84 = .ok (.invokestatic 294, 3) := by decide +kernel
theorem dX12_cutAll_87 : decode cX12_cutAll 87 = .ok (.ifCond .eq 42, 3) := by decide +kernel
theorem dX12_cutAll_90 : decode cX12_cutAll 90 = .ok (.iload_n 2, 1) := by decide +kernel
theorem dX12_cutAll_91 : decode cX12_cutAll 91 = .ok (.iload 4, 2) := by decide +kernel
theorem dX12_cutAll_93 : decode cX12_cutAll 93 = .ok (.isub, 1) := by decide +kernel
theorem dX12_cutAll_94 : decode cX12_cutAll 94 = .ok (.bipush 8, 2) := by decide +kernel
theorem dX12_cutAll_96 : decode cX12_cutAll 96 = .ok (.if_icmp .ge 23, 3) := by decide +kernel
theorem dX12_cutAll_119 : decode cX12_cutAll 119 = .ok (.lload 5, 2) := by decide +kernel
theorem dX12_cutAll_121 : decode cX12_cutAll 121 = .ok (.lstore 5, 2) := by decide +kernel
theorem dX12_cutAll_123 : decode cX12_cutAll 123 = .ok (.iinc 2 1, 3) := by decide +kernel
theorem dX12_cutAll_126 : decode cX12_cutAll 126 = .ok (.goto (-56), 3) := by decide +kernel
theorem dX12_cutAll_99 : decode cX12_cutAll 99 = .ok (.ldc2_w 301, 3) := by decide +kernel
theorem kw_1779 : Cond.constantLong "LandSurveyModel" 301 (37) ∈ uu := uu_in (i := 1779) (by decide +kernel) (by decide +kernel)
theorem dX12_cutAll_102 : decode cX12_cutAll 102 = .ok (.lload 5, 2) := by decide +kernel
theorem dX12_cutAll_104 : decode cX12_cutAll 104 = .ok (.lmul, 1) := by decide +kernel
theorem dX12_cutAll_105 : decode cX12_cutAll 105 = .ok (.aload_n 0, 1) := by decide +kernel
theorem dX12_cutAll_106 : decode cX12_cutAll 106 = .ok (.getfield 14, 3) := by decide +kernel
theorem dX12_cutAll_109 : decode cX12_cutAll 109 = .ok (.iload_n 2, 1) := by decide +kernel
theorem dX12_cutAll_110 : decode cX12_cutAll 110 = .ok (.iaload, 1) := by decide +kernel
theorem dX12_cutAll_111 : decode cX12_cutAll 111 = .ok (.invokestatic 303, 3) := by decide +kernel
theorem kw_1782 : Cond.code yX12_rank prog_14_method_7_code 1 (some .int) ∈ uu := uu_in (i := 1782) (by decide +kernel) (by decide +kernel)
theorem kw_1780 : Cond.methodLink "LandSurveyModel" 303 yX12_rank ∈ uu := uu_in (i := 1780) (by decide +kernel) (by decide +kernel)
theorem kw_1781 : Cond.static yX12_rank ∈ uu := uu_in (i := 1781) (by decide +kernel) (by decide +kernel)
theorem lk_LandSurveyModel_303 : lkS "LandSurveyModel" 303 yX12_rank cX12_rank 1 (some .int) 1 := ⟨kw_1780, kw_1781, kw_152, kw_1782, okX12_rank⟩
theorem dX12_cutAll_114 : decode cX12_cutAll 114 = .ok (.i2l, 1) := by decide +kernel
theorem dX12_cutAll_115 : decode cX12_cutAll 115 = .ok (.ladd, 1) := by decide +kernel
theorem dX12_cutAll_116 : decode cX12_cutAll 116 = .ok (.goto 5, 3) := by decide +kernel
abbrev cX12_keeps : ByteArray := prog_14_method_20_code
def yX12_keeps : MethodName := ⟨RX12, "keeps", "(I)V"⟩
theorem okX12_keeps : yok yX12_keeps 1 := by decide +kernel
theorem dX12_keeps_0 : decode cX12_keeps 0 = .ok (.aload_n 0, 1) := by decide +kernel
theorem dX12_keeps_1 : decode cX12_keeps 1 = .ok (.getfield 97, 3) := by decide +kernel
theorem dX12_keeps_4 : decode cX12_keeps 4 = .ok (.iload_n 1, 1) := by decide +kernel
theorem dX12_keeps_5 : decode cX12_keeps 5 = .ok (.aload_n 0, 1) := by decide +kernel
theorem dX12_keeps_6 : decode cX12_keeps 6 = .ok (.getfield 342, 3) := by decide +kernel
theorem dX12_keeps_9 : decode cX12_keeps 9 = .ok (.iastore, 1) := by decide +kernel
theorem dX12_keeps_10 : decode cX12_keeps 10 = .ok (.aload_n 0, 1) := by decide +kernel
theorem dX12_keeps_11 : decode cX12_keeps 11 = .ok (.getfield 100, 3) := by decide +kernel
theorem dX12_keeps_14 : decode cX12_keeps 14 = .ok (.iload_n 1, 1) := by decide +kernel
theorem dX12_keeps_15 : decode cX12_keeps 15 = .ok (.aload_n 0, 1) := by decide +kernel
theorem dX12_keeps_16 : decode cX12_keeps 16 = .ok (.getfield 100, 3) := by decide +kernel
theorem dX12_keeps_19 : decode cX12_keeps 19 = .ok (.bipush 8, 2) := by decide +kernel
theorem dX12_keeps_21 : decode cX12_keeps 21 = .ok (.iaload, 1) := by decide +kernel
theorem dX12_keeps_22 : decode cX12_keeps 22 = .ok (.iastore, 1) := by decide +kernel
theorem dX12_keeps_23 : decode cX12_keeps 23 = .ok (.aload_n 0, 1) := by decide +kernel
theorem dX12_keeps_24 : decode cX12_keeps 24 = .ok (.getfield 122, 3) := by decide +kernel
theorem dX12_keeps_27 : decode cX12_keeps 27 = .ok (.iload_n 1, 1) := by decide +kernel
theorem dX12_keeps_28 : decode cX12_keeps 28 = .ok (.aload_n 0, 1) := by decide +kernel
theorem dX12_keeps_29 : decode cX12_keeps 29 = .ok (.getfield 122, 3) := by decide +kernel
theorem dX12_keeps_32 : decode cX12_keeps 32 = .ok (.bipush 8, 2) := by decide +kernel
theorem dX12_keeps_34 : decode cX12_keeps 34 = .ok (.iaload, 1) := by decide +kernel
theorem dX12_keeps_35 : decode cX12_keeps 35 = .ok (.iastore, 1) := by decide +kernel
theorem dX12_keeps_36 : decode cX12_keeps 36 = .ok (.aload_n 0, 1) := by decide +kernel
theorem dX12_keeps_37 : decode cX12_keeps 37 = .ok (.getfield 128, 3) := by decide +kernel
theorem dX12_keeps_40 : decode cX12_keeps 40 = .ok (.iload_n 1, 1) := by decide +kernel
theorem dX12_keeps_41 : decode cX12_keeps 41 = .ok (.aload_n 0, 1) := by decide +kernel
theorem dX12_keeps_42 : decode cX12_keeps 42 = .ok (.getfield 128, 3) := by decide +kernel
theorem dX12_keeps_45 : decode cX12_keeps 45 = .ok (.bipush 8, 2) := by decide +kernel
theorem dX12_keeps_47 : decode cX12_keeps 47 = .ok (.iaload, 1) := by decide +kernel
theorem dX12_keeps_48 : decode cX12_keeps 48 = .ok (.iastore, 1) := by decide +kernel
theorem dX12_keeps_49 : decode cX12_keeps 49 = .ok (.aload_n 0, 1) := by decide +kernel
theorem dX12_keeps_50 : decode cX12_keeps 50 = .ok (.getfield 137, 3) := by decide +kernel
theorem dX12_keeps_53 : decode cX12_keeps 53 = .ok (.iload_n 1, 1) := by decide +kernel
theorem dX12_keeps_54 : decode cX12_keeps 54 = .ok (.aload_n 0, 1) := by decide +kernel
theorem dX12_keeps_55 : decode cX12_keeps 55 = .ok (.getfield 137, 3) := by decide +kernel
theorem dX12_keeps_58 : decode cX12_keeps 58 = .ok (.bipush 8, 2) := by decide +kernel
theorem dX12_keeps_60 : decode cX12_keeps 60 = .ok (.iaload, 1) := by decide +kernel
theorem dX12_keeps_61 : decode cX12_keeps 61 = .ok (.iastore, 1) := by decide +kernel
theorem dX12_keeps_62 : decode cX12_keeps 62 = .ok (.iconst 0, 1) := by decide +kernel
theorem dX12_keeps_63 : decode cX12_keeps 63 = .ok (.istore_n 2, 1) := by decide +kernel
theorem dX12_keeps_64 : decode cX12_keeps 64 = .ok (.iload_n 2, 1) := by decide +kernel
theorem dX12_keeps_65 : decode cX12_keeps 65 = .ok (.bipush 10, 2) := by decide +kernel
theorem dX12_keeps_67 : decode cX12_keeps 67 = .ok (.if_icmp .ge 129, 3) := by decide +kernel
theorem dX12_keeps_196 : decode cX12_keeps 196 = .ok (.iconst 0, 1) := by decide +kernel
theorem dX12_keeps_197 : decode cX12_keeps 197 = .ok (.istore_n 2, 1) := by decide +kernel
theorem dX12_keeps_198 : decode cX12_keeps 198 = .ok (.iload_n 2, 1) := by decide +kernel
theorem dX12_keeps_199 : decode cX12_keeps 199 = .ok (.bipush 24, 2) := by decide +kernel
theorem dX12_keeps_201 : decode cX12_keeps 201 = .ok (.if_icmp .ge 82, 3) := by decide +kernel
theorem dX12_keeps_283 : decode cX12_keeps 283 = .ok (.iconst 0, 1) := by decide +kernel
theorem dX12_keeps_284 : decode cX12_keeps 284 = .ok (.istore_n 2, 1) := by decide +kernel
theorem dX12_keeps_285 : decode cX12_keeps 285 = .ok (.iload_n 2, 1) := by decide +kernel
theorem dX12_keeps_286 : decode cX12_keeps 286 = .ok (.aload_n 0, 1) := by decide +kernel
theorem dX12_keeps_287 : decode cX12_keeps 287 = .ok (.getfield 336, 3) := by decide +kernel
theorem dX12_keeps_290 : decode cX12_keeps 290 = .ok (.if_icmp .ge 53, 3) := by decide +kernel
theorem dX12_keeps_343 : decode cX12_keeps 343 = .ok (.return_, 1) := by decide +kernel
theorem dX12_keeps_293 : decode cX12_keeps 293 = .ok (.aload_n 0, 1) := by decide +kernel
theorem dX12_keeps_294 : decode cX12_keeps 294 = .ok (.getfield 149, 3) := by decide +kernel
theorem dX12_keeps_297 : decode cX12_keeps 297 = .ok (.sipush 1600, 3) := by decide +kernel
theorem dX12_keeps_300 : decode cX12_keeps 300 = .ok (.iload_n 1, 1) := by decide +kernel
theorem dX12_keeps_301 : decode cX12_keeps 301 = .ok (.imul, 1) := by decide +kernel
theorem dX12_keeps_302 : decode cX12_keeps 302 = .ok (.iload_n 2, 1) := by decide +kernel
theorem dX12_keeps_303 : decode cX12_keeps 303 = .ok (.iadd, 1) := by decide +kernel
theorem dX12_keeps_304 : decode cX12_keeps 304 = .ok (.aload_n 0, 1) := by decide +kernel
theorem dX12_keeps_305 : decode cX12_keeps 305 = .ok (.getfield 149, 3) := by decide +kernel
theorem dX12_keeps_308 : decode cX12_keeps 308 = .ok (.sipush 12800, 3) := by decide +kernel
theorem dX12_keeps_311 : decode cX12_keeps 311 = .ok (.iload_n 2, 1) := by decide +kernel
theorem dX12_keeps_312 : decode cX12_keeps 312 = .ok (.iadd, 1) := by decide +kernel
theorem dX12_keeps_313 : decode cX12_keeps 313 = .ok (.iaload, 1) := by decide +kernel
theorem dX12_keeps_314 : decode cX12_keeps 314 = .ok (.iastore, 1) := by decide +kernel
theorem dX12_keeps_315 : decode cX12_keeps 315 = .ok (.aload_n 0, 1) := by decide +kernel
theorem dX12_keeps_316 : decode cX12_keeps 316 = .ok (.getfield 152, 3) := by decide +kernel
theorem dX12_keeps_319 : decode cX12_keeps 319 = .ok (.sipush 1600, 3) := by decide +kernel
theorem dX12_keeps_322 : decode cX12_keeps 322 = .ok (.iload_n 1, 1) := by decide +kernel
theorem dX12_keeps_323 : decode cX12_keeps 323 = .ok (.imul, 1) := by decide +kernel
theorem dX12_keeps_324 : decode cX12_keeps 324 = .ok (.iload_n 2, 1) := by decide +kernel
theorem dX12_keeps_325 : decode cX12_keeps 325 = .ok (.iadd, 1) := by decide +kernel
theorem dX12_keeps_326 : decode cX12_keeps 326 = .ok (.aload_n 0, 1) := by decide +kernel
theorem dX12_keeps_327 : decode cX12_keeps 327 = .ok (.getfield 152, 3) := by decide +kernel
theorem dX12_keeps_330 : decode cX12_keeps 330 = .ok (.sipush 12800, 3) := by decide +kernel
theorem dX12_keeps_333 : decode cX12_keeps 333 = .ok (.iload_n 2, 1) := by decide +kernel
theorem dX12_keeps_334 : decode cX12_keeps 334 = .ok (.iadd, 1) := by decide +kernel
theorem dX12_keeps_335 : decode cX12_keeps 335 = .ok (.iaload, 1) := by decide +kernel
theorem dX12_keeps_336 : decode cX12_keeps 336 = .ok (.iastore, 1) := by decide +kernel
theorem dX12_keeps_337 : decode cX12_keeps 337 = .ok (.iinc 2 1, 3) := by decide +kernel
theorem dX12_keeps_340 : decode cX12_keeps 340 = .ok (.goto (-55), 3) := by decide +kernel
theorem dX12_keeps_204 : decode cX12_keeps 204 = .ok (.aload_n 0, 1) := by decide +kernel
theorem dX12_keeps_205 : decode cX12_keeps 205 = .ok (.getfield 140, 3) := by decide +kernel
theorem dX12_keeps_208 : decode cX12_keeps 208 = .ok (.bipush 24, 2) := by decide +kernel
theorem dX12_keeps_210 : decode cX12_keeps 210 = .ok (.iload_n 1, 1) := by decide +kernel
theorem dX12_keeps_211 : decode cX12_keeps 211 = .ok (.imul, 1) := by decide +kernel
theorem dX12_keeps_212 : decode cX12_keeps 212 = .ok (.iload_n 2, 1) := by decide +kernel
theorem dX12_keeps_213 : decode cX12_keeps 213 = .ok (.iadd, 1) := by decide +kernel
theorem dX12_keeps_214 : decode cX12_keeps 214 = .ok (.aload_n 0, 1) := by decide +kernel
theorem dX12_keeps_215 : decode cX12_keeps 215 = .ok (.getfield 140, 3) := by decide +kernel
theorem dX12_keeps_218 : decode cX12_keeps 218 = .ok (.sipush 192, 3) := by decide +kernel
theorem dX12_keeps_221 : decode cX12_keeps 221 = .ok (.iload_n 2, 1) := by decide +kernel
theorem dX12_keeps_222 : decode cX12_keeps 222 = .ok (.iadd, 1) := by decide +kernel
theorem dX12_keeps_223 : decode cX12_keeps 223 = .ok (.iaload, 1) := by decide +kernel
theorem dX12_keeps_224 : decode cX12_keeps 224 = .ok (.iastore, 1) := by decide +kernel
theorem dX12_keeps_225 : decode cX12_keeps 225 = .ok (.aload_n 0, 1) := by decide +kernel
theorem dX12_keeps_226 : decode cX12_keeps 226 = .ok (.getfield 143, 3) := by decide +kernel
theorem dX12_keeps_229 : decode cX12_keeps 229 = .ok (.bipush 24, 2) := by decide +kernel
theorem dX12_keeps_231 : decode cX12_keeps 231 = .ok (.iload_n 1, 1) := by decide +kernel
theorem dX12_keeps_232 : decode cX12_keeps 232 = .ok (.imul, 1) := by decide +kernel
theorem dX12_keeps_233 : decode cX12_keeps 233 = .ok (.iload_n 2, 1) := by decide +kernel
theorem dX12_keeps_234 : decode cX12_keeps 234 = .ok (.iadd, 1) := by decide +kernel
theorem dX12_keeps_235 : decode cX12_keeps 235 = .ok (.aload_n 0, 1) := by decide +kernel
theorem dX12_keeps_236 : decode cX12_keeps 236 = .ok (.getfield 143, 3) := by decide +kernel
theorem dX12_keeps_239 : decode cX12_keeps 239 = .ok (.sipush 192, 3) := by decide +kernel
theorem dX12_keeps_242 : decode cX12_keeps 242 = .ok (.iload_n 2, 1) := by decide +kernel
theorem dX12_keeps_243 : decode cX12_keeps 243 = .ok (.iadd, 1) := by decide +kernel
theorem dX12_keeps_244 : decode cX12_keeps 244 = .ok (.iaload, 1) := by decide +kernel
theorem dX12_keeps_245 : decode cX12_keeps 245 = .ok (.iastore, 1) := by decide +kernel
theorem dX12_keeps_246 : decode cX12_keeps 246 = .ok (.aload_n 0, 1) := by decide +kernel
theorem dX12_keeps_247 : decode cX12_keeps 247 = .ok (.getfield 146, 3) := by decide +kernel
theorem dX12_keeps_250 : decode cX12_keeps 250 = .ok (.bipush 24, 2) := by decide +kernel
theorem dX12_keeps_252 : decode cX12_keeps 252 = .ok (.iload_n 1, 1) := by decide +kernel
theorem dX12_keeps_253 : decode cX12_keeps 253 = .ok (.imul, 1) := by decide +kernel
theorem dX12_keeps_254 : decode cX12_keeps 254 = .ok (.iload_n 2, 1) := by decide +kernel
theorem dX12_keeps_255 : decode cX12_keeps 255 = .ok (.iadd, 1) := by decide +kernel
theorem dX12_keeps_256 : decode cX12_keeps 256 = .ok (.aload_n 0, 1) := by decide +kernel
theorem dX12_keeps_257 : decode cX12_keeps 257 = .ok (.getfield 146, 3) := by decide +kernel
theorem dX12_keeps_260 : decode cX12_keeps 260 = .ok (.sipush 192, 3) := by decide +kernel
theorem dX12_keeps_263 : decode cX12_keeps 263 = .ok (.iload_n 2, 1) := by decide +kernel
theorem dX12_keeps_264 : decode cX12_keeps 264 = .ok (.iadd, 1) := by decide +kernel
theorem dX12_keeps_265 : decode cX12_keeps 265 = .ok (.iaload, 1) := by decide +kernel
theorem dX12_keeps_266 : decode cX12_keeps 266 = .ok (.sipush 12800, 3) := by decide +kernel
theorem dX12_keeps_269 : decode cX12_keeps 269 = .ok (.isub, 1) := by decide +kernel
theorem dX12_keeps_270 : decode cX12_keeps 270 = .ok (.sipush 1600, 3) := by decide +kernel
theorem dX12_keeps_273 : decode cX12_keeps 273 = .ok (.iload_n 1, 1) := by decide +kernel
theorem dX12_keeps_274 : decode cX12_keeps 274 = .ok (.imul, 1) := by decide +kernel
theorem dX12_keeps_275 : decode cX12_keeps 275 = .ok (.iadd, 1) := by decide +kernel
theorem dX12_keeps_276 : decode cX12_keeps 276 = .ok (.iastore, 1) := by decide +kernel
theorem dX12_keeps_277 : decode cX12_keeps 277 = .ok (.iinc 2 1, 3) := by decide +kernel
theorem dX12_keeps_280 : decode cX12_keeps 280 = .ok (.goto (-82), 3) := by decide +kernel
theorem dX12_keeps_70 : decode cX12_keeps 70 = .ok (.aload_n 0, 1) := by decide +kernel
theorem dX12_keeps_71 : decode cX12_keeps 71 = .ok (.getfield 106, 3) := by decide +kernel
theorem dX12_keeps_74 : decode cX12_keeps 74 = .ok (.bipush 10, 2) := by decide +kernel
theorem dX12_keeps_76 : decode cX12_keeps 76 = .ok (.iload_n 1, 1) := by decide +kernel
theorem dX12_keeps_77 : decode cX12_keeps 77 = .ok (.imul, 1) := by decide +kernel
theorem dX12_keeps_78 : decode cX12_keeps 78 = .ok (.iload_n 2, 1) := by decide +kernel
theorem dX12_keeps_79 : decode cX12_keeps 79 = .ok (.iadd, 1) := by decide +kernel
theorem dX12_keeps_80 : decode cX12_keeps 80 = .ok (.aload_n 0, 1) := by decide +kernel
theorem dX12_keeps_81 : decode cX12_keeps 81 = .ok (.getfield 106, 3) := by decide +kernel
theorem dX12_keeps_84 : decode cX12_keeps 84 = .ok (.bipush 80, 2) := by decide +kernel
theorem dX12_keeps_86 : decode cX12_keeps 86 = .ok (.iload_n 2, 1) := by decide +kernel
theorem dX12_keeps_87 : decode cX12_keeps 87 = .ok (.iadd, 1) := by decide +kernel
theorem dX12_keeps_88 : decode cX12_keeps 88 = .ok (.iaload, 1) := by decide +kernel
theorem dX12_keeps_89 : decode cX12_keeps 89 = .ok (.iastore, 1) := by decide +kernel
theorem dX12_keeps_90 : decode cX12_keeps 90 = .ok (.aload_n 0, 1) := by decide +kernel
theorem dX12_keeps_91 : decode cX12_keeps 91 = .ok (.getfield 109, 3) := by decide +kernel
theorem dX12_keeps_94 : decode cX12_keeps 94 = .ok (.bipush 10, 2) := by decide +kernel
theorem dX12_keeps_96 : decode cX12_keeps 96 = .ok (.iload_n 1, 1) := by decide +kernel
theorem dX12_keeps_97 : decode cX12_keeps 97 = .ok (.imul, 1) := by decide +kernel
theorem dX12_keeps_98 : decode cX12_keeps 98 = .ok (.iload_n 2, 1) := by decide +kernel
theorem dX12_keeps_99 : decode cX12_keeps 99 = .ok (.iadd, 1) := by decide +kernel
theorem dX12_keeps_100 : decode cX12_keeps 100 = .ok (.aload_n 0, 1) := by decide +kernel
theorem dX12_keeps_101 : decode cX12_keeps 101 = .ok (.getfield 109, 3) := by decide +kernel
theorem dX12_keeps_104 : decode cX12_keeps 104 = .ok (.bipush 80, 2) := by decide +kernel
theorem dX12_keeps_106 : decode cX12_keeps 106 = .ok (.iload_n 2, 1) := by decide +kernel
theorem dX12_keeps_107 : decode cX12_keeps 107 = .ok (.iadd, 1) := by decide +kernel
theorem dX12_keeps_108 : decode cX12_keeps 108 = .ok (.iaload, 1) := by decide +kernel
theorem dX12_keeps_109 : decode cX12_keeps 109 = .ok (.iastore, 1) := by decide +kernel
theorem dX12_keeps_110 : decode cX12_keeps 110 = .ok (.aload_n 0, 1) := by decide +kernel
theorem dX12_keeps_111 : decode cX12_keeps 111 = .ok (.getfield 112, 3) := by decide +kernel
theorem dX12_keeps_114 : decode cX12_keeps 114 = .ok (.bipush 10, 2) := by decide +kernel
theorem dX12_keeps_116 : decode cX12_keeps 116 = .ok (.iload_n 1, 1) := by decide +kernel
theorem dX12_keeps_117 : decode cX12_keeps 117 = .ok (.imul, 1) := by decide +kernel
theorem dX12_keeps_118 : decode cX12_keeps 118 = .ok (.iload_n 2, 1) := by decide +kernel
theorem dX12_keeps_119 : decode cX12_keeps 119 = .ok (.iadd, 1) := by decide +kernel
theorem dX12_keeps_120 : decode cX12_keeps 120 = .ok (.aload_n 0, 1) := by decide +kernel
theorem dX12_keeps_121 : decode cX12_keeps 121 = .ok (.getfield 112, 3) := by decide +kernel
theorem dX12_keeps_124 : decode cX12_keeps 124 = .ok (.bipush 80, 2) := by decide +kernel
theorem dX12_keeps_126 : decode cX12_keeps 126 = .ok (.iload_n 2, 1) := by decide +kernel
theorem dX12_keeps_127 : decode cX12_keeps 127 = .ok (.iadd, 1) := by decide +kernel
theorem dX12_keeps_128 : decode cX12_keeps 128 = .ok (.baload, 1) := by decide +kernel
theorem dX12_keeps_129 : decode cX12_keeps 129 = .ok (.bastore, 1) := by decide +kernel
theorem dX12_keeps_130 : decode cX12_keeps 130 = .ok (.aload_n 0, 1) := by decide +kernel
theorem dX12_keeps_131 : decode cX12_keeps 131 = .ok (.getfield 116, 3) := by decide +kernel
theorem dX12_keeps_134 : decode cX12_keeps 134 = .ok (.bipush 10, 2) := by decide +kernel
theorem dX12_keeps_136 : decode cX12_keeps 136 = .ok (.iload_n 1, 1) := by decide +kernel
theorem dX12_keeps_137 : decode cX12_keeps 137 = .ok (.imul, 1) := by decide +kernel
theorem dX12_keeps_138 : decode cX12_keeps 138 = .ok (.iload_n 2, 1) := by decide +kernel
theorem dX12_keeps_139 : decode cX12_keeps 139 = .ok (.iadd, 1) := by decide +kernel
theorem dX12_keeps_140 : decode cX12_keeps 140 = .ok (.aload_n 0, 1) := by decide +kernel
theorem dX12_keeps_141 : decode cX12_keeps 141 = .ok (.getfield 116, 3) := by decide +kernel
theorem dX12_keeps_144 : decode cX12_keeps 144 = .ok (.bipush 80, 2) := by decide +kernel
theorem dX12_keeps_146 : decode cX12_keeps 146 = .ok (.iload_n 2, 1) := by decide +kernel
theorem dX12_keeps_147 : decode cX12_keeps 147 = .ok (.iadd, 1) := by decide +kernel
theorem dX12_keeps_148 : decode cX12_keeps 148 = .ok (.baload, 1) := by decide +kernel
theorem dX12_keeps_149 : decode cX12_keeps 149 = .ok (.bastore, 1) := by decide +kernel
theorem dX12_keeps_150 : decode cX12_keeps 150 = .ok (.aload_n 0, 1) := by decide +kernel
theorem dX12_keeps_151 : decode cX12_keeps 151 = .ok (.getfield 131, 3) := by decide +kernel
theorem dX12_keeps_154 : decode cX12_keeps 154 = .ok (.bipush 10, 2) := by decide +kernel
theorem dX12_keeps_156 : decode cX12_keeps 156 = .ok (.iload_n 1, 1) := by decide +kernel
theorem dX12_keeps_157 : decode cX12_keeps 157 = .ok (.imul, 1) := by decide +kernel
theorem dX12_keeps_158 : decode cX12_keeps 158 = .ok (.iload_n 2, 1) := by decide +kernel
theorem dX12_keeps_159 : decode cX12_keeps 159 = .ok (.iadd, 1) := by decide +kernel
theorem dX12_keeps_160 : decode cX12_keeps 160 = .ok (.aload_n 0, 1) := by decide +kernel
theorem dX12_keeps_161 : decode cX12_keeps 161 = .ok (.getfield 131, 3) := by decide +kernel
theorem dX12_keeps_164 : decode cX12_keeps 164 = .ok (.bipush 80, 2) := by decide +kernel
theorem dX12_keeps_166 : decode cX12_keeps 166 = .ok (.iload_n 2, 1) := by decide +kernel
theorem dX12_keeps_167 : decode cX12_keeps 167 = .ok (.iadd, 1) := by decide +kernel
theorem dX12_keeps_168 : decode cX12_keeps 168 = .ok (.iaload, 1) := by decide +kernel
theorem dX12_keeps_169 : decode cX12_keeps 169 = .ok (.iastore, 1) := by decide +kernel
theorem dX12_keeps_170 : decode cX12_keeps 170 = .ok (.aload_n 0, 1) := by decide +kernel
theorem dX12_keeps_171 : decode cX12_keeps 171 = .ok (.getfield 134, 3) := by decide +kernel
theorem dX12_keeps_174 : decode cX12_keeps 174 = .ok (.bipush 10, 2) := by decide +kernel
theorem dX12_keeps_176 : decode cX12_keeps 176 = .ok (.iload_n 1, 1) := by decide +kernel
theorem dX12_keeps_177 : decode cX12_keeps 177 = .ok (.imul, 1) := by decide +kernel
theorem dX12_keeps_178 : decode cX12_keeps 178 = .ok (.iload_n 2, 1) := by decide +kernel
theorem dX12_keeps_179 : decode cX12_keeps 179 = .ok (.iadd, 1) := by decide +kernel
theorem dX12_keeps_180 : decode cX12_keeps 180 = .ok (.aload_n 0, 1) := by decide +kernel
theorem dX12_keeps_181 : decode cX12_keeps 181 = .ok (.getfield 134, 3) := by decide +kernel
theorem dX12_keeps_184 : decode cX12_keeps 184 = .ok (.bipush 80, 2) := by decide +kernel
theorem dX12_keeps_186 : decode cX12_keeps 186 = .ok (.iload_n 2, 1) := by decide +kernel
theorem dX12_keeps_187 : decode cX12_keeps 187 = .ok (.iadd, 1) := by decide +kernel
theorem dX12_keeps_188 : decode cX12_keeps 188 = .ok (.iaload, 1) := by decide +kernel
theorem dX12_keeps_189 : decode cX12_keeps 189 = .ok (.iastore, 1) := by decide +kernel
theorem dX12_keeps_190 : decode cX12_keeps 190 = .ok (.iinc 2 1, 3) := by decide +kernel
theorem dX12_keeps_193 : decode cX12_keeps 193 = .ok (.goto (-129), 3) := by decide +kernel
abbrev cX12_rules : ByteArray := prog_14_method_18_code
def yX12_rules : MethodName := ⟨RX12, "rules", "()I"⟩
theorem okX12_rules : yok yX12_rules 0 := by decide +kernel
theorem dX12_rules_0 : decode cX12_rules 0 = .ok (.aload_n 0, 1) := by decide +kernel
theorem dX12_rules_1 : decode cX12_rules 1 = .ok (.iconst 0, 1) := by decide +kernel
theorem dX12_rules_2 : decode cX12_rules 2 = .ok (.putfield 1, 3) := by decide +kernel
theorem dX12_rules_5 : decode cX12_rules 5 = .ok (.aload_n 0, 1) := by decide +kernel
theorem dX12_rules_6 : decode cX12_rules 6 = .ok (.getfield 339, 3) := by decide +kernel
theorem dX12_rules_9 : decode cX12_rules 9 = .ok (.ifCond .le 25, 3) := by decide +kernel
theorem dX12_rules_34 : decode cX12_rules 34 = .ok (.iconst 0, 1) := by decide +kernel
theorem dX12_rules_35 : decode cX12_rules 35 = .ok (.istore_n 1, 1) := by decide +kernel
theorem dX12_rules_36 : decode cX12_rules 36 = .ok (.aload_n 0, 1) := by decide +kernel
theorem dX12_rules_37 : decode cX12_rules 37 = .ok (.getfield 339, 3) := by decide +kernel
theorem dX12_rules_40 : decode cX12_rules 40 = .ok (.bipush 8, 2) := by decide +kernel
theorem dX12_rules_42 : decode cX12_rules 42 = .ok (.if_icmp .ne 14, 3) := by decide +kernel
theorem dX12_rules_56 : decode cX12_rules 56 = .ok (.aload_n 0, 1) := by decide +kernel
theorem dX12_rules_57 : decode cX12_rules 57 = .ok (.invokevirtual 345, 3) := by decide +kernel
theorem kw_1775 : Cond.code yX12_cutAll prog_14_method_9_code 7 none ∈ uu := uu_in (i := 1775) (by decide +kernel) (by decide +kernel)
theorem kw_1772 : Cond.methodLink "LandSurveyModel" 345 yX12_cutAll ∈ uu := uu_in (i := 1772) (by decide +kernel) (by decide +kernel)
theorem kw_1774 : Cond.instanceMethod yX12_cutAll ∈ uu := uu_in (i := 1774) (by decide +kernel) (by decide +kernel)
theorem kw_64 : Cond.selects "LandSurveyModel" yX12_cutAll yX12_cutAll ∈ uu := uu_in (i := 64) (by decide +kernel) (by decide +kernel)
theorem lk_LandSurveyModel_345 : lkV "LandSurveyModel" 345 yX12_cutAll cX12_cutAll 7 none 0 := ⟨kw_1772, kw_1774, kw_64, kw_152, kw_1775, okX12_cutAll⟩
theorem dX12_rules_60 : decode cX12_rules 60 = .ok (.aload_n 0, 1) := by decide +kernel
theorem dX12_rules_61 : decode cX12_rules 61 = .ok (.invokevirtual 348, 3) := by decide +kernel
theorem kw_1794 : Cond.code yX12_begins prog_14_method_19_code 2 none ∈ uu := uu_in (i := 1794) (by decide +kernel) (by decide +kernel)
theorem kw_1791 : Cond.methodLink "LandSurveyModel" 348 yX12_begins ∈ uu := uu_in (i := 1791) (by decide +kernel) (by decide +kernel)
theorem kw_1793 : Cond.instanceMethod yX12_begins ∈ uu := uu_in (i := 1793) (by decide +kernel) (by decide +kernel)
theorem kw_65 : Cond.selects "LandSurveyModel" yX12_begins yX12_begins ∈ uu := uu_in (i := 65) (by decide +kernel) (by decide +kernel)
theorem lk_LandSurveyModel_348 : lkV "LandSurveyModel" 348 yX12_begins cX12_begins 2 none 0 := ⟨kw_1791, kw_1793, kw_65, kw_152, kw_1794, okX12_begins⟩
theorem dX12_rules_64 : decode cX12_rules 64 = .ok (.aload_n 0, 1) := by decide +kernel
theorem dX12_rules_65 : decode cX12_rules 65 = .ok (.getfield 320, 3) := by decide +kernel
theorem dX12_rules_68 : decode cX12_rules 68 = .ok (.ifCond .ne 22, 3) := by decide +kernel
theorem dX12_rules_90 : decode cX12_rules 90 = .ok (.aload_n 0, 1) := by decide +kernel
theorem dX12_rules_91 : decode cX12_rules 91 = .ok (.getfield 320, 3) := by decide +kernel
theorem dX12_rules_94 : decode cX12_rules 94 = .ok (.ifCond .ne 36, 3) := by decide +kernel
theorem dX12_rules_130 : decode cX12_rules 130 = .ok (.aload_n 0, 1) := by decide +kernel
theorem dX12_rules_131 : decode cX12_rules 131 = .ok (.getfield 320, 3) := by decide +kernel
theorem dX12_rules_134 : decode cX12_rules 134 = .ok (.ireturn, 1) := by decide +kernel
theorem dX12_rules_71 : decode cX12_rules 71 = .ok (.aload_n 0, 1) := by decide +kernel
theorem dX12_rules_72 : decode cX12_rules 72 = .ok (.getfield 24, 3) := by decide +kernel
theorem dX12_rules_75 : decode cX12_rules 75 = .ok (.aload_n 0, 1) := by decide +kernel
theorem dX12_rules_76 : decode cX12_rules 76 = .ok (.getfield 317, 3) := by decide +kernel
theorem dX12_rules_79 : decode cX12_rules 79 = .ok (.iaload, 1) := by decide +kernel
theorem dX12_rules_80 : decode cX12_rules 80 = .ok (.ifCond .eq 10, 3) := by decide +kernel
theorem dX12_rules_97 : decode cX12_rules 97 = .ok (.aload_n 0, 1) := by decide +kernel
theorem dX12_rules_98 : decode cX12_rules 98 = .ok (.dup, 1) := by decide +kernel
theorem dX12_rules_99 : decode cX12_rules 99 = .ok (.getfield 339, 3) := by decide +kernel
theorem dX12_rules_102 : decode cX12_rules 102 = .ok (.iload_n 1, 1) := by decide +kernel
theorem dX12_rules_103 : decode cX12_rules 103 = .ok (.ifCond .eq 7, 3) := by decide +kernel
theorem dX12_rules_110 : decode cX12_rules 110 = .ok (.iconst 1, 1) := by decide +kernel
theorem dX12_rules_111 : decode cX12_rules 111 = .ok (.iadd, 1) := by decide +kernel
theorem dX12_rules_112 : decode cX12_rules 112 = .ok (.putfield 339, 3) := by decide +kernel
theorem pk_LandSurveyModel_10 : pk RX12 TX12 87 10 tyX12 false := ⟨tyX12_ok, nmX12, rfl⟩
theorem dX12_rules_115 : decode cX12_rules 115 = .ok (.aload_n 0, 1) := by decide +kernel
theorem dX12_rules_116 : decode cX12_rules 116 = .ok (.aload_n 0, 1) := by decide +kernel
theorem dX12_rules_117 : decode cX12_rules 117 = .ok (.getfield 339, 3) := by decide +kernel
theorem dX12_rules_120 : decode cX12_rules 120 = .ok (.iconst 1, 1) := by decide +kernel
theorem dX12_rules_121 : decode cX12_rules 121 = .ok (.isub, 1) := by decide +kernel
theorem dX12_rules_122 : decode cX12_rules 122 = .ok (.invokevirtual 354, 3) := by decide +kernel
theorem kw_1883 : Cond.code yX12_keeps prog_14_method_20_code 3 none ∈ uu := uu_in (i := 1883) (by decide +kernel) (by decide +kernel)
theorem kw_1880 : Cond.methodLink "LandSurveyModel" 354 yX12_keeps ∈ uu := uu_in (i := 1880) (by decide +kernel) (by decide +kernel)
theorem kw_1882 : Cond.instanceMethod yX12_keeps ∈ uu := uu_in (i := 1882) (by decide +kernel) (by decide +kernel)
theorem kw_87 : Cond.selects "LandSurveyModel" yX12_keeps yX12_keeps ∈ uu := uu_in (i := 87) (by decide +kernel) (by decide +kernel)
theorem lk_LandSurveyModel_354 : lkV "LandSurveyModel" 354 yX12_keeps cX12_keeps 3 none 1 := ⟨kw_1880, kw_1882, kw_87, kw_152, kw_1883, okX12_keeps⟩
theorem dX12_rules_125 : decode cX12_rules 125 = .ok (.aload_n 0, 1) := by decide +kernel
theorem dX12_rules_126 : decode cX12_rules 126 = .ok (.iconst 1, 1) := by decide +kernel
theorem dX12_rules_127 : decode cX12_rules 127 = .ok (.putfield 290, 3) := by decide +kernel
theorem dX12_rules_83 : decode cX12_rules 83 = .ok (.aload_n 0, 1) := by decide +kernel
theorem dX12_rules_84 : decode cX12_rules 84 = .ok (.invokevirtual 351, 3) := by decide +kernel
theorem kw_1798 : Cond.code yX12_readNext prog_14_method_25_code 3 none ∈ uu := uu_in (i := 1798) (by decide +kernel) (by decide +kernel)
theorem kw_1795 : Cond.methodLink "LandSurveyModel" 351 yX12_readNext ∈ uu := uu_in (i := 1795) (by decide +kernel) (by decide +kernel)
theorem kw_1797 : Cond.instanceMethod yX12_readNext ∈ uu := uu_in (i := 1797) (by decide +kernel) (by decide +kernel)
theorem kw_66 : Cond.selects "LandSurveyModel" yX12_readNext yX12_readNext ∈ uu := uu_in (i := 66) (by decide +kernel) (by decide +kernel)
theorem lk_LandSurveyModel_351 : lkV "LandSurveyModel" 351 yX12_readNext cX12_readNext 3 none 0 := ⟨kw_1795, kw_1797, kw_66, kw_152, kw_1798, okX12_readNext⟩
theorem dX12_rules_87 : decode cX12_rules 87 = .ok (.goto (-23), 3) := by decide +kernel
theorem dX12_rules_12 : decode cX12_rules 12 = .ok (.aload_n 0, 1) := by decide +kernel
theorem dX12_rules_13 : decode cX12_rules 13 = .ok (.getfield 97, 3) := by decide +kernel
theorem dX12_rules_16 : decode cX12_rules 16 = .ok (.aload_n 0, 1) := by decide +kernel
theorem dX12_rules_17 : decode cX12_rules 17 = .ok (.getfield 339, 3) := by decide +kernel
theorem dX12_rules_20 : decode cX12_rules 20 = .ok (.iconst 1, 1) := by decide +kernel
theorem dX12_rules_21 : decode cX12_rules 21 = .ok (.isub, 1) := by decide +kernel
theorem dX12_rules_22 : decode cX12_rules 22 = .ok (.iaload, 1) := by decide +kernel
theorem dX12_rules_23 : decode cX12_rules 23 = .ok (.aload_n 0, 1) := by decide +kernel
theorem dX12_rules_24 : decode cX12_rules 24 = .ok (.getfield 342, 3) := by decide +kernel
theorem dX12_rules_27 : decode cX12_rules 27 = .ok (.if_icmp .ne 7, 3) := by decide +kernel
theorem dX12_rules_45 : decode cX12_rules 45 = .ok (.iload_n 1, 1) := by decide +kernel
theorem dX12_rules_46 : decode cX12_rules 46 = .ok (.ifCond .ne 10, 3) := by decide +kernel
theorem dX12_rules_49 : decode cX12_rules 49 = .ok (.aload_n 0, 1) := by decide +kernel
theorem dX12_rules_50 : decode cX12_rules 50 = .ok (.iconst 0, 1) := by decide +kernel
theorem dX12_rules_51 : decode cX12_rules 51 = .ok (.putfield 11, 3) := by decide +kernel
theorem dX12_rules_54 : decode cX12_rules 54 = .ok (.iconst (-1), 1) := by decide +kernel
theorem dX12_rules_55 : decode cX12_rules 55 = .ok (.ireturn, 1) := by decide +kernel
theorem dX12_rules_30 : decode cX12_rules 30 = .ok (.iconst 1, 1) := by decide +kernel
theorem dX12_rules_31 : decode cX12_rules 31 = .ok (.goto 4, 3) := by decide +kernel
theorem dX12_rules_106 : decode cX12_rules 106 = .ok (.iconst 0, 1) := by decide +kernel
theorem dX12_rules_107 : decode cX12_rules 107 = .ok (.goto 4, 3) := by decide +kernel
def wr_k_X12_begins : List Nat := [2428, 22420000, 23220200, 23420200, 23620200, 23820000, 24020200, 24220000, 24420000, 24820000]
set_option maxRecDepth 100000 in
set_option maxHeartbeats 4000000 in
theorem k_X12_begins (l : Launch) (D : va_G) (cy : Nat → ClassId) (w : Nat → Nat) (z0 : Nat)  {h : Hp} {a0 : Nat}  (O : Okh h) (ta0 : Tg h a0 = 12) (P_MInv : MInv h a0) : MV l D cy w z0 yX12_begins cX12_begins 2 none 0 0 0 0 [.inr (.inr a0)] h (fun h1 => Okh h1 ∧ Fx wr_k_X12_begins h h1 ∧ (MInv h1 a0) ∧ (Iv h1 a0 28 = 0 ∧ Iv h1 (Rv h1 a0 24) 8 = 0)) := by
  refine hm_go (by decide +kernel) (Nat.le_of_ble_eq_true rfl) (fun p e s m below meth c C hr hn => ?_)
  refine g_aload_n C rfl 0 rfl dX12_begins_0 ?_
  obtain ⟨v1, e2⟩ : ∃ z, Rv h a0 12 = z := ⟨_, rfl⟩
  have t3 := ok_R O ta0 rE_12_12 e2
  have l4 := ok_L O ta0 rE_12_12 e2
  refine gf_R C fk_LandSurveyModel_100 rfl ta0 e2 dX12_begins_1 ?_
  refine g_bipush C (by decide) dX12_begins_4 ?_
  refine g_iconst C dX12_begins_6 ?_
  refine g_iast C t3 rfl l4 (ix (il 8) (by decide) (by decide)) (iw (il 0) (by decide) (by decide)) dX12_begins_7 (fun h6 hh5 => ?_)
  have O7 := O.pIa t3 ar_112100 hh5 rI_112100_0 (iw (il 0) (by decide) (by decide)) nofun
  refine g_aload_n C rfl 0 rfl dX12_begins_8 ?_
  have e8 : Tg h6 a0 = 12 := ((pIT hh5).trans ta0)
  obtain ⟨v9, e10⟩ : ∃ z, Rv h6 a0 18 = z := ⟨_, rfl⟩
  have t11 := ok_R O7 e8 rE_12_18 e10
  have l12 := ok_L O7 e8 rE_12_18 e10
  refine gf_R C fk_LandSurveyModel_119 rfl e8 e10 dX12_begins_9 ?_
  refine g_bipush C (by decide) dX12_begins_12 ?_
  refine g_iconst C dX12_begins_14 ?_
  refine g_zast C t11 rfl l12 (ix (il 8) (by decide) (by decide)) (iw (il 0) (by decide) (by decide)) dX12_begins_15 (fun h14 hh13 => ?_)
  have O15 := O7.pIa t11 ar_118101 hh13 rI_118101_0 (iw (il 0) (by decide) (by decide)) nofun
  refine g_aload_n C rfl 0 rfl dX12_begins_16 ?_
  have e16 : Tg h14 a0 = 12 := ((pIT hh13).trans e8)
  obtain ⟨v17, e18⟩ : ∃ z, Rv h14 a0 19 = z := ⟨_, rfl⟩
  have t19 := ok_R O15 e16 rE_12_19 e18
  have l20 := ok_L O15 e16 rE_12_19 e18
  refine gf_R C fk_LandSurveyModel_122 rfl e16 e18 dX12_begins_17 ?_
  refine g_bipush C (by decide) dX12_begins_20 ?_
  refine g_bipush C (by decide) dX12_begins_22 ?_
  refine g_iast C t19 rfl l20 (ix (il 8) (by decide) (by decide)) (iw (il 10) (by decide) (by decide)) dX12_begins_24 (fun h22 hh21 => ?_)
  have O23 := O15.pIa t19 ar_119100 hh21 rI_119100_0 (iw (il 10) (by decide) (by decide)) nofun
  refine g_aload_n C rfl 0 rfl dX12_begins_25 ?_
  have e24 : Tg h22 a0 = 12 := ((pIT hh21).trans e16)
  obtain ⟨v25, e26⟩ : ∃ z, Rv h22 a0 20 = z := ⟨_, rfl⟩
  have t27 := ok_R O23 e24 rE_12_20 e26
  have l28 := ok_L O23 e24 rE_12_20 e26
  refine gf_R C fk_LandSurveyModel_125 rfl e24 e26 dX12_begins_26 ?_
  refine g_bipush C (by decide) dX12_begins_29 ?_
  refine g_iconst C dX12_begins_31 ?_
  refine g_zast C t27 rfl l28 (ix (il 8) (by decide) (by decide)) (iw (il 0) (by decide) (by decide)) dX12_begins_32 (fun h30 hh29 => ?_)
  have O31 := O23.pIa t27 ar_120101 hh29 rI_120101_0 (iw (il 0) (by decide) (by decide)) nofun
  refine g_aload_n C rfl 0 rfl dX12_begins_33 ?_
  have e32 : Tg h30 a0 = 12 := ((pIT hh29).trans e24)
  obtain ⟨v33, e34⟩ : ∃ z, Rv h30 a0 21 = z := ⟨_, rfl⟩
  have t35 := ok_R O31 e32 rE_12_21 e34
  have l36 := ok_L O31 e32 rE_12_21 e34
  refine gf_R C fk_LandSurveyModel_128 rfl e32 e34 dX12_begins_34 ?_
  refine g_bipush C (by decide) dX12_begins_37 ?_
  refine g_bipush C (by decide) dX12_begins_39 ?_
  refine g_iast C t35 rfl l36 (ix (il 8) (by decide) (by decide)) (iw (il 20) (by decide) (by decide)) dX12_begins_41 (fun h38 hh37 => ?_)
  have O39 := O31.pIa t35 ar_121100 hh37 rI_121100_0 (iw (il 20) (by decide) (by decide)) nofun
  refine g_aload_n C rfl 0 rfl dX12_begins_42 ?_
  have e40 : Tg h38 a0 = 12 := ((pIT hh37).trans e32)
  obtain ⟨v41, e42⟩ : ∃ z, Rv h38 a0 24 = z := ⟨_, rfl⟩
  have t43 := ok_R O39 e40 rE_12_24 e42
  have l44 := ok_L O39 e40 rE_12_24 e42
  refine gf_R C fk_LandSurveyModel_137 rfl e40 e42 dX12_begins_43 ?_
  refine g_bipush C (by decide) dX12_begins_46 ?_
  refine g_iconst C dX12_begins_48 ?_
  refine g_iast C t43 rfl l44 (ix (il 8) (by decide) (by decide)) (iw (il 0) (by decide) (by decide)) dX12_begins_49 (fun h46 hh45 => ?_)
  have O47 := O39.pIa t43 ar_124100 hh45 rI_124100_0 (iw (il 0) (by decide) (by decide)) nofun
  refine g_aload_n C rfl 0 rfl dX12_begins_50 ?_
  refine g_iconst C dX12_begins_51 ?_
  have e48 : Tg h46 a0 = 12 := ((pIT hh45).trans e40)
  refine gp_I C fk_LandSurveyModel_336 pk_LandSurveyModel_28 rfl e48 (iw (il 0) (by decide) (by decide)) (nf_i _) dX12_begins_52 (fun h50 hh49 => ?_)
  have O51 := O47.pI e48 hh49 rI_12_28 (iw (il 0) (by decide) (by decide)) nofun
  refine g_bipush C (by decide) dX12_begins_55 ?_
  refine g_istore_n C [(1, .inl 80), (0, .inr (.inr a0))] rfl (by decide) rfl dX12_begins_57 ?_
  refine GW.sub [1, 0] rfl ?_
  -- loop at 58
  have L54 : ∀ (μ : Nat) (x52 : Int) (h53 : Hp), (90 - x52).toNat = μ → Okh h53 → Fx [23220200, 23420200, 24420000] h50 h53 → ((80 : Int) ≤ x52 ∧ x52 ≤ (90 : Int)) → GW p l e (rmm 0 0 0 0) s m (List.map toV [.inr (.inr a0)]).toArray below meth c D cy z0 2 (MQ below (QV D cy z0 (fun h1 => Okh h1 ∧ Fx wr_k_X12_begins h h1 ∧ (MInv h1 a0) ∧ (Iv h1 a0 28 = 0 ∧ Iv h1 (Rv h1 a0 24) 8 = 0))) (List.map toV [.inr (.inr a0)]).toArray s 0 0 (Aof z0)) 58 [(0, .inr (.inr a0)), (1, .inl x52)] [] h53 0 0 := by
    intro μ
    induction μ using Nat.strongRecOn with
    | ind μ ih55 =>
      intro x52 h53 hm56 O57 F58 f59
      refine g_iload_n C rfl 1 rfl dX12_begins_58 ?_
      refine g_bipush C (by decide) dX12_begins_59 ?_
      refine g_icmp_ge C (iw f59 (by decide) (by decide)) (iw (il 90) (by decide) (by decide)) 91 (by decide) dX12_begins_61 (fun q60 => ?_) (fun q61 => ?_)
      · have f62 : (90 : Int) ≤ x52 ∧ x52 ≤ (90 : Int) := r_ge f59 (il 90) q60 (by decide) (by decide)
        have e63 : Tg h50 a0 = 12 := ((pIT hh49).trans e48)
        have p64 := (MInv_fx O51 F58 e63 rfl (MInv_fx O47 ((Fx.rf (wr := [2428]) (h := h46)).pI e48 hh49 rfl) e48 rfl (MInv_w O39 e40 t43 (by decide) hh45 ⟨fun e => by omega, fun e => by omega, fun e => by omega⟩ (MInv_fx O31 ((Fx.rf (wr := [24220000]) (h := h30)).pIa t35 ar_121100 hh37 rfl) e32 rfl (MInv_fx O23 ((Fx.rf (wr := [24020200]) (h := h22)).pIa t27 ar_120101 hh29 rfl) e24 rfl (MInv_fx O15 ((Fx.rf (wr := [23820000]) (h := h14)).pIa t19 ar_119100 hh21 rfl) e16 rfl (MInv_fx O7 ((Fx.rf (wr := [23620200]) (h := h6)).pIa t11 ar_118101 hh13 rfl) e8 rfl (MInv_fx O ((Fx.rf (wr := [22420000]) (h := h)).pIa t3 ar_112100 hh5 rfl) ta0 rfl P_MInv))))))))
        have e65 : Iv h53 a0 28 = 0 := ((fxI F58 e63 rfl).trans (pI_e hh49))
        have e66 : Rv h53 a0 24 = v41 := ((fxR F58 e63 rfl).trans ((pIR hh49).trans ((pIR hh45).trans e42)))
        have e67 : Tg h46 v41 = 124100 := ((pIT hh45).trans t43)
        have e68 : Tg h50 v41 = 124100 := ((pIT hh49).trans e67)
        have e69 : Iv h53 v41 ((8 : Int).toNat) = 0 := ((fxIa F58 e68 ar_124100 rfl).trans ((pI_n hh49 (ne_tag e67 e48 (by decide))).trans (pI_e hh45)))
        exact g_vret C hr ⟨O57, (((((((((Fx.rf (wr := wr_k_X12_begins)).pIa t3 ar_112100 hh5 rfl).pIa t11 ar_118101 hh13 rfl).pIa t19 ar_119100 hh21 rfl).pIa t27 ar_120101 hh29 rfl).pIa t35 ar_121100 hh37 rfl).pIa t43 ar_124100 hh45 rfl).pI e48 hh49 rfl).call F58 rfl), p64, ⟨e65, by rw [e66]; exact e69⟩⟩ (by decide) (by decide) dX12_begins_91
      · have f70 : (80 : Int) ≤ x52 ∧ x52 ≤ (89 : Int) := r_lt f59 (il 90) q61 (by decide) (by decide)
        refine g_aload_n C rfl 0 rfl dX12_begins_64 ?_
        have e71 : Tg h53 a0 = 12 := (fxT F58 ((pIT hh49).trans e48))
        obtain ⟨v72, e73⟩ : ∃ z, Rv h53 a0 22 = z := ⟨_, rfl⟩
        have t74 := ok_R O57 e71 rE_12_22 e73
        have l75 := ok_L O57 e71 rE_12_22 e73
        refine gf_R C fk_LandSurveyModel_131 rfl e71 e73 dX12_begins_65 ?_
        refine g_iload_n C rfl 1 rfl dX12_begins_68 ?_
        refine g_iconst C dX12_begins_69 ?_
        refine g_iast C t74 rfl l75 (ix f70 (by decide) (by decide)) (iw (il (-1)) (by decide) (by decide)) dX12_begins_70 (fun h77 hh76 => ?_)
        have O78 := O57.pIa t74 ar_122100 hh76 rI_122100_0 (iw (il (-1)) (by decide) (by decide)) nofun
        refine g_aload_n C rfl 0 rfl dX12_begins_71 ?_
        have e79 : Tg h77 a0 = 12 := ((pIT hh76).trans e71)
        obtain ⟨v80, e81⟩ : ∃ z, Rv h77 a0 16 = z := ⟨_, rfl⟩
        have t82 := ok_R O78 e79 rE_12_16 e81
        have l83 := ok_L O78 e79 rE_12_16 e81
        refine gf_R C fk_LandSurveyModel_112 rfl e79 e81 dX12_begins_72 ?_
        refine g_iload_n C rfl 1 rfl dX12_begins_75 ?_
        refine g_iconst C dX12_begins_76 ?_
        refine g_zast C t82 rfl l83 (ix f70 (by decide) (by decide)) (iw (il 0) (by decide) (by decide)) dX12_begins_77 (fun h85 hh84 => ?_)
        have O86 := O78.pIa t82 ar_116101 hh84 rI_116101_0 (iw (il 0) (by decide) (by decide)) nofun
        refine g_aload_n C rfl 0 rfl dX12_begins_78 ?_
        have e87 : Tg h85 a0 = 12 := ((pIT hh84).trans e79)
        obtain ⟨v88, e89⟩ : ∃ z, Rv h85 a0 17 = z := ⟨_, rfl⟩
        have t90 := ok_R O86 e87 rE_12_17 e89
        have l91 := ok_L O86 e87 rE_12_17 e89
        refine gf_R C fk_LandSurveyModel_116 rfl e87 e89 dX12_begins_79 ?_
        refine g_iload_n C rfl 1 rfl dX12_begins_82 ?_
        refine g_iconst C dX12_begins_83 ?_
        refine g_zast C t90 rfl l91 (ix f70 (by decide) (by decide)) (iw (il 0) (by decide) (by decide)) dX12_begins_84 (fun h93 hh92 => ?_)
        have O94 := O86.pIa t90 ar_117101 hh92 rI_117101_0 (iw (il 0) (by decide) (by decide)) nofun
        have f95 : (81 : Int) ≤ (x52 + 1) ∧ (x52 + 1) ≤ (90 : Int) := ia_add f70 (il 1) (by decide) (by decide)
        refine g_iinc C [(1, .inl (x52 + 1)), (0, .inr (.inr a0))] 1 rfl (by decide) rfl dX12_begins_85 ?_
        refine g_goto C 58 (by decide) dX12_begins_88 ?_
        refine GW.sub [1, 0] rfl ?_
        exact ih55 _ (by omega) (x52 + 1) h93 rfl O94 (((F58.pIa t74 ar_122100 hh76 rfl).pIa t82 ar_116101 hh84 rfl).pIa t90 ar_117101 hh92 rfl) (iw f95 (by decide) (by decide))
  exact L54 _ 80 h50 rfl O51 Fx.rf (iw (il 80) (by decide) (by decide))
def wr_k_X12_cutAll : List Nat := [2402, 2403, 2407, 2408, 20820000, 21020000, 21220400]
set_option maxRecDepth 100000 in
set_option maxHeartbeats 4000000 in
theorem k_X12_cutAll (l : Launch) (D : va_G) (cy : Nat → ClassId) (w : Nat → Nat) (z0 : Nat)  {h : Hp} {a0 : Nat}  (O : Okh h) (ta0 : Tg h a0 = 12) : MV l D cy w z0 yX12_cutAll cX12_cutAll 7 none 2 40 0 0 [.inr (.inr a0)] h (fun h1 => Okh h1 ∧ Fx wr_k_X12_cutAll h h1 ∧ (TK h1 a0 ∧ Iv h1 a0 7 = 0 ∧ Iv h1 a0 8 = 0)) := by
  refine hm_go (by decide +kernel) (Nat.le_of_ble_eq_true rfl) (fun p e s m below meth c C hr hn => ?_)
  refine g_aload_n C rfl 0 rfl dX12_cutAll_0 ?_
  refine g_aload_n C rfl 0 rfl dX12_cutAll_1 ?_
  obtain ⟨v1, e2⟩ : ∃ z, Iv h a0 2 = z := ⟨_, rfl⟩
  have f3 := ok_I O ta0 rI_12_2 e2
  refine gf_I C fk_LandSurveyModel_11 rfl ta0 e2 dX12_cutAll_2 ?_
  refine gp_I C fk_LandSurveyModel_298 pk_LandSurveyModel_3 rfl ta0 (iw f3 (by decide) (by decide)) (nf_i _) dX12_cutAll_5 (fun h5 hh4 => ?_)
  have O6 := O.pI ta0 hh4 rI_12_3 f3 nofun
  refine g_aload_n C rfl 0 rfl dX12_cutAll_8 ?_
  refine g_iconst C dX12_cutAll_9 ?_
  have e7 : Tg h5 a0 = 12 := ((pIT hh4).trans ta0)
  refine gp_I C fk_LandSurveyModel_11 pk_LandSurveyModel_2 rfl e7 (iw (il 0) (by decide) (by decide)) (nf_i _) dX12_cutAll_10 (fun h9 hh8 => ?_)
  have O10 := O6.pI e7 hh8 rI_12_2 (iw (il 0) (by decide) (by decide)) nofun
  refine g_iconst C dX12_cutAll_13 ?_
  refine g_istore_n C [(1, .inl 0), (0, .inr (.inr a0))] rfl (by decide) rfl dX12_cutAll_14 ?_
  refine g_iconst C dX12_cutAll_15 ?_
  refine g_istore_n C [(2, .inl 0), (1, .inl 0), (0, .inr (.inr a0))] rfl (by decide) rfl dX12_cutAll_16 ?_
  refine GW.sub [2, 1, 0] rfl ?_
  -- loop at 17
  have L14 : ∀ (μ : Nat) (x11 : Int) (x12 : Int) (h13 : Hp), (1500 - x12).toNat = μ → Okh h13 → Fx [20820000, 21020000, 21220400] h9 h13 → ((0 : Int) ≤ x11 ∧ x11 ≤ (1500 : Int)) → ((0 : Int) ≤ x12 ∧ x12 ≤ (1500 : Int)) → (CU h13 a0 x11) → (x11 ≤ x12) → (x12 ≤ Iv h13 a0 3) → GW p l e (rmm 2 40 0 0) s m (List.map toV [.inr (.inr a0)]).toArray below meth c D cy z0 7 (MQ below (QV D cy z0 (fun h1 => Okh h1 ∧ Fx wr_k_X12_cutAll h h1 ∧ (TK h1 a0 ∧ Iv h1 a0 7 = 0 ∧ Iv h1 a0 8 = 0))) (List.map toV [.inr (.inr a0)]).toArray s 0 0 (Aof z0)) 17 [(0, .inr (.inr a0)), (1, .inl x11), (2, .inl x12)] [] h13 0 0 := by
    intro μ
    induction μ using Nat.strongRecOn with
    | ind μ ih15 =>
      intro x11 x12 h13 hm16 O17 F18 f19 f20 p21 p22 p23
      have e24 : Tg h9 a0 = 12 := ((pIT hh8).trans e7)
      have e25 : Iv h13 a0 3 = v1 := ((fxI F18 e24 rfl).trans ((pI_j hh8 (by decide)).trans (pI_e hh4)))
      rw [e25] at p23
      refine g_iload_n C rfl 2 rfl dX12_cutAll_17 ?_
      refine g_aload_n C rfl 0 rfl dX12_cutAll_18 ?_
      have e26 : Tg h13 a0 = 12 := (fxT F18 e24)
      refine gf_I C fk_LandSurveyModel_298 rfl e26 e25 dX12_cutAll_19 ?_
      refine g_icmp_ge C (iw f20 (by decide) (by decide)) (iw f3 (by decide) (by decide)) 279 (by decide) dX12_cutAll_22 (fun q27 => ?_) (fun q28 => ?_)
      · refine g_aload_n C rfl 0 rfl dX12_cutAll_279 ?_
        obtain ⟨v29, e30⟩ : ∃ z, Rv h13 a0 4 = z := ⟨_, rfl⟩
        have t31 := ok_R O17 e26 rE_12_4 e30
        have l32 := ok_L O17 e26 rE_12_4 e30
        refine gf_R C fk_LandSurveyModel_24 rfl e26 e30 dX12_cutAll_280 ?_
        refine g_iload_n C rfl 1 rfl dX12_cutAll_283 ?_
        refine g_iconst C dX12_cutAll_284 ?_
        refine g_iast C t31 rfl l32 (ix f19 (by decide) (by decide)) (iw (il 0) (by decide) (by decide)) dX12_cutAll_285 (fun h34 hh33 => ?_)
        have O35 := O17.pIa t31 ar_104100 hh33 rI_104100_0 (iw (il 0) (by decide) (by decide)) nofun
        refine g_aload_n C rfl 0 rfl dX12_cutAll_286 ?_
        have e36 : Tg h34 a0 = 12 := ((pIT hh33).trans e26)
        obtain ⟨v37, e38⟩ : ∃ z, Rv h34 a0 5 = z := ⟨_, rfl⟩
        have t39 := ok_R O35 e36 rE_12_5 e38
        have l40 := ok_L O35 e36 rE_12_5 e38
        refine gf_R C fk_LandSurveyModel_27 rfl e36 e38 dX12_cutAll_287 ?_
        refine g_iload_n C rfl 1 rfl dX12_cutAll_290 ?_
        refine g_aload_n C rfl 0 rfl dX12_cutAll_291 ?_
        have e41 : Iv h34 a0 3 = v1 := ((pI_n hh33 (ne_tag e26 t31 (by decide))).trans e25)
        refine gf_I C fk_LandSurveyModel_298 rfl e36 e41 dX12_cutAll_292 ?_
        refine g_iast C t39 rfl l40 (ix f19 (by decide) (by decide)) (iw f3 (by decide) (by decide)) dX12_cutAll_295 (fun h43 hh42 => ?_)
        have O44 := O35.pIa t39 ar_105100 hh42 rI_105100_0 f3 nofun
        refine g_aload_n C rfl 0 rfl dX12_cutAll_296 ?_
        refine g_iconst C dX12_cutAll_297 ?_
        have e45 : Tg h43 a0 = 12 := ((pIT hh42).trans e36)
        refine gp_I C fk_LandSurveyModel_317 pk_LandSurveyModel_7 rfl e45 (iw (il 0) (by decide) (by decide)) (nf_i _) dX12_cutAll_298 (fun h47 hh46 => ?_)
        have O48 := O44.pI e45 hh46 rI_12_7 (iw (il 0) (by decide) (by decide)) nofun
        refine g_aload_n C rfl 0 rfl dX12_cutAll_301 ?_
        refine g_iconst C dX12_cutAll_302 ?_
        have e49 : Tg h47 a0 = 12 := ((pIT hh46).trans e45)
        refine gp_I C fk_LandSurveyModel_320 pk_LandSurveyModel_8 rfl e49 (iw (il 0) (by decide) (by decide)) (nf_i _) dX12_cutAll_303 (fun h51 hh50 => ?_)
        have O52 := O48.pI e49 hh50 rI_12_8 (iw (il 0) (by decide) (by decide)) nofun
        have e53 : Rv h51 a0 4 = v29 := ((pIR hh50).trans ((pIR hh46).trans ((pIR hh42).trans ((pIR hh33).trans e30))))
        have e54 : Tg h34 v29 = 104100 := ((pIT hh33).trans t31)
        have e55 : Tg h43 v29 = 104100 := ((pIT hh42).trans e54)
        have e56 : Tg h47 v29 = 104100 := ((pIT hh46).trans e55)
        have e57 : Iv h51 v29 x11.toNat = 0 := ((pI_n hh50 (ne_tag e56 e49 (by decide))).trans ((pI_n hh46 (ne_tag e55 e45 (by decide))).trans ((pI_n hh42 (ne_tag e54 t39 (by decide))).trans (pI_e hh33))))
        have p58 := (CU_fx O48 ((Fx.rf (wr := [2408]) (h := h47)).pI e49 hh50 rfl) e49 rfl (CU_fx O44 ((Fx.rf (wr := [2407]) (h := h43)).pI e45 hh46 rfl) e45 rfl (CU_fx O35 ((Fx.rf (wr := [21020000]) (h := h34)).pIa t39 ar_105100 hh42 rfl) e36 rfl (CU_wI hh33 (by omega) p21))))
        have e59 : Iv h51 a0 7 = 0 := ((pI_j hh50 (by decide)).trans (pI_e hh46))
        exact g_vret C hr ⟨O52, ((((((((Fx.rf (wr := wr_k_X12_cutAll)).pI ta0 hh4 rfl).pI e7 hh8 rfl).call F18 rfl).pIa t31 ar_104100 hh33 rfl).pIa t39 ar_105100 hh42 rfl).pI e45 hh46 rfl).pI e49 hh50 rfl), ⟨TK_made (n := x11) (by omega) (by rw [e53]; exact e57) p58, e59, (pI_e hh50)⟩⟩ (by decide) (by decide) dX12_cutAll_306
      · have f60 : (0 : Int) ≤ x12 ∧ x12 ≤ (1499 : Int) := r_lt f20 f3 q28 (by decide) (by decide)
        have f61 : (1 : Int) ≤ v1 ∧ v1 ≤ (1500 : Int) := r_gt f3 f20 q28 (by decide) (by decide)
        refine g_aload_n C rfl 0 rfl dX12_cutAll_25 ?_
        obtain ⟨v62, e63⟩ : ∃ z, Rv h13 a0 1 = z := ⟨_, rfl⟩
        have t64 := ok_R O17 e26 rE_12_1 e63
        have l65 := ok_L O17 e26 rE_12_1 e63
        refine gf_R C fk_LandSurveyModel_14 rfl e26 e63 dX12_cutAll_26 ?_
        refine g_iload_n C rfl 2 rfl dX12_cutAll_29 ?_
        obtain ⟨v66, e67⟩ : ∃ z, Iv h13 v62 x12.toNat = z := ⟨_, rfl⟩
        have f68 := ok_Ia O17 t64 ar_101100 rI_101100_0 e67
        refine g_iald C t64 rfl l65 (ix f60 (by decide) (by decide)) e67 dX12_cutAll_30 ?_
        refine g_istore_n C [(3, .inl v66), (0, .inr (.inr a0)), (1, .inl x11), (2, .inl x12)] rfl (by decide) rfl dX12_cutAll_31 ?_
        refine g_iload_n C rfl 0 rfl dX12_cutAll_32 ?_
        refine g_bipush C (by decide) dX12_cutAll_33 ?_
        refine g_icmp_eq C (iw f68 (by decide) (by decide)) (iw (il 10) (by decide) (by decide)) 44 (by decide) dX12_cutAll_35 (fun q69 => ?_) (fun q70 => ?_)
        · have f71 : (10 : Int) ≤ v66 ∧ v66 ≤ (10 : Int) := ii f68 (r_eq (il 10) q69) (by decide) (by decide)
          have f72 : (1 : Int) ≤ (x12 + 1) ∧ (x12 + 1) ≤ (1500 : Int) := ia_add f60 (il 1) (by decide) (by decide)
          refine g_iinc C [(2, .inl (x12 + 1)), (3, .inl v66), (0, .inr (.inr a0)), (1, .inl x11)] 3 rfl (by decide) rfl dX12_cutAll_44 ?_
          refine g_goto C 17 (by decide) dX12_cutAll_47 ?_
          refine GW.sub [2, 3, 0] rfl ?_
          exact ih15 _ (by omega) x11 (x12 + 1) h13 rfl O17 F18 f19 (iw f72 (by decide) (by decide)) p21 (by omega) (by rw [e25]; omega)
        · refine g_iload_n C rfl 0 rfl dX12_cutAll_38 ?_
          refine g_bipush C (by decide) dX12_cutAll_39 ?_
          refine g_icmp_ne C (iw f68 (by decide) (by decide)) (iw (il 32) (by decide) (by decide)) 50 (by decide) dX12_cutAll_41 (fun q73 => ?_) (fun q74 => ?_)
          · refine g_iload_n C rfl 3 rfl dX12_cutAll_50 ?_
            refine g_istore C [(4, .inl x12), (3, .inl v66), (0, .inr (.inr a0)), (1, .inl x11), (2, .inl x12)] (by decide) rfl dX12_cutAll_51 ?_
            refine g_lconst (z := 0) C (by decide) dX12_cutAll_53 ?_
            refine g_lstore C [(5, .inr (.inl 0)), (4, .inl x12), (3, .inl v66), (0, .inr (.inr a0)), (1, .inl x11), (2, .inl x12)] (by decide) rfl dX12_cutAll_54 ?_
            refine g_aload_n C rfl 3 rfl dX12_cutAll_56 ?_
            obtain ⟨v75, e76⟩ : ∃ z, Rv h13 a0 5 = z := ⟨_, rfl⟩
            have t77 := ok_R O17 e26 rE_12_5 e76
            have l78 := ok_L O17 e26 rE_12_5 e76
            refine gf_R C fk_LandSurveyModel_27 rfl e26 e76 dX12_cutAll_57 ?_
            refine g_iload_n C rfl 4 rfl dX12_cutAll_60 ?_
            refine g_iload_n C rfl 5 rfl dX12_cutAll_61 ?_
            refine g_iast C t77 rfl l78 (ix f19 (by decide) (by decide)) (iw f60 (by decide) (by decide)) dX12_cutAll_62 (fun h80 hh79 => ?_)
            have O81 := O17.pIa t77 ar_105100 hh79 rI_105100_0 (iw f60 (by decide) (by decide)) nofun
            refine g_iload_n C rfl 2 rfl dX12_cutAll_63 ?_
            refine g_callI (st := []) (gc_S C lk_LandSurveyModel_294 (k_X12_isLetter l D cy w z0 O81 (iw f68 (by decide) (by decide))) rfl ⟨by decide, by decide⟩ (Nat.le_of_ble_eq_true rfl) dX12_cutAll_64 ⟨(by decide), (by decide)⟩) (fun r82 h83 f85 K84 => ?_)
            obtain ⟨O86, F87, f88, p89⟩ := K84
            refine g_if_eq C (iw f88 (by decide) (by decide)) 152 (by decide) dX12_cutAll_67 (fun q90 => ?_) (fun q91 => ?_)
            · have f92 : (0 : Int) ≤ r82 ∧ r82 ≤ (0 : Int) := ii f88 (r_eq (il 0) q90) (by decide) (by decide)
              refine g_iload_n C rfl 2 rfl dX12_cutAll_152 ?_
              refine g_callI (st := []) (gc_S C lk_LandSurveyModel_307 (k_X12_isDigit l D cy w z0 O86 (iw f68 (by decide) (by decide))) rfl ⟨by decide, by decide⟩ (Nat.le_of_ble_eq_true rfl) dX12_cutAll_153 ⟨(by decide), (by decide)⟩) (fun r93 h94 f96 K95 => ?_)
              obtain ⟨O97, F98, f99, p100⟩ := K95
              refine g_if_eq C (iw f99 (by decide) (by decide)) 240 (by decide) dX12_cutAll_156 (fun q101 => ?_) (fun q102 => ?_)
              · have f103 : (0 : Int) ≤ r93 ∧ r93 ≤ (0 : Int) := ii f99 (r_eq (il 0) q101) (by decide) (by decide)
                refine g_iload_n C rfl 2 rfl dX12_cutAll_240 ?_
                refine g_i2l C (iw f68 (by decide) (by decide)) dX12_cutAll_241 ?_
                refine g_lstore C [(5, .inr (.inl v66)), (4, .inl x12), (3, .inl v66), (0, .inr (.inr a0)), (1, .inl x11), (2, .inl x12)] (by decide) rfl dX12_cutAll_242 ?_
                refine g_aload_n C rfl 3 rfl dX12_cutAll_244 ?_
                have e104 : Tg h94 a0 = 12 := (fxT F98 (fxT F87 ((pIT hh79).trans e26)))
                obtain ⟨v105, e106⟩ : ∃ z, Rv h94 a0 4 = z := ⟨_, rfl⟩
                have t107 := ok_R O97 e104 rE_12_4 e106
                have l108 := ok_L O97 e104 rE_12_4 e106
                refine gf_R C fk_LandSurveyModel_24 rfl e104 e106 dX12_cutAll_245 ?_
                refine g_iload_n C rfl 4 rfl dX12_cutAll_248 ?_
                refine g_iload_n C rfl 2 rfl dX12_cutAll_249 ?_
                refine g_callI (st := [.inl x11, .inr (.inr v105)]) (gc_S C lk_LandSurveyModel_314 (k_X12_isSignOf l D cy w z0 O97 (iw f68 (by decide) (by decide))) rfl ⟨by decide, by decide⟩ (Nat.le_of_ble_eq_true rfl) dX12_cutAll_250 ⟨(by decide), (by decide)⟩) (fun r109 h110 f112 K111 => ?_)
                obtain ⟨O113, F114, f115⟩ := K111
                refine g_if_eq C (iw f115 (by decide) (by decide)) 260 (by decide) dX12_cutAll_253 (fun q116 => ?_) (fun q117 => ?_)
                · have f118 : (0 : Int) ≤ r109 ∧ r109 ≤ (0 : Int) := ii f115 (r_eq (il 0) q116) (by decide) (by decide)
                  refine g_iconst C dX12_cutAll_260 ?_
                  have e119 : Tg h110 v105 = 104100 := (fxT F114 t107)
                  have e120 : Ln h110 v105 = 1502 := ((fxL F114 t107).trans l108)
                  refine g_iast C e119 rfl e120 (ix f19 (by decide) (by decide)) (iw (il 4) (by decide) (by decide)) dX12_cutAll_261 (fun h122 hh121 => ?_)
                  have O123 := O113.pIa e119 ar_104100 hh121 rI_104100_0 (iw (il 4) (by decide) (by decide)) nofun
                  have f124 : (1 : Int) ≤ (x12 + 1) ∧ (x12 + 1) ≤ (1500 : Int) := ia_add f60 (il 1) (by decide) (by decide)
                  refine g_iinc C [(2, .inl (x12 + 1)), (5, .inr (.inl v66)), (4, .inl x12), (3, .inl v66), (0, .inr (.inr a0)), (1, .inl x11)] 5 rfl (by decide) rfl dX12_cutAll_262 ?_
                  refine g_aload_n C rfl 4 rfl dX12_cutAll_265 ?_
                  have e125 : Tg h122 a0 = 12 := ((pIT hh121).trans (fxT F114 e104))
                  obtain ⟨v126, e127⟩ : ∃ z, Rv h122 a0 6 = z := ⟨_, rfl⟩
                  have t128 := ok_R O123 e125 rE_12_6 e127
                  have l129 := ok_L O123 e125 rE_12_6 e127
                  refine gf_R C fk_LandSurveyModel_30 rfl e125 e127 dX12_cutAll_266 ?_
                  refine g_iload_n C rfl 5 rfl dX12_cutAll_269 ?_
                  refine g_lload C 1 rfl dX12_cutAll_270 ?_
                  refine g_last C t128 rfl l129 (ix f19 (by decide) (by decide)) (iw f68 (by decide) (by decide)) dX12_cutAll_272 (fun h131 hh130 => ?_)
                  have O132 := O123.pJ hh130 (iw f68 (by decide) (by decide))
                  have f133 : (1 : Int) ≤ (x11 + 1) ∧ (x11 + 1) ≤ (1501 : Int) := ia_add f19 (il 1) (by decide) (by decide)
                  refine g_iinc C [(1, .inl (x11 + 1)), (2, .inl (x12 + 1)), (5, .inr (.inl v66)), (4, .inl x12), (3, .inl v66), (0, .inr (.inr a0))] 5 rfl (by decide) rfl dX12_cutAll_273 ?_
                  refine g_goto C 17 (by decide) dX12_cutAll_276 ?_
                  refine GW.sub [5, 0, 1] rfl ?_
                  have e134 : Rv h131 a0 4 = v105 := ((pJR hh130).trans ((pIR hh121).trans ((fxR F114 e104 rfl).trans e106)))
                  have e135 : Rv h131 a0 6 = v126 := ((pJR hh130).trans e127)
                  have e136 : Iv h131 v105 x11.toNat = 4 := ((pJI hh130).trans (pI_e hh121))
                  have e137 : Tg h80 a0 = 12 := ((pIT hh79).trans e26)
                  have e138 : Tg h83 a0 = 12 := (fxT F87 e137)
                  have e139 : Tg h110 a0 = 12 := (fxT F114 e104)
                  have p140 := (CU_wJ hh130 (by omega) (CU_wI hh121 (by omega) (CU_fx O97 F114 e104 rfl (CU_fx O86 F98 e138 rfl (CU_fx O81 F87 e137 rfl (CU_fx O17 ((Fx.rf (wr := [21020000]) (h := h13)).pIa t77 ar_105100 hh79 rfl) e26 rfl p21))))))
                  have e141 : Iv h131 a0 3 = v1 := ((pJI hh130).trans ((pI_n hh121 (ne_tag e139 e119 (by decide))).trans ((fxI F114 e104 rfl).trans ((fxI F98 e138 rfl).trans ((fxI F87 e137 rfl).trans ((pI_n hh79 (ne_tag e26 t77 (by decide))).trans e25))))))
                  exact ih15 _ (by omega) (x11 + 1) (x12 + 1) h131 rfl O132 ((((((F18.pIa t77 ar_105100 hh79 rfl).call F87 rfl).call F98 rfl).call F114 rfl).pIa e119 ar_104100 hh121 rfl).pJa t128 ar_106102 hh130 rfl) (by omega) (iw f124 (by decide) (by decide)) (CU_new (s := 4) (v := v66) (by omega) (by rw [e134]; exact e136) (by rw [e135]; exact (pJ_e hh130)) (by omega) p140) (by omega) (by rw [e141]; omega)
                · have f142 : (1 : Int) ≤ r109 ∧ r109 ≤ (1 : Int) := r_nl f115 q117
                  refine g_iconst C dX12_cutAll_256 ?_
                  refine g_goto C 261 (by decide) dX12_cutAll_257 ?_
                  have e143 : Tg h110 v105 = 104100 := (fxT F114 t107)
                  have e144 : Ln h110 v105 = 1502 := ((fxL F114 t107).trans l108)
                  refine g_iast C e143 rfl e144 (ix f19 (by decide) (by decide)) (iw (il 3) (by decide) (by decide)) dX12_cutAll_261 (fun h146 hh145 => ?_)
                  have O147 := O113.pIa e143 ar_104100 hh145 rI_104100_0 (iw (il 3) (by decide) (by decide)) nofun
                  have f148 : (1 : Int) ≤ (x12 + 1) ∧ (x12 + 1) ≤ (1500 : Int) := ia_add f60 (il 1) (by decide) (by decide)
                  refine g_iinc C [(2, .inl (x12 + 1)), (5, .inr (.inl v66)), (4, .inl x12), (3, .inl v66), (0, .inr (.inr a0)), (1, .inl x11)] 5 rfl (by decide) rfl dX12_cutAll_262 ?_
                  refine g_aload_n C rfl 4 rfl dX12_cutAll_265 ?_
                  have e149 : Tg h146 a0 = 12 := ((pIT hh145).trans (fxT F114 e104))
                  obtain ⟨v150, e151⟩ : ∃ z, Rv h146 a0 6 = z := ⟨_, rfl⟩
                  have t152 := ok_R O147 e149 rE_12_6 e151
                  have l153 := ok_L O147 e149 rE_12_6 e151
                  refine gf_R C fk_LandSurveyModel_30 rfl e149 e151 dX12_cutAll_266 ?_
                  refine g_iload_n C rfl 5 rfl dX12_cutAll_269 ?_
                  refine g_lload C 1 rfl dX12_cutAll_270 ?_
                  refine g_last C t152 rfl l153 (ix f19 (by decide) (by decide)) (iw f68 (by decide) (by decide)) dX12_cutAll_272 (fun h155 hh154 => ?_)
                  have O156 := O147.pJ hh154 (iw f68 (by decide) (by decide))
                  have f157 : (1 : Int) ≤ (x11 + 1) ∧ (x11 + 1) ≤ (1501 : Int) := ia_add f19 (il 1) (by decide) (by decide)
                  refine g_iinc C [(1, .inl (x11 + 1)), (2, .inl (x12 + 1)), (5, .inr (.inl v66)), (4, .inl x12), (3, .inl v66), (0, .inr (.inr a0))] 5 rfl (by decide) rfl dX12_cutAll_273 ?_
                  refine g_goto C 17 (by decide) dX12_cutAll_276 ?_
                  refine GW.sub [5, 0, 1] rfl ?_
                  have e158 : Rv h155 a0 4 = v105 := ((pJR hh154).trans ((pIR hh145).trans ((fxR F114 e104 rfl).trans e106)))
                  have e159 : Rv h155 a0 6 = v150 := ((pJR hh154).trans e151)
                  have e160 : Iv h155 v105 x11.toNat = 3 := ((pJI hh154).trans (pI_e hh145))
                  have e161 : Tg h80 a0 = 12 := ((pIT hh79).trans e26)
                  have e162 : Tg h83 a0 = 12 := (fxT F87 e161)
                  have e163 : Tg h110 a0 = 12 := (fxT F114 e104)
                  have p164 := (CU_wJ hh154 (by omega) (CU_wI hh145 (by omega) (CU_fx O97 F114 e104 rfl (CU_fx O86 F98 e162 rfl (CU_fx O81 F87 e161 rfl (CU_fx O17 ((Fx.rf (wr := [21020000]) (h := h13)).pIa t77 ar_105100 hh79 rfl) e26 rfl p21))))))
                  have e165 : Iv h155 a0 3 = v1 := ((pJI hh154).trans ((pI_n hh145 (ne_tag e163 e143 (by decide))).trans ((fxI F114 e104 rfl).trans ((fxI F98 e162 rfl).trans ((fxI F87 e161 rfl).trans ((pI_n hh79 (ne_tag e26 t77 (by decide))).trans e25))))))
                  exact ih15 _ (by omega) (x11 + 1) (x12 + 1) h155 rfl O156 ((((((F18.pIa t77 ar_105100 hh79 rfl).call F87 rfl).call F98 rfl).call F114 rfl).pIa e143 ar_104100 hh145 rfl).pJa t152 ar_106102 hh154 rfl) (by omega) (iw f148 (by decide) (by decide)) (CU_new (s := 3) (v := v66) (by omega) (by rw [e158]; exact e160) (by rw [e159]; exact (pJ_e hh154)) (by omega) p164) (by omega) (by rw [e165]; omega)
              · have f166 : (1 : Int) ≤ r93 ∧ r93 ≤ (1 : Int) := r_nl f99 q102
                refine GW.sub [3, 4, 5, 2, 1, 0] rfl ?_
                -- loop at 159
                have L170 : ∀ (μ : Nat) (x167 : Int) (x168 : Int) (h169 : Hp), (1500 - x167).toNat = μ → Okh h169 → Fx [] h94 h169 → ((0 : Int) ≤ x167 ∧ x167 ≤ (1500 : Int)) → ((-9223372036854775808 : Int) ≤ x168 ∧ x168 ≤ (9223372036854775807 : Int)) → (x12 ≤ x167) → (x167 ≤ Iv h169 a0 3) → (x167 = x12 → Iv h169 (Rv h169 a0 1) x167.toNat = v66) → (0 ≤ x168 ∧ x168 ≤ 9999 ∧ (x167 - x12 ≤ 0 → x168 ≤ 0) ∧ (x167 - x12 ≤ 1 → x168 ≤ 9) ∧ (x167 - x12 ≤ 2 → x168 ≤ 99) ∧ (x167 - x12 ≤ 3 → x168 ≤ 999)) → GW p l e (rmm 2 40 0 0) s m (List.map toV [.inr (.inr a0)]).toArray below meth c D cy z0 7 (MQ below (QV D cy z0 (fun h1 => Okh h1 ∧ Fx wr_k_X12_cutAll h h1 ∧ (TK h1 a0 ∧ Iv h1 a0 7 = 0 ∧ Iv h1 a0 8 = 0))) (List.map toV [.inr (.inr a0)]).toArray s 0 0 (Aof z0)) 159 [(0, .inr (.inr a0)), (1, .inl x11), (2, .inl x167), (3, .inl v66), (4, .inl x12), (5, .inr (.inl x168))] [] h169 0 0 := by
                  intro μ
                  induction μ using Nat.strongRecOn with
                  | ind μ ih171 =>
                    intro x167 x168 h169 hm172 O173 F174 f175 f176 p177 p178 p179 p180
                    have e181 : Tg h80 a0 = 12 := ((pIT hh79).trans e26)
                    have e182 : Tg h83 a0 = 12 := (fxT F87 e181)
                    have e183 : Tg h94 a0 = 12 := (fxT F98 e182)
                    have e184 : Iv h169 a0 3 = v1 := ((fxI F174 e183 rfl).trans ((fxI F98 e182 rfl).trans ((fxI F87 e181 rfl).trans ((pI_n hh79 (ne_tag e26 t77 (by decide))).trans e25))))
                    rw [e184] at p178
                    refine g_iload_n C rfl 2 rfl dX12_cutAll_159 ?_
                    refine g_aload_n C rfl 0 rfl dX12_cutAll_160 ?_
                    have e185 : Tg h169 a0 = 12 := (fxT F174 e183)
                    refine gf_I C fk_LandSurveyModel_298 rfl e185 e184 dX12_cutAll_161 ?_
                    refine g_icmp_ge C (iw f175 (by decide) (by decide)) (iw f61 (by decide) (by decide)) 218 (by decide) dX12_cutAll_164 (fun q186 => ?_) (fun q187 => ?_)
                    · have f188 : (1 : Int) ≤ x167 ∧ x167 ≤ (1500 : Int) := r_ge f175 f61 q186 (by decide) (by decide)
                      refine g_aload_n C rfl 0 rfl dX12_cutAll_218 ?_
                      obtain ⟨v189, e190⟩ : ∃ z, Rv h169 a0 4 = z := ⟨_, rfl⟩
                      have t191 := ok_R O173 e185 rE_12_4 e190
                      have l192 := ok_L O173 e185 rE_12_4 e190
                      refine gf_R C fk_LandSurveyModel_24 rfl e185 e190 dX12_cutAll_219 ?_
                      refine g_iload_n C rfl 1 rfl dX12_cutAll_222 ?_
                      refine g_iload_n C rfl 2 rfl dX12_cutAll_223 ?_
                      refine g_iload C 4 rfl dX12_cutAll_224 ?_
                      have f193 : (-1498 : Int) ≤ (x167 - x12) ∧ (x167 - x12) ≤ (1500 : Int) := ia_sub f188 f60 (by decide) (by decide)
                      refine g_isub C dX12_cutAll_226 ?_
                      refine g_iconst C dX12_cutAll_227 ?_
                      refine g_icmp_le C (iw f193 (by decide) (by decide)) (iw (il 4) (by decide) (by decide)) 235 (by decide) dX12_cutAll_228 (fun q194 => ?_) (fun q195 => ?_)
                      · have f196 : (-1498 : Int) ≤ (x167 - x12) ∧ (x167 - x12) ≤ (4 : Int) := r_le f193 (il 4) q194 (by decide) (by decide)
                        refine g_iconst C dX12_cutAll_235 ?_
                        refine g_iast C t191 rfl l192 (ix f19 (by decide) (by decide)) (iw (il 2) (by decide) (by decide)) dX12_cutAll_236 (fun h198 hh197 => ?_)
                        have O199 := O173.pIa t191 ar_104100 hh197 rI_104100_0 (iw (il 2) (by decide) (by decide)) nofun
                        refine g_goto C 265 (by decide) dX12_cutAll_237 ?_
                        refine g_aload_n C rfl 0 rfl dX12_cutAll_265 ?_
                        have e200 : Tg h198 a0 = 12 := ((pIT hh197).trans e185)
                        obtain ⟨v201, e202⟩ : ∃ z, Rv h198 a0 6 = z := ⟨_, rfl⟩
                        have t203 := ok_R O199 e200 rE_12_6 e202
                        have l204 := ok_L O199 e200 rE_12_6 e202
                        refine gf_R C fk_LandSurveyModel_30 rfl e200 e202 dX12_cutAll_266 ?_
                        refine g_iload_n C rfl 1 rfl dX12_cutAll_269 ?_
                        refine g_lload C 5 rfl dX12_cutAll_270 ?_
                        refine g_last C t203 rfl l204 (ix f19 (by decide) (by decide)) f176 dX12_cutAll_272 (fun h206 hh205 => ?_)
                        have O207 := O199.pJ hh205 f176
                        have f208 : (1 : Int) ≤ (x11 + 1) ∧ (x11 + 1) ≤ (1501 : Int) := ia_add f19 (il 1) (by decide) (by decide)
                        refine g_iinc C [(1, .inl (x11 + 1)), (0, .inr (.inr a0)), (2, .inl x167), (3, .inl v66), (4, .inl x12), (5, .inr (.inl x168))] 1 rfl (by decide) rfl dX12_cutAll_273 ?_
                        refine g_goto C 17 (by decide) dX12_cutAll_276 ?_
                        refine GW.sub [1, 0, 2] rfl ?_
                        have e209 : Rv h206 a0 4 = v189 := ((pJR hh205).trans ((pIR hh197).trans e190))
                        have e210 : Rv h206 a0 6 = v201 := ((pJR hh205).trans e202)
                        have e211 : Iv h206 v189 x11.toNat = 2 := ((pJI hh205).trans (pI_e hh197))
                        have p212 := (CU_wJ hh205 (by omega) (CU_wI hh197 (by omega) (CU_fx O97 F174 e183 rfl (CU_fx O86 F98 e182 rfl (CU_fx O81 F87 e181 rfl (CU_fx O17 ((Fx.rf (wr := [21020000]) (h := h13)).pIa t77 ar_105100 hh79 rfl) e26 rfl p21))))))
                        have e213 : Iv h206 a0 3 = v1 := ((pJI hh205).trans ((pI_n hh197 (ne_tag e185 t191 (by decide))).trans e184))
                        exact ih15 _ (by omega) (x11 + 1) x167 h206 rfl O207 ((((((F18.pIa t77 ar_105100 hh79 rfl).call F87 rfl).call F98 rfl).call F174 rfl).pIa t191 ar_104100 hh197 rfl).pJa t203 ar_106102 hh205 rfl) (by omega) (iw f188 (by decide) (by decide)) (CU_new (s := 2) (v := x168) (by omega) (by rw [e209]; exact e211) (by rw [e210]; exact (pJ_e hh205)) (by omega) p212) (by omega) (by rw [e213]; omega)
                      · have f214 : (5 : Int) ≤ (x167 - x12) ∧ (x167 - x12) ≤ (1500 : Int) := r_gt f193 (il 4) q195 (by decide) (by decide)
                        refine g_iconst C dX12_cutAll_231 ?_
                        refine g_goto C 236 (by decide) dX12_cutAll_232 ?_
                        refine g_iast C t191 rfl l192 (ix f19 (by decide) (by decide)) (iw (il 4) (by decide) (by decide)) dX12_cutAll_236 (fun h216 hh215 => ?_)
                        have O217 := O173.pIa t191 ar_104100 hh215 rI_104100_0 (iw (il 4) (by decide) (by decide)) nofun
                        refine g_goto C 265 (by decide) dX12_cutAll_237 ?_
                        refine g_aload_n C rfl 0 rfl dX12_cutAll_265 ?_
                        have e218 : Tg h216 a0 = 12 := ((pIT hh215).trans e185)
                        obtain ⟨v219, e220⟩ : ∃ z, Rv h216 a0 6 = z := ⟨_, rfl⟩
                        have t221 := ok_R O217 e218 rE_12_6 e220
                        have l222 := ok_L O217 e218 rE_12_6 e220
                        refine gf_R C fk_LandSurveyModel_30 rfl e218 e220 dX12_cutAll_266 ?_
                        refine g_iload_n C rfl 1 rfl dX12_cutAll_269 ?_
                        refine g_lload C 5 rfl dX12_cutAll_270 ?_
                        refine g_last C t221 rfl l222 (ix f19 (by decide) (by decide)) f176 dX12_cutAll_272 (fun h224 hh223 => ?_)
                        have O225 := O217.pJ hh223 f176
                        have f226 : (1 : Int) ≤ (x11 + 1) ∧ (x11 + 1) ≤ (1501 : Int) := ia_add f19 (il 1) (by decide) (by decide)
                        refine g_iinc C [(1, .inl (x11 + 1)), (0, .inr (.inr a0)), (2, .inl x167), (3, .inl v66), (4, .inl x12), (5, .inr (.inl x168))] 1 rfl (by decide) rfl dX12_cutAll_273 ?_
                        refine g_goto C 17 (by decide) dX12_cutAll_276 ?_
                        refine GW.sub [1, 0, 2] rfl ?_
                        have e227 : Rv h224 a0 4 = v189 := ((pJR hh223).trans ((pIR hh215).trans e190))
                        have e228 : Rv h224 a0 6 = v219 := ((pJR hh223).trans e220)
                        have e229 : Iv h224 v189 x11.toNat = 4 := ((pJI hh223).trans (pI_e hh215))
                        have p230 := (CU_wJ hh223 (by omega) (CU_wI hh215 (by omega) (CU_fx O97 F174 e183 rfl (CU_fx O86 F98 e182 rfl (CU_fx O81 F87 e181 rfl (CU_fx O17 ((Fx.rf (wr := [21020000]) (h := h13)).pIa t77 ar_105100 hh79 rfl) e26 rfl p21))))))
                        have e231 : Iv h224 a0 3 = v1 := ((pJI hh223).trans ((pI_n hh215 (ne_tag e185 t191 (by decide))).trans e184))
                        exact ih15 _ (by omega) (x11 + 1) x167 h224 rfl O225 ((((((F18.pIa t77 ar_105100 hh79 rfl).call F87 rfl).call F98 rfl).call F174 rfl).pIa t191 ar_104100 hh215 rfl).pJa t221 ar_106102 hh223 rfl) (by omega) (iw f188 (by decide) (by decide)) (CU_new (s := 4) (v := x168) (by omega) (by rw [e227]; exact e229) (by rw [e228]; exact (pJ_e hh223)) (by omega) p230) (by omega) (by rw [e231]; omega)
                    · have f232 : (0 : Int) ≤ x167 ∧ x167 ≤ (1499 : Int) := r_lt f175 f61 q187 (by decide) (by decide)
                      refine g_aload_n C rfl 0 rfl dX12_cutAll_167 ?_
                      have e233 : Rv h169 a0 1 = v62 := ((fxR F174 e183 rfl).trans ((fxR F98 e182 rfl).trans ((fxR F87 e181 rfl).trans ((pIR hh79).trans e63))))
                      refine gf_R C fk_LandSurveyModel_14 rfl e185 e233 dX12_cutAll_168 ?_
                      refine g_iload_n C rfl 2 rfl dX12_cutAll_171 ?_
                      have e234 : Tg h169 v62 = 101100 := (fxT F174 (fxT F98 (fxT F87 ((pIT hh79).trans t64))))
                      have e235 : Tg h80 v62 = 101100 := ((pIT hh79).trans t64)
                      have e236 : Tg h83 v62 = 101100 := (fxT F87 e235)
                      have e237 : Tg h94 v62 = 101100 := (fxT F98 e236)
                      have e238 : Ln h169 v62 = 1500 := ((fxL F174 e237).trans ((fxL F98 e236).trans ((fxL F87 e235).trans ((pIL hh79).trans l65))))
                      obtain ⟨v239, e240⟩ : ∃ z, Iv h169 v62 x167.toNat = z := ⟨_, rfl⟩
                      have f241 := ok_Ia O173 e234 ar_101100 rI_101100_0 e240
                      refine g_iald C e234 rfl e238 (ix f232 (by decide) (by decide)) e240 dX12_cutAll_172 ?_
                      have z242 := p179
                      rw [e233, e240] at z242
                      refine g_callI (st := []) (gc_S C lk_LandSurveyModel_307 (k_X12_isDigit l D cy w z0 O173 (iw f241 (by decide) (by decide))) rfl ⟨by decide, by decide⟩ (Nat.le_of_ble_eq_true rfl) dX12_cutAll_173 ⟨(by decide), (by decide)⟩) (fun r243 h244 f246 K245 => ?_)
                      obtain ⟨O247, F248, f249, p250⟩ := K245
                      refine g_if_eq C (iw f249 (by decide) (by decide)) 218 (by decide) dX12_cutAll_176 (fun q251 => ?_) (fun q252 => ?_)
                      · have f253 : (0 : Int) ≤ r243 ∧ r243 ≤ (0 : Int) := ii f249 (r_eq (il 0) q251) (by decide) (by decide)
                        refine g_aload_n C rfl 0 rfl dX12_cutAll_218 ?_
                        have e254 : Tg h244 a0 = 12 := (fxT F248 e185)
                        obtain ⟨v255, e256⟩ : ∃ z, Rv h244 a0 4 = z := ⟨_, rfl⟩
                        have t257 := ok_R O247 e254 rE_12_4 e256
                        have l258 := ok_L O247 e254 rE_12_4 e256
                        refine gf_R C fk_LandSurveyModel_24 rfl e254 e256 dX12_cutAll_219 ?_
                        refine g_iload_n C rfl 1 rfl dX12_cutAll_222 ?_
                        refine g_iload_n C rfl 2 rfl dX12_cutAll_223 ?_
                        refine g_iload C 4 rfl dX12_cutAll_224 ?_
                        have f259 : (-1499 : Int) ≤ (x167 - x12) ∧ (x167 - x12) ≤ (1499 : Int) := ia_sub f232 f60 (by decide) (by decide)
                        refine g_isub C dX12_cutAll_226 ?_
                        refine g_iconst C dX12_cutAll_227 ?_
                        refine g_icmp_le C (iw f259 (by decide) (by decide)) (iw (il 4) (by decide) (by decide)) 235 (by decide) dX12_cutAll_228 (fun q260 => ?_) (fun q261 => ?_)
                        · have f262 : (-1499 : Int) ≤ (x167 - x12) ∧ (x167 - x12) ≤ (4 : Int) := r_le f259 (il 4) q260 (by decide) (by decide)
                          refine g_iconst C dX12_cutAll_235 ?_
                          refine g_iast C t257 rfl l258 (ix f19 (by decide) (by decide)) (iw (il 2) (by decide) (by decide)) dX12_cutAll_236 (fun h264 hh263 => ?_)
                          have O265 := O247.pIa t257 ar_104100 hh263 rI_104100_0 (iw (il 2) (by decide) (by decide)) nofun
                          refine g_goto C 265 (by decide) dX12_cutAll_237 ?_
                          refine g_aload_n C rfl 0 rfl dX12_cutAll_265 ?_
                          have e266 : Tg h264 a0 = 12 := ((pIT hh263).trans e254)
                          obtain ⟨v267, e268⟩ : ∃ z, Rv h264 a0 6 = z := ⟨_, rfl⟩
                          have t269 := ok_R O265 e266 rE_12_6 e268
                          have l270 := ok_L O265 e266 rE_12_6 e268
                          refine gf_R C fk_LandSurveyModel_30 rfl e266 e268 dX12_cutAll_266 ?_
                          refine g_iload_n C rfl 1 rfl dX12_cutAll_269 ?_
                          refine g_lload C 5 rfl dX12_cutAll_270 ?_
                          refine g_last C t269 rfl l270 (ix f19 (by decide) (by decide)) f176 dX12_cutAll_272 (fun h272 hh271 => ?_)
                          have O273 := O265.pJ hh271 f176
                          have f274 : (1 : Int) ≤ (x11 + 1) ∧ (x11 + 1) ≤ (1501 : Int) := ia_add f19 (il 1) (by decide) (by decide)
                          refine g_iinc C [(1, .inl (x11 + 1)), (0, .inr (.inr a0)), (2, .inl x167), (3, .inl v66), (4, .inl x12), (5, .inr (.inl x168))] 1 rfl (by decide) rfl dX12_cutAll_273 ?_
                          refine g_goto C 17 (by decide) dX12_cutAll_276 ?_
                          refine GW.sub [1, 0, 2] rfl ?_
                          have e275 : Rv h272 a0 4 = v255 := ((pJR hh271).trans ((pIR hh263).trans e256))
                          have e276 : Rv h272 a0 6 = v267 := ((pJR hh271).trans e268)
                          have e277 : Iv h272 v255 x11.toNat = 2 := ((pJI hh271).trans (pI_e hh263))
                          have p278 := (CU_wJ hh271 (by omega) (CU_wI hh263 (by omega) (CU_fx O173 F248 e185 rfl (CU_fx O97 F174 e183 rfl (CU_fx O86 F98 e182 rfl (CU_fx O81 F87 e181 rfl (CU_fx O17 ((Fx.rf (wr := [21020000]) (h := h13)).pIa t77 ar_105100 hh79 rfl) e26 rfl p21)))))))
                          have e279 : Iv h272 a0 3 = v1 := ((pJI hh271).trans ((pI_n hh263 (ne_tag e254 t257 (by decide))).trans ((fxI F248 e185 rfl).trans e184)))
                          exact ih15 _ (by omega) (x11 + 1) x167 h272 rfl O273 (((((((F18.pIa t77 ar_105100 hh79 rfl).call F87 rfl).call F98 rfl).call F174 rfl).call F248 rfl).pIa t257 ar_104100 hh263 rfl).pJa t269 ar_106102 hh271 rfl) (by omega) (iw f232 (by decide) (by decide)) (CU_new (s := 2) (v := x168) (by omega) (by rw [e275]; exact e277) (by rw [e276]; exact (pJ_e hh271)) (by omega) p278) (by omega) (by rw [e279]; omega)
                        · have f280 : (5 : Int) ≤ (x167 - x12) ∧ (x167 - x12) ≤ (1499 : Int) := r_gt f259 (il 4) q261 (by decide) (by decide)
                          refine g_iconst C dX12_cutAll_231 ?_
                          refine g_goto C 236 (by decide) dX12_cutAll_232 ?_
                          refine g_iast C t257 rfl l258 (ix f19 (by decide) (by decide)) (iw (il 4) (by decide) (by decide)) dX12_cutAll_236 (fun h282 hh281 => ?_)
                          have O283 := O247.pIa t257 ar_104100 hh281 rI_104100_0 (iw (il 4) (by decide) (by decide)) nofun
                          refine g_goto C 265 (by decide) dX12_cutAll_237 ?_
                          refine g_aload_n C rfl 0 rfl dX12_cutAll_265 ?_
                          have e284 : Tg h282 a0 = 12 := ((pIT hh281).trans e254)
                          obtain ⟨v285, e286⟩ : ∃ z, Rv h282 a0 6 = z := ⟨_, rfl⟩
                          have t287 := ok_R O283 e284 rE_12_6 e286
                          have l288 := ok_L O283 e284 rE_12_6 e286
                          refine gf_R C fk_LandSurveyModel_30 rfl e284 e286 dX12_cutAll_266 ?_
                          refine g_iload_n C rfl 1 rfl dX12_cutAll_269 ?_
                          refine g_lload C 5 rfl dX12_cutAll_270 ?_
                          refine g_last C t287 rfl l288 (ix f19 (by decide) (by decide)) f176 dX12_cutAll_272 (fun h290 hh289 => ?_)
                          have O291 := O283.pJ hh289 f176
                          have f292 : (1 : Int) ≤ (x11 + 1) ∧ (x11 + 1) ≤ (1501 : Int) := ia_add f19 (il 1) (by decide) (by decide)
                          refine g_iinc C [(1, .inl (x11 + 1)), (0, .inr (.inr a0)), (2, .inl x167), (3, .inl v66), (4, .inl x12), (5, .inr (.inl x168))] 1 rfl (by decide) rfl dX12_cutAll_273 ?_
                          refine g_goto C 17 (by decide) dX12_cutAll_276 ?_
                          refine GW.sub [1, 0, 2] rfl ?_
                          have e293 : Rv h290 a0 4 = v255 := ((pJR hh289).trans ((pIR hh281).trans e256))
                          have e294 : Rv h290 a0 6 = v285 := ((pJR hh289).trans e286)
                          have e295 : Iv h290 v255 x11.toNat = 4 := ((pJI hh289).trans (pI_e hh281))
                          have p296 := (CU_wJ hh289 (by omega) (CU_wI hh281 (by omega) (CU_fx O173 F248 e185 rfl (CU_fx O97 F174 e183 rfl (CU_fx O86 F98 e182 rfl (CU_fx O81 F87 e181 rfl (CU_fx O17 ((Fx.rf (wr := [21020000]) (h := h13)).pIa t77 ar_105100 hh79 rfl) e26 rfl p21)))))))
                          have e297 : Iv h290 a0 3 = v1 := ((pJI hh289).trans ((pI_n hh281 (ne_tag e254 t257 (by decide))).trans ((fxI F248 e185 rfl).trans e184)))
                          exact ih15 _ (by omega) (x11 + 1) x167 h290 rfl O291 (((((((F18.pIa t77 ar_105100 hh79 rfl).call F87 rfl).call F98 rfl).call F174 rfl).call F248 rfl).pIa t257 ar_104100 hh281 rfl).pJa t287 ar_106102 hh289 rfl) (by omega) (iw f232 (by decide) (by decide)) (CU_new (s := 4) (v := x168) (by omega) (by rw [e293]; exact e295) (by rw [e294]; exact (pJ_e hh289)) (by omega) p296) (by omega) (by rw [e297]; omega)
                      · have f298 : (1 : Int) ≤ r243 ∧ r243 ≤ (1 : Int) := r_nl f249 q252
                        refine g_iload_n C rfl 2 rfl dX12_cutAll_179 ?_
                        refine g_iload C 4 rfl dX12_cutAll_180 ?_
                        have f299 : (-1499 : Int) ≤ (x167 - x12) ∧ (x167 - x12) ≤ (1499 : Int) := ia_sub f232 f60 (by decide) (by decide)
                        refine g_isub C dX12_cutAll_182 ?_
                        refine g_iconst C dX12_cutAll_183 ?_
                        refine g_icmp_ge C (iw f299 (by decide) (by decide)) (iw (il 4) (by decide) (by decide)) 208 (by decide) dX12_cutAll_184 (fun q300 => ?_) (fun q301 => ?_)
                        · have f302 : (4 : Int) ≤ (x167 - x12) ∧ (x167 - x12) ≤ (1499 : Int) := r_ge f299 (il 4) q300 (by decide) (by decide)
                          refine g_lload C 5 rfl dX12_cutAll_208 ?_
                          refine g_lstore C [(5, .inr (.inl x168)), (0, .inr (.inr a0)), (1, .inl x11), (2, .inl x167), (3, .inl v66), (4, .inl x12)] (by decide) rfl dX12_cutAll_210 ?_
                          have f303 : (1 : Int) ≤ (x167 + 1) ∧ (x167 + 1) ≤ (1500 : Int) := ia_add f232 (il 1) (by decide) (by decide)
                          refine g_iinc C [(2, .inl (x167 + 1)), (5, .inr (.inl x168)), (0, .inr (.inr a0)), (1, .inl x11), (3, .inl v66), (4, .inl x12)] 3 rfl (by decide) rfl dX12_cutAll_212 ?_
                          refine g_goto C 159 (by decide) dX12_cutAll_215 ?_
                          refine GW.sub [2, 3, 0, 4, 5, 1] rfl ?_
                          have e304 : Iv h244 a0 3 = v1 := ((fxI F248 e185 rfl).trans e184)
                          exact ih171 _ (by omega) (x167 + 1) x168 h244 rfl O247 (F174.call F248 rfl) (iw f303 (by decide) (by decide)) f176 (by omega) (by rw [e304]; omega) (fun z => absurd z (by omega)) (by omega)
                        · have f305 : (-1499 : Int) ≤ (x167 - x12) ∧ (x167 - x12) ≤ (3 : Int) := r_lt f299 (il 4) q301 (by decide) (by decide)
                          refine g_ldc2 (z := 10) C kw_1786 (by decide) dX12_cutAll_187 ?_
                          refine g_lload C 5 rfl dX12_cutAll_190 ?_
                          refine g_lmul C dX12_cutAll_192 ?_
                          have f306 : (-9223372036854775808 : Int) ≤ (lM 10 x168) ∧ (lM 10 x168) ≤ (9223372036854775807 : Int) := inL_of _
                          refine g_aload_n C rfl 0 rfl dX12_cutAll_193 ?_
                          have e307 : Tg h244 a0 = 12 := (fxT F248 e185)
                          have e308 : Rv h244 a0 1 = v62 := ((fxR F248 e185 rfl).trans e233)
                          refine gf_R C fk_LandSurveyModel_14 rfl e307 e308 dX12_cutAll_194 ?_
                          refine g_iload_n C rfl 2 rfl dX12_cutAll_197 ?_
                          have e309 : Tg h244 v62 = 101100 := (fxT F248 e234)
                          have e310 : Ln h244 v62 = 1500 := ((fxL F248 e234).trans e238)
                          have e311 : Iv h244 v62 x167.toNat = v239 := ((fxIa F248 e234 ar_101100 rfl).trans e240)
                          refine g_iald C e309 rfl e310 (ix f232 (by decide) (by decide)) e311 dX12_cutAll_198 ?_
                          refine g_i2l C (iw f241 (by decide) (by decide)) dX12_cutAll_199 ?_
                          refine g_ladd C dX12_cutAll_200 ?_
                          have f312 : (-9223372036854775808 : Int) ≤ (lA (lM 10 x168) v239) ∧ (lA (lM 10 x168) v239) ≤ (9223372036854775807 : Int) := inL_of _
                          refine g_ldc2 (z := 48) C kw_1787 (by decide) dX12_cutAll_201 ?_
                          refine g_lsub C dX12_cutAll_204 ?_
                          have f313 : (-9223372036854775808 : Int) ≤ (lS (lA (lM 10 x168) v239) 48) ∧ (lS (lA (lM 10 x168) v239) 48) ≤ (9223372036854775807 : Int) := inL_of _
                          refine g_goto C 210 (by decide) dX12_cutAll_205 ?_
                          have z314 := la_dig2 (V := x168) (x := v239) (by omega) (by omega)
                          refine g_lstore C [(5, .inr (.inl (lS (lA (lM 10 x168) v239) 48))), (0, .inr (.inr a0)), (1, .inl x11), (2, .inl x167), (3, .inl v66), (4, .inl x12)] (by decide) rfl dX12_cutAll_210 ?_
                          have f315 : (1 : Int) ≤ (x167 + 1) ∧ (x167 + 1) ≤ (1500 : Int) := ia_add f232 (il 1) (by decide) (by decide)
                          refine g_iinc C [(2, .inl (x167 + 1)), (5, .inr (.inl (lS (lA (lM 10 x168) v239) 48))), (0, .inr (.inr a0)), (1, .inl x11), (3, .inl v66), (4, .inl x12)] 3 rfl (by decide) rfl dX12_cutAll_212 ?_
                          refine g_goto C 159 (by decide) dX12_cutAll_215 ?_
                          refine GW.sub [2, 3, 0, 4, 5, 1] rfl ?_
                          have e316 : Iv h244 a0 3 = v1 := ((fxI F248 e185 rfl).trans e184)
                          exact ih171 _ (by omega) (x167 + 1) (lS (lA (lM 10 x168) v239) 48) h244 rfl O247 (F174.call F248 rfl) (iw f315 (by decide) (by decide)) f313 (by omega) (by rw [e316]; omega) (fun z => absurd z (by omega)) (by omega)
                have e317 : Tg h80 a0 = 12 := ((pIT hh79).trans e26)
                have e318 : Tg h83 a0 = 12 := (fxT F87 e317)
                have e319 : Iv h94 a0 3 = v1 := ((fxI F98 e318 rfl).trans ((fxI F87 e317 rfl).trans ((pI_n hh79 (ne_tag e26 t77 (by decide))).trans e25)))
                have e320 : Rv h94 a0 1 = v62 := ((fxR F98 e318 rfl).trans ((fxR F87 e317 rfl).trans ((pIR hh79).trans e63)))
                have e321 : Tg h80 v62 = 101100 := ((pIT hh79).trans t64)
                have e322 : Tg h83 v62 = 101100 := (fxT F87 e321)
                have e323 : Iv h94 v62 x12.toNat = v66 := ((fxIa F98 e322 ar_101100 rfl).trans ((fxIa F87 e321 ar_101100 rfl).trans ((pI_n hh79 (ne_tag t64 t77 (by decide))).trans e67)))
                exact L170 _ x12 0 h94 rfl O97 Fx.rf (iw f60 (by decide) (by decide)) (iw (il 0) (by decide) (by decide)) (by omega) (by rw [e319]; omega) (fun _ => by rw [e320]; exact e323) (by omega)
            · have f324 : (1 : Int) ≤ r82 ∧ r82 ≤ (1 : Int) := r_nl f88 q91
              refine GW.sub [3, 4, 5, 2, 1, 0] rfl ?_
              -- loop at 70
              have L328 : ∀ (μ : Nat) (x325 : Int) (x326 : Int) (h327 : Hp), (1500 - x325).toNat = μ → Okh h327 → Fx [] h83 h327 → ((0 : Int) ≤ x325 ∧ x325 ≤ (1500 : Int)) → ((-9223372036854775808 : Int) ≤ x326 ∧ x326 ≤ (9223372036854775807 : Int)) → (x12 ≤ x325) → (x325 ≤ Iv h327 a0 3) → (x325 = x12 → Iv h327 (Rv h327 a0 1) x325.toNat = v66) → GW p l e (rmm 2 40 0 0) s m (List.map toV [.inr (.inr a0)]).toArray below meth c D cy z0 7 (MQ below (QV D cy z0 (fun h1 => Okh h1 ∧ Fx wr_k_X12_cutAll h h1 ∧ (TK h1 a0 ∧ Iv h1 a0 7 = 0 ∧ Iv h1 a0 8 = 0))) (List.map toV [.inr (.inr a0)]).toArray s 0 0 (Aof z0)) 70 [(0, .inr (.inr a0)), (1, .inl x11), (2, .inl x325), (3, .inl v66), (4, .inl x12), (5, .inr (.inl x326))] [] h327 0 0 := by
                intro μ
                induction μ using Nat.strongRecOn with
                | ind μ ih329 =>
                  intro x325 x326 h327 hm330 O331 F332 f333 f334 p335 p336 p337
                  have e338 : Tg h80 a0 = 12 := ((pIT hh79).trans e26)
                  have e339 : Tg h83 a0 = 12 := (fxT F87 e338)
                  have e340 : Iv h327 a0 3 = v1 := ((fxI F332 e339 rfl).trans ((fxI F87 e338 rfl).trans ((pI_n hh79 (ne_tag e26 t77 (by decide))).trans e25)))
                  rw [e340] at p336
                  refine g_iload_n C rfl 2 rfl dX12_cutAll_70 ?_
                  refine g_aload_n C rfl 0 rfl dX12_cutAll_71 ?_
                  have e341 : Tg h327 a0 = 12 := (fxT F332 e339)
                  refine gf_I C fk_LandSurveyModel_298 rfl e341 e340 dX12_cutAll_72 ?_
                  refine g_icmp_ge C (iw f333 (by decide) (by decide)) (iw f61 (by decide) (by decide)) 129 (by decide) dX12_cutAll_75 (fun q342 => ?_) (fun q343 => ?_)
                  · have f344 : (1 : Int) ≤ x325 ∧ x325 ≤ (1500 : Int) := r_ge f333 f61 q342 (by decide) (by decide)
                    refine g_aload_n C rfl 0 rfl dX12_cutAll_129 ?_
                    obtain ⟨v345, e346⟩ : ∃ z, Rv h327 a0 4 = z := ⟨_, rfl⟩
                    have t347 := ok_R O331 e341 rE_12_4 e346
                    have l348 := ok_L O331 e341 rE_12_4 e346
                    refine gf_R C fk_LandSurveyModel_24 rfl e341 e346 dX12_cutAll_130 ?_
                    refine g_iload_n C rfl 1 rfl dX12_cutAll_133 ?_
                    refine g_iload_n C rfl 2 rfl dX12_cutAll_134 ?_
                    refine g_iload C 4 rfl dX12_cutAll_135 ?_
                    have f349 : (-1498 : Int) ≤ (x325 - x12) ∧ (x325 - x12) ≤ (1500 : Int) := ia_sub f344 f60 (by decide) (by decide)
                    refine g_isub C dX12_cutAll_137 ?_
                    refine g_bipush C (by decide) dX12_cutAll_138 ?_
                    refine g_icmp_le C (iw f349 (by decide) (by decide)) (iw (il 8) (by decide) (by decide)) 147 (by decide) dX12_cutAll_140 (fun q350 => ?_) (fun q351 => ?_)
                    · have f352 : (-1498 : Int) ≤ (x325 - x12) ∧ (x325 - x12) ≤ (8 : Int) := r_le f349 (il 8) q350 (by decide) (by decide)
                      refine g_iconst C dX12_cutAll_147 ?_
                      refine g_iast C t347 rfl l348 (ix f19 (by decide) (by decide)) (iw (il 1) (by decide) (by decide)) dX12_cutAll_148 (fun h354 hh353 => ?_)
                      have O355 := O331.pIa t347 ar_104100 hh353 rI_104100_0 (iw (il 1) (by decide) (by decide)) nofun
                      refine g_goto C 265 (by decide) dX12_cutAll_149 ?_
                      refine g_aload_n C rfl 0 rfl dX12_cutAll_265 ?_
                      have e356 : Tg h354 a0 = 12 := ((pIT hh353).trans e341)
                      obtain ⟨v357, e358⟩ : ∃ z, Rv h354 a0 6 = z := ⟨_, rfl⟩
                      have t359 := ok_R O355 e356 rE_12_6 e358
                      have l360 := ok_L O355 e356 rE_12_6 e358
                      refine gf_R C fk_LandSurveyModel_30 rfl e356 e358 dX12_cutAll_266 ?_
                      refine g_iload_n C rfl 1 rfl dX12_cutAll_269 ?_
                      refine g_lload C 5 rfl dX12_cutAll_270 ?_
                      refine g_last C t359 rfl l360 (ix f19 (by decide) (by decide)) f334 dX12_cutAll_272 (fun h362 hh361 => ?_)
                      have O363 := O355.pJ hh361 f334
                      have f364 : (1 : Int) ≤ (x11 + 1) ∧ (x11 + 1) ≤ (1501 : Int) := ia_add f19 (il 1) (by decide) (by decide)
                      refine g_iinc C [(1, .inl (x11 + 1)), (0, .inr (.inr a0)), (2, .inl x325), (3, .inl v66), (4, .inl x12), (5, .inr (.inl x326))] 1 rfl (by decide) rfl dX12_cutAll_273 ?_
                      refine g_goto C 17 (by decide) dX12_cutAll_276 ?_
                      refine GW.sub [1, 0, 2] rfl ?_
                      have e365 : Rv h362 a0 4 = v345 := ((pJR hh361).trans ((pIR hh353).trans e346))
                      have e366 : Rv h362 a0 6 = v357 := ((pJR hh361).trans e358)
                      have e367 : Iv h362 v345 x11.toNat = 1 := ((pJI hh361).trans (pI_e hh353))
                      have p368 := (CU_wJ hh361 (by omega) (CU_wI hh353 (by omega) (CU_fx O86 F332 e339 rfl (CU_fx O81 F87 e338 rfl (CU_fx O17 ((Fx.rf (wr := [21020000]) (h := h13)).pIa t77 ar_105100 hh79 rfl) e26 rfl p21)))))
                      have e369 : Iv h362 a0 3 = v1 := ((pJI hh361).trans ((pI_n hh353 (ne_tag e341 t347 (by decide))).trans e340))
                      exact ih15 _ (by omega) (x11 + 1) x325 h362 rfl O363 (((((F18.pIa t77 ar_105100 hh79 rfl).call F87 rfl).call F332 rfl).pIa t347 ar_104100 hh353 rfl).pJa t359 ar_106102 hh361 rfl) (by omega) (iw f344 (by decide) (by decide)) (CU_new (s := 1) (v := x326) (by omega) (by rw [e365]; exact e367) (by rw [e366]; exact (pJ_e hh361)) (by omega) p368) (by omega) (by rw [e369]; omega)
                    · have f370 : (9 : Int) ≤ (x325 - x12) ∧ (x325 - x12) ≤ (1500 : Int) := r_gt f349 (il 8) q351 (by decide) (by decide)
                      refine g_iconst C dX12_cutAll_143 ?_
                      refine g_goto C 148 (by decide) dX12_cutAll_144 ?_
                      refine g_iast C t347 rfl l348 (ix f19 (by decide) (by decide)) (iw (il 4) (by decide) (by decide)) dX12_cutAll_148 (fun h372 hh371 => ?_)
                      have O373 := O331.pIa t347 ar_104100 hh371 rI_104100_0 (iw (il 4) (by decide) (by decide)) nofun
                      refine g_goto C 265 (by decide) dX12_cutAll_149 ?_
                      refine g_aload_n C rfl 0 rfl dX12_cutAll_265 ?_
                      have e374 : Tg h372 a0 = 12 := ((pIT hh371).trans e341)
                      obtain ⟨v375, e376⟩ : ∃ z, Rv h372 a0 6 = z := ⟨_, rfl⟩
                      have t377 := ok_R O373 e374 rE_12_6 e376
                      have l378 := ok_L O373 e374 rE_12_6 e376
                      refine gf_R C fk_LandSurveyModel_30 rfl e374 e376 dX12_cutAll_266 ?_
                      refine g_iload_n C rfl 1 rfl dX12_cutAll_269 ?_
                      refine g_lload C 5 rfl dX12_cutAll_270 ?_
                      refine g_last C t377 rfl l378 (ix f19 (by decide) (by decide)) f334 dX12_cutAll_272 (fun h380 hh379 => ?_)
                      have O381 := O373.pJ hh379 f334
                      have f382 : (1 : Int) ≤ (x11 + 1) ∧ (x11 + 1) ≤ (1501 : Int) := ia_add f19 (il 1) (by decide) (by decide)
                      refine g_iinc C [(1, .inl (x11 + 1)), (0, .inr (.inr a0)), (2, .inl x325), (3, .inl v66), (4, .inl x12), (5, .inr (.inl x326))] 1 rfl (by decide) rfl dX12_cutAll_273 ?_
                      refine g_goto C 17 (by decide) dX12_cutAll_276 ?_
                      refine GW.sub [1, 0, 2] rfl ?_
                      have e383 : Rv h380 a0 4 = v345 := ((pJR hh379).trans ((pIR hh371).trans e346))
                      have e384 : Rv h380 a0 6 = v375 := ((pJR hh379).trans e376)
                      have e385 : Iv h380 v345 x11.toNat = 4 := ((pJI hh379).trans (pI_e hh371))
                      have p386 := (CU_wJ hh379 (by omega) (CU_wI hh371 (by omega) (CU_fx O86 F332 e339 rfl (CU_fx O81 F87 e338 rfl (CU_fx O17 ((Fx.rf (wr := [21020000]) (h := h13)).pIa t77 ar_105100 hh79 rfl) e26 rfl p21)))))
                      have e387 : Iv h380 a0 3 = v1 := ((pJI hh379).trans ((pI_n hh371 (ne_tag e341 t347 (by decide))).trans e340))
                      exact ih15 _ (by omega) (x11 + 1) x325 h380 rfl O381 (((((F18.pIa t77 ar_105100 hh79 rfl).call F87 rfl).call F332 rfl).pIa t347 ar_104100 hh371 rfl).pJa t377 ar_106102 hh379 rfl) (by omega) (iw f344 (by decide) (by decide)) (CU_new (s := 4) (v := x326) (by omega) (by rw [e383]; exact e385) (by rw [e384]; exact (pJ_e hh379)) (by omega) p386) (by omega) (by rw [e387]; omega)
                  · have f388 : (0 : Int) ≤ x325 ∧ x325 ≤ (1499 : Int) := r_lt f333 f61 q343 (by decide) (by decide)
                    refine g_aload_n C rfl 0 rfl dX12_cutAll_78 ?_
                    have e389 : Rv h327 a0 1 = v62 := ((fxR F332 e339 rfl).trans ((fxR F87 e338 rfl).trans ((pIR hh79).trans e63)))
                    refine gf_R C fk_LandSurveyModel_14 rfl e341 e389 dX12_cutAll_79 ?_
                    refine g_iload_n C rfl 2 rfl dX12_cutAll_82 ?_
                    have e390 : Tg h327 v62 = 101100 := (fxT F332 (fxT F87 ((pIT hh79).trans t64)))
                    have e391 : Tg h80 v62 = 101100 := ((pIT hh79).trans t64)
                    have e392 : Tg h83 v62 = 101100 := (fxT F87 e391)
                    have e393 : Ln h327 v62 = 1500 := ((fxL F332 e392).trans ((fxL F87 e391).trans ((pIL hh79).trans l65)))
                    obtain ⟨v394, e395⟩ : ∃ z, Iv h327 v62 x325.toNat = z := ⟨_, rfl⟩
                    have f396 := ok_Ia O331 e390 ar_101100 rI_101100_0 e395
                    refine g_iald C e390 rfl e393 (ix f388 (by decide) (by decide)) e395 dX12_cutAll_83 ?_
                    have z397 := p337
                    rw [e389, e395] at z397
                    refine g_callI (st := []) (gc_S C lk_LandSurveyModel_294 (k_X12_isLetter l D cy w z0 O331 (iw f396 (by decide) (by decide))) rfl ⟨by decide, by decide⟩ (Nat.le_of_ble_eq_true rfl) dX12_cutAll_84 ⟨(by decide), (by decide)⟩) (fun r398 h399 f401 K400 => ?_)
                    obtain ⟨O402, F403, f404, p405⟩ := K400
                    refine g_if_eq C (iw f404 (by decide) (by decide)) 129 (by decide) dX12_cutAll_87 (fun q406 => ?_) (fun q407 => ?_)
                    · have f408 : (0 : Int) ≤ r398 ∧ r398 ≤ (0 : Int) := ii f404 (r_eq (il 0) q406) (by decide) (by decide)
                      refine g_aload_n C rfl 0 rfl dX12_cutAll_129 ?_
                      have e409 : Tg h399 a0 = 12 := (fxT F403 e341)
                      obtain ⟨v410, e411⟩ : ∃ z, Rv h399 a0 4 = z := ⟨_, rfl⟩
                      have t412 := ok_R O402 e409 rE_12_4 e411
                      have l413 := ok_L O402 e409 rE_12_4 e411
                      refine gf_R C fk_LandSurveyModel_24 rfl e409 e411 dX12_cutAll_130 ?_
                      refine g_iload_n C rfl 1 rfl dX12_cutAll_133 ?_
                      refine g_iload_n C rfl 2 rfl dX12_cutAll_134 ?_
                      refine g_iload C 4 rfl dX12_cutAll_135 ?_
                      have f414 : (-1499 : Int) ≤ (x325 - x12) ∧ (x325 - x12) ≤ (1499 : Int) := ia_sub f388 f60 (by decide) (by decide)
                      refine g_isub C dX12_cutAll_137 ?_
                      refine g_bipush C (by decide) dX12_cutAll_138 ?_
                      refine g_icmp_le C (iw f414 (by decide) (by decide)) (iw (il 8) (by decide) (by decide)) 147 (by decide) dX12_cutAll_140 (fun q415 => ?_) (fun q416 => ?_)
                      · have f417 : (-1499 : Int) ≤ (x325 - x12) ∧ (x325 - x12) ≤ (8 : Int) := r_le f414 (il 8) q415 (by decide) (by decide)
                        refine g_iconst C dX12_cutAll_147 ?_
                        refine g_iast C t412 rfl l413 (ix f19 (by decide) (by decide)) (iw (il 1) (by decide) (by decide)) dX12_cutAll_148 (fun h419 hh418 => ?_)
                        have O420 := O402.pIa t412 ar_104100 hh418 rI_104100_0 (iw (il 1) (by decide) (by decide)) nofun
                        refine g_goto C 265 (by decide) dX12_cutAll_149 ?_
                        refine g_aload_n C rfl 0 rfl dX12_cutAll_265 ?_
                        have e421 : Tg h419 a0 = 12 := ((pIT hh418).trans e409)
                        obtain ⟨v422, e423⟩ : ∃ z, Rv h419 a0 6 = z := ⟨_, rfl⟩
                        have t424 := ok_R O420 e421 rE_12_6 e423
                        have l425 := ok_L O420 e421 rE_12_6 e423
                        refine gf_R C fk_LandSurveyModel_30 rfl e421 e423 dX12_cutAll_266 ?_
                        refine g_iload_n C rfl 1 rfl dX12_cutAll_269 ?_
                        refine g_lload C 5 rfl dX12_cutAll_270 ?_
                        refine g_last C t424 rfl l425 (ix f19 (by decide) (by decide)) f334 dX12_cutAll_272 (fun h427 hh426 => ?_)
                        have O428 := O420.pJ hh426 f334
                        have f429 : (1 : Int) ≤ (x11 + 1) ∧ (x11 + 1) ≤ (1501 : Int) := ia_add f19 (il 1) (by decide) (by decide)
                        refine g_iinc C [(1, .inl (x11 + 1)), (0, .inr (.inr a0)), (2, .inl x325), (3, .inl v66), (4, .inl x12), (5, .inr (.inl x326))] 1 rfl (by decide) rfl dX12_cutAll_273 ?_
                        refine g_goto C 17 (by decide) dX12_cutAll_276 ?_
                        refine GW.sub [1, 0, 2] rfl ?_
                        have e430 : Rv h427 a0 4 = v410 := ((pJR hh426).trans ((pIR hh418).trans e411))
                        have e431 : Rv h427 a0 6 = v422 := ((pJR hh426).trans e423)
                        have e432 : Iv h427 v410 x11.toNat = 1 := ((pJI hh426).trans (pI_e hh418))
                        have p433 := (CU_wJ hh426 (by omega) (CU_wI hh418 (by omega) (CU_fx O331 F403 e341 rfl (CU_fx O86 F332 e339 rfl (CU_fx O81 F87 e338 rfl (CU_fx O17 ((Fx.rf (wr := [21020000]) (h := h13)).pIa t77 ar_105100 hh79 rfl) e26 rfl p21))))))
                        have e434 : Iv h427 a0 3 = v1 := ((pJI hh426).trans ((pI_n hh418 (ne_tag e409 t412 (by decide))).trans ((fxI F403 e341 rfl).trans e340)))
                        exact ih15 _ (by omega) (x11 + 1) x325 h427 rfl O428 ((((((F18.pIa t77 ar_105100 hh79 rfl).call F87 rfl).call F332 rfl).call F403 rfl).pIa t412 ar_104100 hh418 rfl).pJa t424 ar_106102 hh426 rfl) (by omega) (iw f388 (by decide) (by decide)) (CU_new (s := 1) (v := x326) (by omega) (by rw [e430]; exact e432) (by rw [e431]; exact (pJ_e hh426)) (by omega) p433) (by omega) (by rw [e434]; omega)
                      · have f435 : (9 : Int) ≤ (x325 - x12) ∧ (x325 - x12) ≤ (1499 : Int) := r_gt f414 (il 8) q416 (by decide) (by decide)
                        refine g_iconst C dX12_cutAll_143 ?_
                        refine g_goto C 148 (by decide) dX12_cutAll_144 ?_
                        refine g_iast C t412 rfl l413 (ix f19 (by decide) (by decide)) (iw (il 4) (by decide) (by decide)) dX12_cutAll_148 (fun h437 hh436 => ?_)
                        have O438 := O402.pIa t412 ar_104100 hh436 rI_104100_0 (iw (il 4) (by decide) (by decide)) nofun
                        refine g_goto C 265 (by decide) dX12_cutAll_149 ?_
                        refine g_aload_n C rfl 0 rfl dX12_cutAll_265 ?_
                        have e439 : Tg h437 a0 = 12 := ((pIT hh436).trans e409)
                        obtain ⟨v440, e441⟩ : ∃ z, Rv h437 a0 6 = z := ⟨_, rfl⟩
                        have t442 := ok_R O438 e439 rE_12_6 e441
                        have l443 := ok_L O438 e439 rE_12_6 e441
                        refine gf_R C fk_LandSurveyModel_30 rfl e439 e441 dX12_cutAll_266 ?_
                        refine g_iload_n C rfl 1 rfl dX12_cutAll_269 ?_
                        refine g_lload C 5 rfl dX12_cutAll_270 ?_
                        refine g_last C t442 rfl l443 (ix f19 (by decide) (by decide)) f334 dX12_cutAll_272 (fun h445 hh444 => ?_)
                        have O446 := O438.pJ hh444 f334
                        have f447 : (1 : Int) ≤ (x11 + 1) ∧ (x11 + 1) ≤ (1501 : Int) := ia_add f19 (il 1) (by decide) (by decide)
                        refine g_iinc C [(1, .inl (x11 + 1)), (0, .inr (.inr a0)), (2, .inl x325), (3, .inl v66), (4, .inl x12), (5, .inr (.inl x326))] 1 rfl (by decide) rfl dX12_cutAll_273 ?_
                        refine g_goto C 17 (by decide) dX12_cutAll_276 ?_
                        refine GW.sub [1, 0, 2] rfl ?_
                        have e448 : Rv h445 a0 4 = v410 := ((pJR hh444).trans ((pIR hh436).trans e411))
                        have e449 : Rv h445 a0 6 = v440 := ((pJR hh444).trans e441)
                        have e450 : Iv h445 v410 x11.toNat = 4 := ((pJI hh444).trans (pI_e hh436))
                        have p451 := (CU_wJ hh444 (by omega) (CU_wI hh436 (by omega) (CU_fx O331 F403 e341 rfl (CU_fx O86 F332 e339 rfl (CU_fx O81 F87 e338 rfl (CU_fx O17 ((Fx.rf (wr := [21020000]) (h := h13)).pIa t77 ar_105100 hh79 rfl) e26 rfl p21))))))
                        have e452 : Iv h445 a0 3 = v1 := ((pJI hh444).trans ((pI_n hh436 (ne_tag e409 t412 (by decide))).trans ((fxI F403 e341 rfl).trans e340)))
                        exact ih15 _ (by omega) (x11 + 1) x325 h445 rfl O446 ((((((F18.pIa t77 ar_105100 hh79 rfl).call F87 rfl).call F332 rfl).call F403 rfl).pIa t412 ar_104100 hh436 rfl).pJa t442 ar_106102 hh444 rfl) (by omega) (iw f388 (by decide) (by decide)) (CU_new (s := 4) (v := x326) (by omega) (by rw [e448]; exact e450) (by rw [e449]; exact (pJ_e hh444)) (by omega) p451) (by omega) (by rw [e452]; omega)
                    · have f453 : (1 : Int) ≤ r398 ∧ r398 ≤ (1 : Int) := r_nl f404 q407
                      refine g_iload_n C rfl 2 rfl dX12_cutAll_90 ?_
                      refine g_iload C 4 rfl dX12_cutAll_91 ?_
                      have f454 : (-1499 : Int) ≤ (x325 - x12) ∧ (x325 - x12) ≤ (1499 : Int) := ia_sub f388 f60 (by decide) (by decide)
                      refine g_isub C dX12_cutAll_93 ?_
                      refine g_bipush C (by decide) dX12_cutAll_94 ?_
                      refine g_icmp_ge C (iw f454 (by decide) (by decide)) (iw (il 8) (by decide) (by decide)) 119 (by decide) dX12_cutAll_96 (fun q455 => ?_) (fun q456 => ?_)
                      · have f457 : (8 : Int) ≤ (x325 - x12) ∧ (x325 - x12) ≤ (1499 : Int) := r_ge f454 (il 8) q455 (by decide) (by decide)
                        refine g_lload C 5 rfl dX12_cutAll_119 ?_
                        refine g_lstore C [(5, .inr (.inl x326)), (0, .inr (.inr a0)), (1, .inl x11), (2, .inl x325), (3, .inl v66), (4, .inl x12)] (by decide) rfl dX12_cutAll_121 ?_
                        have f458 : (1 : Int) ≤ (x325 + 1) ∧ (x325 + 1) ≤ (1500 : Int) := ia_add f388 (il 1) (by decide) (by decide)
                        refine g_iinc C [(2, .inl (x325 + 1)), (5, .inr (.inl x326)), (0, .inr (.inr a0)), (1, .inl x11), (3, .inl v66), (4, .inl x12)] 3 rfl (by decide) rfl dX12_cutAll_123 ?_
                        refine g_goto C 70 (by decide) dX12_cutAll_126 ?_
                        refine GW.sub [2, 3, 0, 4, 5, 1] rfl ?_
                        have e459 : Iv h399 a0 3 = v1 := ((fxI F403 e341 rfl).trans e340)
                        exact ih329 _ (by omega) (x325 + 1) x326 h399 rfl O402 (F332.call F403 rfl) (iw f458 (by decide) (by decide)) f334 (by omega) (by rw [e459]; omega) (fun z => absurd z (by omega))
                      · have f460 : (-1499 : Int) ≤ (x325 - x12) ∧ (x325 - x12) ≤ (7 : Int) := r_lt f454 (il 8) q456 (by decide) (by decide)
                        refine g_ldc2 (z := 37) C kw_1779 (by decide) dX12_cutAll_99 ?_
                        refine g_lload C 5 rfl dX12_cutAll_102 ?_
                        refine g_lmul C dX12_cutAll_104 ?_
                        have f461 : (-9223372036854775808 : Int) ≤ (lM 37 x326) ∧ (lM 37 x326) ≤ (9223372036854775807 : Int) := inL_of _
                        refine g_aload_n C rfl 0 rfl dX12_cutAll_105 ?_
                        have e462 : Tg h399 a0 = 12 := (fxT F403 e341)
                        have e463 : Rv h399 a0 1 = v62 := ((fxR F403 e341 rfl).trans e389)
                        refine gf_R C fk_LandSurveyModel_14 rfl e462 e463 dX12_cutAll_106 ?_
                        refine g_iload_n C rfl 2 rfl dX12_cutAll_109 ?_
                        have e464 : Tg h399 v62 = 101100 := (fxT F403 e390)
                        have e465 : Ln h399 v62 = 1500 := ((fxL F403 e390).trans e393)
                        have e466 : Iv h399 v62 x325.toNat = v394 := ((fxIa F403 e390 ar_101100 rfl).trans e395)
                        refine g_iald C e464 rfl e465 (ix f388 (by decide) (by decide)) e466 dX12_cutAll_110 ?_
                        refine g_callI (st := [.inr (.inl (lM 37 x326))]) (gc_S C lk_LandSurveyModel_303 (k_X12_rank l D cy w z0 O402 (iw f396 (by decide) (by decide))) rfl ⟨by decide, by decide⟩ (Nat.le_of_ble_eq_true rfl) dX12_cutAll_111 ⟨(by decide), (by decide)⟩) (fun r467 h468 f470 K469 => ?_)
                        obtain ⟨O471, F472, f473⟩ := K469
                        refine g_i2l C f473 dX12_cutAll_114 ?_
                        refine g_ladd C dX12_cutAll_115 ?_
                        have f474 : (-9223372036854775808 : Int) ≤ (lA (lM 37 x326) r467) ∧ (lA (lM 37 x326) r467) ≤ (9223372036854775807 : Int) := inL_of _
                        refine g_goto C 121 (by decide) dX12_cutAll_116 ?_
                        refine g_lstore C [(5, .inr (.inl (lA (lM 37 x326) r467))), (0, .inr (.inr a0)), (1, .inl x11), (2, .inl x325), (3, .inl v66), (4, .inl x12)] (by decide) rfl dX12_cutAll_121 ?_
                        have f475 : (1 : Int) ≤ (x325 + 1) ∧ (x325 + 1) ≤ (1500 : Int) := ia_add f388 (il 1) (by decide) (by decide)
                        refine g_iinc C [(2, .inl (x325 + 1)), (5, .inr (.inl (lA (lM 37 x326) r467))), (0, .inr (.inr a0)), (1, .inl x11), (3, .inl v66), (4, .inl x12)] 3 rfl (by decide) rfl dX12_cutAll_123 ?_
                        refine g_goto C 70 (by decide) dX12_cutAll_126 ?_
                        refine GW.sub [2, 3, 0, 4, 5, 1] rfl ?_
                        have e476 : Iv h468 a0 3 = v1 := ((fxI F472 e462 rfl).trans ((fxI F403 e341 rfl).trans e340))
                        exact ih329 _ (by omega) (x325 + 1) (lA (lM 37 x326) r467) h468 rfl O471 ((F332.call F403 rfl).call F472 rfl) (iw f475 (by decide) (by decide)) f474 (by omega) (by rw [e476]; omega) (fun z => absurd z (by omega))
              have e477 : Tg h80 a0 = 12 := ((pIT hh79).trans e26)
              have e478 : Iv h83 a0 3 = v1 := ((fxI F87 e477 rfl).trans ((pI_n hh79 (ne_tag e26 t77 (by decide))).trans e25))
              have e479 : Rv h83 a0 1 = v62 := ((fxR F87 e477 rfl).trans ((pIR hh79).trans e63))
              have e480 : Tg h80 v62 = 101100 := ((pIT hh79).trans t64)
              have e481 : Iv h83 v62 x12.toNat = v66 := ((fxIa F87 e480 ar_101100 rfl).trans ((pI_n hh79 (ne_tag t64 t77 (by decide))).trans e67))
              exact L328 _ x12 0 h83 rfl O86 Fx.rf (iw f60 (by decide) (by decide)) (iw (il 0) (by decide) (by decide)) (by omega) (by rw [e478]; omega) (fun _ => by rw [e479]; exact e481)
          · have f482 : (32 : Int) ≤ v66 ∧ v66 ≤ (32 : Int) := ii f68 (r_eq (il 32) q74) (by decide) (by decide)
            have f483 : (1 : Int) ≤ (x12 + 1) ∧ (x12 + 1) ≤ (1500 : Int) := ia_add f60 (il 1) (by decide) (by decide)
            refine g_iinc C [(2, .inl (x12 + 1)), (3, .inl v66), (0, .inr (.inr a0)), (1, .inl x11)] 3 rfl (by decide) rfl dX12_cutAll_44 ?_
            refine g_goto C 17 (by decide) dX12_cutAll_47 ?_
            refine GW.sub [2, 3, 0] rfl ?_
            exact ih15 _ (by omega) x11 (x12 + 1) h13 rfl O17 F18 f19 (iw f483 (by decide) (by decide)) p21 (by omega) (by rw [e25]; omega)
  have e484 : Iv h9 a0 3 = v1 := ((pI_j hh8 (by decide)).trans (pI_e hh4))
  exact L14 _ 0 0 h9 rfl O10 Fx.rf (iw (il 0) (by decide) (by decide)) (iw (il 0) (by decide) (by decide)) (fun k hk => absurd hk (by omega)) (by omega) (by rw [e484]; omega)
def wr_k_X12_keeps : List Nat := [22220000, 22420000, 22820000, 23020000, 23220200, 23420200, 23820000, 24220000, 24420000, 24620000, 24820000, 25020000, 25220000, 25420000, 25820000, 26020000]
set_option maxRecDepth 100000 in
set_option maxHeartbeats 4000000 in
theorem k_X12_keeps (l : Launch) (D : va_G) (cy : Nat → ClassId) (w : Nat → Nat) (z0 : Nat)  {h : Hp} {a0 : Nat} {a1 : Int}  (O : Okh h) (ta0 : Tg h a0 = 12) (fa1 : 0 ≤ a1 ∧ a1 ≤ 7) (P_kp : BKn h a0 a1 ∧ LA h a0 ∧ DLn h a0 (Iv h (Rv h a0 24) 8)) : MV l D cy w z0 yX12_keeps cX12_keeps 3 none 0 0 0 0 [.inr (.inr a0), .inl a1] h (fun h1 => Okh h1 ∧ Fx wr_k_X12_keeps h h1 ∧ (BKn h1 a0 (a1 + 1) ∧ LA h1 a0)) := by
  refine hm_go (by decide +kernel) (Nat.le_of_ble_eq_true rfl) (fun p e s m below meth c C hr hn => ?_)
  obtain ⟨v1, e2⟩ : ∃ z, Rv h a0 24 = z := ⟨_, rfl⟩
  have t3 := ok_R O ta0 rE_12_24 e2
  have l4 := ok_L O ta0 rE_12_24 e2
  obtain ⟨v5, e6⟩ : ∃ z, Rv h a0 25 = z := ⟨_, rfl⟩
  have t7 := ok_R O ta0 rE_12_25 e6
  have l8 := ok_L O ta0 rE_12_25 e6
  obtain ⟨v9, e10⟩ : ∃ z, Rv h a0 26 = z := ⟨_, rfl⟩
  have t11 := ok_R O ta0 rE_12_26 e10
  have l12 := ok_L O ta0 rE_12_26 e10
  obtain ⟨v13, e14⟩ : ∃ z, Rv h a0 27 = z := ⟨_, rfl⟩
  have t15 := ok_R O ta0 rE_12_27 e14
  have l16 := ok_L O ta0 rE_12_27 e14
  obtain ⟨v17, e18⟩ : ∃ z, Rv h a0 29 = z := ⟨_, rfl⟩
  have t19 := ok_R O ta0 rE_12_29 e18
  have l20 := ok_L O ta0 rE_12_29 e18
  obtain ⟨v21, e22⟩ : ∃ z, Rv h a0 30 = z := ⟨_, rfl⟩
  have t23 := ok_R O ta0 rE_12_30 e22
  have l24 := ok_L O ta0 rE_12_30 e22
  obtain ⟨v25, e26⟩ : ∃ z, Iv h a0 28 = z := ⟨_, rfl⟩
  have f27 := ok_I O ta0 rI_12_28 e26
  obtain ⟨v28, e29⟩ : ∃ z, Iv h v1 ((8 : Int).toNat) = z := ⟨_, rfl⟩
  have f30 := ok_Ia O t3 ar_124100 rI_124100_0 e29
  refine g_aload_n C rfl 0 rfl dX12_keeps_0 ?_
  obtain ⟨v31, e32⟩ : ∃ z, Rv h a0 11 = z := ⟨_, rfl⟩
  have t33 := ok_R O ta0 rE_12_11 e32
  have l34 := ok_L O ta0 rE_12_11 e32
  refine gf_R C fk_LandSurveyModel_97 rfl ta0 e32 dX12_keeps_1 ?_
  refine g_iload_n C rfl 1 rfl dX12_keeps_4 ?_
  refine g_aload_n C rfl 0 rfl dX12_keeps_5 ?_
  obtain ⟨v35, e36⟩ : ∃ z, Iv h a0 33 = z := ⟨_, rfl⟩
  have f37 := ok_I O ta0 rI_12_33 e36
  refine gf_I C fk_LandSurveyModel_342 rfl ta0 e36 dX12_keeps_6 ?_
  refine g_iast C t33 rfl l34 (ix fa1 (by decide) (by decide)) (iw f37 (by decide) (by decide)) dX12_keeps_9 (fun h39 hh38 => ?_)
  have O40 := O.pIa t33 ar_111100 hh38 rI_111100_0 f37 nofun
  refine g_aload_n C rfl 0 rfl dX12_keeps_10 ?_
  have e41 : Tg h39 a0 = 12 := ((pIT hh38).trans ta0)
  obtain ⟨v42, e43⟩ : ∃ z, Rv h39 a0 12 = z := ⟨_, rfl⟩
  have t44 := ok_R O40 e41 rE_12_12 e43
  have l45 := ok_L O40 e41 rE_12_12 e43
  refine gf_R C fk_LandSurveyModel_100 rfl e41 e43 dX12_keeps_11 ?_
  refine g_iload_n C rfl 1 rfl dX12_keeps_14 ?_
  refine g_aload_n C rfl 0 rfl dX12_keeps_15 ?_
  refine gf_R C fk_LandSurveyModel_100 rfl e41 e43 dX12_keeps_16 ?_
  refine g_bipush C (by decide) dX12_keeps_19 ?_
  obtain ⟨v46, e47⟩ : ∃ z, Iv h39 v42 ((8 : Int).toNat) = z := ⟨_, rfl⟩
  have f48 := ok_Ia O40 t44 ar_112100 rI_112100_0 e47
  refine g_iald C t44 rfl l45 (ix (il 8) (by decide) (by decide)) e47 dX12_keeps_21 ?_
  refine g_iast C t44 rfl l45 (ix fa1 (by decide) (by decide)) (iw f48 (by decide) (by decide)) dX12_keeps_22 (fun h50 hh49 => ?_)
  have O51 := O40.pIa t44 ar_112100 hh49 rI_112100_0 f48 nofun
  refine g_aload_n C rfl 0 rfl dX12_keeps_23 ?_
  have e52 : Tg h50 a0 = 12 := ((pIT hh49).trans e41)
  obtain ⟨v53, e54⟩ : ∃ z, Rv h50 a0 19 = z := ⟨_, rfl⟩
  have t55 := ok_R O51 e52 rE_12_19 e54
  have l56 := ok_L O51 e52 rE_12_19 e54
  refine gf_R C fk_LandSurveyModel_122 rfl e52 e54 dX12_keeps_24 ?_
  refine g_iload_n C rfl 1 rfl dX12_keeps_27 ?_
  refine g_aload_n C rfl 0 rfl dX12_keeps_28 ?_
  refine gf_R C fk_LandSurveyModel_122 rfl e52 e54 dX12_keeps_29 ?_
  refine g_bipush C (by decide) dX12_keeps_32 ?_
  obtain ⟨v57, e58⟩ : ∃ z, Iv h50 v53 ((8 : Int).toNat) = z := ⟨_, rfl⟩
  have f59 := ok_Ia O51 t55 ar_119100 rI_119100_0 e58
  refine g_iald C t55 rfl l56 (ix (il 8) (by decide) (by decide)) e58 dX12_keeps_34 ?_
  refine g_iast C t55 rfl l56 (ix fa1 (by decide) (by decide)) (iw f59 (by decide) (by decide)) dX12_keeps_35 (fun h61 hh60 => ?_)
  have O62 := O51.pIa t55 ar_119100 hh60 rI_119100_0 f59 nofun
  refine g_aload_n C rfl 0 rfl dX12_keeps_36 ?_
  have e63 : Tg h61 a0 = 12 := ((pIT hh60).trans e52)
  obtain ⟨v64, e65⟩ : ∃ z, Rv h61 a0 21 = z := ⟨_, rfl⟩
  have t66 := ok_R O62 e63 rE_12_21 e65
  have l67 := ok_L O62 e63 rE_12_21 e65
  refine gf_R C fk_LandSurveyModel_128 rfl e63 e65 dX12_keeps_37 ?_
  refine g_iload_n C rfl 1 rfl dX12_keeps_40 ?_
  refine g_aload_n C rfl 0 rfl dX12_keeps_41 ?_
  refine gf_R C fk_LandSurveyModel_128 rfl e63 e65 dX12_keeps_42 ?_
  refine g_bipush C (by decide) dX12_keeps_45 ?_
  obtain ⟨v68, e69⟩ : ∃ z, Iv h61 v64 ((8 : Int).toNat) = z := ⟨_, rfl⟩
  have f70 := ok_Ia O62 t66 ar_121100 rI_121100_0 e69
  refine g_iald C t66 rfl l67 (ix (il 8) (by decide) (by decide)) e69 dX12_keeps_47 ?_
  refine g_iast C t66 rfl l67 (ix fa1 (by decide) (by decide)) (iw f70 (by decide) (by decide)) dX12_keeps_48 (fun h72 hh71 => ?_)
  have O73 := O62.pIa t66 ar_121100 hh71 rI_121100_0 f70 nofun
  refine g_aload_n C rfl 0 rfl dX12_keeps_49 ?_
  have e74 : Tg h72 a0 = 12 := ((pIT hh71).trans e63)
  have e75 : Rv h72 a0 24 = v1 := ((pIR hh71).trans ((pIR hh60).trans ((pIR hh49).trans ((pIR hh38).trans e2))))
  refine gf_R C fk_LandSurveyModel_137 rfl e74 e75 dX12_keeps_50 ?_
  refine g_iload_n C rfl 1 rfl dX12_keeps_53 ?_
  refine g_aload_n C rfl 0 rfl dX12_keeps_54 ?_
  refine gf_R C fk_LandSurveyModel_137 rfl e74 e75 dX12_keeps_55 ?_
  refine g_bipush C (by decide) dX12_keeps_58 ?_
  have e76 : Tg h72 v1 = 124100 := ((pIT hh71).trans ((pIT hh60).trans ((pIT hh49).trans ((pIT hh38).trans t3))))
  have e77 : Ln h72 v1 = 9 := ((pIL hh71).trans ((pIL hh60).trans ((pIL hh49).trans ((pIL hh38).trans l4))))
  have e78 : Tg h39 v1 = 124100 := ((pIT hh38).trans t3)
  have e79 : Tg h50 v1 = 124100 := ((pIT hh49).trans e78)
  have e80 : Tg h61 v1 = 124100 := ((pIT hh60).trans e79)
  have e81 : Iv h72 v1 ((8 : Int).toNat) = v28 := ((pI_n hh71 (ne_tag e80 t66 (by decide))).trans ((pI_n hh60 (ne_tag e79 t55 (by decide))).trans ((pI_n hh49 (ne_tag e78 t44 (by decide))).trans ((pI_n hh38 (ne_tag t3 t33 (by decide))).trans e29))))
  refine g_iald C e76 rfl e77 (ix (il 8) (by decide) (by decide)) e81 dX12_keeps_60 ?_
  refine g_iast C e76 rfl e77 (ix fa1 (by decide) (by decide)) (iw f30 (by decide) (by decide)) dX12_keeps_61 (fun h83 hh82 => ?_)
  have O84 := O73.pIa e76 ar_124100 hh82 rI_124100_0 f30 nofun
  refine g_iconst C dX12_keeps_62 ?_
  refine g_istore_n C [(2, .inl 0), (0, .inr (.inr a0)), (1, .inl a1)] rfl (by decide) rfl dX12_keeps_63 ?_
  refine GW.sub [1, 2, 0] rfl ?_
  -- loop at 64
  have L87 : ∀ (μ : Nat) (x85 : Int) (h86 : Hp), (10 - x85).toNat = μ → Okh h86 → Fx [22820000, 23020000, 23220200, 23420200, 24420000, 24620000] h83 h86 → ((0 : Int) ≤ x85 ∧ x85 ≤ (10 : Int)) → GW p l e (rmm 0 0 0 0) s m (List.map toV [.inr (.inr a0), .inl a1]).toArray below meth c D cy z0 3 (MQ below (QV D cy z0 (fun h1 => Okh h1 ∧ Fx wr_k_X12_keeps h h1 ∧ (BKn h1 a0 (a1 + 1) ∧ LA h1 a0))) (List.map toV [.inr (.inr a0), .inl a1]).toArray s 0 0 (Aof z0)) 64 [(0, .inr (.inr a0)), (1, .inl a1), (2, .inl x85)] [] h86 0 0 := by
    intro μ
    induction μ using Nat.strongRecOn with
    | ind μ ih88 =>
      intro x85 h86 hm89 O90 F91 f92
      refine g_iload_n C rfl 2 rfl dX12_keeps_64 ?_
      refine g_bipush C (by decide) dX12_keeps_65 ?_
      refine g_icmp_ge C (iw f92 (by decide) (by decide)) (iw (il 10) (by decide) (by decide)) 196 (by decide) dX12_keeps_67 (fun q93 => ?_) (fun q94 => ?_)
      · have f95 : (10 : Int) ≤ x85 ∧ x85 ≤ (10 : Int) := r_ge f92 (il 10) q93 (by decide) (by decide)
        refine g_iconst C dX12_keeps_196 ?_
        refine g_istore_n C [(2, .inl 0), (0, .inr (.inr a0)), (1, .inl a1)] rfl (by decide) rfl dX12_keeps_197 ?_
        refine GW.sub [1, 2, 0] rfl ?_
        -- loop at 198
        have L98 : ∀ (μ : Nat) (x96 : Int) (h97 : Hp), (24 - x96).toNat = μ → Okh h97 → Fx [25020000, 25220000, 25420000] h86 h97 → ((0 : Int) ≤ x96 ∧ x96 ≤ (24 : Int)) → (CP h h97 a0 a1 x96) → GW p l e (rmm 0 0 0 0) s m (List.map toV [.inr (.inr a0), .inl a1]).toArray below meth c D cy z0 3 (MQ below (QV D cy z0 (fun h1 => Okh h1 ∧ Fx wr_k_X12_keeps h h1 ∧ (BKn h1 a0 (a1 + 1) ∧ LA h1 a0))) (List.map toV [.inr (.inr a0), .inl a1]).toArray s 0 0 (Aof z0)) 198 [(0, .inr (.inr a0)), (1, .inl a1), (2, .inl x96)] [] h97 0 0 := by
          intro μ
          induction μ using Nat.strongRecOn with
          | ind μ ih99 =>
            intro x96 h97 hm100 O101 F102 f103 p104
            have e105 : Tg h83 a0 = 12 := ((pIT hh82).trans e74)
            have e106 : Tg h86 a0 = 12 := (fxT F91 e105)
            have e107 : Rv h97 a0 25 = v5 := ((fxR F102 e106 rfl).trans ((fxR F91 e105 rfl).trans ((pIR hh82).trans ((pIR hh71).trans ((pIR hh60).trans ((pIR hh49).trans ((pIR hh38).trans e6)))))))
            obtain ⟨v108, e109⟩ : ∃ z, Iv h97 v5 ((192 + x96).toNat) = z := ⟨_, rfl⟩
            have e110 : Tg h97 v5 = 125100 := (fxT F102 (fxT F91 ((pIT hh82).trans ((pIT hh71).trans ((pIT hh60).trans ((pIT hh49).trans ((pIT hh38).trans t7)))))))
            have f111 := ok_Ia O101 e110 ar_125100 rI_125100_0 e109
            have e112 : Rv h97 a0 26 = v9 := ((fxR F102 e106 rfl).trans ((fxR F91 e105 rfl).trans ((pIR hh82).trans ((pIR hh71).trans ((pIR hh60).trans ((pIR hh49).trans ((pIR hh38).trans e10)))))))
            obtain ⟨v113, e114⟩ : ∃ z, Iv h97 v9 ((192 + x96).toNat) = z := ⟨_, rfl⟩
            have e115 : Tg h97 v9 = 126100 := (fxT F102 (fxT F91 ((pIT hh82).trans ((pIT hh71).trans ((pIT hh60).trans ((pIT hh49).trans ((pIT hh38).trans t11)))))))
            have f116 := ok_Ia O101 e115 ar_126100 rI_126100_0 e114
            have e117 : Rv h97 a0 27 = v13 := ((fxR F102 e106 rfl).trans ((fxR F91 e105 rfl).trans ((pIR hh82).trans ((pIR hh71).trans ((pIR hh60).trans ((pIR hh49).trans ((pIR hh38).trans e14)))))))
            obtain ⟨v118, e119⟩ : ∃ z, Iv h97 v13 ((192 + x96).toNat) = z := ⟨_, rfl⟩
            have e120 : Tg h97 v13 = 127100 := (fxT F102 (fxT F91 ((pIT hh82).trans ((pIT hh71).trans ((pIT hh60).trans ((pIT hh49).trans ((pIT hh38).trans t15)))))))
            have f121 := ok_Ia O101 e120 ar_127100 rI_127100_0 e119
            have q122 := (p104 27 (Or.inr (Or.inr rfl)) (192 + x96).toNat).1 (Or.inr (by omega))
            rw [e117, e119] at q122
            have q123 := P_kp.2.1 (192 + x96).toNat (by omega)
            rw [← q122] at q123
            refine g_iload_n C rfl 2 rfl dX12_keeps_198 ?_
            refine g_bipush C (by decide) dX12_keeps_199 ?_
            refine g_icmp_ge C (iw f103 (by decide) (by decide)) (iw (il 24) (by decide) (by decide)) 283 (by decide) dX12_keeps_201 (fun q124 => ?_) (fun q125 => ?_)
            · have f126 : (24 : Int) ≤ x96 ∧ x96 ≤ (24 : Int) := r_ge f103 (il 24) q124 (by decide) (by decide)
              refine g_iconst C dX12_keeps_283 ?_
              refine g_istore_n C [(2, .inl 0), (0, .inr (.inr a0)), (1, .inl a1)] rfl (by decide) rfl dX12_keeps_284 ?_
              refine GW.sub [1, 2, 0] rfl ?_
              -- loop at 285
              have L129 : ∀ (μ : Nat) (x127 : Int) (h128 : Hp), (1600 - x127).toNat = μ → Okh h128 → Fx [25820000, 26020000] h97 h128 → ((0 : Int) ≤ x127 ∧ x127 ≤ (1600 : Int)) → (CO h h128 a0 a1 x127) → (x127 ≤ Iv h a0 28) → GW p l e (rmm 0 0 0 0) s m (List.map toV [.inr (.inr a0), .inl a1]).toArray below meth c D cy z0 3 (MQ below (QV D cy z0 (fun h1 => Okh h1 ∧ Fx wr_k_X12_keeps h h1 ∧ (BKn h1 a0 (a1 + 1) ∧ LA h1 a0))) (List.map toV [.inr (.inr a0), .inl a1]).toArray s 0 0 (Aof z0)) 285 [(0, .inr (.inr a0)), (1, .inl a1), (2, .inl x127)] [] h128 0 0 := by
                intro μ
                induction μ using Nat.strongRecOn with
                | ind μ ih130 =>
                  intro x127 h128 hm131 O132 F133 f134 p135 p136
                  have hcl := p136; rw [e26] at hcl
                  have e137 : Tg h97 a0 = 12 := (fxT F102 e106)
                  have e138 : Rv h128 a0 29 = v17 := ((fxR F133 e137 rfl).trans ((fxR F102 e106 rfl).trans ((fxR F91 e105 rfl).trans ((pIR hh82).trans ((pIR hh71).trans ((pIR hh60).trans ((pIR hh49).trans ((pIR hh38).trans e18))))))))
                  obtain ⟨v139, e140⟩ : ∃ z, Iv h128 v17 ((12800 + x127).toNat) = z := ⟨_, rfl⟩
                  have e141 : Tg h128 v17 = 129100 := (fxT F133 (fxT F102 (fxT F91 ((pIT hh82).trans ((pIT hh71).trans ((pIT hh60).trans ((pIT hh49).trans ((pIT hh38).trans t19))))))))
                  have f142 := ok_Ia O132 e141 ar_129100 rI_129100_0 e140
                  have e143 : Rv h128 a0 30 = v21 := ((fxR F133 e137 rfl).trans ((fxR F102 e106 rfl).trans ((fxR F91 e105 rfl).trans ((pIR hh82).trans ((pIR hh71).trans ((pIR hh60).trans ((pIR hh49).trans ((pIR hh38).trans e22))))))))
                  obtain ⟨v144, e145⟩ : ∃ z, Iv h128 v21 ((12800 + x127).toNat) = z := ⟨_, rfl⟩
                  have e146 : Tg h128 v21 = 130100 := (fxT F133 (fxT F102 (fxT F91 ((pIT hh82).trans ((pIT hh71).trans ((pIT hh60).trans ((pIT hh49).trans ((pIT hh38).trans t23))))))))
                  have f147 := ok_Ia O132 e146 ar_130100 rI_130100_0 e145
                  refine g_iload_n C rfl 2 rfl dX12_keeps_285 ?_
                  refine g_aload_n C rfl 0 rfl dX12_keeps_286 ?_
                  have e148 : Tg h128 a0 = 12 := (fxT F133 e137)
                  have e149 : Iv h128 a0 28 = v25 := ((fxI F133 e137 rfl).trans ((fxI F102 e106 rfl).trans ((fxI F91 e105 rfl).trans ((pI_n hh82 (ne_tag e74 e76 (by decide))).trans ((pI_n hh71 (ne_tag e63 t66 (by decide))).trans ((pI_n hh60 (ne_tag e52 t55 (by decide))).trans ((pI_n hh49 (ne_tag e41 t44 (by decide))).trans ((pI_n hh38 (ne_tag ta0 t33 (by decide))).trans e26))))))))
                  refine gf_I C fk_LandSurveyModel_336 rfl e148 e149 dX12_keeps_287 ?_
                  refine g_icmp_ge C (iw f134 (by decide) (by decide)) (iw f27 (by decide) (by decide)) 343 (by decide) dX12_keeps_290 (fun q150 => ?_) (fun q151 => ?_)
                  · have p152 := (CP_fx O101 F133 e137 rfl p104)
                    have e153 : Rv h128 a0 24 = v1 := ((fxR F133 e137 rfl).trans ((fxR F102 e106 rfl).trans ((fxR F91 e105 rfl).trans ((pIR hh82).trans e75))))
                    have e154 : Tg h83 v1 = 124100 := ((pIT hh82).trans e76)
                    have e155 : Tg h86 v1 = 124100 := (fxT F91 e154)
                    have e156 : Tg h97 v1 = 124100 := (fxT F102 e155)
                    have e157 : Iv h128 v1 a1.toNat = v28 := ((fxIa F133 e156 ar_124100 rfl).trans ((fxIa F102 e155 ar_124100 rfl).trans ((fxIa F91 e154 ar_124100 rfl).trans (pI_e hh82))))
                    have E158 : Iv h128 (Rv h128 a0 24) = Iv h83 (Rv h83 a0 24) := mAI (j := 24) O84 ((((Fx.rf (wr := [22820000, 23020000, 23220200, 23420200, 24420000, 24620000, 25020000, 25220000, 25420000, 25820000, 26020000]) (h := h83)).call F91 rfl).call F102 rfl).call F133 rfl) e105 rE_12_24 ar_124100 rfl rfl
                    have E159 : Iv h72 (Rv h72 a0 24) = Iv h (Rv h a0 24) := mAI (j := 24) O (((((Fx.rf (wr := [22220000, 22420000, 23820000, 24220000]) (h := h)).pIa t33 ar_111100 hh38 rfl).pIa t44 ar_112100 hh49 rfl).pIa t55 ar_119100 hh60 rfl).pIa t66 ar_121100 hh71 rfl) ta0 rE_12_24 ar_124100 rfl rfl
                    exact g_vret C hr ⟨O132, (((((((((Fx.rf (wr := wr_k_X12_keeps)).pIa t33 ar_111100 hh38 rfl).pIa t44 ar_112100 hh49 rfl).pIa t55 ar_119100 hh60 rfl).pIa t66 ar_121100 hh71 rfl).pIa e76 ar_124100 hh82 rfl).call F91 rfl).call F102 rfl).call F133 rfl), (kept_new (n := v25) (by omega) O ta0 e26 (by omega) (by rw [show (24 : Int) = x96 by omega]; exact p152) (by rw [show v25 = x127 by omega]; exact p135) (by rw [e153, e157, e2]; exact (Eq.symm e29)) (fun j hj => by rw [E158, pIR hh82, pI_j hh82 (by omega), E159]) P_kp.1 P_kp.2.1 P_kp.2.2)⟩ (by decide) (by decide) dX12_keeps_343
                  · have f160 : (0 : Int) ≤ x127 ∧ x127 ≤ (1599 : Int) := r_lt f134 f27 q151 (by decide) (by decide)
                    have f161 : (1 : Int) ≤ v25 ∧ v25 ≤ (1600 : Int) := r_gt f27 f134 q151 (by decide) (by decide)
                    refine g_aload_n C rfl 0 rfl dX12_keeps_293 ?_
                    refine gf_R C fk_LandSurveyModel_149 rfl e148 e138 dX12_keeps_294 ?_
                    refine g_sipush C (by decide) dX12_keeps_297 ?_
                    refine g_iload_n C rfl 1 rfl dX12_keeps_300 ?_
                    have f162 : (0 : Int) ≤ (1600 * a1) ∧ (1600 * a1) ≤ (11200 : Int) := ia_mul (by decide) fa1 (by decide) (by decide)
                    refine g_imul C dX12_keeps_301 ?_
                    refine g_iload_n C rfl 2 rfl dX12_keeps_302 ?_
                    have f163 : (0 : Int) ≤ ((1600 * a1) + x127) ∧ ((1600 * a1) + x127) ≤ (12799 : Int) := ia_add f162 f160 (by decide) (by decide)
                    refine g_iadd C dX12_keeps_303 ?_
                    refine g_aload_n C rfl 0 rfl dX12_keeps_304 ?_
                    refine gf_R C fk_LandSurveyModel_149 rfl e148 e138 dX12_keeps_305 ?_
                    refine g_sipush C (by decide) dX12_keeps_308 ?_
                    refine g_iload_n C rfl 2 rfl dX12_keeps_311 ?_
                    have f164 : (12800 : Int) ≤ (12800 + x127) ∧ (12800 + x127) ≤ (14399 : Int) := ia_add (il 12800) f160 (by decide) (by decide)
                    refine g_iadd C dX12_keeps_312 ?_
                    have e165 : Tg h83 v17 = 129100 := ((pIT hh82).trans ((pIT hh71).trans ((pIT hh60).trans ((pIT hh49).trans ((pIT hh38).trans t19)))))
                    have e166 : Tg h86 v17 = 129100 := (fxT F91 e165)
                    have e167 : Tg h97 v17 = 129100 := (fxT F102 e166)
                    have e168 : Ln h128 v17 = 14400 := ((fxL F133 e167).trans ((fxL F102 e166).trans ((fxL F91 e165).trans ((pIL hh82).trans ((pIL hh71).trans ((pIL hh60).trans ((pIL hh49).trans ((pIL hh38).trans l20))))))))
                    refine g_iald C e141 rfl e168 (ix f164 (by decide) (by decide)) e140 dX12_keeps_313 ?_
                    refine g_iast C e141 rfl e168 (ix f163 (by decide) (by decide)) (iw f142 (by decide) (by decide)) dX12_keeps_314 (fun h170 hh169 => ?_)
                    have O171 := O132.pIa e141 ar_129100 hh169 rI_129100_0 f142 nofun
                    refine g_aload_n C rfl 0 rfl dX12_keeps_315 ?_
                    have e172 : Tg h170 a0 = 12 := ((pIT hh169).trans e148)
                    have e173 : Rv h170 a0 30 = v21 := ((pIR hh169).trans e143)
                    refine gf_R C fk_LandSurveyModel_152 rfl e172 e173 dX12_keeps_316 ?_
                    refine g_sipush C (by decide) dX12_keeps_319 ?_
                    refine g_iload_n C rfl 1 rfl dX12_keeps_322 ?_
                    refine g_imul C dX12_keeps_323 ?_
                    refine g_iload_n C rfl 2 rfl dX12_keeps_324 ?_
                    refine g_iadd C dX12_keeps_325 ?_
                    refine g_aload_n C rfl 0 rfl dX12_keeps_326 ?_
                    refine gf_R C fk_LandSurveyModel_152 rfl e172 e173 dX12_keeps_327 ?_
                    refine g_sipush C (by decide) dX12_keeps_330 ?_
                    refine g_iload_n C rfl 2 rfl dX12_keeps_333 ?_
                    refine g_iadd C dX12_keeps_334 ?_
                    have e174 : Tg h170 v21 = 130100 := ((pIT hh169).trans e146)
                    have e175 : Tg h83 v21 = 130100 := ((pIT hh82).trans ((pIT hh71).trans ((pIT hh60).trans ((pIT hh49).trans ((pIT hh38).trans t23)))))
                    have e176 : Tg h86 v21 = 130100 := (fxT F91 e175)
                    have e177 : Tg h97 v21 = 130100 := (fxT F102 e176)
                    have e178 : Ln h170 v21 = 14400 := ((pIL hh169).trans ((fxL F133 e177).trans ((fxL F102 e176).trans ((fxL F91 e175).trans ((pIL hh82).trans ((pIL hh71).trans ((pIL hh60).trans ((pIL hh49).trans ((pIL hh38).trans l24)))))))))
                    have e179 : Iv h170 v21 ((12800 + x127).toNat) = v144 := ((pI_n hh169 (ne_tag e146 e141 (by decide))).trans e145)
                    refine g_iald C e174 rfl e178 (ix f164 (by decide) (by decide)) e179 dX12_keeps_335 ?_
                    refine g_iast C e174 rfl e178 (ix f163 (by decide) (by decide)) f147 dX12_keeps_336 (fun h181 hh180 => ?_)
                    have O182 := O171.pIa e174 ar_130100 hh180 rI_130100_0 f147 nofun
                    have f183 : (1 : Int) ≤ (x127 + 1) ∧ (x127 + 1) ≤ (1600 : Int) := ia_add f160 (il 1) (by decide) (by decide)
                    refine g_iinc C [(2, .inl (x127 + 1)), (0, .inr (.inr a0)), (1, .inl a1)] 2 rfl (by decide) rfl dX12_keeps_337 ?_
                    refine g_goto C 285 (by decide) dX12_keeps_340 ?_
                    refine GW.sub [1, 2, 0] rfl ?_
                    exact ih130 _ (by omega) (x127 + 1) h181 rfl O182 ((F133.pIa e141 ar_129100 hh169 rfl).pIa e174 ar_130100 hh180 rfl) (iw f183 (by decide) (by decide)) (CO.step (k := x127) O132 e148 (by omega) (by omega) e138 e143 _ _ (by omega) (by omega) hh169 hh180 e140 e145 p135) (by rw [e26]; omega)
              have E184 : Iv h97 (Rv h97 a0 29) = Iv h (Rv h a0 29) := mAI (j := 29) O ((((((((Fx.rf (wr := [22220000, 22420000, 22820000, 23020000, 23220200, 23420200, 23820000, 24220000, 24420000, 24620000, 24820000, 25020000, 25220000, 25420000]) (h := h)).pIa t33 ar_111100 hh38 rfl).pIa t44 ar_112100 hh49 rfl).pIa t55 ar_119100 hh60 rfl).pIa t66 ar_121100 hh71 rfl).pIa e76 ar_124100 hh82 rfl).call F91 rfl).call F102 rfl) ta0 rE_12_29 ar_129100 rfl rfl
              have E185 : Iv h97 (Rv h97 a0 30) = Iv h (Rv h a0 30) := mAI (j := 30) O ((((((((Fx.rf (wr := [22220000, 22420000, 22820000, 23020000, 23220200, 23420200, 23820000, 24220000, 24420000, 24620000, 24820000, 25020000, 25220000, 25420000]) (h := h)).pIa t33 ar_111100 hh38 rfl).pIa t44 ar_112100 hh49 rfl).pIa t55 ar_119100 hh60 rfl).pIa t66 ar_121100 hh71 rfl).pIa e76 ar_124100 hh82 rfl).call F91 rfl).call F102 rfl) ta0 rE_12_30 ar_130100 rfl rfl
              exact L129 _ 0 h97 rfl O101 Fx.rf (iw (il 0) (by decide) (by decide)) (CO.start E184 E185) (by rw [e26]; omega)
            · have f186 : (0 : Int) ≤ x96 ∧ x96 ≤ (23 : Int) := r_lt f103 (il 24) q125 (by decide) (by decide)
              refine g_aload_n C rfl 0 rfl dX12_keeps_204 ?_
              have e187 : Tg h97 a0 = 12 := (fxT F102 e106)
              refine gf_R C fk_LandSurveyModel_140 rfl e187 e107 dX12_keeps_205 ?_
              refine g_bipush C (by decide) dX12_keeps_208 ?_
              refine g_iload_n C rfl 1 rfl dX12_keeps_210 ?_
              have f188 : (0 : Int) ≤ (24 * a1) ∧ (24 * a1) ≤ (168 : Int) := ia_mul (by decide) fa1 (by decide) (by decide)
              refine g_imul C dX12_keeps_211 ?_
              refine g_iload_n C rfl 2 rfl dX12_keeps_212 ?_
              have f189 : (0 : Int) ≤ ((24 * a1) + x96) ∧ ((24 * a1) + x96) ≤ (191 : Int) := ia_add f188 f186 (by decide) (by decide)
              refine g_iadd C dX12_keeps_213 ?_
              refine g_aload_n C rfl 0 rfl dX12_keeps_214 ?_
              refine gf_R C fk_LandSurveyModel_140 rfl e187 e107 dX12_keeps_215 ?_
              refine g_sipush C (by decide) dX12_keeps_218 ?_
              refine g_iload_n C rfl 2 rfl dX12_keeps_221 ?_
              have f190 : (192 : Int) ≤ (192 + x96) ∧ (192 + x96) ≤ (215 : Int) := ia_add (il 192) f186 (by decide) (by decide)
              refine g_iadd C dX12_keeps_222 ?_
              have e191 : Tg h83 v5 = 125100 := ((pIT hh82).trans ((pIT hh71).trans ((pIT hh60).trans ((pIT hh49).trans ((pIT hh38).trans t7)))))
              have e192 : Tg h86 v5 = 125100 := (fxT F91 e191)
              have e193 : Ln h97 v5 = 216 := ((fxL F102 e192).trans ((fxL F91 e191).trans ((pIL hh82).trans ((pIL hh71).trans ((pIL hh60).trans ((pIL hh49).trans ((pIL hh38).trans l8)))))))
              refine g_iald C e110 rfl e193 (ix f190 (by decide) (by decide)) e109 dX12_keeps_223 ?_
              refine g_iast C e110 rfl e193 (ix f189 (by decide) (by decide)) (iw f111 (by decide) (by decide)) dX12_keeps_224 (fun h195 hh194 => ?_)
              have O196 := O101.pIa e110 ar_125100 hh194 rI_125100_0 f111 nofun
              refine g_aload_n C rfl 0 rfl dX12_keeps_225 ?_
              have e197 : Tg h195 a0 = 12 := ((pIT hh194).trans e187)
              have e198 : Rv h195 a0 26 = v9 := ((pIR hh194).trans e112)
              refine gf_R C fk_LandSurveyModel_143 rfl e197 e198 dX12_keeps_226 ?_
              refine g_bipush C (by decide) dX12_keeps_229 ?_
              refine g_iload_n C rfl 1 rfl dX12_keeps_231 ?_
              refine g_imul C dX12_keeps_232 ?_
              refine g_iload_n C rfl 2 rfl dX12_keeps_233 ?_
              refine g_iadd C dX12_keeps_234 ?_
              refine g_aload_n C rfl 0 rfl dX12_keeps_235 ?_
              refine gf_R C fk_LandSurveyModel_143 rfl e197 e198 dX12_keeps_236 ?_
              refine g_sipush C (by decide) dX12_keeps_239 ?_
              refine g_iload_n C rfl 2 rfl dX12_keeps_242 ?_
              refine g_iadd C dX12_keeps_243 ?_
              have e199 : Tg h195 v9 = 126100 := ((pIT hh194).trans e115)
              have e200 : Tg h83 v9 = 126100 := ((pIT hh82).trans ((pIT hh71).trans ((pIT hh60).trans ((pIT hh49).trans ((pIT hh38).trans t11)))))
              have e201 : Tg h86 v9 = 126100 := (fxT F91 e200)
              have e202 : Ln h195 v9 = 216 := ((pIL hh194).trans ((fxL F102 e201).trans ((fxL F91 e200).trans ((pIL hh82).trans ((pIL hh71).trans ((pIL hh60).trans ((pIL hh49).trans ((pIL hh38).trans l12))))))))
              have e203 : Iv h195 v9 ((192 + x96).toNat) = v113 := ((pI_n hh194 (ne_tag e115 e110 (by decide))).trans e114)
              refine g_iald C e199 rfl e202 (ix f190 (by decide) (by decide)) e203 dX12_keeps_244 ?_
              refine g_iast C e199 rfl e202 (ix f189 (by decide) (by decide)) (iw f116 (by decide) (by decide)) dX12_keeps_245 (fun h205 hh204 => ?_)
              have O206 := O196.pIa e199 ar_126100 hh204 rI_126100_0 f116 nofun
              refine g_aload_n C rfl 0 rfl dX12_keeps_246 ?_
              have e207 : Tg h205 a0 = 12 := ((pIT hh204).trans e197)
              have e208 : Rv h205 a0 27 = v13 := ((pIR hh204).trans ((pIR hh194).trans e117))
              refine gf_R C fk_LandSurveyModel_146 rfl e207 e208 dX12_keeps_247 ?_
              refine g_bipush C (by decide) dX12_keeps_250 ?_
              refine g_iload_n C rfl 1 rfl dX12_keeps_252 ?_
              refine g_imul C dX12_keeps_253 ?_
              refine g_iload_n C rfl 2 rfl dX12_keeps_254 ?_
              refine g_iadd C dX12_keeps_255 ?_
              refine g_aload_n C rfl 0 rfl dX12_keeps_256 ?_
              refine gf_R C fk_LandSurveyModel_146 rfl e207 e208 dX12_keeps_257 ?_
              refine g_sipush C (by decide) dX12_keeps_260 ?_
              refine g_iload_n C rfl 2 rfl dX12_keeps_263 ?_
              refine g_iadd C dX12_keeps_264 ?_
              have e209 : Tg h205 v13 = 127100 := ((pIT hh204).trans ((pIT hh194).trans e120))
              have e210 : Tg h83 v13 = 127100 := ((pIT hh82).trans ((pIT hh71).trans ((pIT hh60).trans ((pIT hh49).trans ((pIT hh38).trans t15)))))
              have e211 : Tg h86 v13 = 127100 := (fxT F91 e210)
              have e212 : Ln h205 v13 = 216 := ((pIL hh204).trans ((pIL hh194).trans ((fxL F102 e211).trans ((fxL F91 e210).trans ((pIL hh82).trans ((pIL hh71).trans ((pIL hh60).trans ((pIL hh49).trans ((pIL hh38).trans l16)))))))))
              have e213 : Tg h195 v13 = 127100 := ((pIT hh194).trans e120)
              have e214 : Iv h205 v13 ((192 + x96).toNat) = v118 := ((pI_n hh204 (ne_tag e213 e199 (by decide))).trans ((pI_n hh194 (ne_tag e120 e110 (by decide))).trans e119))
              refine g_iald C e209 rfl e212 (ix f190 (by decide) (by decide)) e214 dX12_keeps_265 ?_
              refine g_sipush C (by decide) dX12_keeps_266 ?_
              have f215 : (-25600 : Int) ≤ (v118 - 12800) ∧ (v118 - 12800) ≤ (1600 : Int) := ia_sub f121 (il 12800) (by decide) (by decide)
              refine g_isub C dX12_keeps_269 ?_
              refine g_sipush C (by decide) dX12_keeps_270 ?_
              refine g_iload_n C rfl 1 rfl dX12_keeps_273 ?_
              have f216 : (0 : Int) ≤ (1600 * a1) ∧ (1600 * a1) ≤ (11200 : Int) := ia_mul (by decide) fa1 (by decide) (by decide)
              refine g_imul C dX12_keeps_274 ?_
              have f217 : (-25600 : Int) ≤ ((v118 - 12800) + (1600 * a1)) ∧ ((v118 - 12800) + (1600 * a1)) ≤ (12800 : Int) := ia_add f215 f216 (by decide) (by decide)
              refine g_iadd C dX12_keeps_275 ?_
              refine g_iast C e209 rfl e212 (ix f189 (by decide) (by decide)) (iw f217 (by decide) (by decide)) dX12_keeps_276 (fun h219 hh218 => ?_)
              have O220 := O206.pIa e209 ar_127100 hh218 rI_127100_0 (by omega) nofun
              have f221 : (1 : Int) ≤ (x96 + 1) ∧ (x96 + 1) ≤ (24 : Int) := ia_add f186 (il 1) (by decide) (by decide)
              refine g_iinc C [(2, .inl (x96 + 1)), (0, .inr (.inr a0)), (1, .inl a1)] 2 rfl (by decide) rfl dX12_keeps_277 ?_
              refine g_goto C 198 (by decide) dX12_keeps_280 ?_
              refine GW.sub [1, 2, 0] rfl ?_
              exact ih99 _ (by omega) (x96 + 1) h219 rfl O220 (((F102.pIa e110 ar_125100 hh194 rfl).pIa e199 ar_126100 hh204 rfl).pIa e209 ar_127100 hh218 rfl) (iw f221 (by decide) (by decide)) (CP.step (k := x96) O101 e187 (by omega) (by omega) e107 e112 e117 _ _ _ (by omega) (by omega) (by omega) hh194 hh204 hh218 e109 e114 (by rw [e119]) p104)
        have E222 : Iv h86 (Rv h86 a0 25) = Iv h (Rv h a0 25) := mAI (j := 25) O (((((((Fx.rf (wr := [22220000, 22420000, 22820000, 23020000, 23220200, 23420200, 23820000, 24220000, 24420000, 24620000, 24820000]) (h := h)).pIa t33 ar_111100 hh38 rfl).pIa t44 ar_112100 hh49 rfl).pIa t55 ar_119100 hh60 rfl).pIa t66 ar_121100 hh71 rfl).pIa e76 ar_124100 hh82 rfl).call F91 rfl) ta0 rE_12_25 ar_125100 rfl rfl
        have E223 : Iv h86 (Rv h86 a0 26) = Iv h (Rv h a0 26) := mAI (j := 26) O (((((((Fx.rf (wr := [22220000, 22420000, 22820000, 23020000, 23220200, 23420200, 23820000, 24220000, 24420000, 24620000, 24820000]) (h := h)).pIa t33 ar_111100 hh38 rfl).pIa t44 ar_112100 hh49 rfl).pIa t55 ar_119100 hh60 rfl).pIa t66 ar_121100 hh71 rfl).pIa e76 ar_124100 hh82 rfl).call F91 rfl) ta0 rE_12_26 ar_126100 rfl rfl
        have E224 : Iv h86 (Rv h86 a0 27) = Iv h (Rv h a0 27) := mAI (j := 27) O (((((((Fx.rf (wr := [22220000, 22420000, 22820000, 23020000, 23220200, 23420200, 23820000, 24220000, 24420000, 24620000, 24820000]) (h := h)).pIa t33 ar_111100 hh38 rfl).pIa t44 ar_112100 hh49 rfl).pIa t55 ar_119100 hh60 rfl).pIa t66 ar_121100 hh71 rfl).pIa e76 ar_124100 hh82 rfl).call F91 rfl) ta0 rE_12_27 ar_127100 rfl rfl
        exact L98 _ 0 h86 rfl O90 Fx.rf (iw (il 0) (by decide) (by decide)) (CP.start E222 E223 E224)
      · have f225 : (0 : Int) ≤ x85 ∧ x85 ≤ (9 : Int) := r_lt f92 (il 10) q94 (by decide) (by decide)
        refine g_aload_n C rfl 0 rfl dX12_keeps_70 ?_
        have e226 : Tg h86 a0 = 12 := (fxT F91 ((pIT hh82).trans e74))
        obtain ⟨v227, e228⟩ : ∃ z, Rv h86 a0 14 = z := ⟨_, rfl⟩
        have t229 := ok_R O90 e226 rE_12_14 e228
        have l230 := ok_L O90 e226 rE_12_14 e228
        refine gf_R C fk_LandSurveyModel_106 rfl e226 e228 dX12_keeps_71 ?_
        refine g_bipush C (by decide) dX12_keeps_74 ?_
        refine g_iload_n C rfl 1 rfl dX12_keeps_76 ?_
        have f231 : (0 : Int) ≤ (10 * a1) ∧ (10 * a1) ≤ (70 : Int) := ia_mul (by decide) fa1 (by decide) (by decide)
        refine g_imul C dX12_keeps_77 ?_
        refine g_iload_n C rfl 2 rfl dX12_keeps_78 ?_
        have f232 : (0 : Int) ≤ ((10 * a1) + x85) ∧ ((10 * a1) + x85) ≤ (79 : Int) := ia_add f231 f225 (by decide) (by decide)
        refine g_iadd C dX12_keeps_79 ?_
        refine g_aload_n C rfl 0 rfl dX12_keeps_80 ?_
        refine gf_R C fk_LandSurveyModel_106 rfl e226 e228 dX12_keeps_81 ?_
        refine g_bipush C (by decide) dX12_keeps_84 ?_
        refine g_iload_n C rfl 2 rfl dX12_keeps_86 ?_
        have f233 : (80 : Int) ≤ (80 + x85) ∧ (80 + x85) ≤ (89 : Int) := ia_add (il 80) f225 (by decide) (by decide)
        refine g_iadd C dX12_keeps_87 ?_
        obtain ⟨v234, e235⟩ : ∃ z, Iv h86 v227 ((80 + x85).toNat) = z := ⟨_, rfl⟩
        have f236 := ok_Ia O90 t229 ar_114100 rI_114100_0 e235
        refine g_iald C t229 rfl l230 (ix f233 (by decide) (by decide)) e235 dX12_keeps_88 ?_
        refine g_iast C t229 rfl l230 (ix f232 (by decide) (by decide)) (iw f236 (by decide) (by decide)) dX12_keeps_89 (fun h238 hh237 => ?_)
        have O239 := O90.pIa t229 ar_114100 hh237 rI_114100_0 f236 nofun
        refine g_aload_n C rfl 0 rfl dX12_keeps_90 ?_
        have e240 : Tg h238 a0 = 12 := ((pIT hh237).trans e226)
        obtain ⟨v241, e242⟩ : ∃ z, Rv h238 a0 15 = z := ⟨_, rfl⟩
        have t243 := ok_R O239 e240 rE_12_15 e242
        have l244 := ok_L O239 e240 rE_12_15 e242
        refine gf_R C fk_LandSurveyModel_109 rfl e240 e242 dX12_keeps_91 ?_
        refine g_bipush C (by decide) dX12_keeps_94 ?_
        refine g_iload_n C rfl 1 rfl dX12_keeps_96 ?_
        refine g_imul C dX12_keeps_97 ?_
        refine g_iload_n C rfl 2 rfl dX12_keeps_98 ?_
        refine g_iadd C dX12_keeps_99 ?_
        refine g_aload_n C rfl 0 rfl dX12_keeps_100 ?_
        refine gf_R C fk_LandSurveyModel_109 rfl e240 e242 dX12_keeps_101 ?_
        refine g_bipush C (by decide) dX12_keeps_104 ?_
        refine g_iload_n C rfl 2 rfl dX12_keeps_106 ?_
        refine g_iadd C dX12_keeps_107 ?_
        obtain ⟨v245, e246⟩ : ∃ z, Iv h238 v241 ((80 + x85).toNat) = z := ⟨_, rfl⟩
        have f247 := ok_Ia O239 t243 ar_115100 rI_115100_0 e246
        refine g_iald C t243 rfl l244 (ix f233 (by decide) (by decide)) e246 dX12_keeps_108 ?_
        refine g_iast C t243 rfl l244 (ix f232 (by decide) (by decide)) (iw f247 (by decide) (by decide)) dX12_keeps_109 (fun h249 hh248 => ?_)
        have O250 := O239.pIa t243 ar_115100 hh248 rI_115100_0 f247 nofun
        refine g_aload_n C rfl 0 rfl dX12_keeps_110 ?_
        have e251 : Tg h249 a0 = 12 := ((pIT hh248).trans e240)
        obtain ⟨v252, e253⟩ : ∃ z, Rv h249 a0 16 = z := ⟨_, rfl⟩
        have t254 := ok_R O250 e251 rE_12_16 e253
        have l255 := ok_L O250 e251 rE_12_16 e253
        refine gf_R C fk_LandSurveyModel_112 rfl e251 e253 dX12_keeps_111 ?_
        refine g_bipush C (by decide) dX12_keeps_114 ?_
        refine g_iload_n C rfl 1 rfl dX12_keeps_116 ?_
        refine g_imul C dX12_keeps_117 ?_
        refine g_iload_n C rfl 2 rfl dX12_keeps_118 ?_
        refine g_iadd C dX12_keeps_119 ?_
        refine g_aload_n C rfl 0 rfl dX12_keeps_120 ?_
        refine gf_R C fk_LandSurveyModel_112 rfl e251 e253 dX12_keeps_121 ?_
        refine g_bipush C (by decide) dX12_keeps_124 ?_
        refine g_iload_n C rfl 2 rfl dX12_keeps_126 ?_
        refine g_iadd C dX12_keeps_127 ?_
        obtain ⟨v256, e257⟩ : ∃ z, Iv h249 v252 ((80 + x85).toNat) = z := ⟨_, rfl⟩
        have f258 := ok_Ia O250 t254 ar_116101 rI_116101_0 e257
        refine g_zald C t254 rfl l255 (ix f233 (by decide) (by decide)) e257 dX12_keeps_128 ?_
        refine g_zast C t254 rfl l255 (ix f232 (by decide) (by decide)) f258 dX12_keeps_129 (fun h260 hh259 => ?_)
        have O261 := O250.pIa t254 ar_116101 hh259 rI_116101_0 f258 nofun
        refine g_aload_n C rfl 0 rfl dX12_keeps_130 ?_
        have e262 : Tg h260 a0 = 12 := ((pIT hh259).trans e251)
        obtain ⟨v263, e264⟩ : ∃ z, Rv h260 a0 17 = z := ⟨_, rfl⟩
        have t265 := ok_R O261 e262 rE_12_17 e264
        have l266 := ok_L O261 e262 rE_12_17 e264
        refine gf_R C fk_LandSurveyModel_116 rfl e262 e264 dX12_keeps_131 ?_
        refine g_bipush C (by decide) dX12_keeps_134 ?_
        refine g_iload_n C rfl 1 rfl dX12_keeps_136 ?_
        refine g_imul C dX12_keeps_137 ?_
        refine g_iload_n C rfl 2 rfl dX12_keeps_138 ?_
        refine g_iadd C dX12_keeps_139 ?_
        refine g_aload_n C rfl 0 rfl dX12_keeps_140 ?_
        refine gf_R C fk_LandSurveyModel_116 rfl e262 e264 dX12_keeps_141 ?_
        refine g_bipush C (by decide) dX12_keeps_144 ?_
        refine g_iload_n C rfl 2 rfl dX12_keeps_146 ?_
        refine g_iadd C dX12_keeps_147 ?_
        obtain ⟨v267, e268⟩ : ∃ z, Iv h260 v263 ((80 + x85).toNat) = z := ⟨_, rfl⟩
        have f269 := ok_Ia O261 t265 ar_117101 rI_117101_0 e268
        refine g_zald C t265 rfl l266 (ix f233 (by decide) (by decide)) e268 dX12_keeps_148 ?_
        refine g_zast C t265 rfl l266 (ix f232 (by decide) (by decide)) f269 dX12_keeps_149 (fun h271 hh270 => ?_)
        have O272 := O261.pIa t265 ar_117101 hh270 rI_117101_0 f269 nofun
        refine g_aload_n C rfl 0 rfl dX12_keeps_150 ?_
        have e273 : Tg h271 a0 = 12 := ((pIT hh270).trans e262)
        obtain ⟨v274, e275⟩ : ∃ z, Rv h271 a0 22 = z := ⟨_, rfl⟩
        have t276 := ok_R O272 e273 rE_12_22 e275
        have l277 := ok_L O272 e273 rE_12_22 e275
        refine gf_R C fk_LandSurveyModel_131 rfl e273 e275 dX12_keeps_151 ?_
        refine g_bipush C (by decide) dX12_keeps_154 ?_
        refine g_iload_n C rfl 1 rfl dX12_keeps_156 ?_
        refine g_imul C dX12_keeps_157 ?_
        refine g_iload_n C rfl 2 rfl dX12_keeps_158 ?_
        refine g_iadd C dX12_keeps_159 ?_
        refine g_aload_n C rfl 0 rfl dX12_keeps_160 ?_
        refine gf_R C fk_LandSurveyModel_131 rfl e273 e275 dX12_keeps_161 ?_
        refine g_bipush C (by decide) dX12_keeps_164 ?_
        refine g_iload_n C rfl 2 rfl dX12_keeps_166 ?_
        refine g_iadd C dX12_keeps_167 ?_
        obtain ⟨v278, e279⟩ : ∃ z, Iv h271 v274 ((80 + x85).toNat) = z := ⟨_, rfl⟩
        have f280 := ok_Ia O272 t276 ar_122100 rI_122100_0 e279
        refine g_iald C t276 rfl l277 (ix f233 (by decide) (by decide)) e279 dX12_keeps_168 ?_
        refine g_iast C t276 rfl l277 (ix f232 (by decide) (by decide)) (iw f280 (by decide) (by decide)) dX12_keeps_169 (fun h282 hh281 => ?_)
        have O283 := O272.pIa t276 ar_122100 hh281 rI_122100_0 f280 nofun
        refine g_aload_n C rfl 0 rfl dX12_keeps_170 ?_
        have e284 : Tg h282 a0 = 12 := ((pIT hh281).trans e273)
        obtain ⟨v285, e286⟩ : ∃ z, Rv h282 a0 23 = z := ⟨_, rfl⟩
        have t287 := ok_R O283 e284 rE_12_23 e286
        have l288 := ok_L O283 e284 rE_12_23 e286
        refine gf_R C fk_LandSurveyModel_134 rfl e284 e286 dX12_keeps_171 ?_
        refine g_bipush C (by decide) dX12_keeps_174 ?_
        refine g_iload_n C rfl 1 rfl dX12_keeps_176 ?_
        refine g_imul C dX12_keeps_177 ?_
        refine g_iload_n C rfl 2 rfl dX12_keeps_178 ?_
        refine g_iadd C dX12_keeps_179 ?_
        refine g_aload_n C rfl 0 rfl dX12_keeps_180 ?_
        refine gf_R C fk_LandSurveyModel_134 rfl e284 e286 dX12_keeps_181 ?_
        refine g_bipush C (by decide) dX12_keeps_184 ?_
        refine g_iload_n C rfl 2 rfl dX12_keeps_186 ?_
        refine g_iadd C dX12_keeps_187 ?_
        obtain ⟨v289, e290⟩ : ∃ z, Iv h282 v285 ((80 + x85).toNat) = z := ⟨_, rfl⟩
        have f291 := ok_Ia O283 t287 ar_123100 rI_123100_0 e290
        refine g_iald C t287 rfl l288 (ix f233 (by decide) (by decide)) e290 dX12_keeps_188 ?_
        refine g_iast C t287 rfl l288 (ix f232 (by decide) (by decide)) (iw f291 (by decide) (by decide)) dX12_keeps_189 (fun h293 hh292 => ?_)
        have O294 := O283.pIa t287 ar_123100 hh292 rI_123100_0 f291 nofun
        have f295 : (1 : Int) ≤ (x85 + 1) ∧ (x85 + 1) ≤ (10 : Int) := ia_add f225 (il 1) (by decide) (by decide)
        refine g_iinc C [(2, .inl (x85 + 1)), (0, .inr (.inr a0)), (1, .inl a1)] 2 rfl (by decide) rfl dX12_keeps_190 ?_
        refine g_goto C 64 (by decide) dX12_keeps_193 ?_
        refine GW.sub [1, 2, 0] rfl ?_
        exact ih88 _ (by omega) (x85 + 1) h293 rfl O294 ((((((F91.pIa t229 ar_114100 hh237 rfl).pIa t243 ar_115100 hh248 rfl).pIa t254 ar_116101 hh259 rfl).pIa t265 ar_117101 hh270 rfl).pIa t276 ar_122100 hh281 rfl).pIa t287 ar_123100 hh292 rfl) (iw f295 (by decide) (by decide))
  exact L87 _ 0 h83 rfl O84 Fx.rf (iw (il 0) (by decide) (by decide))
def wr_k_X12_rules : List Nat := [2400, 2402, 2403, 2407, 2408, 2410, 2428, 2435, 20820000, 21020000, 21220400, 22220000, 22420000, 22620400, 22820000, 23020000, 23220200, 23420200, 23620200, 23820000, 24020200, 24220000, 24420000, 24620000, 24820000, 25020000, 25220000, 25420000, 25820000, 26020000]
set_option maxRecDepth 100000 in
set_option maxHeartbeats 4000000 in
theorem k_X12_rules (l : Launch) (D : va_G) (cy : Nat → ClassId) (w : Nat → Nat) (z0 : Nat)  {h : Hp} {a0 : Nat}  (O : Okh h) (ta0 : Tg h a0 = 12) (P_MInv : MInv h a0) : MI l D cy w z0 yX12_rules cX12_rules 2 (some .int) 24 531 0 0 [.inr (.inr a0)] h (fun v h1 => Okh h1 ∧ Fx wr_k_X12_rules h h1 ∧ ((-1) ≤ v ∧ v ≤ 24005) ∧ (MInv h1 a0)) := by
  refine hm_go (by decide +kernel) (Nat.le_of_ble_eq_true rfl) (fun p e s m below meth c C hr hn => ?_)
  obtain ⟨v1, e2⟩ : ∃ z, Iv h a0 10 = z := ⟨_, rfl⟩
  have f3 := ok_I O ta0 rI_12_10 e2
  obtain ⟨v4, e5⟩ : ∃ z, Iv h a0 33 = z := ⟨_, rfl⟩
  have f6 := ok_I O ta0 rI_12_33 e5
  refine g_aload_n C rfl 0 rfl dX12_rules_0 ?_
  refine g_iconst C dX12_rules_1 ?_
  refine gp_I C fk_LandSurveyModel_1 pk_LandSurveyModel_0 rfl ta0 (iw (il 0) (by decide) (by decide)) (nf_i _) dX12_rules_2 (fun h8 hh7 => ?_)
  have O9 := O.pI ta0 hh7 rI_12_0 (iw (il 0) (by decide) (by decide)) nofun
  refine g_aload_n C rfl 0 rfl dX12_rules_5 ?_
  have e10 : Tg h8 a0 = 12 := ((pIT hh7).trans ta0)
  have e11 : Iv h8 a0 10 = v1 := ((pI_j hh7 (by decide)).trans e2)
  refine gf_I C fk_LandSurveyModel_339 rfl e10 e11 dX12_rules_6 ?_
  refine g_if_le C (iw f3 (by decide) (by decide)) 34 (by decide) dX12_rules_9 (fun q12 => ?_) (fun q13 => ?_)
  · have f14 : (0 : Int) ≤ v1 ∧ v1 ≤ (0 : Int) := r_le f3 (il 0) q12 (by decide) (by decide)
    refine g_iconst C dX12_rules_34 ?_
    refine g_istore_n C [(1, .inl 0), (0, .inr (.inr a0))] rfl (by decide) rfl dX12_rules_35 ?_
    refine g_aload_n C rfl 1 rfl dX12_rules_36 ?_
    refine gf_I C fk_LandSurveyModel_339 rfl e10 e11 dX12_rules_37 ?_
    refine g_bipush C (by decide) dX12_rules_40 ?_
    refine g_icmp_ne C (iw f14 (by decide) (by decide)) (iw (il 8) (by decide) (by decide)) 56 (by decide) dX12_rules_42 (fun q15 => ?_) (fun q16 => ?_)
    · refine g_aload_n C rfl 1 rfl dX12_rules_56 ?_
      refine g_callV (st := []) (gc_V C lk_LandSurveyModel_345 (k_X12_cutAll l D cy w z0 O9 e10) e10 rfl rfl rfl ⟨by decide, by decide⟩ (Nat.le_of_ble_eq_true rfl) dX12_rules_57 ⟨(by decide), (by decide)⟩) (fun h18 K19 => ?_)
      obtain ⟨O21, F22, p23⟩ := K19
      obtain ⟨v24, e25⟩ : ∃ z, NT h18 a0 = z := ⟨_, rfl⟩
      have f26 : (0 : Int) ≤ v24 ∧ v24 ≤ (1500 : Int) := NT_rng p23.1 e25
      refine g_aload_n C rfl 1 rfl dX12_rules_60 ?_
      have e27 : Tg h18 a0 = 12 := (fxT F22 e10)
      have p28 := (MInv_fx O9 F22 e10 rfl (MInv_fx O ((Fx.rf (wr := [2400]) (h := h)).pI ta0 hh7 rfl) ta0 rfl P_MInv))
      refine g_callV (st := []) (gc_V C lk_LandSurveyModel_348 (k_X12_begins l D cy w z0 O21 e27 p28) e27 rfl rfl rfl ⟨by decide, by decide⟩ (Nat.le_of_ble_eq_true rfl) dX12_rules_61 ⟨(by decide), (by decide)⟩) (fun h30 K31 => ?_)
      obtain ⟨O33, F34, p35, p36⟩ := K31
      obtain ⟨v37, e38⟩ : ∃ z, Rv h30 a0 24 = z := ⟨_, rfl⟩
      have e39 : Tg h30 a0 = 12 := (fxT F34 e27)
      have t40 := ok_R O33 e39 rE_12_24 e38
      have l41 := ok_L O33 e39 rE_12_24 e38
      have e42 := p36.2
      rw [e38] at e42
      refine GW.sub [1, 0] rfl ?_
      -- loop at 64
      have L44 : ∀ (μ : Nat) (h43 : Hp), (mqF (Iv h43 a0 8) (Iv h43 a0 7)).toNat = μ → Okh h43 → Fx [2407, 2408, 2428, 22420000, 22620400, 22820000, 23020000, 23220200, 23420200, 23620200, 23820000, 24020200, 24220000, 24420000, 24620000, 24820000, 25020000, 25220000, 25420000, 25820000, 26020000] h30 h43 → (RD h43 a0) → (MInv h43 a0) → (DLf h43 a0) → GW p l e (rmm 24 531 0 0) s m (List.map toV [.inr (.inr a0)]).toArray below meth c D cy z0 2 (MQ below (QI D cy z0 (fun v h1 => Okh h1 ∧ Fx wr_k_X12_rules h h1 ∧ ((-1) ≤ v ∧ v ≤ 24005) ∧ (MInv h1 a0))) (List.map toV [.inr (.inr a0)]).toArray s 0 0 (Aof z0)) 64 [(0, .inr (.inr a0)), (1, .inl 0)] [] h43 0 0 := by
        intro μ
        induction μ using Nat.strongRecOn with
        | ind μ ih45 =>
          intro h43 hm46 O47 F48 p49 p50 p51
          obtain ⟨v52, e53⟩ : ∃ z, Iv h43 a0 7 = z := ⟨_, rfl⟩
          have e54 : Tg h43 a0 = 12 := (fxT F48 e39)
          have f55 := ok_I O47 e54 rI_12_7 e53
          obtain ⟨v56, e57⟩ : ∃ z, Iv h43 a0 8 = z := ⟨_, rfl⟩
          have f58 := ok_I O47 e54 rI_12_8 e57
          obtain ⟨v59, e60⟩ : ∃ z, Iv h43 a0 28 = z := ⟨_, rfl⟩
          have f61 := ok_I O47 e54 rI_12_28 e60
          obtain ⟨p62, p63, p64, p65⟩ := p49
          have p66 := ((NT_fx O33 F48 e39 rfl).trans ((NT_fx O21 F34 e27 rfl).trans e25))
          rw [e53, p66] at p63
          rw [e57, e53, p66] at p64
          rw [e60, e53] at p65
          refine g_aload_n C rfl 0 rfl dX12_rules_64 ?_
          refine gf_I C fk_LandSurveyModel_320 rfl e54 e57 dX12_rules_65 ?_
          refine g_if_ne C (iw f58 (by decide) (by decide)) 90 (by decide) dX12_rules_68 (fun q67 => ?_) (fun q68 => ?_)
          · have f69 : (1 : Int) ≤ v56 ∧ v56 ≤ (24005 : Int) := r_nl f58 q67
            refine g_aload_n C rfl 0 rfl dX12_rules_90 ?_
            refine gf_I C fk_LandSurveyModel_320 rfl e54 e57 dX12_rules_91 ?_
            refine g_if_ne C (iw f69 (by decide) (by decide)) 130 (by decide) dX12_rules_94 (fun q70 => ?_) (fun q71 => ?_)
            · refine g_aload_n C rfl 0 rfl dX12_rules_130 ?_
              refine gf_I C fk_LandSurveyModel_320 rfl e54 e57 dX12_rules_131 ?_
              exact g_iret C hr rfl (iw f69 (by decide) (by decide)) ⟨O47, (((((Fx.rf (wr := wr_k_X12_rules)).pI ta0 hh7 rfl).call F22 rfl).call F34 rfl).call F48 rfl), (iw f69 (by decide) (by decide)), p50⟩ (by decide) (by decide) dX12_rules_134
            · exact (no_eq f69 (il 0) q71 (by decide)).elim
          · have f72 : (0 : Int) ≤ v56 ∧ v56 ≤ (0 : Int) := ii f58 (r_eq (il 0) q68) (by decide) (by decide)
            refine g_aload_n C rfl 0 rfl dX12_rules_71 ?_
            obtain ⟨v73, e74⟩ : ∃ z, Rv h43 a0 4 = z := ⟨_, rfl⟩
            have t75 := ok_R O47 e54 rE_12_4 e74
            have l76 := ok_L O47 e54 rE_12_4 e74
            refine gf_R C fk_LandSurveyModel_24 rfl e54 e74 dX12_rules_72 ?_
            refine g_aload_n C rfl 0 rfl dX12_rules_75 ?_
            refine gf_I C fk_LandSurveyModel_317 rfl e54 e53 dX12_rules_76 ?_
            obtain ⟨v77, e78⟩ : ∃ z, Iv h43 v73 v52.toNat = z := ⟨_, rfl⟩
            have f79 := ok_Ia O47 t75 ar_104100 rI_104100_0 e78
            refine g_iald C t75 rfl l76 (ix f55 (by decide) (by decide)) e78 dX12_rules_79 ?_
            refine g_if_eq C (iw f79 (by decide) (by decide)) 90 (by decide) dX12_rules_80 (fun q80 => ?_) (fun q81 => ?_)
            · have f82 : (0 : Int) ≤ v77 ∧ v77 ≤ (0 : Int) := ii f79 (r_eq (il 0) q80) (by decide) (by decide)
              refine g_aload_n C rfl 0 rfl dX12_rules_90 ?_
              refine gf_I C fk_LandSurveyModel_320 rfl e54 e57 dX12_rules_91 ?_
              refine g_if_ne C (iw f72 (by decide) (by decide)) 130 (by decide) dX12_rules_94 (fun q83 => ?_) (fun q84 => ?_)
              · exact (no_ne f72 (il 0) q83 (by decide)).elim
              · refine g_aload_n C rfl 0 rfl dX12_rules_97 ?_
                refine g_dup C rfl dX12_rules_98 ?_
                have e85 : Iv h43 a0 10 = v1 := ((fxI F48 e39 rfl).trans ((fxI F34 e27 rfl).trans ((fxI F22 e10 rfl).trans e11)))
                refine gf_I C fk_LandSurveyModel_339 rfl e54 e85 dX12_rules_99 ?_
                refine g_iload_n C rfl 1 rfl dX12_rules_102 ?_
                refine g_if_eq C (iw (il 0) (by decide) (by decide)) 110 (by decide) dX12_rules_103 (fun q86 => ?_) (fun q87 => ?_)
                · refine g_iconst C dX12_rules_110 ?_
                  have f88 : (1 : Int) ≤ (v1 + 1) ∧ (v1 + 1) ≤ (1 : Int) := ia_add f14 (il 1) (by decide) (by decide)
                  refine g_iadd C dX12_rules_111 ?_
                  refine gp_I C fk_LandSurveyModel_339 pk_LandSurveyModel_10 rfl e54 (iw f88 (by decide) (by decide)) (nf_i _) dX12_rules_112 (fun h90 hh89 => ?_)
                  have O91 := O47.pI e54 hh89 rI_12_10 (iw f88 (by decide) (by decide)) nofun
                  have p92 : BKn h90 a0 ((v1 + 1) - 1) := fun d hd => BKb_fx O47 ((Fx.rf (wr := [2410]) (h := h43)).pI e54 hh89 rfl) e54 rfl (p50.1 d (by rw [e85]; omega))
                  have p93 := LA_fx O47 ((Fx.rf (wr := [2410]) (h := h43)).pI e54 hh89 rfl) e54 rfl p50.2
                  have e95 : Iv h90 a0 8 = v56 := ((pI_j hh89 (by decide)).trans e57)
                  have p94 := (DLf_fx O47 ((Fx.rf (wr := [2410]) (h := h43)).pI e54 hh89 rfl) e54 rfl p51) (by rw [e95]; omega)
                  refine g_aload_n C rfl 0 rfl dX12_rules_115 ?_
                  refine g_aload_n C rfl 0 rfl dX12_rules_116 ?_
                  have e96 : Tg h90 a0 = 12 := ((pIT hh89).trans e54)
                  refine gf_I C fk_LandSurveyModel_339 rfl e96 (pI_e hh89) dX12_rules_117 ?_
                  refine g_iconst C dX12_rules_120 ?_
                  have f97 : (0 : Int) ≤ ((v1 + 1) - 1) ∧ ((v1 + 1) - 1) ≤ (0 : Int) := ia_sub f88 (il 1) (by decide) (by decide)
                  refine g_isub C dX12_rules_121 ?_
                  refine g_callV (st := []) (gc_V C lk_LandSurveyModel_354 (k_X12_keeps l D cy w z0 O91 e96 (iw f97 (by decide) (by decide)) ⟨p92, p93, p94⟩) e96 rfl rfl rfl ⟨by decide, by decide⟩ (Nat.le_of_ble_eq_true rfl) dX12_rules_122 ⟨(by decide), (by decide)⟩) (fun h99 K100 => ?_)
                  obtain ⟨O102, F103, p104⟩ := K100
                  have e105 : Iv h99 a0 10 = (v1 + 1) := ((fxI F103 e96 rfl).trans (pI_e hh89))
                  have p106 : MInv h99 a0 := ⟨by rw [e105]; have z := p104.1; rw [show ((v1 + 1) - 1 + 1 : Int) = (v1 + 1) by omega] at z; exact z, p104.2⟩
                  refine g_aload_n C rfl 0 rfl dX12_rules_125 ?_
                  refine g_iconst C dX12_rules_126 ?_
                  have e107 : Tg h99 a0 = 12 := (fxT F103 e96)
                  refine gp_I C fk_LandSurveyModel_290 pk_LandSurveyModel_35 rfl e107 (iw (il 1) (by decide) (by decide)) (nar_z2 (iw (il 1) (by decide) (by decide))) dX12_rules_127 (fun h109 hh108 => ?_)
                  have O110 := O102.pI e107 hh108 rI_12_35 (iw (il 1) (by decide) (by decide)) nofun
                  refine g_aload_n C rfl 0 rfl dX12_rules_130 ?_
                  have e111 : Tg h109 a0 = 12 := ((pIT hh108).trans e107)
                  have e112 : Iv h109 a0 8 = v56 := ((pI_j hh108 (by decide)).trans ((fxI F103 e96 rfl).trans e95))
                  refine gf_I C fk_LandSurveyModel_320 rfl e111 e112 dX12_rules_131 ?_
                  have p113 := (MInv_fx O102 ((Fx.rf (wr := [2435]) (h := h99)).pI e107 hh108 rfl) e107 rfl p106)
                  exact g_iret C hr rfl (iw f72 (by decide) (by decide)) ⟨O110, ((((((((Fx.rf (wr := wr_k_X12_rules)).pI ta0 hh7 rfl).call F22 rfl).call F34 rfl).call F48 rfl).pI e54 hh89 rfl).call F103 rfl).pI e107 hh108 rfl), (iw f72 (by decide) (by decide)), p113⟩ (by decide) (by decide) dX12_rules_134
                · exact (no_ne (il 0) (il 0) q87 (by decide)).elim
            · have f114 : (1 : Int) ≤ v77 ∧ v77 ≤ (4 : Int) := r_nl f79 q81
              refine g_aload_n C rfl 0 rfl dX12_rules_83 ?_
              refine g_callV (st := []) (gc_V C lk_LandSurveyModel_351 (k_X12_readNext l D cy w z0 O47 e54 ⟨p62, by rw [e53, p66]; omega, by rw [e57, e53, p66]; omega, by rw [e60, e53]; omega⟩ p50 p51) e54 rfl rfl rfl ⟨by decide, by decide⟩ (Nat.le_of_ble_eq_true rfl) dX12_rules_84 ⟨(by decide), (by decide)⟩) (fun h116 K117 => ?_)
              obtain ⟨O119, F120, p121, p122, p123, p124, p125⟩ := K117
              obtain ⟨v126, e127⟩ : ∃ z, Iv h116 a0 7 = z := ⟨_, rfl⟩
              have e128 : Tg h116 a0 = 12 := (fxT F120 e54)
              have f129 := ok_I O119 e128 rI_12_7 e127
              obtain ⟨v130, e131⟩ : ∃ z, Iv h116 a0 8 = z := ⟨_, rfl⟩
              have f132 := ok_I O119 e128 rI_12_8 e131
              obtain ⟨v133, e134⟩ : ∃ z, Iv h116 a0 28 = z := ⟨_, rfl⟩
              have f135 := ok_I O119 e128 rI_12_28 e134
              obtain ⟨p136, p137, p138, p139⟩ := p121
              have p140 := ((NT_fx O47 F120 e54 rfl).trans p66)
              rw [e127, p140] at p137
              rw [e131, e127, p140] at p138
              rw [e134, e127] at p139
              have p141 := p122
              unfold ST at p141
              rw [e53, e127, e60, e134, e57, e131] at p141
              rw [e131, e53, e127] at p125
              refine g_goto C 64 (by decide) dX12_rules_87 ?_
              refine GW.sub [0, 1] rfl ?_
              exact ih45 _ (by rw [← hm46, e57, e53, e131, e127]; exact mqF_lt (by omega) (by omega) (by omega)) h116 rfl O119 (F48.call F120 rfl) ⟨p136, by rw [e127, p140]; omega, by rw [e131, e127, p140]; omega, by rw [e134, e127]; omega⟩ p123 p124
      have e142 : Iv h30 a0 7 = 0 := ((fxI F34 e27 rfl).trans p23.2.1)
      have e143 : Iv h30 a0 8 = 0 := ((fxI F34 e27 rfl).trans p23.2.2)
      have p144 := (TK_fx O21 F34 e27 rfl p23.1)
      have p145 := ((NT_fx O21 F34 e27 rfl).trans e25)
      have e146 : Iv h30 (Rv h30 a0 24) 8 = 0 := by rw [e38]; exact e42
      exact L44 _ h30 rfl O33 Fx.rf ⟨p144, by rw [e142, p145]; omega, by rw [e143, e142, p145]; omega, by rw [p36.1, e142]; omega⟩ p35 (fun _ k hk => absurd hk (by rw [e146]; omega))
    · exact (no_eq f14 (il 8) q16 (by decide)).elim
  · have f147 : (1 : Int) ≤ v1 ∧ v1 ≤ (8 : Int) := r_gt f3 (il 0) q13 (by decide) (by decide)
    refine g_aload_n C rfl 0 rfl dX12_rules_12 ?_
    obtain ⟨v148, e149⟩ : ∃ z, Rv h8 a0 11 = z := ⟨_, rfl⟩
    have t150 := ok_R O9 e10 rE_12_11 e149
    have l151 := ok_L O9 e10 rE_12_11 e149
    refine gf_R C fk_LandSurveyModel_97 rfl e10 e149 dX12_rules_13 ?_
    refine g_aload_n C rfl 0 rfl dX12_rules_16 ?_
    refine gf_I C fk_LandSurveyModel_339 rfl e10 e11 dX12_rules_17 ?_
    refine g_iconst C dX12_rules_20 ?_
    have f152 : (0 : Int) ≤ (v1 - 1) ∧ (v1 - 1) ≤ (7 : Int) := ia_sub f147 (il 1) (by decide) (by decide)
    refine g_isub C dX12_rules_21 ?_
    obtain ⟨v153, e154⟩ : ∃ z, Iv h8 v148 ((v1 - 1).toNat) = z := ⟨_, rfl⟩
    have f155 := ok_Ia O9 t150 ar_111100 rI_111100_0 e154
    refine g_iald C t150 rfl l151 (ix f152 (by decide) (by decide)) e154 dX12_rules_22 ?_
    refine g_aload_n C rfl 0 rfl dX12_rules_23 ?_
    have e156 : Iv h8 a0 33 = v4 := ((pI_j hh7 (by decide)).trans e5)
    refine gf_I C fk_LandSurveyModel_342 rfl e10 e156 dX12_rules_24 ?_
    refine g_icmp_ne C (iw f155 (by decide) (by decide)) (iw f6 (by decide) (by decide)) 34 (by decide) dX12_rules_27 (fun q157 => ?_) (fun q158 => ?_)
    · refine g_iconst C dX12_rules_34 ?_
      refine g_istore_n C [(1, .inl 0), (0, .inr (.inr a0))] rfl (by decide) rfl dX12_rules_35 ?_
      refine g_aload_n C rfl 1 rfl dX12_rules_36 ?_
      refine gf_I C fk_LandSurveyModel_339 rfl e10 e11 dX12_rules_37 ?_
      refine g_bipush C (by decide) dX12_rules_40 ?_
      refine g_icmp_ne C (iw f147 (by decide) (by decide)) (iw (il 8) (by decide) (by decide)) 56 (by decide) dX12_rules_42 (fun q159 => ?_) (fun q160 => ?_)
      · have f161 : (1 : Int) ≤ v1 ∧ v1 ≤ (7 : Int) := r_nh f147 q159
        refine g_aload_n C rfl 1 rfl dX12_rules_56 ?_
        refine g_callV (st := []) (gc_V C lk_LandSurveyModel_345 (k_X12_cutAll l D cy w z0 O9 e10) e10 rfl rfl rfl ⟨by decide, by decide⟩ (Nat.le_of_ble_eq_true rfl) dX12_rules_57 ⟨(by decide), (by decide)⟩) (fun h163 K164 => ?_)
        obtain ⟨O166, F167, p168⟩ := K164
        obtain ⟨v169, e170⟩ : ∃ z, NT h163 a0 = z := ⟨_, rfl⟩
        have f171 : (0 : Int) ≤ v169 ∧ v169 ≤ (1500 : Int) := NT_rng p168.1 e170
        refine g_aload_n C rfl 1 rfl dX12_rules_60 ?_
        have e172 : Tg h163 a0 = 12 := (fxT F167 e10)
        have p173 := (MInv_fx O9 F167 e10 rfl (MInv_fx O ((Fx.rf (wr := [2400]) (h := h)).pI ta0 hh7 rfl) ta0 rfl P_MInv))
        refine g_callV (st := []) (gc_V C lk_LandSurveyModel_348 (k_X12_begins l D cy w z0 O166 e172 p173) e172 rfl rfl rfl ⟨by decide, by decide⟩ (Nat.le_of_ble_eq_true rfl) dX12_rules_61 ⟨(by decide), (by decide)⟩) (fun h175 K176 => ?_)
        obtain ⟨O178, F179, p180, p181⟩ := K176
        obtain ⟨v182, e183⟩ : ∃ z, Rv h175 a0 24 = z := ⟨_, rfl⟩
        have e184 : Tg h175 a0 = 12 := (fxT F179 e172)
        have t185 := ok_R O178 e184 rE_12_24 e183
        have l186 := ok_L O178 e184 rE_12_24 e183
        have e187 := p181.2
        rw [e183] at e187
        refine GW.sub [1, 0] rfl ?_
        -- loop at 64
        have L189 : ∀ (μ : Nat) (h188 : Hp), (mqF (Iv h188 a0 8) (Iv h188 a0 7)).toNat = μ → Okh h188 → Fx [2407, 2408, 2428, 22420000, 22620400, 22820000, 23020000, 23220200, 23420200, 23620200, 23820000, 24020200, 24220000, 24420000, 24620000, 24820000, 25020000, 25220000, 25420000, 25820000, 26020000] h175 h188 → (RD h188 a0) → (MInv h188 a0) → (DLf h188 a0) → GW p l e (rmm 24 531 0 0) s m (List.map toV [.inr (.inr a0)]).toArray below meth c D cy z0 2 (MQ below (QI D cy z0 (fun v h1 => Okh h1 ∧ Fx wr_k_X12_rules h h1 ∧ ((-1) ≤ v ∧ v ≤ 24005) ∧ (MInv h1 a0))) (List.map toV [.inr (.inr a0)]).toArray s 0 0 (Aof z0)) 64 [(0, .inr (.inr a0)), (1, .inl 0)] [] h188 0 0 := by
          intro μ
          induction μ using Nat.strongRecOn with
          | ind μ ih190 =>
            intro h188 hm191 O192 F193 p194 p195 p196
            obtain ⟨v197, e198⟩ : ∃ z, Iv h188 a0 7 = z := ⟨_, rfl⟩
            have e199 : Tg h188 a0 = 12 := (fxT F193 e184)
            have f200 := ok_I O192 e199 rI_12_7 e198
            obtain ⟨v201, e202⟩ : ∃ z, Iv h188 a0 8 = z := ⟨_, rfl⟩
            have f203 := ok_I O192 e199 rI_12_8 e202
            obtain ⟨v204, e205⟩ : ∃ z, Iv h188 a0 28 = z := ⟨_, rfl⟩
            have f206 := ok_I O192 e199 rI_12_28 e205
            obtain ⟨p207, p208, p209, p210⟩ := p194
            have p211 := ((NT_fx O178 F193 e184 rfl).trans ((NT_fx O166 F179 e172 rfl).trans e170))
            rw [e198, p211] at p208
            rw [e202, e198, p211] at p209
            rw [e205, e198] at p210
            refine g_aload_n C rfl 0 rfl dX12_rules_64 ?_
            refine gf_I C fk_LandSurveyModel_320 rfl e199 e202 dX12_rules_65 ?_
            refine g_if_ne C (iw f203 (by decide) (by decide)) 90 (by decide) dX12_rules_68 (fun q212 => ?_) (fun q213 => ?_)
            · have f214 : (1 : Int) ≤ v201 ∧ v201 ≤ (24005 : Int) := r_nl f203 q212
              refine g_aload_n C rfl 0 rfl dX12_rules_90 ?_
              refine gf_I C fk_LandSurveyModel_320 rfl e199 e202 dX12_rules_91 ?_
              refine g_if_ne C (iw f214 (by decide) (by decide)) 130 (by decide) dX12_rules_94 (fun q215 => ?_) (fun q216 => ?_)
              · refine g_aload_n C rfl 0 rfl dX12_rules_130 ?_
                refine gf_I C fk_LandSurveyModel_320 rfl e199 e202 dX12_rules_131 ?_
                exact g_iret C hr rfl (iw f214 (by decide) (by decide)) ⟨O192, (((((Fx.rf (wr := wr_k_X12_rules)).pI ta0 hh7 rfl).call F167 rfl).call F179 rfl).call F193 rfl), (iw f214 (by decide) (by decide)), p195⟩ (by decide) (by decide) dX12_rules_134
              · exact (no_eq f214 (il 0) q216 (by decide)).elim
            · have f217 : (0 : Int) ≤ v201 ∧ v201 ≤ (0 : Int) := ii f203 (r_eq (il 0) q213) (by decide) (by decide)
              refine g_aload_n C rfl 0 rfl dX12_rules_71 ?_
              obtain ⟨v218, e219⟩ : ∃ z, Rv h188 a0 4 = z := ⟨_, rfl⟩
              have t220 := ok_R O192 e199 rE_12_4 e219
              have l221 := ok_L O192 e199 rE_12_4 e219
              refine gf_R C fk_LandSurveyModel_24 rfl e199 e219 dX12_rules_72 ?_
              refine g_aload_n C rfl 0 rfl dX12_rules_75 ?_
              refine gf_I C fk_LandSurveyModel_317 rfl e199 e198 dX12_rules_76 ?_
              obtain ⟨v222, e223⟩ : ∃ z, Iv h188 v218 v197.toNat = z := ⟨_, rfl⟩
              have f224 := ok_Ia O192 t220 ar_104100 rI_104100_0 e223
              refine g_iald C t220 rfl l221 (ix f200 (by decide) (by decide)) e223 dX12_rules_79 ?_
              refine g_if_eq C (iw f224 (by decide) (by decide)) 90 (by decide) dX12_rules_80 (fun q225 => ?_) (fun q226 => ?_)
              · have f227 : (0 : Int) ≤ v222 ∧ v222 ≤ (0 : Int) := ii f224 (r_eq (il 0) q225) (by decide) (by decide)
                refine g_aload_n C rfl 0 rfl dX12_rules_90 ?_
                refine gf_I C fk_LandSurveyModel_320 rfl e199 e202 dX12_rules_91 ?_
                refine g_if_ne C (iw f217 (by decide) (by decide)) 130 (by decide) dX12_rules_94 (fun q228 => ?_) (fun q229 => ?_)
                · exact (no_ne f217 (il 0) q228 (by decide)).elim
                · refine g_aload_n C rfl 0 rfl dX12_rules_97 ?_
                  refine g_dup C rfl dX12_rules_98 ?_
                  have e230 : Iv h188 a0 10 = v1 := ((fxI F193 e184 rfl).trans ((fxI F179 e172 rfl).trans ((fxI F167 e10 rfl).trans e11)))
                  refine gf_I C fk_LandSurveyModel_339 rfl e199 e230 dX12_rules_99 ?_
                  refine g_iload_n C rfl 1 rfl dX12_rules_102 ?_
                  refine g_if_eq C (iw (il 0) (by decide) (by decide)) 110 (by decide) dX12_rules_103 (fun q231 => ?_) (fun q232 => ?_)
                  · refine g_iconst C dX12_rules_110 ?_
                    have f233 : (2 : Int) ≤ (v1 + 1) ∧ (v1 + 1) ≤ (8 : Int) := ia_add f161 (il 1) (by decide) (by decide)
                    refine g_iadd C dX12_rules_111 ?_
                    refine gp_I C fk_LandSurveyModel_339 pk_LandSurveyModel_10 rfl e199 (iw f233 (by decide) (by decide)) (nf_i _) dX12_rules_112 (fun h235 hh234 => ?_)
                    have O236 := O192.pI e199 hh234 rI_12_10 (iw f233 (by decide) (by decide)) nofun
                    have p237 : BKn h235 a0 ((v1 + 1) - 1) := fun d hd => BKb_fx O192 ((Fx.rf (wr := [2410]) (h := h188)).pI e199 hh234 rfl) e199 rfl (p195.1 d (by rw [e230]; omega))
                    have p238 := LA_fx O192 ((Fx.rf (wr := [2410]) (h := h188)).pI e199 hh234 rfl) e199 rfl p195.2
                    have e240 : Iv h235 a0 8 = v201 := ((pI_j hh234 (by decide)).trans e202)
                    have p239 := (DLf_fx O192 ((Fx.rf (wr := [2410]) (h := h188)).pI e199 hh234 rfl) e199 rfl p196) (by rw [e240]; omega)
                    refine g_aload_n C rfl 0 rfl dX12_rules_115 ?_
                    refine g_aload_n C rfl 0 rfl dX12_rules_116 ?_
                    have e241 : Tg h235 a0 = 12 := ((pIT hh234).trans e199)
                    refine gf_I C fk_LandSurveyModel_339 rfl e241 (pI_e hh234) dX12_rules_117 ?_
                    refine g_iconst C dX12_rules_120 ?_
                    have f242 : (1 : Int) ≤ ((v1 + 1) - 1) ∧ ((v1 + 1) - 1) ≤ (7 : Int) := ia_sub f233 (il 1) (by decide) (by decide)
                    refine g_isub C dX12_rules_121 ?_
                    refine g_callV (st := []) (gc_V C lk_LandSurveyModel_354 (k_X12_keeps l D cy w z0 O236 e241 (iw f242 (by decide) (by decide)) ⟨p237, p238, p239⟩) e241 rfl rfl rfl ⟨by decide, by decide⟩ (Nat.le_of_ble_eq_true rfl) dX12_rules_122 ⟨(by decide), (by decide)⟩) (fun h244 K245 => ?_)
                    obtain ⟨O247, F248, p249⟩ := K245
                    have e250 : Iv h244 a0 10 = (v1 + 1) := ((fxI F248 e241 rfl).trans (pI_e hh234))
                    have p251 : MInv h244 a0 := ⟨by rw [e250]; have z := p249.1; rw [show ((v1 + 1) - 1 + 1 : Int) = (v1 + 1) by omega] at z; exact z, p249.2⟩
                    refine g_aload_n C rfl 0 rfl dX12_rules_125 ?_
                    refine g_iconst C dX12_rules_126 ?_
                    have e252 : Tg h244 a0 = 12 := (fxT F248 e241)
                    refine gp_I C fk_LandSurveyModel_290 pk_LandSurveyModel_35 rfl e252 (iw (il 1) (by decide) (by decide)) (nar_z2 (iw (il 1) (by decide) (by decide))) dX12_rules_127 (fun h254 hh253 => ?_)
                    have O255 := O247.pI e252 hh253 rI_12_35 (iw (il 1) (by decide) (by decide)) nofun
                    refine g_aload_n C rfl 0 rfl dX12_rules_130 ?_
                    have e256 : Tg h254 a0 = 12 := ((pIT hh253).trans e252)
                    have e257 : Iv h254 a0 8 = v201 := ((pI_j hh253 (by decide)).trans ((fxI F248 e241 rfl).trans e240))
                    refine gf_I C fk_LandSurveyModel_320 rfl e256 e257 dX12_rules_131 ?_
                    have p258 := (MInv_fx O247 ((Fx.rf (wr := [2435]) (h := h244)).pI e252 hh253 rfl) e252 rfl p251)
                    exact g_iret C hr rfl (iw f217 (by decide) (by decide)) ⟨O255, ((((((((Fx.rf (wr := wr_k_X12_rules)).pI ta0 hh7 rfl).call F167 rfl).call F179 rfl).call F193 rfl).pI e199 hh234 rfl).call F248 rfl).pI e252 hh253 rfl), (iw f217 (by decide) (by decide)), p258⟩ (by decide) (by decide) dX12_rules_134
                  · exact (no_ne (il 0) (il 0) q232 (by decide)).elim
              · have f259 : (1 : Int) ≤ v222 ∧ v222 ≤ (4 : Int) := r_nl f224 q226
                refine g_aload_n C rfl 0 rfl dX12_rules_83 ?_
                refine g_callV (st := []) (gc_V C lk_LandSurveyModel_351 (k_X12_readNext l D cy w z0 O192 e199 ⟨p207, by rw [e198, p211]; omega, by rw [e202, e198, p211]; omega, by rw [e205, e198]; omega⟩ p195 p196) e199 rfl rfl rfl ⟨by decide, by decide⟩ (Nat.le_of_ble_eq_true rfl) dX12_rules_84 ⟨(by decide), (by decide)⟩) (fun h261 K262 => ?_)
                obtain ⟨O264, F265, p266, p267, p268, p269, p270⟩ := K262
                obtain ⟨v271, e272⟩ : ∃ z, Iv h261 a0 7 = z := ⟨_, rfl⟩
                have e273 : Tg h261 a0 = 12 := (fxT F265 e199)
                have f274 := ok_I O264 e273 rI_12_7 e272
                obtain ⟨v275, e276⟩ : ∃ z, Iv h261 a0 8 = z := ⟨_, rfl⟩
                have f277 := ok_I O264 e273 rI_12_8 e276
                obtain ⟨v278, e279⟩ : ∃ z, Iv h261 a0 28 = z := ⟨_, rfl⟩
                have f280 := ok_I O264 e273 rI_12_28 e279
                obtain ⟨p281, p282, p283, p284⟩ := p266
                have p285 := ((NT_fx O192 F265 e199 rfl).trans p211)
                rw [e272, p285] at p282
                rw [e276, e272, p285] at p283
                rw [e279, e272] at p284
                have p286 := p267
                unfold ST at p286
                rw [e198, e272, e205, e279, e202, e276] at p286
                rw [e276, e198, e272] at p270
                refine g_goto C 64 (by decide) dX12_rules_87 ?_
                refine GW.sub [0, 1] rfl ?_
                exact ih190 _ (by rw [← hm191, e202, e198, e276, e272]; exact mqF_lt (by omega) (by omega) (by omega)) h261 rfl O264 (F193.call F265 rfl) ⟨p281, by rw [e272, p285]; omega, by rw [e276, e272, p285]; omega, by rw [e279, e272]; omega⟩ p268 p269
        have e287 : Iv h175 a0 7 = 0 := ((fxI F179 e172 rfl).trans p168.2.1)
        have e288 : Iv h175 a0 8 = 0 := ((fxI F179 e172 rfl).trans p168.2.2)
        have p289 := (TK_fx O166 F179 e172 rfl p168.1)
        have p290 := ((NT_fx O166 F179 e172 rfl).trans e170)
        have e291 : Iv h175 (Rv h175 a0 24) 8 = 0 := by rw [e183]; exact e187
        exact L189 _ h175 rfl O178 Fx.rf ⟨p289, by rw [e287, p290]; omega, by rw [e288, e287, p290]; omega, by rw [p181.1, e287]; omega⟩ p180 (fun _ k hk => absurd hk (by rw [e291]; omega))
      · have f292 : (8 : Int) ≤ v1 ∧ v1 ≤ (8 : Int) := ii f147 (r_eq (il 8) q160) (by decide) (by decide)
        refine g_iload_n C rfl 0 rfl dX12_rules_45 ?_
        refine g_if_ne C (iw (il 0) (by decide) (by decide)) 56 (by decide) dX12_rules_46 (fun q293 => ?_) (fun q294 => ?_)
        · exact (no_ne (il 0) (il 0) q293 (by decide)).elim
        · refine g_aload_n C rfl 1 rfl dX12_rules_49 ?_
          refine g_iconst C dX12_rules_50 ?_
          refine gp_I C fk_LandSurveyModel_11 pk_LandSurveyModel_2 rfl e10 (iw (il 0) (by decide) (by decide)) (nf_i _) dX12_rules_51 (fun h296 hh295 => ?_)
          have O297 := O9.pI e10 hh295 rI_12_2 (iw (il 0) (by decide) (by decide)) nofun
          refine g_iconst C dX12_rules_54 ?_
          have p298 := (MInv_fx O9 ((Fx.rf (wr := [2402]) (h := h8)).pI e10 hh295 rfl) e10 rfl (MInv_fx O ((Fx.rf (wr := [2400]) (h := h)).pI ta0 hh7 rfl) ta0 rfl P_MInv))
          exact g_iret C hr rfl (iw (il (-1)) (by decide) (by decide)) ⟨O297, (((Fx.rf (wr := wr_k_X12_rules)).pI ta0 hh7 rfl).pI e10 hh295 rfl), (iw (il (-1)) (by decide) (by decide)), p298⟩ (by decide) (by decide) dX12_rules_55
    · refine g_iconst C dX12_rules_30 ?_
      refine g_goto C 35 (by decide) dX12_rules_31 ?_
      refine g_istore_n C [(1, .inl 1), (0, .inr (.inr a0))] rfl (by decide) rfl dX12_rules_35 ?_
      refine g_aload_n C rfl 1 rfl dX12_rules_36 ?_
      refine gf_I C fk_LandSurveyModel_339 rfl e10 e11 dX12_rules_37 ?_
      refine g_bipush C (by decide) dX12_rules_40 ?_
      refine g_icmp_ne C (iw f147 (by decide) (by decide)) (iw (il 8) (by decide) (by decide)) 56 (by decide) dX12_rules_42 (fun q299 => ?_) (fun q300 => ?_)
      · have f301 : (1 : Int) ≤ v1 ∧ v1 ≤ (7 : Int) := r_nh f147 q299
        refine g_aload_n C rfl 1 rfl dX12_rules_56 ?_
        refine g_callV (st := []) (gc_V C lk_LandSurveyModel_345 (k_X12_cutAll l D cy w z0 O9 e10) e10 rfl rfl rfl ⟨by decide, by decide⟩ (Nat.le_of_ble_eq_true rfl) dX12_rules_57 ⟨(by decide), (by decide)⟩) (fun h303 K304 => ?_)
        obtain ⟨O306, F307, p308⟩ := K304
        obtain ⟨v309, e310⟩ : ∃ z, NT h303 a0 = z := ⟨_, rfl⟩
        have f311 : (0 : Int) ≤ v309 ∧ v309 ≤ (1500 : Int) := NT_rng p308.1 e310
        refine g_aload_n C rfl 1 rfl dX12_rules_60 ?_
        have e312 : Tg h303 a0 = 12 := (fxT F307 e10)
        have p313 := (MInv_fx O9 F307 e10 rfl (MInv_fx O ((Fx.rf (wr := [2400]) (h := h)).pI ta0 hh7 rfl) ta0 rfl P_MInv))
        refine g_callV (st := []) (gc_V C lk_LandSurveyModel_348 (k_X12_begins l D cy w z0 O306 e312 p313) e312 rfl rfl rfl ⟨by decide, by decide⟩ (Nat.le_of_ble_eq_true rfl) dX12_rules_61 ⟨(by decide), (by decide)⟩) (fun h315 K316 => ?_)
        obtain ⟨O318, F319, p320, p321⟩ := K316
        obtain ⟨v322, e323⟩ : ∃ z, Rv h315 a0 24 = z := ⟨_, rfl⟩
        have e324 : Tg h315 a0 = 12 := (fxT F319 e312)
        have t325 := ok_R O318 e324 rE_12_24 e323
        have l326 := ok_L O318 e324 rE_12_24 e323
        have e327 := p321.2
        rw [e323] at e327
        refine GW.sub [1, 0] rfl ?_
        -- loop at 64
        have L329 : ∀ (μ : Nat) (h328 : Hp), (mqF (Iv h328 a0 8) (Iv h328 a0 7)).toNat = μ → Okh h328 → Fx [2407, 2408, 2428, 22420000, 22620400, 22820000, 23020000, 23220200, 23420200, 23620200, 23820000, 24020200, 24220000, 24420000, 24620000, 24820000, 25020000, 25220000, 25420000, 25820000, 26020000] h315 h328 → (RD h328 a0) → (MInv h328 a0) → (DLf h328 a0) → GW p l e (rmm 24 531 0 0) s m (List.map toV [.inr (.inr a0)]).toArray below meth c D cy z0 2 (MQ below (QI D cy z0 (fun v h1 => Okh h1 ∧ Fx wr_k_X12_rules h h1 ∧ ((-1) ≤ v ∧ v ≤ 24005) ∧ (MInv h1 a0))) (List.map toV [.inr (.inr a0)]).toArray s 0 0 (Aof z0)) 64 [(0, .inr (.inr a0)), (1, .inl 1)] [] h328 0 0 := by
          intro μ
          induction μ using Nat.strongRecOn with
          | ind μ ih330 =>
            intro h328 hm331 O332 F333 p334 p335 p336
            obtain ⟨v337, e338⟩ : ∃ z, Iv h328 a0 7 = z := ⟨_, rfl⟩
            have e339 : Tg h328 a0 = 12 := (fxT F333 e324)
            have f340 := ok_I O332 e339 rI_12_7 e338
            obtain ⟨v341, e342⟩ : ∃ z, Iv h328 a0 8 = z := ⟨_, rfl⟩
            have f343 := ok_I O332 e339 rI_12_8 e342
            obtain ⟨v344, e345⟩ : ∃ z, Iv h328 a0 28 = z := ⟨_, rfl⟩
            have f346 := ok_I O332 e339 rI_12_28 e345
            obtain ⟨p347, p348, p349, p350⟩ := p334
            have p351 := ((NT_fx O318 F333 e324 rfl).trans ((NT_fx O306 F319 e312 rfl).trans e310))
            rw [e338, p351] at p348
            rw [e342, e338, p351] at p349
            rw [e345, e338] at p350
            refine g_aload_n C rfl 0 rfl dX12_rules_64 ?_
            refine gf_I C fk_LandSurveyModel_320 rfl e339 e342 dX12_rules_65 ?_
            refine g_if_ne C (iw f343 (by decide) (by decide)) 90 (by decide) dX12_rules_68 (fun q352 => ?_) (fun q353 => ?_)
            · have f354 : (1 : Int) ≤ v341 ∧ v341 ≤ (24005 : Int) := r_nl f343 q352
              refine g_aload_n C rfl 0 rfl dX12_rules_90 ?_
              refine gf_I C fk_LandSurveyModel_320 rfl e339 e342 dX12_rules_91 ?_
              refine g_if_ne C (iw f354 (by decide) (by decide)) 130 (by decide) dX12_rules_94 (fun q355 => ?_) (fun q356 => ?_)
              · refine g_aload_n C rfl 0 rfl dX12_rules_130 ?_
                refine gf_I C fk_LandSurveyModel_320 rfl e339 e342 dX12_rules_131 ?_
                exact g_iret C hr rfl (iw f354 (by decide) (by decide)) ⟨O332, (((((Fx.rf (wr := wr_k_X12_rules)).pI ta0 hh7 rfl).call F307 rfl).call F319 rfl).call F333 rfl), (iw f354 (by decide) (by decide)), p335⟩ (by decide) (by decide) dX12_rules_134
              · exact (no_eq f354 (il 0) q356 (by decide)).elim
            · have f357 : (0 : Int) ≤ v341 ∧ v341 ≤ (0 : Int) := ii f343 (r_eq (il 0) q353) (by decide) (by decide)
              refine g_aload_n C rfl 0 rfl dX12_rules_71 ?_
              obtain ⟨v358, e359⟩ : ∃ z, Rv h328 a0 4 = z := ⟨_, rfl⟩
              have t360 := ok_R O332 e339 rE_12_4 e359
              have l361 := ok_L O332 e339 rE_12_4 e359
              refine gf_R C fk_LandSurveyModel_24 rfl e339 e359 dX12_rules_72 ?_
              refine g_aload_n C rfl 0 rfl dX12_rules_75 ?_
              refine gf_I C fk_LandSurveyModel_317 rfl e339 e338 dX12_rules_76 ?_
              obtain ⟨v362, e363⟩ : ∃ z, Iv h328 v358 v337.toNat = z := ⟨_, rfl⟩
              have f364 := ok_Ia O332 t360 ar_104100 rI_104100_0 e363
              refine g_iald C t360 rfl l361 (ix f340 (by decide) (by decide)) e363 dX12_rules_79 ?_
              refine g_if_eq C (iw f364 (by decide) (by decide)) 90 (by decide) dX12_rules_80 (fun q365 => ?_) (fun q366 => ?_)
              · have f367 : (0 : Int) ≤ v362 ∧ v362 ≤ (0 : Int) := ii f364 (r_eq (il 0) q365) (by decide) (by decide)
                refine g_aload_n C rfl 0 rfl dX12_rules_90 ?_
                refine gf_I C fk_LandSurveyModel_320 rfl e339 e342 dX12_rules_91 ?_
                refine g_if_ne C (iw f357 (by decide) (by decide)) 130 (by decide) dX12_rules_94 (fun q368 => ?_) (fun q369 => ?_)
                · exact (no_ne f357 (il 0) q368 (by decide)).elim
                · refine g_aload_n C rfl 0 rfl dX12_rules_97 ?_
                  refine g_dup C rfl dX12_rules_98 ?_
                  have e370 : Iv h328 a0 10 = v1 := ((fxI F333 e324 rfl).trans ((fxI F319 e312 rfl).trans ((fxI F307 e10 rfl).trans e11)))
                  refine gf_I C fk_LandSurveyModel_339 rfl e339 e370 dX12_rules_99 ?_
                  refine g_iload_n C rfl 1 rfl dX12_rules_102 ?_
                  refine g_if_eq C (iw (il 1) (by decide) (by decide)) 110 (by decide) dX12_rules_103 (fun q371 => ?_) (fun q372 => ?_)
                  · exact (no_eq (il 1) (il 0) q371 (by decide)).elim
                  · refine g_iconst C dX12_rules_106 ?_
                    refine g_goto C 111 (by decide) dX12_rules_107 ?_
                    have f373 : (1 : Int) ≤ (v1 + 0) ∧ (v1 + 0) ≤ (7 : Int) := ia_add f301 (il 0) (by decide) (by decide)
                    refine g_iadd C dX12_rules_111 ?_
                    refine gp_I C fk_LandSurveyModel_339 pk_LandSurveyModel_10 rfl e339 (iw f373 (by decide) (by decide)) (nf_i _) dX12_rules_112 (fun h375 hh374 => ?_)
                    have O376 := O332.pI e339 hh374 rI_12_10 (iw f373 (by decide) (by decide)) nofun
                    have p377 : BKn h375 a0 ((v1 + 0) - 1) := fun d hd => BKb_fx O332 ((Fx.rf (wr := [2410]) (h := h328)).pI e339 hh374 rfl) e339 rfl (p335.1 d (by rw [e370]; omega))
                    have p378 := LA_fx O332 ((Fx.rf (wr := [2410]) (h := h328)).pI e339 hh374 rfl) e339 rfl p335.2
                    have e380 : Iv h375 a0 8 = v341 := ((pI_j hh374 (by decide)).trans e342)
                    have p379 := (DLf_fx O332 ((Fx.rf (wr := [2410]) (h := h328)).pI e339 hh374 rfl) e339 rfl p336) (by rw [e380]; omega)
                    refine g_aload_n C rfl 0 rfl dX12_rules_115 ?_
                    refine g_aload_n C rfl 0 rfl dX12_rules_116 ?_
                    have e381 : Tg h375 a0 = 12 := ((pIT hh374).trans e339)
                    refine gf_I C fk_LandSurveyModel_339 rfl e381 (pI_e hh374) dX12_rules_117 ?_
                    refine g_iconst C dX12_rules_120 ?_
                    have f382 : (0 : Int) ≤ ((v1 + 0) - 1) ∧ ((v1 + 0) - 1) ≤ (6 : Int) := ia_sub f373 (il 1) (by decide) (by decide)
                    refine g_isub C dX12_rules_121 ?_
                    refine g_callV (st := []) (gc_V C lk_LandSurveyModel_354 (k_X12_keeps l D cy w z0 O376 e381 (iw f382 (by decide) (by decide)) ⟨p377, p378, p379⟩) e381 rfl rfl rfl ⟨by decide, by decide⟩ (Nat.le_of_ble_eq_true rfl) dX12_rules_122 ⟨(by decide), (by decide)⟩) (fun h384 K385 => ?_)
                    obtain ⟨O387, F388, p389⟩ := K385
                    have e390 : Iv h384 a0 10 = (v1 + 0) := ((fxI F388 e381 rfl).trans (pI_e hh374))
                    have p391 : MInv h384 a0 := ⟨by rw [e390]; have z := p389.1; rw [show ((v1 + 0) - 1 + 1 : Int) = (v1 + 0) by omega] at z; exact z, p389.2⟩
                    refine g_aload_n C rfl 0 rfl dX12_rules_125 ?_
                    refine g_iconst C dX12_rules_126 ?_
                    have e392 : Tg h384 a0 = 12 := (fxT F388 e381)
                    refine gp_I C fk_LandSurveyModel_290 pk_LandSurveyModel_35 rfl e392 (iw (il 1) (by decide) (by decide)) (nar_z2 (iw (il 1) (by decide) (by decide))) dX12_rules_127 (fun h394 hh393 => ?_)
                    have O395 := O387.pI e392 hh393 rI_12_35 (iw (il 1) (by decide) (by decide)) nofun
                    refine g_aload_n C rfl 0 rfl dX12_rules_130 ?_
                    have e396 : Tg h394 a0 = 12 := ((pIT hh393).trans e392)
                    have e397 : Iv h394 a0 8 = v341 := ((pI_j hh393 (by decide)).trans ((fxI F388 e381 rfl).trans e380))
                    refine gf_I C fk_LandSurveyModel_320 rfl e396 e397 dX12_rules_131 ?_
                    have p398 := (MInv_fx O387 ((Fx.rf (wr := [2435]) (h := h384)).pI e392 hh393 rfl) e392 rfl p391)
                    exact g_iret C hr rfl (iw f357 (by decide) (by decide)) ⟨O395, ((((((((Fx.rf (wr := wr_k_X12_rules)).pI ta0 hh7 rfl).call F307 rfl).call F319 rfl).call F333 rfl).pI e339 hh374 rfl).call F388 rfl).pI e392 hh393 rfl), (iw f357 (by decide) (by decide)), p398⟩ (by decide) (by decide) dX12_rules_134
              · have f399 : (1 : Int) ≤ v362 ∧ v362 ≤ (4 : Int) := r_nl f364 q366
                refine g_aload_n C rfl 0 rfl dX12_rules_83 ?_
                refine g_callV (st := []) (gc_V C lk_LandSurveyModel_351 (k_X12_readNext l D cy w z0 O332 e339 ⟨p347, by rw [e338, p351]; omega, by rw [e342, e338, p351]; omega, by rw [e345, e338]; omega⟩ p335 p336) e339 rfl rfl rfl ⟨by decide, by decide⟩ (Nat.le_of_ble_eq_true rfl) dX12_rules_84 ⟨(by decide), (by decide)⟩) (fun h401 K402 => ?_)
                obtain ⟨O404, F405, p406, p407, p408, p409, p410⟩ := K402
                obtain ⟨v411, e412⟩ : ∃ z, Iv h401 a0 7 = z := ⟨_, rfl⟩
                have e413 : Tg h401 a0 = 12 := (fxT F405 e339)
                have f414 := ok_I O404 e413 rI_12_7 e412
                obtain ⟨v415, e416⟩ : ∃ z, Iv h401 a0 8 = z := ⟨_, rfl⟩
                have f417 := ok_I O404 e413 rI_12_8 e416
                obtain ⟨v418, e419⟩ : ∃ z, Iv h401 a0 28 = z := ⟨_, rfl⟩
                have f420 := ok_I O404 e413 rI_12_28 e419
                obtain ⟨p421, p422, p423, p424⟩ := p406
                have p425 := ((NT_fx O332 F405 e339 rfl).trans p351)
                rw [e412, p425] at p422
                rw [e416, e412, p425] at p423
                rw [e419, e412] at p424
                have p426 := p407
                unfold ST at p426
                rw [e338, e412, e345, e419, e342, e416] at p426
                rw [e416, e338, e412] at p410
                refine g_goto C 64 (by decide) dX12_rules_87 ?_
                refine GW.sub [0, 1] rfl ?_
                exact ih330 _ (by rw [← hm331, e342, e338, e416, e412]; exact mqF_lt (by omega) (by omega) (by omega)) h401 rfl O404 (F333.call F405 rfl) ⟨p421, by rw [e412, p425]; omega, by rw [e416, e412, p425]; omega, by rw [e419, e412]; omega⟩ p408 p409
        have e427 : Iv h315 a0 7 = 0 := ((fxI F319 e312 rfl).trans p308.2.1)
        have e428 : Iv h315 a0 8 = 0 := ((fxI F319 e312 rfl).trans p308.2.2)
        have p429 := (TK_fx O306 F319 e312 rfl p308.1)
        have p430 := ((NT_fx O306 F319 e312 rfl).trans e310)
        have e431 : Iv h315 (Rv h315 a0 24) 8 = 0 := by rw [e323]; exact e327
        exact L329 _ h315 rfl O318 Fx.rf ⟨p429, by rw [e427, p430]; omega, by rw [e428, e427, p430]; omega, by rw [p321.1, e427]; omega⟩ p320 (fun _ k hk => absurd hk (by rw [e431]; omega))
      · have f432 : (8 : Int) ≤ v1 ∧ v1 ≤ (8 : Int) := ii f147 (r_eq (il 8) q300) (by decide) (by decide)
        refine g_iload_n C rfl 0 rfl dX12_rules_45 ?_
        refine g_if_ne C (iw (il 1) (by decide) (by decide)) 56 (by decide) dX12_rules_46 (fun q433 => ?_) (fun q434 => ?_)
        · refine g_aload_n C rfl 1 rfl dX12_rules_56 ?_
          refine g_callV (st := []) (gc_V C lk_LandSurveyModel_345 (k_X12_cutAll l D cy w z0 O9 e10) e10 rfl rfl rfl ⟨by decide, by decide⟩ (Nat.le_of_ble_eq_true rfl) dX12_rules_57 ⟨(by decide), (by decide)⟩) (fun h436 K437 => ?_)
          obtain ⟨O439, F440, p441⟩ := K437
          obtain ⟨v442, e443⟩ : ∃ z, NT h436 a0 = z := ⟨_, rfl⟩
          have f444 : (0 : Int) ≤ v442 ∧ v442 ≤ (1500 : Int) := NT_rng p441.1 e443
          refine g_aload_n C rfl 1 rfl dX12_rules_60 ?_
          have e445 : Tg h436 a0 = 12 := (fxT F440 e10)
          have p446 := (MInv_fx O9 F440 e10 rfl (MInv_fx O ((Fx.rf (wr := [2400]) (h := h)).pI ta0 hh7 rfl) ta0 rfl P_MInv))
          refine g_callV (st := []) (gc_V C lk_LandSurveyModel_348 (k_X12_begins l D cy w z0 O439 e445 p446) e445 rfl rfl rfl ⟨by decide, by decide⟩ (Nat.le_of_ble_eq_true rfl) dX12_rules_61 ⟨(by decide), (by decide)⟩) (fun h448 K449 => ?_)
          obtain ⟨O451, F452, p453, p454⟩ := K449
          obtain ⟨v455, e456⟩ : ∃ z, Rv h448 a0 24 = z := ⟨_, rfl⟩
          have e457 : Tg h448 a0 = 12 := (fxT F452 e445)
          have t458 := ok_R O451 e457 rE_12_24 e456
          have l459 := ok_L O451 e457 rE_12_24 e456
          have e460 := p454.2
          rw [e456] at e460
          refine GW.sub [1, 0] rfl ?_
          -- loop at 64
          have L462 : ∀ (μ : Nat) (h461 : Hp), (mqF (Iv h461 a0 8) (Iv h461 a0 7)).toNat = μ → Okh h461 → Fx [2407, 2408, 2428, 22420000, 22620400, 22820000, 23020000, 23220200, 23420200, 23620200, 23820000, 24020200, 24220000, 24420000, 24620000, 24820000, 25020000, 25220000, 25420000, 25820000, 26020000] h448 h461 → (RD h461 a0) → (MInv h461 a0) → (DLf h461 a0) → GW p l e (rmm 24 531 0 0) s m (List.map toV [.inr (.inr a0)]).toArray below meth c D cy z0 2 (MQ below (QI D cy z0 (fun v h1 => Okh h1 ∧ Fx wr_k_X12_rules h h1 ∧ ((-1) ≤ v ∧ v ≤ 24005) ∧ (MInv h1 a0))) (List.map toV [.inr (.inr a0)]).toArray s 0 0 (Aof z0)) 64 [(0, .inr (.inr a0)), (1, .inl 1)] [] h461 0 0 := by
            intro μ
            induction μ using Nat.strongRecOn with
            | ind μ ih463 =>
              intro h461 hm464 O465 F466 p467 p468 p469
              obtain ⟨v470, e471⟩ : ∃ z, Iv h461 a0 7 = z := ⟨_, rfl⟩
              have e472 : Tg h461 a0 = 12 := (fxT F466 e457)
              have f473 := ok_I O465 e472 rI_12_7 e471
              obtain ⟨v474, e475⟩ : ∃ z, Iv h461 a0 8 = z := ⟨_, rfl⟩
              have f476 := ok_I O465 e472 rI_12_8 e475
              obtain ⟨v477, e478⟩ : ∃ z, Iv h461 a0 28 = z := ⟨_, rfl⟩
              have f479 := ok_I O465 e472 rI_12_28 e478
              obtain ⟨p480, p481, p482, p483⟩ := p467
              have p484 := ((NT_fx O451 F466 e457 rfl).trans ((NT_fx O439 F452 e445 rfl).trans e443))
              rw [e471, p484] at p481
              rw [e475, e471, p484] at p482
              rw [e478, e471] at p483
              refine g_aload_n C rfl 0 rfl dX12_rules_64 ?_
              refine gf_I C fk_LandSurveyModel_320 rfl e472 e475 dX12_rules_65 ?_
              refine g_if_ne C (iw f476 (by decide) (by decide)) 90 (by decide) dX12_rules_68 (fun q485 => ?_) (fun q486 => ?_)
              · have f487 : (1 : Int) ≤ v474 ∧ v474 ≤ (24005 : Int) := r_nl f476 q485
                refine g_aload_n C rfl 0 rfl dX12_rules_90 ?_
                refine gf_I C fk_LandSurveyModel_320 rfl e472 e475 dX12_rules_91 ?_
                refine g_if_ne C (iw f487 (by decide) (by decide)) 130 (by decide) dX12_rules_94 (fun q488 => ?_) (fun q489 => ?_)
                · refine g_aload_n C rfl 0 rfl dX12_rules_130 ?_
                  refine gf_I C fk_LandSurveyModel_320 rfl e472 e475 dX12_rules_131 ?_
                  exact g_iret C hr rfl (iw f487 (by decide) (by decide)) ⟨O465, (((((Fx.rf (wr := wr_k_X12_rules)).pI ta0 hh7 rfl).call F440 rfl).call F452 rfl).call F466 rfl), (iw f487 (by decide) (by decide)), p468⟩ (by decide) (by decide) dX12_rules_134
                · exact (no_eq f487 (il 0) q489 (by decide)).elim
              · have f490 : (0 : Int) ≤ v474 ∧ v474 ≤ (0 : Int) := ii f476 (r_eq (il 0) q486) (by decide) (by decide)
                refine g_aload_n C rfl 0 rfl dX12_rules_71 ?_
                obtain ⟨v491, e492⟩ : ∃ z, Rv h461 a0 4 = z := ⟨_, rfl⟩
                have t493 := ok_R O465 e472 rE_12_4 e492
                have l494 := ok_L O465 e472 rE_12_4 e492
                refine gf_R C fk_LandSurveyModel_24 rfl e472 e492 dX12_rules_72 ?_
                refine g_aload_n C rfl 0 rfl dX12_rules_75 ?_
                refine gf_I C fk_LandSurveyModel_317 rfl e472 e471 dX12_rules_76 ?_
                obtain ⟨v495, e496⟩ : ∃ z, Iv h461 v491 v470.toNat = z := ⟨_, rfl⟩
                have f497 := ok_Ia O465 t493 ar_104100 rI_104100_0 e496
                refine g_iald C t493 rfl l494 (ix f473 (by decide) (by decide)) e496 dX12_rules_79 ?_
                refine g_if_eq C (iw f497 (by decide) (by decide)) 90 (by decide) dX12_rules_80 (fun q498 => ?_) (fun q499 => ?_)
                · have f500 : (0 : Int) ≤ v495 ∧ v495 ≤ (0 : Int) := ii f497 (r_eq (il 0) q498) (by decide) (by decide)
                  refine g_aload_n C rfl 0 rfl dX12_rules_90 ?_
                  refine gf_I C fk_LandSurveyModel_320 rfl e472 e475 dX12_rules_91 ?_
                  refine g_if_ne C (iw f490 (by decide) (by decide)) 130 (by decide) dX12_rules_94 (fun q501 => ?_) (fun q502 => ?_)
                  · exact (no_ne f490 (il 0) q501 (by decide)).elim
                  · refine g_aload_n C rfl 0 rfl dX12_rules_97 ?_
                    refine g_dup C rfl dX12_rules_98 ?_
                    have e503 : Iv h461 a0 10 = v1 := ((fxI F466 e457 rfl).trans ((fxI F452 e445 rfl).trans ((fxI F440 e10 rfl).trans e11)))
                    refine gf_I C fk_LandSurveyModel_339 rfl e472 e503 dX12_rules_99 ?_
                    refine g_iload_n C rfl 1 rfl dX12_rules_102 ?_
                    refine g_if_eq C (iw (il 1) (by decide) (by decide)) 110 (by decide) dX12_rules_103 (fun q504 => ?_) (fun q505 => ?_)
                    · exact (no_eq (il 1) (il 0) q504 (by decide)).elim
                    · refine g_iconst C dX12_rules_106 ?_
                      refine g_goto C 111 (by decide) dX12_rules_107 ?_
                      have f506 : (8 : Int) ≤ (v1 + 0) ∧ (v1 + 0) ≤ (8 : Int) := ia_add f432 (il 0) (by decide) (by decide)
                      refine g_iadd C dX12_rules_111 ?_
                      refine gp_I C fk_LandSurveyModel_339 pk_LandSurveyModel_10 rfl e472 (iw f506 (by decide) (by decide)) (nf_i _) dX12_rules_112 (fun h508 hh507 => ?_)
                      have O509 := O465.pI e472 hh507 rI_12_10 (iw f506 (by decide) (by decide)) nofun
                      have p510 : BKn h508 a0 ((v1 + 0) - 1) := fun d hd => BKb_fx O465 ((Fx.rf (wr := [2410]) (h := h461)).pI e472 hh507 rfl) e472 rfl (p468.1 d (by rw [e503]; omega))
                      have p511 := LA_fx O465 ((Fx.rf (wr := [2410]) (h := h461)).pI e472 hh507 rfl) e472 rfl p468.2
                      have e513 : Iv h508 a0 8 = v474 := ((pI_j hh507 (by decide)).trans e475)
                      have p512 := (DLf_fx O465 ((Fx.rf (wr := [2410]) (h := h461)).pI e472 hh507 rfl) e472 rfl p469) (by rw [e513]; omega)
                      refine g_aload_n C rfl 0 rfl dX12_rules_115 ?_
                      refine g_aload_n C rfl 0 rfl dX12_rules_116 ?_
                      have e514 : Tg h508 a0 = 12 := ((pIT hh507).trans e472)
                      refine gf_I C fk_LandSurveyModel_339 rfl e514 (pI_e hh507) dX12_rules_117 ?_
                      refine g_iconst C dX12_rules_120 ?_
                      have f515 : (7 : Int) ≤ ((v1 + 0) - 1) ∧ ((v1 + 0) - 1) ≤ (7 : Int) := ia_sub f506 (il 1) (by decide) (by decide)
                      refine g_isub C dX12_rules_121 ?_
                      refine g_callV (st := []) (gc_V C lk_LandSurveyModel_354 (k_X12_keeps l D cy w z0 O509 e514 (iw f515 (by decide) (by decide)) ⟨p510, p511, p512⟩) e514 rfl rfl rfl ⟨by decide, by decide⟩ (Nat.le_of_ble_eq_true rfl) dX12_rules_122 ⟨(by decide), (by decide)⟩) (fun h517 K518 => ?_)
                      obtain ⟨O520, F521, p522⟩ := K518
                      have e523 : Iv h517 a0 10 = (v1 + 0) := ((fxI F521 e514 rfl).trans (pI_e hh507))
                      have p524 : MInv h517 a0 := ⟨by rw [e523]; have z := p522.1; rw [show ((v1 + 0) - 1 + 1 : Int) = (v1 + 0) by omega] at z; exact z, p522.2⟩
                      refine g_aload_n C rfl 0 rfl dX12_rules_125 ?_
                      refine g_iconst C dX12_rules_126 ?_
                      have e525 : Tg h517 a0 = 12 := (fxT F521 e514)
                      refine gp_I C fk_LandSurveyModel_290 pk_LandSurveyModel_35 rfl e525 (iw (il 1) (by decide) (by decide)) (nar_z2 (iw (il 1) (by decide) (by decide))) dX12_rules_127 (fun h527 hh526 => ?_)
                      have O528 := O520.pI e525 hh526 rI_12_35 (iw (il 1) (by decide) (by decide)) nofun
                      refine g_aload_n C rfl 0 rfl dX12_rules_130 ?_
                      have e529 : Tg h527 a0 = 12 := ((pIT hh526).trans e525)
                      have e530 : Iv h527 a0 8 = v474 := ((pI_j hh526 (by decide)).trans ((fxI F521 e514 rfl).trans e513))
                      refine gf_I C fk_LandSurveyModel_320 rfl e529 e530 dX12_rules_131 ?_
                      have p531 := (MInv_fx O520 ((Fx.rf (wr := [2435]) (h := h517)).pI e525 hh526 rfl) e525 rfl p524)
                      exact g_iret C hr rfl (iw f490 (by decide) (by decide)) ⟨O528, ((((((((Fx.rf (wr := wr_k_X12_rules)).pI ta0 hh7 rfl).call F440 rfl).call F452 rfl).call F466 rfl).pI e472 hh507 rfl).call F521 rfl).pI e525 hh526 rfl), (iw f490 (by decide) (by decide)), p531⟩ (by decide) (by decide) dX12_rules_134
                · have f532 : (1 : Int) ≤ v495 ∧ v495 ≤ (4 : Int) := r_nl f497 q499
                  refine g_aload_n C rfl 0 rfl dX12_rules_83 ?_
                  refine g_callV (st := []) (gc_V C lk_LandSurveyModel_351 (k_X12_readNext l D cy w z0 O465 e472 ⟨p480, by rw [e471, p484]; omega, by rw [e475, e471, p484]; omega, by rw [e478, e471]; omega⟩ p468 p469) e472 rfl rfl rfl ⟨by decide, by decide⟩ (Nat.le_of_ble_eq_true rfl) dX12_rules_84 ⟨(by decide), (by decide)⟩) (fun h534 K535 => ?_)
                  obtain ⟨O537, F538, p539, p540, p541, p542, p543⟩ := K535
                  obtain ⟨v544, e545⟩ : ∃ z, Iv h534 a0 7 = z := ⟨_, rfl⟩
                  have e546 : Tg h534 a0 = 12 := (fxT F538 e472)
                  have f547 := ok_I O537 e546 rI_12_7 e545
                  obtain ⟨v548, e549⟩ : ∃ z, Iv h534 a0 8 = z := ⟨_, rfl⟩
                  have f550 := ok_I O537 e546 rI_12_8 e549
                  obtain ⟨v551, e552⟩ : ∃ z, Iv h534 a0 28 = z := ⟨_, rfl⟩
                  have f553 := ok_I O537 e546 rI_12_28 e552
                  obtain ⟨p554, p555, p556, p557⟩ := p539
                  have p558 := ((NT_fx O465 F538 e472 rfl).trans p484)
                  rw [e545, p558] at p555
                  rw [e549, e545, p558] at p556
                  rw [e552, e545] at p557
                  have p559 := p540
                  unfold ST at p559
                  rw [e471, e545, e478, e552, e475, e549] at p559
                  rw [e549, e471, e545] at p543
                  refine g_goto C 64 (by decide) dX12_rules_87 ?_
                  refine GW.sub [0, 1] rfl ?_
                  exact ih463 _ (by rw [← hm464, e475, e471, e549, e545]; exact mqF_lt (by omega) (by omega) (by omega)) h534 rfl O537 (F466.call F538 rfl) ⟨p554, by rw [e545, p558]; omega, by rw [e549, e545, p558]; omega, by rw [e552, e545]; omega⟩ p541 p542
          have e560 : Iv h448 a0 7 = 0 := ((fxI F452 e445 rfl).trans p441.2.1)
          have e561 : Iv h448 a0 8 = 0 := ((fxI F452 e445 rfl).trans p441.2.2)
          have p562 := (TK_fx O439 F452 e445 rfl p441.1)
          have p563 := ((NT_fx O439 F452 e445 rfl).trans e443)
          have e564 : Iv h448 (Rv h448 a0 24) 8 = 0 := by rw [e456]; exact e460
          exact L462 _ h448 rfl O451 Fx.rf ⟨p562, by rw [e560, p563]; omega, by rw [e561, e560, p563]; omega, by rw [p454.1, e560]; omega⟩ p453 (fun _ k hk => absurd hk (by rw [e564]; omega))
        · exact (no_eq (il 1) (il 0) q434 (by decide)).elim
