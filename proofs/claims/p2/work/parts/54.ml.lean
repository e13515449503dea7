abbrev cL_law : ByteArray := code
def yL_law : MethodName := ⟨"LandSurveyLaw", "law", "([I)Z"⟩
theorem okL_law : yok yL_law 1 := by decide +kernel
theorem dL_law_0 : decode cL_law 0 = .ok (.new 8, 3) := by decide +kernel
theorem kw_172 : Cond.classLink "LandSurveyLaw" 8 "LandSurvey" ∈ uu := uu_in (i := 172) (by decide +kernel) (by decide +kernel)
theorem kw_173 : Cond.instantiable "LandSurvey" 19 ∈ uu := uu_in (i := 173) (by decide +kernel) (by decide +kernel)
theorem dL_law_3 : decode cL_law 3 = .ok (.dup, 1) := by decide +kernel
theorem dL_law_4 : decode cL_law 4 = .ok (.invokespecial 26, 3) := by decide +kernel
theorem kw_176 : Cond.code yX11_init prog_1_method_1_code 1 none ∈ uu := uu_in (i := 176) (by decide +kernel) (by decide +kernel)
theorem kw_174 : Cond.methodLink "LandSurveyLaw" 26 yX11_init ∈ uu := uu_in (i := 174) (by decide +kernel) (by decide +kernel)
theorem kw_175 : Cond.instanceMethod yX11_init ∈ uu := uu_in (i := 175) (by decide +kernel) (by decide +kernel)
theorem lk_LandSurveyLaw_26 : lkI "LandSurveyLaw" 26 yX11_init cX11_init 1 none 0 := ⟨kw_174, kw_175, kw_144, kw_176, okX11_init, rfl⟩
theorem tbI_11_1011 : ∀ j, rI 11 j = rI 1011 j := tab_I (by decide +kernel)
theorem tbE_11_1011 : ∀ j, (rE 11 j).1 = (rE 1011 j).1 ∧ (rE 11 j).2.1 = (rE 1011 j).2.1 := tab_E (by decide +kernel)
theorem tbN_11 : ∀ j, (rE 11 j).2.2 = true → ([2, 3, 5, 6, 7, 8, 11, 13, 14, 18] : List Nat).elem j = true := tab_N _ (by decide +kernel)
theorem dL_law_7 : decode cL_law 7 = .ok (.astore_n 1, 1) := by decide +kernel
theorem dL_law_8 : decode cL_law 8 = .ok (.new 27, 3) := by decide +kernel
theorem kw_1471 : Cond.classLink "LandSurveyLaw" 27 "LandSurveyModel" ∈ uu := uu_in (i := 1471) (by decide +kernel) (by decide +kernel)
theorem kw_1469 : Cond.instantiable "LandSurveyModel" 87 ∈ uu := uu_in (i := 1469) (by decide +kernel) (by decide +kernel)
theorem dL_law_11 : decode cL_law 11 = .ok (.dup, 1) := by decide +kernel
theorem dL_law_12 : decode cL_law 12 = .ok (.invokespecial 29, 3) := by decide +kernel
theorem kw_1474 : Cond.code yX12_init prog_14_method_4_code 2 none ∈ uu := uu_in (i := 1474) (by decide +kernel) (by decide +kernel)
theorem kw_1472 : Cond.methodLink "LandSurveyLaw" 29 yX12_init ∈ uu := uu_in (i := 1472) (by decide +kernel) (by decide +kernel)
theorem kw_1473 : Cond.instanceMethod yX12_init ∈ uu := uu_in (i := 1473) (by decide +kernel) (by decide +kernel)
theorem lk_LandSurveyLaw_29 : lkI "LandSurveyLaw" 29 yX12_init cX12_init 2 none 0 := ⟨kw_1472, kw_1473, kw_152, kw_1474, okX12_init, rfl⟩
theorem tbI_12_1012 : ∀ j, rI 12 j = rI 1012 j := tab_I (by decide +kernel)
theorem tbE_12_1012 : ∀ j, (rE 12 j).1 = (rE 1012 j).1 ∧ (rE 12 j).2.1 = (rE 1012 j).2.1 := tab_E (by decide +kernel)
theorem tbN_12 : ∀ j, (rE 12 j).2.2 = true → ([1, 4, 5, 6, 9, 11, 12, 13, 14, 15, 16, 17, 18, 19, 20, 21, 22, 23, 24, 25, 26, 27, 29, 30, 31, 32, 36, 37, 38, 39, 41, 42, 43, 44, 45, 46, 47, 48, 49, 50, 51, 52, 53, 54, 55, 56, 58, 59, 60, 61, 63, 64, 65, 66, 67, 68, 70, 71, 72, 73, 74, 75, 76, 81, 82, 84, 85, 86] : List Nat).elem j = true := tab_N _ (by decide +kernel)
theorem dL_law_15 : decode cL_law 15 = .ok (.astore_n 2, 1) := by decide +kernel
theorem dL_law_16 : decode cL_law 16 = .ok (.iconst 1, 1) := by decide +kernel
theorem dL_law_17 : decode cL_law 17 = .ok (.newarray .long, 2) := by decide +kernel
theorem dL_law_19 : decode cL_law 19 = .ok (.astore_n 3, 1) := by decide +kernel
theorem dL_law_20 : decode cL_law 20 = .ok (.iconst 0, 1) := by decide +kernel
theorem dL_law_21 : decode cL_law 21 = .ok (.istore 4, 2) := by decide +kernel
theorem dL_law_23 : decode cL_law 23 = .ok (.iload 4, 2) := by decide +kernel
theorem dL_law_25 : decode cL_law 25 = .ok (.aload_n 0, 1) := by decide +kernel
theorem dL_law_26 : decode cL_law 26 = .ok (.arraylength, 1) := by decide +kernel
theorem dL_law_27 : decode cL_law 27 = .ok (.bipush 8, 2) := by decide +kernel
theorem dL_law_29 : decode cL_law 29 = .ok (.isub, 1) := by decide +kernel
theorem dL_law_30 : decode cL_law 30 = .ok (.if_icmp .gt 1872, 3) := by decide +kernel
theorem dL_law_1902 : decode cL_law 1902 = .ok (.iconst 1, 1) := by decide +kernel
theorem dL_law_1903 : decode cL_law 1903 = .ok (.ireturn, 1) := by decide +kernel
theorem dL_law_33 : decode cL_law 33 = .ok (.aload_n 0, 1) := by decide +kernel
theorem dL_law_34 : decode cL_law 34 = .ok (.iload 4, 2) := by decide +kernel
theorem dL_law_36 : decode cL_law 36 = .ok (.iaload, 1) := by decide +kernel
theorem dL_law_37 : decode cL_law 37 = .ok (.bipush 63, 2) := by decide +kernel
theorem dL_law_39 : decode cL_law 39 = .ok (.iand, 1) := by decide +kernel
theorem dL_law_40 : decode cL_law 40 = .ok (.tableswitch 1856 0 35 #[160, 185, 210, 287, 352, 401, 488, 549, 614, 639, 786, 799, 916, 941, 981, 1006, 1043, 1068, 1093, 1157, 1206, 1255, 1319, 1368, 1417, 1478, 1527, 1564, 1589, 1638, 1666, 1731, 1780, 1793, 1818, 1831], 160) := by decide +kernel
theorem dL_law_200 : decode cL_law 200 = .ok (.aload_n 1, 1) := by decide +kernel
theorem dL_law_201 : decode cL_law 201 = .ok (.aload_n 0, 1) := by decide +kernel
theorem dL_law_202 : decode cL_law 202 = .ok (.iload 4, 2) := by decide +kernel
theorem dL_law_204 : decode cL_law 204 = .ok (.iconst 1, 1) := by decide +kernel
theorem dL_law_205 : decode cL_law 205 = .ok (.iadd, 1) := by decide +kernel
theorem dL_law_206 : decode cL_law 206 = .ok (.iaload, 1) := by decide +kernel
theorem dL_law_207 : decode cL_law 207 = .ok (.invokevirtual 30, 3) := by decide +kernel
theorem kw_529 : Cond.code yX11_days prog_1_method_2_code 2 (some .int) ∈ uu := uu_in (i := 529) (by decide +kernel) (by decide +kernel)
theorem kw_526 : Cond.methodLink "LandSurveyLaw" 30 yX11_days ∈ uu := uu_in (i := 526) (by decide +kernel) (by decide +kernel)
theorem kw_527 : Cond.instanceMethod yX11_days ∈ uu := uu_in (i := 527) (by decide +kernel) (by decide +kernel)
theorem kw_528 : Cond.selects "LandSurvey" yX11_days yX11_days ∈ uu := uu_in (i := 528) (by decide +kernel) (by decide +kernel)
theorem lk_LandSurveyLaw_30 : lkV "LandSurveyLaw" 30 yX11_days cX11_days 2 (some .int) 1 := ⟨kw_526, kw_527, kw_528, kw_144, kw_529, okX11_days⟩
theorem dL_law_210 : decode cL_law 210 = .ok (.aload_n 2, 1) := by decide +kernel
theorem dL_law_211 : decode cL_law 211 = .ok (.aload_n 0, 1) := by decide +kernel
theorem dL_law_212 : decode cL_law 212 = .ok (.iload 4, 2) := by decide +kernel
theorem dL_law_214 : decode cL_law 214 = .ok (.iconst 1, 1) := by decide +kernel
theorem dL_law_215 : decode cL_law 215 = .ok (.iadd, 1) := by decide +kernel
theorem dL_law_216 : decode cL_law 216 = .ok (.iaload, 1) := by decide +kernel
theorem dL_law_217 : decode cL_law 217 = .ok (.invokevirtual 33, 3) := by decide +kernel
theorem kw_1887 : Cond.code yX12_days prog_14_method_38_code 2 (some .int) ∈ uu := uu_in (i := 1887) (by decide +kernel) (by decide +kernel)
theorem kw_1884 : Cond.methodLink "LandSurveyLaw" 33 yX12_days ∈ uu := uu_in (i := 1884) (by decide +kernel) (by decide +kernel)
theorem kw_1885 : Cond.instanceMethod yX12_days ∈ uu := uu_in (i := 1885) (by decide +kernel) (by decide +kernel)
theorem kw_1886 : Cond.selects "LandSurveyModel" yX12_days yX12_days ∈ uu := uu_in (i := 1886) (by decide +kernel) (by decide +kernel)
theorem lk_LandSurveyLaw_33 : lkV "LandSurveyLaw" 33 yX12_days cX12_days 2 (some .int) 1 := ⟨kw_1884, kw_1885, kw_1886, kw_152, kw_1887, okX12_days⟩
theorem dL_law_220 : decode cL_law 220 = .ok (.if_icmp .eq 1676, 3) := by decide +kernel
theorem dL_law_1896 : decode cL_law 1896 = .ok (.iinc 4 8, 3) := by decide +kernel
theorem dL_law_1899 : decode cL_law 1899 = .ok (.goto (-1876), 3) := by decide +kernel
theorem dL_law_225 : decode cL_law 225 = .ok (.aload_n 1, 1) := by decide +kernel
theorem dL_law_226 : decode cL_law 226 = .ok (.aload_n 0, 1) := by decide +kernel
theorem dL_law_227 : decode cL_law 227 = .ok (.iload 4, 2) := by decide +kernel
theorem dL_law_229 : decode cL_law 229 = .ok (.iconst 1, 1) := by decide +kernel
theorem dL_law_230 : decode cL_law 230 = .ok (.iadd, 1) := by decide +kernel
theorem dL_law_231 : decode cL_law 231 = .ok (.iaload, 1) := by decide +kernel
theorem dL_law_232 : decode cL_law 232 = .ok (.invokevirtual 34, 3) := by decide +kernel
theorem kw_533 : Cond.code yX11_view prog_1_method_3_code 2 (some .boolean) ∈ uu := uu_in (i := 533) (by decide +kernel) (by decide +kernel)
theorem kw_530 : Cond.methodLink "LandSurveyLaw" 34 yX11_view ∈ uu := uu_in (i := 530) (by decide +kernel) (by decide +kernel)
theorem kw_531 : Cond.instanceMethod yX11_view ∈ uu := uu_in (i := 531) (by decide +kernel) (by decide +kernel)
theorem kw_532 : Cond.selects "LandSurvey" yX11_view yX11_view ∈ uu := uu_in (i := 532) (by decide +kernel) (by decide +kernel)
theorem lk_LandSurveyLaw_34 : lkV "LandSurveyLaw" 34 yX11_view cX11_view 2 (some .boolean) 1 := ⟨kw_530, kw_531, kw_532, kw_144, kw_533, okX11_view⟩
theorem dL_law_235 : decode cL_law 235 = .ok (.pop, 1) := by decide +kernel
theorem dL_law_236 : decode cL_law 236 = .ok (.aload_n 2, 1) := by decide +kernel
theorem dL_law_237 : decode cL_law 237 = .ok (.aload_n 0, 1) := by decide +kernel
theorem dL_law_238 : decode cL_law 238 = .ok (.iload 4, 2) := by decide +kernel
theorem dL_law_240 : decode cL_law 240 = .ok (.iconst 1, 1) := by decide +kernel
theorem dL_law_241 : decode cL_law 241 = .ok (.iadd, 1) := by decide +kernel
theorem dL_law_242 : decode cL_law 242 = .ok (.iaload, 1) := by decide +kernel
theorem dL_law_243 : decode cL_law 243 = .ok (.invokevirtual 38, 3) := by decide +kernel
theorem kw_1894 : Cond.code yX12_view prog_14_method_39_code 2 (some .boolean) ∈ uu := uu_in (i := 1894) (by decide +kernel) (by decide +kernel)
theorem kw_1891 : Cond.methodLink "LandSurveyLaw" 38 yX12_view ∈ uu := uu_in (i := 1891) (by decide +kernel) (by decide +kernel)
theorem kw_1892 : Cond.instanceMethod yX12_view ∈ uu := uu_in (i := 1892) (by decide +kernel) (by decide +kernel)
theorem kw_1893 : Cond.selects "LandSurveyModel" yX12_view yX12_view ∈ uu := uu_in (i := 1893) (by decide +kernel) (by decide +kernel)
theorem lk_LandSurveyLaw_38 : lkV "LandSurveyLaw" 38 yX12_view cX12_view 2 (some .boolean) 1 := ⟨kw_1891, kw_1892, kw_1893, kw_152, kw_1894, okX12_view⟩
theorem dL_law_246 : decode cL_law 246 = .ok (.pop, 1) := by decide +kernel
theorem dL_law_247 : decode cL_law 247 = .ok (.goto 1649, 3) := by decide +kernel
theorem dL_law_250 : decode cL_law 250 = .ok (.aload_n 1, 1) := by decide +kernel
theorem dL_law_251 : decode cL_law 251 = .ok (.aload_n 0, 1) := by decide +kernel
theorem dL_law_252 : decode cL_law 252 = .ok (.iload 4, 2) := by decide +kernel
theorem dL_law_254 : decode cL_law 254 = .ok (.iconst 1, 1) := by decide +kernel
theorem dL_law_255 : decode cL_law 255 = .ok (.iadd, 1) := by decide +kernel
theorem dL_law_256 : decode cL_law 256 = .ok (.iaload, 1) := by decide +kernel
theorem dL_law_257 : decode cL_law 257 = .ok (.aload_n 0, 1) := by decide +kernel
theorem dL_law_258 : decode cL_law 258 = .ok (.iload 4, 2) := by decide +kernel
theorem dL_law_260 : decode cL_law 260 = .ok (.iconst 2, 1) := by decide +kernel
theorem dL_law_261 : decode cL_law 261 = .ok (.iadd, 1) := by decide +kernel
theorem dL_law_262 : decode cL_law 262 = .ok (.iaload, 1) := by decide +kernel
theorem dL_law_263 : decode cL_law 263 = .ok (.aload_n 0, 1) := by decide +kernel
theorem dL_law_264 : decode cL_law 264 = .ok (.iload 4, 2) := by decide +kernel
theorem dL_law_266 : decode cL_law 266 = .ok (.iconst 3, 1) := by decide +kernel
theorem dL_law_267 : decode cL_law 267 = .ok (.iadd, 1) := by decide +kernel
theorem dL_law_268 : decode cL_law 268 = .ok (.iaload, 1) := by decide +kernel
theorem dL_law_269 : decode cL_law 269 = .ok (.aload_n 0, 1) := by decide +kernel
theorem dL_law_270 : decode cL_law 270 = .ok (.iload 4, 2) := by decide +kernel
theorem dL_law_272 : decode cL_law 272 = .ok (.iconst 4, 1) := by decide +kernel
theorem dL_law_273 : decode cL_law 273 = .ok (.iadd, 1) := by decide +kernel
theorem dL_law_274 : decode cL_law 274 = .ok (.iaload, 1) := by decide +kernel
theorem dL_law_275 : decode cL_law 275 = .ok (.ifCond .eq 7, 3) := by decide +kernel
theorem dL_law_282 : decode cL_law 282 = .ok (.iconst 0, 1) := by decide +kernel
theorem dL_law_283 : decode cL_law 283 = .ok (.invokevirtual 39, 3) := by decide +kernel
theorem kw_537 : Cond.code yX11_cell prog_1_method_4_code 6 (some .boolean) ∈ uu := uu_in (i := 537) (by decide +kernel) (by decide +kernel)
theorem kw_534 : Cond.methodLink "LandSurveyLaw" 39 yX11_cell ∈ uu := uu_in (i := 534) (by decide +kernel) (by decide +kernel)
theorem kw_535 : Cond.instanceMethod yX11_cell ∈ uu := uu_in (i := 535) (by decide +kernel) (by decide +kernel)
theorem kw_536 : Cond.selects "LandSurvey" yX11_cell yX11_cell ∈ uu := uu_in (i := 536) (by decide +kernel) (by decide +kernel)
theorem lk_LandSurveyLaw_39 : lkV "LandSurveyLaw" 39 yX11_cell cX11_cell 6 (some .boolean) 4 := ⟨kw_534, kw_535, kw_536, kw_144, kw_537, okX11_cell⟩
theorem dL_law_286 : decode cL_law 286 = .ok (.pop, 1) := by decide +kernel
theorem dL_law_287 : decode cL_law 287 = .ok (.aload_n 2, 1) := by decide +kernel
theorem dL_law_288 : decode cL_law 288 = .ok (.aload_n 0, 1) := by decide +kernel
theorem dL_law_289 : decode cL_law 289 = .ok (.iload 4, 2) := by decide +kernel
theorem dL_law_291 : decode cL_law 291 = .ok (.iconst 1, 1) := by decide +kernel
theorem dL_law_292 : decode cL_law 292 = .ok (.iadd, 1) := by decide +kernel
theorem dL_law_293 : decode cL_law 293 = .ok (.iaload, 1) := by decide +kernel
theorem dL_law_294 : decode cL_law 294 = .ok (.aload_n 0, 1) := by decide +kernel
theorem dL_law_295 : decode cL_law 295 = .ok (.iload 4, 2) := by decide +kernel
theorem dL_law_297 : decode cL_law 297 = .ok (.iconst 2, 1) := by decide +kernel
theorem dL_law_298 : decode cL_law 298 = .ok (.iadd, 1) := by decide +kernel
theorem dL_law_299 : decode cL_law 299 = .ok (.iaload, 1) := by decide +kernel
theorem dL_law_300 : decode cL_law 300 = .ok (.aload_n 0, 1) := by decide +kernel
theorem dL_law_301 : decode cL_law 301 = .ok (.iload 4, 2) := by decide +kernel
theorem dL_law_303 : decode cL_law 303 = .ok (.iconst 3, 1) := by decide +kernel
theorem dL_law_304 : decode cL_law 304 = .ok (.iadd, 1) := by decide +kernel
theorem dL_law_305 : decode cL_law 305 = .ok (.iaload, 1) := by decide +kernel
theorem dL_law_306 : decode cL_law 306 = .ok (.aload_n 0, 1) := by decide +kernel
theorem dL_law_307 : decode cL_law 307 = .ok (.iload 4, 2) := by decide +kernel
theorem dL_law_309 : decode cL_law 309 = .ok (.iconst 4, 1) := by decide +kernel
theorem dL_law_310 : decode cL_law 310 = .ok (.iadd, 1) := by decide +kernel
theorem dL_law_311 : decode cL_law 311 = .ok (.iaload, 1) := by decide +kernel
theorem dL_law_312 : decode cL_law 312 = .ok (.ifCond .eq 7, 3) := by decide +kernel
theorem dL_law_319 : decode cL_law 319 = .ok (.iconst 0, 1) := by decide +kernel
theorem dL_law_320 : decode cL_law 320 = .ok (.invokevirtual 43, 3) := by decide +kernel
theorem kw_1898 : Cond.code yX12_cell prog_14_method_41_code 5 (some .boolean) ∈ uu := uu_in (i := 1898) (by decide +kernel) (by decide +kernel)
theorem kw_1895 : Cond.methodLink "LandSurveyLaw" 43 yX12_cell ∈ uu := uu_in (i := 1895) (by decide +kernel) (by decide +kernel)
theorem kw_1896 : Cond.instanceMethod yX12_cell ∈ uu := uu_in (i := 1896) (by decide +kernel) (by decide +kernel)
theorem kw_1897 : Cond.selects "LandSurveyModel" yX12_cell yX12_cell ∈ uu := uu_in (i := 1897) (by decide +kernel) (by decide +kernel)
theorem lk_LandSurveyLaw_43 : lkV "LandSurveyLaw" 43 yX12_cell cX12_cell 5 (some .boolean) 4 := ⟨kw_1895, kw_1896, kw_1897, kw_152, kw_1898, okX12_cell⟩
theorem dL_law_323 : decode cL_law 323 = .ok (.pop, 1) := by decide +kernel
theorem dL_law_324 : decode cL_law 324 = .ok (.goto 1572, 3) := by decide +kernel
theorem dL_law_278 : decode cL_law 278 = .ok (.iconst 1, 1) := by decide +kernel
theorem dL_law_279 : decode cL_law 279 = .ok (.goto 4, 3) := by decide +kernel
theorem dL_law_315 : decode cL_law 315 = .ok (.iconst 1, 1) := by decide +kernel
theorem dL_law_316 : decode cL_law 316 = .ok (.goto 4, 3) := by decide +kernel
theorem dL_law_327 : decode cL_law 327 = .ok (.aload_n 1, 1) := by decide +kernel
theorem dL_law_328 : decode cL_law 328 = .ok (.aload_n 0, 1) := by decide +kernel
theorem dL_law_329 : decode cL_law 329 = .ok (.iload 4, 2) := by decide +kernel
theorem dL_law_331 : decode cL_law 331 = .ok (.iconst 1, 1) := by decide +kernel
theorem dL_law_332 : decode cL_law 332 = .ok (.iadd, 1) := by decide +kernel
theorem dL_law_333 : decode cL_law 333 = .ok (.iaload, 1) := by decide +kernel
theorem dL_law_334 : decode cL_law 334 = .ok (.aload_n 0, 1) := by decide +kernel
theorem dL_law_335 : decode cL_law 335 = .ok (.iload 4, 2) := by decide +kernel
theorem dL_law_337 : decode cL_law 337 = .ok (.iconst 2, 1) := by decide +kernel
theorem dL_law_338 : decode cL_law 338 = .ok (.iadd, 1) := by decide +kernel
theorem dL_law_339 : decode cL_law 339 = .ok (.iaload, 1) := by decide +kernel
theorem dL_law_340 : decode cL_law 340 = .ok (.aload_n 0, 1) := by decide +kernel
theorem dL_law_341 : decode cL_law 341 = .ok (.iload 4, 2) := by decide +kernel
theorem dL_law_343 : decode cL_law 343 = .ok (.iconst 3, 1) := by decide +kernel
theorem dL_law_344 : decode cL_law 344 = .ok (.iadd, 1) := by decide +kernel
theorem dL_law_345 : decode cL_law 345 = .ok (.iaload, 1) := by decide +kernel
theorem dL_law_346 : decode cL_law 346 = .ok (.ifCond .eq 7, 3) := by decide +kernel
theorem dL_law_353 : decode cL_law 353 = .ok (.iconst 0, 1) := by decide +kernel
theorem dL_law_354 : decode cL_law 354 = .ok (.invokevirtual 44, 3) := by decide +kernel
theorem kw_544 : Cond.code yX11_fold prog_1_method_5_code 5 (some .boolean) ∈ uu := uu_in (i := 544) (by decide +kernel) (by decide +kernel)
theorem kw_541 : Cond.methodLink "LandSurveyLaw" 44 yX11_fold ∈ uu := uu_in (i := 541) (by decide +kernel) (by decide +kernel)
theorem kw_542 : Cond.instanceMethod yX11_fold ∈ uu := uu_in (i := 542) (by decide +kernel) (by decide +kernel)
theorem kw_543 : Cond.selects "LandSurvey" yX11_fold yX11_fold ∈ uu := uu_in (i := 543) (by decide +kernel) (by decide +kernel)
theorem lk_LandSurveyLaw_44 : lkV "LandSurveyLaw" 44 yX11_fold cX11_fold 5 (some .boolean) 3 := ⟨kw_541, kw_542, kw_543, kw_144, kw_544, okX11_fold⟩
theorem dL_law_357 : decode cL_law 357 = .ok (.pop, 1) := by decide +kernel
theorem dL_law_358 : decode cL_law 358 = .ok (.aload_n 2, 1) := by decide +kernel
theorem dL_law_359 : decode cL_law 359 = .ok (.aload_n 0, 1) := by decide +kernel
theorem dL_law_360 : decode cL_law 360 = .ok (.iload 4, 2) := by decide +kernel
theorem dL_law_362 : decode cL_law 362 = .ok (.iconst 1, 1) := by decide +kernel
theorem dL_law_363 : decode cL_law 363 = .ok (.iadd, 1) := by decide +kernel
theorem dL_law_364 : decode cL_law 364 = .ok (.iaload, 1) := by decide +kernel
theorem dL_law_365 : decode cL_law 365 = .ok (.aload_n 0, 1) := by decide +kernel
theorem dL_law_366 : decode cL_law 366 = .ok (.iload 4, 2) := by decide +kernel
theorem dL_law_368 : decode cL_law 368 = .ok (.iconst 2, 1) := by decide +kernel
theorem dL_law_369 : decode cL_law 369 = .ok (.iadd, 1) := by decide +kernel
theorem dL_law_370 : decode cL_law 370 = .ok (.iaload, 1) := by decide +kernel
theorem dL_law_371 : decode cL_law 371 = .ok (.aload_n 0, 1) := by decide +kernel
theorem dL_law_372 : decode cL_law 372 = .ok (.iload 4, 2) := by decide +kernel
theorem dL_law_374 : decode cL_law 374 = .ok (.iconst 3, 1) := by decide +kernel
theorem dL_law_375 : decode cL_law 375 = .ok (.iadd, 1) := by decide +kernel
theorem dL_law_376 : decode cL_law 376 = .ok (.iaload, 1) := by decide +kernel
theorem dL_law_377 : decode cL_law 377 = .ok (.ifCond .eq 7, 3) := by decide +kernel
theorem dL_law_384 : decode cL_law 384 = .ok (.iconst 0, 1) := by decide +kernel
theorem dL_law_385 : decode cL_law 385 = .ok (.invokevirtual 48, 3) := by decide +kernel
theorem kw_1905 : Cond.code yX12_fold prog_14_method_42_code 4 (some .boolean) ∈ uu := uu_in (i := 1905) (by decide +kernel) (by decide +kernel)
theorem kw_1902 : Cond.methodLink "LandSurveyLaw" 48 yX12_fold ∈ uu := uu_in (i := 1902) (by decide +kernel) (by decide +kernel)
theorem kw_1903 : Cond.instanceMethod yX12_fold ∈ uu := uu_in (i := 1903) (by decide +kernel) (by decide +kernel)
theorem kw_1904 : Cond.selects "LandSurveyModel" yX12_fold yX12_fold ∈ uu := uu_in (i := 1904) (by decide +kernel) (by decide +kernel)
theorem lk_LandSurveyLaw_48 : lkV "LandSurveyLaw" 48 yX12_fold cX12_fold 4 (some .boolean) 3 := ⟨kw_1902, kw_1903, kw_1904, kw_152, kw_1905, okX12_fold⟩
theorem dL_law_388 : decode cL_law 388 = .ok (.pop, 1) := by decide +kernel
theorem dL_law_389 : decode cL_law 389 = .ok (.goto 1507, 3) := by decide +kernel
theorem dL_law_349 : decode cL_law 349 = .ok (.iconst 1, 1) := by decide +kernel
theorem dL_law_350 : decode cL_law 350 = .ok (.goto 4, 3) := by decide +kernel
theorem dL_law_380 : decode cL_law 380 = .ok (.iconst 1, 1) := by decide +kernel
theorem dL_law_381 : decode cL_law 381 = .ok (.goto 4, 3) := by decide +kernel
theorem dL_law_392 : decode cL_law 392 = .ok (.aload_n 1, 1) := by decide +kernel
theorem dL_law_393 : decode cL_law 393 = .ok (.aload_n 0, 1) := by decide +kernel
theorem dL_law_394 : decode cL_law 394 = .ok (.iload 4, 2) := by decide +kernel
theorem dL_law_396 : decode cL_law 396 = .ok (.iconst 1, 1) := by decide +kernel
theorem dL_law_397 : decode cL_law 397 = .ok (.iadd, 1) := by decide +kernel
theorem dL_law_398 : decode cL_law 398 = .ok (.iaload, 1) := by decide +kernel
theorem dL_law_399 : decode cL_law 399 = .ok (.aload_n 0, 1) := by decide +kernel
theorem dL_law_400 : decode cL_law 400 = .ok (.iload 4, 2) := by decide +kernel
theorem dL_law_402 : decode cL_law 402 = .ok (.iconst 2, 1) := by decide +kernel
theorem dL_law_403 : decode cL_law 403 = .ok (.iadd, 1) := by decide +kernel
theorem dL_law_404 : decode cL_law 404 = .ok (.iaload, 1) := by decide +kernel
theorem dL_law_405 : decode cL_law 405 = .ok (.aload_n 0, 1) := by decide +kernel
theorem dL_law_406 : decode cL_law 406 = .ok (.iload 4, 2) := by decide +kernel
theorem dL_law_408 : decode cL_law 408 = .ok (.iconst 3, 1) := by decide +kernel
theorem dL_law_409 : decode cL_law 409 = .ok (.iadd, 1) := by decide +kernel
theorem dL_law_410 : decode cL_law 410 = .ok (.iaload, 1) := by decide +kernel
theorem dL_law_411 : decode cL_law 411 = .ok (.invokevirtual 49, 3) := by decide +kernel
theorem kw_548 : Cond.code yX11_own prog_1_method_6_code 5 (some .boolean) ∈ uu := uu_in (i := 548) (by decide +kernel) (by decide +kernel)
theorem kw_545 : Cond.methodLink "LandSurveyLaw" 49 yX11_own ∈ uu := uu_in (i := 545) (by decide +kernel) (by decide +kernel)
theorem kw_546 : Cond.instanceMethod yX11_own ∈ uu := uu_in (i := 546) (by decide +kernel) (by decide +kernel)
theorem kw_547 : Cond.selects "LandSurvey" yX11_own yX11_own ∈ uu := uu_in (i := 547) (by decide +kernel) (by decide +kernel)
theorem lk_LandSurveyLaw_49 : lkV "LandSurveyLaw" 49 yX11_own cX11_own 5 (some .boolean) 3 := ⟨kw_545, kw_546, kw_547, kw_144, kw_548, okX11_own⟩
theorem dL_law_414 : decode cL_law 414 = .ok (.pop, 1) := by decide +kernel
theorem dL_law_415 : decode cL_law 415 = .ok (.aload_n 2, 1) := by decide +kernel
theorem dL_law_416 : decode cL_law 416 = .ok (.aload_n 0, 1) := by decide +kernel
theorem dL_law_417 : decode cL_law 417 = .ok (.iload 4, 2) := by decide +kernel
theorem dL_law_419 : decode cL_law 419 = .ok (.iconst 1, 1) := by decide +kernel
theorem dL_law_420 : decode cL_law 420 = .ok (.iadd, 1) := by decide +kernel
theorem dL_law_421 : decode cL_law 421 = .ok (.iaload, 1) := by decide +kernel
theorem dL_law_422 : decode cL_law 422 = .ok (.aload_n 0, 1) := by decide +kernel
theorem dL_law_423 : decode cL_law 423 = .ok (.iload 4, 2) := by decide +kernel
theorem dL_law_425 : decode cL_law 425 = .ok (.iconst 2, 1) := by decide +kernel
theorem dL_law_426 : decode cL_law 426 = .ok (.iadd, 1) := by decide +kernel
theorem dL_law_427 : decode cL_law 427 = .ok (.iaload, 1) := by decide +kernel
theorem dL_law_428 : decode cL_law 428 = .ok (.aload_n 0, 1) := by decide +kernel
theorem dL_law_429 : decode cL_law 429 = .ok (.iload 4, 2) := by decide +kernel
theorem dL_law_431 : decode cL_law 431 = .ok (.iconst 3, 1) := by decide +kernel
theorem dL_law_432 : decode cL_law 432 = .ok (.iadd, 1) := by decide +kernel
theorem dL_law_433 : decode cL_law 433 = .ok (.iaload, 1) := by decide +kernel
theorem dL_law_434 : decode cL_law 434 = .ok (.invokevirtual 53, 3) := by decide +kernel
theorem kw_1909 : Cond.code yX12_own prog_14_method_43_code 4 (some .boolean) ∈ uu := uu_in (i := 1909) (by decide +kernel) (by decide +kernel)
theorem kw_1906 : Cond.methodLink "LandSurveyLaw" 53 yX12_own ∈ uu := uu_in (i := 1906) (by decide +kernel) (by decide +kernel)
theorem kw_1907 : Cond.instanceMethod yX12_own ∈ uu := uu_in (i := 1907) (by decide +kernel) (by decide +kernel)
theorem kw_1908 : Cond.selects "LandSurveyModel" yX12_own yX12_own ∈ uu := uu_in (i := 1908) (by decide +kernel) (by decide +kernel)
theorem lk_LandSurveyLaw_53 : lkV "LandSurveyLaw" 53 yX12_own cX12_own 4 (some .boolean) 3 := ⟨kw_1906, kw_1907, kw_1908, kw_152, kw_1909, okX12_own⟩
theorem dL_law_437 : decode cL_law 437 = .ok (.pop, 1) := by decide +kernel
theorem dL_law_438 : decode cL_law 438 = .ok (.goto 1458, 3) := by decide +kernel
theorem dL_law_441 : decode cL_law 441 = .ok (.aload_n 1, 1) := by decide +kernel
theorem dL_law_442 : decode cL_law 442 = .ok (.aload_n 0, 1) := by decide +kernel
theorem dL_law_443 : decode cL_law 443 = .ok (.iload 4, 2) := by decide +kernel
theorem dL_law_445 : decode cL_law 445 = .ok (.iconst 1, 1) := by decide +kernel
theorem dL_law_446 : decode cL_law 446 = .ok (.iadd, 1) := by decide +kernel
theorem dL_law_447 : decode cL_law 447 = .ok (.iaload, 1) := by decide +kernel
theorem dL_law_448 : decode cL_law 448 = .ok (.aload_n 0, 1) := by decide +kernel
theorem dL_law_449 : decode cL_law 449 = .ok (.iload 4, 2) := by decide +kernel
theorem dL_law_451 : decode cL_law 451 = .ok (.iconst 2, 1) := by decide +kernel
theorem dL_law_452 : decode cL_law 452 = .ok (.iadd, 1) := by decide +kernel
theorem dL_law_453 : decode cL_law 453 = .ok (.iaload, 1) := by decide +kernel
theorem dL_law_454 : decode cL_law 454 = .ok (.aload_n 0, 1) := by decide +kernel
theorem dL_law_455 : decode cL_law 455 = .ok (.iload 4, 2) := by decide +kernel
theorem dL_law_457 : decode cL_law 457 = .ok (.iconst 3, 1) := by decide +kernel
theorem dL_law_458 : decode cL_law 458 = .ok (.iadd, 1) := by decide +kernel
theorem dL_law_459 : decode cL_law 459 = .ok (.iaload, 1) := by decide +kernel
theorem dL_law_460 : decode cL_law 460 = .ok (.aload_n 0, 1) := by decide +kernel
theorem dL_law_461 : decode cL_law 461 = .ok (.iload 4, 2) := by decide +kernel
theorem dL_law_463 : decode cL_law 463 = .ok (.iconst 4, 1) := by decide +kernel
theorem dL_law_464 : decode cL_law 464 = .ok (.iadd, 1) := by decide +kernel
theorem dL_law_465 : decode cL_law 465 = .ok (.iaload, 1) := by decide +kernel
theorem dL_law_466 : decode cL_law 466 = .ok (.aload_n 0, 1) := by decide +kernel
theorem dL_law_467 : decode cL_law 467 = .ok (.iload 4, 2) := by decide +kernel
theorem dL_law_469 : decode cL_law 469 = .ok (.iconst 5, 1) := by decide +kernel
theorem dL_law_470 : decode cL_law 470 = .ok (.iadd, 1) := by decide +kernel
theorem dL_law_471 : decode cL_law 471 = .ok (.iaload, 1) := by decide +kernel
theorem dL_law_472 : decode cL_law 472 = .ok (.aload_n 0, 1) := by decide +kernel
theorem dL_law_473 : decode cL_law 473 = .ok (.iload 4, 2) := by decide +kernel
theorem dL_law_475 : decode cL_law 475 = .ok (.bipush 6, 2) := by decide +kernel
theorem dL_law_477 : decode cL_law 477 = .ok (.iadd, 1) := by decide +kernel
theorem dL_law_478 : decode cL_law 478 = .ok (.iaload, 1) := by decide +kernel
theorem dL_law_479 : decode cL_law 479 = .ok (.invokevirtual 54, 3) := by decide +kernel
theorem kw_552 : Cond.code yX11_sight prog_1_method_7_code 10 (some .int) ∈ uu := uu_in (i := 552) (by decide +kernel) (by decide +kernel)
theorem kw_549 : Cond.methodLink "LandSurveyLaw" 54 yX11_sight ∈ uu := uu_in (i := 549) (by decide +kernel) (by decide +kernel)
theorem kw_550 : Cond.instanceMethod yX11_sight ∈ uu := uu_in (i := 550) (by decide +kernel) (by decide +kernel)
theorem kw_551 : Cond.selects "LandSurvey" yX11_sight yX11_sight ∈ uu := uu_in (i := 551) (by decide +kernel) (by decide +kernel)
theorem lk_LandSurveyLaw_54 : lkV "LandSurveyLaw" 54 yX11_sight cX11_sight 10 (some .int) 6 := ⟨kw_549, kw_550, kw_551, kw_144, kw_552, okX11_sight⟩
theorem dL_law_482 : decode cL_law 482 = .ok (.pop, 1) := by decide +kernel
theorem dL_law_483 : decode cL_law 483 = .ok (.aload_n 2, 1) := by decide +kernel
theorem dL_law_484 : decode cL_law 484 = .ok (.aload_n 0, 1) := by decide +kernel
theorem dL_law_485 : decode cL_law 485 = .ok (.iload 4, 2) := by decide +kernel
theorem dL_law_487 : decode cL_law 487 = .ok (.iconst 1, 1) := by decide +kernel
theorem dL_law_488 : decode cL_law 488 = .ok (.iadd, 1) := by decide +kernel
theorem dL_law_489 : decode cL_law 489 = .ok (.iaload, 1) := by decide +kernel
theorem dL_law_490 : decode cL_law 490 = .ok (.aload_n 0, 1) := by decide +kernel
theorem dL_law_491 : decode cL_law 491 = .ok (.iload 4, 2) := by decide +kernel
theorem dL_law_493 : decode cL_law 493 = .ok (.iconst 2, 1) := by decide +kernel
theorem dL_law_494 : decode cL_law 494 = .ok (.iadd, 1) := by decide +kernel
theorem dL_law_495 : decode cL_law 495 = .ok (.iaload, 1) := by decide +kernel
theorem dL_law_496 : decode cL_law 496 = .ok (.aload_n 0, 1) := by decide +kernel
theorem dL_law_497 : decode cL_law 497 = .ok (.iload 4, 2) := by decide +kernel
theorem dL_law_499 : decode cL_law 499 = .ok (.iconst 3, 1) := by decide +kernel
theorem dL_law_500 : decode cL_law 500 = .ok (.iadd, 1) := by decide +kernel
theorem dL_law_501 : decode cL_law 501 = .ok (.iaload, 1) := by decide +kernel
theorem dL_law_502 : decode cL_law 502 = .ok (.aload_n 0, 1) := by decide +kernel
theorem dL_law_503 : decode cL_law 503 = .ok (.iload 4, 2) := by decide +kernel
theorem dL_law_505 : decode cL_law 505 = .ok (.iconst 4, 1) := by decide +kernel
theorem dL_law_506 : decode cL_law 506 = .ok (.iadd, 1) := by decide +kernel
theorem dL_law_507 : decode cL_law 507 = .ok (.iaload, 1) := by decide +kernel
theorem dL_law_508 : decode cL_law 508 = .ok (.aload_n 0, 1) := by decide +kernel
theorem dL_law_509 : decode cL_law 509 = .ok (.iload 4, 2) := by decide +kernel
theorem dL_law_511 : decode cL_law 511 = .ok (.iconst 5, 1) := by decide +kernel
theorem dL_law_512 : decode cL_law 512 = .ok (.iadd, 1) := by decide +kernel
theorem dL_law_513 : decode cL_law 513 = .ok (.iaload, 1) := by decide +kernel
theorem dL_law_514 : decode cL_law 514 = .ok (.aload_n 0, 1) := by decide +kernel
theorem dL_law_515 : decode cL_law 515 = .ok (.iload 4, 2) := by decide +kernel
theorem dL_law_517 : decode cL_law 517 = .ok (.bipush 6, 2) := by decide +kernel
theorem dL_law_519 : decode cL_law 519 = .ok (.iadd, 1) := by decide +kernel
theorem dL_law_520 : decode cL_law 520 = .ok (.iaload, 1) := by decide +kernel
theorem dL_law_521 : decode cL_law 521 = .ok (.invokevirtual 58, 3) := by decide +kernel
theorem kw_1913 : Cond.code yX12_sight prog_14_method_44_code 8 (some .int) ∈ uu := uu_in (i := 1913) (by decide +kernel) (by decide +kernel)
theorem kw_1910 : Cond.methodLink "LandSurveyLaw" 58 yX12_sight ∈ uu := uu_in (i := 1910) (by decide +kernel) (by decide +kernel)
theorem kw_1911 : Cond.instanceMethod yX12_sight ∈ uu := uu_in (i := 1911) (by decide +kernel) (by decide +kernel)
theorem kw_1912 : Cond.selects "LandSurveyModel" yX12_sight yX12_sight ∈ uu := uu_in (i := 1912) (by decide +kernel) (by decide +kernel)
theorem lk_LandSurveyLaw_58 : lkV "LandSurveyLaw" 58 yX12_sight cX12_sight 8 (some .int) 6 := ⟨kw_1910, kw_1911, kw_1912, kw_152, kw_1913, okX12_sight⟩
theorem dL_law_524 : decode cL_law 524 = .ok (.pop, 1) := by decide +kernel
theorem dL_law_525 : decode cL_law 525 = .ok (.goto 1371, 3) := by decide +kernel
theorem dL_law_528 : decode cL_law 528 = .ok (.aload_n 1, 1) := by decide +kernel
theorem dL_law_529 : decode cL_law 529 = .ok (.aload_n 0, 1) := by decide +kernel
theorem dL_law_530 : decode cL_law 530 = .ok (.iload 4, 2) := by decide +kernel
theorem dL_law_532 : decode cL_law 532 = .ok (.iconst 1, 1) := by decide +kernel
theorem dL_law_533 : decode cL_law 533 = .ok (.iadd, 1) := by decide +kernel
theorem dL_law_534 : decode cL_law 534 = .ok (.iaload, 1) := by decide +kernel
theorem dL_law_535 : decode cL_law 535 = .ok (.aload_n 0, 1) := by decide +kernel
theorem dL_law_536 : decode cL_law 536 = .ok (.iload 4, 2) := by decide +kernel
theorem dL_law_538 : decode cL_law 538 = .ok (.iconst 2, 1) := by decide +kernel
theorem dL_law_539 : decode cL_law 539 = .ok (.iadd, 1) := by decide +kernel
theorem dL_law_540 : decode cL_law 540 = .ok (.iaload, 1) := by decide +kernel
theorem dL_law_541 : decode cL_law 541 = .ok (.aload_n 0, 1) := by decide +kernel
theorem dL_law_542 : decode cL_law 542 = .ok (.iload 4, 2) := by decide +kernel
theorem dL_law_544 : decode cL_law 544 = .ok (.iconst 3, 1) := by decide +kernel
theorem dL_law_545 : decode cL_law 545 = .ok (.iadd, 1) := by decide +kernel
theorem dL_law_546 : decode cL_law 546 = .ok (.iaload, 1) := by decide +kernel
theorem dL_law_547 : decode cL_law 547 = .ok (.aload_n 0, 1) := by decide +kernel
theorem dL_law_548 : decode cL_law 548 = .ok (.iload 4, 2) := by decide +kernel
theorem dL_law_550 : decode cL_law 550 = .ok (.iconst 4, 1) := by decide +kernel
theorem dL_law_551 : decode cL_law 551 = .ok (.iadd, 1) := by decide +kernel
theorem dL_law_552 : decode cL_law 552 = .ok (.iaload, 1) := by decide +kernel
theorem dL_law_553 : decode cL_law 553 = .ok (.invokevirtual 59, 3) := by decide +kernel
theorem kw_639 : Cond.code yX11_dip prog_1_method_8_code 5 (some .boolean) ∈ uu := uu_in (i := 639) (by decide +kernel) (by decide +kernel)
theorem kw_636 : Cond.methodLink "LandSurveyLaw" 59 yX11_dip ∈ uu := uu_in (i := 636) (by decide +kernel) (by decide +kernel)
theorem kw_637 : Cond.instanceMethod yX11_dip ∈ uu := uu_in (i := 637) (by decide +kernel) (by decide +kernel)
theorem kw_638 : Cond.selects "LandSurvey" yX11_dip yX11_dip ∈ uu := uu_in (i := 638) (by decide +kernel) (by decide +kernel)
theorem lk_LandSurveyLaw_59 : lkV "LandSurveyLaw" 59 yX11_dip cX11_dip 5 (some .boolean) 4 := ⟨kw_636, kw_637, kw_638, kw_144, kw_639, okX11_dip⟩
theorem dL_law_556 : decode cL_law 556 = .ok (.pop, 1) := by decide +kernel
theorem dL_law_557 : decode cL_law 557 = .ok (.aload_n 2, 1) := by decide +kernel
theorem dL_law_558 : decode cL_law 558 = .ok (.aload_n 0, 1) := by decide +kernel
theorem dL_law_559 : decode cL_law 559 = .ok (.iload 4, 2) := by decide +kernel
theorem dL_law_561 : decode cL_law 561 = .ok (.iconst 1, 1) := by decide +kernel
theorem dL_law_562 : decode cL_law 562 = .ok (.iadd, 1) := by decide +kernel
theorem dL_law_563 : decode cL_law 563 = .ok (.iaload, 1) := by decide +kernel
theorem dL_law_564 : decode cL_law 564 = .ok (.aload_n 0, 1) := by decide +kernel
theorem dL_law_565 : decode cL_law 565 = .ok (.iload 4, 2) := by decide +kernel
theorem dL_law_567 : decode cL_law 567 = .ok (.iconst 2, 1) := by decide +kernel
theorem dL_law_568 : decode cL_law 568 = .ok (.iadd, 1) := by decide +kernel
theorem dL_law_569 : decode cL_law 569 = .ok (.iaload, 1) := by decide +kernel
theorem dL_law_570 : decode cL_law 570 = .ok (.aload_n 0, 1) := by decide +kernel
theorem dL_law_571 : decode cL_law 571 = .ok (.iload 4, 2) := by decide +kernel
theorem dL_law_573 : decode cL_law 573 = .ok (.iconst 3, 1) := by decide +kernel
theorem dL_law_574 : decode cL_law 574 = .ok (.iadd, 1) := by decide +kernel
theorem dL_law_575 : decode cL_law 575 = .ok (.iaload, 1) := by decide +kernel
theorem dL_law_576 : decode cL_law 576 = .ok (.aload_n 0, 1) := by decide +kernel
theorem dL_law_577 : decode cL_law 577 = .ok (.iload 4, 2) := by decide +kernel
theorem dL_law_579 : decode cL_law 579 = .ok (.iconst 4, 1) := by decide +kernel
theorem dL_law_580 : decode cL_law 580 = .ok (.iadd, 1) := by decide +kernel
theorem dL_law_581 : decode cL_law 581 = .ok (.iaload, 1) := by decide +kernel
theorem dL_law_582 : decode cL_law 582 = .ok (.invokevirtual 63, 3) := by decide +kernel
theorem kw_1917 : Cond.code yX12_dip prog_14_method_46_code 5 (some .boolean) ∈ uu := uu_in (i := 1917) (by decide +kernel) (by decide +kernel)
theorem kw_1914 : Cond.methodLink "LandSurveyLaw" 63 yX12_dip ∈ uu := uu_in (i := 1914) (by decide +kernel) (by decide +kernel)
theorem kw_1915 : Cond.instanceMethod yX12_dip ∈ uu := uu_in (i := 1915) (by decide +kernel) (by decide +kernel)
theorem kw_1916 : Cond.selects "LandSurveyModel" yX12_dip yX12_dip ∈ uu := uu_in (i := 1916) (by decide +kernel) (by decide +kernel)
theorem lk_LandSurveyLaw_63 : lkV "LandSurveyLaw" 63 yX12_dip cX12_dip 5 (some .boolean) 4 := ⟨kw_1914, kw_1915, kw_1916, kw_152, kw_1917, okX12_dip⟩
theorem dL_law_585 : decode cL_law 585 = .ok (.pop, 1) := by decide +kernel
theorem dL_law_586 : decode cL_law 586 = .ok (.goto 1310, 3) := by decide +kernel
theorem dL_law_589 : decode cL_law 589 = .ok (.aload_n 1, 1) := by decide +kernel
theorem dL_law_590 : decode cL_law 590 = .ok (.aload_n 0, 1) := by decide +kernel
theorem dL_law_591 : decode cL_law 591 = .ok (.iload 4, 2) := by decide +kernel
theorem dL_law_593 : decode cL_law 593 = .ok (.iconst 1, 1) := by decide +kernel
theorem dL_law_594 : decode cL_law 594 = .ok (.iadd, 1) := by decide +kernel
theorem dL_law_595 : decode cL_law 595 = .ok (.iaload, 1) := by decide +kernel
theorem dL_law_596 : decode cL_law 596 = .ok (.aload_n 0, 1) := by decide +kernel
theorem dL_law_597 : decode cL_law 597 = .ok (.iload 4, 2) := by decide +kernel
theorem dL_law_599 : decode cL_law 599 = .ok (.iconst 2, 1) := by decide +kernel
theorem dL_law_600 : decode cL_law 600 = .ok (.iadd, 1) := by decide +kernel
theorem dL_law_601 : decode cL_law 601 = .ok (.iaload, 1) := by decide +kernel
theorem dL_law_602 : decode cL_law 602 = .ok (.aload_n 0, 1) := by decide +kernel
theorem dL_law_603 : decode cL_law 603 = .ok (.iload 4, 2) := by decide +kernel
theorem dL_law_605 : decode cL_law 605 = .ok (.iconst 3, 1) := by decide +kernel
theorem dL_law_606 : decode cL_law 606 = .ok (.iadd, 1) := by decide +kernel
theorem dL_law_607 : decode cL_law 607 = .ok (.iaload, 1) := by decide +kernel
theorem dL_law_608 : decode cL_law 608 = .ok (.ifCond .eq 7, 3) := by decide +kernel
theorem dL_law_615 : decode cL_law 615 = .ok (.iconst 0, 1) := by decide +kernel
theorem dL_law_616 : decode cL_law 616 = .ok (.invokevirtual 64, 3) := by decide +kernel
theorem kw_650 : Cond.code yX11_remain prog_1_method_9_code 4 (some .boolean) ∈ uu := uu_in (i := 650) (by decide +kernel) (by decide +kernel)
theorem kw_647 : Cond.methodLink "LandSurveyLaw" 64 yX11_remain ∈ uu := uu_in (i := 647) (by decide +kernel) (by decide +kernel)
theorem kw_648 : Cond.instanceMethod yX11_remain ∈ uu := uu_in (i := 648) (by decide +kernel) (by decide +kernel)
theorem kw_649 : Cond.selects "LandSurvey" yX11_remain yX11_remain ∈ uu := uu_in (i := 649) (by decide +kernel) (by decide +kernel)
theorem lk_LandSurveyLaw_64 : lkV "LandSurveyLaw" 64 yX11_remain cX11_remain 4 (some .boolean) 3 := ⟨kw_647, kw_648, kw_649, kw_144, kw_650, okX11_remain⟩
theorem dL_law_619 : decode cL_law 619 = .ok (.pop, 1) := by decide +kernel
theorem dL_law_620 : decode cL_law 620 = .ok (.aload_n 2, 1) := by decide +kernel
theorem dL_law_621 : decode cL_law 621 = .ok (.aload_n 0, 1) := by decide +kernel
theorem dL_law_622 : decode cL_law 622 = .ok (.iload 4, 2) := by decide +kernel
theorem dL_law_624 : decode cL_law 624 = .ok (.iconst 1, 1) := by decide +kernel
theorem dL_law_625 : decode cL_law 625 = .ok (.iadd, 1) := by decide +kernel
theorem dL_law_626 : decode cL_law 626 = .ok (.iaload, 1) := by decide +kernel
theorem dL_law_627 : decode cL_law 627 = .ok (.aload_n 0, 1) := by decide +kernel
theorem dL_law_628 : decode cL_law 628 = .ok (.iload 4, 2) := by decide +kernel
theorem dL_law_630 : decode cL_law 630 = .ok (.iconst 2, 1) := by decide +kernel
theorem dL_law_631 : decode cL_law 631 = .ok (.iadd, 1) := by decide +kernel
theorem dL_law_632 : decode cL_law 632 = .ok (.iaload, 1) := by decide +kernel
theorem dL_law_633 : decode cL_law 633 = .ok (.aload_n 0, 1) := by decide +kernel
theorem dL_law_634 : decode cL_law 634 = .ok (.iload 4, 2) := by decide +kernel
theorem dL_law_636 : decode cL_law 636 = .ok (.iconst 3, 1) := by decide +kernel
theorem dL_law_637 : decode cL_law 637 = .ok (.iadd, 1) := by decide +kernel
theorem dL_law_638 : decode cL_law 638 = .ok (.iaload, 1) := by decide +kernel
theorem dL_law_639 : decode cL_law 639 = .ok (.ifCond .eq 7, 3) := by decide +kernel
theorem dL_law_646 : decode cL_law 646 = .ok (.iconst 0, 1) := by decide +kernel
theorem dL_law_647 : decode cL_law 647 = .ok (.invokevirtual 67, 3) := by decide +kernel
theorem kw_1925 : Cond.code yX12_remain prog_14_method_47_code 4 (some .boolean) ∈ uu := uu_in (i := 1925) (by decide +kernel) (by decide +kernel)
theorem kw_1922 : Cond.methodLink "LandSurveyLaw" 67 yX12_remain ∈ uu := uu_in (i := 1922) (by decide +kernel) (by decide +kernel)
theorem kw_1923 : Cond.instanceMethod yX12_remain ∈ uu := uu_in (i := 1923) (by decide +kernel) (by decide +kernel)
theorem kw_1924 : Cond.selects "LandSurveyModel" yX12_remain yX12_remain ∈ uu := uu_in (i := 1924) (by decide +kernel) (by decide +kernel)
theorem lk_LandSurveyLaw_67 : lkV "LandSurveyLaw" 67 yX12_remain cX12_remain 4 (some .boolean) 3 := ⟨kw_1922, kw_1923, kw_1924, kw_152, kw_1925, okX12_remain⟩
theorem dL_law_650 : decode cL_law 650 = .ok (.pop, 1) := by decide +kernel
theorem dL_law_651 : decode cL_law 651 = .ok (.goto 1245, 3) := by decide +kernel
theorem dL_law_611 : decode cL_law 611 = .ok (.iconst 1, 1) := by decide +kernel
theorem dL_law_612 : decode cL_law 612 = .ok (.goto 4, 3) := by decide +kernel
theorem dL_law_642 : decode cL_law 642 = .ok (.iconst 1, 1) := by decide +kernel
theorem dL_law_643 : decode cL_law 643 = .ok (.goto 4, 3) := by decide +kernel
theorem dL_law_654 : decode cL_law 654 = .ok (.aload_n 1, 1) := by decide +kernel
theorem dL_law_655 : decode cL_law 655 = .ok (.aload_n 0, 1) := by decide +kernel
theorem dL_law_656 : decode cL_law 656 = .ok (.iload 4, 2) := by decide +kernel
theorem dL_law_658 : decode cL_law 658 = .ok (.iconst 1, 1) := by decide +kernel
theorem dL_law_659 : decode cL_law 659 = .ok (.iadd, 1) := by decide +kernel
theorem dL_law_660 : decode cL_law 660 = .ok (.iaload, 1) := by decide +kernel
theorem dL_law_661 : decode cL_law 661 = .ok (.invokevirtual 68, 3) := by decide +kernel
theorem kw_654 : Cond.code yX11_withdraw prog_1_method_10_code 2 (some .boolean) ∈ uu := uu_in (i := 654) (by decide +kernel) (by decide +kernel)
theorem kw_651 : Cond.methodLink "LandSurveyLaw" 68 yX11_withdraw ∈ uu := uu_in (i := 651) (by decide +kernel) (by decide +kernel)
theorem kw_652 : Cond.instanceMethod yX11_withdraw ∈ uu := uu_in (i := 652) (by decide +kernel) (by decide +kernel)
theorem kw_653 : Cond.selects "LandSurvey" yX11_withdraw yX11_withdraw ∈ uu := uu_in (i := 653) (by decide +kernel) (by decide +kernel)
theorem lk_LandSurveyLaw_68 : lkV "LandSurveyLaw" 68 yX11_withdraw cX11_withdraw 2 (some .boolean) 1 := ⟨kw_651, kw_652, kw_653, kw_144, kw_654, okX11_withdraw⟩
theorem dL_law_664 : decode cL_law 664 = .ok (.pop, 1) := by decide +kernel
theorem dL_law_665 : decode cL_law 665 = .ok (.aload_n 2, 1) := by decide +kernel
theorem dL_law_666 : decode cL_law 666 = .ok (.aload_n 0, 1) := by decide +kernel
theorem dL_law_667 : decode cL_law 667 = .ok (.iload 4, 2) := by decide +kernel
theorem dL_law_669 : decode cL_law 669 = .ok (.iconst 1, 1) := by decide +kernel
theorem dL_law_670 : decode cL_law 670 = .ok (.iadd, 1) := by decide +kernel
theorem dL_law_671 : decode cL_law 671 = .ok (.iaload, 1) := by decide +kernel
theorem dL_law_672 : decode cL_law 672 = .ok (.invokevirtual 71, 3) := by decide +kernel
theorem kw_1929 : Cond.code yX12_withdraw prog_14_method_48_code 2 (some .boolean) ∈ uu := uu_in (i := 1929) (by decide +kernel) (by decide +kernel)
theorem kw_1926 : Cond.methodLink "LandSurveyLaw" 71 yX12_withdraw ∈ uu := uu_in (i := 1926) (by decide +kernel) (by decide +kernel)
theorem kw_1927 : Cond.instanceMethod yX12_withdraw ∈ uu := uu_in (i := 1927) (by decide +kernel) (by decide +kernel)
theorem kw_1928 : Cond.selects "LandSurveyModel" yX12_withdraw yX12_withdraw ∈ uu := uu_in (i := 1928) (by decide +kernel) (by decide +kernel)
theorem lk_LandSurveyLaw_71 : lkV "LandSurveyLaw" 71 yX12_withdraw cX12_withdraw 2 (some .boolean) 1 := ⟨kw_1926, kw_1927, kw_1928, kw_152, kw_1929, okX12_withdraw⟩
theorem dL_law_675 : decode cL_law 675 = .ok (.pop, 1) := by decide +kernel
theorem dL_law_676 : decode cL_law 676 = .ok (.goto 1220, 3) := by decide +kernel
theorem dL_law_679 : decode cL_law 679 = .ok (.aload_n 1, 1) := by decide +kernel
theorem dL_law_680 : decode cL_law 680 = .ok (.aload_n 0, 1) := by decide +kernel
theorem dL_law_681 : decode cL_law 681 = .ok (.iload 4, 2) := by decide +kernel
theorem dL_law_683 : decode cL_law 683 = .ok (.iconst 1, 1) := by decide +kernel
theorem dL_law_684 : decode cL_law 684 = .ok (.iadd, 1) := by decide +kernel
theorem dL_law_685 : decode cL_law 685 = .ok (.iaload, 1) := by decide +kernel
theorem dL_law_686 : decode cL_law 686 = .ok (.i2l, 1) := by decide +kernel
theorem dL_law_687 : decode cL_law 687 = .ok (.bipush 32, 2) := by decide +kernel
theorem dL_law_689 : decode cL_law 689 = .ok (.lshl, 1) := by decide +kernel
theorem dL_law_690 : decode cL_law 690 = .ok (.aload_n 0, 1) := by decide +kernel
theorem dL_law_691 : decode cL_law 691 = .ok (.iload 4, 2) := by decide +kernel
theorem dL_law_693 : decode cL_law 693 = .ok (.iconst 2, 1) := by decide +kernel
theorem dL_law_694 : decode cL_law 694 = .ok (.iadd, 1) := by decide +kernel
theorem dL_law_695 : decode cL_law 695 = .ok (.iaload, 1) := by decide +kernel
theorem dL_law_696 : decode cL_law 696 = .ok (.i2l, 1) := by decide +kernel
theorem dL_law_697 : decode cL_law 697 = .ok (.ldc2_w 72, 3) := by decide +kernel
theorem kw_2263 : Cond.constantLong "LandSurveyLaw" 72 (4294967295) ∈ uu := uu_in (i := 2263) (by decide +kernel) (by decide +kernel)
theorem dL_law_700 : decode cL_law 700 = .ok (.land, 1) := by decide +kernel
theorem dL_law_701 : decode cL_law 701 = .ok (.lor, 1) := by decide +kernel
theorem dL_law_702 : decode cL_law 702 = .ok (.aload_n 0, 1) := by decide +kernel
theorem dL_law_703 : decode cL_law 703 = .ok (.iload 4, 2) := by decide +kernel
theorem dL_law_705 : decode cL_law 705 = .ok (.iconst 3, 1) := by decide +kernel
theorem dL_law_706 : decode cL_law 706 = .ok (.iadd, 1) := by decide +kernel
theorem dL_law_707 : decode cL_law 707 = .ok (.iaload, 1) := by decide +kernel
theorem dL_law_708 : decode cL_law 708 = .ok (.i2l, 1) := by decide +kernel
theorem dL_law_709 : decode cL_law 709 = .ok (.bipush 32, 2) := by decide +kernel
theorem dL_law_711 : decode cL_law 711 = .ok (.lshl, 1) := by decide +kernel
theorem dL_law_712 : decode cL_law 712 = .ok (.aload_n 0, 1) := by decide +kernel
theorem dL_law_713 : decode cL_law 713 = .ok (.iload 4, 2) := by decide +kernel
theorem dL_law_715 : decode cL_law 715 = .ok (.iconst 4, 1) := by decide +kernel
theorem dL_law_716 : decode cL_law 716 = .ok (.iadd, 1) := by decide +kernel
theorem dL_law_717 : decode cL_law 717 = .ok (.iaload, 1) := by decide +kernel
theorem dL_law_718 : decode cL_law 718 = .ok (.i2l, 1) := by decide +kernel
theorem dL_law_719 : decode cL_law 719 = .ok (.ldc2_w 72, 3) := by decide +kernel
theorem dL_law_722 : decode cL_law 722 = .ok (.land, 1) := by decide +kernel
theorem dL_law_723 : decode cL_law 723 = .ok (.lor, 1) := by decide +kernel
theorem dL_law_724 : decode cL_law 724 = .ok (.aload_n 0, 1) := by decide +kernel
theorem dL_law_725 : decode cL_law 725 = .ok (.iload 4, 2) := by decide +kernel
theorem dL_law_727 : decode cL_law 727 = .ok (.iconst 5, 1) := by decide +kernel
theorem dL_law_728 : decode cL_law 728 = .ok (.iadd, 1) := by decide +kernel
theorem dL_law_729 : decode cL_law 729 = .ok (.iaload, 1) := by decide +kernel
theorem dL_law_730 : decode cL_law 730 = .ok (.i2l, 1) := by decide +kernel
theorem dL_law_731 : decode cL_law 731 = .ok (.bipush 32, 2) := by decide +kernel
theorem dL_law_733 : decode cL_law 733 = .ok (.lshl, 1) := by decide +kernel
theorem dL_law_734 : decode cL_law 734 = .ok (.aload_n 0, 1) := by decide +kernel
theorem dL_law_735 : decode cL_law 735 = .ok (.iload 4, 2) := by decide +kernel
theorem dL_law_737 : decode cL_law 737 = .ok (.bipush 6, 2) := by decide +kernel
theorem dL_law_739 : decode cL_law 739 = .ok (.iadd, 1) := by decide +kernel
theorem dL_law_740 : decode cL_law 740 = .ok (.iaload, 1) := by decide +kernel
theorem dL_law_741 : decode cL_law 741 = .ok (.i2l, 1) := by decide +kernel
theorem dL_law_742 : decode cL_law 742 = .ok (.ldc2_w 72, 3) := by decide +kernel
theorem dL_law_745 : decode cL_law 745 = .ok (.land, 1) := by decide +kernel
theorem dL_law_746 : decode cL_law 746 = .ok (.lor, 1) := by decide +kernel
theorem dL_law_747 : decode cL_law 747 = .ok (.invokevirtual 74, 3) := by decide +kernel
theorem kw_658 : Cond.code yX11_feed prog_1_method_11_code 7 (some .int) ∈ uu := uu_in (i := 658) (by decide +kernel) (by decide +kernel)
theorem kw_655 : Cond.methodLink "LandSurveyLaw" 74 yX11_feed ∈ uu := uu_in (i := 655) (by decide +kernel) (by decide +kernel)
theorem kw_656 : Cond.instanceMethod yX11_feed ∈ uu := uu_in (i := 656) (by decide +kernel) (by decide +kernel)
theorem kw_657 : Cond.selects "LandSurvey" yX11_feed yX11_feed ∈ uu := uu_in (i := 657) (by decide +kernel) (by decide +kernel)
theorem lk_LandSurveyLaw_74 : lkV "LandSurveyLaw" 74 yX11_feed cX11_feed 7 (some .int) 3 := ⟨kw_655, kw_656, kw_657, kw_144, kw_658, okX11_feed⟩
theorem dL_law_750 : decode cL_law 750 = .ok (.pop, 1) := by decide +kernel
theorem dL_law_751 : decode cL_law 751 = .ok (.aload_n 2, 1) := by decide +kernel
theorem dL_law_752 : decode cL_law 752 = .ok (.aload_n 0, 1) := by decide +kernel
theorem dL_law_753 : decode cL_law 753 = .ok (.iload 4, 2) := by decide +kernel
theorem dL_law_755 : decode cL_law 755 = .ok (.iconst 1, 1) := by decide +kernel
theorem dL_law_756 : decode cL_law 756 = .ok (.iadd, 1) := by decide +kernel
theorem dL_law_757 : decode cL_law 757 = .ok (.iaload, 1) := by decide +kernel
theorem dL_law_758 : decode cL_law 758 = .ok (.i2l, 1) := by decide +kernel
theorem dL_law_759 : decode cL_law 759 = .ok (.bipush 32, 2) := by decide +kernel
theorem dL_law_761 : decode cL_law 761 = .ok (.lshl, 1) := by decide +kernel
theorem dL_law_762 : decode cL_law 762 = .ok (.aload_n 0, 1) := by decide +kernel
theorem dL_law_763 : decode cL_law 763 = .ok (.iload 4, 2) := by decide +kernel
theorem dL_law_765 : decode cL_law 765 = .ok (.iconst 2, 1) := by decide +kernel
theorem dL_law_766 : decode cL_law 766 = .ok (.iadd, 1) := by decide +kernel
theorem dL_law_767 : decode cL_law 767 = .ok (.iaload, 1) := by decide +kernel
theorem dL_law_768 : decode cL_law 768 = .ok (.i2l, 1) := by decide +kernel
theorem dL_law_769 : decode cL_law 769 = .ok (.ldc2_w 72, 3) := by decide +kernel
theorem dL_law_772 : decode cL_law 772 = .ok (.land, 1) := by decide +kernel
theorem dL_law_773 : decode cL_law 773 = .ok (.lor, 1) := by decide +kernel
theorem dL_law_774 : decode cL_law 774 = .ok (.aload_n 0, 1) := by decide +kernel
theorem dL_law_775 : decode cL_law 775 = .ok (.iload 4, 2) := by decide +kernel
theorem dL_law_777 : decode cL_law 777 = .ok (.iconst 3, 1) := by decide +kernel
theorem dL_law_778 : decode cL_law 778 = .ok (.iadd, 1) := by decide +kernel
theorem dL_law_779 : decode cL_law 779 = .ok (.iaload, 1) := by decide +kernel
theorem dL_law_780 : decode cL_law 780 = .ok (.i2l, 1) := by decide +kernel
theorem dL_law_781 : decode cL_law 781 = .ok (.bipush 32, 2) := by decide +kernel
theorem dL_law_783 : decode cL_law 783 = .ok (.lshl, 1) := by decide +kernel
theorem dL_law_784 : decode cL_law 784 = .ok (.aload_n 0, 1) := by decide +kernel
theorem dL_law_785 : decode cL_law 785 = .ok (.iload 4, 2) := by decide +kernel
theorem dL_law_787 : decode cL_law 787 = .ok (.iconst 4, 1) := by decide +kernel
theorem dL_law_788 : decode cL_law 788 = .ok (.iadd, 1) := by decide +kernel
theorem dL_law_789 : decode cL_law 789 = .ok (.iaload, 1) := by decide +kernel
theorem dL_law_790 : decode cL_law 790 = .ok (.i2l, 1) := by decide +kernel
theorem dL_law_791 : decode cL_law 791 = .ok (.ldc2_w 72, 3) := by decide +kernel
theorem dL_law_794 : decode cL_law 794 = .ok (.land, 1) := by decide +kernel
theorem dL_law_795 : decode cL_law 795 = .ok (.lor, 1) := by decide +kernel
theorem dL_law_796 : decode cL_law 796 = .ok (.aload_n 0, 1) := by decide +kernel
theorem dL_law_797 : decode cL_law 797 = .ok (.iload 4, 2) := by decide +kernel
theorem dL_law_799 : decode cL_law 799 = .ok (.iconst 5, 1) := by decide +kernel
theorem dL_law_800 : decode cL_law 800 = .ok (.iadd, 1) := by decide +kernel
theorem dL_law_801 : decode cL_law 801 = .ok (.iaload, 1) := by decide +kernel
theorem dL_law_802 : decode cL_law 802 = .ok (.i2l, 1) := by decide +kernel
theorem dL_law_803 : decode cL_law 803 = .ok (.bipush 32, 2) := by decide +kernel
theorem dL_law_805 : decode cL_law 805 = .ok (.lshl, 1) := by decide +kernel
theorem dL_law_806 : decode cL_law 806 = .ok (.aload_n 0, 1) := by decide +kernel
theorem dL_law_807 : decode cL_law 807 = .ok (.iload 4, 2) := by decide +kernel
theorem dL_law_809 : decode cL_law 809 = .ok (.bipush 6, 2) := by decide +kernel
theorem dL_law_811 : decode cL_law 811 = .ok (.iadd, 1) := by decide +kernel
theorem dL_law_812 : decode cL_law 812 = .ok (.iaload, 1) := by decide +kernel
theorem dL_law_813 : decode cL_law 813 = .ok (.i2l, 1) := by decide +kernel
theorem dL_law_814 : decode cL_law 814 = .ok (.ldc2_w 72, 3) := by decide +kernel
theorem dL_law_817 : decode cL_law 817 = .ok (.land, 1) := by decide +kernel
theorem dL_law_818 : decode cL_law 818 = .ok (.lor, 1) := by decide +kernel
theorem dL_law_819 : decode cL_law 819 = .ok (.invokevirtual 78, 3) := by decide +kernel
theorem kw_1465 : Cond.code yX12_feed prog_14_method_2_code 7 (some .int) ∈ uu := uu_in (i := 1465) (by decide +kernel) (by decide +kernel)
theorem kw_1462 : Cond.methodLink "LandSurveyLaw" 78 yX12_feed ∈ uu := uu_in (i := 1462) (by decide +kernel) (by decide +kernel)
theorem kw_1463 : Cond.instanceMethod yX12_feed ∈ uu := uu_in (i := 1463) (by decide +kernel) (by decide +kernel)
theorem kw_1464 : Cond.selects "LandSurveyModel" yX12_feed yX12_feed ∈ uu := uu_in (i := 1464) (by decide +kernel) (by decide +kernel)
theorem lk_LandSurveyLaw_78 : lkV "LandSurveyLaw" 78 yX12_feed cX12_feed 7 (some .int) 3 := ⟨kw_1462, kw_1463, kw_1464, kw_152, kw_1465, okX12_feed⟩
theorem dL_law_822 : decode cL_law 822 = .ok (.pop, 1) := by decide +kernel
theorem dL_law_823 : decode cL_law 823 = .ok (.goto 1073, 3) := by decide +kernel
theorem dL_law_826 : decode cL_law 826 = .ok (.aload_n 1, 1) := by decide +kernel
theorem dL_law_827 : decode cL_law 827 = .ok (.invokevirtual 79, 3) := by decide +kernel
theorem kw_666 : Cond.code yX11_rules prog_1_method_12_code 2 (some .int) ∈ uu := uu_in (i := 666) (by decide +kernel) (by decide +kernel)
theorem kw_663 : Cond.methodLink "LandSurveyLaw" 79 yX11_rules ∈ uu := uu_in (i := 663) (by decide +kernel) (by decide +kernel)
theorem kw_664 : Cond.instanceMethod yX11_rules ∈ uu := uu_in (i := 664) (by decide +kernel) (by decide +kernel)
theorem kw_665 : Cond.selects "LandSurvey" yX11_rules yX11_rules ∈ uu := uu_in (i := 665) (by decide +kernel) (by decide +kernel)
theorem lk_LandSurveyLaw_79 : lkV "LandSurveyLaw" 79 yX11_rules cX11_rules 2 (some .int) 0 := ⟨kw_663, kw_664, kw_665, kw_144, kw_666, okX11_rules⟩
theorem dL_law_830 : decode cL_law 830 = .ok (.pop, 1) := by decide +kernel
theorem dL_law_831 : decode cL_law 831 = .ok (.aload_n 2, 1) := by decide +kernel
theorem dL_law_832 : decode cL_law 832 = .ok (.invokevirtual 83, 3) := by decide +kernel
theorem kw_1771 : Cond.code yX12_rules prog_14_method_18_code 2 (some .int) ∈ uu := uu_in (i := 1771) (by decide +kernel) (by decide +kernel)
theorem kw_1768 : Cond.methodLink "LandSurveyLaw" 83 yX12_rules ∈ uu := uu_in (i := 1768) (by decide +kernel) (by decide +kernel)
theorem kw_1769 : Cond.instanceMethod yX12_rules ∈ uu := uu_in (i := 1769) (by decide +kernel) (by decide +kernel)
theorem kw_1770 : Cond.selects "LandSurveyModel" yX12_rules yX12_rules ∈ uu := uu_in (i := 1770) (by decide +kernel) (by decide +kernel)
theorem lk_LandSurveyLaw_83 : lkV "LandSurveyLaw" 83 yX12_rules cX12_rules 2 (some .int) 0 := ⟨kw_1768, kw_1769, kw_1770, kw_152, kw_1771, okX12_rules⟩
theorem dL_law_835 : decode cL_law 835 = .ok (.pop, 1) := by decide +kernel
theorem dL_law_836 : decode cL_law 836 = .ok (.goto 1060, 3) := by decide +kernel
theorem dL_law_839 : decode cL_law 839 = .ok (.aload_n 1, 1) := by decide +kernel
theorem dL_law_840 : decode cL_law 840 = .ok (.aload_n 0, 1) := by decide +kernel
theorem dL_law_841 : decode cL_law 841 = .ok (.iload 4, 2) := by decide +kernel
theorem dL_law_843 : decode cL_law 843 = .ok (.iconst 1, 1) := by decide +kernel
theorem dL_law_844 : decode cL_law 844 = .ok (.iadd, 1) := by decide +kernel
theorem dL_law_845 : decode cL_law 845 = .ok (.iaload, 1) := by decide +kernel
theorem dL_law_846 : decode cL_law 846 = .ok (.aload_n 0, 1) := by decide +kernel
theorem dL_law_847 : decode cL_law 847 = .ok (.iload 4, 2) := by decide +kernel
theorem dL_law_849 : decode cL_law 849 = .ok (.iconst 2, 1) := by decide +kernel
theorem dL_law_850 : decode cL_law 850 = .ok (.iadd, 1) := by decide +kernel
theorem dL_law_851 : decode cL_law 851 = .ok (.iaload, 1) := by decide +kernel
theorem dL_law_852 : decode cL_law 852 = .ok (.aload_n 0, 1) := by decide +kernel
theorem dL_law_853 : decode cL_law 853 = .ok (.iload 4, 2) := by decide +kernel
theorem dL_law_855 : decode cL_law 855 = .ok (.iconst 3, 1) := by decide +kernel
theorem dL_law_856 : decode cL_law 856 = .ok (.iadd, 1) := by decide +kernel
theorem dL_law_857 : decode cL_law 857 = .ok (.iaload, 1) := by decide +kernel
theorem dL_law_858 : decode cL_law 858 = .ok (.ifCond .eq 7, 3) := by decide +kernel
theorem dL_law_865 : decode cL_law 865 = .ok (.iconst 0, 1) := by decide +kernel
theorem dL_law_866 : decode cL_law 866 = .ok (.aload_n 0, 1) := by decide +kernel
theorem dL_law_867 : decode cL_law 867 = .ok (.iload 4, 2) := by decide +kernel
theorem dL_law_869 : decode cL_law 869 = .ok (.iconst 4, 1) := by decide +kernel
theorem dL_law_870 : decode cL_law 870 = .ok (.iadd, 1) := by decide +kernel
theorem dL_law_871 : decode cL_law 871 = .ok (.iaload, 1) := by decide +kernel
theorem dL_law_872 : decode cL_law 872 = .ok (.aload_n 0, 1) := by decide +kernel
theorem dL_law_873 : decode cL_law 873 = .ok (.iload 4, 2) := by decide +kernel
theorem dL_law_875 : decode cL_law 875 = .ok (.iconst 5, 1) := by decide +kernel
theorem dL_law_876 : decode cL_law 876 = .ok (.iadd, 1) := by decide +kernel
theorem dL_law_877 : decode cL_law 877 = .ok (.iaload, 1) := by decide +kernel
theorem dL_law_878 : decode cL_law 878 = .ok (.aload_n 0, 1) := by decide +kernel
theorem dL_law_879 : decode cL_law 879 = .ok (.iload 4, 2) := by decide +kernel
theorem dL_law_881 : decode cL_law 881 = .ok (.bipush 6, 2) := by decide +kernel
theorem dL_law_883 : decode cL_law 883 = .ok (.iadd, 1) := by decide +kernel
theorem dL_law_884 : decode cL_law 884 = .ok (.iaload, 1) := by decide +kernel
theorem dL_law_885 : decode cL_law 885 = .ok (.aload_n 0, 1) := by decide +kernel
theorem dL_law_886 : decode cL_law 886 = .ok (.iload 4, 2) := by decide +kernel
theorem dL_law_888 : decode cL_law 888 = .ok (.bipush 7, 2) := by decide +kernel
theorem dL_law_890 : decode cL_law 890 = .ok (.iadd, 1) := by decide +kernel
theorem dL_law_891 : decode cL_law 891 = .ok (.iaload, 1) := by decide +kernel
theorem dL_law_892 : decode cL_law 892 = .ok (.invokevirtual 84, 3) := by decide +kernel
theorem kw_913 : Cond.code yX11_fault prog_1_method_13_code 10 (some .int) ∈ uu := uu_in (i := 913) (by decide +kernel) (by decide +kernel)
theorem kw_910 : Cond.methodLink "LandSurveyLaw" 84 yX11_fault ∈ uu := uu_in (i := 910) (by decide +kernel) (by decide +kernel)
theorem kw_911 : Cond.instanceMethod yX11_fault ∈ uu := uu_in (i := 911) (by decide +kernel) (by decide +kernel)
theorem kw_912 : Cond.selects "LandSurvey" yX11_fault yX11_fault ∈ uu := uu_in (i := 912) (by decide +kernel) (by decide +kernel)
theorem lk_LandSurveyLaw_84 : lkV "LandSurveyLaw" 84 yX11_fault cX11_fault 10 (some .int) 7 := ⟨kw_910, kw_911, kw_912, kw_144, kw_913, okX11_fault⟩
theorem dL_law_895 : decode cL_law 895 = .ok (.pop, 1) := by decide +kernel
theorem dL_law_896 : decode cL_law 896 = .ok (.aload_n 2, 1) := by decide +kernel
theorem dL_law_897 : decode cL_law 897 = .ok (.aload_n 0, 1) := by decide +kernel
theorem dL_law_898 : decode cL_law 898 = .ok (.iload 4, 2) := by decide +kernel
theorem dL_law_900 : decode cL_law 900 = .ok (.iconst 1, 1) := by decide +kernel
theorem dL_law_901 : decode cL_law 901 = .ok (.iadd, 1) := by decide +kernel
theorem dL_law_902 : decode cL_law 902 = .ok (.iaload, 1) := by decide +kernel
theorem dL_law_903 : decode cL_law 903 = .ok (.aload_n 0, 1) := by decide +kernel
theorem dL_law_904 : decode cL_law 904 = .ok (.iload 4, 2) := by decide +kernel
theorem dL_law_906 : decode cL_law 906 = .ok (.iconst 2, 1) := by decide +kernel
theorem dL_law_907 : decode cL_law 907 = .ok (.iadd, 1) := by decide +kernel
theorem dL_law_908 : decode cL_law 908 = .ok (.iaload, 1) := by decide +kernel
theorem dL_law_909 : decode cL_law 909 = .ok (.aload_n 0, 1) := by decide +kernel
theorem dL_law_910 : decode cL_law 910 = .ok (.iload 4, 2) := by decide +kernel
theorem dL_law_912 : decode cL_law 912 = .ok (.iconst 3, 1) := by decide +kernel
theorem dL_law_913 : decode cL_law 913 = .ok (.iadd, 1) := by decide +kernel
theorem dL_law_914 : decode cL_law 914 = .ok (.iaload, 1) := by decide +kernel
theorem dL_law_915 : decode cL_law 915 = .ok (.ifCond .eq 7, 3) := by decide +kernel
theorem dL_law_922 : decode cL_law 922 = .ok (.iconst 0, 1) := by decide +kernel
theorem dL_law_923 : decode cL_law 923 = .ok (.aload_n 0, 1) := by decide +kernel
theorem dL_law_924 : decode cL_law 924 = .ok (.iload 4, 2) := by decide +kernel
theorem dL_law_926 : decode cL_law 926 = .ok (.iconst 4, 1) := by decide +kernel
theorem dL_law_927 : decode cL_law 927 = .ok (.iadd, 1) := by decide +kernel
theorem dL_law_928 : decode cL_law 928 = .ok (.iaload, 1) := by decide +kernel
theorem dL_law_929 : decode cL_law 929 = .ok (.aload_n 0, 1) := by decide +kernel
theorem dL_law_930 : decode cL_law 930 = .ok (.iload 4, 2) := by decide +kernel
theorem dL_law_932 : decode cL_law 932 = .ok (.iconst 5, 1) := by decide +kernel
theorem dL_law_933 : decode cL_law 933 = .ok (.iadd, 1) := by decide +kernel
theorem dL_law_934 : decode cL_law 934 = .ok (.iaload, 1) := by decide +kernel
theorem dL_law_935 : decode cL_law 935 = .ok (.aload_n 0, 1) := by decide +kernel
theorem dL_law_936 : decode cL_law 936 = .ok (.iload 4, 2) := by decide +kernel
theorem dL_law_938 : decode cL_law 938 = .ok (.bipush 6, 2) := by decide +kernel
theorem dL_law_940 : decode cL_law 940 = .ok (.iadd, 1) := by decide +kernel
theorem dL_law_941 : decode cL_law 941 = .ok (.iaload, 1) := by decide +kernel
theorem dL_law_942 : decode cL_law 942 = .ok (.aload_n 0, 1) := by decide +kernel
theorem dL_law_943 : decode cL_law 943 = .ok (.iload 4, 2) := by decide +kernel
theorem dL_law_945 : decode cL_law 945 = .ok (.bipush 7, 2) := by decide +kernel
theorem dL_law_947 : decode cL_law 947 = .ok (.iadd, 1) := by decide +kernel
theorem dL_law_948 : decode cL_law 948 = .ok (.iaload, 1) := by decide +kernel
theorem dL_law_949 : decode cL_law 949 = .ok (.invokevirtual 88, 3) := by decide +kernel
theorem kw_1933 : Cond.code yX12_fault prog_14_method_65_code 10 (some .int) ∈ uu := uu_in (i := 1933) (by decide +kernel) (by decide +kernel)
theorem kw_1930 : Cond.methodLink "LandSurveyLaw" 88 yX12_fault ∈ uu := uu_in (i := 1930) (by decide +kernel) (by decide +kernel)
theorem kw_1931 : Cond.instanceMethod yX12_fault ∈ uu := uu_in (i := 1931) (by decide +kernel) (by decide +kernel)
theorem kw_1932 : Cond.selects "LandSurveyModel" yX12_fault yX12_fault ∈ uu := uu_in (i := 1932) (by decide +kernel) (by decide +kernel)
theorem lk_LandSurveyLaw_88 : lkV "LandSurveyLaw" 88 yX12_fault cX12_fault 10 (some .int) 7 := ⟨kw_1930, kw_1931, kw_1932, kw_152, kw_1933, okX12_fault⟩
theorem dL_law_952 : decode cL_law 952 = .ok (.pop, 1) := by decide +kernel
theorem dL_law_953 : decode cL_law 953 = .ok (.goto 943, 3) := by decide +kernel
theorem dL_law_861 : decode cL_law 861 = .ok (.iconst 1, 1) := by decide +kernel
theorem dL_law_862 : decode cL_law 862 = .ok (.goto 4, 3) := by decide +kernel
theorem dL_law_918 : decode cL_law 918 = .ok (.iconst 1, 1) := by decide +kernel
theorem dL_law_919 : decode cL_law 919 = .ok (.goto 4, 3) := by decide +kernel
theorem dL_law_956 : decode cL_law 956 = .ok (.aload_n 1, 1) := by decide +kernel
theorem dL_law_957 : decode cL_law 957 = .ok (.aload_n 0, 1) := by decide +kernel
theorem dL_law_958 : decode cL_law 958 = .ok (.iload 4, 2) := by decide +kernel
theorem dL_law_960 : decode cL_law 960 = .ok (.iconst 1, 1) := by decide +kernel
theorem dL_law_961 : decode cL_law 961 = .ok (.iadd, 1) := by decide +kernel
theorem dL_law_962 : decode cL_law 962 = .ok (.iaload, 1) := by decide +kernel
theorem dL_law_963 : decode cL_law 963 = .ok (.invokevirtual 89, 3) := by decide +kernel
theorem kw_947 : Cond.code yX11_rivalry prog_1_method_14_code 2 (some .boolean) ∈ uu := uu_in (i := 947) (by decide +kernel) (by decide +kernel)
theorem kw_944 : Cond.methodLink "LandSurveyLaw" 89 yX11_rivalry ∈ uu := uu_in (i := 944) (by decide +kernel) (by decide +kernel)
theorem kw_945 : Cond.instanceMethod yX11_rivalry ∈ uu := uu_in (i := 945) (by decide +kernel) (by decide +kernel)
theorem kw_946 : Cond.selects "LandSurvey" yX11_rivalry yX11_rivalry ∈ uu := uu_in (i := 946) (by decide +kernel) (by decide +kernel)
theorem lk_LandSurveyLaw_89 : lkV "LandSurveyLaw" 89 yX11_rivalry cX11_rivalry 2 (some .boolean) 1 := ⟨kw_944, kw_945, kw_946, kw_144, kw_947, okX11_rivalry⟩
theorem dL_law_966 : decode cL_law 966 = .ok (.pop, 1) := by decide +kernel
theorem dL_law_967 : decode cL_law 967 = .ok (.aload_n 2, 1) := by decide +kernel
theorem dL_law_968 : decode cL_law 968 = .ok (.aload_n 0, 1) := by decide +kernel
theorem dL_law_969 : decode cL_law 969 = .ok (.iload 4, 2) := by decide +kernel
theorem dL_law_971 : decode cL_law 971 = .ok (.iconst 1, 1) := by decide +kernel
theorem dL_law_972 : decode cL_law 972 = .ok (.iadd, 1) := by decide +kernel
theorem dL_law_973 : decode cL_law 973 = .ok (.iaload, 1) := by decide +kernel
theorem dL_law_974 : decode cL_law 974 = .ok (.invokevirtual 92, 3) := by decide +kernel
theorem kw_1937 : Cond.code yX12_rivalry prog_14_method_84_code 2 (some .boolean) ∈ uu := uu_in (i := 1937) (by decide +kernel) (by decide +kernel)
theorem kw_1934 : Cond.methodLink "LandSurveyLaw" 92 yX12_rivalry ∈ uu := uu_in (i := 1934) (by decide +kernel) (by decide +kernel)
theorem kw_1935 : Cond.instanceMethod yX12_rivalry ∈ uu := uu_in (i := 1935) (by decide +kernel) (by decide +kernel)
theorem kw_1936 : Cond.selects "LandSurveyModel" yX12_rivalry yX12_rivalry ∈ uu := uu_in (i := 1936) (by decide +kernel) (by decide +kernel)
theorem lk_LandSurveyLaw_92 : lkV "LandSurveyLaw" 92 yX12_rivalry cX12_rivalry 2 (some .boolean) 1 := ⟨kw_1934, kw_1935, kw_1936, kw_152, kw_1937, okX12_rivalry⟩
theorem dL_law_977 : decode cL_law 977 = .ok (.pop, 1) := by decide +kernel
theorem dL_law_978 : decode cL_law 978 = .ok (.goto 918, 3) := by decide +kernel
theorem dL_law_981 : decode cL_law 981 = .ok (.aload_n 1, 1) := by decide +kernel
theorem dL_law_982 : decode cL_law 982 = .ok (.aload_n 0, 1) := by decide +kernel
theorem dL_law_983 : decode cL_law 983 = .ok (.iload 4, 2) := by decide +kernel
theorem dL_law_985 : decode cL_law 985 = .ok (.iconst 1, 1) := by decide +kernel
theorem dL_law_986 : decode cL_law 986 = .ok (.iadd, 1) := by decide +kernel
theorem dL_law_987 : decode cL_law 987 = .ok (.iaload, 1) := by decide +kernel
theorem dL_law_988 : decode cL_law 988 = .ok (.aload_n 0, 1) := by decide +kernel
theorem dL_law_989 : decode cL_law 989 = .ok (.iload 4, 2) := by decide +kernel
theorem dL_law_991 : decode cL_law 991 = .ok (.iconst 2, 1) := by decide +kernel
theorem dL_law_992 : decode cL_law 992 = .ok (.iadd, 1) := by decide +kernel
theorem dL_law_993 : decode cL_law 993 = .ok (.iaload, 1) := by decide +kernel
theorem dL_law_994 : decode cL_law 994 = .ok (.aload_n 3, 1) := by decide +kernel
theorem dL_law_995 : decode cL_law 995 = .ok (.invokestatic 93, 3) := by decide +kernel
theorem kw_1361 : Cond.methodLink "LandSurveyLaw" 93 yL_look ∈ uu := uu_in (i := 1361) (by decide +kernel) (by decide +kernel)
theorem kw_1362 : Cond.static yL_look ∈ uu := uu_in (i := 1362) (by decide +kernel) (by decide +kernel)
theorem kw_143 : Cond.initialized "LandSurveyLaw" ∈ uu := uu_in (i := 143) (by decide +kernel) (by decide +kernel)
theorem kw_1363 : Cond.codeWith yL_look method_3_code 5 (some .int) [(0, 10, 13, 13)] ∈ uu := uu_in (i := 1363) (by decide +kernel) (by decide +kernel)
theorem dL_law_998 : decode cL_law 998 = .ok (.istore 5, 2) := by decide +kernel
theorem dL_law_1000 : decode cL_law 1000 = .ok (.aload_n 2, 1) := by decide +kernel
theorem dL_law_1001 : decode cL_law 1001 = .ok (.aload_n 0, 1) := by decide +kernel
theorem dL_law_1002 : decode cL_law 1002 = .ok (.iload 4, 2) := by decide +kernel
theorem dL_law_1004 : decode cL_law 1004 = .ok (.iconst 1, 1) := by decide +kernel
theorem dL_law_1005 : decode cL_law 1005 = .ok (.iadd, 1) := by decide +kernel
theorem dL_law_1006 : decode cL_law 1006 = .ok (.iaload, 1) := by decide +kernel
theorem dL_law_1007 : decode cL_law 1007 = .ok (.aload_n 0, 1) := by decide +kernel
theorem dL_law_1008 : decode cL_law 1008 = .ok (.iload 4, 2) := by decide +kernel
theorem dL_law_1010 : decode cL_law 1010 = .ok (.iconst 2, 1) := by decide +kernel
theorem dL_law_1011 : decode cL_law 1011 = .ok (.iadd, 1) := by decide +kernel
theorem dL_law_1012 : decode cL_law 1012 = .ok (.iaload, 1) := by decide +kernel
theorem dL_law_1013 : decode cL_law 1013 = .ok (.invokevirtual 98, 3) := by decide +kernel
theorem kw_1941 : Cond.code yX12_look prog_14_method_85_code 3 (some .int) ∈ uu := uu_in (i := 1941) (by decide +kernel) (by decide +kernel)
theorem kw_1938 : Cond.methodLink "LandSurveyLaw" 98 yX12_look ∈ uu := uu_in (i := 1938) (by decide +kernel) (by decide +kernel)
theorem kw_1939 : Cond.instanceMethod yX12_look ∈ uu := uu_in (i := 1939) (by decide +kernel) (by decide +kernel)
theorem kw_1940 : Cond.selects "LandSurveyModel" yX12_look yX12_look ∈ uu := uu_in (i := 1940) (by decide +kernel) (by decide +kernel)
theorem lk_LandSurveyLaw_98 : lkV "LandSurveyLaw" 98 yX12_look cX12_look 3 (some .int) 2 := ⟨kw_1938, kw_1939, kw_1940, kw_152, kw_1941, okX12_look⟩
theorem dL_law_1016 : decode cL_law 1016 = .ok (.istore 6, 2) := by decide +kernel
theorem dL_law_1018 : decode cL_law 1018 = .ok (.goto 878, 3) := by decide +kernel
theorem dL_law_1021 : decode cL_law 1021 = .ok (.aload_n 1, 1) := by decide +kernel
theorem dL_law_1022 : decode cL_law 1022 = .ok (.aload_n 0, 1) := by decide +kernel
theorem dL_law_1023 : decode cL_law 1023 = .ok (.iload 4, 2) := by decide +kernel
theorem dL_law_1025 : decode cL_law 1025 = .ok (.iconst 1, 1) := by decide +kernel
theorem dL_law_1026 : decode cL_law 1026 = .ok (.iadd, 1) := by decide +kernel
theorem dL_law_1027 : decode cL_law 1027 = .ok (.iaload, 1) := by decide +kernel
theorem dL_law_1028 : decode cL_law 1028 = .ok (.invokevirtual 99, 3) := by decide +kernel
theorem kw_951 : Cond.code yX11_cost prog_1_method_16_code 3 (some .int) ∈ uu := uu_in (i := 951) (by decide +kernel) (by decide +kernel)
theorem kw_948 : Cond.methodLink "LandSurveyLaw" 99 yX11_cost ∈ uu := uu_in (i := 948) (by decide +kernel) (by decide +kernel)
theorem kw_949 : Cond.instanceMethod yX11_cost ∈ uu := uu_in (i := 949) (by decide +kernel) (by decide +kernel)
theorem kw_950 : Cond.selects "LandSurvey" yX11_cost yX11_cost ∈ uu := uu_in (i := 950) (by decide +kernel) (by decide +kernel)
theorem lk_LandSurveyLaw_99 : lkV "LandSurveyLaw" 99 yX11_cost cX11_cost 3 (some .int) 1 := ⟨kw_948, kw_949, kw_950, kw_144, kw_951, okX11_cost⟩
theorem dL_law_1031 : decode cL_law 1031 = .ok (.pop, 1) := by decide +kernel
theorem dL_law_1032 : decode cL_law 1032 = .ok (.aload_n 2, 1) := by decide +kernel
theorem dL_law_1033 : decode cL_law 1033 = .ok (.aload_n 0, 1) := by decide +kernel
theorem dL_law_1034 : decode cL_law 1034 = .ok (.iload 4, 2) := by decide +kernel
theorem dL_law_1036 : decode cL_law 1036 = .ok (.iconst 1, 1) := by decide +kernel
theorem dL_law_1037 : decode cL_law 1037 = .ok (.iadd, 1) := by decide +kernel
theorem dL_law_1038 : decode cL_law 1038 = .ok (.iaload, 1) := by decide +kernel
theorem dL_law_1039 : decode cL_law 1039 = .ok (.invokevirtual 102, 3) := by decide +kernel
theorem kw_2087 : Cond.code yX12_cost prog_14_method_86_code 2 (some .int) ∈ uu := uu_in (i := 2087) (by decide +kernel) (by decide +kernel)
theorem kw_2084 : Cond.methodLink "LandSurveyLaw" 102 yX12_cost ∈ uu := uu_in (i := 2084) (by decide +kernel) (by decide +kernel)
theorem kw_2085 : Cond.instanceMethod yX12_cost ∈ uu := uu_in (i := 2085) (by decide +kernel) (by decide +kernel)
theorem kw_2086 : Cond.selects "LandSurveyModel" yX12_cost yX12_cost ∈ uu := uu_in (i := 2086) (by decide +kernel) (by decide +kernel)
theorem lk_LandSurveyLaw_102 : lkV "LandSurveyLaw" 102 yX12_cost cX12_cost 2 (some .int) 1 := ⟨kw_2084, kw_2085, kw_2086, kw_152, kw_2087, okX12_cost⟩
theorem dL_law_1042 : decode cL_law 1042 = .ok (.pop, 1) := by decide +kernel
theorem dL_law_1043 : decode cL_law 1043 = .ok (.goto 853, 3) := by decide +kernel
theorem dL_law_1046 : decode cL_law 1046 = .ok (.aload_n 1, 1) := by decide +kernel
theorem dL_law_1047 : decode cL_law 1047 = .ok (.aload_n 0, 1) := by decide +kernel
theorem dL_law_1048 : decode cL_law 1048 = .ok (.iload 4, 2) := by decide +kernel
theorem dL_law_1050 : decode cL_law 1050 = .ok (.iconst 1, 1) := by decide +kernel
theorem dL_law_1051 : decode cL_law 1051 = .ok (.iadd, 1) := by decide +kernel
theorem dL_law_1052 : decode cL_law 1052 = .ok (.iaload, 1) := by decide +kernel
theorem dL_law_1053 : decode cL_law 1053 = .ok (.aload_n 0, 1) := by decide +kernel
theorem dL_law_1054 : decode cL_law 1054 = .ok (.iload 4, 2) := by decide +kernel
theorem dL_law_1056 : decode cL_law 1056 = .ok (.iconst 2, 1) := by decide +kernel
theorem dL_law_1057 : decode cL_law 1057 = .ok (.iadd, 1) := by decide +kernel
theorem dL_law_1058 : decode cL_law 1058 = .ok (.iaload, 1) := by decide +kernel
theorem dL_law_1059 : decode cL_law 1059 = .ok (.invokevirtual 103, 3) := by decide +kernel
theorem kw_1132 : Cond.code yX11_doubted prog_1_method_17_code 6 (some .int) ∈ uu := uu_in (i := 1132) (by decide +kernel) (by decide +kernel)
theorem kw_1129 : Cond.methodLink "LandSurveyLaw" 103 yX11_doubted ∈ uu := uu_in (i := 1129) (by decide +kernel) (by decide +kernel)
theorem kw_1130 : Cond.instanceMethod yX11_doubted ∈ uu := uu_in (i := 1130) (by decide +kernel) (by decide +kernel)
theorem kw_1131 : Cond.selects "LandSurvey" yX11_doubted yX11_doubted ∈ uu := uu_in (i := 1131) (by decide +kernel) (by decide +kernel)
theorem lk_LandSurveyLaw_103 : lkV "LandSurveyLaw" 103 yX11_doubted cX11_doubted 6 (some .int) 2 := ⟨kw_1129, kw_1130, kw_1131, kw_144, kw_1132, okX11_doubted⟩
theorem dL_law_1062 : decode cL_law 1062 = .ok (.pop, 1) := by decide +kernel
theorem dL_law_1063 : decode cL_law 1063 = .ok (.aload_n 2, 1) := by decide +kernel
theorem dL_law_1064 : decode cL_law 1064 = .ok (.aload_n 0, 1) := by decide +kernel
theorem dL_law_1065 : decode cL_law 1065 = .ok (.iload 4, 2) := by decide +kernel
theorem dL_law_1067 : decode cL_law 1067 = .ok (.iconst 1, 1) := by decide +kernel
theorem dL_law_1068 : decode cL_law 1068 = .ok (.iadd, 1) := by decide +kernel
theorem dL_law_1069 : decode cL_law 1069 = .ok (.iaload, 1) := by decide +kernel
theorem dL_law_1070 : decode cL_law 1070 = .ok (.aload_n 0, 1) := by decide +kernel
theorem dL_law_1071 : decode cL_law 1071 = .ok (.iload 4, 2) := by decide +kernel
theorem dL_law_1073 : decode cL_law 1073 = .ok (.iconst 2, 1) := by decide +kernel
theorem dL_law_1074 : decode cL_law 1074 = .ok (.iadd, 1) := by decide +kernel
theorem dL_law_1075 : decode cL_law 1075 = .ok (.iaload, 1) := by decide +kernel
theorem dL_law_1076 : decode cL_law 1076 = .ok (.invokevirtual 106, 3) := by decide +kernel
theorem kw_2095 : Cond.code yX12_doubted prog_14_method_87_code 5 (some .int) ∈ uu := uu_in (i := 2095) (by decide +kernel) (by decide +kernel)
theorem kw_2092 : Cond.methodLink "LandSurveyLaw" 106 yX12_doubted ∈ uu := uu_in (i := 2092) (by decide +kernel) (by decide +kernel)
theorem kw_2093 : Cond.instanceMethod yX12_doubted ∈ uu := uu_in (i := 2093) (by decide +kernel) (by decide +kernel)
theorem kw_2094 : Cond.selects "LandSurveyModel" yX12_doubted yX12_doubted ∈ uu := uu_in (i := 2094) (by decide +kernel) (by decide +kernel)
theorem lk_LandSurveyLaw_106 : lkV "LandSurveyLaw" 106 yX12_doubted cX12_doubted 5 (some .int) 2 := ⟨kw_2092, kw_2093, kw_2094, kw_152, kw_2095, okX12_doubted⟩
theorem dL_law_1079 : decode cL_law 1079 = .ok (.pop, 1) := by decide +kernel
theorem dL_law_1080 : decode cL_law 1080 = .ok (.goto 816, 3) := by decide +kernel
theorem dL_law_1083 : decode cL_law 1083 = .ok (.aload_n 1, 1) := by decide +kernel
theorem dL_law_1084 : decode cL_law 1084 = .ok (.aload_n 0, 1) := by decide +kernel
theorem dL_law_1085 : decode cL_law 1085 = .ok (.iload 4, 2) := by decide +kernel
theorem dL_law_1087 : decode cL_law 1087 = .ok (.iconst 1, 1) := by decide +kernel
theorem dL_law_1088 : decode cL_law 1088 = .ok (.iadd, 1) := by decide +kernel
theorem dL_law_1089 : decode cL_law 1089 = .ok (.iaload, 1) := by decide +kernel
theorem dL_law_1090 : decode cL_law 1090 = .ok (.invokevirtual 107, 3) := by decide +kernel
theorem kw_1140 : Cond.code yX11_best prog_1_method_18_code 2 (some .int) ∈ uu := uu_in (i := 1140) (by decide +kernel) (by decide +kernel)
theorem kw_1137 : Cond.methodLink "LandSurveyLaw" 107 yX11_best ∈ uu := uu_in (i := 1137) (by decide +kernel) (by decide +kernel)
theorem kw_1138 : Cond.instanceMethod yX11_best ∈ uu := uu_in (i := 1138) (by decide +kernel) (by decide +kernel)
theorem kw_1139 : Cond.selects "LandSurvey" yX11_best yX11_best ∈ uu := uu_in (i := 1139) (by decide +kernel) (by decide +kernel)
theorem lk_LandSurveyLaw_107 : lkV "LandSurveyLaw" 107 yX11_best cX11_best 2 (some .int) 1 := ⟨kw_1137, kw_1138, kw_1139, kw_144, kw_1140, okX11_best⟩
theorem dL_law_1093 : decode cL_law 1093 = .ok (.pop, 1) := by decide +kernel
theorem dL_law_1094 : decode cL_law 1094 = .ok (.aload_n 2, 1) := by decide +kernel
theorem dL_law_1095 : decode cL_law 1095 = .ok (.aload_n 0, 1) := by decide +kernel
theorem dL_law_1096 : decode cL_law 1096 = .ok (.iload 4, 2) := by decide +kernel
theorem dL_law_1098 : decode cL_law 1098 = .ok (.iconst 1, 1) := by decide +kernel
theorem dL_law_1099 : decode cL_law 1099 = .ok (.iadd, 1) := by decide +kernel
theorem dL_law_1100 : decode cL_law 1100 = .ok (.iaload, 1) := by decide +kernel
theorem dL_law_1101 : decode cL_law 1101 = .ok (.invokevirtual 110, 3) := by decide +kernel
theorem kw_2099 : Cond.code yX12_best prog_14_method_89_code 2 (some .int) ∈ uu := uu_in (i := 2099) (by decide +kernel) (by decide +kernel)
theorem kw_2096 : Cond.methodLink "LandSurveyLaw" 110 yX12_best ∈ uu := uu_in (i := 2096) (by decide +kernel) (by decide +kernel)
theorem kw_2097 : Cond.instanceMethod yX12_best ∈ uu := uu_in (i := 2097) (by decide +kernel) (by decide +kernel)
theorem kw_2098 : Cond.selects "LandSurveyModel" yX12_best yX12_best ∈ uu := uu_in (i := 2098) (by decide +kernel) (by decide +kernel)
theorem lk_LandSurveyLaw_110 : lkV "LandSurveyLaw" 110 yX12_best cX12_best 2 (some .int) 1 := ⟨kw_2096, kw_2097, kw_2098, kw_152, kw_2099, okX12_best⟩
theorem dL_law_1104 : decode cL_law 1104 = .ok (.pop, 1) := by decide +kernel
theorem dL_law_1105 : decode cL_law 1105 = .ok (.goto 791, 3) := by decide +kernel
theorem dL_law_1108 : decode cL_law 1108 = .ok (.aload_n 1, 1) := by decide +kernel
theorem dL_law_1109 : decode cL_law 1109 = .ok (.aload_n 0, 1) := by decide +kernel
theorem dL_law_1110 : decode cL_law 1110 = .ok (.iload 4, 2) := by decide +kernel
theorem dL_law_1112 : decode cL_law 1112 = .ok (.iconst 1, 1) := by decide +kernel
theorem dL_law_1113 : decode cL_law 1113 = .ok (.iadd, 1) := by decide +kernel
theorem dL_law_1114 : decode cL_law 1114 = .ok (.iaload, 1) := by decide +kernel
theorem dL_law_1115 : decode cL_law 1115 = .ok (.invokevirtual 111, 3) := by decide +kernel
theorem kw_1162 : Cond.code yX11_kept prog_1_method_19_code 2 (some .int) ∈ uu := uu_in (i := 1162) (by decide +kernel) (by decide +kernel)
theorem kw_1159 : Cond.methodLink "LandSurveyLaw" 111 yX11_kept ∈ uu := uu_in (i := 1159) (by decide +kernel) (by decide +kernel)
theorem kw_1160 : Cond.instanceMethod yX11_kept ∈ uu := uu_in (i := 1160) (by decide +kernel) (by decide +kernel)
theorem kw_1161 : Cond.selects "LandSurvey" yX11_kept yX11_kept ∈ uu := uu_in (i := 1161) (by decide +kernel) (by decide +kernel)
theorem lk_LandSurveyLaw_111 : lkV "LandSurveyLaw" 111 yX11_kept cX11_kept 2 (some .int) 1 := ⟨kw_1159, kw_1160, kw_1161, kw_144, kw_1162, okX11_kept⟩
theorem dL_law_1118 : decode cL_law 1118 = .ok (.pop, 1) := by decide +kernel
theorem dL_law_1119 : decode cL_law 1119 = .ok (.aload_n 2, 1) := by decide +kernel
theorem dL_law_1120 : decode cL_law 1120 = .ok (.aload_n 0, 1) := by decide +kernel
theorem dL_law_1121 : decode cL_law 1121 = .ok (.iload 4, 2) := by decide +kernel
theorem dL_law_1123 : decode cL_law 1123 = .ok (.iconst 1, 1) := by decide +kernel
theorem dL_law_1124 : decode cL_law 1124 = .ok (.iadd, 1) := by decide +kernel
theorem dL_law_1125 : decode cL_law 1125 = .ok (.iaload, 1) := by decide +kernel
theorem dL_law_1126 : decode cL_law 1126 = .ok (.invokevirtual 114, 3) := by decide +kernel
theorem kw_2107 : Cond.code yX12_kept prog_14_method_90_code 2 (some .int) ∈ uu := uu_in (i := 2107) (by decide +kernel) (by decide +kernel)
theorem kw_2104 : Cond.methodLink "LandSurveyLaw" 114 yX12_kept ∈ uu := uu_in (i := 2104) (by decide +kernel) (by decide +kernel)
theorem kw_2105 : Cond.instanceMethod yX12_kept ∈ uu := uu_in (i := 2105) (by decide +kernel) (by decide +kernel)
theorem kw_2106 : Cond.selects "LandSurveyModel" yX12_kept yX12_kept ∈ uu := uu_in (i := 2106) (by decide +kernel) (by decide +kernel)
theorem lk_LandSurveyLaw_114 : lkV "LandSurveyLaw" 114 yX12_kept cX12_kept 2 (some .int) 1 := ⟨kw_2104, kw_2105, kw_2106, kw_152, kw_2107, okX12_kept⟩
theorem dL_law_1129 : decode cL_law 1129 = .ok (.pop, 1) := by decide +kernel
theorem dL_law_1130 : decode cL_law 1130 = .ok (.goto 766, 3) := by decide +kernel
theorem dL_law_1133 : decode cL_law 1133 = .ok (.aload_n 1, 1) := by decide +kernel
theorem dL_law_1134 : decode cL_law 1134 = .ok (.aload_n 0, 1) := by decide +kernel
theorem dL_law_1135 : decode cL_law 1135 = .ok (.iload 4, 2) := by decide +kernel
theorem dL_law_1137 : decode cL_law 1137 = .ok (.iconst 1, 1) := by decide +kernel
theorem dL_law_1138 : decode cL_law 1138 = .ok (.iadd, 1) := by decide +kernel
theorem dL_law_1139 : decode cL_law 1139 = .ok (.iaload, 1) := by decide +kernel
theorem dL_law_1140 : decode cL_law 1140 = .ok (.aload_n 0, 1) := by decide +kernel
theorem dL_law_1141 : decode cL_law 1141 = .ok (.iload 4, 2) := by decide +kernel
theorem dL_law_1143 : decode cL_law 1143 = .ok (.iconst 2, 1) := by decide +kernel
theorem dL_law_1144 : decode cL_law 1144 = .ok (.iadd, 1) := by decide +kernel
theorem dL_law_1145 : decode cL_law 1145 = .ok (.iaload, 1) := by decide +kernel
theorem dL_law_1146 : decode cL_law 1146 = .ok (.aload_n 0, 1) := by decide +kernel
theorem dL_law_1147 : decode cL_law 1147 = .ok (.iload 4, 2) := by decide +kernel
theorem dL_law_1149 : decode cL_law 1149 = .ok (.iconst 3, 1) := by decide +kernel
theorem dL_law_1150 : decode cL_law 1150 = .ok (.iadd, 1) := by decide +kernel
theorem dL_law_1151 : decode cL_law 1151 = .ok (.iaload, 1) := by decide +kernel
theorem dL_law_1152 : decode cL_law 1152 = .ok (.aload_n 0, 1) := by decide +kernel
theorem dL_law_1153 : decode cL_law 1153 = .ok (.iload 4, 2) := by decide +kernel
theorem dL_law_1155 : decode cL_law 1155 = .ok (.iconst 4, 1) := by decide +kernel
theorem dL_law_1156 : decode cL_law 1156 = .ok (.iadd, 1) := by decide +kernel
theorem dL_law_1157 : decode cL_law 1157 = .ok (.iaload, 1) := by decide +kernel
theorem dL_law_1158 : decode cL_law 1158 = .ok (.aload_n 3, 1) := by decide +kernel
theorem dL_law_1159 : decode cL_law 1159 = .ok (.invokestatic 115, 3) := by decide +kernel
theorem kw_1434 : Cond.methodLink "LandSurveyLaw" 115 yL_base ∈ uu := uu_in (i := 1434) (by decide +kernel) (by decide +kernel)
theorem kw_1435 : Cond.static yL_base ∈ uu := uu_in (i := 1435) (by decide +kernel) (by decide +kernel)
theorem kw_1436 : Cond.codeWith yL_base method_4_code 7 (some .int) [(0, 14, 17, 13)] ∈ uu := uu_in (i := 1436) (by decide +kernel) (by decide +kernel)
theorem dL_law_1162 : decode cL_law 1162 = .ok (.istore 5, 2) := by decide +kernel
theorem dL_law_1164 : decode cL_law 1164 = .ok (.aload_n 2, 1) := by decide +kernel
theorem dL_law_1165 : decode cL_law 1165 = .ok (.aload_n 0, 1) := by decide +kernel
theorem dL_law_1166 : decode cL_law 1166 = .ok (.iload 4, 2) := by decide +kernel
theorem dL_law_1168 : decode cL_law 1168 = .ok (.iconst 1, 1) := by decide +kernel
theorem dL_law_1169 : decode cL_law 1169 = .ok (.iadd, 1) := by decide +kernel
theorem dL_law_1170 : decode cL_law 1170 = .ok (.iaload, 1) := by decide +kernel
theorem dL_law_1171 : decode cL_law 1171 = .ok (.aload_n 0, 1) := by decide +kernel
theorem dL_law_1172 : decode cL_law 1172 = .ok (.iload 4, 2) := by decide +kernel
theorem dL_law_1174 : decode cL_law 1174 = .ok (.iconst 2, 1) := by decide +kernel
theorem dL_law_1175 : decode cL_law 1175 = .ok (.iadd, 1) := by decide +kernel
theorem dL_law_1176 : decode cL_law 1176 = .ok (.iaload, 1) := by decide +kernel
theorem dL_law_1177 : decode cL_law 1177 = .ok (.aload_n 0, 1) := by decide +kernel
theorem dL_law_1178 : decode cL_law 1178 = .ok (.iload 4, 2) := by decide +kernel
theorem dL_law_1180 : decode cL_law 1180 = .ok (.iconst 3, 1) := by decide +kernel
theorem dL_law_1181 : decode cL_law 1181 = .ok (.iadd, 1) := by decide +kernel
theorem dL_law_1182 : decode cL_law 1182 = .ok (.iaload, 1) := by decide +kernel
theorem dL_law_1183 : decode cL_law 1183 = .ok (.aload_n 0, 1) := by decide +kernel
theorem dL_law_1184 : decode cL_law 1184 = .ok (.iload 4, 2) := by decide +kernel
theorem dL_law_1186 : decode cL_law 1186 = .ok (.iconst 4, 1) := by decide +kernel
theorem dL_law_1187 : decode cL_law 1187 = .ok (.iadd, 1) := by decide +kernel
theorem dL_law_1188 : decode cL_law 1188 = .ok (.iaload, 1) := by decide +kernel
theorem dL_law_1189 : decode cL_law 1189 = .ok (.invokevirtual 118, 3) := by decide +kernel
theorem kw_2111 : Cond.code yX12_base prog_14_method_91_code 5 (some .int) ∈ uu := uu_in (i := 2111) (by decide +kernel) (by decide +kernel)
theorem kw_2108 : Cond.methodLink "LandSurveyLaw" 118 yX12_base ∈ uu := uu_in (i := 2108) (by decide +kernel) (by decide +kernel)
theorem kw_2109 : Cond.instanceMethod yX12_base ∈ uu := uu_in (i := 2109) (by decide +kernel) (by decide +kernel)
theorem kw_2110 : Cond.selects "LandSurveyModel" yX12_base yX12_base ∈ uu := uu_in (i := 2110) (by decide +kernel) (by decide +kernel)
theorem lk_LandSurveyLaw_118 : lkV "LandSurveyLaw" 118 yX12_base cX12_base 5 (some .int) 4 := ⟨kw_2108, kw_2109, kw_2110, kw_152, kw_2111, okX12_base⟩
theorem dL_law_1192 : decode cL_law 1192 = .ok (.istore 6, 2) := by decide +kernel
theorem dL_law_1194 : decode cL_law 1194 = .ok (.goto 702, 3) := by decide +kernel
theorem dL_law_1197 : decode cL_law 1197 = .ok (.aload_n 1, 1) := by decide +kernel
theorem dL_law_1198 : decode cL_law 1198 = .ok (.aload_n 0, 1) := by decide +kernel
theorem dL_law_1199 : decode cL_law 1199 = .ok (.iload 4, 2) := by decide +kernel
theorem dL_law_1201 : decode cL_law 1201 = .ok (.iconst 1, 1) := by decide +kernel
theorem dL_law_1202 : decode cL_law 1202 = .ok (.iadd, 1) := by decide +kernel
theorem dL_law_1203 : decode cL_law 1203 = .ok (.iaload, 1) := by decide +kernel
theorem dL_law_1204 : decode cL_law 1204 = .ok (.aload_n 0, 1) := by decide +kernel
theorem dL_law_1205 : decode cL_law 1205 = .ok (.iload 4, 2) := by decide +kernel
theorem dL_law_1207 : decode cL_law 1207 = .ok (.iconst 2, 1) := by decide +kernel
theorem dL_law_1208 : decode cL_law 1208 = .ok (.iadd, 1) := by decide +kernel
theorem dL_law_1209 : decode cL_law 1209 = .ok (.iaload, 1) := by decide +kernel
theorem dL_law_1210 : decode cL_law 1210 = .ok (.aload_n 0, 1) := by decide +kernel
theorem dL_law_1211 : decode cL_law 1211 = .ok (.iload 4, 2) := by decide +kernel
theorem dL_law_1213 : decode cL_law 1213 = .ok (.iconst 3, 1) := by decide +kernel
theorem dL_law_1214 : decode cL_law 1214 = .ok (.iadd, 1) := by decide +kernel
theorem dL_law_1215 : decode cL_law 1215 = .ok (.iaload, 1) := by decide +kernel
theorem dL_law_1216 : decode cL_law 1216 = .ok (.invokevirtual 119, 3) := by decide +kernel
theorem kw_1166 : Cond.code yX11_lies prog_1_method_21_code 5 (some .int) ∈ uu := uu_in (i := 1166) (by decide +kernel) (by decide +kernel)
theorem kw_1163 : Cond.methodLink "LandSurveyLaw" 119 yX11_lies ∈ uu := uu_in (i := 1163) (by decide +kernel) (by decide +kernel)
theorem kw_1164 : Cond.instanceMethod yX11_lies ∈ uu := uu_in (i := 1164) (by decide +kernel) (by decide +kernel)
theorem kw_1165 : Cond.selects "LandSurvey" yX11_lies yX11_lies ∈ uu := uu_in (i := 1165) (by decide +kernel) (by decide +kernel)
theorem lk_LandSurveyLaw_119 : lkV "LandSurveyLaw" 119 yX11_lies cX11_lies 5 (some .int) 3 := ⟨kw_1163, kw_1164, kw_1165, kw_144, kw_1166, okX11_lies⟩
theorem dL_law_1219 : decode cL_law 1219 = .ok (.pop, 1) := by decide +kernel
theorem dL_law_1220 : decode cL_law 1220 = .ok (.aload_n 2, 1) := by decide +kernel
theorem dL_law_1221 : decode cL_law 1221 = .ok (.aload_n 0, 1) := by decide +kernel
theorem dL_law_1222 : decode cL_law 1222 = .ok (.iload 4, 2) := by decide +kernel
theorem dL_law_1224 : decode cL_law 1224 = .ok (.iconst 1, 1) := by decide +kernel
theorem dL_law_1225 : decode cL_law 1225 = .ok (.iadd, 1) := by decide +kernel
theorem dL_law_1226 : decode cL_law 1226 = .ok (.iaload, 1) := by decide +kernel
theorem dL_law_1227 : decode cL_law 1227 = .ok (.aload_n 0, 1) := by decide +kernel
theorem dL_law_1228 : decode cL_law 1228 = .ok (.iload 4, 2) := by decide +kernel
theorem dL_law_1230 : decode cL_law 1230 = .ok (.iconst 2, 1) := by decide +kernel
theorem dL_law_1231 : decode cL_law 1231 = .ok (.iadd, 1) := by decide +kernel
theorem dL_law_1232 : decode cL_law 1232 = .ok (.iaload, 1) := by decide +kernel
theorem dL_law_1233 : decode cL_law 1233 = .ok (.aload_n 0, 1) := by decide +kernel
theorem dL_law_1234 : decode cL_law 1234 = .ok (.iload 4, 2) := by decide +kernel
theorem dL_law_1236 : decode cL_law 1236 = .ok (.iconst 3, 1) := by decide +kernel
theorem dL_law_1237 : decode cL_law 1237 = .ok (.iadd, 1) := by decide +kernel
theorem dL_law_1238 : decode cL_law 1238 = .ok (.iaload, 1) := by decide +kernel
theorem dL_law_1239 : decode cL_law 1239 = .ok (.invokevirtual 123, 3) := by decide +kernel
theorem kw_2115 : Cond.code yX12_lies prog_14_method_95_code 4 (some .int) ∈ uu := uu_in (i := 2115) (by decide +kernel) (by decide +kernel)
theorem kw_2112 : Cond.methodLink "LandSurveyLaw" 123 yX12_lies ∈ uu := uu_in (i := 2112) (by decide +kernel) (by decide +kernel)
theorem kw_2113 : Cond.instanceMethod yX12_lies ∈ uu := uu_in (i := 2113) (by decide +kernel) (by decide +kernel)
theorem kw_2114 : Cond.selects "LandSurveyModel" yX12_lies yX12_lies ∈ uu := uu_in (i := 2114) (by decide +kernel) (by decide +kernel)
theorem lk_LandSurveyLaw_123 : lkV "LandSurveyLaw" 123 yX12_lies cX12_lies 4 (some .int) 3 := ⟨kw_2112, kw_2113, kw_2114, kw_152, kw_2115, okX12_lies⟩
theorem dL_law_1242 : decode cL_law 1242 = .ok (.pop, 1) := by decide +kernel
theorem dL_law_1243 : decode cL_law 1243 = .ok (.goto 653, 3) := by decide +kernel
theorem dL_law_1246 : decode cL_law 1246 = .ok (.aload_n 1, 1) := by decide +kernel
theorem dL_law_1247 : decode cL_law 1247 = .ok (.aload_n 0, 1) := by decide +kernel
theorem dL_law_1248 : decode cL_law 1248 = .ok (.iload 4, 2) := by decide +kernel
theorem dL_law_1250 : decode cL_law 1250 = .ok (.iconst 1, 1) := by decide +kernel
theorem dL_law_1251 : decode cL_law 1251 = .ok (.iadd, 1) := by decide +kernel
theorem dL_law_1252 : decode cL_law 1252 = .ok (.iaload, 1) := by decide +kernel
theorem dL_law_1253 : decode cL_law 1253 = .ok (.aload_n 0, 1) := by decide +kernel
theorem dL_law_1254 : decode cL_law 1254 = .ok (.iload 4, 2) := by decide +kernel
theorem dL_law_1256 : decode cL_law 1256 = .ok (.iconst 2, 1) := by decide +kernel
theorem dL_law_1257 : decode cL_law 1257 = .ok (.iadd, 1) := by decide +kernel
theorem dL_law_1258 : decode cL_law 1258 = .ok (.iaload, 1) := by decide +kernel
theorem dL_law_1259 : decode cL_law 1259 = .ok (.aload_n 0, 1) := by decide +kernel
theorem dL_law_1260 : decode cL_law 1260 = .ok (.iload 4, 2) := by decide +kernel
theorem dL_law_1262 : decode cL_law 1262 = .ok (.iconst 3, 1) := by decide +kernel
theorem dL_law_1263 : decode cL_law 1263 = .ok (.iadd, 1) := by decide +kernel
theorem dL_law_1264 : decode cL_law 1264 = .ok (.iaload, 1) := by decide +kernel
theorem dL_law_1265 : decode cL_law 1265 = .ok (.invokevirtual 124, 3) := by decide +kernel
theorem kw_1191 : Cond.code yX11_line prog_1_method_22_code 7 (some .int) ∈ uu := uu_in (i := 1191) (by decide +kernel) (by decide +kernel)
theorem kw_1188 : Cond.methodLink "LandSurveyLaw" 124 yX11_line ∈ uu := uu_in (i := 1188) (by decide +kernel) (by decide +kernel)
theorem kw_1189 : Cond.instanceMethod yX11_line ∈ uu := uu_in (i := 1189) (by decide +kernel) (by decide +kernel)
theorem kw_1190 : Cond.selects "LandSurvey" yX11_line yX11_line ∈ uu := uu_in (i := 1190) (by decide +kernel) (by decide +kernel)
theorem lk_LandSurveyLaw_124 : lkV "LandSurveyLaw" 124 yX11_line cX11_line 7 (some .int) 3 := ⟨kw_1188, kw_1189, kw_1190, kw_144, kw_1191, okX11_line⟩
theorem dL_law_1268 : decode cL_law 1268 = .ok (.pop, 1) := by decide +kernel
theorem dL_law_1269 : decode cL_law 1269 = .ok (.aload_n 2, 1) := by decide +kernel
theorem dL_law_1270 : decode cL_law 1270 = .ok (.aload_n 0, 1) := by decide +kernel
theorem dL_law_1271 : decode cL_law 1271 = .ok (.iload 4, 2) := by decide +kernel
theorem dL_law_1273 : decode cL_law 1273 = .ok (.iconst 1, 1) := by decide +kernel
theorem dL_law_1274 : decode cL_law 1274 = .ok (.iadd, 1) := by decide +kernel
theorem dL_law_1275 : decode cL_law 1275 = .ok (.iaload, 1) := by decide +kernel
theorem dL_law_1276 : decode cL_law 1276 = .ok (.aload_n 0, 1) := by decide +kernel
theorem dL_law_1277 : decode cL_law 1277 = .ok (.iload 4, 2) := by decide +kernel
theorem dL_law_1279 : decode cL_law 1279 = .ok (.iconst 2, 1) := by decide +kernel
theorem dL_law_1280 : decode cL_law 1280 = .ok (.iadd, 1) := by decide +kernel
theorem dL_law_1281 : decode cL_law 1281 = .ok (.iaload, 1) := by decide +kernel
theorem dL_law_1282 : decode cL_law 1282 = .ok (.aload_n 0, 1) := by decide +kernel
theorem dL_law_1283 : decode cL_law 1283 = .ok (.iload 4, 2) := by decide +kernel
theorem dL_law_1285 : decode cL_law 1285 = .ok (.iconst 3, 1) := by decide +kernel
theorem dL_law_1286 : decode cL_law 1286 = .ok (.iadd, 1) := by decide +kernel
theorem dL_law_1287 : decode cL_law 1287 = .ok (.iaload, 1) := by decide +kernel
theorem dL_law_1288 : decode cL_law 1288 = .ok (.invokevirtual 127, 3) := by decide +kernel
theorem kw_2131 : Cond.code yX12_line prog_14_method_97_code 10 (some .int) ∈ uu := uu_in (i := 2131) (by decide +kernel) (by decide +kernel)
theorem kw_2128 : Cond.methodLink "LandSurveyLaw" 127 yX12_line ∈ uu := uu_in (i := 2128) (by decide +kernel) (by decide +kernel)
theorem kw_2129 : Cond.instanceMethod yX12_line ∈ uu := uu_in (i := 2129) (by decide +kernel) (by decide +kernel)
theorem kw_2130 : Cond.selects "LandSurveyModel" yX12_line yX12_line ∈ uu := uu_in (i := 2130) (by decide +kernel) (by decide +kernel)
theorem lk_LandSurveyLaw_127 : lkV "LandSurveyLaw" 127 yX12_line cX12_line 10 (some .int) 3 := ⟨kw_2128, kw_2129, kw_2130, kw_152, kw_2131, okX12_line⟩
theorem dL_law_1291 : decode cL_law 1291 = .ok (.pop, 1) := by decide +kernel
theorem dL_law_1292 : decode cL_law 1292 = .ok (.goto 604, 3) := by decide +kernel
theorem dL_law_1295 : decode cL_law 1295 = .ok (.aload_n 1, 1) := by decide +kernel
theorem dL_law_1296 : decode cL_law 1296 = .ok (.aload_n 0, 1) := by decide +kernel
theorem dL_law_1297 : decode cL_law 1297 = .ok (.iload 4, 2) := by decide +kernel
theorem dL_law_1299 : decode cL_law 1299 = .ok (.iconst 1, 1) := by decide +kernel
theorem dL_law_1300 : decode cL_law 1300 = .ok (.iadd, 1) := by decide +kernel
theorem dL_law_1301 : decode cL_law 1301 = .ok (.iaload, 1) := by decide +kernel
theorem dL_law_1302 : decode cL_law 1302 = .ok (.aload_n 0, 1) := by decide +kernel
theorem dL_law_1303 : decode cL_law 1303 = .ok (.iload 4, 2) := by decide +kernel
theorem dL_law_1305 : decode cL_law 1305 = .ok (.iconst 2, 1) := by decide +kernel
theorem dL_law_1306 : decode cL_law 1306 = .ok (.iadd, 1) := by decide +kernel
theorem dL_law_1307 : decode cL_law 1307 = .ok (.iaload, 1) := by decide +kernel
theorem dL_law_1308 : decode cL_law 1308 = .ok (.aload_n 0, 1) := by decide +kernel
theorem dL_law_1309 : decode cL_law 1309 = .ok (.iload 4, 2) := by decide +kernel
theorem dL_law_1311 : decode cL_law 1311 = .ok (.iconst 3, 1) := by decide +kernel
theorem dL_law_1312 : decode cL_law 1312 = .ok (.iadd, 1) := by decide +kernel
theorem dL_law_1313 : decode cL_law 1313 = .ok (.iaload, 1) := by decide +kernel
theorem dL_law_1314 : decode cL_law 1314 = .ok (.aload_n 0, 1) := by decide +kernel
theorem dL_law_1315 : decode cL_law 1315 = .ok (.iload 4, 2) := by decide +kernel
theorem dL_law_1317 : decode cL_law 1317 = .ok (.iconst 4, 1) := by decide +kernel
theorem dL_law_1318 : decode cL_law 1318 = .ok (.iadd, 1) := by decide +kernel
theorem dL_law_1319 : decode cL_law 1319 = .ok (.iaload, 1) := by decide +kernel
theorem dL_law_1320 : decode cL_law 1320 = .ok (.aload_n 3, 1) := by decide +kernel
theorem dL_law_1321 : decode cL_law 1321 = .ok (.invokestatic 128, 3) := by decide +kernel
theorem kw_1441 : Cond.methodLink "LandSurveyLaw" 128 yL_deep ∈ uu := uu_in (i := 1441) (by decide +kernel) (by decide +kernel)
theorem kw_1442 : Cond.static yL_deep ∈ uu := uu_in (i := 1442) (by decide +kernel) (by decide +kernel)
theorem kw_1443 : Cond.codeWith yL_deep method_5_code 7 (some .int) [(0, 14, 17, 13)] ∈ uu := uu_in (i := 1443) (by decide +kernel) (by decide +kernel)
theorem dL_law_1324 : decode cL_law 1324 = .ok (.istore 5, 2) := by decide +kernel
theorem dL_law_1326 : decode cL_law 1326 = .ok (.aload_n 2, 1) := by decide +kernel
theorem dL_law_1327 : decode cL_law 1327 = .ok (.aload_n 0, 1) := by decide +kernel
theorem dL_law_1328 : decode cL_law 1328 = .ok (.iload 4, 2) := by decide +kernel
theorem dL_law_1330 : decode cL_law 1330 = .ok (.iconst 1, 1) := by decide +kernel
theorem dL_law_1331 : decode cL_law 1331 = .ok (.iadd, 1) := by decide +kernel
theorem dL_law_1332 : decode cL_law 1332 = .ok (.iaload, 1) := by decide +kernel
theorem dL_law_1333 : decode cL_law 1333 = .ok (.aload_n 0, 1) := by decide +kernel
theorem dL_law_1334 : decode cL_law 1334 = .ok (.iload 4, 2) := by decide +kernel
theorem dL_law_1336 : decode cL_law 1336 = .ok (.iconst 2, 1) := by decide +kernel
theorem dL_law_1337 : decode cL_law 1337 = .ok (.iadd, 1) := by decide +kernel
theorem dL_law_1338 : decode cL_law 1338 = .ok (.iaload, 1) := by decide +kernel
theorem dL_law_1339 : decode cL_law 1339 = .ok (.aload_n 0, 1) := by decide +kernel
theorem dL_law_1340 : decode cL_law 1340 = .ok (.iload 4, 2) := by decide +kernel
theorem dL_law_1342 : decode cL_law 1342 = .ok (.iconst 3, 1) := by decide +kernel
theorem dL_law_1343 : decode cL_law 1343 = .ok (.iadd, 1) := by decide +kernel
theorem dL_law_1344 : decode cL_law 1344 = .ok (.iaload, 1) := by decide +kernel
theorem dL_law_1345 : decode cL_law 1345 = .ok (.aload_n 0, 1) := by decide +kernel
theorem dL_law_1346 : decode cL_law 1346 = .ok (.iload 4, 2) := by decide +kernel
theorem dL_law_1348 : decode cL_law 1348 = .ok (.iconst 4, 1) := by decide +kernel
theorem dL_law_1349 : decode cL_law 1349 = .ok (.iadd, 1) := by decide +kernel
theorem dL_law_1350 : decode cL_law 1350 = .ok (.iaload, 1) := by decide +kernel
theorem dL_law_1351 : decode cL_law 1351 = .ok (.invokevirtual 130, 3) := by decide +kernel
theorem kw_2138 : Cond.code yX12_deep prog_14_method_105_code 5 (some .int) ∈ uu := uu_in (i := 2138) (by decide +kernel) (by decide +kernel)
theorem kw_2135 : Cond.methodLink "LandSurveyLaw" 130 yX12_deep ∈ uu := uu_in (i := 2135) (by decide +kernel) (by decide +kernel)
theorem kw_2136 : Cond.instanceMethod yX12_deep ∈ uu := uu_in (i := 2136) (by decide +kernel) (by decide +kernel)
theorem kw_2137 : Cond.selects "LandSurveyModel" yX12_deep yX12_deep ∈ uu := uu_in (i := 2137) (by decide +kernel) (by decide +kernel)
theorem lk_LandSurveyLaw_130 : lkV "LandSurveyLaw" 130 yX12_deep cX12_deep 5 (some .int) 4 := ⟨kw_2135, kw_2136, kw_2137, kw_152, kw_2138, okX12_deep⟩
theorem dL_law_1354 : decode cL_law 1354 = .ok (.istore 6, 2) := by decide +kernel
theorem dL_law_1356 : decode cL_law 1356 = .ok (.goto 540, 3) := by decide +kernel
theorem dL_law_1359 : decode cL_law 1359 = .ok (.aload_n 1, 1) := by decide +kernel
theorem dL_law_1360 : decode cL_law 1360 = .ok (.aload_n 0, 1) := by decide +kernel
theorem dL_law_1361 : decode cL_law 1361 = .ok (.iload 4, 2) := by decide +kernel
theorem dL_law_1363 : decode cL_law 1363 = .ok (.iconst 1, 1) := by decide +kernel
theorem dL_law_1364 : decode cL_law 1364 = .ok (.iadd, 1) := by decide +kernel
theorem dL_law_1365 : decode cL_law 1365 = .ok (.iaload, 1) := by decide +kernel
theorem dL_law_1366 : decode cL_law 1366 = .ok (.aload_n 0, 1) := by decide +kernel
theorem dL_law_1367 : decode cL_law 1367 = .ok (.iload 4, 2) := by decide +kernel
theorem dL_law_1369 : decode cL_law 1369 = .ok (.iconst 2, 1) := by decide +kernel
theorem dL_law_1370 : decode cL_law 1370 = .ok (.iadd, 1) := by decide +kernel
theorem dL_law_1371 : decode cL_law 1371 = .ok (.iaload, 1) := by decide +kernel
theorem dL_law_1372 : decode cL_law 1372 = .ok (.aload_n 0, 1) := by decide +kernel
theorem dL_law_1373 : decode cL_law 1373 = .ok (.iload 4, 2) := by decide +kernel
theorem dL_law_1375 : decode cL_law 1375 = .ok (.iconst 3, 1) := by decide +kernel
theorem dL_law_1376 : decode cL_law 1376 = .ok (.iadd, 1) := by decide +kernel
theorem dL_law_1377 : decode cL_law 1377 = .ok (.iaload, 1) := by decide +kernel
theorem dL_law_1378 : decode cL_law 1378 = .ok (.invokevirtual 131, 3) := by decide +kernel
theorem kw_1205 : Cond.code yX11_water prog_1_method_24_code 8 (some .int) ∈ uu := uu_in (i := 1205) (by decide +kernel) (by decide +kernel)
theorem kw_1202 : Cond.methodLink "LandSurveyLaw" 131 yX11_water ∈ uu := uu_in (i := 1202) (by decide +kernel) (by decide +kernel)
theorem kw_1203 : Cond.instanceMethod yX11_water ∈ uu := uu_in (i := 1203) (by decide +kernel) (by decide +kernel)
theorem kw_1204 : Cond.selects "LandSurvey" yX11_water yX11_water ∈ uu := uu_in (i := 1204) (by decide +kernel) (by decide +kernel)
theorem lk_LandSurveyLaw_131 : lkV "LandSurveyLaw" 131 yX11_water cX11_water 8 (some .int) 3 := ⟨kw_1202, kw_1203, kw_1204, kw_144, kw_1205, okX11_water⟩
theorem dL_law_1381 : decode cL_law 1381 = .ok (.pop, 1) := by decide +kernel
theorem dL_law_1382 : decode cL_law 1382 = .ok (.aload_n 2, 1) := by decide +kernel
theorem dL_law_1383 : decode cL_law 1383 = .ok (.aload_n 0, 1) := by decide +kernel
theorem dL_law_1384 : decode cL_law 1384 = .ok (.iload 4, 2) := by decide +kernel
theorem dL_law_1386 : decode cL_law 1386 = .ok (.iconst 1, 1) := by decide +kernel
theorem dL_law_1387 : decode cL_law 1387 = .ok (.iadd, 1) := by decide +kernel
theorem dL_law_1388 : decode cL_law 1388 = .ok (.iaload, 1) := by decide +kernel
theorem dL_law_1389 : decode cL_law 1389 = .ok (.aload_n 0, 1) := by decide +kernel
theorem dL_law_1390 : decode cL_law 1390 = .ok (.iload 4, 2) := by decide +kernel
theorem dL_law_1392 : decode cL_law 1392 = .ok (.iconst 2, 1) := by decide +kernel
theorem dL_law_1393 : decode cL_law 1393 = .ok (.iadd, 1) := by decide +kernel
theorem dL_law_1394 : decode cL_law 1394 = .ok (.iaload, 1) := by decide +kernel
theorem dL_law_1395 : decode cL_law 1395 = .ok (.aload_n 0, 1) := by decide +kernel
theorem dL_law_1396 : decode cL_law 1396 = .ok (.iload 4, 2) := by decide +kernel
theorem dL_law_1398 : decode cL_law 1398 = .ok (.iconst 3, 1) := by decide +kernel
theorem dL_law_1399 : decode cL_law 1399 = .ok (.iadd, 1) := by decide +kernel
theorem dL_law_1400 : decode cL_law 1400 = .ok (.iaload, 1) := by decide +kernel
theorem dL_law_1401 : decode cL_law 1401 = .ok (.invokevirtual 134, 3) := by decide +kernel
theorem kw_2163 : Cond.code yX12_water prog_14_method_106_code 10 (some .int) ∈ uu := uu_in (i := 2163) (by decide +kernel) (by decide +kernel)
theorem kw_2160 : Cond.methodLink "LandSurveyLaw" 134 yX12_water ∈ uu := uu_in (i := 2160) (by decide +kernel) (by decide +kernel)
theorem kw_2161 : Cond.instanceMethod yX12_water ∈ uu := uu_in (i := 2161) (by decide +kernel) (by decide +kernel)
theorem kw_2162 : Cond.selects "LandSurveyModel" yX12_water yX12_water ∈ uu := uu_in (i := 2162) (by decide +kernel) (by decide +kernel)
theorem lk_LandSurveyLaw_134 : lkV "LandSurveyLaw" 134 yX12_water cX12_water 10 (some .int) 3 := ⟨kw_2160, kw_2161, kw_2162, kw_152, kw_2163, okX12_water⟩
theorem dL_law_1404 : decode cL_law 1404 = .ok (.pop, 1) := by decide +kernel
theorem dL_law_1405 : decode cL_law 1405 = .ok (.goto 491, 3) := by decide +kernel
theorem dL_law_1408 : decode cL_law 1408 = .ok (.aload_n 1, 1) := by decide +kernel
theorem dL_law_1409 : decode cL_law 1409 = .ok (.aload_n 0, 1) := by decide +kernel
theorem dL_law_1410 : decode cL_law 1410 = .ok (.iload 4, 2) := by decide +kernel
theorem dL_law_1412 : decode cL_law 1412 = .ok (.iconst 1, 1) := by decide +kernel
theorem dL_law_1413 : decode cL_law 1413 = .ok (.iadd, 1) := by decide +kernel
theorem dL_law_1414 : decode cL_law 1414 = .ok (.iaload, 1) := by decide +kernel
theorem dL_law_1415 : decode cL_law 1415 = .ok (.aload_n 0, 1) := by decide +kernel
theorem dL_law_1416 : decode cL_law 1416 = .ok (.iload 4, 2) := by decide +kernel
theorem dL_law_1418 : decode cL_law 1418 = .ok (.iconst 2, 1) := by decide +kernel
theorem dL_law_1419 : decode cL_law 1419 = .ok (.iadd, 1) := by decide +kernel
theorem dL_law_1420 : decode cL_law 1420 = .ok (.iaload, 1) := by decide +kernel
theorem dL_law_1421 : decode cL_law 1421 = .ok (.aload_n 0, 1) := by decide +kernel
theorem dL_law_1422 : decode cL_law 1422 = .ok (.iload 4, 2) := by decide +kernel
theorem dL_law_1424 : decode cL_law 1424 = .ok (.iconst 3, 1) := by decide +kernel
theorem dL_law_1425 : decode cL_law 1425 = .ok (.iadd, 1) := by decide +kernel
theorem dL_law_1426 : decode cL_law 1426 = .ok (.iaload, 1) := by decide +kernel
theorem dL_law_1427 : decode cL_law 1427 = .ok (.invokevirtual 135, 3) := by decide +kernel
theorem kw_1243 : Cond.code yX11_seam prog_1_method_25_code 6 (some .int) ∈ uu := uu_in (i := 1243) (by decide +kernel) (by decide +kernel)
theorem kw_1240 : Cond.methodLink "LandSurveyLaw" 135 yX11_seam ∈ uu := uu_in (i := 1240) (by decide +kernel) (by decide +kernel)
theorem kw_1241 : Cond.instanceMethod yX11_seam ∈ uu := uu_in (i := 1241) (by decide +kernel) (by decide +kernel)
theorem kw_1242 : Cond.selects "LandSurvey" yX11_seam yX11_seam ∈ uu := uu_in (i := 1242) (by decide +kernel) (by decide +kernel)
theorem lk_LandSurveyLaw_135 : lkV "LandSurveyLaw" 135 yX11_seam cX11_seam 6 (some .int) 3 := ⟨kw_1240, kw_1241, kw_1242, kw_144, kw_1243, okX11_seam⟩
theorem dL_law_1430 : decode cL_law 1430 = .ok (.pop, 1) := by decide +kernel
theorem dL_law_1431 : decode cL_law 1431 = .ok (.aload_n 2, 1) := by decide +kernel
theorem dL_law_1432 : decode cL_law 1432 = .ok (.aload_n 0, 1) := by decide +kernel
theorem dL_law_1433 : decode cL_law 1433 = .ok (.iload 4, 2) := by decide +kernel
theorem dL_law_1435 : decode cL_law 1435 = .ok (.iconst 1, 1) := by decide +kernel
theorem dL_law_1436 : decode cL_law 1436 = .ok (.iadd, 1) := by decide +kernel
theorem dL_law_1437 : decode cL_law 1437 = .ok (.iaload, 1) := by decide +kernel
theorem dL_law_1438 : decode cL_law 1438 = .ok (.aload_n 0, 1) := by decide +kernel
theorem dL_law_1439 : decode cL_law 1439 = .ok (.iload 4, 2) := by decide +kernel
theorem dL_law_1441 : decode cL_law 1441 = .ok (.iconst 2, 1) := by decide +kernel
theorem dL_law_1442 : decode cL_law 1442 = .ok (.iadd, 1) := by decide +kernel
theorem dL_law_1443 : decode cL_law 1443 = .ok (.iaload, 1) := by decide +kernel
theorem dL_law_1444 : decode cL_law 1444 = .ok (.aload_n 0, 1) := by decide +kernel
theorem dL_law_1445 : decode cL_law 1445 = .ok (.iload 4, 2) := by decide +kernel
theorem dL_law_1447 : decode cL_law 1447 = .ok (.iconst 3, 1) := by decide +kernel
theorem dL_law_1448 : decode cL_law 1448 = .ok (.iadd, 1) := by decide +kernel
theorem dL_law_1449 : decode cL_law 1449 = .ok (.iaload, 1) := by decide +kernel
theorem dL_law_1450 : decode cL_law 1450 = .ok (.invokevirtual 138, 3) := by decide +kernel
theorem kw_2175 : Cond.code yX12_seam prog_14_method_107_code 6 (some .int) ∈ uu := uu_in (i := 2175) (by decide +kernel) (by decide +kernel)
theorem kw_2172 : Cond.methodLink "LandSurveyLaw" 138 yX12_seam ∈ uu := uu_in (i := 2172) (by decide +kernel) (by decide +kernel)
theorem kw_2173 : Cond.instanceMethod yX12_seam ∈ uu := uu_in (i := 2173) (by decide +kernel) (by decide +kernel)
theorem kw_2174 : Cond.selects "LandSurveyModel" yX12_seam yX12_seam ∈ uu := uu_in (i := 2174) (by decide +kernel) (by decide +kernel)
theorem lk_LandSurveyLaw_138 : lkV "LandSurveyLaw" 138 yX12_seam cX12_seam 6 (some .int) 3 := ⟨kw_2172, kw_2173, kw_2174, kw_152, kw_2175, okX12_seam⟩
theorem dL_law_1453 : decode cL_law 1453 = .ok (.pop, 1) := by decide +kernel
theorem dL_law_1454 : decode cL_law 1454 = .ok (.goto 442, 3) := by decide +kernel
theorem dL_law_1457 : decode cL_law 1457 = .ok (.aload_n 1, 1) := by decide +kernel
theorem dL_law_1458 : decode cL_law 1458 = .ok (.aload_n 0, 1) := by decide +kernel
theorem dL_law_1459 : decode cL_law 1459 = .ok (.iload 4, 2) := by decide +kernel
theorem dL_law_1461 : decode cL_law 1461 = .ok (.iconst 1, 1) := by decide +kernel
theorem dL_law_1462 : decode cL_law 1462 = .ok (.iadd, 1) := by decide +kernel
theorem dL_law_1463 : decode cL_law 1463 = .ok (.iaload, 1) := by decide +kernel
theorem dL_law_1464 : decode cL_law 1464 = .ok (.aload_n 0, 1) := by decide +kernel
theorem dL_law_1465 : decode cL_law 1465 = .ok (.iload 4, 2) := by decide +kernel
theorem dL_law_1467 : decode cL_law 1467 = .ok (.iconst 2, 1) := by decide +kernel
theorem dL_law_1468 : decode cL_law 1468 = .ok (.iadd, 1) := by decide +kernel
theorem dL_law_1469 : decode cL_law 1469 = .ok (.iaload, 1) := by decide +kernel
theorem dL_law_1470 : decode cL_law 1470 = .ok (.aload_n 0, 1) := by decide +kernel
theorem dL_law_1471 : decode cL_law 1471 = .ok (.iload 4, 2) := by decide +kernel
theorem dL_law_1473 : decode cL_law 1473 = .ok (.iconst 3, 1) := by decide +kernel
theorem dL_law_1474 : decode cL_law 1474 = .ok (.iadd, 1) := by decide +kernel
theorem dL_law_1475 : decode cL_law 1475 = .ok (.iaload, 1) := by decide +kernel
theorem dL_law_1476 : decode cL_law 1476 = .ok (.aload_n 0, 1) := by decide +kernel
theorem dL_law_1477 : decode cL_law 1477 = .ok (.iload 4, 2) := by decide +kernel
theorem dL_law_1479 : decode cL_law 1479 = .ok (.iconst 4, 1) := by decide +kernel
theorem dL_law_1480 : decode cL_law 1480 = .ok (.iadd, 1) := by decide +kernel
theorem dL_law_1481 : decode cL_law 1481 = .ok (.iaload, 1) := by decide +kernel
theorem dL_law_1482 : decode cL_law 1482 = .ok (.invokevirtual 139, 3) := by decide +kernel
theorem kw_1263 : Cond.code yX11_sheet prog_1_method_26_code 11 (some .int) ∈ uu := uu_in (i := 1263) (by decide +kernel) (by decide +kernel)
theorem kw_1260 : Cond.methodLink "LandSurveyLaw" 139 yX11_sheet ∈ uu := uu_in (i := 1260) (by decide +kernel) (by decide +kernel)
theorem kw_1261 : Cond.instanceMethod yX11_sheet ∈ uu := uu_in (i := 1261) (by decide +kernel) (by decide +kernel)
theorem kw_1262 : Cond.selects "LandSurvey" yX11_sheet yX11_sheet ∈ uu := uu_in (i := 1262) (by decide +kernel) (by decide +kernel)
theorem lk_LandSurveyLaw_139 : lkV "LandSurveyLaw" 139 yX11_sheet cX11_sheet 11 (some .int) 4 := ⟨kw_1260, kw_1261, kw_1262, kw_144, kw_1263, okX11_sheet⟩
theorem dL_law_1485 : decode cL_law 1485 = .ok (.pop, 1) := by decide +kernel
theorem dL_law_1486 : decode cL_law 1486 = .ok (.aload_n 2, 1) := by decide +kernel
theorem dL_law_1487 : decode cL_law 1487 = .ok (.aload_n 0, 1) := by decide +kernel
theorem dL_law_1488 : decode cL_law 1488 = .ok (.iload 4, 2) := by decide +kernel
theorem dL_law_1490 : decode cL_law 1490 = .ok (.iconst 1, 1) := by decide +kernel
theorem dL_law_1491 : decode cL_law 1491 = .ok (.iadd, 1) := by decide +kernel
theorem dL_law_1492 : decode cL_law 1492 = .ok (.iaload, 1) := by decide +kernel
theorem dL_law_1493 : decode cL_law 1493 = .ok (.aload_n 0, 1) := by decide +kernel
theorem dL_law_1494 : decode cL_law 1494 = .ok (.iload 4, 2) := by decide +kernel
theorem dL_law_1496 : decode cL_law 1496 = .ok (.iconst 2, 1) := by decide +kernel
theorem dL_law_1497 : decode cL_law 1497 = .ok (.iadd, 1) := by decide +kernel
theorem dL_law_1498 : decode cL_law 1498 = .ok (.iaload, 1) := by decide +kernel
theorem dL_law_1499 : decode cL_law 1499 = .ok (.aload_n 0, 1) := by decide +kernel
theorem dL_law_1500 : decode cL_law 1500 = .ok (.iload 4, 2) := by decide +kernel
theorem dL_law_1502 : decode cL_law 1502 = .ok (.iconst 3, 1) := by decide +kernel
theorem dL_law_1503 : decode cL_law 1503 = .ok (.iadd, 1) := by decide +kernel
theorem dL_law_1504 : decode cL_law 1504 = .ok (.iaload, 1) := by decide +kernel
theorem dL_law_1505 : decode cL_law 1505 = .ok (.aload_n 0, 1) := by decide +kernel
theorem dL_law_1506 : decode cL_law 1506 = .ok (.iload 4, 2) := by decide +kernel
theorem dL_law_1508 : decode cL_law 1508 = .ok (.iconst 4, 1) := by decide +kernel
theorem dL_law_1509 : decode cL_law 1509 = .ok (.iadd, 1) := by decide +kernel
theorem dL_law_1510 : decode cL_law 1510 = .ok (.iaload, 1) := by decide +kernel
theorem dL_law_1511 : decode cL_law 1511 = .ok (.invokevirtual 142, 3) := by decide +kernel
theorem kw_2179 : Cond.code yX12_sheet prog_14_method_108_code 7 (some .int) ∈ uu := uu_in (i := 2179) (by decide +kernel) (by decide +kernel)
theorem kw_2176 : Cond.methodLink "LandSurveyLaw" 142 yX12_sheet ∈ uu := uu_in (i := 2176) (by decide +kernel) (by decide +kernel)
theorem kw_2177 : Cond.instanceMethod yX12_sheet ∈ uu := uu_in (i := 2177) (by decide +kernel) (by decide +kernel)
theorem kw_2178 : Cond.selects "LandSurveyModel" yX12_sheet yX12_sheet ∈ uu := uu_in (i := 2178) (by decide +kernel) (by decide +kernel)
theorem lk_LandSurveyLaw_142 : lkV "LandSurveyLaw" 142 yX12_sheet cX12_sheet 7 (some .int) 4 := ⟨kw_2176, kw_2177, kw_2178, kw_152, kw_2179, okX12_sheet⟩
theorem dL_law_1514 : decode cL_law 1514 = .ok (.pop, 1) := by decide +kernel
theorem dL_law_1515 : decode cL_law 1515 = .ok (.goto 381, 3) := by decide +kernel
theorem dL_law_1518 : decode cL_law 1518 = .ok (.aload_n 1, 1) := by decide +kernel
theorem dL_law_1519 : decode cL_law 1519 = .ok (.aload_n 0, 1) := by decide +kernel
theorem dL_law_1520 : decode cL_law 1520 = .ok (.iload 4, 2) := by decide +kernel
theorem dL_law_1522 : decode cL_law 1522 = .ok (.iconst 1, 1) := by decide +kernel
theorem dL_law_1523 : decode cL_law 1523 = .ok (.iadd, 1) := by decide +kernel
theorem dL_law_1524 : decode cL_law 1524 = .ok (.iaload, 1) := by decide +kernel
theorem dL_law_1525 : decode cL_law 1525 = .ok (.aload_n 0, 1) := by decide +kernel
theorem dL_law_1526 : decode cL_law 1526 = .ok (.iload 4, 2) := by decide +kernel
theorem dL_law_1528 : decode cL_law 1528 = .ok (.iconst 2, 1) := by decide +kernel
theorem dL_law_1529 : decode cL_law 1529 = .ok (.iadd, 1) := by decide +kernel
theorem dL_law_1530 : decode cL_law 1530 = .ok (.iaload, 1) := by decide +kernel
theorem dL_law_1531 : decode cL_law 1531 = .ok (.aload_n 0, 1) := by decide +kernel
theorem dL_law_1532 : decode cL_law 1532 = .ok (.iload 4, 2) := by decide +kernel
theorem dL_law_1534 : decode cL_law 1534 = .ok (.iconst 3, 1) := by decide +kernel
theorem dL_law_1535 : decode cL_law 1535 = .ok (.iadd, 1) := by decide +kernel
theorem dL_law_1536 : decode cL_law 1536 = .ok (.iaload, 1) := by decide +kernel
theorem dL_law_1537 : decode cL_law 1537 = .ok (.invokevirtual 143, 3) := by decide +kernel
theorem kw_1278 : Cond.code yX11_drawn prog_1_method_27_code 5 (some .int) ∈ uu := uu_in (i := 1278) (by decide +kernel) (by decide +kernel)
theorem kw_1275 : Cond.methodLink "LandSurveyLaw" 143 yX11_drawn ∈ uu := uu_in (i := 1275) (by decide +kernel) (by decide +kernel)
theorem kw_1276 : Cond.instanceMethod yX11_drawn ∈ uu := uu_in (i := 1276) (by decide +kernel) (by decide +kernel)
theorem kw_1277 : Cond.selects "LandSurvey" yX11_drawn yX11_drawn ∈ uu := uu_in (i := 1277) (by decide +kernel) (by decide +kernel)
theorem lk_LandSurveyLaw_143 : lkV "LandSurveyLaw" 143 yX11_drawn cX11_drawn 5 (some .int) 3 := ⟨kw_1275, kw_1276, kw_1277, kw_144, kw_1278, okX11_drawn⟩
theorem dL_law_1540 : decode cL_law 1540 = .ok (.pop, 1) := by decide +kernel
theorem dL_law_1541 : decode cL_law 1541 = .ok (.aload_n 2, 1) := by decide +kernel
theorem dL_law_1542 : decode cL_law 1542 = .ok (.aload_n 0, 1) := by decide +kernel
theorem dL_law_1543 : decode cL_law 1543 = .ok (.iload 4, 2) := by decide +kernel
theorem dL_law_1545 : decode cL_law 1545 = .ok (.iconst 1, 1) := by decide +kernel
theorem dL_law_1546 : decode cL_law 1546 = .ok (.iadd, 1) := by decide +kernel
theorem dL_law_1547 : decode cL_law 1547 = .ok (.iaload, 1) := by decide +kernel
theorem dL_law_1548 : decode cL_law 1548 = .ok (.aload_n 0, 1) := by decide +kernel
theorem dL_law_1549 : decode cL_law 1549 = .ok (.iload 4, 2) := by decide +kernel
theorem dL_law_1551 : decode cL_law 1551 = .ok (.iconst 2, 1) := by decide +kernel
theorem dL_law_1552 : decode cL_law 1552 = .ok (.iadd, 1) := by decide +kernel
theorem dL_law_1553 : decode cL_law 1553 = .ok (.iaload, 1) := by decide +kernel
theorem dL_law_1554 : decode cL_law 1554 = .ok (.aload_n 0, 1) := by decide +kernel
theorem dL_law_1555 : decode cL_law 1555 = .ok (.iload 4, 2) := by decide +kernel
theorem dL_law_1557 : decode cL_law 1557 = .ok (.iconst 3, 1) := by decide +kernel
theorem dL_law_1558 : decode cL_law 1558 = .ok (.iadd, 1) := by decide +kernel
theorem dL_law_1559 : decode cL_law 1559 = .ok (.iaload, 1) := by decide +kernel
theorem dL_law_1560 : decode cL_law 1560 = .ok (.invokevirtual 146, 3) := by decide +kernel
theorem kw_2183 : Cond.code yX12_drawn prog_14_method_110_code 4 (some .int) ∈ uu := uu_in (i := 2183) (by decide +kernel) (by decide +kernel)
theorem kw_2180 : Cond.methodLink "LandSurveyLaw" 146 yX12_drawn ∈ uu := uu_in (i := 2180) (by decide +kernel) (by decide +kernel)
theorem kw_2181 : Cond.instanceMethod yX12_drawn ∈ uu := uu_in (i := 2181) (by decide +kernel) (by decide +kernel)
theorem kw_2182 : Cond.selects "LandSurveyModel" yX12_drawn yX12_drawn ∈ uu := uu_in (i := 2182) (by decide +kernel) (by decide +kernel)
theorem lk_LandSurveyLaw_146 : lkV "LandSurveyLaw" 146 yX12_drawn cX12_drawn 4 (some .int) 3 := ⟨kw_2180, kw_2181, kw_2182, kw_152, kw_2183, okX12_drawn⟩
theorem dL_law_1563 : decode cL_law 1563 = .ok (.pop, 1) := by decide +kernel
theorem dL_law_1564 : decode cL_law 1564 = .ok (.goto 332, 3) := by decide +kernel
theorem dL_law_1567 : decode cL_law 1567 = .ok (.aload_n 1, 1) := by decide +kernel
theorem dL_law_1568 : decode cL_law 1568 = .ok (.aload_n 0, 1) := by decide +kernel
theorem dL_law_1569 : decode cL_law 1569 = .ok (.iload 4, 2) := by decide +kernel
theorem dL_law_1571 : decode cL_law 1571 = .ok (.iconst 1, 1) := by decide +kernel
theorem dL_law_1572 : decode cL_law 1572 = .ok (.iadd, 1) := by decide +kernel
theorem dL_law_1573 : decode cL_law 1573 = .ok (.iaload, 1) := by decide +kernel
theorem dL_law_1574 : decode cL_law 1574 = .ok (.aload_n 0, 1) := by decide +kernel
theorem dL_law_1575 : decode cL_law 1575 = .ok (.iload 4, 2) := by decide +kernel
theorem dL_law_1577 : decode cL_law 1577 = .ok (.iconst 2, 1) := by decide +kernel
theorem dL_law_1578 : decode cL_law 1578 = .ok (.iadd, 1) := by decide +kernel
theorem dL_law_1579 : decode cL_law 1579 = .ok (.iaload, 1) := by decide +kernel
theorem dL_law_1580 : decode cL_law 1580 = .ok (.invokevirtual 147, 3) := by decide +kernel
theorem kw_1286 : Cond.code yX11_quarrel prog_1_method_28_code 7 (some .int) ∈ uu := uu_in (i := 1286) (by decide +kernel) (by decide +kernel)
theorem kw_1283 : Cond.methodLink "LandSurveyLaw" 147 yX11_quarrel ∈ uu := uu_in (i := 1283) (by decide +kernel) (by decide +kernel)
theorem kw_1284 : Cond.instanceMethod yX11_quarrel ∈ uu := uu_in (i := 1284) (by decide +kernel) (by decide +kernel)
theorem kw_1285 : Cond.selects "LandSurvey" yX11_quarrel yX11_quarrel ∈ uu := uu_in (i := 1285) (by decide +kernel) (by decide +kernel)
theorem lk_LandSurveyLaw_147 : lkV "LandSurveyLaw" 147 yX11_quarrel cX11_quarrel 7 (some .int) 2 := ⟨kw_1283, kw_1284, kw_1285, kw_144, kw_1286, okX11_quarrel⟩
theorem dL_law_1583 : decode cL_law 1583 = .ok (.pop, 1) := by decide +kernel
theorem dL_law_1584 : decode cL_law 1584 = .ok (.aload_n 2, 1) := by decide +kernel
theorem dL_law_1585 : decode cL_law 1585 = .ok (.aload_n 0, 1) := by decide +kernel
theorem dL_law_1586 : decode cL_law 1586 = .ok (.iload 4, 2) := by decide +kernel
theorem dL_law_1588 : decode cL_law 1588 = .ok (.iconst 1, 1) := by decide +kernel
theorem dL_law_1589 : decode cL_law 1589 = .ok (.iadd, 1) := by decide +kernel
theorem dL_law_1590 : decode cL_law 1590 = .ok (.iaload, 1) := by decide +kernel
theorem dL_law_1591 : decode cL_law 1591 = .ok (.aload_n 0, 1) := by decide +kernel
theorem dL_law_1592 : decode cL_law 1592 = .ok (.iload 4, 2) := by decide +kernel
theorem dL_law_1594 : decode cL_law 1594 = .ok (.iconst 2, 1) := by decide +kernel
theorem dL_law_1595 : decode cL_law 1595 = .ok (.iadd, 1) := by decide +kernel
theorem dL_law_1596 : decode cL_law 1596 = .ok (.iaload, 1) := by decide +kernel
theorem dL_law_1597 : decode cL_law 1597 = .ok (.invokevirtual 150, 3) := by decide +kernel
theorem kw_2191 : Cond.code yX12_quarrel prog_14_method_111_code 7 (some .int) ∈ uu := uu_in (i := 2191) (by decide +kernel) (by decide +kernel)
theorem kw_2188 : Cond.methodLink "LandSurveyLaw" 150 yX12_quarrel ∈ uu := uu_in (i := 2188) (by decide +kernel) (by decide +kernel)
theorem kw_2189 : Cond.instanceMethod yX12_quarrel ∈ uu := uu_in (i := 2189) (by decide +kernel) (by decide +kernel)
theorem kw_2190 : Cond.selects "LandSurveyModel" yX12_quarrel yX12_quarrel ∈ uu := uu_in (i := 2190) (by decide +kernel) (by decide +kernel)
theorem lk_LandSurveyLaw_150 : lkV "LandSurveyLaw" 150 yX12_quarrel cX12_quarrel 7 (some .int) 2 := ⟨kw_2188, kw_2189, kw_2190, kw_152, kw_2191, okX12_quarrel⟩
theorem dL_law_1600 : decode cL_law 1600 = .ok (.pop, 1) := by decide +kernel
theorem dL_law_1601 : decode cL_law 1601 = .ok (.goto 295, 3) := by decide +kernel
theorem dL_law_1604 : decode cL_law 1604 = .ok (.aload_n 1, 1) := by decide +kernel
theorem dL_law_1605 : decode cL_law 1605 = .ok (.aload_n 0, 1) := by decide +kernel
theorem dL_law_1606 : decode cL_law 1606 = .ok (.iload 4, 2) := by decide +kernel
theorem dL_law_1608 : decode cL_law 1608 = .ok (.iconst 1, 1) := by decide +kernel
theorem dL_law_1609 : decode cL_law 1609 = .ok (.iadd, 1) := by decide +kernel
theorem dL_law_1610 : decode cL_law 1610 = .ok (.iaload, 1) := by decide +kernel
theorem dL_law_1611 : decode cL_law 1611 = .ok (.invokevirtual 151, 3) := by decide +kernel
theorem kw_1290 : Cond.code yX11_stale prog_1_method_29_code 5 (some .int) ∈ uu := uu_in (i := 1290) (by decide +kernel) (by decide +kernel)
theorem kw_1287 : Cond.methodLink "LandSurveyLaw" 151 yX11_stale ∈ uu := uu_in (i := 1287) (by decide +kernel) (by decide +kernel)
theorem kw_1288 : Cond.instanceMethod yX11_stale ∈ uu := uu_in (i := 1288) (by decide +kernel) (by decide +kernel)
theorem kw_1289 : Cond.selects "LandSurvey" yX11_stale yX11_stale ∈ uu := uu_in (i := 1289) (by decide +kernel) (by decide +kernel)
theorem lk_LandSurveyLaw_151 : lkV "LandSurveyLaw" 151 yX11_stale cX11_stale 5 (some .int) 1 := ⟨kw_1287, kw_1288, kw_1289, kw_144, kw_1290, okX11_stale⟩
theorem dL_law_1614 : decode cL_law 1614 = .ok (.pop, 1) := by decide +kernel
theorem dL_law_1615 : decode cL_law 1615 = .ok (.aload_n 2, 1) := by decide +kernel
theorem dL_law_1616 : decode cL_law 1616 = .ok (.aload_n 0, 1) := by decide +kernel
theorem dL_law_1617 : decode cL_law 1617 = .ok (.iload 4, 2) := by decide +kernel
theorem dL_law_1619 : decode cL_law 1619 = .ok (.iconst 1, 1) := by decide +kernel
theorem dL_law_1620 : decode cL_law 1620 = .ok (.iadd, 1) := by decide +kernel
theorem dL_law_1621 : decode cL_law 1621 = .ok (.iaload, 1) := by decide +kernel
theorem dL_law_1622 : decode cL_law 1622 = .ok (.invokevirtual 154, 3) := by decide +kernel
theorem kw_2195 : Cond.code yX12_stale prog_14_method_112_code 5 (some .int) ∈ uu := uu_in (i := 2195) (by decide +kernel) (by decide +kernel)
theorem kw_2192 : Cond.methodLink "LandSurveyLaw" 154 yX12_stale ∈ uu := uu_in (i := 2192) (by decide +kernel) (by decide +kernel)
theorem kw_2193 : Cond.instanceMethod yX12_stale ∈ uu := uu_in (i := 2193) (by decide +kernel) (by decide +kernel)
theorem kw_2194 : Cond.selects "LandSurveyModel" yX12_stale yX12_stale ∈ uu := uu_in (i := 2194) (by decide +kernel) (by decide +kernel)
theorem lk_LandSurveyLaw_154 : lkV "LandSurveyLaw" 154 yX12_stale cX12_stale 5 (some .int) 1 := ⟨kw_2192, kw_2193, kw_2194, kw_152, kw_2195, okX12_stale⟩
theorem dL_law_1625 : decode cL_law 1625 = .ok (.pop, 1) := by decide +kernel
theorem dL_law_1626 : decode cL_law 1626 = .ok (.goto 270, 3) := by decide +kernel
theorem dL_law_1629 : decode cL_law 1629 = .ok (.aload_n 1, 1) := by decide +kernel
theorem dL_law_1630 : decode cL_law 1630 = .ok (.aload_n 0, 1) := by decide +kernel
theorem dL_law_1631 : decode cL_law 1631 = .ok (.iload 4, 2) := by decide +kernel
theorem dL_law_1633 : decode cL_law 1633 = .ok (.iconst 1, 1) := by decide +kernel
theorem dL_law_1634 : decode cL_law 1634 = .ok (.iadd, 1) := by decide +kernel
theorem dL_law_1635 : decode cL_law 1635 = .ok (.iaload, 1) := by decide +kernel
theorem dL_law_1636 : decode cL_law 1636 = .ok (.aload_n 0, 1) := by decide +kernel
theorem dL_law_1637 : decode cL_law 1637 = .ok (.iload 4, 2) := by decide +kernel
theorem dL_law_1639 : decode cL_law 1639 = .ok (.iconst 2, 1) := by decide +kernel
theorem dL_law_1640 : decode cL_law 1640 = .ok (.iadd, 1) := by decide +kernel
theorem dL_law_1641 : decode cL_law 1641 = .ok (.iaload, 1) := by decide +kernel
theorem dL_law_1642 : decode cL_law 1642 = .ok (.aload_n 0, 1) := by decide +kernel
theorem dL_law_1643 : decode cL_law 1643 = .ok (.iload 4, 2) := by decide +kernel
theorem dL_law_1645 : decode cL_law 1645 = .ok (.iconst 3, 1) := by decide +kernel
theorem dL_law_1646 : decode cL_law 1646 = .ok (.iadd, 1) := by decide +kernel
theorem dL_law_1647 : decode cL_law 1647 = .ok (.iaload, 1) := by decide +kernel
theorem dL_law_1648 : decode cL_law 1648 = .ok (.invokevirtual 155, 3) := by decide +kernel
theorem kw_1294 : Cond.code yX11_doubles prog_1_method_30_code 7 (some .int) ∈ uu := uu_in (i := 1294) (by decide +kernel) (by decide +kernel)
theorem kw_1291 : Cond.methodLink "LandSurveyLaw" 155 yX11_doubles ∈ uu := uu_in (i := 1291) (by decide +kernel) (by decide +kernel)
theorem kw_1292 : Cond.instanceMethod yX11_doubles ∈ uu := uu_in (i := 1292) (by decide +kernel) (by decide +kernel)
theorem kw_1293 : Cond.selects "LandSurvey" yX11_doubles yX11_doubles ∈ uu := uu_in (i := 1293) (by decide +kernel) (by decide +kernel)
theorem lk_LandSurveyLaw_155 : lkV "LandSurveyLaw" 155 yX11_doubles cX11_doubles 7 (some .int) 3 := ⟨kw_1291, kw_1292, kw_1293, kw_144, kw_1294, okX11_doubles⟩
theorem dL_law_1651 : decode cL_law 1651 = .ok (.pop, 1) := by decide +kernel
theorem dL_law_1652 : decode cL_law 1652 = .ok (.aload_n 2, 1) := by decide +kernel
theorem dL_law_1653 : decode cL_law 1653 = .ok (.aload_n 0, 1) := by decide +kernel
theorem dL_law_1654 : decode cL_law 1654 = .ok (.iload 4, 2) := by decide +kernel
theorem dL_law_1656 : decode cL_law 1656 = .ok (.iconst 1, 1) := by decide +kernel
theorem dL_law_1657 : decode cL_law 1657 = .ok (.iadd, 1) := by decide +kernel
theorem dL_law_1658 : decode cL_law 1658 = .ok (.iaload, 1) := by decide +kernel
theorem dL_law_1659 : decode cL_law 1659 = .ok (.aload_n 0, 1) := by decide +kernel
theorem dL_law_1660 : decode cL_law 1660 = .ok (.iload 4, 2) := by decide +kernel
theorem dL_law_1662 : decode cL_law 1662 = .ok (.iconst 2, 1) := by decide +kernel
theorem dL_law_1663 : decode cL_law 1663 = .ok (.iadd, 1) := by decide +kernel
theorem dL_law_1664 : decode cL_law 1664 = .ok (.iaload, 1) := by decide +kernel
theorem dL_law_1665 : decode cL_law 1665 = .ok (.aload_n 0, 1) := by decide +kernel
theorem dL_law_1666 : decode cL_law 1666 = .ok (.iload 4, 2) := by decide +kernel
theorem dL_law_1668 : decode cL_law 1668 = .ok (.iconst 3, 1) := by decide +kernel
theorem dL_law_1669 : decode cL_law 1669 = .ok (.iadd, 1) := by decide +kernel
theorem dL_law_1670 : decode cL_law 1670 = .ok (.iaload, 1) := by decide +kernel
theorem dL_law_1671 : decode cL_law 1671 = .ok (.invokevirtual 158, 3) := by decide +kernel
theorem kw_2199 : Cond.code yX12_doubles prog_14_method_114_code 7 (some .int) ∈ uu := uu_in (i := 2199) (by decide +kernel) (by decide +kernel)
theorem kw_2196 : Cond.methodLink "LandSurveyLaw" 158 yX12_doubles ∈ uu := uu_in (i := 2196) (by decide +kernel) (by decide +kernel)
theorem kw_2197 : Cond.instanceMethod yX12_doubles ∈ uu := uu_in (i := 2197) (by decide +kernel) (by decide +kernel)
theorem kw_2198 : Cond.selects "LandSurveyModel" yX12_doubles yX12_doubles ∈ uu := uu_in (i := 2198) (by decide +kernel) (by decide +kernel)
theorem lk_LandSurveyLaw_158 : lkV "LandSurveyLaw" 158 yX12_doubles cX12_doubles 7 (some .int) 3 := ⟨kw_2196, kw_2197, kw_2198, kw_152, kw_2199, okX12_doubles⟩
theorem dL_law_1674 : decode cL_law 1674 = .ok (.pop, 1) := by decide +kernel
theorem dL_law_1675 : decode cL_law 1675 = .ok (.goto 221, 3) := by decide +kernel
theorem dL_law_1678 : decode cL_law 1678 = .ok (.aload_n 1, 1) := by decide +kernel
theorem dL_law_1679 : decode cL_law 1679 = .ok (.aload_n 0, 1) := by decide +kernel
theorem dL_law_1680 : decode cL_law 1680 = .ok (.iload 4, 2) := by decide +kernel
theorem dL_law_1682 : decode cL_law 1682 = .ok (.iconst 1, 1) := by decide +kernel
theorem dL_law_1683 : decode cL_law 1683 = .ok (.iadd, 1) := by decide +kernel
theorem dL_law_1684 : decode cL_law 1684 = .ok (.iaload, 1) := by decide +kernel
theorem dL_law_1685 : decode cL_law 1685 = .ok (.aload_n 3, 1) := by decide +kernel
theorem dL_law_1686 : decode cL_law 1686 = .ok (.invokestatic 159, 3) := by decide +kernel
theorem kw_1452 : Cond.methodLink "LandSurveyLaw" 159 yL_habit ∈ uu := uu_in (i := 1452) (by decide +kernel) (by decide +kernel)
theorem kw_1453 : Cond.static yL_habit ∈ uu := uu_in (i := 1453) (by decide +kernel) (by decide +kernel)
theorem kw_1454 : Cond.codeWith yL_habit method_6_code 4 (some .int) [(0, 9, 12, 13)] ∈ uu := uu_in (i := 1454) (by decide +kernel) (by decide +kernel)
theorem dL_law_1689 : decode cL_law 1689 = .ok (.istore 5, 2) := by decide +kernel
theorem dL_law_1691 : decode cL_law 1691 = .ok (.aload_n 2, 1) := by decide +kernel
theorem dL_law_1692 : decode cL_law 1692 = .ok (.aload_n 0, 1) := by decide +kernel
theorem dL_law_1693 : decode cL_law 1693 = .ok (.iload 4, 2) := by decide +kernel
theorem dL_law_1695 : decode cL_law 1695 = .ok (.iconst 1, 1) := by decide +kernel
theorem dL_law_1696 : decode cL_law 1696 = .ok (.iadd, 1) := by decide +kernel
theorem dL_law_1697 : decode cL_law 1697 = .ok (.iaload, 1) := by decide +kernel
theorem dL_law_1698 : decode cL_law 1698 = .ok (.invokevirtual 162, 3) := by decide +kernel
theorem kw_2207 : Cond.code yX12_habit prog_14_method_115_code 6 (some .int) ∈ uu := uu_in (i := 2207) (by decide +kernel) (by decide +kernel)
theorem kw_2204 : Cond.methodLink "LandSurveyLaw" 162 yX12_habit ∈ uu := uu_in (i := 2204) (by decide +kernel) (by decide +kernel)
theorem kw_2205 : Cond.instanceMethod yX12_habit ∈ uu := uu_in (i := 2205) (by decide +kernel) (by decide +kernel)
theorem kw_2206 : Cond.selects "LandSurveyModel" yX12_habit yX12_habit ∈ uu := uu_in (i := 2206) (by decide +kernel) (by decide +kernel)
theorem lk_LandSurveyLaw_162 : lkV "LandSurveyLaw" 162 yX12_habit cX12_habit 6 (some .int) 1 := ⟨kw_2204, kw_2205, kw_2206, kw_152, kw_2207, okX12_habit⟩
theorem dL_law_1701 : decode cL_law 1701 = .ok (.istore 6, 2) := by decide +kernel
theorem dL_law_1703 : decode cL_law 1703 = .ok (.goto 193, 3) := by decide +kernel
theorem dL_law_1706 : decode cL_law 1706 = .ok (.aload_n 1, 1) := by decide +kernel
theorem dL_law_1707 : decode cL_law 1707 = .ok (.aload_n 0, 1) := by decide +kernel
theorem dL_law_1708 : decode cL_law 1708 = .ok (.iload 4, 2) := by decide +kernel
theorem dL_law_1710 : decode cL_law 1710 = .ok (.iconst 1, 1) := by decide +kernel
theorem dL_law_1711 : decode cL_law 1711 = .ok (.iadd, 1) := by decide +kernel
theorem dL_law_1712 : decode cL_law 1712 = .ok (.iaload, 1) := by decide +kernel
theorem dL_law_1713 : decode cL_law 1713 = .ok (.aload_n 0, 1) := by decide +kernel
theorem dL_law_1714 : decode cL_law 1714 = .ok (.iload 4, 2) := by decide +kernel
theorem dL_law_1716 : decode cL_law 1716 = .ok (.iconst 2, 1) := by decide +kernel
theorem dL_law_1717 : decode cL_law 1717 = .ok (.iadd, 1) := by decide +kernel
theorem dL_law_1718 : decode cL_law 1718 = .ok (.iaload, 1) := by decide +kernel
theorem dL_law_1719 : decode cL_law 1719 = .ok (.aload_n 0, 1) := by decide +kernel
theorem dL_law_1720 : decode cL_law 1720 = .ok (.iload 4, 2) := by decide +kernel
theorem dL_law_1722 : decode cL_law 1722 = .ok (.iconst 3, 1) := by decide +kernel
theorem dL_law_1723 : decode cL_law 1723 = .ok (.iadd, 1) := by decide +kernel
theorem dL_law_1724 : decode cL_law 1724 = .ok (.iaload, 1) := by decide +kernel
theorem dL_law_1725 : decode cL_law 1725 = .ok (.ifCond .eq 7, 3) := by decide +kernel
theorem dL_law_1732 : decode cL_law 1732 = .ok (.iconst 0, 1) := by decide +kernel
theorem dL_law_1733 : decode cL_law 1733 = .ok (.invokevirtual 163, 3) := by decide +kernel
theorem kw_1304 : Cond.code yX11_question prog_1_method_32_code 5 (some .boolean) ∈ uu := uu_in (i := 1304) (by decide +kernel) (by decide +kernel)
theorem kw_1301 : Cond.methodLink "LandSurveyLaw" 163 yX11_question ∈ uu := uu_in (i := 1301) (by decide +kernel) (by decide +kernel)
theorem kw_1302 : Cond.instanceMethod yX11_question ∈ uu := uu_in (i := 1302) (by decide +kernel) (by decide +kernel)
theorem kw_1303 : Cond.selects "LandSurvey" yX11_question yX11_question ∈ uu := uu_in (i := 1303) (by decide +kernel) (by decide +kernel)
theorem lk_LandSurveyLaw_163 : lkV "LandSurveyLaw" 163 yX11_question cX11_question 5 (some .boolean) 3 := ⟨kw_1301, kw_1302, kw_1303, kw_144, kw_1304, okX11_question⟩
theorem dL_law_1736 : decode cL_law 1736 = .ok (.pop, 1) := by decide +kernel
theorem dL_law_1737 : decode cL_law 1737 = .ok (.aload_n 2, 1) := by decide +kernel
theorem dL_law_1738 : decode cL_law 1738 = .ok (.aload_n 0, 1) := by decide +kernel
theorem dL_law_1739 : decode cL_law 1739 = .ok (.iload 4, 2) := by decide +kernel
theorem dL_law_1741 : decode cL_law 1741 = .ok (.iconst 1, 1) := by decide +kernel
theorem dL_law_1742 : decode cL_law 1742 = .ok (.iadd, 1) := by decide +kernel
theorem dL_law_1743 : decode cL_law 1743 = .ok (.iaload, 1) := by decide +kernel
theorem dL_law_1744 : decode cL_law 1744 = .ok (.aload_n 0, 1) := by decide +kernel
theorem dL_law_1745 : decode cL_law 1745 = .ok (.iload 4, 2) := by decide +kernel
theorem dL_law_1747 : decode cL_law 1747 = .ok (.iconst 2, 1) := by decide +kernel
theorem dL_law_1748 : decode cL_law 1748 = .ok (.iadd, 1) := by decide +kernel
theorem dL_law_1749 : decode cL_law 1749 = .ok (.iaload, 1) := by decide +kernel
theorem dL_law_1750 : decode cL_law 1750 = .ok (.aload_n 0, 1) := by decide +kernel
theorem dL_law_1751 : decode cL_law 1751 = .ok (.iload 4, 2) := by decide +kernel
theorem dL_law_1753 : decode cL_law 1753 = .ok (.iconst 3, 1) := by decide +kernel
theorem dL_law_1754 : decode cL_law 1754 = .ok (.iadd, 1) := by decide +kernel
theorem dL_law_1755 : decode cL_law 1755 = .ok (.iaload, 1) := by decide +kernel
theorem dL_law_1756 : decode cL_law 1756 = .ok (.ifCond .eq 7, 3) := by decide +kernel
theorem dL_law_1763 : decode cL_law 1763 = .ok (.iconst 0, 1) := by decide +kernel
theorem dL_law_1764 : decode cL_law 1764 = .ok (.invokevirtual 166, 3) := by decide +kernel
theorem kw_2211 : Cond.code yX12_question prog_14_method_117_code 4 (some .boolean) ∈ uu := uu_in (i := 2211) (by decide +kernel) (by decide +kernel)
theorem kw_2208 : Cond.methodLink "LandSurveyLaw" 166 yX12_question ∈ uu := uu_in (i := 2208) (by decide +kernel) (by decide +kernel)
theorem kw_2209 : Cond.instanceMethod yX12_question ∈ uu := uu_in (i := 2209) (by decide +kernel) (by decide +kernel)
theorem kw_2210 : Cond.selects "LandSurveyModel" yX12_question yX12_question ∈ uu := uu_in (i := 2210) (by decide +kernel) (by decide +kernel)
theorem lk_LandSurveyLaw_166 : lkV "LandSurveyLaw" 166 yX12_question cX12_question 4 (some .boolean) 3 := ⟨kw_2208, kw_2209, kw_2210, kw_152, kw_2211, okX12_question⟩
theorem dL_law_1767 : decode cL_law 1767 = .ok (.pop, 1) := by decide +kernel
theorem dL_law_1768 : decode cL_law 1768 = .ok (.goto 128, 3) := by decide +kernel
theorem dL_law_1728 : decode cL_law 1728 = .ok (.iconst 1, 1) := by decide +kernel
theorem dL_law_1729 : decode cL_law 1729 = .ok (.goto 4, 3) := by decide +kernel
theorem dL_law_1759 : decode cL_law 1759 = .ok (.iconst 1, 1) := by decide +kernel
theorem dL_law_1760 : decode cL_law 1760 = .ok (.goto 4, 3) := by decide +kernel
theorem dL_law_1771 : decode cL_law 1771 = .ok (.aload_n 1, 1) := by decide +kernel
theorem dL_law_1772 : decode cL_law 1772 = .ok (.aload_n 0, 1) := by decide +kernel
theorem dL_law_1773 : decode cL_law 1773 = .ok (.iload 4, 2) := by decide +kernel
theorem dL_law_1775 : decode cL_law 1775 = .ok (.iconst 1, 1) := by decide +kernel
theorem dL_law_1776 : decode cL_law 1776 = .ok (.iadd, 1) := by decide +kernel
theorem dL_law_1777 : decode cL_law 1777 = .ok (.iaload, 1) := by decide +kernel
theorem dL_law_1778 : decode cL_law 1778 = .ok (.aload_n 0, 1) := by decide +kernel
theorem dL_law_1779 : decode cL_law 1779 = .ok (.iload 4, 2) := by decide +kernel
theorem dL_law_1781 : decode cL_law 1781 = .ok (.iconst 2, 1) := by decide +kernel
theorem dL_law_1782 : decode cL_law 1782 = .ok (.iadd, 1) := by decide +kernel
theorem dL_law_1783 : decode cL_law 1783 = .ok (.iaload, 1) := by decide +kernel
theorem dL_law_1784 : decode cL_law 1784 = .ok (.aload_n 0, 1) := by decide +kernel
theorem dL_law_1785 : decode cL_law 1785 = .ok (.iload 4, 2) := by decide +kernel
theorem dL_law_1787 : decode cL_law 1787 = .ok (.iconst 3, 1) := by decide +kernel
theorem dL_law_1788 : decode cL_law 1788 = .ok (.iadd, 1) := by decide +kernel
theorem dL_law_1789 : decode cL_law 1789 = .ok (.iaload, 1) := by decide +kernel
theorem dL_law_1790 : decode cL_law 1790 = .ok (.invokevirtual 167, 3) := by decide +kernel
theorem kw_1308 : Cond.code yX11_place prog_1_method_33_code 5 (some .int) ∈ uu := uu_in (i := 1308) (by decide +kernel) (by decide +kernel)
theorem kw_1305 : Cond.methodLink "LandSurveyLaw" 167 yX11_place ∈ uu := uu_in (i := 1305) (by decide +kernel) (by decide +kernel)
theorem kw_1306 : Cond.instanceMethod yX11_place ∈ uu := uu_in (i := 1306) (by decide +kernel) (by decide +kernel)
theorem kw_1307 : Cond.selects "LandSurvey" yX11_place yX11_place ∈ uu := uu_in (i := 1307) (by decide +kernel) (by decide +kernel)
theorem lk_LandSurveyLaw_167 : lkV "LandSurveyLaw" 167 yX11_place cX11_place 5 (some .int) 3 := ⟨kw_1305, kw_1306, kw_1307, kw_144, kw_1308, okX11_place⟩
theorem dL_law_1793 : decode cL_law 1793 = .ok (.pop, 1) := by decide +kernel
theorem dL_law_1794 : decode cL_law 1794 = .ok (.aload_n 2, 1) := by decide +kernel
theorem dL_law_1795 : decode cL_law 1795 = .ok (.aload_n 0, 1) := by decide +kernel
theorem dL_law_1796 : decode cL_law 1796 = .ok (.iload 4, 2) := by decide +kernel
theorem dL_law_1798 : decode cL_law 1798 = .ok (.iconst 1, 1) := by decide +kernel
theorem dL_law_1799 : decode cL_law 1799 = .ok (.iadd, 1) := by decide +kernel
theorem dL_law_1800 : decode cL_law 1800 = .ok (.iaload, 1) := by decide +kernel
theorem dL_law_1801 : decode cL_law 1801 = .ok (.aload_n 0, 1) := by decide +kernel
theorem dL_law_1802 : decode cL_law 1802 = .ok (.iload 4, 2) := by decide +kernel
theorem dL_law_1804 : decode cL_law 1804 = .ok (.iconst 2, 1) := by decide +kernel
theorem dL_law_1805 : decode cL_law 1805 = .ok (.iadd, 1) := by decide +kernel
theorem dL_law_1806 : decode cL_law 1806 = .ok (.iaload, 1) := by decide +kernel
theorem dL_law_1807 : decode cL_law 1807 = .ok (.aload_n 0, 1) := by decide +kernel
theorem dL_law_1808 : decode cL_law 1808 = .ok (.iload 4, 2) := by decide +kernel
theorem dL_law_1810 : decode cL_law 1810 = .ok (.iconst 3, 1) := by decide +kernel
theorem dL_law_1811 : decode cL_law 1811 = .ok (.iadd, 1) := by decide +kernel
theorem dL_law_1812 : decode cL_law 1812 = .ok (.iaload, 1) := by decide +kernel
theorem dL_law_1813 : decode cL_law 1813 = .ok (.invokevirtual 170, 3) := by decide +kernel
theorem kw_2219 : Cond.code yX12_place prog_14_method_118_code 4 (some .int) ∈ uu := uu_in (i := 2219) (by decide +kernel) (by decide +kernel)
theorem kw_2216 : Cond.methodLink "LandSurveyLaw" 170 yX12_place ∈ uu := uu_in (i := 2216) (by decide +kernel) (by decide +kernel)
theorem kw_2217 : Cond.instanceMethod yX12_place ∈ uu := uu_in (i := 2217) (by decide +kernel) (by decide +kernel)
theorem kw_2218 : Cond.selects "LandSurveyModel" yX12_place yX12_place ∈ uu := uu_in (i := 2218) (by decide +kernel) (by decide +kernel)
theorem lk_LandSurveyLaw_170 : lkV "LandSurveyLaw" 170 yX12_place cX12_place 4 (some .int) 3 := ⟨kw_2216, kw_2217, kw_2218, kw_152, kw_2219, okX12_place⟩
theorem dL_law_1816 : decode cL_law 1816 = .ok (.pop, 1) := by decide +kernel
theorem dL_law_1817 : decode cL_law 1817 = .ok (.goto 79, 3) := by decide +kernel
theorem dL_law_1820 : decode cL_law 1820 = .ok (.aload_n 1, 1) := by decide +kernel
theorem dL_law_1821 : decode cL_law 1821 = .ok (.invokevirtual 171, 3) := by decide +kernel
theorem kw_1312 : Cond.code yX11_doubt prog_1_method_34_code 2 (some .int) ∈ uu := uu_in (i := 1312) (by decide +kernel) (by decide +kernel)
theorem kw_1309 : Cond.methodLink "LandSurveyLaw" 171 yX11_doubt ∈ uu := uu_in (i := 1309) (by decide +kernel) (by decide +kernel)
theorem kw_1310 : Cond.instanceMethod yX11_doubt ∈ uu := uu_in (i := 1310) (by decide +kernel) (by decide +kernel)
theorem kw_1311 : Cond.selects "LandSurvey" yX11_doubt yX11_doubt ∈ uu := uu_in (i := 1311) (by decide +kernel) (by decide +kernel)
theorem lk_LandSurveyLaw_171 : lkV "LandSurveyLaw" 171 yX11_doubt cX11_doubt 2 (some .int) 0 := ⟨kw_1309, kw_1310, kw_1311, kw_144, kw_1312, okX11_doubt⟩
theorem dL_law_1824 : decode cL_law 1824 = .ok (.pop, 1) := by decide +kernel
theorem dL_law_1825 : decode cL_law 1825 = .ok (.aload_n 2, 1) := by decide +kernel
theorem dL_law_1826 : decode cL_law 1826 = .ok (.invokevirtual 174, 3) := by decide +kernel
theorem kw_2223 : Cond.code yX12_doubt prog_14_method_121_code 1 (some .int) ∈ uu := uu_in (i := 2223) (by decide +kernel) (by decide +kernel)
theorem kw_2220 : Cond.methodLink "LandSurveyLaw" 174 yX12_doubt ∈ uu := uu_in (i := 2220) (by decide +kernel) (by decide +kernel)
theorem kw_2221 : Cond.instanceMethod yX12_doubt ∈ uu := uu_in (i := 2221) (by decide +kernel) (by decide +kernel)
theorem kw_2222 : Cond.selects "LandSurveyModel" yX12_doubt yX12_doubt ∈ uu := uu_in (i := 2222) (by decide +kernel) (by decide +kernel)
theorem lk_LandSurveyLaw_174 : lkV "LandSurveyLaw" 174 yX12_doubt cX12_doubt 1 (some .int) 0 := ⟨kw_2220, kw_2221, kw_2222, kw_152, kw_2223, okX12_doubt⟩
theorem dL_law_1829 : decode cL_law 1829 = .ok (.pop, 1) := by decide +kernel
theorem dL_law_1830 : decode cL_law 1830 = .ok (.goto 66, 3) := by decide +kernel
theorem dL_law_1833 : decode cL_law 1833 = .ok (.aload_n 1, 1) := by decide +kernel
theorem dL_law_1834 : decode cL_law 1834 = .ok (.aload_n 0, 1) := by decide +kernel
theorem dL_law_1835 : decode cL_law 1835 = .ok (.iload 4, 2) := by decide +kernel
theorem dL_law_1837 : decode cL_law 1837 = .ok (.iconst 1, 1) := by decide +kernel
theorem dL_law_1838 : decode cL_law 1838 = .ok (.iadd, 1) := by decide +kernel
theorem dL_law_1839 : decode cL_law 1839 = .ok (.iaload, 1) := by decide +kernel
theorem dL_law_1840 : decode cL_law 1840 = .ok (.invokevirtual 175, 3) := by decide +kernel
theorem kw_1324 : Cond.code yX11_left prog_1_method_35_code 3 (some .int) ∈ uu := uu_in (i := 1324) (by decide +kernel) (by decide +kernel)
theorem kw_1321 : Cond.methodLink "LandSurveyLaw" 175 yX11_left ∈ uu := uu_in (i := 1321) (by decide +kernel) (by decide +kernel)
theorem kw_1322 : Cond.instanceMethod yX11_left ∈ uu := uu_in (i := 1322) (by decide +kernel) (by decide +kernel)
theorem kw_1323 : Cond.selects "LandSurvey" yX11_left yX11_left ∈ uu := uu_in (i := 1323) (by decide +kernel) (by decide +kernel)
theorem lk_LandSurveyLaw_175 : lkV "LandSurveyLaw" 175 yX11_left cX11_left 3 (some .int) 1 := ⟨kw_1321, kw_1322, kw_1323, kw_144, kw_1324, okX11_left⟩
theorem dL_law_1843 : decode cL_law 1843 = .ok (.pop, 1) := by decide +kernel
theorem dL_law_1844 : decode cL_law 1844 = .ok (.aload_n 2, 1) := by decide +kernel
theorem dL_law_1845 : decode cL_law 1845 = .ok (.aload_n 0, 1) := by decide +kernel
theorem dL_law_1846 : decode cL_law 1846 = .ok (.iload 4, 2) := by decide +kernel
theorem dL_law_1848 : decode cL_law 1848 = .ok (.iconst 1, 1) := by decide +kernel
theorem dL_law_1849 : decode cL_law 1849 = .ok (.iadd, 1) := by decide +kernel
theorem dL_law_1850 : decode cL_law 1850 = .ok (.iaload, 1) := by decide +kernel
theorem dL_law_1851 : decode cL_law 1851 = .ok (.invokevirtual 178, 3) := by decide +kernel
theorem kw_2235 : Cond.code yX12_left prog_14_method_125_code 2 (some .int) ∈ uu := uu_in (i := 2235) (by decide +kernel) (by decide +kernel)
theorem kw_2232 : Cond.methodLink "LandSurveyLaw" 178 yX12_left ∈ uu := uu_in (i := 2232) (by decide +kernel) (by decide +kernel)
theorem kw_2233 : Cond.instanceMethod yX12_left ∈ uu := uu_in (i := 2233) (by decide +kernel) (by decide +kernel)
theorem kw_2234 : Cond.selects "LandSurveyModel" yX12_left yX12_left ∈ uu := uu_in (i := 2234) (by decide +kernel) (by decide +kernel)
theorem lk_LandSurveyLaw_178 : lkV "LandSurveyLaw" 178 yX12_left cX12_left 2 (some .int) 1 := ⟨kw_2232, kw_2233, kw_2234, kw_152, kw_2235, okX12_left⟩
theorem dL_law_1854 : decode cL_law 1854 = .ok (.pop, 1) := by decide +kernel
theorem dL_law_1855 : decode cL_law 1855 = .ok (.goto 41, 3) := by decide +kernel
theorem dL_law_1858 : decode cL_law 1858 = .ok (.aload_n 1, 1) := by decide +kernel
theorem dL_law_1859 : decode cL_law 1859 = .ok (.invokevirtual 179, 3) := by decide +kernel
theorem kw_1344 : Cond.code yX11_next prog_1_method_36_code 11 (some .int) ∈ uu := uu_in (i := 1344) (by decide +kernel) (by decide +kernel)
theorem kw_1341 : Cond.methodLink "LandSurveyLaw" 179 yX11_next ∈ uu := uu_in (i := 1341) (by decide +kernel) (by decide +kernel)
theorem kw_1342 : Cond.instanceMethod yX11_next ∈ uu := uu_in (i := 1342) (by decide +kernel) (by decide +kernel)
theorem kw_1343 : Cond.selects "LandSurvey" yX11_next yX11_next ∈ uu := uu_in (i := 1343) (by decide +kernel) (by decide +kernel)
theorem lk_LandSurveyLaw_179 : lkV "LandSurveyLaw" 179 yX11_next cX11_next 11 (some .int) 0 := ⟨kw_1341, kw_1342, kw_1343, kw_144, kw_1344, okX11_next⟩
theorem dL_law_1862 : decode cL_law 1862 = .ok (.pop, 1) := by decide +kernel
theorem dL_law_1863 : decode cL_law 1863 = .ok (.aload_n 2, 1) := by decide +kernel
theorem dL_law_1864 : decode cL_law 1864 = .ok (.invokevirtual 182, 3) := by decide +kernel
theorem kw_2250 : Cond.code yX12_next prog_14_method_126_code 6 (some .int) ∈ uu := uu_in (i := 2250) (by decide +kernel) (by decide +kernel)
theorem kw_2247 : Cond.methodLink "LandSurveyLaw" 182 yX12_next ∈ uu := uu_in (i := 2247) (by decide +kernel) (by decide +kernel)
theorem kw_2248 : Cond.instanceMethod yX12_next ∈ uu := uu_in (i := 2248) (by decide +kernel) (by decide +kernel)
theorem kw_2249 : Cond.selects "LandSurveyModel" yX12_next yX12_next ∈ uu := uu_in (i := 2249) (by decide +kernel) (by decide +kernel)
theorem lk_LandSurveyLaw_182 : lkV "LandSurveyLaw" 182 yX12_next cX12_next 6 (some .int) 0 := ⟨kw_2247, kw_2248, kw_2249, kw_152, kw_2250, okX12_next⟩
theorem dL_law_1867 : decode cL_law 1867 = .ok (.pop, 1) := by decide +kernel
theorem dL_law_1868 : decode cL_law 1868 = .ok (.goto 28, 3) := by decide +kernel
theorem dL_law_1871 : decode cL_law 1871 = .ok (.aload_n 1, 1) := by decide +kernel
theorem dL_law_1872 : decode cL_law 1872 = .ok (.aload_n 0, 1) := by decide +kernel
theorem dL_law_1873 : decode cL_law 1873 = .ok (.iload 4, 2) := by decide +kernel
theorem dL_law_1875 : decode cL_law 1875 = .ok (.iconst 1, 1) := by decide +kernel
theorem dL_law_1876 : decode cL_law 1876 = .ok (.iadd, 1) := by decide +kernel
theorem dL_law_1877 : decode cL_law 1877 = .ok (.iaload, 1) := by decide +kernel
theorem dL_law_1878 : decode cL_law 1878 = .ok (.invokevirtual 183, 3) := by decide +kernel
theorem kw_1348 : Cond.code yX11_count prog_1_method_37_code 2 (some .int) ∈ uu := uu_in (i := 1348) (by decide +kernel) (by decide +kernel)
theorem kw_1345 : Cond.methodLink "LandSurveyLaw" 183 yX11_count ∈ uu := uu_in (i := 1345) (by decide +kernel) (by decide +kernel)
theorem kw_1346 : Cond.instanceMethod yX11_count ∈ uu := uu_in (i := 1346) (by decide +kernel) (by decide +kernel)
theorem kw_1347 : Cond.selects "LandSurvey" yX11_count yX11_count ∈ uu := uu_in (i := 1347) (by decide +kernel) (by decide +kernel)
theorem lk_LandSurveyLaw_183 : lkV "LandSurveyLaw" 183 yX11_count cX11_count 2 (some .int) 1 := ⟨kw_1345, kw_1346, kw_1347, kw_144, kw_1348, okX11_count⟩
theorem dL_law_1881 : decode cL_law 1881 = .ok (.pop, 1) := by decide +kernel
theorem dL_law_1882 : decode cL_law 1882 = .ok (.aload_n 2, 1) := by decide +kernel
theorem dL_law_1883 : decode cL_law 1883 = .ok (.aload_n 0, 1) := by decide +kernel
theorem dL_law_1884 : decode cL_law 1884 = .ok (.iload 4, 2) := by decide +kernel
theorem dL_law_1886 : decode cL_law 1886 = .ok (.iconst 1, 1) := by decide +kernel
theorem dL_law_1887 : decode cL_law 1887 = .ok (.iadd, 1) := by decide +kernel
theorem dL_law_1888 : decode cL_law 1888 = .ok (.iaload, 1) := by decide +kernel
theorem dL_law_1889 : decode cL_law 1889 = .ok (.invokevirtual 186, 3) := by decide +kernel
theorem kw_2254 : Cond.code yX12_count prog_14_method_129_code 2 (some .int) ∈ uu := uu_in (i := 2254) (by decide +kernel) (by decide +kernel)
theorem kw_2251 : Cond.methodLink "LandSurveyLaw" 186 yX12_count ∈ uu := uu_in (i := 2251) (by decide +kernel) (by decide +kernel)
theorem kw_2252 : Cond.instanceMethod yX12_count ∈ uu := uu_in (i := 2252) (by decide +kernel) (by decide +kernel)
theorem kw_2253 : Cond.selects "LandSurveyModel" yX12_count yX12_count ∈ uu := uu_in (i := 2253) (by decide +kernel) (by decide +kernel)
theorem lk_LandSurveyLaw_186 : lkV "LandSurveyLaw" 186 yX12_count cX12_count 2 (some .int) 1 := ⟨kw_2251, kw_2252, kw_2253, kw_152, kw_2254, okX12_count⟩
theorem dL_law_1892 : decode cL_law 1892 = .ok (.pop, 1) := by decide +kernel
theorem dL_law_1893 : decode cL_law 1893 = .ok (.goto 3, 3) := by decide +kernel
set_option maxRecDepth 100000 in
set_option maxHeartbeats 8000000 in
theorem law_gw (l : Launch) (hst : l.stackTraces = false) {p : Program} {e : Env} {s : State} {m : MethodId} {below : List Frame} {meth : Method} {c : Code} {D : va_G} {cy : Nat → ClassId} {w : Nat → Nat} {z0 b L : Nat} {xs : Nat → Int32} {h : Hp} (C : Cx p l room_1 s m #[Value.ref b] meth c D cy z0 7 cL_law "LandSurveyLaw" w) (hr : meth.sig.returnType = ret) (hX : va_X b L xs s s.heap) (hbl : b < s.heap.size) (hbz : b < z0) (hzs : s.heap.size ≤ z0) (hL : L ≤ 4096) (O : Okh h) (hND : ND h) : GW p l e room_1 s m #[Value.ref b] below meth c D cy z0 7 (lw_Z below #[Value.ref b] s) 0 [(0, .inr (.inr (b + 1)))] [] h 0 0 := by
  refine g_new C 1011 rfl rfl rfl inX11 tyX11 tyX11_ok kw_172 kw_173 kw_144 (by decide +kernel) (by decide) (by decide) dL_law_0 (fun n1 z2 z3 h5 hh4 => ?_)
  have O6 := O.pN z2 z3 hh4 (by decide) nn_1011
  refine g_dup C rfl dL_law_3 ?_
  have p7 := (ND_fx ((Fx.rf (wr := [1000001011]) (h := h)).pN z3 hh4 rfl) rfl rfl hND)
  refine g_callV (st := [.inr (.inr n1)]) (gc_I C lk_LandSurveyLaw_26 rfl (k_X11_init l D cy w z0 O6 (pN_T hh4) p7 ⟨(pN_I hh4), (pN_I hh4), (pN_I hh4), (pN_I hh4)⟩) (tg_nz (pN_T hh4)) rfl ⟨by decide, by decide⟩ (Nat.le_of_ble_eq_true rfl) dL_law_4 ⟨(by decide), (by decide)⟩) (fun h9 K10 => ?_)
  obtain ⟨O12, F13, p14, p15, p16, p17, p18, p19, p20, p21, p22, p23, p24⟩ := K10
  have e25 : Tg h9 n1 = 1011 := (fxT F13 (pN_T hh4))
  refine g_rt (T0 := 1010) (T1 := 10) e25 rfl (fun h27 hh26 => ?_)
  have O28 := O12.rt1 (T0 := 11) (T1 := 1010) e25 hh26 nu_1011 tbI_11_1011 tbE_11_1011 (fun j hj => by
      have z := List.elem_iff.mp (tbN_11 j hj)
      simp only [List.mem_cons, List.not_mem_nil, or_false] at z
      rcases z with rfl | rfl | rfl | rfl | rfl | rfl | rfl | rfl | rfl | rfl
      · exact p14
      · exact p15
      · exact p16
      · exact p17
      · exact p18
      · exact p19
      · exact p20
      · exact p21
      · exact p22
      · exact p23)
  have e29 : Ln h27 n1 = 0 := ((pTL hh26).trans ((fxL F13 (pN_T hh4)).trans (pN_L hh4)))
  have e30 : Iv h27 n1 0 = 0 := ((pTI hh26).trans ((fxI F13 (pN_T hh4) rfl).trans (pN_I hh4)))
  have p31 := XInv_rt hh26 ⟨by decide, by decide⟩ p24
  have F32 : Fx [200600, 200601, 200602, 200603, 200604, 200606, 200607, 200800, 200811, 201000, 201001, 201003, 201201, 201202, 201203, 201204, 201205, 201207, 201208, 201211, 201212, 201214, 201215, 201216, 201217, 201218, 201400, 201401, 201402, 201406, 201407, 201408, 201409, 201410, 201411, 202000, 202001, 202002, 202201, 202202, 202203, 202205, 202206, 202207, 202208, 202211, 202213, 202214, 202218, 2420000, 3020000, 5620000, 8020000, 8620000, 8820000, 9020000, 9420000, 10020000, 1000000003, 1000000004, 1000000005, 1000000006, 1000000007, 1000000010, 1000000011, 1000001003, 1000001004, 1000001005, 1000001006, 1000001007, 1000001010, 1000001011, 1000002006, 1000012100, 1000013101, 1000014101, 1000015100, 1000016101, 1000017100, 1000018100, 1000019103, 1000020100, 1000021100, 1000022108, 1000023102, 1000024100, 1000025100, 1000026100, 1000027100, 1000028100, 1000029100, 1000030100, 1000031100, 1000032100, 1000033100, 1000034100, 1000035100, 1000036100, 1000037100, 1000038104, 1000039105, 1000040100, 1000041102, 1000042102, 1000043100, 1000045100, 1000046102, 1000047100, 1000048106, 1000049107, 1000050100] h h27 := ((((Fx.rf (wr := [200600, 200601, 200602, 200603, 200604, 200606, 200607, 200800, 200811, 201000, 201001, 201003, 201201, 201202, 201203, 201204, 201205, 201207, 201208, 201211, 201212, 201214, 201215, 201216, 201217, 201218, 201400, 201401, 201402, 201406, 201407, 201408, 201409, 201410, 201411, 202000, 202001, 202002, 202201, 202202, 202203, 202205, 202206, 202207, 202208, 202211, 202213, 202214, 202218, 2420000, 3020000, 5620000, 8020000, 8620000, 8820000, 9020000, 9420000, 10020000, 1000000003, 1000000004, 1000000005, 1000000006, 1000000007, 1000000010, 1000000011, 1000001003, 1000001004, 1000001005, 1000001006, 1000001007, 1000001010, 1000001011, 1000002006, 1000012100, 1000013101, 1000014101, 1000015100, 1000016101, 1000017100, 1000018100, 1000019103, 1000020100, 1000021100, 1000022108, 1000023102, 1000024100, 1000025100, 1000026100, 1000027100, 1000028100, 1000029100, 1000030100, 1000031100, 1000032100, 1000033100, 1000034100, 1000035100, 1000036100, 1000037100, 1000038104, 1000039105, 1000040100, 1000041102, 1000042102, 1000043100, 1000045100, 1000046102, 1000047100, 1000048106, 1000049107, 1000050100]) (h := h)).pN z3 hh4 rfl).call F13 rfl).pT (nt_of (Fx.rf (wr := [200600, 200601, 200602, 200603, 200604, 200606, 200607, 200800, 200811, 201000, 201001, 201003, 201201, 201202, 201203, 201204, 201205, 201207, 201208, 201211, 201212, 201214, 201215, 201216, 201217, 201218, 201400, 201401, 201402, 201406, 201407, 201408, 201409, 201410, 201411, 202000, 202001, 202002, 202201, 202202, 202203, 202205, 202206, 202207, 202208, 202211, 202213, 202214, 202218, 2420000, 3020000, 5620000, 8020000, 8620000, 8820000, 9020000, 9420000, 10020000, 1000000003, 1000000004, 1000000005, 1000000006, 1000000007, 1000000010, 1000000011, 1000001003, 1000001004, 1000001005, 1000001006, 1000001007, 1000001010, 1000001011, 1000002006, 1000012100, 1000013101, 1000014101, 1000015100, 1000016101, 1000017100, 1000018100, 1000019103, 1000020100, 1000021100, 1000022108, 1000023102, 1000024100, 1000025100, 1000026100, 1000027100, 1000028100, 1000029100, 1000030100, 1000031100, 1000032100, 1000033100, 1000034100, 1000035100, 1000036100, 1000037100, 1000038104, 1000039105, 1000040100, 1000041102, 1000042102, 1000043100, 1000045100, 1000046102, 1000047100, 1000048106, 1000049107, 1000050100]) (h := h)) z3) hh26 rfl)
  refine g_astore_n C [(1, .inr (.inr n1)), (0, .inr (.inr (b + 1)))] rfl (by decide) rfl dL_law_7 ?_
  refine g_new C 1012 rfl rfl rfl inX12 tyX12 tyX12_ok kw_1471 kw_1469 kw_152 (by decide +kernel) (by decide) (by decide) dL_law_8 (fun n33 z34 z35 h37 hh36 => ?_)
  have O38 := O28.pN z34 z35 hh36 (by decide) nn_1012
  refine g_dup C rfl dL_law_11 ?_
  refine g_callV (st := [.inr (.inr n33)]) (gc_I C lk_LandSurveyLaw_29 rfl (k_X12_init l D cy w z0 O38 (pN_T hh36) ⟨(pN_I hh36), (pN_I hh36)⟩) (tg_nz (pN_T hh36)) rfl ⟨by decide, by decide⟩ (Nat.le_of_ble_eq_true rfl) dL_law_12 ⟨(by decide), (by decide)⟩) (fun h40 K41 => ?_)
  obtain ⟨O43, F44, p45, p46, p47, p48, p49, p50, p51, p52, p53, p54, p55, p56, p57, p58, p59, p60, p61, p62, p63, p64, p65, p66, p67, p68, p69, p70, p71, p72, p73, p74, p75, p76, p77, p78, p79, p80, p81, p82, p83, p84, p85, p86, p87, p88, p89, p90, p91, p92, p93, p94, p95, p96, p97, p98, p99, p100, p101, p102, p103, p104, p105, p106, p107, p108, p109, p110, p111, p112, p113⟩ := K41
  have e114 : Tg h40 n33 = 1012 := (fxT F44 (pN_T hh36))
  refine g_rt (T0 := 1011) (T1 := 11) e114 rfl (fun h116 hh115 => ?_)
  have O117 := O43.rt1 (T0 := 12) (T1 := 1011) e114 hh115 nu_1012 tbI_12_1012 tbE_12_1012 (fun j hj => by
      have z := List.elem_iff.mp (tbN_12 j hj)
      simp only [List.mem_cons, List.not_mem_nil, or_false] at z
      rcases z with rfl | rfl | rfl | rfl | rfl | rfl | rfl | rfl | rfl | rfl | rfl | rfl | rfl | rfl | rfl | rfl | rfl | rfl | rfl | rfl | rfl | rfl | rfl | rfl | rfl | rfl | rfl | rfl | rfl | rfl | rfl | rfl | rfl | rfl | rfl | rfl | rfl | rfl | rfl | rfl | rfl | rfl | rfl | rfl | rfl | rfl | rfl | rfl | rfl | rfl | rfl | rfl | rfl | rfl | rfl | rfl | rfl | rfl | rfl | rfl | rfl | rfl | rfl | rfl | rfl | rfl | rfl | rfl
      · exact p45
      · exact p46
      · exact p47
      · exact p48
      · exact p49
      · exact p50
      · exact p51
      · exact p52
      · exact p53
      · exact p54
      · exact p55
      · exact p56
      · exact p57
      · exact p58
      · exact p59
      · exact p60
      · exact p61
      · exact p62
      · exact p63
      · exact p64
      · exact p65
      · exact p66
      · exact p67
      · exact p68
      · exact p69
      · exact p70
      · exact p71
      · exact p72
      · exact p73
      · exact p74
      · exact p75
      · exact p76
      · exact p77
      · exact p78
      · exact p79
      · exact p80
      · exact p81
      · exact p82
      · exact p83
      · exact p84
      · exact p85
      · exact p86
      · exact p87
      · exact p88
      · exact p89
      · exact p90
      · exact p91
      · exact p92
      · exact p93
      · exact p94
      · exact p95
      · exact p96
      · exact p97
      · exact p98
      · exact p99
      · exact p100
      · exact p101
      · exact p102
      · exact p103
      · exact p104
      · exact p105
      · exact p106
      · exact p107
      · exact p108
      · exact p109
      · exact p110
      · exact p111
      · exact p112)
  have e118 : Ln h116 n33 = 0 := ((pTL hh115).trans ((fxL F44 (pN_T hh36)).trans (pN_L hh36)))
  have e119 : Iv h116 n33 33 = 0 := ((pTI hh115).trans ((fxI F44 (pN_T hh36) rfl).trans (pN_I hh36)))
  have p120 := MInv_rt hh115 p113
  have F121 : Fx [202401, 202404, 202405, 202406, 202409, 202411, 202412, 202413, 202414, 202415, 202416, 202417, 202418, 202419, 202420, 202421, 202422, 202423, 202424, 202425, 202426, 202427, 202429, 202430, 202431, 202432, 202434, 202435, 202436, 202437, 202438, 202439, 202441, 202442, 202443, 202444, 202445, 202446, 202447, 202448, 202449, 202450, 202451, 202452, 202453, 202454, 202455, 202456, 202458, 202459, 202460, 202461, 202463, 202464, 202465, 202466, 202467, 202468, 202470, 202471, 202472, 202473, 202474, 202475, 202476, 202481, 202482, 202484, 202485, 202486, 21820400, 27220000, 27420200, 27820000, 1000000012, 1000001012, 1000101100, 1000104100, 1000105100, 1000106102, 1000109102, 1000111100, 1000112100, 1000113102, 1000114100, 1000115100, 1000116101, 1000117101, 1000118101, 1000119100, 1000120101, 1000121100, 1000122100, 1000123100, 1000124100, 1000125100, 1000126100, 1000127100, 1000129100, 1000130100, 1000131100, 1000132100, 1000136100, 1000137101, 1000138101, 1000139100, 1000141100, 1000142100, 1000143100, 1000144100, 1000145100, 1000146100, 1000147100, 1000148100, 1000149100, 1000150100, 1000151100, 1000152101, 1000153101, 1000154100, 1000155100, 1000156100, 1000158101, 1000159100, 1000160100, 1000161100, 1000163100, 1000164100, 1000165100, 1000166100, 1000167100, 1000168100, 1000170101, 1000171100, 1000172102, 1000173101, 1000174101, 1000175100, 1000176100, 1000181100, 1000182101, 1000184100, 1000185100, 1000186100] h27 h116 := ((((Fx.rf (wr := [202401, 202404, 202405, 202406, 202409, 202411, 202412, 202413, 202414, 202415, 202416, 202417, 202418, 202419, 202420, 202421, 202422, 202423, 202424, 202425, 202426, 202427, 202429, 202430, 202431, 202432, 202434, 202435, 202436, 202437, 202438, 202439, 202441, 202442, 202443, 202444, 202445, 202446, 202447, 202448, 202449, 202450, 202451, 202452, 202453, 202454, 202455, 202456, 202458, 202459, 202460, 202461, 202463, 202464, 202465, 202466, 202467, 202468, 202470, 202471, 202472, 202473, 202474, 202475, 202476, 202481, 202482, 202484, 202485, 202486, 21820400, 27220000, 27420200, 27820000, 1000000012, 1000001012, 1000101100, 1000104100, 1000105100, 1000106102, 1000109102, 1000111100, 1000112100, 1000113102, 1000114100, 1000115100, 1000116101, 1000117101, 1000118101, 1000119100, 1000120101, 1000121100, 1000122100, 1000123100, 1000124100, 1000125100, 1000126100, 1000127100, 1000129100, 1000130100, 1000131100, 1000132100, 1000136100, 1000137101, 1000138101, 1000139100, 1000141100, 1000142100, 1000143100, 1000144100, 1000145100, 1000146100, 1000147100, 1000148100, 1000149100, 1000150100, 1000151100, 1000152101, 1000153101, 1000154100, 1000155100, 1000156100, 1000158101, 1000159100, 1000160100, 1000161100, 1000163100, 1000164100, 1000165100, 1000166100, 1000167100, 1000168100, 1000170101, 1000171100, 1000172102, 1000173101, 1000174101, 1000175100, 1000176100, 1000181100, 1000182101, 1000184100, 1000185100, 1000186100]) (h := h27)).pN z35 hh36 rfl).call F44 rfl).pT (nt_of (Fx.rf (wr := [202401, 202404, 202405, 202406, 202409, 202411, 202412, 202413, 202414, 202415, 202416, 202417, 202418, 202419, 202420, 202421, 202422, 202423, 202424, 202425, 202426, 202427, 202429, 202430, 202431, 202432, 202434, 202435, 202436, 202437, 202438, 202439, 202441, 202442, 202443, 202444, 202445, 202446, 202447, 202448, 202449, 202450, 202451, 202452, 202453, 202454, 202455, 202456, 202458, 202459, 202460, 202461, 202463, 202464, 202465, 202466, 202467, 202468, 202470, 202471, 202472, 202473, 202474, 202475, 202476, 202481, 202482, 202484, 202485, 202486, 21820400, 27220000, 27420200, 27820000, 1000000012, 1000001012, 1000101100, 1000104100, 1000105100, 1000106102, 1000109102, 1000111100, 1000112100, 1000113102, 1000114100, 1000115100, 1000116101, 1000117101, 1000118101, 1000119100, 1000120101, 1000121100, 1000122100, 1000123100, 1000124100, 1000125100, 1000126100, 1000127100, 1000129100, 1000130100, 1000131100, 1000132100, 1000136100, 1000137101, 1000138101, 1000139100, 1000141100, 1000142100, 1000143100, 1000144100, 1000145100, 1000146100, 1000147100, 1000148100, 1000149100, 1000150100, 1000151100, 1000152101, 1000153101, 1000154100, 1000155100, 1000156100, 1000158101, 1000159100, 1000160100, 1000161100, 1000163100, 1000164100, 1000165100, 1000166100, 1000167100, 1000168100, 1000170101, 1000171100, 1000172102, 1000173101, 1000174101, 1000175100, 1000176100, 1000181100, 1000182101, 1000184100, 1000185100, 1000186100]) (h := h27)) z35) hh115 rfl)
  refine g_astore_n C [(2, .inr (.inr n33)), (1, .inr (.inr n1)), (0, .inr (.inr (b + 1)))] rfl (by decide) rfl dL_law_15 ?_
  refine g_iconst C dL_law_16 ?_
  refine g_newa (atype := .long) (t := 2) (ty := .long) (N := 1) C 99102 rfl (iw (il 1) (by decide) (by decide)) (by decide) rfl kw_376 rfl (fun _ => rfl) (by decide) (by decide) (by decide) (by decide) dL_law_17 (fun n122 z123 z124 h126 hh125 => ?_)
  have O127 := O117.pN z123 z124 hh125 (by decide) nn_99102
  refine g_astore_n C [(3, .inr (.inr n122)), (2, .inr (.inr n33)), (1, .inr (.inr n1)), (0, .inr (.inr (b + 1)))] rfl (by decide) rfl dL_law_19 ?_
  refine g_iconst C dL_law_20 ?_
  refine g_istore C [(4, .inl 0), (3, .inr (.inr n122)), (2, .inr (.inr n33)), (1, .inr (.inr n1)), (0, .inr (.inr (b + 1)))] (by decide) rfl dL_law_21 ?_
  refine GW.sub [4, 3, 2, 1, 0] rfl ?_
  -- loop at 23
  have L130 : ∀ (μ : Nat) (x128 : Int) (h129 : Hp), (4104 - x128).toNat = μ → Okh h129 → Fx [200, 201, 202, 203, 204, 205, 401, 402, 403, 404, 405, 406, 605, 608, 801, 802, 803, 804, 805, 806, 807, 808, 809, 810, 812, 813, 1002, 1403, 1404, 1405, 1412, 1800, 1801, 1802, 1803, 1804, 1805, 1806, 1807, 1808, 1809, 1810, 1811, 1812, 1813, 1814, 1815, 1816, 1817, 1818, 2003, 2200, 2201, 2204, 2207, 2209, 2210, 2212, 2215, 2216, 2217, 2400, 2402, 2403, 2407, 2408, 2410, 2428, 2433, 2434, 2435, 2440, 2457, 2462, 2469, 2477, 2478, 2479, 2480, 2483, 200400, 200407, 200408, 201201, 201202, 201203, 201204, 201205, 201207, 201208, 201211, 201212, 201214, 201215, 201216, 201217, 201218, 201600, 401200, 401206, 401207, 401208, 401209, 401210, 401213, 401217, 2020000, 2220000, 2420000, 2620200, 2820200, 3020000, 3220200, 3420000, 3620000, 3820600, 4020000, 4220000, 4421600, 4620400, 4820000, 5020000, 5220000, 5420000, 5620000, 5820000, 6220000, 6620000, 7020000, 7220000, 7420000, 7620800, 7821000, 8020000, 8220400, 8420400, 8620000, 8820000, 9020000, 9220400, 9420000, 9621200, 9821400, 10020000, 19820400, 20220000, 20820000, 21020000, 21220400, 22220000, 22420000, 22620400, 22820000, 23020000, 23220200, 23420200, 23620200, 23820000, 24020200, 24220000, 24420000, 24620000, 24820000, 25020000, 25220000, 25420000, 25820000, 26020000, 26220000, 26420000, 27220000, 27420200, 27620200, 27820000, 28220000, 28420000, 28620000, 28820000, 29020000, 29220000, 29420000, 29620000, 29820000, 30020000, 30220000, 30420200, 30620200, 30820000, 31020000, 31220000, 31620200, 31820000, 32020000, 32220000, 32620000, 32820000, 33020000, 33220000, 33420000, 33620000, 34020200, 34220000, 34420400, 34620200, 34820200, 35020000, 35220000, 36220000, 36420200, 36820000, 37020000, 37220000, 1000000001, 1000000002, 1000000006, 1000000008, 1000000009, 1000001002, 1000001006, 1000001008, 1000002006, 1000003006, 1000010100, 1000011100, 1000023102, 1000024100, 1000025100, 1000026100, 1000027100, 1000028100, 1000029100, 1000030100, 1000031100, 1000032100, 1000033100, 1000034100, 1000035100, 1000036100, 1000037100, 1000044100] h126 h129 → ((0 : Int) ≤ x128 ∧ x128 ≤ (4096 : Int)) → (XInv h129 n1) → (MInv h129 n33) → (Iv h129 n1 0 = Iv h129 n33 33) → GW p l e room_1 s m #[Value.ref b] below meth c D cy z0 7 (lw_Z below #[Value.ref b] s) 23 [(0, .inr (.inr (b + 1))), (1, .inr (.inr n1)), (2, .inr (.inr n33)), (3, .inr (.inr n122)), (4, .inl x128)] [] h129 (12 * x128.toNat + 119) (804 * x128.toNat + 52115) := by
    intro μ
    induction μ using Nat.strongRecOn with
    | ind μ ih131 =>
      intro x128 h129 hm132 O133 F134 f135 p136 p137 p138
      have e139 : Tg h116 n1 = 11 := (fxT F121 (pT_T hh26))
      have e140 : Tg h126 n1 = 11 := ((pNT hh125 (pN_n hh125 z124 e139)).trans e139)
      obtain ⟨v141, e142⟩ : ∃ z, Iv h129 n1 0 = z := ⟨_, rfl⟩
      have e143 : Tg h129 n1 = 11 := (fxT F134 e140)
      have f144 := ok_I O133 e143 rI_11_0 e142
      have e145 : Iv h129 n33 33 = v141 := (Eq.symm p138).trans e142
      refine g_iload C 4 rfl dL_law_23 ?_
      refine g_aload_n C rfl 0 rfl dL_law_25 ?_
      refine g_slen C hX hbl hbz (by omega) dL_law_26 ?_
      have f146 : (0 : Int) ≤ (L : Int) ∧ (L : Int) ≤ (4096 : Int) := by omega
      refine g_bipush C (by decide) dL_law_27 ?_
      have f147 : (-8 : Int) ≤ ((L : Int) - 8) ∧ ((L : Int) - 8) ≤ (4088 : Int) := ia_sub f146 (il 8) (by decide) (by decide)
      refine g_isub C dL_law_29 ?_
      refine g_icmp_gt C (iw f135 (by decide) (by decide)) (iw f147 (by decide) (by decide)) 1902 (by decide) dL_law_30 (fun q148 => ?_) (fun q149 => ?_)
      · refine g_iconst C dL_law_1902 ?_
        exact g_lend C hr hzs (by omega) (by omega) dL_law_1903
      · have f150 : (0 : Int) ≤ x128 ∧ x128 ≤ (4088 : Int) := r_le f135 f147 q149 (by decide) (by decide)
        have f151 : (0 : Int) ≤ ((L : Int) - 8) ∧ ((L : Int) - 8) ≤ (4088 : Int) := r_ge f147 f135 q149 (by decide) (by decide)
        refine g_aload_n C rfl 0 rfl dL_law_33 ?_
        refine g_iload C 4 rfl dL_law_34 ?_
        refine g_sld C hX hbl hbz (by omega) (by omega) dL_law_36 ?_
        have f152 : (-2147483648 : Int) ≤ (sx xs x128) ∧ (sx xs x128) ≤ (2147483647 : Int) := inR_of _
        refine g_bipush C (by decide) dL_law_37 ?_
        refine g_iand C dL_law_39 ?_
        have f153 : (0 : Int) ≤ (bAnd (sx xs x128) 63) ∧ (bAnd (sx xs x128) 63) ≤ (63 : Int) := bAnd_63 _
        rcases Classical.em ((bAnd (sx xs x128) 63) = 0) with q154 | q155
        · refine g_tin (kv := 0) C q154 (by decide) 200 (by decide) (by decide) rfl (by decide) dL_law_40 ?_
          have f156 : (0 : Int) ≤ (bAnd (sx xs x128) 63) ∧ (bAnd (sx xs x128) 63) ≤ (0 : Int) := ii f153 (r_eq (il 0) q154) (by decide) (by decide)
          refine g_aload_n C rfl 1 rfl dL_law_200 ?_
          refine g_aload_n C rfl 0 rfl dL_law_201 ?_
          refine g_iload C 4 rfl dL_law_202 ?_
          refine g_iconst C dL_law_204 ?_
          have f157 : (1 : Int) ≤ (x128 + 1) ∧ (x128 + 1) ≤ (4089 : Int) := ia_add f150 (il 1) (by decide) (by decide)
          refine g_iadd C dL_law_205 ?_
          refine g_sld C hX hbl hbz (by omega) (by omega) dL_law_206 ?_
          have f158 : (-2147483648 : Int) ≤ (sx xs (x128 + 1)) ∧ (sx xs (x128 + 1)) ≤ (2147483647 : Int) := inR_of _
          refine g_callI (st := []) (gc_V C lk_LandSurveyLaw_30 (k2_X11_days l D cy w z0 O133 e143 f158) e143 rfl rfl rfl ⟨by decide, by decide⟩ (Nat.le_of_ble_eq_true rfl) dL_law_207 ⟨(by show _ ≤ 601024; omega), (by show _ ≤ 7293034; omega)⟩) (fun r159 h160 f162 K161 => ?_)
          obtain ⟨O163, F164, f165, p166, p167⟩ := K161
          rw [e142] at p166
          rw [e142] at p167
          refine g_aload_n C rfl 2 rfl dL_law_210 ?_
          refine g_aload_n C rfl 0 rfl dL_law_211 ?_
          refine g_iload C 4 rfl dL_law_212 ?_
          refine g_iconst C dL_law_214 ?_
          refine g_iadd C dL_law_215 ?_
          refine g_sld C hX hbl hbz (by omega) (by omega) dL_law_216 ?_
          have e168 : Tg h116 n33 = 12 := (pT_T hh115)
          have e169 : Tg h160 n33 = 12 := (fxT F164 (fxT F134 ((pNT hh125 (pN_n hh125 z124 e168)).trans e168)))
          refine g_callI (st := [.inl r159]) (gc_V C lk_LandSurveyLaw_33 (k_X12_days l D cy w z0 O163 e169 f158) e169 rfl rfl rfl ⟨by decide, by decide⟩ (Nat.le_of_ble_eq_true rfl) dL_law_217 ⟨(by show _ ≤ 601024; omega), (by show _ ≤ 7293034; omega)⟩) (fun r170 h171 f173 K172 => ?_)
          obtain ⟨O174, F175, f176, p177, p178⟩ := K172
          have e179 : Tg h116 n33 = 12 := (pT_T hh115)
          have e180 : Tg h129 n33 = 12 := (fxT F134 ((pNT hh125 (pN_n hh125 z124 e179)).trans e179))
          have e181 : Iv h160 n33 33 = v141 := ((fxI F164 e180 rfl).trans e145)
          rw [e181] at p177
          rw [e181] at p178
          refine g_icmp_eq C (iw f165 (by decide) (by decide)) (iw f176 (by decide) (by decide)) 1896 (by decide) dL_law_220 (fun q182 => ?_) (fun q183 => ?_)
          · have f184 : (8 : Int) ≤ (x128 + 8) ∧ (x128 + 8) ≤ (4096 : Int) := ia_add f150 (il 8) (by decide) (by decide)
            refine g_iinc C [(4, .inl (x128 + 8)), (0, .inr (.inr (b + 1))), (1, .inr (.inr n1)), (2, .inr (.inr n33)), (3, .inr (.inr n122))] 4 rfl (by decide) rfl dL_law_1896 ?_
            refine g_goto C 23 (by decide) dL_law_1899 ?_
            refine GW.sub [1, 2, 3, 4, 0] rfl ?_
            have e185 : Tg h160 n1 = 11 := (fxT F164 e143)
            have p186 := (XInv_fx O163 F175 e185 rfl (XInv_fx O133 F164 e143 rfl p136))
            have p187 := (MInv_fx O163 F175 e169 rfl (MInv_fx O133 F164 e180 rfl p137))
            have e188 : Iv h171 n1 0 = (dnF (sx xs (x128 + 1)) v141) := ((fxI F175 e185 rfl).trans p167)
            refine GW.widen (by omega : _ ≤ 12 * (x128 + 8).toNat + 119) (by omega : _ ≤ 804 * (x128 + 8).toNat + 52115) ?_
            exact ih131 _ (by omega) (x128 + 8) h171 rfl O174 ((F134.call F164 rfl).call F175 rfl) (iw f184 (by decide) (by decide)) p186 p187 (e188.trans (Eq.symm p178))
          · exact (show False by omega).elim
        · rcases Classical.em ((bAnd (sx xs x128) 63) = 1) with q189 | q190
          · refine g_tin (kv := 1) C q189 (by decide) 225 (by decide) (by decide) rfl (by decide) dL_law_40 ?_
            have f191 : (1 : Int) ≤ (bAnd (sx xs x128) 63) ∧ (bAnd (sx xs x128) 63) ≤ (1 : Int) := ii f153 (r_eq (il 1) q189) (by decide) (by decide)
            refine g_aload_n C rfl 1 rfl dL_law_225 ?_
            refine g_aload_n C rfl 0 rfl dL_law_226 ?_
            refine g_iload C 4 rfl dL_law_227 ?_
            refine g_iconst C dL_law_229 ?_
            have f192 : (1 : Int) ≤ (x128 + 1) ∧ (x128 + 1) ≤ (4089 : Int) := ia_add f150 (il 1) (by decide) (by decide)
            refine g_iadd C dL_law_230 ?_
            refine g_sld C hX hbl hbz (by omega) (by omega) dL_law_231 ?_
            have f193 : (-2147483648 : Int) ≤ (sx xs (x128 + 1)) ∧ (sx xs (x128 + 1)) ≤ (2147483647 : Int) := inR_of _
            refine g_callI (st := []) (gc_V C lk_LandSurveyLaw_34 (kx_X11_view l D cy w z0 O133 e143 f193 p136) e143 rfl rfl rfl ⟨by decide, by decide⟩ (Nat.le_of_ble_eq_true rfl) dL_law_232 ⟨(by show _ ≤ 601024; omega), (by show _ ≤ 7293034; omega)⟩) (fun r194 h195 f197 K196 => ?_)
            obtain ⟨O198, F199, f200, p201⟩ := K196
            refine g_pop C rfl dL_law_235 ?_
            refine g_aload_n C rfl 2 rfl dL_law_236 ?_
            refine g_aload_n C rfl 0 rfl dL_law_237 ?_
            refine g_iload C 4 rfl dL_law_238 ?_
            refine g_iconst C dL_law_240 ?_
            refine g_iadd C dL_law_241 ?_
            refine g_sld C hX hbl hbz (by omega) (by omega) dL_law_242 ?_
            have e202 : Tg h116 n33 = 12 := (pT_T hh115)
            have e203 : Tg h195 n33 = 12 := (fxT F199 (fxT F134 ((pNT hh125 (pN_n hh125 z124 e202)).trans e202)))
            refine g_callI (st := []) (gc_V C lk_LandSurveyLaw_38 (k_X12_view l D cy w z0 O198 e203 f193) e203 rfl rfl rfl ⟨by decide, by decide⟩ (Nat.le_of_ble_eq_true rfl) dL_law_243 ⟨(by show _ ≤ 601024; omega), (by show _ ≤ 7293034; omega)⟩) (fun r204 h205 f207 K206 => ?_)
            obtain ⟨O208, F209, f210⟩ := K206
            refine g_pop C rfl dL_law_246 ?_
            refine g_goto C 1896 (by decide) dL_law_247 ?_
            have f211 : (8 : Int) ≤ (x128 + 8) ∧ (x128 + 8) ≤ (4096 : Int) := ia_add f150 (il 8) (by decide) (by decide)
            refine g_iinc C [(4, .inl (x128 + 8)), (0, .inr (.inr (b + 1))), (1, .inr (.inr n1)), (2, .inr (.inr n33)), (3, .inr (.inr n122))] 4 rfl (by decide) rfl dL_law_1896 ?_
            refine g_goto C 23 (by decide) dL_law_1899 ?_
            refine GW.sub [1, 2, 3, 4, 0] rfl ?_
            have e212 : Tg h195 n1 = 11 := (fxT F199 e143)
            have p213 := (XInv_fx O198 F209 e212 rfl p201)
            have e214 : Tg h116 n33 = 12 := (pT_T hh115)
            have e215 : Tg h129 n33 = 12 := (fxT F134 ((pNT hh125 (pN_n hh125 z124 e214)).trans e214))
            have p216 := (MInv_fx O198 F209 e203 rfl (MInv_fx O133 F199 e215 rfl p137))
            have e217 : Iv h205 n1 0 = v141 := ((fxI F209 e212 rfl).trans ((fxI F199 e143 rfl).trans e142))
            have e218 : Iv h205 n33 33 = v141 := ((fxI F209 e203 rfl).trans ((fxI F199 e215 rfl).trans e145))
            refine GW.widen (by omega : _ ≤ 12 * (x128 + 8).toNat + 119) (by omega : _ ≤ 804 * (x128 + 8).toNat + 52115) ?_
            exact ih131 _ (by omega) (x128 + 8) h205 rfl O208 ((F134.call F199 rfl).call F209 rfl) (iw f211 (by decide) (by decide)) p213 p216 (e217.trans (Eq.symm e218))
          · rcases Classical.em ((bAnd (sx xs x128) 63) = 2) with q219 | q220
            · refine g_tin (kv := 2) C q219 (by decide) 250 (by decide) (by decide) rfl (by decide) dL_law_40 ?_
              have f221 : (2 : Int) ≤ (bAnd (sx xs x128) 63) ∧ (bAnd (sx xs x128) 63) ≤ (2 : Int) := ii f153 (r_eq (il 2) q219) (by decide) (by decide)
              refine g_aload_n C rfl 1 rfl dL_law_250 ?_
              refine g_aload_n C rfl 0 rfl dL_law_251 ?_
              refine g_iload C 4 rfl dL_law_252 ?_
              refine g_iconst C dL_law_254 ?_
              have f222 : (1 : Int) ≤ (x128 + 1) ∧ (x128 + 1) ≤ (4089 : Int) := ia_add f150 (il 1) (by decide) (by decide)
              refine g_iadd C dL_law_255 ?_
              refine g_sld C hX hbl hbz (by omega) (by omega) dL_law_256 ?_
              have f223 : (-2147483648 : Int) ≤ (sx xs (x128 + 1)) ∧ (sx xs (x128 + 1)) ≤ (2147483647 : Int) := inR_of _
              refine g_aload_n C rfl 0 rfl dL_law_257 ?_
              refine g_iload C 4 rfl dL_law_258 ?_
              refine g_iconst C dL_law_260 ?_
              have f224 : (2 : Int) ≤ (x128 + 2) ∧ (x128 + 2) ≤ (4090 : Int) := ia_add f150 (il 2) (by decide) (by decide)
              refine g_iadd C dL_law_261 ?_
              refine g_sld C hX hbl hbz (by omega) (by omega) dL_law_262 ?_
              have f225 : (-2147483648 : Int) ≤ (sx xs (x128 + 2)) ∧ (sx xs (x128 + 2)) ≤ (2147483647 : Int) := inR_of _
              refine g_aload_n C rfl 0 rfl dL_law_263 ?_
              refine g_iload C 4 rfl dL_law_264 ?_
              refine g_iconst C dL_law_266 ?_
              have f226 : (3 : Int) ≤ (x128 + 3) ∧ (x128 + 3) ≤ (4091 : Int) := ia_add f150 (il 3) (by decide) (by decide)
              refine g_iadd C dL_law_267 ?_
              refine g_sld C hX hbl hbz (by omega) (by omega) dL_law_268 ?_
              have f227 : (-2147483648 : Int) ≤ (sx xs (x128 + 3)) ∧ (sx xs (x128 + 3)) ≤ (2147483647 : Int) := inR_of _
              refine g_aload_n C rfl 0 rfl dL_law_269 ?_
              refine g_iload C 4 rfl dL_law_270 ?_
              refine g_iconst C dL_law_272 ?_
              have f228 : (4 : Int) ≤ (x128 + 4) ∧ (x128 + 4) ≤ (4092 : Int) := ia_add f150 (il 4) (by decide) (by decide)
              refine g_iadd C dL_law_273 ?_
              refine g_sld C hX hbl hbz (by omega) (by omega) dL_law_274 ?_
              have f229 : (-2147483648 : Int) ≤ (sx xs (x128 + 4)) ∧ (sx xs (x128 + 4)) ≤ (2147483647 : Int) := inR_of _
              refine g_if_eq C f229 282 (by decide) dL_law_275 (fun q230 => ?_) (fun q231 => ?_)
              · have f232 : (0 : Int) ≤ (sx xs (x128 + 4)) ∧ (sx xs (x128 + 4)) ≤ (0 : Int) := ii f229 (r_eq (il 0) q230) (by decide) (by decide)
                refine g_iconst C dL_law_282 ?_
                refine g_callI (st := []) (gc_V C lk_LandSurveyLaw_39 (kx_X11_cell l D cy w z0 O133 e143 f223 f225 f227 (iw (il 0) (by decide) (by decide)) p136) e143 rfl rfl rfl ⟨by decide, by decide⟩ (Nat.le_of_ble_eq_true rfl) dL_law_283 ⟨(by show _ ≤ 601024; omega), (by show _ ≤ 7293034; omega)⟩) (fun r233 h234 f236 K235 => ?_)
                obtain ⟨O237, F238, f239, p240⟩ := K235
                refine g_pop C rfl dL_law_286 ?_
                refine g_aload_n C rfl 2 rfl dL_law_287 ?_
                refine g_aload_n C rfl 0 rfl dL_law_288 ?_
                refine g_iload C 4 rfl dL_law_289 ?_
                refine g_iconst C dL_law_291 ?_
                refine g_iadd C dL_law_292 ?_
                refine g_sld C hX hbl hbz (by omega) (by omega) dL_law_293 ?_
                refine g_aload_n C rfl 0 rfl dL_law_294 ?_
                refine g_iload C 4 rfl dL_law_295 ?_
                refine g_iconst C dL_law_297 ?_
                refine g_iadd C dL_law_298 ?_
                refine g_sld C hX hbl hbz (by omega) (by omega) dL_law_299 ?_
                refine g_aload_n C rfl 0 rfl dL_law_300 ?_
                refine g_iload C 4 rfl dL_law_301 ?_
                refine g_iconst C dL_law_303 ?_
                refine g_iadd C dL_law_304 ?_
                refine g_sld C hX hbl hbz (by omega) (by omega) dL_law_305 ?_
                refine g_aload_n C rfl 0 rfl dL_law_306 ?_
                refine g_iload C 4 rfl dL_law_307 ?_
                refine g_iconst C dL_law_309 ?_
                refine g_iadd C dL_law_310 ?_
                refine g_sld C hX hbl hbz (by omega) (by omega) dL_law_311 ?_
                refine g_if_eq C (iw f232 (by decide) (by decide)) 319 (by decide) dL_law_312 (fun q241 => ?_) (fun q242 => ?_)
                · refine g_iconst C dL_law_319 ?_
                  have e243 : Tg h116 n33 = 12 := (pT_T hh115)
                  have e244 : Tg h234 n33 = 12 := (fxT F238 (fxT F134 ((pNT hh125 (pN_n hh125 z124 e243)).trans e243)))
                  refine g_callI (st := []) (gc_V C lk_LandSurveyLaw_43 (k_X12_cell l D cy w z0 O237 e244 f223 f225 f227 (iw (il 0) (by decide) (by decide))) e244 rfl rfl rfl ⟨by decide, by decide⟩ (Nat.le_of_ble_eq_true rfl) dL_law_320 ⟨(by show _ ≤ 601024; omega), (by show _ ≤ 7293034; omega)⟩) (fun r245 h246 f248 K247 => ?_)
                  obtain ⟨O249, F250, f251⟩ := K247
                  refine g_pop C rfl dL_law_323 ?_
                  refine g_goto C 1896 (by decide) dL_law_324 ?_
                  have f252 : (8 : Int) ≤ (x128 + 8) ∧ (x128 + 8) ≤ (4096 : Int) := ia_add f150 (il 8) (by decide) (by decide)
                  refine g_iinc C [(4, .inl (x128 + 8)), (0, .inr (.inr (b + 1))), (1, .inr (.inr n1)), (2, .inr (.inr n33)), (3, .inr (.inr n122))] 4 rfl (by decide) rfl dL_law_1896 ?_
                  refine g_goto C 23 (by decide) dL_law_1899 ?_
                  refine GW.sub [1, 2, 3, 4, 0] rfl ?_
                  have e253 : Tg h234 n1 = 11 := (fxT F238 e143)
                  have p254 := (XInv_fx O237 F250 e253 rfl p240)
                  have e255 : Tg h116 n33 = 12 := (pT_T hh115)
                  have e256 : Tg h129 n33 = 12 := (fxT F134 ((pNT hh125 (pN_n hh125 z124 e255)).trans e255))
                  have p257 := (MInv_fx O237 F250 e244 rfl (MInv_fx O133 F238 e256 rfl p137))
                  have e258 : Iv h246 n1 0 = v141 := ((fxI F250 e253 rfl).trans ((fxI F238 e143 rfl).trans e142))
                  have e259 : Iv h246 n33 33 = v141 := ((fxI F250 e244 rfl).trans ((fxI F238 e256 rfl).trans e145))
                  refine GW.widen (by omega : _ ≤ 12 * (x128 + 8).toNat + 119) (by omega : _ ≤ 804 * (x128 + 8).toNat + 52115) ?_
                  exact ih131 _ (by omega) (x128 + 8) h246 rfl O249 ((F134.call F238 rfl).call F250 rfl) (iw f252 (by decide) (by decide)) p254 p257 (e258.trans (Eq.symm e259))
                · exact (no_ne f232 (il 0) q242 (by decide)).elim
              · refine g_iconst C dL_law_278 ?_
                refine g_goto C 283 (by decide) dL_law_279 ?_
                refine g_callI (st := []) (gc_V C lk_LandSurveyLaw_39 (kx_X11_cell l D cy w z0 O133 e143 f223 f225 f227 (iw (il 1) (by decide) (by decide)) p136) e143 rfl rfl rfl ⟨by decide, by decide⟩ (Nat.le_of_ble_eq_true rfl) dL_law_283 ⟨(by show _ ≤ 601024; omega), (by show _ ≤ 7293034; omega)⟩) (fun r260 h261 f263 K262 => ?_)
                obtain ⟨O264, F265, f266, p267⟩ := K262
                refine g_pop C rfl dL_law_286 ?_
                refine g_aload_n C rfl 2 rfl dL_law_287 ?_
                refine g_aload_n C rfl 0 rfl dL_law_288 ?_
                refine g_iload C 4 rfl dL_law_289 ?_
                refine g_iconst C dL_law_291 ?_
                refine g_iadd C dL_law_292 ?_
                refine g_sld C hX hbl hbz (by omega) (by omega) dL_law_293 ?_
                refine g_aload_n C rfl 0 rfl dL_law_294 ?_
                refine g_iload C 4 rfl dL_law_295 ?_
                refine g_iconst C dL_law_297 ?_
                refine g_iadd C dL_law_298 ?_
                refine g_sld C hX hbl hbz (by omega) (by omega) dL_law_299 ?_
                refine g_aload_n C rfl 0 rfl dL_law_300 ?_
                refine g_iload C 4 rfl dL_law_301 ?_
                refine g_iconst C dL_law_303 ?_
                refine g_iadd C dL_law_304 ?_
                refine g_sld C hX hbl hbz (by omega) (by omega) dL_law_305 ?_
                refine g_aload_n C rfl 0 rfl dL_law_306 ?_
                refine g_iload C 4 rfl dL_law_307 ?_
                refine g_iconst C dL_law_309 ?_
                refine g_iadd C dL_law_310 ?_
                refine g_sld C hX hbl hbz (by omega) (by omega) dL_law_311 ?_
                refine g_if_eq C f229 319 (by decide) dL_law_312 (fun q268 => ?_) (fun q269 => ?_)
                · have f270 : (0 : Int) ≤ (sx xs (x128 + 4)) ∧ (sx xs (x128 + 4)) ≤ (0 : Int) := ii f229 (r_eq (il 0) q268) (by decide) (by decide)
                  refine g_iconst C dL_law_319 ?_
                  have e271 : Tg h116 n33 = 12 := (pT_T hh115)
                  have e272 : Tg h261 n33 = 12 := (fxT F265 (fxT F134 ((pNT hh125 (pN_n hh125 z124 e271)).trans e271)))
                  refine g_callI (st := []) (gc_V C lk_LandSurveyLaw_43 (k_X12_cell l D cy w z0 O264 e272 f223 f225 f227 (iw (il 0) (by decide) (by decide))) e272 rfl rfl rfl ⟨by decide, by decide⟩ (Nat.le_of_ble_eq_true rfl) dL_law_320 ⟨(by show _ ≤ 601024; omega), (by show _ ≤ 7293034; omega)⟩) (fun r273 h274 f276 K275 => ?_)
                  obtain ⟨O277, F278, f279⟩ := K275
                  refine g_pop C rfl dL_law_323 ?_
                  refine g_goto C 1896 (by decide) dL_law_324 ?_
                  have f280 : (8 : Int) ≤ (x128 + 8) ∧ (x128 + 8) ≤ (4096 : Int) := ia_add f150 (il 8) (by decide) (by decide)
                  refine g_iinc C [(4, .inl (x128 + 8)), (0, .inr (.inr (b + 1))), (1, .inr (.inr n1)), (2, .inr (.inr n33)), (3, .inr (.inr n122))] 4 rfl (by decide) rfl dL_law_1896 ?_
                  refine g_goto C 23 (by decide) dL_law_1899 ?_
                  refine GW.sub [1, 2, 3, 4, 0] rfl ?_
                  have e281 : Tg h261 n1 = 11 := (fxT F265 e143)
                  have p282 := (XInv_fx O264 F278 e281 rfl p267)
                  have e283 : Tg h116 n33 = 12 := (pT_T hh115)
                  have e284 : Tg h129 n33 = 12 := (fxT F134 ((pNT hh125 (pN_n hh125 z124 e283)).trans e283))
                  have p285 := (MInv_fx O264 F278 e272 rfl (MInv_fx O133 F265 e284 rfl p137))
                  have e286 : Iv h274 n1 0 = v141 := ((fxI F278 e281 rfl).trans ((fxI F265 e143 rfl).trans e142))
                  have e287 : Iv h274 n33 33 = v141 := ((fxI F278 e272 rfl).trans ((fxI F265 e284 rfl).trans e145))
                  refine GW.widen (by omega : _ ≤ 12 * (x128 + 8).toNat + 119) (by omega : _ ≤ 804 * (x128 + 8).toNat + 52115) ?_
                  exact ih131 _ (by omega) (x128 + 8) h274 rfl O277 ((F134.call F265 rfl).call F278 rfl) (iw f280 (by decide) (by decide)) p282 p285 (e286.trans (Eq.symm e287))
                · refine g_iconst C dL_law_315 ?_
                  refine g_goto C 320 (by decide) dL_law_316 ?_
                  have e288 : Tg h116 n33 = 12 := (pT_T hh115)
                  have e289 : Tg h261 n33 = 12 := (fxT F265 (fxT F134 ((pNT hh125 (pN_n hh125 z124 e288)).trans e288)))
                  refine g_callI (st := []) (gc_V C lk_LandSurveyLaw_43 (k_X12_cell l D cy w z0 O264 e289 f223 f225 f227 (iw (il 1) (by decide) (by decide))) e289 rfl rfl rfl ⟨by decide, by decide⟩ (Nat.le_of_ble_eq_true rfl) dL_law_320 ⟨(by show _ ≤ 601024; omega), (by show _ ≤ 7293034; omega)⟩) (fun r290 h291 f293 K292 => ?_)
                  obtain ⟨O294, F295, f296⟩ := K292
                  refine g_pop C rfl dL_law_323 ?_
                  refine g_goto C 1896 (by decide) dL_law_324 ?_
                  have f297 : (8 : Int) ≤ (x128 + 8) ∧ (x128 + 8) ≤ (4096 : Int) := ia_add f150 (il 8) (by decide) (by decide)
                  refine g_iinc C [(4, .inl (x128 + 8)), (0, .inr (.inr (b + 1))), (1, .inr (.inr n1)), (2, .inr (.inr n33)), (3, .inr (.inr n122))] 4 rfl (by decide) rfl dL_law_1896 ?_
                  refine g_goto C 23 (by decide) dL_law_1899 ?_
                  refine GW.sub [1, 2, 3, 4, 0] rfl ?_
                  have e298 : Tg h261 n1 = 11 := (fxT F265 e143)
                  have p299 := (XInv_fx O264 F295 e298 rfl p267)
                  have e300 : Tg h116 n33 = 12 := (pT_T hh115)
                  have e301 : Tg h129 n33 = 12 := (fxT F134 ((pNT hh125 (pN_n hh125 z124 e300)).trans e300))
                  have p302 := (MInv_fx O264 F295 e289 rfl (MInv_fx O133 F265 e301 rfl p137))
                  have e303 : Iv h291 n1 0 = v141 := ((fxI F295 e298 rfl).trans ((fxI F265 e143 rfl).trans e142))
                  have e304 : Iv h291 n33 33 = v141 := ((fxI F295 e289 rfl).trans ((fxI F265 e301 rfl).trans e145))
                  refine GW.widen (by omega : _ ≤ 12 * (x128 + 8).toNat + 119) (by omega : _ ≤ 804 * (x128 + 8).toNat + 52115) ?_
                  exact ih131 _ (by omega) (x128 + 8) h291 rfl O294 ((F134.call F265 rfl).call F295 rfl) (iw f297 (by decide) (by decide)) p299 p302 (e303.trans (Eq.symm e304))
            · rcases Classical.em ((bAnd (sx xs x128) 63) = 3) with q305 | q306
              · refine g_tin (kv := 3) C q305 (by decide) 327 (by decide) (by decide) rfl (by decide) dL_law_40 ?_
                have f307 : (3 : Int) ≤ (bAnd (sx xs x128) 63) ∧ (bAnd (sx xs x128) 63) ≤ (3 : Int) := ii f153 (r_eq (il 3) q305) (by decide) (by decide)
                refine g_aload_n C rfl 1 rfl dL_law_327 ?_
                refine g_aload_n C rfl 0 rfl dL_law_328 ?_
                refine g_iload C 4 rfl dL_law_329 ?_
                refine g_iconst C dL_law_331 ?_
                have f308 : (1 : Int) ≤ (x128 + 1) ∧ (x128 + 1) ≤ (4089 : Int) := ia_add f150 (il 1) (by decide) (by decide)
                refine g_iadd C dL_law_332 ?_
                refine g_sld C hX hbl hbz (by omega) (by omega) dL_law_333 ?_
                have f309 : (-2147483648 : Int) ≤ (sx xs (x128 + 1)) ∧ (sx xs (x128 + 1)) ≤ (2147483647 : Int) := inR_of _
                refine g_aload_n C rfl 0 rfl dL_law_334 ?_
                refine g_iload C 4 rfl dL_law_335 ?_
                refine g_iconst C dL_law_337 ?_
                have f310 : (2 : Int) ≤ (x128 + 2) ∧ (x128 + 2) ≤ (4090 : Int) := ia_add f150 (il 2) (by decide) (by decide)
                refine g_iadd C dL_law_338 ?_
                refine g_sld C hX hbl hbz (by omega) (by omega) dL_law_339 ?_
                have f311 : (-2147483648 : Int) ≤ (sx xs (x128 + 2)) ∧ (sx xs (x128 + 2)) ≤ (2147483647 : Int) := inR_of _
                refine g_aload_n C rfl 0 rfl dL_law_340 ?_
                refine g_iload C 4 rfl dL_law_341 ?_
                refine g_iconst C dL_law_343 ?_
                have f312 : (3 : Int) ≤ (x128 + 3) ∧ (x128 + 3) ≤ (4091 : Int) := ia_add f150 (il 3) (by decide) (by decide)
                refine g_iadd C dL_law_344 ?_
                refine g_sld C hX hbl hbz (by omega) (by omega) dL_law_345 ?_
                have f313 : (-2147483648 : Int) ≤ (sx xs (x128 + 3)) ∧ (sx xs (x128 + 3)) ≤ (2147483647 : Int) := inR_of _
                refine g_if_eq C f313 353 (by decide) dL_law_346 (fun q314 => ?_) (fun q315 => ?_)
                · have f316 : (0 : Int) ≤ (sx xs (x128 + 3)) ∧ (sx xs (x128 + 3)) ≤ (0 : Int) := ii f313 (r_eq (il 0) q314) (by decide) (by decide)
                  refine g_iconst C dL_law_353 ?_
                  refine g_callI (st := []) (gc_V C lk_LandSurveyLaw_44 (kx_X11_fold l D cy w z0 O133 e143 f309 f311 (iw (il 0) (by decide) (by decide)) p136) e143 rfl rfl rfl ⟨by decide, by decide⟩ (Nat.le_of_ble_eq_true rfl) dL_law_354 ⟨(by show _ ≤ 601024; omega), (by show _ ≤ 7293034; omega)⟩) (fun r317 h318 f320 K319 => ?_)
                  obtain ⟨O321, F322, f323, p324⟩ := K319
                  refine g_pop C rfl dL_law_357 ?_
                  refine g_aload_n C rfl 2 rfl dL_law_358 ?_
                  refine g_aload_n C rfl 0 rfl dL_law_359 ?_
                  refine g_iload C 4 rfl dL_law_360 ?_
                  refine g_iconst C dL_law_362 ?_
                  refine g_iadd C dL_law_363 ?_
                  refine g_sld C hX hbl hbz (by omega) (by omega) dL_law_364 ?_
                  refine g_aload_n C rfl 0 rfl dL_law_365 ?_
                  refine g_iload C 4 rfl dL_law_366 ?_
                  refine g_iconst C dL_law_368 ?_
                  refine g_iadd C dL_law_369 ?_
                  refine g_sld C hX hbl hbz (by omega) (by omega) dL_law_370 ?_
                  refine g_aload_n C rfl 0 rfl dL_law_371 ?_
                  refine g_iload C 4 rfl dL_law_372 ?_
                  refine g_iconst C dL_law_374 ?_
                  refine g_iadd C dL_law_375 ?_
                  refine g_sld C hX hbl hbz (by omega) (by omega) dL_law_376 ?_
                  refine g_if_eq C (iw f316 (by decide) (by decide)) 384 (by decide) dL_law_377 (fun q325 => ?_) (fun q326 => ?_)
                  · refine g_iconst C dL_law_384 ?_
                    have e327 : Tg h116 n33 = 12 := (pT_T hh115)
                    have e328 : Tg h318 n33 = 12 := (fxT F322 (fxT F134 ((pNT hh125 (pN_n hh125 z124 e327)).trans e327)))
                    refine g_callI (st := []) (gc_V C lk_LandSurveyLaw_48 (k_X12_fold l D cy w z0 O321 e328 f309 f311 (iw (il 0) (by decide) (by decide))) e328 rfl rfl rfl ⟨by decide, by decide⟩ (Nat.le_of_ble_eq_true rfl) dL_law_385 ⟨(by show _ ≤ 601024; omega), (by show _ ≤ 7293034; omega)⟩) (fun r329 h330 f332 K331 => ?_)
                    obtain ⟨O333, F334, f335⟩ := K331
                    refine g_pop C rfl dL_law_388 ?_
                    refine g_goto C 1896 (by decide) dL_law_389 ?_
                    have f336 : (8 : Int) ≤ (x128 + 8) ∧ (x128 + 8) ≤ (4096 : Int) := ia_add f150 (il 8) (by decide) (by decide)
                    refine g_iinc C [(4, .inl (x128 + 8)), (0, .inr (.inr (b + 1))), (1, .inr (.inr n1)), (2, .inr (.inr n33)), (3, .inr (.inr n122))] 4 rfl (by decide) rfl dL_law_1896 ?_
                    refine g_goto C 23 (by decide) dL_law_1899 ?_
                    refine GW.sub [1, 2, 3, 4, 0] rfl ?_
                    have e337 : Tg h318 n1 = 11 := (fxT F322 e143)
                    have p338 := (XInv_fx O321 F334 e337 rfl p324)
                    have e339 : Tg h116 n33 = 12 := (pT_T hh115)
                    have e340 : Tg h129 n33 = 12 := (fxT F134 ((pNT hh125 (pN_n hh125 z124 e339)).trans e339))
                    have p341 := (MInv_fx O321 F334 e328 rfl (MInv_fx O133 F322 e340 rfl p137))
                    have e342 : Iv h330 n1 0 = v141 := ((fxI F334 e337 rfl).trans ((fxI F322 e143 rfl).trans e142))
                    have e343 : Iv h330 n33 33 = v141 := ((fxI F334 e328 rfl).trans ((fxI F322 e340 rfl).trans e145))
                    refine GW.widen (by omega : _ ≤ 12 * (x128 + 8).toNat + 119) (by omega : _ ≤ 804 * (x128 + 8).toNat + 52115) ?_
                    exact ih131 _ (by omega) (x128 + 8) h330 rfl O333 ((F134.call F322 rfl).call F334 rfl) (iw f336 (by decide) (by decide)) p338 p341 (e342.trans (Eq.symm e343))
                  · exact (no_ne f316 (il 0) q326 (by decide)).elim
                · refine g_iconst C dL_law_349 ?_
                  refine g_goto C 354 (by decide) dL_law_350 ?_
                  refine g_callI (st := []) (gc_V C lk_LandSurveyLaw_44 (kx_X11_fold l D cy w z0 O133 e143 f309 f311 (iw (il 1) (by decide) (by decide)) p136) e143 rfl rfl rfl ⟨by decide, by decide⟩ (Nat.le_of_ble_eq_true rfl) dL_law_354 ⟨(by show _ ≤ 601024; omega), (by show _ ≤ 7293034; omega)⟩) (fun r344 h345 f347 K346 => ?_)
                  obtain ⟨O348, F349, f350, p351⟩ := K346
                  refine g_pop C rfl dL_law_357 ?_
                  refine g_aload_n C rfl 2 rfl dL_law_358 ?_
                  refine g_aload_n C rfl 0 rfl dL_law_359 ?_
                  refine g_iload C 4 rfl dL_law_360 ?_
                  refine g_iconst C dL_law_362 ?_
                  refine g_iadd C dL_law_363 ?_
                  refine g_sld C hX hbl hbz (by omega) (by omega) dL_law_364 ?_
                  refine g_aload_n C rfl 0 rfl dL_law_365 ?_
                  refine g_iload C 4 rfl dL_law_366 ?_
                  refine g_iconst C dL_law_368 ?_
                  refine g_iadd C dL_law_369 ?_
                  refine g_sld C hX hbl hbz (by omega) (by omega) dL_law_370 ?_
                  refine g_aload_n C rfl 0 rfl dL_law_371 ?_
                  refine g_iload C 4 rfl dL_law_372 ?_
                  refine g_iconst C dL_law_374 ?_
                  refine g_iadd C dL_law_375 ?_
                  refine g_sld C hX hbl hbz (by omega) (by omega) dL_law_376 ?_
                  refine g_if_eq C f313 384 (by decide) dL_law_377 (fun q352 => ?_) (fun q353 => ?_)
                  · have f354 : (0 : Int) ≤ (sx xs (x128 + 3)) ∧ (sx xs (x128 + 3)) ≤ (0 : Int) := ii f313 (r_eq (il 0) q352) (by decide) (by decide)
                    refine g_iconst C dL_law_384 ?_
                    have e355 : Tg h116 n33 = 12 := (pT_T hh115)
                    have e356 : Tg h345 n33 = 12 := (fxT F349 (fxT F134 ((pNT hh125 (pN_n hh125 z124 e355)).trans e355)))
                    refine g_callI (st := []) (gc_V C lk_LandSurveyLaw_48 (k_X12_fold l D cy w z0 O348 e356 f309 f311 (iw (il 0) (by decide) (by decide))) e356 rfl rfl rfl ⟨by decide, by decide⟩ (Nat.le_of_ble_eq_true rfl) dL_law_385 ⟨(by show _ ≤ 601024; omega), (by show _ ≤ 7293034; omega)⟩) (fun r357 h358 f360 K359 => ?_)
                    obtain ⟨O361, F362, f363⟩ := K359
                    refine g_pop C rfl dL_law_388 ?_
                    refine g_goto C 1896 (by decide) dL_law_389 ?_
                    have f364 : (8 : Int) ≤ (x128 + 8) ∧ (x128 + 8) ≤ (4096 : Int) := ia_add f150 (il 8) (by decide) (by decide)
                    refine g_iinc C [(4, .inl (x128 + 8)), (0, .inr (.inr (b + 1))), (1, .inr (.inr n1)), (2, .inr (.inr n33)), (3, .inr (.inr n122))] 4 rfl (by decide) rfl dL_law_1896 ?_
                    refine g_goto C 23 (by decide) dL_law_1899 ?_
                    refine GW.sub [1, 2, 3, 4, 0] rfl ?_
                    have e365 : Tg h345 n1 = 11 := (fxT F349 e143)
                    have p366 := (XInv_fx O348 F362 e365 rfl p351)
                    have e367 : Tg h116 n33 = 12 := (pT_T hh115)
                    have e368 : Tg h129 n33 = 12 := (fxT F134 ((pNT hh125 (pN_n hh125 z124 e367)).trans e367))
                    have p369 := (MInv_fx O348 F362 e356 rfl (MInv_fx O133 F349 e368 rfl p137))
                    have e370 : Iv h358 n1 0 = v141 := ((fxI F362 e365 rfl).trans ((fxI F349 e143 rfl).trans e142))
                    have e371 : Iv h358 n33 33 = v141 := ((fxI F362 e356 rfl).trans ((fxI F349 e368 rfl).trans e145))
                    refine GW.widen (by omega : _ ≤ 12 * (x128 + 8).toNat + 119) (by omega : _ ≤ 804 * (x128 + 8).toNat + 52115) ?_
                    exact ih131 _ (by omega) (x128 + 8) h358 rfl O361 ((F134.call F349 rfl).call F362 rfl) (iw f364 (by decide) (by decide)) p366 p369 (e370.trans (Eq.symm e371))
                  · refine g_iconst C dL_law_380 ?_
                    refine g_goto C 385 (by decide) dL_law_381 ?_
                    have e372 : Tg h116 n33 = 12 := (pT_T hh115)
                    have e373 : Tg h345 n33 = 12 := (fxT F349 (fxT F134 ((pNT hh125 (pN_n hh125 z124 e372)).trans e372)))
                    refine g_callI (st := []) (gc_V C lk_LandSurveyLaw_48 (k_X12_fold l D cy w z0 O348 e373 f309 f311 (iw (il 1) (by decide) (by decide))) e373 rfl rfl rfl ⟨by decide, by decide⟩ (Nat.le_of_ble_eq_true rfl) dL_law_385 ⟨(by show _ ≤ 601024; omega), (by show _ ≤ 7293034; omega)⟩) (fun r374 h375 f377 K376 => ?_)
                    obtain ⟨O378, F379, f380⟩ := K376
                    refine g_pop C rfl dL_law_388 ?_
                    refine g_goto C 1896 (by decide) dL_law_389 ?_
                    have f381 : (8 : Int) ≤ (x128 + 8) ∧ (x128 + 8) ≤ (4096 : Int) := ia_add f150 (il 8) (by decide) (by decide)
                    refine g_iinc C [(4, .inl (x128 + 8)), (0, .inr (.inr (b + 1))), (1, .inr (.inr n1)), (2, .inr (.inr n33)), (3, .inr (.inr n122))] 4 rfl (by decide) rfl dL_law_1896 ?_
                    refine g_goto C 23 (by decide) dL_law_1899 ?_
                    refine GW.sub [1, 2, 3, 4, 0] rfl ?_
                    have e382 : Tg h345 n1 = 11 := (fxT F349 e143)
                    have p383 := (XInv_fx O348 F379 e382 rfl p351)
                    have e384 : Tg h116 n33 = 12 := (pT_T hh115)
                    have e385 : Tg h129 n33 = 12 := (fxT F134 ((pNT hh125 (pN_n hh125 z124 e384)).trans e384))
                    have p386 := (MInv_fx O348 F379 e373 rfl (MInv_fx O133 F349 e385 rfl p137))
                    have e387 : Iv h375 n1 0 = v141 := ((fxI F379 e382 rfl).trans ((fxI F349 e143 rfl).trans e142))
                    have e388 : Iv h375 n33 33 = v141 := ((fxI F379 e373 rfl).trans ((fxI F349 e385 rfl).trans e145))
                    refine GW.widen (by omega : _ ≤ 12 * (x128 + 8).toNat + 119) (by omega : _ ≤ 804 * (x128 + 8).toNat + 52115) ?_
                    exact ih131 _ (by omega) (x128 + 8) h375 rfl O378 ((F134.call F349 rfl).call F379 rfl) (iw f381 (by decide) (by decide)) p383 p386 (e387.trans (Eq.symm e388))
              · rcases Classical.em ((bAnd (sx xs x128) 63) = 4) with q389 | q390
                · refine g_tin (kv := 4) C q389 (by decide) 392 (by decide) (by decide) rfl (by decide) dL_law_40 ?_
                  have f391 : (4 : Int) ≤ (bAnd (sx xs x128) 63) ∧ (bAnd (sx xs x128) 63) ≤ (4 : Int) := ii f153 (r_eq (il 4) q389) (by decide) (by decide)
                  refine g_aload_n C rfl 1 rfl dL_law_392 ?_
                  refine g_aload_n C rfl 0 rfl dL_law_393 ?_
                  refine g_iload C 4 rfl dL_law_394 ?_
                  refine g_iconst C dL_law_396 ?_
                  have f392 : (1 : Int) ≤ (x128 + 1) ∧ (x128 + 1) ≤ (4089 : Int) := ia_add f150 (il 1) (by decide) (by decide)
                  refine g_iadd C dL_law_397 ?_
                  refine g_sld C hX hbl hbz (by omega) (by omega) dL_law_398 ?_
                  have f393 : (-2147483648 : Int) ≤ (sx xs (x128 + 1)) ∧ (sx xs (x128 + 1)) ≤ (2147483647 : Int) := inR_of _
                  refine g_aload_n C rfl 0 rfl dL_law_399 ?_
                  refine g_iload C 4 rfl dL_law_400 ?_
                  refine g_iconst C dL_law_402 ?_
                  have f394 : (2 : Int) ≤ (x128 + 2) ∧ (x128 + 2) ≤ (4090 : Int) := ia_add f150 (il 2) (by decide) (by decide)
                  refine g_iadd C dL_law_403 ?_
                  refine g_sld C hX hbl hbz (by omega) (by omega) dL_law_404 ?_
                  have f395 : (-2147483648 : Int) ≤ (sx xs (x128 + 2)) ∧ (sx xs (x128 + 2)) ≤ (2147483647 : Int) := inR_of _
                  refine g_aload_n C rfl 0 rfl dL_law_405 ?_
                  refine g_iload C 4 rfl dL_law_406 ?_
                  refine g_iconst C dL_law_408 ?_
                  have f396 : (3 : Int) ≤ (x128 + 3) ∧ (x128 + 3) ≤ (4091 : Int) := ia_add f150 (il 3) (by decide) (by decide)
                  refine g_iadd C dL_law_409 ?_
                  refine g_sld C hX hbl hbz (by omega) (by omega) dL_law_410 ?_
                  have f397 : (-2147483648 : Int) ≤ (sx xs (x128 + 3)) ∧ (sx xs (x128 + 3)) ≤ (2147483647 : Int) := inR_of _
                  refine g_callI (st := []) (gc_V C lk_LandSurveyLaw_49 (k_X11_own l D cy w z0 O133 e143 f393 f395 f397) e143 rfl rfl rfl ⟨by decide, by decide⟩ (Nat.le_of_ble_eq_true rfl) dL_law_411 ⟨(by show _ ≤ 601024; omega), (by show _ ≤ 7293034; omega)⟩) (fun r398 h399 f401 K400 => ?_)
                  obtain ⟨O402, F403, f404⟩ := K400
                  refine g_pop C rfl dL_law_414 ?_
                  refine g_aload_n C rfl 2 rfl dL_law_415 ?_
                  refine g_aload_n C rfl 0 rfl dL_law_416 ?_
                  refine g_iload C 4 rfl dL_law_417 ?_
                  refine g_iconst C dL_law_419 ?_
                  refine g_iadd C dL_law_420 ?_
                  refine g_sld C hX hbl hbz (by omega) (by omega) dL_law_421 ?_
                  refine g_aload_n C rfl 0 rfl dL_law_422 ?_
                  refine g_iload C 4 rfl dL_law_423 ?_
                  refine g_iconst C dL_law_425 ?_
                  refine g_iadd C dL_law_426 ?_
                  refine g_sld C hX hbl hbz (by omega) (by omega) dL_law_427 ?_
                  refine g_aload_n C rfl 0 rfl dL_law_428 ?_
                  refine g_iload C 4 rfl dL_law_429 ?_
                  refine g_iconst C dL_law_431 ?_
                  refine g_iadd C dL_law_432 ?_
                  refine g_sld C hX hbl hbz (by omega) (by omega) dL_law_433 ?_
                  have e405 : Tg h116 n33 = 12 := (pT_T hh115)
                  have e406 : Tg h399 n33 = 12 := (fxT F403 (fxT F134 ((pNT hh125 (pN_n hh125 z124 e405)).trans e405)))
                  refine g_callI (st := []) (gc_V C lk_LandSurveyLaw_53 (k_X12_own l D cy w z0 O402 e406 f393 f395 f397) e406 rfl rfl rfl ⟨by decide, by decide⟩ (Nat.le_of_ble_eq_true rfl) dL_law_434 ⟨(by show _ ≤ 601024; omega), (by show _ ≤ 7293034; omega)⟩) (fun r407 h408 f410 K409 => ?_)
                  obtain ⟨O411, F412, f413⟩ := K409
                  refine g_pop C rfl dL_law_437 ?_
                  refine g_goto C 1896 (by decide) dL_law_438 ?_
                  have f414 : (8 : Int) ≤ (x128 + 8) ∧ (x128 + 8) ≤ (4096 : Int) := ia_add f150 (il 8) (by decide) (by decide)
                  refine g_iinc C [(4, .inl (x128 + 8)), (0, .inr (.inr (b + 1))), (1, .inr (.inr n1)), (2, .inr (.inr n33)), (3, .inr (.inr n122))] 4 rfl (by decide) rfl dL_law_1896 ?_
                  refine g_goto C 23 (by decide) dL_law_1899 ?_
                  refine GW.sub [1, 2, 3, 4, 0] rfl ?_
                  have e415 : Tg h399 n1 = 11 := (fxT F403 e143)
                  have p416 := (XInv_fx O402 F412 e415 rfl (XInv_fx O133 F403 e143 rfl p136))
                  have e417 : Tg h116 n33 = 12 := (pT_T hh115)
                  have e418 : Tg h129 n33 = 12 := (fxT F134 ((pNT hh125 (pN_n hh125 z124 e417)).trans e417))
                  have p419 := (MInv_fx O402 F412 e406 rfl (MInv_fx O133 F403 e418 rfl p137))
                  have e420 : Iv h408 n1 0 = v141 := ((fxI F412 e415 rfl).trans ((fxI F403 e143 rfl).trans e142))
                  have e421 : Iv h408 n33 33 = v141 := ((fxI F412 e406 rfl).trans ((fxI F403 e418 rfl).trans e145))
                  refine GW.widen (by omega : _ ≤ 12 * (x128 + 8).toNat + 119) (by omega : _ ≤ 804 * (x128 + 8).toNat + 52115) ?_
                  exact ih131 _ (by omega) (x128 + 8) h408 rfl O411 ((F134.call F403 rfl).call F412 rfl) (iw f414 (by decide) (by decide)) p416 p419 (e420.trans (Eq.symm e421))
                · rcases Classical.em ((bAnd (sx xs x128) 63) = 5) with q422 | q423
                  · refine g_tin (kv := 5) C q422 (by decide) 441 (by decide) (by decide) rfl (by decide) dL_law_40 ?_
                    have f424 : (5 : Int) ≤ (bAnd (sx xs x128) 63) ∧ (bAnd (sx xs x128) 63) ≤ (5 : Int) := ii f153 (r_eq (il 5) q422) (by decide) (by decide)
                    refine g_aload_n C rfl 1 rfl dL_law_441 ?_
                    refine g_aload_n C rfl 0 rfl dL_law_442 ?_
                    refine g_iload C 4 rfl dL_law_443 ?_
                    refine g_iconst C dL_law_445 ?_
                    have f425 : (1 : Int) ≤ (x128 + 1) ∧ (x128 + 1) ≤ (4089 : Int) := ia_add f150 (il 1) (by decide) (by decide)
                    refine g_iadd C dL_law_446 ?_
                    refine g_sld C hX hbl hbz (by omega) (by omega) dL_law_447 ?_
                    have f426 : (-2147483648 : Int) ≤ (sx xs (x128 + 1)) ∧ (sx xs (x128 + 1)) ≤ (2147483647 : Int) := inR_of _
                    refine g_aload_n C rfl 0 rfl dL_law_448 ?_
                    refine g_iload C 4 rfl dL_law_449 ?_
                    refine g_iconst C dL_law_451 ?_
                    have f427 : (2 : Int) ≤ (x128 + 2) ∧ (x128 + 2) ≤ (4090 : Int) := ia_add f150 (il 2) (by decide) (by decide)
                    refine g_iadd C dL_law_452 ?_
                    refine g_sld C hX hbl hbz (by omega) (by omega) dL_law_453 ?_
                    have f428 : (-2147483648 : Int) ≤ (sx xs (x128 + 2)) ∧ (sx xs (x128 + 2)) ≤ (2147483647 : Int) := inR_of _
                    refine g_aload_n C rfl 0 rfl dL_law_454 ?_
                    refine g_iload C 4 rfl dL_law_455 ?_
                    refine g_iconst C dL_law_457 ?_
                    have f429 : (3 : Int) ≤ (x128 + 3) ∧ (x128 + 3) ≤ (4091 : Int) := ia_add f150 (il 3) (by decide) (by decide)
                    refine g_iadd C dL_law_458 ?_
                    refine g_sld C hX hbl hbz (by omega) (by omega) dL_law_459 ?_
                    have f430 : (-2147483648 : Int) ≤ (sx xs (x128 + 3)) ∧ (sx xs (x128 + 3)) ≤ (2147483647 : Int) := inR_of _
                    refine g_aload_n C rfl 0 rfl dL_law_460 ?_
                    refine g_iload C 4 rfl dL_law_461 ?_
                    refine g_iconst C dL_law_463 ?_
                    have f431 : (4 : Int) ≤ (x128 + 4) ∧ (x128 + 4) ≤ (4092 : Int) := ia_add f150 (il 4) (by decide) (by decide)
                    refine g_iadd C dL_law_464 ?_
                    refine g_sld C hX hbl hbz (by omega) (by omega) dL_law_465 ?_
                    have f432 : (-2147483648 : Int) ≤ (sx xs (x128 + 4)) ∧ (sx xs (x128 + 4)) ≤ (2147483647 : Int) := inR_of _
                    refine g_aload_n C rfl 0 rfl dL_law_466 ?_
                    refine g_iload C 4 rfl dL_law_467 ?_
                    refine g_iconst C dL_law_469 ?_
                    have f433 : (5 : Int) ≤ (x128 + 5) ∧ (x128 + 5) ≤ (4093 : Int) := ia_add f150 (il 5) (by decide) (by decide)
                    refine g_iadd C dL_law_470 ?_
                    refine g_sld C hX hbl hbz (by omega) (by omega) dL_law_471 ?_
                    have f434 : (-2147483648 : Int) ≤ (sx xs (x128 + 5)) ∧ (sx xs (x128 + 5)) ≤ (2147483647 : Int) := inR_of _
                    refine g_aload_n C rfl 0 rfl dL_law_472 ?_
                    refine g_iload C 4 rfl dL_law_473 ?_
                    refine g_bipush C (by decide) dL_law_475 ?_
                    have f435 : (6 : Int) ≤ (x128 + 6) ∧ (x128 + 6) ≤ (4094 : Int) := ia_add f150 (il 6) (by decide) (by decide)
                    refine g_iadd C dL_law_477 ?_
                    refine g_sld C hX hbl hbz (by omega) (by omega) dL_law_478 ?_
                    have f436 : (-2147483648 : Int) ≤ (sx xs (x128 + 6)) ∧ (sx xs (x128 + 6)) ≤ (2147483647 : Int) := inR_of _
                    refine g_callI (st := []) (gc_V C lk_LandSurveyLaw_54 (k_X11_sight l D cy w z0 O133 e143 f426 f428 f430 f432 f434 f436 p136) e143 rfl rfl rfl ⟨by decide, by decide⟩ (Nat.le_of_ble_eq_true rfl) dL_law_479 ⟨(by show _ ≤ 601024; omega), (by show _ ≤ 7293034; omega)⟩) (fun r437 h438 f440 K439 => ?_)
                    obtain ⟨O441, F442, f443, p444⟩ := K439
                    refine g_pop C rfl dL_law_482 ?_
                    refine g_aload_n C rfl 2 rfl dL_law_483 ?_
                    refine g_aload_n C rfl 0 rfl dL_law_484 ?_
                    refine g_iload C 4 rfl dL_law_485 ?_
                    refine g_iconst C dL_law_487 ?_
                    refine g_iadd C dL_law_488 ?_
                    refine g_sld C hX hbl hbz (by omega) (by omega) dL_law_489 ?_
                    refine g_aload_n C rfl 0 rfl dL_law_490 ?_
                    refine g_iload C 4 rfl dL_law_491 ?_
                    refine g_iconst C dL_law_493 ?_
                    refine g_iadd C dL_law_494 ?_
                    refine g_sld C hX hbl hbz (by omega) (by omega) dL_law_495 ?_
                    refine g_aload_n C rfl 0 rfl dL_law_496 ?_
                    refine g_iload C 4 rfl dL_law_497 ?_
                    refine g_iconst C dL_law_499 ?_
                    refine g_iadd C dL_law_500 ?_
                    refine g_sld C hX hbl hbz (by omega) (by omega) dL_law_501 ?_
                    refine g_aload_n C rfl 0 rfl dL_law_502 ?_
                    refine g_iload C 4 rfl dL_law_503 ?_
                    refine g_iconst C dL_law_505 ?_
                    refine g_iadd C dL_law_506 ?_
                    refine g_sld C hX hbl hbz (by omega) (by omega) dL_law_507 ?_
                    refine g_aload_n C rfl 0 rfl dL_law_508 ?_
                    refine g_iload C 4 rfl dL_law_509 ?_
                    refine g_iconst C dL_law_511 ?_
                    refine g_iadd C dL_law_512 ?_
                    refine g_sld C hX hbl hbz (by omega) (by omega) dL_law_513 ?_
                    refine g_aload_n C rfl 0 rfl dL_law_514 ?_
                    refine g_iload C 4 rfl dL_law_515 ?_
                    refine g_bipush C (by decide) dL_law_517 ?_
                    refine g_iadd C dL_law_519 ?_
                    refine g_sld C hX hbl hbz (by omega) (by omega) dL_law_520 ?_
                    have e445 : Tg h116 n33 = 12 := (pT_T hh115)
                    have e446 : Tg h438 n33 = 12 := (fxT F442 (fxT F134 ((pNT hh125 (pN_n hh125 z124 e445)).trans e445)))
                    refine g_callI (st := []) (gc_V C lk_LandSurveyLaw_58 (k_X12_sight l D cy w z0 O441 e446 f426 f428 f430 f432 f434 f436) e446 rfl rfl rfl ⟨by decide, by decide⟩ (Nat.le_of_ble_eq_true rfl) dL_law_521 ⟨(by show _ ≤ 601024; omega), (by show _ ≤ 7293034; omega)⟩) (fun r447 h448 f450 K449 => ?_)
                    obtain ⟨O451, F452, f453⟩ := K449
                    refine g_pop C rfl dL_law_524 ?_
                    refine g_goto C 1896 (by decide) dL_law_525 ?_
                    have f454 : (8 : Int) ≤ (x128 + 8) ∧ (x128 + 8) ≤ (4096 : Int) := ia_add f150 (il 8) (by decide) (by decide)
                    refine g_iinc C [(4, .inl (x128 + 8)), (0, .inr (.inr (b + 1))), (1, .inr (.inr n1)), (2, .inr (.inr n33)), (3, .inr (.inr n122))] 4 rfl (by decide) rfl dL_law_1896 ?_
                    refine g_goto C 23 (by decide) dL_law_1899 ?_
                    refine GW.sub [1, 2, 3, 4, 0] rfl ?_
                    have e455 : Tg h438 n1 = 11 := (fxT F442 e143)
                    have p456 := (XInv_fx O441 F452 e455 rfl p444)
                    have e457 : Tg h116 n33 = 12 := (pT_T hh115)
                    have e458 : Tg h129 n33 = 12 := (fxT F134 ((pNT hh125 (pN_n hh125 z124 e457)).trans e457))
                    have p459 := (MInv_fx O441 F452 e446 rfl (MInv_fx O133 F442 e458 rfl p137))
                    have e460 : Iv h448 n1 0 = v141 := ((fxI F452 e455 rfl).trans ((fxI F442 e143 rfl).trans e142))
                    have e461 : Iv h448 n33 33 = v141 := ((fxI F452 e446 rfl).trans ((fxI F442 e458 rfl).trans e145))
                    refine GW.widen (by omega : _ ≤ 12 * (x128 + 8).toNat + 119) (by omega : _ ≤ 804 * (x128 + 8).toNat + 52115) ?_
                    exact ih131 _ (by omega) (x128 + 8) h448 rfl O451 ((F134.call F442 rfl).call F452 rfl) (iw f454 (by decide) (by decide)) p456 p459 (e460.trans (Eq.symm e461))
                  · rcases Classical.em ((bAnd (sx xs x128) 63) = 6) with q462 | q463
                    · refine g_tin (kv := 6) C q462 (by decide) 528 (by decide) (by decide) rfl (by decide) dL_law_40 ?_
                      have f464 : (6 : Int) ≤ (bAnd (sx xs x128) 63) ∧ (bAnd (sx xs x128) 63) ≤ (6 : Int) := ii f153 (r_eq (il 6) q462) (by decide) (by decide)
                      refine g_aload_n C rfl 1 rfl dL_law_528 ?_
                      refine g_aload_n C rfl 0 rfl dL_law_529 ?_
                      refine g_iload C 4 rfl dL_law_530 ?_
                      refine g_iconst C dL_law_532 ?_
                      have f465 : (1 : Int) ≤ (x128 + 1) ∧ (x128 + 1) ≤ (4089 : Int) := ia_add f150 (il 1) (by decide) (by decide)
                      refine g_iadd C dL_law_533 ?_
                      refine g_sld C hX hbl hbz (by omega) (by omega) dL_law_534 ?_
                      have f466 : (-2147483648 : Int) ≤ (sx xs (x128 + 1)) ∧ (sx xs (x128 + 1)) ≤ (2147483647 : Int) := inR_of _
                      refine g_aload_n C rfl 0 rfl dL_law_535 ?_
                      refine g_iload C 4 rfl dL_law_536 ?_
                      refine g_iconst C dL_law_538 ?_
                      have f467 : (2 : Int) ≤ (x128 + 2) ∧ (x128 + 2) ≤ (4090 : Int) := ia_add f150 (il 2) (by decide) (by decide)
                      refine g_iadd C dL_law_539 ?_
                      refine g_sld C hX hbl hbz (by omega) (by omega) dL_law_540 ?_
                      have f468 : (-2147483648 : Int) ≤ (sx xs (x128 + 2)) ∧ (sx xs (x128 + 2)) ≤ (2147483647 : Int) := inR_of _
                      refine g_aload_n C rfl 0 rfl dL_law_541 ?_
                      refine g_iload C 4 rfl dL_law_542 ?_
                      refine g_iconst C dL_law_544 ?_
                      have f469 : (3 : Int) ≤ (x128 + 3) ∧ (x128 + 3) ≤ (4091 : Int) := ia_add f150 (il 3) (by decide) (by decide)
                      refine g_iadd C dL_law_545 ?_
                      refine g_sld C hX hbl hbz (by omega) (by omega) dL_law_546 ?_
                      have f470 : (-2147483648 : Int) ≤ (sx xs (x128 + 3)) ∧ (sx xs (x128 + 3)) ≤ (2147483647 : Int) := inR_of _
                      refine g_aload_n C rfl 0 rfl dL_law_547 ?_
                      refine g_iload C 4 rfl dL_law_548 ?_
                      refine g_iconst C dL_law_550 ?_
                      have f471 : (4 : Int) ≤ (x128 + 4) ∧ (x128 + 4) ≤ (4092 : Int) := ia_add f150 (il 4) (by decide) (by decide)
                      refine g_iadd C dL_law_551 ?_
                      refine g_sld C hX hbl hbz (by omega) (by omega) dL_law_552 ?_
                      have f472 : (-2147483648 : Int) ≤ (sx xs (x128 + 4)) ∧ (sx xs (x128 + 4)) ≤ (2147483647 : Int) := inR_of _
                      refine g_callI (st := []) (gc_V C lk_LandSurveyLaw_59 (k_X11_dip l D cy w z0 O133 e143 f466 f468 f470 f472 p136) e143 rfl rfl rfl ⟨by decide, by decide⟩ (Nat.le_of_ble_eq_true rfl) dL_law_553 ⟨(by show _ ≤ 601024; omega), (by show _ ≤ 7293034; omega)⟩) (fun r473 h474 f476 K475 => ?_)
                      obtain ⟨O477, F478, f479, p480⟩ := K475
                      refine g_pop C rfl dL_law_556 ?_
                      refine g_aload_n C rfl 2 rfl dL_law_557 ?_
                      refine g_aload_n C rfl 0 rfl dL_law_558 ?_
                      refine g_iload C 4 rfl dL_law_559 ?_
                      refine g_iconst C dL_law_561 ?_
                      refine g_iadd C dL_law_562 ?_
                      refine g_sld C hX hbl hbz (by omega) (by omega) dL_law_563 ?_
                      refine g_aload_n C rfl 0 rfl dL_law_564 ?_
                      refine g_iload C 4 rfl dL_law_565 ?_
                      refine g_iconst C dL_law_567 ?_
                      refine g_iadd C dL_law_568 ?_
                      refine g_sld C hX hbl hbz (by omega) (by omega) dL_law_569 ?_
                      refine g_aload_n C rfl 0 rfl dL_law_570 ?_
                      refine g_iload C 4 rfl dL_law_571 ?_
                      refine g_iconst C dL_law_573 ?_
                      refine g_iadd C dL_law_574 ?_
                      refine g_sld C hX hbl hbz (by omega) (by omega) dL_law_575 ?_
                      refine g_aload_n C rfl 0 rfl dL_law_576 ?_
                      refine g_iload C 4 rfl dL_law_577 ?_
                      refine g_iconst C dL_law_579 ?_
                      refine g_iadd C dL_law_580 ?_
                      refine g_sld C hX hbl hbz (by omega) (by omega) dL_law_581 ?_
                      have e481 : Tg h116 n33 = 12 := (pT_T hh115)
                      have e482 : Tg h474 n33 = 12 := (fxT F478 (fxT F134 ((pNT hh125 (pN_n hh125 z124 e481)).trans e481)))
                      refine g_callI (st := []) (gc_V C lk_LandSurveyLaw_63 (k_X12_dip l D cy w z0 O477 e482 f466 f468 f470 f472) e482 rfl rfl rfl ⟨by decide, by decide⟩ (Nat.le_of_ble_eq_true rfl) dL_law_582 ⟨(by show _ ≤ 601024; omega), (by show _ ≤ 7293034; omega)⟩) (fun r483 h484 f486 K485 => ?_)
                      obtain ⟨O487, F488, f489⟩ := K485
                      refine g_pop C rfl dL_law_585 ?_
                      refine g_goto C 1896 (by decide) dL_law_586 ?_
                      have f490 : (8 : Int) ≤ (x128 + 8) ∧ (x128 + 8) ≤ (4096 : Int) := ia_add f150 (il 8) (by decide) (by decide)
                      refine g_iinc C [(4, .inl (x128 + 8)), (0, .inr (.inr (b + 1))), (1, .inr (.inr n1)), (2, .inr (.inr n33)), (3, .inr (.inr n122))] 4 rfl (by decide) rfl dL_law_1896 ?_
                      refine g_goto C 23 (by decide) dL_law_1899 ?_
                      refine GW.sub [1, 2, 3, 4, 0] rfl ?_
                      have e491 : Tg h474 n1 = 11 := (fxT F478 e143)
                      have p492 := (XInv_fx O477 F488 e491 rfl p480)
                      have e493 : Tg h116 n33 = 12 := (pT_T hh115)
                      have e494 : Tg h129 n33 = 12 := (fxT F134 ((pNT hh125 (pN_n hh125 z124 e493)).trans e493))
                      have p495 := (MInv_fx O477 F488 e482 rfl (MInv_fx O133 F478 e494 rfl p137))
                      have e496 : Iv h484 n1 0 = v141 := ((fxI F488 e491 rfl).trans ((fxI F478 e143 rfl).trans e142))
                      have e497 : Iv h484 n33 33 = v141 := ((fxI F488 e482 rfl).trans ((fxI F478 e494 rfl).trans e145))
                      refine GW.widen (by omega : _ ≤ 12 * (x128 + 8).toNat + 119) (by omega : _ ≤ 804 * (x128 + 8).toNat + 52115) ?_
                      exact ih131 _ (by omega) (x128 + 8) h484 rfl O487 ((F134.call F478 rfl).call F488 rfl) (iw f490 (by decide) (by decide)) p492 p495 (e496.trans (Eq.symm e497))
                    · rcases Classical.em ((bAnd (sx xs x128) 63) = 7) with q498 | q499
                      · refine g_tin (kv := 7) C q498 (by decide) 589 (by decide) (by decide) rfl (by decide) dL_law_40 ?_
                        have f500 : (7 : Int) ≤ (bAnd (sx xs x128) 63) ∧ (bAnd (sx xs x128) 63) ≤ (7 : Int) := ii f153 (r_eq (il 7) q498) (by decide) (by decide)
                        refine g_aload_n C rfl 1 rfl dL_law_589 ?_
                        refine g_aload_n C rfl 0 rfl dL_law_590 ?_
                        refine g_iload C 4 rfl dL_law_591 ?_
                        refine g_iconst C dL_law_593 ?_
                        have f501 : (1 : Int) ≤ (x128 + 1) ∧ (x128 + 1) ≤ (4089 : Int) := ia_add f150 (il 1) (by decide) (by decide)
                        refine g_iadd C dL_law_594 ?_
                        refine g_sld C hX hbl hbz (by omega) (by omega) dL_law_595 ?_
                        have f502 : (-2147483648 : Int) ≤ (sx xs (x128 + 1)) ∧ (sx xs (x128 + 1)) ≤ (2147483647 : Int) := inR_of _
                        refine g_aload_n C rfl 0 rfl dL_law_596 ?_
                        refine g_iload C 4 rfl dL_law_597 ?_
                        refine g_iconst C dL_law_599 ?_
                        have f503 : (2 : Int) ≤ (x128 + 2) ∧ (x128 + 2) ≤ (4090 : Int) := ia_add f150 (il 2) (by decide) (by decide)
                        refine g_iadd C dL_law_600 ?_
                        refine g_sld C hX hbl hbz (by omega) (by omega) dL_law_601 ?_
                        have f504 : (-2147483648 : Int) ≤ (sx xs (x128 + 2)) ∧ (sx xs (x128 + 2)) ≤ (2147483647 : Int) := inR_of _
                        refine g_aload_n C rfl 0 rfl dL_law_602 ?_
                        refine g_iload C 4 rfl dL_law_603 ?_
                        refine g_iconst C dL_law_605 ?_
                        have f505 : (3 : Int) ≤ (x128 + 3) ∧ (x128 + 3) ≤ (4091 : Int) := ia_add f150 (il 3) (by decide) (by decide)
                        refine g_iadd C dL_law_606 ?_
                        refine g_sld C hX hbl hbz (by omega) (by omega) dL_law_607 ?_
                        have f506 : (-2147483648 : Int) ≤ (sx xs (x128 + 3)) ∧ (sx xs (x128 + 3)) ≤ (2147483647 : Int) := inR_of _
                        refine g_if_eq C f506 615 (by decide) dL_law_608 (fun q507 => ?_) (fun q508 => ?_)
                        · have f509 : (0 : Int) ≤ (sx xs (x128 + 3)) ∧ (sx xs (x128 + 3)) ≤ (0 : Int) := ii f506 (r_eq (il 0) q507) (by decide) (by decide)
                          refine g_iconst C dL_law_615 ?_
                          refine g_callI (st := []) (gc_V C lk_LandSurveyLaw_64 (k_X11_remain l D cy w z0 O133 e143 f502 f504 (iw (il 0) (by decide) (by decide)) p136) e143 rfl rfl rfl ⟨by decide, by decide⟩ (Nat.le_of_ble_eq_true rfl) dL_law_616 ⟨(by show _ ≤ 601024; omega), (by show _ ≤ 7293034; omega)⟩) (fun r510 h511 f513 K512 => ?_)
                          obtain ⟨O514, F515, f516, p517⟩ := K512
                          refine g_pop C rfl dL_law_619 ?_
                          refine g_aload_n C rfl 2 rfl dL_law_620 ?_
                          refine g_aload_n C rfl 0 rfl dL_law_621 ?_
                          refine g_iload C 4 rfl dL_law_622 ?_
                          refine g_iconst C dL_law_624 ?_
                          refine g_iadd C dL_law_625 ?_
                          refine g_sld C hX hbl hbz (by omega) (by omega) dL_law_626 ?_
                          refine g_aload_n C rfl 0 rfl dL_law_627 ?_
                          refine g_iload C 4 rfl dL_law_628 ?_
                          refine g_iconst C dL_law_630 ?_
                          refine g_iadd C dL_law_631 ?_
                          refine g_sld C hX hbl hbz (by omega) (by omega) dL_law_632 ?_
                          refine g_aload_n C rfl 0 rfl dL_law_633 ?_
                          refine g_iload C 4 rfl dL_law_634 ?_
                          refine g_iconst C dL_law_636 ?_
                          refine g_iadd C dL_law_637 ?_
                          refine g_sld C hX hbl hbz (by omega) (by omega) dL_law_638 ?_
                          refine g_if_eq C (iw f509 (by decide) (by decide)) 646 (by decide) dL_law_639 (fun q518 => ?_) (fun q519 => ?_)
                          · refine g_iconst C dL_law_646 ?_
                            have e520 : Tg h116 n33 = 12 := (pT_T hh115)
                            have e521 : Tg h511 n33 = 12 := (fxT F515 (fxT F134 ((pNT hh125 (pN_n hh125 z124 e520)).trans e520)))
                            refine g_callI (st := []) (gc_V C lk_LandSurveyLaw_67 (k_X12_remain l D cy w z0 O514 e521 f502 f504 (iw (il 0) (by decide) (by decide))) e521 rfl rfl rfl ⟨by decide, by decide⟩ (Nat.le_of_ble_eq_true rfl) dL_law_647 ⟨(by show _ ≤ 601024; omega), (by show _ ≤ 7293034; omega)⟩) (fun r522 h523 f525 K524 => ?_)
                            obtain ⟨O526, F527, f528⟩ := K524
                            refine g_pop C rfl dL_law_650 ?_
                            refine g_goto C 1896 (by decide) dL_law_651 ?_
                            have f529 : (8 : Int) ≤ (x128 + 8) ∧ (x128 + 8) ≤ (4096 : Int) := ia_add f150 (il 8) (by decide) (by decide)
                            refine g_iinc C [(4, .inl (x128 + 8)), (0, .inr (.inr (b + 1))), (1, .inr (.inr n1)), (2, .inr (.inr n33)), (3, .inr (.inr n122))] 4 rfl (by decide) rfl dL_law_1896 ?_
                            refine g_goto C 23 (by decide) dL_law_1899 ?_
                            refine GW.sub [1, 2, 3, 4, 0] rfl ?_
                            have e530 : Tg h511 n1 = 11 := (fxT F515 e143)
                            have p531 := (XInv_fx O514 F527 e530 rfl p517)
                            have e532 : Tg h116 n33 = 12 := (pT_T hh115)
                            have e533 : Tg h129 n33 = 12 := (fxT F134 ((pNT hh125 (pN_n hh125 z124 e532)).trans e532))
                            have p534 := (MInv_fx O514 F527 e521 rfl (MInv_fx O133 F515 e533 rfl p137))
                            have e535 : Iv h523 n1 0 = v141 := ((fxI F527 e530 rfl).trans ((fxI F515 e143 rfl).trans e142))
                            have e536 : Iv h523 n33 33 = v141 := ((fxI F527 e521 rfl).trans ((fxI F515 e533 rfl).trans e145))
                            refine GW.widen (by omega : _ ≤ 12 * (x128 + 8).toNat + 119) (by omega : _ ≤ 804 * (x128 + 8).toNat + 52115) ?_
                            exact ih131 _ (by omega) (x128 + 8) h523 rfl O526 ((F134.call F515 rfl).call F527 rfl) (iw f529 (by decide) (by decide)) p531 p534 (e535.trans (Eq.symm e536))
                          · exact (no_ne f509 (il 0) q519 (by decide)).elim
                        · refine g_iconst C dL_law_611 ?_
                          refine g_goto C 616 (by decide) dL_law_612 ?_
                          refine g_callI (st := []) (gc_V C lk_LandSurveyLaw_64 (k_X11_remain l D cy w z0 O133 e143 f502 f504 (iw (il 1) (by decide) (by decide)) p136) e143 rfl rfl rfl ⟨by decide, by decide⟩ (Nat.le_of_ble_eq_true rfl) dL_law_616 ⟨(by show _ ≤ 601024; omega), (by show _ ≤ 7293034; omega)⟩) (fun r537 h538 f540 K539 => ?_)
                          obtain ⟨O541, F542, f543, p544⟩ := K539
                          refine g_pop C rfl dL_law_619 ?_
                          refine g_aload_n C rfl 2 rfl dL_law_620 ?_
                          refine g_aload_n C rfl 0 rfl dL_law_621 ?_
                          refine g_iload C 4 rfl dL_law_622 ?_
                          refine g_iconst C dL_law_624 ?_
                          refine g_iadd C dL_law_625 ?_
                          refine g_sld C hX hbl hbz (by omega) (by omega) dL_law_626 ?_
                          refine g_aload_n C rfl 0 rfl dL_law_627 ?_
                          refine g_iload C 4 rfl dL_law_628 ?_
                          refine g_iconst C dL_law_630 ?_
                          refine g_iadd C dL_law_631 ?_
                          refine g_sld C hX hbl hbz (by omega) (by omega) dL_law_632 ?_
                          refine g_aload_n C rfl 0 rfl dL_law_633 ?_
                          refine g_iload C 4 rfl dL_law_634 ?_
                          refine g_iconst C dL_law_636 ?_
                          refine g_iadd C dL_law_637 ?_
                          refine g_sld C hX hbl hbz (by omega) (by omega) dL_law_638 ?_
                          refine g_if_eq C f506 646 (by decide) dL_law_639 (fun q545 => ?_) (fun q546 => ?_)
                          · have f547 : (0 : Int) ≤ (sx xs (x128 + 3)) ∧ (sx xs (x128 + 3)) ≤ (0 : Int) := ii f506 (r_eq (il 0) q545) (by decide) (by decide)
                            refine g_iconst C dL_law_646 ?_
                            have e548 : Tg h116 n33 = 12 := (pT_T hh115)
                            have e549 : Tg h538 n33 = 12 := (fxT F542 (fxT F134 ((pNT hh125 (pN_n hh125 z124 e548)).trans e548)))
                            refine g_callI (st := []) (gc_V C lk_LandSurveyLaw_67 (k_X12_remain l D cy w z0 O541 e549 f502 f504 (iw (il 0) (by decide) (by decide))) e549 rfl rfl rfl ⟨by decide, by decide⟩ (Nat.le_of_ble_eq_true rfl) dL_law_647 ⟨(by show _ ≤ 601024; omega), (by show _ ≤ 7293034; omega)⟩) (fun r550 h551 f553 K552 => ?_)
                            obtain ⟨O554, F555, f556⟩ := K552
                            refine g_pop C rfl dL_law_650 ?_
                            refine g_goto C 1896 (by decide) dL_law_651 ?_
                            have f557 : (8 : Int) ≤ (x128 + 8) ∧ (x128 + 8) ≤ (4096 : Int) := ia_add f150 (il 8) (by decide) (by decide)
                            refine g_iinc C [(4, .inl (x128 + 8)), (0, .inr (.inr (b + 1))), (1, .inr (.inr n1)), (2, .inr (.inr n33)), (3, .inr (.inr n122))] 4 rfl (by decide) rfl dL_law_1896 ?_
                            refine g_goto C 23 (by decide) dL_law_1899 ?_
                            refine GW.sub [1, 2, 3, 4, 0] rfl ?_
                            have e558 : Tg h538 n1 = 11 := (fxT F542 e143)
                            have p559 := (XInv_fx O541 F555 e558 rfl p544)
                            have e560 : Tg h116 n33 = 12 := (pT_T hh115)
                            have e561 : Tg h129 n33 = 12 := (fxT F134 ((pNT hh125 (pN_n hh125 z124 e560)).trans e560))
                            have p562 := (MInv_fx O541 F555 e549 rfl (MInv_fx O133 F542 e561 rfl p137))
                            have e563 : Iv h551 n1 0 = v141 := ((fxI F555 e558 rfl).trans ((fxI F542 e143 rfl).trans e142))
                            have e564 : Iv h551 n33 33 = v141 := ((fxI F555 e549 rfl).trans ((fxI F542 e561 rfl).trans e145))
                            refine GW.widen (by omega : _ ≤ 12 * (x128 + 8).toNat + 119) (by omega : _ ≤ 804 * (x128 + 8).toNat + 52115) ?_
                            exact ih131 _ (by omega) (x128 + 8) h551 rfl O554 ((F134.call F542 rfl).call F555 rfl) (iw f557 (by decide) (by decide)) p559 p562 (e563.trans (Eq.symm e564))
                          · refine g_iconst C dL_law_642 ?_
                            refine g_goto C 647 (by decide) dL_law_643 ?_
                            have e565 : Tg h116 n33 = 12 := (pT_T hh115)
                            have e566 : Tg h538 n33 = 12 := (fxT F542 (fxT F134 ((pNT hh125 (pN_n hh125 z124 e565)).trans e565)))
                            refine g_callI (st := []) (gc_V C lk_LandSurveyLaw_67 (k_X12_remain l D cy w z0 O541 e566 f502 f504 (iw (il 1) (by decide) (by decide))) e566 rfl rfl rfl ⟨by decide, by decide⟩ (Nat.le_of_ble_eq_true rfl) dL_law_647 ⟨(by show _ ≤ 601024; omega), (by show _ ≤ 7293034; omega)⟩) (fun r567 h568 f570 K569 => ?_)
                            obtain ⟨O571, F572, f573⟩ := K569
                            refine g_pop C rfl dL_law_650 ?_
                            refine g_goto C 1896 (by decide) dL_law_651 ?_
                            have f574 : (8 : Int) ≤ (x128 + 8) ∧ (x128 + 8) ≤ (4096 : Int) := ia_add f150 (il 8) (by decide) (by decide)
                            refine g_iinc C [(4, .inl (x128 + 8)), (0, .inr (.inr (b + 1))), (1, .inr (.inr n1)), (2, .inr (.inr n33)), (3, .inr (.inr n122))] 4 rfl (by decide) rfl dL_law_1896 ?_
                            refine g_goto C 23 (by decide) dL_law_1899 ?_
                            refine GW.sub [1, 2, 3, 4, 0] rfl ?_
                            have e575 : Tg h538 n1 = 11 := (fxT F542 e143)
                            have p576 := (XInv_fx O541 F572 e575 rfl p544)
                            have e577 : Tg h116 n33 = 12 := (pT_T hh115)
                            have e578 : Tg h129 n33 = 12 := (fxT F134 ((pNT hh125 (pN_n hh125 z124 e577)).trans e577))
                            have p579 := (MInv_fx O541 F572 e566 rfl (MInv_fx O133 F542 e578 rfl p137))
                            have e580 : Iv h568 n1 0 = v141 := ((fxI F572 e575 rfl).trans ((fxI F542 e143 rfl).trans e142))
                            have e581 : Iv h568 n33 33 = v141 := ((fxI F572 e566 rfl).trans ((fxI F542 e578 rfl).trans e145))
                            refine GW.widen (by omega : _ ≤ 12 * (x128 + 8).toNat + 119) (by omega : _ ≤ 804 * (x128 + 8).toNat + 52115) ?_
                            exact ih131 _ (by omega) (x128 + 8) h568 rfl O571 ((F134.call F542 rfl).call F572 rfl) (iw f574 (by decide) (by decide)) p576 p579 (e580.trans (Eq.symm e581))
                      · rcases Classical.em ((bAnd (sx xs x128) 63) = 8) with q582 | q583
                        · refine g_tin (kv := 8) C q582 (by decide) 654 (by decide) (by decide) rfl (by decide) dL_law_40 ?_
                          have f584 : (8 : Int) ≤ (bAnd (sx xs x128) 63) ∧ (bAnd (sx xs x128) 63) ≤ (8 : Int) := ii f153 (r_eq (il 8) q582) (by decide) (by decide)
                          refine g_aload_n C rfl 1 rfl dL_law_654 ?_
                          refine g_aload_n C rfl 0 rfl dL_law_655 ?_
                          refine g_iload C 4 rfl dL_law_656 ?_
                          refine g_iconst C dL_law_658 ?_
                          have f585 : (1 : Int) ≤ (x128 + 1) ∧ (x128 + 1) ≤ (4089 : Int) := ia_add f150 (il 1) (by decide) (by decide)
                          refine g_iadd C dL_law_659 ?_
                          refine g_sld C hX hbl hbz (by omega) (by omega) dL_law_660 ?_
                          have f586 : (-2147483648 : Int) ≤ (sx xs (x128 + 1)) ∧ (sx xs (x128 + 1)) ≤ (2147483647 : Int) := inR_of _
                          refine g_callI (st := []) (gc_V C lk_LandSurveyLaw_68 (k_X11_withdraw l D cy w z0 O133 e143 f586 p136) e143 rfl rfl rfl ⟨by decide, by decide⟩ (Nat.le_of_ble_eq_true rfl) dL_law_661 ⟨(by show _ ≤ 601024; omega), (by show _ ≤ 7293034; omega)⟩) (fun r587 h588 f590 K589 => ?_)
                          obtain ⟨O591, F592, f593, p594⟩ := K589
                          refine g_pop C rfl dL_law_664 ?_
                          refine g_aload_n C rfl 2 rfl dL_law_665 ?_
                          refine g_aload_n C rfl 0 rfl dL_law_666 ?_
                          refine g_iload C 4 rfl dL_law_667 ?_
                          refine g_iconst C dL_law_669 ?_
                          refine g_iadd C dL_law_670 ?_
                          refine g_sld C hX hbl hbz (by omega) (by omega) dL_law_671 ?_
                          have e595 : Tg h116 n33 = 12 := (pT_T hh115)
                          have e596 : Tg h588 n33 = 12 := (fxT F592 (fxT F134 ((pNT hh125 (pN_n hh125 z124 e595)).trans e595)))
                          refine g_callI (st := []) (gc_V C lk_LandSurveyLaw_71 (k_X12_withdraw l D cy w z0 O591 e596 f586) e596 rfl rfl rfl ⟨by decide, by decide⟩ (Nat.le_of_ble_eq_true rfl) dL_law_672 ⟨(by show _ ≤ 601024; omega), (by show _ ≤ 7293034; omega)⟩) (fun r597 h598 f600 K599 => ?_)
                          obtain ⟨O601, F602, f603⟩ := K599
                          refine g_pop C rfl dL_law_675 ?_
                          refine g_goto C 1896 (by decide) dL_law_676 ?_
                          have f604 : (8 : Int) ≤ (x128 + 8) ∧ (x128 + 8) ≤ (4096 : Int) := ia_add f150 (il 8) (by decide) (by decide)
                          refine g_iinc C [(4, .inl (x128 + 8)), (0, .inr (.inr (b + 1))), (1, .inr (.inr n1)), (2, .inr (.inr n33)), (3, .inr (.inr n122))] 4 rfl (by decide) rfl dL_law_1896 ?_
                          refine g_goto C 23 (by decide) dL_law_1899 ?_
                          refine GW.sub [1, 2, 3, 4, 0] rfl ?_
                          have e605 : Tg h588 n1 = 11 := (fxT F592 e143)
                          have p606 := (XInv_fx O591 F602 e605 rfl p594)
                          have e607 : Tg h116 n33 = 12 := (pT_T hh115)
                          have e608 : Tg h129 n33 = 12 := (fxT F134 ((pNT hh125 (pN_n hh125 z124 e607)).trans e607))
                          have p609 := (MInv_fx O591 F602 e596 rfl (MInv_fx O133 F592 e608 rfl p137))
                          have e610 : Iv h598 n1 0 = v141 := ((fxI F602 e605 rfl).trans ((fxI F592 e143 rfl).trans e142))
                          have e611 : Iv h598 n33 33 = v141 := ((fxI F602 e596 rfl).trans ((fxI F592 e608 rfl).trans e145))
                          refine GW.widen (by omega : _ ≤ 12 * (x128 + 8).toNat + 119) (by omega : _ ≤ 804 * (x128 + 8).toNat + 52115) ?_
                          exact ih131 _ (by omega) (x128 + 8) h598 rfl O601 ((F134.call F592 rfl).call F602 rfl) (iw f604 (by decide) (by decide)) p606 p609 (e610.trans (Eq.symm e611))
                        · rcases Classical.em ((bAnd (sx xs x128) 63) = 9) with q612 | q613
                          · refine g_tin (kv := 9) C q612 (by decide) 679 (by decide) (by decide) rfl (by decide) dL_law_40 ?_
                            have f614 : (9 : Int) ≤ (bAnd (sx xs x128) 63) ∧ (bAnd (sx xs x128) 63) ≤ (9 : Int) := ii f153 (r_eq (il 9) q612) (by decide) (by decide)
                            refine g_aload_n C rfl 1 rfl dL_law_679 ?_
                            refine g_aload_n C rfl 0 rfl dL_law_680 ?_
                            refine g_iload C 4 rfl dL_law_681 ?_
                            refine g_iconst C dL_law_683 ?_
                            have f615 : (1 : Int) ≤ (x128 + 1) ∧ (x128 + 1) ≤ (4089 : Int) := ia_add f150 (il 1) (by decide) (by decide)
                            refine g_iadd C dL_law_684 ?_
                            refine g_sld C hX hbl hbz (by omega) (by omega) dL_law_685 ?_
                            have f616 : (-2147483648 : Int) ≤ (sx xs (x128 + 1)) ∧ (sx xs (x128 + 1)) ≤ (2147483647 : Int) := inR_of _
                            refine g_i2l C f616 dL_law_686 ?_
                            refine g_bipush C (by decide) dL_law_687 ?_
                            refine g_lshl C dL_law_689 ?_
                            have f617 : (-9223372036854775808 : Int) ≤ (lShl (sx xs (x128 + 1)) 32) ∧ (lShl (sx xs (x128 + 1)) 32) ≤ (9223372036854775807 : Int) := inL_of _
                            refine g_aload_n C rfl 0 rfl dL_law_690 ?_
                            refine g_iload C 4 rfl dL_law_691 ?_
                            refine g_iconst C dL_law_693 ?_
                            have f618 : (2 : Int) ≤ (x128 + 2) ∧ (x128 + 2) ≤ (4090 : Int) := ia_add f150 (il 2) (by decide) (by decide)
                            refine g_iadd C dL_law_694 ?_
                            refine g_sld C hX hbl hbz (by omega) (by omega) dL_law_695 ?_
                            have f619 : (-2147483648 : Int) ≤ (sx xs (x128 + 2)) ∧ (sx xs (x128 + 2)) ≤ (2147483647 : Int) := inR_of _
                            refine g_i2l C f619 dL_law_696 ?_
                            refine g_ldc2 (z := 4294967295) C kw_2263 (by decide) dL_law_697 ?_
                            refine g_land C dL_law_700 ?_
                            have f620 : (-9223372036854775808 : Int) ≤ (lAnd (sx xs (x128 + 2)) 4294967295) ∧ (lAnd (sx xs (x128 + 2)) 4294967295) ≤ (9223372036854775807 : Int) := inL_of _
                            refine g_lor C dL_law_701 ?_
                            have f621 : (-9223372036854775808 : Int) ≤ (lOr (lShl (sx xs (x128 + 1)) 32) (lAnd (sx xs (x128 + 2)) 4294967295)) ∧ (lOr (lShl (sx xs (x128 + 1)) 32) (lAnd (sx xs (x128 + 2)) 4294967295)) ≤ (9223372036854775807 : Int) := inL_of _
                            refine g_aload_n C rfl 0 rfl dL_law_702 ?_
                            refine g_iload C 4 rfl dL_law_703 ?_
                            refine g_iconst C dL_law_705 ?_
                            have f622 : (3 : Int) ≤ (x128 + 3) ∧ (x128 + 3) ≤ (4091 : Int) := ia_add f150 (il 3) (by decide) (by decide)
                            refine g_iadd C dL_law_706 ?_
                            refine g_sld C hX hbl hbz (by omega) (by omega) dL_law_707 ?_
                            have f623 : (-2147483648 : Int) ≤ (sx xs (x128 + 3)) ∧ (sx xs (x128 + 3)) ≤ (2147483647 : Int) := inR_of _
                            refine g_i2l C f623 dL_law_708 ?_
                            refine g_bipush C (by decide) dL_law_709 ?_
                            refine g_lshl C dL_law_711 ?_
                            have f624 : (-9223372036854775808 : Int) ≤ (lShl (sx xs (x128 + 3)) 32) ∧ (lShl (sx xs (x128 + 3)) 32) ≤ (9223372036854775807 : Int) := inL_of _
                            refine g_aload_n C rfl 0 rfl dL_law_712 ?_
                            refine g_iload C 4 rfl dL_law_713 ?_
                            refine g_iconst C dL_law_715 ?_
                            have f625 : (4 : Int) ≤ (x128 + 4) ∧ (x128 + 4) ≤ (4092 : Int) := ia_add f150 (il 4) (by decide) (by decide)
                            refine g_iadd C dL_law_716 ?_
                            refine g_sld C hX hbl hbz (by omega) (by omega) dL_law_717 ?_
                            have f626 : (-2147483648 : Int) ≤ (sx xs (x128 + 4)) ∧ (sx xs (x128 + 4)) ≤ (2147483647 : Int) := inR_of _
                            refine g_i2l C f626 dL_law_718 ?_
                            refine g_ldc2 (z := 4294967295) C kw_2263 (by decide) dL_law_719 ?_
                            refine g_land C dL_law_722 ?_
                            have f627 : (-9223372036854775808 : Int) ≤ (lAnd (sx xs (x128 + 4)) 4294967295) ∧ (lAnd (sx xs (x128 + 4)) 4294967295) ≤ (9223372036854775807 : Int) := inL_of _
                            refine g_lor C dL_law_723 ?_
                            have f628 : (-9223372036854775808 : Int) ≤ (lOr (lShl (sx xs (x128 + 3)) 32) (lAnd (sx xs (x128 + 4)) 4294967295)) ∧ (lOr (lShl (sx xs (x128 + 3)) 32) (lAnd (sx xs (x128 + 4)) 4294967295)) ≤ (9223372036854775807 : Int) := inL_of _
                            refine g_aload_n C rfl 0 rfl dL_law_724 ?_
                            refine g_iload C 4 rfl dL_law_725 ?_
                            refine g_iconst C dL_law_727 ?_
                            have f629 : (5 : Int) ≤ (x128 + 5) ∧ (x128 + 5) ≤ (4093 : Int) := ia_add f150 (il 5) (by decide) (by decide)
                            refine g_iadd C dL_law_728 ?_
                            refine g_sld C hX hbl hbz (by omega) (by omega) dL_law_729 ?_
                            have f630 : (-2147483648 : Int) ≤ (sx xs (x128 + 5)) ∧ (sx xs (x128 + 5)) ≤ (2147483647 : Int) := inR_of _
                            refine g_i2l C f630 dL_law_730 ?_
                            refine g_bipush C (by decide) dL_law_731 ?_
                            refine g_lshl C dL_law_733 ?_
                            have f631 : (-9223372036854775808 : Int) ≤ (lShl (sx xs (x128 + 5)) 32) ∧ (lShl (sx xs (x128 + 5)) 32) ≤ (9223372036854775807 : Int) := inL_of _
                            refine g_aload_n C rfl 0 rfl dL_law_734 ?_
                            refine g_iload C 4 rfl dL_law_735 ?_
                            refine g_bipush C (by decide) dL_law_737 ?_
                            have f632 : (6 : Int) ≤ (x128 + 6) ∧ (x128 + 6) ≤ (4094 : Int) := ia_add f150 (il 6) (by decide) (by decide)
                            refine g_iadd C dL_law_739 ?_
                            refine g_sld C hX hbl hbz (by omega) (by omega) dL_law_740 ?_
                            have f633 : (-2147483648 : Int) ≤ (sx xs (x128 + 6)) ∧ (sx xs (x128 + 6)) ≤ (2147483647 : Int) := inR_of _
                            refine g_i2l C f633 dL_law_741 ?_
                            refine g_ldc2 (z := 4294967295) C kw_2263 (by decide) dL_law_742 ?_
                            refine g_land C dL_law_745 ?_
                            have f634 : (-9223372036854775808 : Int) ≤ (lAnd (sx xs (x128 + 6)) 4294967295) ∧ (lAnd (sx xs (x128 + 6)) 4294967295) ≤ (9223372036854775807 : Int) := inL_of _
                            refine g_lor C dL_law_746 ?_
                            have f635 : (-9223372036854775808 : Int) ≤ (lOr (lShl (sx xs (x128 + 5)) 32) (lAnd (sx xs (x128 + 6)) 4294967295)) ∧ (lOr (lShl (sx xs (x128 + 5)) 32) (lAnd (sx xs (x128 + 6)) 4294967295)) ≤ (9223372036854775807 : Int) := inL_of _
                            refine g_callI (st := []) (gc_V C lk_LandSurveyLaw_74 (k_X11_feed l D cy w z0 O133 e143 f621 f628 f635) e143 rfl rfl rfl ⟨by decide, by decide⟩ (Nat.le_of_ble_eq_true rfl) dL_law_747 ⟨(by show _ ≤ 601024; omega), (by show _ ≤ 7293034; omega)⟩) (fun r636 h637 f639 K638 => ?_)
                            obtain ⟨O640, F641, f642⟩ := K638
                            refine g_pop C rfl dL_law_750 ?_
                            refine g_aload_n C rfl 2 rfl dL_law_751 ?_
                            refine g_aload_n C rfl 0 rfl dL_law_752 ?_
                            refine g_iload C 4 rfl dL_law_753 ?_
                            refine g_iconst C dL_law_755 ?_
                            refine g_iadd C dL_law_756 ?_
                            refine g_sld C hX hbl hbz (by omega) (by omega) dL_law_757 ?_
                            refine g_i2l C f616 dL_law_758 ?_
                            refine g_bipush C (by decide) dL_law_759 ?_
                            refine g_lshl C dL_law_761 ?_
                            refine g_aload_n C rfl 0 rfl dL_law_762 ?_
                            refine g_iload C 4 rfl dL_law_763 ?_
                            refine g_iconst C dL_law_765 ?_
                            refine g_iadd C dL_law_766 ?_
                            refine g_sld C hX hbl hbz (by omega) (by omega) dL_law_767 ?_
                            refine g_i2l C f619 dL_law_768 ?_
                            refine g_ldc2 (z := 4294967295) C kw_2263 (by decide) dL_law_769 ?_
                            refine g_land C dL_law_772 ?_
                            refine g_lor C dL_law_773 ?_
                            refine g_aload_n C rfl 0 rfl dL_law_774 ?_
                            refine g_iload C 4 rfl dL_law_775 ?_
                            refine g_iconst C dL_law_777 ?_
                            refine g_iadd C dL_law_778 ?_
                            refine g_sld C hX hbl hbz (by omega) (by omega) dL_law_779 ?_
                            refine g_i2l C f623 dL_law_780 ?_
                            refine g_bipush C (by decide) dL_law_781 ?_
                            refine g_lshl C dL_law_783 ?_
                            refine g_aload_n C rfl 0 rfl dL_law_784 ?_
                            refine g_iload C 4 rfl dL_law_785 ?_
                            refine g_iconst C dL_law_787 ?_
                            refine g_iadd C dL_law_788 ?_
                            refine g_sld C hX hbl hbz (by omega) (by omega) dL_law_789 ?_
                            refine g_i2l C f626 dL_law_790 ?_
                            refine g_ldc2 (z := 4294967295) C kw_2263 (by decide) dL_law_791 ?_
                            refine g_land C dL_law_794 ?_
                            refine g_lor C dL_law_795 ?_
                            refine g_aload_n C rfl 0 rfl dL_law_796 ?_
                            refine g_iload C 4 rfl dL_law_797 ?_
                            refine g_iconst C dL_law_799 ?_
                            refine g_iadd C dL_law_800 ?_
                            refine g_sld C hX hbl hbz (by omega) (by omega) dL_law_801 ?_
                            refine g_i2l C f630 dL_law_802 ?_
                            refine g_bipush C (by decide) dL_law_803 ?_
                            refine g_lshl C dL_law_805 ?_
                            refine g_aload_n C rfl 0 rfl dL_law_806 ?_
                            refine g_iload C 4 rfl dL_law_807 ?_
                            refine g_bipush C (by decide) dL_law_809 ?_
                            refine g_iadd C dL_law_811 ?_
                            refine g_sld C hX hbl hbz (by omega) (by omega) dL_law_812 ?_
                            refine g_i2l C f633 dL_law_813 ?_
                            refine g_ldc2 (z := 4294967295) C kw_2263 (by decide) dL_law_814 ?_
                            refine g_land C dL_law_817 ?_
                            refine g_lor C dL_law_818 ?_
                            have e643 : Tg h116 n33 = 12 := (pT_T hh115)
                            have e644 : Tg h637 n33 = 12 := (fxT F641 (fxT F134 ((pNT hh125 (pN_n hh125 z124 e643)).trans e643)))
                            refine g_callI (st := []) (gc_V C lk_LandSurveyLaw_78 (k_X12_feed l D cy w z0 O640 e644 f621 f628 f635) e644 rfl rfl rfl ⟨by decide, by decide⟩ (Nat.le_of_ble_eq_true rfl) dL_law_819 ⟨(by show _ ≤ 601024; omega), (by show _ ≤ 7293034; omega)⟩) (fun r645 h646 f648 K647 => ?_)
                            obtain ⟨O649, F650, f651⟩ := K647
                            refine g_pop C rfl dL_law_822 ?_
                            refine g_goto C 1896 (by decide) dL_law_823 ?_
                            have f652 : (8 : Int) ≤ (x128 + 8) ∧ (x128 + 8) ≤ (4096 : Int) := ia_add f150 (il 8) (by decide) (by decide)
                            refine g_iinc C [(4, .inl (x128 + 8)), (0, .inr (.inr (b + 1))), (1, .inr (.inr n1)), (2, .inr (.inr n33)), (3, .inr (.inr n122))] 4 rfl (by decide) rfl dL_law_1896 ?_
                            refine g_goto C 23 (by decide) dL_law_1899 ?_
                            refine GW.sub [1, 2, 3, 4, 0] rfl ?_
                            have e653 : Tg h637 n1 = 11 := (fxT F641 e143)
                            have p654 := (XInv_fx O640 F650 e653 rfl (XInv_fx O133 F641 e143 rfl p136))
                            have e655 : Tg h116 n33 = 12 := (pT_T hh115)
                            have e656 : Tg h129 n33 = 12 := (fxT F134 ((pNT hh125 (pN_n hh125 z124 e655)).trans e655))
                            have p657 := (MInv_fx O640 F650 e644 rfl (MInv_fx O133 F641 e656 rfl p137))
                            have e658 : Iv h646 n1 0 = v141 := ((fxI F650 e653 rfl).trans ((fxI F641 e143 rfl).trans e142))
                            have e659 : Iv h646 n33 33 = v141 := ((fxI F650 e644 rfl).trans ((fxI F641 e656 rfl).trans e145))
                            refine GW.widen (by omega : _ ≤ 12 * (x128 + 8).toNat + 119) (by omega : _ ≤ 804 * (x128 + 8).toNat + 52115) ?_
                            exact ih131 _ (by omega) (x128 + 8) h646 rfl O649 ((F134.call F641 rfl).call F650 rfl) (iw f652 (by decide) (by decide)) p654 p657 (e658.trans (Eq.symm e659))
                          · rcases Classical.em ((bAnd (sx xs x128) 63) = 10) with q660 | q661
                            · refine g_tin (kv := 10) C q660 (by decide) 826 (by decide) (by decide) rfl (by decide) dL_law_40 ?_
                              have f662 : (10 : Int) ≤ (bAnd (sx xs x128) 63) ∧ (bAnd (sx xs x128) 63) ≤ (10 : Int) := ii f153 (r_eq (il 10) q660) (by decide) (by decide)
                              refine g_aload_n C rfl 1 rfl dL_law_826 ?_
                              refine g_callI (st := []) (gc_V C lk_LandSurveyLaw_79 (k_X11_rules l D cy w z0 O133 e143 p136) e143 rfl rfl rfl ⟨by decide, by decide⟩ (Nat.le_of_ble_eq_true rfl) dL_law_827 ⟨(by show _ ≤ 601024; omega), (by show _ ≤ 7293034; omega)⟩) (fun r663 h664 f666 K665 => ?_)
                              obtain ⟨O667, F668, f669, p670⟩ := K665
                              refine g_pop C rfl dL_law_830 ?_
                              refine g_aload_n C rfl 2 rfl dL_law_831 ?_
                              have e671 : Tg h116 n33 = 12 := (pT_T hh115)
                              have e672 : Tg h664 n33 = 12 := (fxT F668 (fxT F134 ((pNT hh125 (pN_n hh125 z124 e671)).trans e671)))
                              have e673 : Tg h116 n33 = 12 := (pT_T hh115)
                              have e674 : Tg h129 n33 = 12 := (fxT F134 ((pNT hh125 (pN_n hh125 z124 e673)).trans e673))
                              have p675 := (MInv_fx O133 F668 e674 rfl p137)
                              refine g_callI (st := []) (gc_V C lk_LandSurveyLaw_83 (k_X12_rules l D cy w z0 O667 e672 p675) e672 rfl rfl rfl ⟨by decide, by decide⟩ (Nat.le_of_ble_eq_true rfl) dL_law_832 ⟨(by show _ ≤ 601024; omega), (by show _ ≤ 7293034; omega)⟩) (fun r676 h677 f679 K678 => ?_)
                              obtain ⟨O680, F681, f682, p683⟩ := K678
                              refine g_pop C rfl dL_law_835 ?_
                              refine g_goto C 1896 (by decide) dL_law_836 ?_
                              have f684 : (8 : Int) ≤ (x128 + 8) ∧ (x128 + 8) ≤ (4096 : Int) := ia_add f150 (il 8) (by decide) (by decide)
                              refine g_iinc C [(4, .inl (x128 + 8)), (0, .inr (.inr (b + 1))), (1, .inr (.inr n1)), (2, .inr (.inr n33)), (3, .inr (.inr n122))] 4 rfl (by decide) rfl dL_law_1896 ?_
                              refine g_goto C 23 (by decide) dL_law_1899 ?_
                              refine GW.sub [1, 2, 3, 4, 0] rfl ?_
                              have e685 : Tg h664 n1 = 11 := (fxT F668 e143)
                              have p686 := (XInv_fx O667 F681 e685 rfl p670)
                              have e687 : Iv h677 n1 0 = v141 := ((fxI F681 e685 rfl).trans ((fxI F668 e143 rfl).trans e142))
                              have e688 : Iv h677 n33 33 = v141 := ((fxI F681 e672 rfl).trans ((fxI F668 e674 rfl).trans e145))
                              refine GW.widen (by omega : _ ≤ 12 * (x128 + 8).toNat + 119) (by omega : _ ≤ 804 * (x128 + 8).toNat + 52115) ?_
                              exact ih131 _ (by omega) (x128 + 8) h677 rfl O680 ((F134.call F668 rfl).call F681 rfl) (iw f684 (by decide) (by decide)) p686 p683 (e687.trans (Eq.symm e688))
                            · rcases Classical.em ((bAnd (sx xs x128) 63) = 11) with q689 | q690
                              · refine g_tin (kv := 11) C q689 (by decide) 839 (by decide) (by decide) rfl (by decide) dL_law_40 ?_
                                have f691 : (11 : Int) ≤ (bAnd (sx xs x128) 63) ∧ (bAnd (sx xs x128) 63) ≤ (11 : Int) := ii f153 (r_eq (il 11) q689) (by decide) (by decide)
                                refine g_aload_n C rfl 1 rfl dL_law_839 ?_
                                refine g_aload_n C rfl 0 rfl dL_law_840 ?_
                                refine g_iload C 4 rfl dL_law_841 ?_
                                refine g_iconst C dL_law_843 ?_
                                have f692 : (1 : Int) ≤ (x128 + 1) ∧ (x128 + 1) ≤ (4089 : Int) := ia_add f150 (il 1) (by decide) (by decide)
                                refine g_iadd C dL_law_844 ?_
                                refine g_sld C hX hbl hbz (by omega) (by omega) dL_law_845 ?_
                                have f693 : (-2147483648 : Int) ≤ (sx xs (x128 + 1)) ∧ (sx xs (x128 + 1)) ≤ (2147483647 : Int) := inR_of _
                                refine g_aload_n C rfl 0 rfl dL_law_846 ?_
                                refine g_iload C 4 rfl dL_law_847 ?_
                                refine g_iconst C dL_law_849 ?_
                                have f694 : (2 : Int) ≤ (x128 + 2) ∧ (x128 + 2) ≤ (4090 : Int) := ia_add f150 (il 2) (by decide) (by decide)
                                refine g_iadd C dL_law_850 ?_
                                refine g_sld C hX hbl hbz (by omega) (by omega) dL_law_851 ?_
                                have f695 : (-2147483648 : Int) ≤ (sx xs (x128 + 2)) ∧ (sx xs (x128 + 2)) ≤ (2147483647 : Int) := inR_of _
                                refine g_aload_n C rfl 0 rfl dL_law_852 ?_
                                refine g_iload C 4 rfl dL_law_853 ?_
                                refine g_iconst C dL_law_855 ?_
                                have f696 : (3 : Int) ≤ (x128 + 3) ∧ (x128 + 3) ≤ (4091 : Int) := ia_add f150 (il 3) (by decide) (by decide)
                                refine g_iadd C dL_law_856 ?_
                                refine g_sld C hX hbl hbz (by omega) (by omega) dL_law_857 ?_
                                have f697 : (-2147483648 : Int) ≤ (sx xs (x128 + 3)) ∧ (sx xs (x128 + 3)) ≤ (2147483647 : Int) := inR_of _
                                refine g_if_eq C f697 865 (by decide) dL_law_858 (fun q698 => ?_) (fun q699 => ?_)
                                · have f700 : (0 : Int) ≤ (sx xs (x128 + 3)) ∧ (sx xs (x128 + 3)) ≤ (0 : Int) := ii f697 (r_eq (il 0) q698) (by decide) (by decide)
                                  refine g_iconst C dL_law_865 ?_
                                  refine g_aload_n C rfl 0 rfl dL_law_866 ?_
                                  refine g_iload C 4 rfl dL_law_867 ?_
                                  refine g_iconst C dL_law_869 ?_
                                  have f701 : (4 : Int) ≤ (x128 + 4) ∧ (x128 + 4) ≤ (4092 : Int) := ia_add f150 (il 4) (by decide) (by decide)
                                  refine g_iadd C dL_law_870 ?_
                                  refine g_sld C hX hbl hbz (by omega) (by omega) dL_law_871 ?_
                                  have f702 : (-2147483648 : Int) ≤ (sx xs (x128 + 4)) ∧ (sx xs (x128 + 4)) ≤ (2147483647 : Int) := inR_of _
                                  refine g_aload_n C rfl 0 rfl dL_law_872 ?_
                                  refine g_iload C 4 rfl dL_law_873 ?_
                                  refine g_iconst C dL_law_875 ?_
                                  have f703 : (5 : Int) ≤ (x128 + 5) ∧ (x128 + 5) ≤ (4093 : Int) := ia_add f150 (il 5) (by decide) (by decide)
                                  refine g_iadd C dL_law_876 ?_
                                  refine g_sld C hX hbl hbz (by omega) (by omega) dL_law_877 ?_
                                  have f704 : (-2147483648 : Int) ≤ (sx xs (x128 + 5)) ∧ (sx xs (x128 + 5)) ≤ (2147483647 : Int) := inR_of _
                                  refine g_aload_n C rfl 0 rfl dL_law_878 ?_
                                  refine g_iload C 4 rfl dL_law_879 ?_
                                  refine g_bipush C (by decide) dL_law_881 ?_
                                  have f705 : (6 : Int) ≤ (x128 + 6) ∧ (x128 + 6) ≤ (4094 : Int) := ia_add f150 (il 6) (by decide) (by decide)
                                  refine g_iadd C dL_law_883 ?_
                                  refine g_sld C hX hbl hbz (by omega) (by omega) dL_law_884 ?_
                                  have f706 : (-2147483648 : Int) ≤ (sx xs (x128 + 6)) ∧ (sx xs (x128 + 6)) ≤ (2147483647 : Int) := inR_of _
                                  refine g_aload_n C rfl 0 rfl dL_law_885 ?_
                                  refine g_iload C 4 rfl dL_law_886 ?_
                                  refine g_bipush C (by decide) dL_law_888 ?_
                                  have f707 : (7 : Int) ≤ (x128 + 7) ∧ (x128 + 7) ≤ (4095 : Int) := ia_add f150 (il 7) (by decide) (by decide)
                                  refine g_iadd C dL_law_890 ?_
                                  refine g_sld C hX hbl hbz (by omega) (by omega) dL_law_891 ?_
                                  have f708 : (-2147483648 : Int) ≤ (sx xs (x128 + 7)) ∧ (sx xs (x128 + 7)) ≤ (2147483647 : Int) := inR_of _
                                  refine g_callI (st := []) (gc_V C lk_LandSurveyLaw_84 (k_X11_fault l D cy w z0 O133 e143 f693 f695 (iw (il 0) (by decide) (by decide)) f702 f704 f706 f708 p136) e143 rfl rfl rfl ⟨by decide, by decide⟩ (Nat.le_of_ble_eq_true rfl) dL_law_892 ⟨(by show _ ≤ 601024; omega), (by show _ ≤ 7293034; omega)⟩) (fun r709 h710 f712 K711 => ?_)
                                  obtain ⟨O713, F714, f715, p716⟩ := K711
                                  refine g_pop C rfl dL_law_895 ?_
                                  refine g_aload_n C rfl 2 rfl dL_law_896 ?_
                                  refine g_aload_n C rfl 0 rfl dL_law_897 ?_
                                  refine g_iload C 4 rfl dL_law_898 ?_
                                  refine g_iconst C dL_law_900 ?_
                                  refine g_iadd C dL_law_901 ?_
                                  refine g_sld C hX hbl hbz (by omega) (by omega) dL_law_902 ?_
                                  refine g_aload_n C rfl 0 rfl dL_law_903 ?_
                                  refine g_iload C 4 rfl dL_law_904 ?_
                                  refine g_iconst C dL_law_906 ?_
                                  refine g_iadd C dL_law_907 ?_
                                  refine g_sld C hX hbl hbz (by omega) (by omega) dL_law_908 ?_
                                  refine g_aload_n C rfl 0 rfl dL_law_909 ?_
                                  refine g_iload C 4 rfl dL_law_910 ?_
                                  refine g_iconst C dL_law_912 ?_
                                  refine g_iadd C dL_law_913 ?_
                                  refine g_sld C hX hbl hbz (by omega) (by omega) dL_law_914 ?_
                                  refine g_if_eq C (iw f700 (by decide) (by decide)) 922 (by decide) dL_law_915 (fun q717 => ?_) (fun q718 => ?_)
                                  · refine g_iconst C dL_law_922 ?_
                                    refine g_aload_n C rfl 0 rfl dL_law_923 ?_
                                    refine g_iload C 4 rfl dL_law_924 ?_
                                    refine g_iconst C dL_law_926 ?_
                                    refine g_iadd C dL_law_927 ?_
                                    refine g_sld C hX hbl hbz (by omega) (by omega) dL_law_928 ?_
                                    refine g_aload_n C rfl 0 rfl dL_law_929 ?_
                                    refine g_iload C 4 rfl dL_law_930 ?_
                                    refine g_iconst C dL_law_932 ?_
                                    refine g_iadd C dL_law_933 ?_
                                    refine g_sld C hX hbl hbz (by omega) (by omega) dL_law_934 ?_
                                    refine g_aload_n C rfl 0 rfl dL_law_935 ?_
                                    refine g_iload C 4 rfl dL_law_936 ?_
                                    refine g_bipush C (by decide) dL_law_938 ?_
                                    refine g_iadd C dL_law_940 ?_
                                    refine g_sld C hX hbl hbz (by omega) (by omega) dL_law_941 ?_
                                    refine g_aload_n C rfl 0 rfl dL_law_942 ?_
                                    refine g_iload C 4 rfl dL_law_943 ?_
                                    refine g_bipush C (by decide) dL_law_945 ?_
                                    refine g_iadd C dL_law_947 ?_
                                    refine g_sld C hX hbl hbz (by omega) (by omega) dL_law_948 ?_
                                    have e719 : Tg h116 n33 = 12 := (pT_T hh115)
                                    have e720 : Tg h710 n33 = 12 := (fxT F714 (fxT F134 ((pNT hh125 (pN_n hh125 z124 e719)).trans e719)))
                                    refine g_callI (st := []) (gc_V C lk_LandSurveyLaw_88 (k_X12_fault l D cy w z0 O713 e720 f693 f695 (iw (il 0) (by decide) (by decide)) f702 f704 f706 f708) e720 rfl rfl rfl ⟨by decide, by decide⟩ (Nat.le_of_ble_eq_true rfl) dL_law_949 ⟨(by show _ ≤ 601024; omega), (by show _ ≤ 7293034; omega)⟩) (fun r721 h722 f724 K723 => ?_)
                                    obtain ⟨O725, F726, f727⟩ := K723
                                    refine g_pop C rfl dL_law_952 ?_
                                    refine g_goto C 1896 (by decide) dL_law_953 ?_
                                    have f728 : (8 : Int) ≤ (x128 + 8) ∧ (x128 + 8) ≤ (4096 : Int) := ia_add f150 (il 8) (by decide) (by decide)
                                    refine g_iinc C [(4, .inl (x128 + 8)), (0, .inr (.inr (b + 1))), (1, .inr (.inr n1)), (2, .inr (.inr n33)), (3, .inr (.inr n122))] 4 rfl (by decide) rfl dL_law_1896 ?_
                                    refine g_goto C 23 (by decide) dL_law_1899 ?_
                                    refine GW.sub [1, 2, 3, 4, 0] rfl ?_
                                    have e729 : Tg h710 n1 = 11 := (fxT F714 e143)
                                    have p730 := (XInv_fx O713 F726 e729 rfl p716)
                                    have e731 : Tg h116 n33 = 12 := (pT_T hh115)
                                    have e732 : Tg h129 n33 = 12 := (fxT F134 ((pNT hh125 (pN_n hh125 z124 e731)).trans e731))
                                    have p733 := (MInv_fx O713 F726 e720 rfl (MInv_fx O133 F714 e732 rfl p137))
                                    have e734 : Iv h722 n1 0 = v141 := ((fxI F726 e729 rfl).trans ((fxI F714 e143 rfl).trans e142))
                                    have e735 : Iv h722 n33 33 = v141 := ((fxI F726 e720 rfl).trans ((fxI F714 e732 rfl).trans e145))
                                    refine GW.widen (by omega : _ ≤ 12 * (x128 + 8).toNat + 119) (by omega : _ ≤ 804 * (x128 + 8).toNat + 52115) ?_
                                    exact ih131 _ (by omega) (x128 + 8) h722 rfl O725 ((F134.call F714 rfl).call F726 rfl) (iw f728 (by decide) (by decide)) p730 p733 (e734.trans (Eq.symm e735))
                                  · exact (no_ne f700 (il 0) q718 (by decide)).elim
                                · refine g_iconst C dL_law_861 ?_
                                  refine g_goto C 866 (by decide) dL_law_862 ?_
                                  refine g_aload_n C rfl 0 rfl dL_law_866 ?_
                                  refine g_iload C 4 rfl dL_law_867 ?_
                                  refine g_iconst C dL_law_869 ?_
                                  have f736 : (4 : Int) ≤ (x128 + 4) ∧ (x128 + 4) ≤ (4092 : Int) := ia_add f150 (il 4) (by decide) (by decide)
                                  refine g_iadd C dL_law_870 ?_
                                  refine g_sld C hX hbl hbz (by omega) (by omega) dL_law_871 ?_
                                  have f737 : (-2147483648 : Int) ≤ (sx xs (x128 + 4)) ∧ (sx xs (x128 + 4)) ≤ (2147483647 : Int) := inR_of _
                                  refine g_aload_n C rfl 0 rfl dL_law_872 ?_
                                  refine g_iload C 4 rfl dL_law_873 ?_
                                  refine g_iconst C dL_law_875 ?_
                                  have f738 : (5 : Int) ≤ (x128 + 5) ∧ (x128 + 5) ≤ (4093 : Int) := ia_add f150 (il 5) (by decide) (by decide)
                                  refine g_iadd C dL_law_876 ?_
                                  refine g_sld C hX hbl hbz (by omega) (by omega) dL_law_877 ?_
                                  have f739 : (-2147483648 : Int) ≤ (sx xs (x128 + 5)) ∧ (sx xs (x128 + 5)) ≤ (2147483647 : Int) := inR_of _
                                  refine g_aload_n C rfl 0 rfl dL_law_878 ?_
                                  refine g_iload C 4 rfl dL_law_879 ?_
                                  refine g_bipush C (by decide) dL_law_881 ?_
                                  have f740 : (6 : Int) ≤ (x128 + 6) ∧ (x128 + 6) ≤ (4094 : Int) := ia_add f150 (il 6) (by decide) (by decide)
                                  refine g_iadd C dL_law_883 ?_
                                  refine g_sld C hX hbl hbz (by omega) (by omega) dL_law_884 ?_
                                  have f741 : (-2147483648 : Int) ≤ (sx xs (x128 + 6)) ∧ (sx xs (x128 + 6)) ≤ (2147483647 : Int) := inR_of _
                                  refine g_aload_n C rfl 0 rfl dL_law_885 ?_
                                  refine g_iload C 4 rfl dL_law_886 ?_
                                  refine g_bipush C (by decide) dL_law_888 ?_
                                  have f742 : (7 : Int) ≤ (x128 + 7) ∧ (x128 + 7) ≤ (4095 : Int) := ia_add f150 (il 7) (by decide) (by decide)
                                  refine g_iadd C dL_law_890 ?_
                                  refine g_sld C hX hbl hbz (by omega) (by omega) dL_law_891 ?_
                                  have f743 : (-2147483648 : Int) ≤ (sx xs (x128 + 7)) ∧ (sx xs (x128 + 7)) ≤ (2147483647 : Int) := inR_of _
                                  refine g_callI (st := []) (gc_V C lk_LandSurveyLaw_84 (k_X11_fault l D cy w z0 O133 e143 f693 f695 (iw (il 1) (by decide) (by decide)) f737 f739 f741 f743 p136) e143 rfl rfl rfl ⟨by decide, by decide⟩ (Nat.le_of_ble_eq_true rfl) dL_law_892 ⟨(by show _ ≤ 601024; omega), (by show _ ≤ 7293034; omega)⟩) (fun r744 h745 f747 K746 => ?_)
                                  obtain ⟨O748, F749, f750, p751⟩ := K746
                                  refine g_pop C rfl dL_law_895 ?_
                                  refine g_aload_n C rfl 2 rfl dL_law_896 ?_
                                  refine g_aload_n C rfl 0 rfl dL_law_897 ?_
                                  refine g_iload C 4 rfl dL_law_898 ?_
                                  refine g_iconst C dL_law_900 ?_
                                  refine g_iadd C dL_law_901 ?_
                                  refine g_sld C hX hbl hbz (by omega) (by omega) dL_law_902 ?_
                                  refine g_aload_n C rfl 0 rfl dL_law_903 ?_
                                  refine g_iload C 4 rfl dL_law_904 ?_
                                  refine g_iconst C dL_law_906 ?_
                                  refine g_iadd C dL_law_907 ?_
                                  refine g_sld C hX hbl hbz (by omega) (by omega) dL_law_908 ?_
                                  refine g_aload_n C rfl 0 rfl dL_law_909 ?_
                                  refine g_iload C 4 rfl dL_law_910 ?_
                                  refine g_iconst C dL_law_912 ?_
                                  refine g_iadd C dL_law_913 ?_
                                  refine g_sld C hX hbl hbz (by omega) (by omega) dL_law_914 ?_
                                  refine g_if_eq C f697 922 (by decide) dL_law_915 (fun q752 => ?_) (fun q753 => ?_)
                                  · have f754 : (0 : Int) ≤ (sx xs (x128 + 3)) ∧ (sx xs (x128 + 3)) ≤ (0 : Int) := ii f697 (r_eq (il 0) q752) (by decide) (by decide)
                                    refine g_iconst C dL_law_922 ?_
                                    refine g_aload_n C rfl 0 rfl dL_law_923 ?_
                                    refine g_iload C 4 rfl dL_law_924 ?_
                                    refine g_iconst C dL_law_926 ?_
                                    refine g_iadd C dL_law_927 ?_
                                    refine g_sld C hX hbl hbz (by omega) (by omega) dL_law_928 ?_
                                    refine g_aload_n C rfl 0 rfl dL_law_929 ?_
                                    refine g_iload C 4 rfl dL_law_930 ?_
                                    refine g_iconst C dL_law_932 ?_
                                    refine g_iadd C dL_law_933 ?_
                                    refine g_sld C hX hbl hbz (by omega) (by omega) dL_law_934 ?_
                                    refine g_aload_n C rfl 0 rfl dL_law_935 ?_
                                    refine g_iload C 4 rfl dL_law_936 ?_
                                    refine g_bipush C (by decide) dL_law_938 ?_
                                    refine g_iadd C dL_law_940 ?_
                                    refine g_sld C hX hbl hbz (by omega) (by omega) dL_law_941 ?_
                                    refine g_aload_n C rfl 0 rfl dL_law_942 ?_
                                    refine g_iload C 4 rfl dL_law_943 ?_
                                    refine g_bipush C (by decide) dL_law_945 ?_
                                    refine g_iadd C dL_law_947 ?_
                                    refine g_sld C hX hbl hbz (by omega) (by omega) dL_law_948 ?_
                                    have e755 : Tg h116 n33 = 12 := (pT_T hh115)
                                    have e756 : Tg h745 n33 = 12 := (fxT F749 (fxT F134 ((pNT hh125 (pN_n hh125 z124 e755)).trans e755)))
                                    refine g_callI (st := []) (gc_V C lk_LandSurveyLaw_88 (k_X12_fault l D cy w z0 O748 e756 f693 f695 (iw (il 0) (by decide) (by decide)) f737 f739 f741 f743) e756 rfl rfl rfl ⟨by decide, by decide⟩ (Nat.le_of_ble_eq_true rfl) dL_law_949 ⟨(by show _ ≤ 601024; omega), (by show _ ≤ 7293034; omega)⟩) (fun r757 h758 f760 K759 => ?_)
                                    obtain ⟨O761, F762, f763⟩ := K759
                                    refine g_pop C rfl dL_law_952 ?_
                                    refine g_goto C 1896 (by decide) dL_law_953 ?_
                                    have f764 : (8 : Int) ≤ (x128 + 8) ∧ (x128 + 8) ≤ (4096 : Int) := ia_add f150 (il 8) (by decide) (by decide)
                                    refine g_iinc C [(4, .inl (x128 + 8)), (0, .inr (.inr (b + 1))), (1, .inr (.inr n1)), (2, .inr (.inr n33)), (3, .inr (.inr n122))] 4 rfl (by decide) rfl dL_law_1896 ?_
                                    refine g_goto C 23 (by decide) dL_law_1899 ?_
                                    refine GW.sub [1, 2, 3, 4, 0] rfl ?_
                                    have e765 : Tg h745 n1 = 11 := (fxT F749 e143)
                                    have p766 := (XInv_fx O748 F762 e765 rfl p751)
                                    have e767 : Tg h116 n33 = 12 := (pT_T hh115)
                                    have e768 : Tg h129 n33 = 12 := (fxT F134 ((pNT hh125 (pN_n hh125 z124 e767)).trans e767))
                                    have p769 := (MInv_fx O748 F762 e756 rfl (MInv_fx O133 F749 e768 rfl p137))
                                    have e770 : Iv h758 n1 0 = v141 := ((fxI F762 e765 rfl).trans ((fxI F749 e143 rfl).trans e142))
                                    have e771 : Iv h758 n33 33 = v141 := ((fxI F762 e756 rfl).trans ((fxI F749 e768 rfl).trans e145))
                                    refine GW.widen (by omega : _ ≤ 12 * (x128 + 8).toNat + 119) (by omega : _ ≤ 804 * (x128 + 8).toNat + 52115) ?_
                                    exact ih131 _ (by omega) (x128 + 8) h758 rfl O761 ((F134.call F749 rfl).call F762 rfl) (iw f764 (by decide) (by decide)) p766 p769 (e770.trans (Eq.symm e771))
                                  · refine g_iconst C dL_law_918 ?_
                                    refine g_goto C 923 (by decide) dL_law_919 ?_
                                    refine g_aload_n C rfl 0 rfl dL_law_923 ?_
                                    refine g_iload C 4 rfl dL_law_924 ?_
                                    refine g_iconst C dL_law_926 ?_
                                    refine g_iadd C dL_law_927 ?_
                                    refine g_sld C hX hbl hbz (by omega) (by omega) dL_law_928 ?_
                                    refine g_aload_n C rfl 0 rfl dL_law_929 ?_
                                    refine g_iload C 4 rfl dL_law_930 ?_
                                    refine g_iconst C dL_law_932 ?_
                                    refine g_iadd C dL_law_933 ?_
                                    refine g_sld C hX hbl hbz (by omega) (by omega) dL_law_934 ?_
                                    refine g_aload_n C rfl 0 rfl dL_law_935 ?_
                                    refine g_iload C 4 rfl dL_law_936 ?_
                                    refine g_bipush C (by decide) dL_law_938 ?_
                                    refine g_iadd C dL_law_940 ?_
                                    refine g_sld C hX hbl hbz (by omega) (by omega) dL_law_941 ?_
                                    refine g_aload_n C rfl 0 rfl dL_law_942 ?_
                                    refine g_iload C 4 rfl dL_law_943 ?_
                                    refine g_bipush C (by decide) dL_law_945 ?_
                                    refine g_iadd C dL_law_947 ?_
                                    refine g_sld C hX hbl hbz (by omega) (by omega) dL_law_948 ?_
                                    have e772 : Tg h116 n33 = 12 := (pT_T hh115)
                                    have e773 : Tg h745 n33 = 12 := (fxT F749 (fxT F134 ((pNT hh125 (pN_n hh125 z124 e772)).trans e772)))
                                    refine g_callI (st := []) (gc_V C lk_LandSurveyLaw_88 (k_X12_fault l D cy w z0 O748 e773 f693 f695 (iw (il 1) (by decide) (by decide)) f737 f739 f741 f743) e773 rfl rfl rfl ⟨by decide, by decide⟩ (Nat.le_of_ble_eq_true rfl) dL_law_949 ⟨(by show _ ≤ 601024; omega), (by show _ ≤ 7293034; omega)⟩) (fun r774 h775 f777 K776 => ?_)
                                    obtain ⟨O778, F779, f780⟩ := K776
                                    refine g_pop C rfl dL_law_952 ?_
                                    refine g_goto C 1896 (by decide) dL_law_953 ?_
                                    have f781 : (8 : Int) ≤ (x128 + 8) ∧ (x128 + 8) ≤ (4096 : Int) := ia_add f150 (il 8) (by decide) (by decide)
                                    refine g_iinc C [(4, .inl (x128 + 8)), (0, .inr (.inr (b + 1))), (1, .inr (.inr n1)), (2, .inr (.inr n33)), (3, .inr (.inr n122))] 4 rfl (by decide) rfl dL_law_1896 ?_
                                    refine g_goto C 23 (by decide) dL_law_1899 ?_
                                    refine GW.sub [1, 2, 3, 4, 0] rfl ?_
                                    have e782 : Tg h745 n1 = 11 := (fxT F749 e143)
                                    have p783 := (XInv_fx O748 F779 e782 rfl p751)
                                    have e784 : Tg h116 n33 = 12 := (pT_T hh115)
                                    have e785 : Tg h129 n33 = 12 := (fxT F134 ((pNT hh125 (pN_n hh125 z124 e784)).trans e784))
                                    have p786 := (MInv_fx O748 F779 e773 rfl (MInv_fx O133 F749 e785 rfl p137))
                                    have e787 : Iv h775 n1 0 = v141 := ((fxI F779 e782 rfl).trans ((fxI F749 e143 rfl).trans e142))
                                    have e788 : Iv h775 n33 33 = v141 := ((fxI F779 e773 rfl).trans ((fxI F749 e785 rfl).trans e145))
                                    refine GW.widen (by omega : _ ≤ 12 * (x128 + 8).toNat + 119) (by omega : _ ≤ 804 * (x128 + 8).toNat + 52115) ?_
                                    exact ih131 _ (by omega) (x128 + 8) h775 rfl O778 ((F134.call F749 rfl).call F779 rfl) (iw f781 (by decide) (by decide)) p783 p786 (e787.trans (Eq.symm e788))
                              · rcases Classical.em ((bAnd (sx xs x128) 63) = 12) with q789 | q790
                                · refine g_tin (kv := 12) C q789 (by decide) 956 (by decide) (by decide) rfl (by decide) dL_law_40 ?_
                                  have f791 : (12 : Int) ≤ (bAnd (sx xs x128) 63) ∧ (bAnd (sx xs x128) 63) ≤ (12 : Int) := ii f153 (r_eq (il 12) q789) (by decide) (by decide)
                                  refine g_aload_n C rfl 1 rfl dL_law_956 ?_
                                  refine g_aload_n C rfl 0 rfl dL_law_957 ?_
                                  refine g_iload C 4 rfl dL_law_958 ?_
                                  refine g_iconst C dL_law_960 ?_
                                  have f792 : (1 : Int) ≤ (x128 + 1) ∧ (x128 + 1) ≤ (4089 : Int) := ia_add f150 (il 1) (by decide) (by decide)
                                  refine g_iadd C dL_law_961 ?_
                                  refine g_sld C hX hbl hbz (by omega) (by omega) dL_law_962 ?_
                                  have f793 : (-2147483648 : Int) ≤ (sx xs (x128 + 1)) ∧ (sx xs (x128 + 1)) ≤ (2147483647 : Int) := inR_of _
                                  refine g_callI (st := []) (gc_V C lk_LandSurveyLaw_89 (k_X11_rivalry l D cy w z0 O133 e143 f793) e143 rfl rfl rfl ⟨by decide, by decide⟩ (Nat.le_of_ble_eq_true rfl) dL_law_963 ⟨(by show _ ≤ 601024; omega), (by show _ ≤ 7293034; omega)⟩) (fun r794 h795 f797 K796 => ?_)
                                  obtain ⟨O798, F799, f800⟩ := K796
                                  refine g_pop C rfl dL_law_966 ?_
                                  refine g_aload_n C rfl 2 rfl dL_law_967 ?_
                                  refine g_aload_n C rfl 0 rfl dL_law_968 ?_
                                  refine g_iload C 4 rfl dL_law_969 ?_
                                  refine g_iconst C dL_law_971 ?_
                                  refine g_iadd C dL_law_972 ?_
                                  refine g_sld C hX hbl hbz (by omega) (by omega) dL_law_973 ?_
                                  have e801 : Tg h116 n33 = 12 := (pT_T hh115)
                                  have e802 : Tg h795 n33 = 12 := (fxT F799 (fxT F134 ((pNT hh125 (pN_n hh125 z124 e801)).trans e801)))
                                  refine g_callI (st := []) (gc_V C lk_LandSurveyLaw_92 (k_X12_rivalry l D cy w z0 O798 e802 f793) e802 rfl rfl rfl ⟨by decide, by decide⟩ (Nat.le_of_ble_eq_true rfl) dL_law_974 ⟨(by show _ ≤ 601024; omega), (by show _ ≤ 7293034; omega)⟩) (fun r803 h804 f806 K805 => ?_)
                                  obtain ⟨O807, F808, f809⟩ := K805
                                  refine g_pop C rfl dL_law_977 ?_
                                  refine g_goto C 1896 (by decide) dL_law_978 ?_
                                  have f810 : (8 : Int) ≤ (x128 + 8) ∧ (x128 + 8) ≤ (4096 : Int) := ia_add f150 (il 8) (by decide) (by decide)
                                  refine g_iinc C [(4, .inl (x128 + 8)), (0, .inr (.inr (b + 1))), (1, .inr (.inr n1)), (2, .inr (.inr n33)), (3, .inr (.inr n122))] 4 rfl (by decide) rfl dL_law_1896 ?_
                                  refine g_goto C 23 (by decide) dL_law_1899 ?_
                                  refine GW.sub [1, 2, 3, 4, 0] rfl ?_
                                  have e811 : Tg h795 n1 = 11 := (fxT F799 e143)
                                  have p812 := (XInv_fx O798 F808 e811 rfl (XInv_fx O133 F799 e143 rfl p136))
                                  have e813 : Tg h116 n33 = 12 := (pT_T hh115)
                                  have e814 : Tg h129 n33 = 12 := (fxT F134 ((pNT hh125 (pN_n hh125 z124 e813)).trans e813))
                                  have p815 := (MInv_fx O798 F808 e802 rfl (MInv_fx O133 F799 e814 rfl p137))
                                  have e816 : Iv h804 n1 0 = v141 := ((fxI F808 e811 rfl).trans ((fxI F799 e143 rfl).trans e142))
                                  have e817 : Iv h804 n33 33 = v141 := ((fxI F808 e802 rfl).trans ((fxI F799 e814 rfl).trans e145))
                                  refine GW.widen (by omega : _ ≤ 12 * (x128 + 8).toNat + 119) (by omega : _ ≤ 804 * (x128 + 8).toNat + 52115) ?_
                                  exact ih131 _ (by omega) (x128 + 8) h804 rfl O807 ((F134.call F799 rfl).call F808 rfl) (iw f810 (by decide) (by decide)) p812 p815 (e816.trans (Eq.symm e817))
                                · rcases Classical.em ((bAnd (sx xs x128) 63) = 13) with q818 | q819
                                  · refine g_tin (kv := 13) C q818 (by decide) 981 (by decide) (by decide) rfl (by decide) dL_law_40 ?_
                                    have f820 : (13 : Int) ≤ (bAnd (sx xs x128) 63) ∧ (bAnd (sx xs x128) 63) ≤ (13 : Int) := ii f153 (r_eq (il 13) q818) (by decide) (by decide)
                                    refine g_aload_n C rfl 1 rfl dL_law_981 ?_
                                    refine g_aload_n C rfl 0 rfl dL_law_982 ?_
                                    refine g_iload C 4 rfl dL_law_983 ?_
                                    refine g_iconst C dL_law_985 ?_
                                    have f821 : (1 : Int) ≤ (x128 + 1) ∧ (x128 + 1) ≤ (4089 : Int) := ia_add f150 (il 1) (by decide) (by decide)
                                    refine g_iadd C dL_law_986 ?_
                                    refine g_sld C hX hbl hbz (by omega) (by omega) dL_law_987 ?_
                                    have f822 : (-2147483648 : Int) ≤ (sx xs (x128 + 1)) ∧ (sx xs (x128 + 1)) ≤ (2147483647 : Int) := inR_of _
                                    refine g_aload_n C rfl 0 rfl dL_law_988 ?_
                                    refine g_iload C 4 rfl dL_law_989 ?_
                                    refine g_iconst C dL_law_991 ?_
                                    have f823 : (2 : Int) ≤ (x128 + 2) ∧ (x128 + 2) ≤ (4090 : Int) := ia_add f150 (il 2) (by decide) (by decide)
                                    refine g_iadd C dL_law_992 ?_
                                    refine g_sld C hX hbl hbz (by omega) (by omega) dL_law_993 ?_
                                    have f824 : (-2147483648 : Int) ≤ (sx xs (x128 + 2)) ∧ (sx xs (x128 + 2)) ≤ (2147483647 : Int) := inR_of _
                                    refine g_aload_n C rfl 3 rfl dL_law_994 ?_
                                    have e825 : Tg h129 n122 = 99102 := (fxT F134 (pN_T hh125))
                                    have e826 : Ln h129 n122 = 1 := ((fxL F134 (pN_T hh125)).trans (pN_L hh125))
                                    refine g_callI (st := []) (gw_S C (k_L_look l hst D cy w z0 O133 e143 f822 f824 e825 e826 p136) kw_1361 kw_1362 kw_143 kw_1363 okL_look rfl ⟨by decide, by decide⟩ (Nat.le_of_ble_eq_true rfl) dL_law_995 ⟨(by show _ ≤ 601024; omega), (by show _ ≤ 7293034; omega)⟩) (fun r827 h828 f829 K830 => ?_)
                                    obtain ⟨O831, F832, f833, p834⟩ := K830
                                    refine g_istore C [(5, .inl r827), (0, .inr (.inr (b + 1))), (1, .inr (.inr n1)), (2, .inr (.inr n33)), (3, .inr (.inr n122)), (4, .inl x128)] (by decide) rfl dL_law_998 ?_
                                    refine g_aload_n C rfl 3 rfl dL_law_1000 ?_
                                    refine g_aload_n C rfl 1 rfl dL_law_1001 ?_
                                    refine g_iload C 5 rfl dL_law_1002 ?_
                                    refine g_iconst C dL_law_1004 ?_
                                    refine g_iadd C dL_law_1005 ?_
                                    refine g_sld C hX hbl hbz (by omega) (by omega) dL_law_1006 ?_
                                    refine g_aload_n C rfl 1 rfl dL_law_1007 ?_
                                    refine g_iload C 5 rfl dL_law_1008 ?_
                                    refine g_iconst C dL_law_1010 ?_
                                    refine g_iadd C dL_law_1011 ?_
                                    refine g_sld C hX hbl hbz (by omega) (by omega) dL_law_1012 ?_
                                    have e835 : Tg h116 n33 = 12 := (pT_T hh115)
                                    have e836 : Tg h828 n33 = 12 := (fxT F832 (fxT F134 ((pNT hh125 (pN_n hh125 z124 e835)).trans e835)))
                                    have e837 : Tg h116 n33 = 12 := (pT_T hh115)
                                    have e838 : Tg h129 n33 = 12 := (fxT F134 ((pNT hh125 (pN_n hh125 z124 e837)).trans e837))
                                    have p839 := (MInv_fx O133 F832 e838 rfl p137)
                                    refine g_callI (st := []) (gc_V C lk_LandSurveyLaw_98 (k_X12_look l D cy w z0 O831 e836 f822 f824 p839) e836 rfl rfl rfl ⟨by decide, by decide⟩ (Nat.le_of_ble_eq_true rfl) dL_law_1013 ⟨(by show _ ≤ 601024; omega), (by show _ ≤ 7293034; omega)⟩) (fun r840 h841 f843 K842 => ?_)
                                    obtain ⟨O844, F845, f846⟩ := K842
                                    refine g_istore C [(6, .inl r840), (5, .inl r827), (0, .inr (.inr (b + 1))), (1, .inr (.inr n1)), (2, .inr (.inr n33)), (3, .inr (.inr n122)), (4, .inl x128)] (by decide) rfl dL_law_1016 ?_
                                    refine g_goto C 1896 (by decide) dL_law_1018 ?_
                                    have f847 : (8 : Int) ≤ (x128 + 8) ∧ (x128 + 8) ≤ (4096 : Int) := ia_add f150 (il 8) (by decide) (by decide)
                                    refine g_iinc C [(4, .inl (x128 + 8)), (6, .inl r840), (5, .inl r827), (0, .inr (.inr (b + 1))), (1, .inr (.inr n1)), (2, .inr (.inr n33)), (3, .inr (.inr n122))] 6 rfl (by decide) rfl dL_law_1896 ?_
                                    refine g_goto C 23 (by decide) dL_law_1899 ?_
                                    refine GW.sub [3, 4, 5, 6, 0] rfl ?_
                                    have e848 : Tg h828 n1 = 11 := (fxT F832 e143)
                                    have p849 := (XInv_fx O831 F845 e848 rfl p834)
                                    have p850 := (MInv_fx O831 F845 e836 rfl p839)
                                    have e851 : Iv h841 n1 0 = v141 := ((fxI F845 e848 rfl).trans ((fxI F832 e143 rfl).trans e142))
                                    have e852 : Iv h841 n33 33 = v141 := ((fxI F845 e836 rfl).trans ((fxI F832 e838 rfl).trans e145))
                                    refine GW.widen (by omega : _ ≤ 12 * (x128 + 8).toNat + 119) (by omega : _ ≤ 804 * (x128 + 8).toNat + 52115) ?_
                                    exact ih131 _ (by omega) (x128 + 8) h841 rfl O844 ((F134.call F832 rfl).call F845 rfl) (iw f847 (by decide) (by decide)) p849 p850 (e851.trans (Eq.symm e852))
                                  · rcases Classical.em ((bAnd (sx xs x128) 63) = 14) with q853 | q854
                                    · refine g_tin (kv := 14) C q853 (by decide) 1021 (by decide) (by decide) rfl (by decide) dL_law_40 ?_
                                      have f855 : (14 : Int) ≤ (bAnd (sx xs x128) 63) ∧ (bAnd (sx xs x128) 63) ≤ (14 : Int) := ii f153 (r_eq (il 14) q853) (by decide) (by decide)
                                      refine g_aload_n C rfl 1 rfl dL_law_1021 ?_
                                      refine g_aload_n C rfl 0 rfl dL_law_1022 ?_
                                      refine g_iload C 4 rfl dL_law_1023 ?_
                                      refine g_iconst C dL_law_1025 ?_
                                      have f856 : (1 : Int) ≤ (x128 + 1) ∧ (x128 + 1) ≤ (4089 : Int) := ia_add f150 (il 1) (by decide) (by decide)
                                      refine g_iadd C dL_law_1026 ?_
                                      refine g_sld C hX hbl hbz (by omega) (by omega) dL_law_1027 ?_
                                      have f857 : (-2147483648 : Int) ≤ (sx xs (x128 + 1)) ∧ (sx xs (x128 + 1)) ≤ (2147483647 : Int) := inR_of _
                                      refine g_callI (st := []) (gc_V C lk_LandSurveyLaw_99 (k_X11_cost l D cy w z0 O133 e143 f857 p136) e143 rfl rfl rfl ⟨by decide, by decide⟩ (Nat.le_of_ble_eq_true rfl) dL_law_1028 ⟨(by show _ ≤ 601024; omega), (by show _ ≤ 7293034; omega)⟩) (fun r858 h859 f861 K860 => ?_)
                                      obtain ⟨O862, F863, f864, p865⟩ := K860
                                      refine g_pop C rfl dL_law_1031 ?_
                                      refine g_aload_n C rfl 2 rfl dL_law_1032 ?_
                                      refine g_aload_n C rfl 0 rfl dL_law_1033 ?_
                                      refine g_iload C 4 rfl dL_law_1034 ?_
                                      refine g_iconst C dL_law_1036 ?_
                                      refine g_iadd C dL_law_1037 ?_
                                      refine g_sld C hX hbl hbz (by omega) (by omega) dL_law_1038 ?_
                                      have e866 : Tg h116 n33 = 12 := (pT_T hh115)
                                      have e867 : Tg h859 n33 = 12 := (fxT F863 (fxT F134 ((pNT hh125 (pN_n hh125 z124 e866)).trans e866)))
                                      have e868 : Tg h116 n33 = 12 := (pT_T hh115)
                                      have e869 : Tg h129 n33 = 12 := (fxT F134 ((pNT hh125 (pN_n hh125 z124 e868)).trans e868))
                                      have p870 := (MInv_fx O133 F863 e869 rfl p137)
                                      refine g_callI (st := []) (gc_V C lk_LandSurveyLaw_102 (k_X12_cost l D cy w z0 O862 e867 f857 p870) e867 rfl rfl rfl ⟨by decide, by decide⟩ (Nat.le_of_ble_eq_true rfl) dL_law_1039 ⟨(by show _ ≤ 601024; omega), (by show _ ≤ 7293034; omega)⟩) (fun r871 h872 f874 K873 => ?_)
                                      obtain ⟨O875, F876, f877⟩ := K873
                                      refine g_pop C rfl dL_law_1042 ?_
                                      refine g_goto C 1896 (by decide) dL_law_1043 ?_
                                      have f878 : (8 : Int) ≤ (x128 + 8) ∧ (x128 + 8) ≤ (4096 : Int) := ia_add f150 (il 8) (by decide) (by decide)
                                      refine g_iinc C [(4, .inl (x128 + 8)), (0, .inr (.inr (b + 1))), (1, .inr (.inr n1)), (2, .inr (.inr n33)), (3, .inr (.inr n122))] 4 rfl (by decide) rfl dL_law_1896 ?_
                                      refine g_goto C 23 (by decide) dL_law_1899 ?_
                                      refine GW.sub [1, 2, 3, 4, 0] rfl ?_
                                      have e879 : Tg h859 n1 = 11 := (fxT F863 e143)
                                      have p880 := (XInv_fx O862 F876 e879 rfl p865)
                                      have p881 := (MInv_fx O862 F876 e867 rfl p870)
                                      have e882 : Iv h872 n1 0 = v141 := ((fxI F876 e879 rfl).trans ((fxI F863 e143 rfl).trans e142))
                                      have e883 : Iv h872 n33 33 = v141 := ((fxI F876 e867 rfl).trans ((fxI F863 e869 rfl).trans e145))
                                      refine GW.widen (by omega : _ ≤ 12 * (x128 + 8).toNat + 119) (by omega : _ ≤ 804 * (x128 + 8).toNat + 52115) ?_
                                      exact ih131 _ (by omega) (x128 + 8) h872 rfl O875 ((F134.call F863 rfl).call F876 rfl) (iw f878 (by decide) (by decide)) p880 p881 (e882.trans (Eq.symm e883))
                                    · rcases Classical.em ((bAnd (sx xs x128) 63) = 15) with q884 | q885
                                      · refine g_tin (kv := 15) C q884 (by decide) 1046 (by decide) (by decide) rfl (by decide) dL_law_40 ?_
                                        have f886 : (15 : Int) ≤ (bAnd (sx xs x128) 63) ∧ (bAnd (sx xs x128) 63) ≤ (15 : Int) := ii f153 (r_eq (il 15) q884) (by decide) (by decide)
                                        refine g_aload_n C rfl 1 rfl dL_law_1046 ?_
                                        refine g_aload_n C rfl 0 rfl dL_law_1047 ?_
                                        refine g_iload C 4 rfl dL_law_1048 ?_
                                        refine g_iconst C dL_law_1050 ?_
                                        have f887 : (1 : Int) ≤ (x128 + 1) ∧ (x128 + 1) ≤ (4089 : Int) := ia_add f150 (il 1) (by decide) (by decide)
                                        refine g_iadd C dL_law_1051 ?_
                                        refine g_sld C hX hbl hbz (by omega) (by omega) dL_law_1052 ?_
                                        have f888 : (-2147483648 : Int) ≤ (sx xs (x128 + 1)) ∧ (sx xs (x128 + 1)) ≤ (2147483647 : Int) := inR_of _
                                        refine g_aload_n C rfl 0 rfl dL_law_1053 ?_
                                        refine g_iload C 4 rfl dL_law_1054 ?_
                                        refine g_iconst C dL_law_1056 ?_
                                        have f889 : (2 : Int) ≤ (x128 + 2) ∧ (x128 + 2) ≤ (4090 : Int) := ia_add f150 (il 2) (by decide) (by decide)
                                        refine g_iadd C dL_law_1057 ?_
                                        refine g_sld C hX hbl hbz (by omega) (by omega) dL_law_1058 ?_
                                        have f890 : (-2147483648 : Int) ≤ (sx xs (x128 + 2)) ∧ (sx xs (x128 + 2)) ≤ (2147483647 : Int) := inR_of _
                                        refine g_callI (st := []) (gc_V C lk_LandSurveyLaw_103 (k_X11_doubted l D cy w z0 O133 e143 f888 f890 p136) e143 rfl rfl rfl ⟨by decide, by decide⟩ (Nat.le_of_ble_eq_true rfl) dL_law_1059 ⟨(by show _ ≤ 601024; omega), (by show _ ≤ 7293034; omega)⟩) (fun r891 h892 f894 K893 => ?_)
                                        obtain ⟨O895, F896, f897, p898⟩ := K893
                                        refine g_pop C rfl dL_law_1062 ?_
                                        refine g_aload_n C rfl 2 rfl dL_law_1063 ?_
                                        refine g_aload_n C rfl 0 rfl dL_law_1064 ?_
                                        refine g_iload C 4 rfl dL_law_1065 ?_
                                        refine g_iconst C dL_law_1067 ?_
                                        refine g_iadd C dL_law_1068 ?_
                                        refine g_sld C hX hbl hbz (by omega) (by omega) dL_law_1069 ?_
                                        refine g_aload_n C rfl 0 rfl dL_law_1070 ?_
                                        refine g_iload C 4 rfl dL_law_1071 ?_
                                        refine g_iconst C dL_law_1073 ?_
                                        refine g_iadd C dL_law_1074 ?_
                                        refine g_sld C hX hbl hbz (by omega) (by omega) dL_law_1075 ?_
                                        have e899 : Tg h116 n33 = 12 := (pT_T hh115)
                                        have e900 : Tg h892 n33 = 12 := (fxT F896 (fxT F134 ((pNT hh125 (pN_n hh125 z124 e899)).trans e899)))
                                        have e901 : Tg h116 n33 = 12 := (pT_T hh115)
                                        have e902 : Tg h129 n33 = 12 := (fxT F134 ((pNT hh125 (pN_n hh125 z124 e901)).trans e901))
                                        have p903 := (MInv_fx O133 F896 e902 rfl p137)
                                        refine g_callI (st := []) (gc_V C lk_LandSurveyLaw_106 (k_X12_doubted l D cy w z0 O895 e900 f888 f890 p903) e900 rfl rfl rfl ⟨by decide, by decide⟩ (Nat.le_of_ble_eq_true rfl) dL_law_1076 ⟨(by show _ ≤ 601024; omega), (by show _ ≤ 7293034; omega)⟩) (fun r904 h905 f907 K906 => ?_)
                                        obtain ⟨O908, F909, f910⟩ := K906
                                        refine g_pop C rfl dL_law_1079 ?_
                                        refine g_goto C 1896 (by decide) dL_law_1080 ?_
                                        have f911 : (8 : Int) ≤ (x128 + 8) ∧ (x128 + 8) ≤ (4096 : Int) := ia_add f150 (il 8) (by decide) (by decide)
                                        refine g_iinc C [(4, .inl (x128 + 8)), (0, .inr (.inr (b + 1))), (1, .inr (.inr n1)), (2, .inr (.inr n33)), (3, .inr (.inr n122))] 4 rfl (by decide) rfl dL_law_1896 ?_
                                        refine g_goto C 23 (by decide) dL_law_1899 ?_
                                        refine GW.sub [1, 2, 3, 4, 0] rfl ?_
                                        have e912 : Tg h892 n1 = 11 := (fxT F896 e143)
                                        have p913 := (XInv_fx O895 F909 e912 rfl p898)
                                        have p914 := (MInv_fx O895 F909 e900 rfl p903)
                                        have e915 : Iv h905 n1 0 = v141 := ((fxI F909 e912 rfl).trans ((fxI F896 e143 rfl).trans e142))
                                        have e916 : Iv h905 n33 33 = v141 := ((fxI F909 e900 rfl).trans ((fxI F896 e902 rfl).trans e145))
                                        refine GW.widen (by omega : _ ≤ 12 * (x128 + 8).toNat + 119) (by omega : _ ≤ 804 * (x128 + 8).toNat + 52115) ?_
                                        exact ih131 _ (by omega) (x128 + 8) h905 rfl O908 ((F134.call F896 rfl).call F909 rfl) (iw f911 (by decide) (by decide)) p913 p914 (e915.trans (Eq.symm e916))
                                      · rcases Classical.em ((bAnd (sx xs x128) 63) = 16) with q917 | q918
                                        · refine g_tin (kv := 16) C q917 (by decide) 1083 (by decide) (by decide) rfl (by decide) dL_law_40 ?_
                                          have f919 : (16 : Int) ≤ (bAnd (sx xs x128) 63) ∧ (bAnd (sx xs x128) 63) ≤ (16 : Int) := ii f153 (r_eq (il 16) q917) (by decide) (by decide)
                                          refine g_aload_n C rfl 1 rfl dL_law_1083 ?_
                                          refine g_aload_n C rfl 0 rfl dL_law_1084 ?_
                                          refine g_iload C 4 rfl dL_law_1085 ?_
                                          refine g_iconst C dL_law_1087 ?_
                                          have f920 : (1 : Int) ≤ (x128 + 1) ∧ (x128 + 1) ≤ (4089 : Int) := ia_add f150 (il 1) (by decide) (by decide)
                                          refine g_iadd C dL_law_1088 ?_
                                          refine g_sld C hX hbl hbz (by omega) (by omega) dL_law_1089 ?_
                                          have f921 : (-2147483648 : Int) ≤ (sx xs (x128 + 1)) ∧ (sx xs (x128 + 1)) ≤ (2147483647 : Int) := inR_of _
                                          refine g_callI (st := []) (gc_V C lk_LandSurveyLaw_107 (k_X11_best l D cy w z0 O133 e143 f921 p136) e143 rfl rfl rfl ⟨by decide, by decide⟩ (Nat.le_of_ble_eq_true rfl) dL_law_1090 ⟨(by show _ ≤ 601024; omega), (by show _ ≤ 7293034; omega)⟩) (fun r922 h923 f925 K924 => ?_)
                                          obtain ⟨O926, F927, f928, p929⟩ := K924
                                          refine g_pop C rfl dL_law_1093 ?_
                                          refine g_aload_n C rfl 2 rfl dL_law_1094 ?_
                                          refine g_aload_n C rfl 0 rfl dL_law_1095 ?_
                                          refine g_iload C 4 rfl dL_law_1096 ?_
                                          refine g_iconst C dL_law_1098 ?_
                                          refine g_iadd C dL_law_1099 ?_
                                          refine g_sld C hX hbl hbz (by omega) (by omega) dL_law_1100 ?_
                                          have e930 : Tg h116 n33 = 12 := (pT_T hh115)
                                          have e931 : Tg h923 n33 = 12 := (fxT F927 (fxT F134 ((pNT hh125 (pN_n hh125 z124 e930)).trans e930)))
                                          have e932 : Tg h116 n33 = 12 := (pT_T hh115)
                                          have e933 : Tg h129 n33 = 12 := (fxT F134 ((pNT hh125 (pN_n hh125 z124 e932)).trans e932))
                                          have p934 := (MInv_fx O133 F927 e933 rfl p137)
                                          refine g_callI (st := []) (gc_V C lk_LandSurveyLaw_110 (k_X12_best l D cy w z0 O926 e931 f921 p934) e931 rfl rfl rfl ⟨by decide, by decide⟩ (Nat.le_of_ble_eq_true rfl) dL_law_1101 ⟨(by show _ ≤ 601024; omega), (by show _ ≤ 7293034; omega)⟩) (fun r935 h936 f938 K937 => ?_)
                                          obtain ⟨O939, F940, f941⟩ := K937
                                          refine g_pop C rfl dL_law_1104 ?_
                                          refine g_goto C 1896 (by decide) dL_law_1105 ?_
                                          have f942 : (8 : Int) ≤ (x128 + 8) ∧ (x128 + 8) ≤ (4096 : Int) := ia_add f150 (il 8) (by decide) (by decide)
                                          refine g_iinc C [(4, .inl (x128 + 8)), (0, .inr (.inr (b + 1))), (1, .inr (.inr n1)), (2, .inr (.inr n33)), (3, .inr (.inr n122))] 4 rfl (by decide) rfl dL_law_1896 ?_
                                          refine g_goto C 23 (by decide) dL_law_1899 ?_
                                          refine GW.sub [1, 2, 3, 4, 0] rfl ?_
                                          have e943 : Tg h923 n1 = 11 := (fxT F927 e143)
                                          have p944 := (XInv_fx O926 F940 e943 rfl p929)
                                          have p945 := (MInv_fx O926 F940 e931 rfl p934)
                                          have e946 : Iv h936 n1 0 = v141 := ((fxI F940 e943 rfl).trans ((fxI F927 e143 rfl).trans e142))
                                          have e947 : Iv h936 n33 33 = v141 := ((fxI F940 e931 rfl).trans ((fxI F927 e933 rfl).trans e145))
                                          refine GW.widen (by omega : _ ≤ 12 * (x128 + 8).toNat + 119) (by omega : _ ≤ 804 * (x128 + 8).toNat + 52115) ?_
                                          exact ih131 _ (by omega) (x128 + 8) h936 rfl O939 ((F134.call F927 rfl).call F940 rfl) (iw f942 (by decide) (by decide)) p944 p945 (e946.trans (Eq.symm e947))
                                        · rcases Classical.em ((bAnd (sx xs x128) 63) = 17) with q948 | q949
                                          · refine g_tin (kv := 17) C q948 (by decide) 1108 (by decide) (by decide) rfl (by decide) dL_law_40 ?_
                                            have f950 : (17 : Int) ≤ (bAnd (sx xs x128) 63) ∧ (bAnd (sx xs x128) 63) ≤ (17 : Int) := ii f153 (r_eq (il 17) q948) (by decide) (by decide)
                                            refine g_aload_n C rfl 1 rfl dL_law_1108 ?_
                                            refine g_aload_n C rfl 0 rfl dL_law_1109 ?_
                                            refine g_iload C 4 rfl dL_law_1110 ?_
                                            refine g_iconst C dL_law_1112 ?_
                                            have f951 : (1 : Int) ≤ (x128 + 1) ∧ (x128 + 1) ≤ (4089 : Int) := ia_add f150 (il 1) (by decide) (by decide)
                                            refine g_iadd C dL_law_1113 ?_
                                            refine g_sld C hX hbl hbz (by omega) (by omega) dL_law_1114 ?_
                                            have f952 : (-2147483648 : Int) ≤ (sx xs (x128 + 1)) ∧ (sx xs (x128 + 1)) ≤ (2147483647 : Int) := inR_of _
                                            refine g_callI (st := []) (gc_V C lk_LandSurveyLaw_111 (k_X11_kept l D cy w z0 O133 e143 f952 p136) e143 rfl rfl rfl ⟨by decide, by decide⟩ (Nat.le_of_ble_eq_true rfl) dL_law_1115 ⟨(by show _ ≤ 601024; omega), (by show _ ≤ 7293034; omega)⟩) (fun r953 h954 f956 K955 => ?_)
                                            obtain ⟨O957, F958, f959, p960⟩ := K955
                                            refine g_pop C rfl dL_law_1118 ?_
                                            refine g_aload_n C rfl 2 rfl dL_law_1119 ?_
                                            refine g_aload_n C rfl 0 rfl dL_law_1120 ?_
                                            refine g_iload C 4 rfl dL_law_1121 ?_
                                            refine g_iconst C dL_law_1123 ?_
                                            refine g_iadd C dL_law_1124 ?_
                                            refine g_sld C hX hbl hbz (by omega) (by omega) dL_law_1125 ?_
                                            have e961 : Tg h116 n33 = 12 := (pT_T hh115)
                                            have e962 : Tg h954 n33 = 12 := (fxT F958 (fxT F134 ((pNT hh125 (pN_n hh125 z124 e961)).trans e961)))
                                            have e963 : Tg h116 n33 = 12 := (pT_T hh115)
                                            have e964 : Tg h129 n33 = 12 := (fxT F134 ((pNT hh125 (pN_n hh125 z124 e963)).trans e963))
                                            have p965 := (MInv_fx O133 F958 e964 rfl p137)
                                            refine g_callI (st := []) (gc_V C lk_LandSurveyLaw_114 (k_X12_kept l D cy w z0 O957 e962 f952 p965) e962 rfl rfl rfl ⟨by decide, by decide⟩ (Nat.le_of_ble_eq_true rfl) dL_law_1126 ⟨(by show _ ≤ 601024; omega), (by show _ ≤ 7293034; omega)⟩) (fun r966 h967 f969 K968 => ?_)
                                            obtain ⟨O970, F971, f972⟩ := K968
                                            refine g_pop C rfl dL_law_1129 ?_
                                            refine g_goto C 1896 (by decide) dL_law_1130 ?_
                                            have f973 : (8 : Int) ≤ (x128 + 8) ∧ (x128 + 8) ≤ (4096 : Int) := ia_add f150 (il 8) (by decide) (by decide)
                                            refine g_iinc C [(4, .inl (x128 + 8)), (0, .inr (.inr (b + 1))), (1, .inr (.inr n1)), (2, .inr (.inr n33)), (3, .inr (.inr n122))] 4 rfl (by decide) rfl dL_law_1896 ?_
                                            refine g_goto C 23 (by decide) dL_law_1899 ?_
                                            refine GW.sub [1, 2, 3, 4, 0] rfl ?_
                                            have e974 : Tg h954 n1 = 11 := (fxT F958 e143)
                                            have p975 := (XInv_fx O957 F971 e974 rfl p960)
                                            have p976 := (MInv_fx O957 F971 e962 rfl p965)
                                            have e977 : Iv h967 n1 0 = v141 := ((fxI F971 e974 rfl).trans ((fxI F958 e143 rfl).trans e142))
                                            have e978 : Iv h967 n33 33 = v141 := ((fxI F971 e962 rfl).trans ((fxI F958 e964 rfl).trans e145))
                                            refine GW.widen (by omega : _ ≤ 12 * (x128 + 8).toNat + 119) (by omega : _ ≤ 804 * (x128 + 8).toNat + 52115) ?_
                                            exact ih131 _ (by omega) (x128 + 8) h967 rfl O970 ((F134.call F958 rfl).call F971 rfl) (iw f973 (by decide) (by decide)) p975 p976 (e977.trans (Eq.symm e978))
                                          · rcases Classical.em ((bAnd (sx xs x128) 63) = 18) with q979 | q980
                                            · refine g_tin (kv := 18) C q979 (by decide) 1133 (by decide) (by decide) rfl (by decide) dL_law_40 ?_
                                              have f981 : (18 : Int) ≤ (bAnd (sx xs x128) 63) ∧ (bAnd (sx xs x128) 63) ≤ (18 : Int) := ii f153 (r_eq (il 18) q979) (by decide) (by decide)
                                              refine g_aload_n C rfl 1 rfl dL_law_1133 ?_
                                              refine g_aload_n C rfl 0 rfl dL_law_1134 ?_
                                              refine g_iload C 4 rfl dL_law_1135 ?_
                                              refine g_iconst C dL_law_1137 ?_
                                              have f982 : (1 : Int) ≤ (x128 + 1) ∧ (x128 + 1) ≤ (4089 : Int) := ia_add f150 (il 1) (by decide) (by decide)
                                              refine g_iadd C dL_law_1138 ?_
                                              refine g_sld C hX hbl hbz (by omega) (by omega) dL_law_1139 ?_
                                              have f983 : (-2147483648 : Int) ≤ (sx xs (x128 + 1)) ∧ (sx xs (x128 + 1)) ≤ (2147483647 : Int) := inR_of _
                                              refine g_aload_n C rfl 0 rfl dL_law_1140 ?_
                                              refine g_iload C 4 rfl dL_law_1141 ?_
                                              refine g_iconst C dL_law_1143 ?_
                                              have f984 : (2 : Int) ≤ (x128 + 2) ∧ (x128 + 2) ≤ (4090 : Int) := ia_add f150 (il 2) (by decide) (by decide)
                                              refine g_iadd C dL_law_1144 ?_
                                              refine g_sld C hX hbl hbz (by omega) (by omega) dL_law_1145 ?_
                                              have f985 : (-2147483648 : Int) ≤ (sx xs (x128 + 2)) ∧ (sx xs (x128 + 2)) ≤ (2147483647 : Int) := inR_of _
                                              refine g_aload_n C rfl 0 rfl dL_law_1146 ?_
                                              refine g_iload C 4 rfl dL_law_1147 ?_
                                              refine g_iconst C dL_law_1149 ?_
                                              have f986 : (3 : Int) ≤ (x128 + 3) ∧ (x128 + 3) ≤ (4091 : Int) := ia_add f150 (il 3) (by decide) (by decide)
                                              refine g_iadd C dL_law_1150 ?_
                                              refine g_sld C hX hbl hbz (by omega) (by omega) dL_law_1151 ?_
                                              have f987 : (-2147483648 : Int) ≤ (sx xs (x128 + 3)) ∧ (sx xs (x128 + 3)) ≤ (2147483647 : Int) := inR_of _
                                              refine g_aload_n C rfl 0 rfl dL_law_1152 ?_
                                              refine g_iload C 4 rfl dL_law_1153 ?_
                                              refine g_iconst C dL_law_1155 ?_
                                              have f988 : (4 : Int) ≤ (x128 + 4) ∧ (x128 + 4) ≤ (4092 : Int) := ia_add f150 (il 4) (by decide) (by decide)
                                              refine g_iadd C dL_law_1156 ?_
                                              refine g_sld C hX hbl hbz (by omega) (by omega) dL_law_1157 ?_
                                              have f989 : (-2147483648 : Int) ≤ (sx xs (x128 + 4)) ∧ (sx xs (x128 + 4)) ≤ (2147483647 : Int) := inR_of _
                                              refine g_aload_n C rfl 3 rfl dL_law_1158 ?_
                                              have e990 : Tg h129 n122 = 99102 := (fxT F134 (pN_T hh125))
                                              have e991 : Ln h129 n122 = 1 := ((fxL F134 (pN_T hh125)).trans (pN_L hh125))
                                              refine g_callI (st := []) (gw_S C (k_L_base l hst D cy w z0 O133 e143 f983 f985 f987 f989 e990 e991 p136) kw_1434 kw_1435 kw_143 kw_1436 okL_base rfl ⟨by decide, by decide⟩ (Nat.le_of_ble_eq_true rfl) dL_law_1159 ⟨(by show _ ≤ 601024; omega), (by show _ ≤ 7293034; omega)⟩) (fun r992 h993 f994 K995 => ?_)
                                              obtain ⟨O996, F997, f998, p999⟩ := K995
                                              refine g_istore C [(5, .inl r992), (0, .inr (.inr (b + 1))), (1, .inr (.inr n1)), (2, .inr (.inr n33)), (3, .inr (.inr n122)), (4, .inl x128)] (by decide) rfl dL_law_1162 ?_
                                              refine g_aload_n C rfl 3 rfl dL_law_1164 ?_
                                              refine g_aload_n C rfl 1 rfl dL_law_1165 ?_
                                              refine g_iload C 5 rfl dL_law_1166 ?_
                                              refine g_iconst C dL_law_1168 ?_
                                              refine g_iadd C dL_law_1169 ?_
                                              refine g_sld C hX hbl hbz (by omega) (by omega) dL_law_1170 ?_
                                              refine g_aload_n C rfl 1 rfl dL_law_1171 ?_
                                              refine g_iload C 5 rfl dL_law_1172 ?_
                                              refine g_iconst C dL_law_1174 ?_
                                              refine g_iadd C dL_law_1175 ?_
                                              refine g_sld C hX hbl hbz (by omega) (by omega) dL_law_1176 ?_
                                              refine g_aload_n C rfl 1 rfl dL_law_1177 ?_
                                              refine g_iload C 5 rfl dL_law_1178 ?_
                                              refine g_iconst C dL_law_1180 ?_
                                              refine g_iadd C dL_law_1181 ?_
                                              refine g_sld C hX hbl hbz (by omega) (by omega) dL_law_1182 ?_
                                              refine g_aload_n C rfl 1 rfl dL_law_1183 ?_
                                              refine g_iload C 5 rfl dL_law_1184 ?_
                                              refine g_iconst C dL_law_1186 ?_
                                              refine g_iadd C dL_law_1187 ?_
                                              refine g_sld C hX hbl hbz (by omega) (by omega) dL_law_1188 ?_
                                              have e1000 : Tg h116 n33 = 12 := (pT_T hh115)
                                              have e1001 : Tg h993 n33 = 12 := (fxT F997 (fxT F134 ((pNT hh125 (pN_n hh125 z124 e1000)).trans e1000)))
                                              have e1002 : Tg h116 n33 = 12 := (pT_T hh115)
                                              have e1003 : Tg h129 n33 = 12 := (fxT F134 ((pNT hh125 (pN_n hh125 z124 e1002)).trans e1002))
                                              have p1004 := (MInv_fx O133 F997 e1003 rfl p137)
                                              refine g_callI (st := []) (gc_V C lk_LandSurveyLaw_118 (k_X12_base l D cy w z0 O996 e1001 f983 f985 f987 f989 p1004) e1001 rfl rfl rfl ⟨by decide, by decide⟩ (Nat.le_of_ble_eq_true rfl) dL_law_1189 ⟨(by show _ ≤ 601024; omega), (by show _ ≤ 7293034; omega)⟩) (fun r1005 h1006 f1008 K1007 => ?_)
                                              obtain ⟨O1009, F1010, f1011⟩ := K1007
                                              refine g_istore C [(6, .inl r1005), (5, .inl r992), (0, .inr (.inr (b + 1))), (1, .inr (.inr n1)), (2, .inr (.inr n33)), (3, .inr (.inr n122)), (4, .inl x128)] (by decide) rfl dL_law_1192 ?_
                                              refine g_goto C 1896 (by decide) dL_law_1194 ?_
                                              have f1012 : (8 : Int) ≤ (x128 + 8) ∧ (x128 + 8) ≤ (4096 : Int) := ia_add f150 (il 8) (by decide) (by decide)
                                              refine g_iinc C [(4, .inl (x128 + 8)), (6, .inl r1005), (5, .inl r992), (0, .inr (.inr (b + 1))), (1, .inr (.inr n1)), (2, .inr (.inr n33)), (3, .inr (.inr n122))] 6 rfl (by decide) rfl dL_law_1896 ?_
                                              refine g_goto C 23 (by decide) dL_law_1899 ?_
                                              refine GW.sub [3, 4, 5, 6, 0] rfl ?_
                                              have e1013 : Tg h993 n1 = 11 := (fxT F997 e143)
                                              have p1014 := (XInv_fx O996 F1010 e1013 rfl p999)
                                              have p1015 := (MInv_fx O996 F1010 e1001 rfl p1004)
                                              have e1016 : Iv h1006 n1 0 = v141 := ((fxI F1010 e1013 rfl).trans ((fxI F997 e143 rfl).trans e142))
                                              have e1017 : Iv h1006 n33 33 = v141 := ((fxI F1010 e1001 rfl).trans ((fxI F997 e1003 rfl).trans e145))
                                              refine GW.widen (by omega : _ ≤ 12 * (x128 + 8).toNat + 119) (by omega : _ ≤ 804 * (x128 + 8).toNat + 52115) ?_
                                              exact ih131 _ (by omega) (x128 + 8) h1006 rfl O1009 ((F134.call F997 rfl).call F1010 rfl) (iw f1012 (by decide) (by decide)) p1014 p1015 (e1016.trans (Eq.symm e1017))
                                            · rcases Classical.em ((bAnd (sx xs x128) 63) = 19) with q1018 | q1019
                                              · refine g_tin (kv := 19) C q1018 (by decide) 1197 (by decide) (by decide) rfl (by decide) dL_law_40 ?_
                                                have f1020 : (19 : Int) ≤ (bAnd (sx xs x128) 63) ∧ (bAnd (sx xs x128) 63) ≤ (19 : Int) := ii f153 (r_eq (il 19) q1018) (by decide) (by decide)
                                                refine g_aload_n C rfl 1 rfl dL_law_1197 ?_
                                                refine g_aload_n C rfl 0 rfl dL_law_1198 ?_
                                                refine g_iload C 4 rfl dL_law_1199 ?_
                                                refine g_iconst C dL_law_1201 ?_
                                                have f1021 : (1 : Int) ≤ (x128 + 1) ∧ (x128 + 1) ≤ (4089 : Int) := ia_add f150 (il 1) (by decide) (by decide)
                                                refine g_iadd C dL_law_1202 ?_
                                                refine g_sld C hX hbl hbz (by omega) (by omega) dL_law_1203 ?_
                                                have f1022 : (-2147483648 : Int) ≤ (sx xs (x128 + 1)) ∧ (sx xs (x128 + 1)) ≤ (2147483647 : Int) := inR_of _
                                                refine g_aload_n C rfl 0 rfl dL_law_1204 ?_
                                                refine g_iload C 4 rfl dL_law_1205 ?_
                                                refine g_iconst C dL_law_1207 ?_
                                                have f1023 : (2 : Int) ≤ (x128 + 2) ∧ (x128 + 2) ≤ (4090 : Int) := ia_add f150 (il 2) (by decide) (by decide)
                                                refine g_iadd C dL_law_1208 ?_
                                                refine g_sld C hX hbl hbz (by omega) (by omega) dL_law_1209 ?_
                                                have f1024 : (-2147483648 : Int) ≤ (sx xs (x128 + 2)) ∧ (sx xs (x128 + 2)) ≤ (2147483647 : Int) := inR_of _
                                                refine g_aload_n C rfl 0 rfl dL_law_1210 ?_
                                                refine g_iload C 4 rfl dL_law_1211 ?_
                                                refine g_iconst C dL_law_1213 ?_
                                                have f1025 : (3 : Int) ≤ (x128 + 3) ∧ (x128 + 3) ≤ (4091 : Int) := ia_add f150 (il 3) (by decide) (by decide)
                                                refine g_iadd C dL_law_1214 ?_
                                                refine g_sld C hX hbl hbz (by omega) (by omega) dL_law_1215 ?_
                                                have f1026 : (-2147483648 : Int) ≤ (sx xs (x128 + 3)) ∧ (sx xs (x128 + 3)) ≤ (2147483647 : Int) := inR_of _
                                                refine g_callI (st := []) (gc_V C lk_LandSurveyLaw_119 (k_X11_lies l D cy w z0 O133 e143 f1022 f1024 f1026 p136) e143 rfl rfl rfl ⟨by decide, by decide⟩ (Nat.le_of_ble_eq_true rfl) dL_law_1216 ⟨(by show _ ≤ 601024; omega), (by show _ ≤ 7293034; omega)⟩) (fun r1027 h1028 f1030 K1029 => ?_)
                                                obtain ⟨O1031, F1032, f1033, p1034⟩ := K1029
                                                refine g_pop C rfl dL_law_1219 ?_
                                                refine g_aload_n C rfl 2 rfl dL_law_1220 ?_
                                                refine g_aload_n C rfl 0 rfl dL_law_1221 ?_
                                                refine g_iload C 4 rfl dL_law_1222 ?_
                                                refine g_iconst C dL_law_1224 ?_
                                                refine g_iadd C dL_law_1225 ?_
                                                refine g_sld C hX hbl hbz (by omega) (by omega) dL_law_1226 ?_
                                                refine g_aload_n C rfl 0 rfl dL_law_1227 ?_
                                                refine g_iload C 4 rfl dL_law_1228 ?_
                                                refine g_iconst C dL_law_1230 ?_
                                                refine g_iadd C dL_law_1231 ?_
                                                refine g_sld C hX hbl hbz (by omega) (by omega) dL_law_1232 ?_
                                                refine g_aload_n C rfl 0 rfl dL_law_1233 ?_
                                                refine g_iload C 4 rfl dL_law_1234 ?_
                                                refine g_iconst C dL_law_1236 ?_
                                                refine g_iadd C dL_law_1237 ?_
                                                refine g_sld C hX hbl hbz (by omega) (by omega) dL_law_1238 ?_
                                                have e1035 : Tg h116 n33 = 12 := (pT_T hh115)
                                                have e1036 : Tg h1028 n33 = 12 := (fxT F1032 (fxT F134 ((pNT hh125 (pN_n hh125 z124 e1035)).trans e1035)))
                                                have e1037 : Tg h116 n33 = 12 := (pT_T hh115)
                                                have e1038 : Tg h129 n33 = 12 := (fxT F134 ((pNT hh125 (pN_n hh125 z124 e1037)).trans e1037))
                                                have p1039 := (MInv_fx O133 F1032 e1038 rfl p137)
                                                refine g_callI (st := []) (gc_V C lk_LandSurveyLaw_123 (k_X12_lies l D cy w z0 O1031 e1036 f1022 f1024 f1026 p1039) e1036 rfl rfl rfl ⟨by decide, by decide⟩ (Nat.le_of_ble_eq_true rfl) dL_law_1239 ⟨(by show _ ≤ 601024; omega), (by show _ ≤ 7293034; omega)⟩) (fun r1040 h1041 f1043 K1042 => ?_)
                                                obtain ⟨O1044, F1045, f1046⟩ := K1042
                                                refine g_pop C rfl dL_law_1242 ?_
                                                refine g_goto C 1896 (by decide) dL_law_1243 ?_
                                                have f1047 : (8 : Int) ≤ (x128 + 8) ∧ (x128 + 8) ≤ (4096 : Int) := ia_add f150 (il 8) (by decide) (by decide)
                                                refine g_iinc C [(4, .inl (x128 + 8)), (0, .inr (.inr (b + 1))), (1, .inr (.inr n1)), (2, .inr (.inr n33)), (3, .inr (.inr n122))] 4 rfl (by decide) rfl dL_law_1896 ?_
                                                refine g_goto C 23 (by decide) dL_law_1899 ?_
                                                refine GW.sub [1, 2, 3, 4, 0] rfl ?_
                                                have e1048 : Tg h1028 n1 = 11 := (fxT F1032 e143)
                                                have p1049 := (XInv_fx O1031 F1045 e1048 rfl p1034)
                                                have p1050 := (MInv_fx O1031 F1045 e1036 rfl p1039)
                                                have e1051 : Iv h1041 n1 0 = v141 := ((fxI F1045 e1048 rfl).trans ((fxI F1032 e143 rfl).trans e142))
                                                have e1052 : Iv h1041 n33 33 = v141 := ((fxI F1045 e1036 rfl).trans ((fxI F1032 e1038 rfl).trans e145))
                                                refine GW.widen (by omega : _ ≤ 12 * (x128 + 8).toNat + 119) (by omega : _ ≤ 804 * (x128 + 8).toNat + 52115) ?_
                                                exact ih131 _ (by omega) (x128 + 8) h1041 rfl O1044 ((F134.call F1032 rfl).call F1045 rfl) (iw f1047 (by decide) (by decide)) p1049 p1050 (e1051.trans (Eq.symm e1052))
                                              · rcases Classical.em ((bAnd (sx xs x128) 63) = 20) with q1053 | q1054
                                                · refine g_tin (kv := 20) C q1053 (by decide) 1246 (by decide) (by decide) rfl (by decide) dL_law_40 ?_
                                                  have f1055 : (20 : Int) ≤ (bAnd (sx xs x128) 63) ∧ (bAnd (sx xs x128) 63) ≤ (20 : Int) := ii f153 (r_eq (il 20) q1053) (by decide) (by decide)
                                                  refine g_aload_n C rfl 1 rfl dL_law_1246 ?_
                                                  refine g_aload_n C rfl 0 rfl dL_law_1247 ?_
                                                  refine g_iload C 4 rfl dL_law_1248 ?_
                                                  refine g_iconst C dL_law_1250 ?_
                                                  have f1056 : (1 : Int) ≤ (x128 + 1) ∧ (x128 + 1) ≤ (4089 : Int) := ia_add f150 (il 1) (by decide) (by decide)
                                                  refine g_iadd C dL_law_1251 ?_
                                                  refine g_sld C hX hbl hbz (by omega) (by omega) dL_law_1252 ?_
                                                  have f1057 : (-2147483648 : Int) ≤ (sx xs (x128 + 1)) ∧ (sx xs (x128 + 1)) ≤ (2147483647 : Int) := inR_of _
                                                  refine g_aload_n C rfl 0 rfl dL_law_1253 ?_
                                                  refine g_iload C 4 rfl dL_law_1254 ?_
                                                  refine g_iconst C dL_law_1256 ?_
                                                  have f1058 : (2 : Int) ≤ (x128 + 2) ∧ (x128 + 2) ≤ (4090 : Int) := ia_add f150 (il 2) (by decide) (by decide)
                                                  refine g_iadd C dL_law_1257 ?_
                                                  refine g_sld C hX hbl hbz (by omega) (by omega) dL_law_1258 ?_
                                                  have f1059 : (-2147483648 : Int) ≤ (sx xs (x128 + 2)) ∧ (sx xs (x128 + 2)) ≤ (2147483647 : Int) := inR_of _
                                                  refine g_aload_n C rfl 0 rfl dL_law_1259 ?_
                                                  refine g_iload C 4 rfl dL_law_1260 ?_
                                                  refine g_iconst C dL_law_1262 ?_
                                                  have f1060 : (3 : Int) ≤ (x128 + 3) ∧ (x128 + 3) ≤ (4091 : Int) := ia_add f150 (il 3) (by decide) (by decide)
                                                  refine g_iadd C dL_law_1263 ?_
                                                  refine g_sld C hX hbl hbz (by omega) (by omega) dL_law_1264 ?_
                                                  have f1061 : (-2147483648 : Int) ≤ (sx xs (x128 + 3)) ∧ (sx xs (x128 + 3)) ≤ (2147483647 : Int) := inR_of _
                                                  refine g_callI (st := []) (gc_V C lk_LandSurveyLaw_124 (k_X11_line l D cy w z0 O133 e143 f1057 f1059 f1061 p136) e143 rfl rfl rfl ⟨by decide, by decide⟩ (Nat.le_of_ble_eq_true rfl) dL_law_1265 ⟨(by show _ ≤ 601024; omega), (by show _ ≤ 7293034; omega)⟩) (fun r1062 h1063 f1065 K1064 => ?_)
                                                  obtain ⟨O1066, F1067, f1068, p1069⟩ := K1064
                                                  refine g_pop C rfl dL_law_1268 ?_
                                                  refine g_aload_n C rfl 2 rfl dL_law_1269 ?_
                                                  refine g_aload_n C rfl 0 rfl dL_law_1270 ?_
                                                  refine g_iload C 4 rfl dL_law_1271 ?_
                                                  refine g_iconst C dL_law_1273 ?_
                                                  refine g_iadd C dL_law_1274 ?_
                                                  refine g_sld C hX hbl hbz (by omega) (by omega) dL_law_1275 ?_
                                                  refine g_aload_n C rfl 0 rfl dL_law_1276 ?_
                                                  refine g_iload C 4 rfl dL_law_1277 ?_
                                                  refine g_iconst C dL_law_1279 ?_
                                                  refine g_iadd C dL_law_1280 ?_
                                                  refine g_sld C hX hbl hbz (by omega) (by omega) dL_law_1281 ?_
                                                  refine g_aload_n C rfl 0 rfl dL_law_1282 ?_
                                                  refine g_iload C 4 rfl dL_law_1283 ?_
                                                  refine g_iconst C dL_law_1285 ?_
                                                  refine g_iadd C dL_law_1286 ?_
                                                  refine g_sld C hX hbl hbz (by omega) (by omega) dL_law_1287 ?_
                                                  have e1070 : Tg h116 n33 = 12 := (pT_T hh115)
                                                  have e1071 : Tg h1063 n33 = 12 := (fxT F1067 (fxT F134 ((pNT hh125 (pN_n hh125 z124 e1070)).trans e1070)))
                                                  have e1072 : Tg h116 n33 = 12 := (pT_T hh115)
                                                  have e1073 : Tg h129 n33 = 12 := (fxT F134 ((pNT hh125 (pN_n hh125 z124 e1072)).trans e1072))
                                                  have p1074 := (MInv_fx O133 F1067 e1073 rfl p137)
                                                  refine g_callI (st := []) (gc_V C lk_LandSurveyLaw_127 (k_X12_line l D cy w z0 O1066 e1071 f1057 f1059 f1061 p1074) e1071 rfl rfl rfl ⟨by decide, by decide⟩ (Nat.le_of_ble_eq_true rfl) dL_law_1288 ⟨(by show _ ≤ 601024; omega), (by show _ ≤ 7293034; omega)⟩) (fun r1075 h1076 f1078 K1077 => ?_)
                                                  obtain ⟨O1079, F1080, f1081⟩ := K1077
                                                  refine g_pop C rfl dL_law_1291 ?_
                                                  refine g_goto C 1896 (by decide) dL_law_1292 ?_
                                                  have f1082 : (8 : Int) ≤ (x128 + 8) ∧ (x128 + 8) ≤ (4096 : Int) := ia_add f150 (il 8) (by decide) (by decide)
                                                  refine g_iinc C [(4, .inl (x128 + 8)), (0, .inr (.inr (b + 1))), (1, .inr (.inr n1)), (2, .inr (.inr n33)), (3, .inr (.inr n122))] 4 rfl (by decide) rfl dL_law_1896 ?_
                                                  refine g_goto C 23 (by decide) dL_law_1899 ?_
                                                  refine GW.sub [1, 2, 3, 4, 0] rfl ?_
                                                  have e1083 : Tg h1063 n1 = 11 := (fxT F1067 e143)
                                                  have p1084 := (XInv_fx O1066 F1080 e1083 rfl p1069)
                                                  have p1085 := (MInv_fx O1066 F1080 e1071 rfl p1074)
                                                  have e1086 : Iv h1076 n1 0 = v141 := ((fxI F1080 e1083 rfl).trans ((fxI F1067 e143 rfl).trans e142))
                                                  have e1087 : Iv h1076 n33 33 = v141 := ((fxI F1080 e1071 rfl).trans ((fxI F1067 e1073 rfl).trans e145))
                                                  refine GW.widen (by omega : _ ≤ 12 * (x128 + 8).toNat + 119) (by omega : _ ≤ 804 * (x128 + 8).toNat + 52115) ?_
                                                  exact ih131 _ (by omega) (x128 + 8) h1076 rfl O1079 ((F134.call F1067 rfl).call F1080 rfl) (iw f1082 (by decide) (by decide)) p1084 p1085 (e1086.trans (Eq.symm e1087))
                                                · rcases Classical.em ((bAnd (sx xs x128) 63) = 21) with q1088 | q1089
                                                  · refine g_tin (kv := 21) C q1088 (by decide) 1295 (by decide) (by decide) rfl (by decide) dL_law_40 ?_
                                                    have f1090 : (21 : Int) ≤ (bAnd (sx xs x128) 63) ∧ (bAnd (sx xs x128) 63) ≤ (21 : Int) := ii f153 (r_eq (il 21) q1088) (by decide) (by decide)
                                                    refine g_aload_n C rfl 1 rfl dL_law_1295 ?_
                                                    refine g_aload_n C rfl 0 rfl dL_law_1296 ?_
                                                    refine g_iload C 4 rfl dL_law_1297 ?_
                                                    refine g_iconst C dL_law_1299 ?_
                                                    have f1091 : (1 : Int) ≤ (x128 + 1) ∧ (x128 + 1) ≤ (4089 : Int) := ia_add f150 (il 1) (by decide) (by decide)
                                                    refine g_iadd C dL_law_1300 ?_
                                                    refine g_sld C hX hbl hbz (by omega) (by omega) dL_law_1301 ?_
                                                    have f1092 : (-2147483648 : Int) ≤ (sx xs (x128 + 1)) ∧ (sx xs (x128 + 1)) ≤ (2147483647 : Int) := inR_of _
                                                    refine g_aload_n C rfl 0 rfl dL_law_1302 ?_
                                                    refine g_iload C 4 rfl dL_law_1303 ?_
                                                    refine g_iconst C dL_law_1305 ?_
                                                    have f1093 : (2 : Int) ≤ (x128 + 2) ∧ (x128 + 2) ≤ (4090 : Int) := ia_add f150 (il 2) (by decide) (by decide)
                                                    refine g_iadd C dL_law_1306 ?_
                                                    refine g_sld C hX hbl hbz (by omega) (by omega) dL_law_1307 ?_
                                                    have f1094 : (-2147483648 : Int) ≤ (sx xs (x128 + 2)) ∧ (sx xs (x128 + 2)) ≤ (2147483647 : Int) := inR_of _
                                                    refine g_aload_n C rfl 0 rfl dL_law_1308 ?_
                                                    refine g_iload C 4 rfl dL_law_1309 ?_
                                                    refine g_iconst C dL_law_1311 ?_
                                                    have f1095 : (3 : Int) ≤ (x128 + 3) ∧ (x128 + 3) ≤ (4091 : Int) := ia_add f150 (il 3) (by decide) (by decide)
                                                    refine g_iadd C dL_law_1312 ?_
                                                    refine g_sld C hX hbl hbz (by omega) (by omega) dL_law_1313 ?_
                                                    have f1096 : (-2147483648 : Int) ≤ (sx xs (x128 + 3)) ∧ (sx xs (x128 + 3)) ≤ (2147483647 : Int) := inR_of _
                                                    refine g_aload_n C rfl 0 rfl dL_law_1314 ?_
                                                    refine g_iload C 4 rfl dL_law_1315 ?_
                                                    refine g_iconst C dL_law_1317 ?_
                                                    have f1097 : (4 : Int) ≤ (x128 + 4) ∧ (x128 + 4) ≤ (4092 : Int) := ia_add f150 (il 4) (by decide) (by decide)
                                                    refine g_iadd C dL_law_1318 ?_
                                                    refine g_sld C hX hbl hbz (by omega) (by omega) dL_law_1319 ?_
                                                    have f1098 : (-2147483648 : Int) ≤ (sx xs (x128 + 4)) ∧ (sx xs (x128 + 4)) ≤ (2147483647 : Int) := inR_of _
                                                    refine g_aload_n C rfl 3 rfl dL_law_1320 ?_
                                                    have e1099 : Tg h129 n122 = 99102 := (fxT F134 (pN_T hh125))
                                                    have e1100 : Ln h129 n122 = 1 := ((fxL F134 (pN_T hh125)).trans (pN_L hh125))
                                                    refine g_callI (st := []) (gw_S C (k_L_deep l hst D cy w z0 O133 e143 f1092 f1094 f1096 f1098 e1099 e1100 p136) kw_1441 kw_1442 kw_143 kw_1443 okL_deep rfl ⟨by decide, by decide⟩ (Nat.le_of_ble_eq_true rfl) dL_law_1321 ⟨(by show _ ≤ 601024; omega), (by show _ ≤ 7293034; omega)⟩) (fun r1101 h1102 f1103 K1104 => ?_)
                                                    obtain ⟨O1105, F1106, f1107, p1108⟩ := K1104
                                                    refine g_istore C [(5, .inl r1101), (0, .inr (.inr (b + 1))), (1, .inr (.inr n1)), (2, .inr (.inr n33)), (3, .inr (.inr n122)), (4, .inl x128)] (by decide) rfl dL_law_1324 ?_
                                                    refine g_aload_n C rfl 3 rfl dL_law_1326 ?_
                                                    refine g_aload_n C rfl 1 rfl dL_law_1327 ?_
                                                    refine g_iload C 5 rfl dL_law_1328 ?_
                                                    refine g_iconst C dL_law_1330 ?_
                                                    refine g_iadd C dL_law_1331 ?_
                                                    refine g_sld C hX hbl hbz (by omega) (by omega) dL_law_1332 ?_
                                                    refine g_aload_n C rfl 1 rfl dL_law_1333 ?_
                                                    refine g_iload C 5 rfl dL_law_1334 ?_
                                                    refine g_iconst C dL_law_1336 ?_
                                                    refine g_iadd C dL_law_1337 ?_
                                                    refine g_sld C hX hbl hbz (by omega) (by omega) dL_law_1338 ?_
                                                    refine g_aload_n C rfl 1 rfl dL_law_1339 ?_
                                                    refine g_iload C 5 rfl dL_law_1340 ?_
                                                    refine g_iconst C dL_law_1342 ?_
                                                    refine g_iadd C dL_law_1343 ?_
                                                    refine g_sld C hX hbl hbz (by omega) (by omega) dL_law_1344 ?_
                                                    refine g_aload_n C rfl 1 rfl dL_law_1345 ?_
                                                    refine g_iload C 5 rfl dL_law_1346 ?_
                                                    refine g_iconst C dL_law_1348 ?_
                                                    refine g_iadd C dL_law_1349 ?_
                                                    refine g_sld C hX hbl hbz (by omega) (by omega) dL_law_1350 ?_
                                                    have e1109 : Tg h116 n33 = 12 := (pT_T hh115)
                                                    have e1110 : Tg h1102 n33 = 12 := (fxT F1106 (fxT F134 ((pNT hh125 (pN_n hh125 z124 e1109)).trans e1109)))
                                                    have e1111 : Tg h116 n33 = 12 := (pT_T hh115)
                                                    have e1112 : Tg h129 n33 = 12 := (fxT F134 ((pNT hh125 (pN_n hh125 z124 e1111)).trans e1111))
                                                    have p1113 := (MInv_fx O133 F1106 e1112 rfl p137)
                                                    refine g_callI (st := []) (gc_V C lk_LandSurveyLaw_130 (k_X12_deep l D cy w z0 O1105 e1110 f1092 f1094 f1096 f1098 p1113) e1110 rfl rfl rfl ⟨by decide, by decide⟩ (Nat.le_of_ble_eq_true rfl) dL_law_1351 ⟨(by show _ ≤ 601024; omega), (by show _ ≤ 7293034; omega)⟩) (fun r1114 h1115 f1117 K1116 => ?_)
                                                    obtain ⟨O1118, F1119, f1120⟩ := K1116
                                                    refine g_istore C [(6, .inl r1114), (5, .inl r1101), (0, .inr (.inr (b + 1))), (1, .inr (.inr n1)), (2, .inr (.inr n33)), (3, .inr (.inr n122)), (4, .inl x128)] (by decide) rfl dL_law_1354 ?_
                                                    refine g_goto C 1896 (by decide) dL_law_1356 ?_
                                                    have f1121 : (8 : Int) ≤ (x128 + 8) ∧ (x128 + 8) ≤ (4096 : Int) := ia_add f150 (il 8) (by decide) (by decide)
                                                    refine g_iinc C [(4, .inl (x128 + 8)), (6, .inl r1114), (5, .inl r1101), (0, .inr (.inr (b + 1))), (1, .inr (.inr n1)), (2, .inr (.inr n33)), (3, .inr (.inr n122))] 6 rfl (by decide) rfl dL_law_1896 ?_
                                                    refine g_goto C 23 (by decide) dL_law_1899 ?_
                                                    refine GW.sub [3, 4, 5, 6, 0] rfl ?_
                                                    have e1122 : Tg h1102 n1 = 11 := (fxT F1106 e143)
                                                    have p1123 := (XInv_fx O1105 F1119 e1122 rfl p1108)
                                                    have p1124 := (MInv_fx O1105 F1119 e1110 rfl p1113)
                                                    have e1125 : Iv h1115 n1 0 = v141 := ((fxI F1119 e1122 rfl).trans ((fxI F1106 e143 rfl).trans e142))
                                                    have e1126 : Iv h1115 n33 33 = v141 := ((fxI F1119 e1110 rfl).trans ((fxI F1106 e1112 rfl).trans e145))
                                                    refine GW.widen (by omega : _ ≤ 12 * (x128 + 8).toNat + 119) (by omega : _ ≤ 804 * (x128 + 8).toNat + 52115) ?_
                                                    exact ih131 _ (by omega) (x128 + 8) h1115 rfl O1118 ((F134.call F1106 rfl).call F1119 rfl) (iw f1121 (by decide) (by decide)) p1123 p1124 (e1125.trans (Eq.symm e1126))
                                                  · rcases Classical.em ((bAnd (sx xs x128) 63) = 22) with q1127 | q1128
                                                    · refine g_tin (kv := 22) C q1127 (by decide) 1359 (by decide) (by decide) rfl (by decide) dL_law_40 ?_
                                                      have f1129 : (22 : Int) ≤ (bAnd (sx xs x128) 63) ∧ (bAnd (sx xs x128) 63) ≤ (22 : Int) := ii f153 (r_eq (il 22) q1127) (by decide) (by decide)
                                                      refine g_aload_n C rfl 1 rfl dL_law_1359 ?_
                                                      refine g_aload_n C rfl 0 rfl dL_law_1360 ?_
                                                      refine g_iload C 4 rfl dL_law_1361 ?_
                                                      refine g_iconst C dL_law_1363 ?_
                                                      have f1130 : (1 : Int) ≤ (x128 + 1) ∧ (x128 + 1) ≤ (4089 : Int) := ia_add f150 (il 1) (by decide) (by decide)
                                                      refine g_iadd C dL_law_1364 ?_
                                                      refine g_sld C hX hbl hbz (by omega) (by omega) dL_law_1365 ?_
                                                      have f1131 : (-2147483648 : Int) ≤ (sx xs (x128 + 1)) ∧ (sx xs (x128 + 1)) ≤ (2147483647 : Int) := inR_of _
                                                      refine g_aload_n C rfl 0 rfl dL_law_1366 ?_
                                                      refine g_iload C 4 rfl dL_law_1367 ?_
                                                      refine g_iconst C dL_law_1369 ?_
                                                      have f1132 : (2 : Int) ≤ (x128 + 2) ∧ (x128 + 2) ≤ (4090 : Int) := ia_add f150 (il 2) (by decide) (by decide)
                                                      refine g_iadd C dL_law_1370 ?_
                                                      refine g_sld C hX hbl hbz (by omega) (by omega) dL_law_1371 ?_
                                                      have f1133 : (-2147483648 : Int) ≤ (sx xs (x128 + 2)) ∧ (sx xs (x128 + 2)) ≤ (2147483647 : Int) := inR_of _
                                                      refine g_aload_n C rfl 0 rfl dL_law_1372 ?_
                                                      refine g_iload C 4 rfl dL_law_1373 ?_
                                                      refine g_iconst C dL_law_1375 ?_
                                                      have f1134 : (3 : Int) ≤ (x128 + 3) ∧ (x128 + 3) ≤ (4091 : Int) := ia_add f150 (il 3) (by decide) (by decide)
                                                      refine g_iadd C dL_law_1376 ?_
                                                      refine g_sld C hX hbl hbz (by omega) (by omega) dL_law_1377 ?_
                                                      have f1135 : (-2147483648 : Int) ≤ (sx xs (x128 + 3)) ∧ (sx xs (x128 + 3)) ≤ (2147483647 : Int) := inR_of _
                                                      refine g_callI (st := []) (gc_V C lk_LandSurveyLaw_131 (k_X11_water l D cy w z0 O133 e143 f1131 f1133 f1135 p136) e143 rfl rfl rfl ⟨by decide, by decide⟩ (Nat.le_of_ble_eq_true rfl) dL_law_1378 ⟨(by show _ ≤ 601024; omega), (by show _ ≤ 7293034; omega)⟩) (fun r1136 h1137 f1139 K1138 => ?_)
                                                      obtain ⟨O1140, F1141, f1142, p1143⟩ := K1138
                                                      refine g_pop C rfl dL_law_1381 ?_
                                                      refine g_aload_n C rfl 2 rfl dL_law_1382 ?_
                                                      refine g_aload_n C rfl 0 rfl dL_law_1383 ?_
                                                      refine g_iload C 4 rfl dL_law_1384 ?_
                                                      refine g_iconst C dL_law_1386 ?_
                                                      refine g_iadd C dL_law_1387 ?_
                                                      refine g_sld C hX hbl hbz (by omega) (by omega) dL_law_1388 ?_
                                                      refine g_aload_n C rfl 0 rfl dL_law_1389 ?_
                                                      refine g_iload C 4 rfl dL_law_1390 ?_
                                                      refine g_iconst C dL_law_1392 ?_
                                                      refine g_iadd C dL_law_1393 ?_
                                                      refine g_sld C hX hbl hbz (by omega) (by omega) dL_law_1394 ?_
                                                      refine g_aload_n C rfl 0 rfl dL_law_1395 ?_
                                                      refine g_iload C 4 rfl dL_law_1396 ?_
                                                      refine g_iconst C dL_law_1398 ?_
                                                      refine g_iadd C dL_law_1399 ?_
                                                      refine g_sld C hX hbl hbz (by omega) (by omega) dL_law_1400 ?_
                                                      have e1144 : Tg h116 n33 = 12 := (pT_T hh115)
                                                      have e1145 : Tg h1137 n33 = 12 := (fxT F1141 (fxT F134 ((pNT hh125 (pN_n hh125 z124 e1144)).trans e1144)))
                                                      have e1146 : Tg h116 n33 = 12 := (pT_T hh115)
                                                      have e1147 : Tg h129 n33 = 12 := (fxT F134 ((pNT hh125 (pN_n hh125 z124 e1146)).trans e1146))
                                                      have p1148 := (MInv_fx O133 F1141 e1147 rfl p137)
                                                      refine g_callI (st := []) (gc_V C lk_LandSurveyLaw_134 (k_X12_water l D cy w z0 O1140 e1145 f1131 f1133 f1135 p1148) e1145 rfl rfl rfl ⟨by decide, by decide⟩ (Nat.le_of_ble_eq_true rfl) dL_law_1401 ⟨(by show _ ≤ 601024; omega), (by show _ ≤ 7293034; omega)⟩) (fun r1149 h1150 f1152 K1151 => ?_)
                                                      obtain ⟨O1153, F1154, f1155⟩ := K1151
                                                      refine g_pop C rfl dL_law_1404 ?_
                                                      refine g_goto C 1896 (by decide) dL_law_1405 ?_
                                                      have f1156 : (8 : Int) ≤ (x128 + 8) ∧ (x128 + 8) ≤ (4096 : Int) := ia_add f150 (il 8) (by decide) (by decide)
                                                      refine g_iinc C [(4, .inl (x128 + 8)), (0, .inr (.inr (b + 1))), (1, .inr (.inr n1)), (2, .inr (.inr n33)), (3, .inr (.inr n122))] 4 rfl (by decide) rfl dL_law_1896 ?_
                                                      refine g_goto C 23 (by decide) dL_law_1899 ?_
                                                      refine GW.sub [1, 2, 3, 4, 0] rfl ?_
                                                      have e1157 : Tg h1137 n1 = 11 := (fxT F1141 e143)
                                                      have p1158 := (XInv_fx O1140 F1154 e1157 rfl p1143)
                                                      have p1159 := (MInv_fx O1140 F1154 e1145 rfl p1148)
                                                      have e1160 : Iv h1150 n1 0 = v141 := ((fxI F1154 e1157 rfl).trans ((fxI F1141 e143 rfl).trans e142))
                                                      have e1161 : Iv h1150 n33 33 = v141 := ((fxI F1154 e1145 rfl).trans ((fxI F1141 e1147 rfl).trans e145))
                                                      refine GW.widen (by omega : _ ≤ 12 * (x128 + 8).toNat + 119) (by omega : _ ≤ 804 * (x128 + 8).toNat + 52115) ?_
                                                      exact ih131 _ (by omega) (x128 + 8) h1150 rfl O1153 ((F134.call F1141 rfl).call F1154 rfl) (iw f1156 (by decide) (by decide)) p1158 p1159 (e1160.trans (Eq.symm e1161))
                                                    · rcases Classical.em ((bAnd (sx xs x128) 63) = 23) with q1162 | q1163
                                                      · refine g_tin (kv := 23) C q1162 (by decide) 1408 (by decide) (by decide) rfl (by decide) dL_law_40 ?_
                                                        have f1164 : (23 : Int) ≤ (bAnd (sx xs x128) 63) ∧ (bAnd (sx xs x128) 63) ≤ (23 : Int) := ii f153 (r_eq (il 23) q1162) (by decide) (by decide)
                                                        refine g_aload_n C rfl 1 rfl dL_law_1408 ?_
                                                        refine g_aload_n C rfl 0 rfl dL_law_1409 ?_
                                                        refine g_iload C 4 rfl dL_law_1410 ?_
                                                        refine g_iconst C dL_law_1412 ?_
                                                        have f1165 : (1 : Int) ≤ (x128 + 1) ∧ (x128 + 1) ≤ (4089 : Int) := ia_add f150 (il 1) (by decide) (by decide)
                                                        refine g_iadd C dL_law_1413 ?_
                                                        refine g_sld C hX hbl hbz (by omega) (by omega) dL_law_1414 ?_
                                                        have f1166 : (-2147483648 : Int) ≤ (sx xs (x128 + 1)) ∧ (sx xs (x128 + 1)) ≤ (2147483647 : Int) := inR_of _
                                                        refine g_aload_n C rfl 0 rfl dL_law_1415 ?_
                                                        refine g_iload C 4 rfl dL_law_1416 ?_
                                                        refine g_iconst C dL_law_1418 ?_
                                                        have f1167 : (2 : Int) ≤ (x128 + 2) ∧ (x128 + 2) ≤ (4090 : Int) := ia_add f150 (il 2) (by decide) (by decide)
                                                        refine g_iadd C dL_law_1419 ?_
                                                        refine g_sld C hX hbl hbz (by omega) (by omega) dL_law_1420 ?_
                                                        have f1168 : (-2147483648 : Int) ≤ (sx xs (x128 + 2)) ∧ (sx xs (x128 + 2)) ≤ (2147483647 : Int) := inR_of _
                                                        refine g_aload_n C rfl 0 rfl dL_law_1421 ?_
                                                        refine g_iload C 4 rfl dL_law_1422 ?_
                                                        refine g_iconst C dL_law_1424 ?_
                                                        have f1169 : (3 : Int) ≤ (x128 + 3) ∧ (x128 + 3) ≤ (4091 : Int) := ia_add f150 (il 3) (by decide) (by decide)
                                                        refine g_iadd C dL_law_1425 ?_
                                                        refine g_sld C hX hbl hbz (by omega) (by omega) dL_law_1426 ?_
                                                        have f1170 : (-2147483648 : Int) ≤ (sx xs (x128 + 3)) ∧ (sx xs (x128 + 3)) ≤ (2147483647 : Int) := inR_of _
                                                        refine g_callI (st := []) (gc_V C lk_LandSurveyLaw_135 (k_X11_seam l D cy w z0 O133 e143 f1166 f1168 f1170 p136) e143 rfl rfl rfl ⟨by decide, by decide⟩ (Nat.le_of_ble_eq_true rfl) dL_law_1427 ⟨(by show _ ≤ 601024; omega), (by show _ ≤ 7293034; omega)⟩) (fun r1171 h1172 f1174 K1173 => ?_)
                                                        obtain ⟨O1175, F1176, f1177, p1178⟩ := K1173
                                                        refine g_pop C rfl dL_law_1430 ?_
                                                        refine g_aload_n C rfl 2 rfl dL_law_1431 ?_
                                                        refine g_aload_n C rfl 0 rfl dL_law_1432 ?_
                                                        refine g_iload C 4 rfl dL_law_1433 ?_
                                                        refine g_iconst C dL_law_1435 ?_
                                                        refine g_iadd C dL_law_1436 ?_
                                                        refine g_sld C hX hbl hbz (by omega) (by omega) dL_law_1437 ?_
                                                        refine g_aload_n C rfl 0 rfl dL_law_1438 ?_
                                                        refine g_iload C 4 rfl dL_law_1439 ?_
                                                        refine g_iconst C dL_law_1441 ?_
                                                        refine g_iadd C dL_law_1442 ?_
                                                        refine g_sld C hX hbl hbz (by omega) (by omega) dL_law_1443 ?_
                                                        refine g_aload_n C rfl 0 rfl dL_law_1444 ?_
                                                        refine g_iload C 4 rfl dL_law_1445 ?_
                                                        refine g_iconst C dL_law_1447 ?_
                                                        refine g_iadd C dL_law_1448 ?_
                                                        refine g_sld C hX hbl hbz (by omega) (by omega) dL_law_1449 ?_
                                                        have e1179 : Tg h116 n33 = 12 := (pT_T hh115)
                                                        have e1180 : Tg h1172 n33 = 12 := (fxT F1176 (fxT F134 ((pNT hh125 (pN_n hh125 z124 e1179)).trans e1179)))
                                                        have e1181 : Tg h116 n33 = 12 := (pT_T hh115)
                                                        have e1182 : Tg h129 n33 = 12 := (fxT F134 ((pNT hh125 (pN_n hh125 z124 e1181)).trans e1181))
                                                        have p1183 := (MInv_fx O133 F1176 e1182 rfl p137)
                                                        refine g_callI (st := []) (gc_V C lk_LandSurveyLaw_138 (k_X12_seam l D cy w z0 O1175 e1180 f1166 f1168 f1170 p1183) e1180 rfl rfl rfl ⟨by decide, by decide⟩ (Nat.le_of_ble_eq_true rfl) dL_law_1450 ⟨(by show _ ≤ 601024; omega), (by show _ ≤ 7293034; omega)⟩) (fun r1184 h1185 f1187 K1186 => ?_)
                                                        obtain ⟨O1188, F1189, f1190⟩ := K1186
                                                        refine g_pop C rfl dL_law_1453 ?_
                                                        refine g_goto C 1896 (by decide) dL_law_1454 ?_
                                                        have f1191 : (8 : Int) ≤ (x128 + 8) ∧ (x128 + 8) ≤ (4096 : Int) := ia_add f150 (il 8) (by decide) (by decide)
                                                        refine g_iinc C [(4, .inl (x128 + 8)), (0, .inr (.inr (b + 1))), (1, .inr (.inr n1)), (2, .inr (.inr n33)), (3, .inr (.inr n122))] 4 rfl (by decide) rfl dL_law_1896 ?_
                                                        refine g_goto C 23 (by decide) dL_law_1899 ?_
                                                        refine GW.sub [1, 2, 3, 4, 0] rfl ?_
                                                        have e1192 : Tg h1172 n1 = 11 := (fxT F1176 e143)
                                                        have p1193 := (XInv_fx O1175 F1189 e1192 rfl p1178)
                                                        have p1194 := (MInv_fx O1175 F1189 e1180 rfl p1183)
                                                        have e1195 : Iv h1185 n1 0 = v141 := ((fxI F1189 e1192 rfl).trans ((fxI F1176 e143 rfl).trans e142))
                                                        have e1196 : Iv h1185 n33 33 = v141 := ((fxI F1189 e1180 rfl).trans ((fxI F1176 e1182 rfl).trans e145))
                                                        refine GW.widen (by omega : _ ≤ 12 * (x128 + 8).toNat + 119) (by omega : _ ≤ 804 * (x128 + 8).toNat + 52115) ?_
                                                        exact ih131 _ (by omega) (x128 + 8) h1185 rfl O1188 ((F134.call F1176 rfl).call F1189 rfl) (iw f1191 (by decide) (by decide)) p1193 p1194 (e1195.trans (Eq.symm e1196))
                                                      · rcases Classical.em ((bAnd (sx xs x128) 63) = 24) with q1197 | q1198
                                                        · refine g_tin (kv := 24) C q1197 (by decide) 1457 (by decide) (by decide) rfl (by decide) dL_law_40 ?_
                                                          have f1199 : (24 : Int) ≤ (bAnd (sx xs x128) 63) ∧ (bAnd (sx xs x128) 63) ≤ (24 : Int) := ii f153 (r_eq (il 24) q1197) (by decide) (by decide)
                                                          refine g_aload_n C rfl 1 rfl dL_law_1457 ?_
                                                          refine g_aload_n C rfl 0 rfl dL_law_1458 ?_
                                                          refine g_iload C 4 rfl dL_law_1459 ?_
                                                          refine g_iconst C dL_law_1461 ?_
                                                          have f1200 : (1 : Int) ≤ (x128 + 1) ∧ (x128 + 1) ≤ (4089 : Int) := ia_add f150 (il 1) (by decide) (by decide)
                                                          refine g_iadd C dL_law_1462 ?_
                                                          refine g_sld C hX hbl hbz (by omega) (by omega) dL_law_1463 ?_
                                                          have f1201 : (-2147483648 : Int) ≤ (sx xs (x128 + 1)) ∧ (sx xs (x128 + 1)) ≤ (2147483647 : Int) := inR_of _
                                                          refine g_aload_n C rfl 0 rfl dL_law_1464 ?_
                                                          refine g_iload C 4 rfl dL_law_1465 ?_
                                                          refine g_iconst C dL_law_1467 ?_
                                                          have f1202 : (2 : Int) ≤ (x128 + 2) ∧ (x128 + 2) ≤ (4090 : Int) := ia_add f150 (il 2) (by decide) (by decide)
                                                          refine g_iadd C dL_law_1468 ?_
                                                          refine g_sld C hX hbl hbz (by omega) (by omega) dL_law_1469 ?_
                                                          have f1203 : (-2147483648 : Int) ≤ (sx xs (x128 + 2)) ∧ (sx xs (x128 + 2)) ≤ (2147483647 : Int) := inR_of _
                                                          refine g_aload_n C rfl 0 rfl dL_law_1470 ?_
                                                          refine g_iload C 4 rfl dL_law_1471 ?_
                                                          refine g_iconst C dL_law_1473 ?_
                                                          have f1204 : (3 : Int) ≤ (x128 + 3) ∧ (x128 + 3) ≤ (4091 : Int) := ia_add f150 (il 3) (by decide) (by decide)
                                                          refine g_iadd C dL_law_1474 ?_
                                                          refine g_sld C hX hbl hbz (by omega) (by omega) dL_law_1475 ?_
                                                          have f1205 : (-2147483648 : Int) ≤ (sx xs (x128 + 3)) ∧ (sx xs (x128 + 3)) ≤ (2147483647 : Int) := inR_of _
                                                          refine g_aload_n C rfl 0 rfl dL_law_1476 ?_
                                                          refine g_iload C 4 rfl dL_law_1477 ?_
                                                          refine g_iconst C dL_law_1479 ?_
                                                          have f1206 : (4 : Int) ≤ (x128 + 4) ∧ (x128 + 4) ≤ (4092 : Int) := ia_add f150 (il 4) (by decide) (by decide)
                                                          refine g_iadd C dL_law_1480 ?_
                                                          refine g_sld C hX hbl hbz (by omega) (by omega) dL_law_1481 ?_
                                                          have f1207 : (-2147483648 : Int) ≤ (sx xs (x128 + 4)) ∧ (sx xs (x128 + 4)) ≤ (2147483647 : Int) := inR_of _
                                                          refine g_callI (st := []) (gc_V C lk_LandSurveyLaw_139 (k_X11_sheet l D cy w z0 O133 e143 f1201 f1203 f1205 f1207 p136) e143 rfl rfl rfl ⟨by decide, by decide⟩ (Nat.le_of_ble_eq_true rfl) dL_law_1482 ⟨(by show _ ≤ 601024; omega), (by show _ ≤ 7293034; omega)⟩) (fun r1208 h1209 f1211 K1210 => ?_)
                                                          obtain ⟨O1212, F1213, f1214, p1215⟩ := K1210
                                                          refine g_pop C rfl dL_law_1485 ?_
                                                          refine g_aload_n C rfl 2 rfl dL_law_1486 ?_
                                                          refine g_aload_n C rfl 0 rfl dL_law_1487 ?_
                                                          refine g_iload C 4 rfl dL_law_1488 ?_
                                                          refine g_iconst C dL_law_1490 ?_
                                                          refine g_iadd C dL_law_1491 ?_
                                                          refine g_sld C hX hbl hbz (by omega) (by omega) dL_law_1492 ?_
                                                          refine g_aload_n C rfl 0 rfl dL_law_1493 ?_
                                                          refine g_iload C 4 rfl dL_law_1494 ?_
                                                          refine g_iconst C dL_law_1496 ?_
                                                          refine g_iadd C dL_law_1497 ?_
                                                          refine g_sld C hX hbl hbz (by omega) (by omega) dL_law_1498 ?_
                                                          refine g_aload_n C rfl 0 rfl dL_law_1499 ?_
                                                          refine g_iload C 4 rfl dL_law_1500 ?_
                                                          refine g_iconst C dL_law_1502 ?_
                                                          refine g_iadd C dL_law_1503 ?_
                                                          refine g_sld C hX hbl hbz (by omega) (by omega) dL_law_1504 ?_
                                                          refine g_aload_n C rfl 0 rfl dL_law_1505 ?_
                                                          refine g_iload C 4 rfl dL_law_1506 ?_
                                                          refine g_iconst C dL_law_1508 ?_
                                                          refine g_iadd C dL_law_1509 ?_
                                                          refine g_sld C hX hbl hbz (by omega) (by omega) dL_law_1510 ?_
                                                          have e1216 : Tg h116 n33 = 12 := (pT_T hh115)
                                                          have e1217 : Tg h1209 n33 = 12 := (fxT F1213 (fxT F134 ((pNT hh125 (pN_n hh125 z124 e1216)).trans e1216)))
                                                          have e1218 : Tg h116 n33 = 12 := (pT_T hh115)
                                                          have e1219 : Tg h129 n33 = 12 := (fxT F134 ((pNT hh125 (pN_n hh125 z124 e1218)).trans e1218))
                                                          have p1220 := (MInv_fx O133 F1213 e1219 rfl p137)
                                                          refine g_callI (st := []) (gc_V C lk_LandSurveyLaw_142 (k_X12_sheet l D cy w z0 O1212 e1217 f1201 f1203 f1205 f1207 p1220) e1217 rfl rfl rfl ⟨by decide, by decide⟩ (Nat.le_of_ble_eq_true rfl) dL_law_1511 ⟨(by show _ ≤ 601024; omega), (by show _ ≤ 7293034; omega)⟩) (fun r1221 h1222 f1224 K1223 => ?_)
                                                          obtain ⟨O1225, F1226, f1227⟩ := K1223
                                                          refine g_pop C rfl dL_law_1514 ?_
                                                          refine g_goto C 1896 (by decide) dL_law_1515 ?_
                                                          have f1228 : (8 : Int) ≤ (x128 + 8) ∧ (x128 + 8) ≤ (4096 : Int) := ia_add f150 (il 8) (by decide) (by decide)
                                                          refine g_iinc C [(4, .inl (x128 + 8)), (0, .inr (.inr (b + 1))), (1, .inr (.inr n1)), (2, .inr (.inr n33)), (3, .inr (.inr n122))] 4 rfl (by decide) rfl dL_law_1896 ?_
                                                          refine g_goto C 23 (by decide) dL_law_1899 ?_
                                                          refine GW.sub [1, 2, 3, 4, 0] rfl ?_
                                                          have e1229 : Tg h1209 n1 = 11 := (fxT F1213 e143)
                                                          have p1230 := (XInv_fx O1212 F1226 e1229 rfl p1215)
                                                          have p1231 := (MInv_fx O1212 F1226 e1217 rfl p1220)
                                                          have e1232 : Iv h1222 n1 0 = v141 := ((fxI F1226 e1229 rfl).trans ((fxI F1213 e143 rfl).trans e142))
                                                          have e1233 : Iv h1222 n33 33 = v141 := ((fxI F1226 e1217 rfl).trans ((fxI F1213 e1219 rfl).trans e145))
                                                          refine GW.widen (by omega : _ ≤ 12 * (x128 + 8).toNat + 119) (by omega : _ ≤ 804 * (x128 + 8).toNat + 52115) ?_
                                                          exact ih131 _ (by omega) (x128 + 8) h1222 rfl O1225 ((F134.call F1213 rfl).call F1226 rfl) (iw f1228 (by decide) (by decide)) p1230 p1231 (e1232.trans (Eq.symm e1233))
                                                        · rcases Classical.em ((bAnd (sx xs x128) 63) = 25) with q1234 | q1235
                                                          · refine g_tin (kv := 25) C q1234 (by decide) 1518 (by decide) (by decide) rfl (by decide) dL_law_40 ?_
                                                            have f1236 : (25 : Int) ≤ (bAnd (sx xs x128) 63) ∧ (bAnd (sx xs x128) 63) ≤ (25 : Int) := ii f153 (r_eq (il 25) q1234) (by decide) (by decide)
                                                            refine g_aload_n C rfl 1 rfl dL_law_1518 ?_
                                                            refine g_aload_n C rfl 0 rfl dL_law_1519 ?_
                                                            refine g_iload C 4 rfl dL_law_1520 ?_
                                                            refine g_iconst C dL_law_1522 ?_
                                                            have f1237 : (1 : Int) ≤ (x128 + 1) ∧ (x128 + 1) ≤ (4089 : Int) := ia_add f150 (il 1) (by decide) (by decide)
                                                            refine g_iadd C dL_law_1523 ?_
                                                            refine g_sld C hX hbl hbz (by omega) (by omega) dL_law_1524 ?_
                                                            have f1238 : (-2147483648 : Int) ≤ (sx xs (x128 + 1)) ∧ (sx xs (x128 + 1)) ≤ (2147483647 : Int) := inR_of _
                                                            refine g_aload_n C rfl 0 rfl dL_law_1525 ?_
                                                            refine g_iload C 4 rfl dL_law_1526 ?_
                                                            refine g_iconst C dL_law_1528 ?_
                                                            have f1239 : (2 : Int) ≤ (x128 + 2) ∧ (x128 + 2) ≤ (4090 : Int) := ia_add f150 (il 2) (by decide) (by decide)
                                                            refine g_iadd C dL_law_1529 ?_
                                                            refine g_sld C hX hbl hbz (by omega) (by omega) dL_law_1530 ?_
                                                            have f1240 : (-2147483648 : Int) ≤ (sx xs (x128 + 2)) ∧ (sx xs (x128 + 2)) ≤ (2147483647 : Int) := inR_of _
                                                            refine g_aload_n C rfl 0 rfl dL_law_1531 ?_
                                                            refine g_iload C 4 rfl dL_law_1532 ?_
                                                            refine g_iconst C dL_law_1534 ?_
                                                            have f1241 : (3 : Int) ≤ (x128 + 3) ∧ (x128 + 3) ≤ (4091 : Int) := ia_add f150 (il 3) (by decide) (by decide)
                                                            refine g_iadd C dL_law_1535 ?_
                                                            refine g_sld C hX hbl hbz (by omega) (by omega) dL_law_1536 ?_
                                                            have f1242 : (-2147483648 : Int) ≤ (sx xs (x128 + 3)) ∧ (sx xs (x128 + 3)) ≤ (2147483647 : Int) := inR_of _
                                                            refine g_callI (st := []) (gc_V C lk_LandSurveyLaw_143 (k_X11_drawn l D cy w z0 O133 e143 f1238 f1240 f1242 p136) e143 rfl rfl rfl ⟨by decide, by decide⟩ (Nat.le_of_ble_eq_true rfl) dL_law_1537 ⟨(by show _ ≤ 601024; omega), (by show _ ≤ 7293034; omega)⟩) (fun r1243 h1244 f1246 K1245 => ?_)
                                                            obtain ⟨O1247, F1248, f1249, p1250⟩ := K1245
                                                            refine g_pop C rfl dL_law_1540 ?_
                                                            refine g_aload_n C rfl 2 rfl dL_law_1541 ?_
                                                            refine g_aload_n C rfl 0 rfl dL_law_1542 ?_
                                                            refine g_iload C 4 rfl dL_law_1543 ?_
                                                            refine g_iconst C dL_law_1545 ?_
                                                            refine g_iadd C dL_law_1546 ?_
                                                            refine g_sld C hX hbl hbz (by omega) (by omega) dL_law_1547 ?_
                                                            refine g_aload_n C rfl 0 rfl dL_law_1548 ?_
                                                            refine g_iload C 4 rfl dL_law_1549 ?_
                                                            refine g_iconst C dL_law_1551 ?_
                                                            refine g_iadd C dL_law_1552 ?_
                                                            refine g_sld C hX hbl hbz (by omega) (by omega) dL_law_1553 ?_
                                                            refine g_aload_n C rfl 0 rfl dL_law_1554 ?_
                                                            refine g_iload C 4 rfl dL_law_1555 ?_
                                                            refine g_iconst C dL_law_1557 ?_
                                                            refine g_iadd C dL_law_1558 ?_
                                                            refine g_sld C hX hbl hbz (by omega) (by omega) dL_law_1559 ?_
                                                            have e1251 : Tg h116 n33 = 12 := (pT_T hh115)
                                                            have e1252 : Tg h1244 n33 = 12 := (fxT F1248 (fxT F134 ((pNT hh125 (pN_n hh125 z124 e1251)).trans e1251)))
                                                            have e1253 : Tg h116 n33 = 12 := (pT_T hh115)
                                                            have e1254 : Tg h129 n33 = 12 := (fxT F134 ((pNT hh125 (pN_n hh125 z124 e1253)).trans e1253))
                                                            have p1255 := (MInv_fx O133 F1248 e1254 rfl p137)
                                                            refine g_callI (st := []) (gc_V C lk_LandSurveyLaw_146 (k_X12_drawn l D cy w z0 O1247 e1252 f1238 f1240 f1242 p1255) e1252 rfl rfl rfl ⟨by decide, by decide⟩ (Nat.le_of_ble_eq_true rfl) dL_law_1560 ⟨(by show _ ≤ 601024; omega), (by show _ ≤ 7293034; omega)⟩) (fun r1256 h1257 f1259 K1258 => ?_)
                                                            obtain ⟨O1260, F1261, f1262⟩ := K1258
                                                            refine g_pop C rfl dL_law_1563 ?_
                                                            refine g_goto C 1896 (by decide) dL_law_1564 ?_
                                                            have f1263 : (8 : Int) ≤ (x128 + 8) ∧ (x128 + 8) ≤ (4096 : Int) := ia_add f150 (il 8) (by decide) (by decide)
                                                            refine g_iinc C [(4, .inl (x128 + 8)), (0, .inr (.inr (b + 1))), (1, .inr (.inr n1)), (2, .inr (.inr n33)), (3, .inr (.inr n122))] 4 rfl (by decide) rfl dL_law_1896 ?_
                                                            refine g_goto C 23 (by decide) dL_law_1899 ?_
                                                            refine GW.sub [1, 2, 3, 4, 0] rfl ?_
                                                            have e1264 : Tg h1244 n1 = 11 := (fxT F1248 e143)
                                                            have p1265 := (XInv_fx O1247 F1261 e1264 rfl p1250)
                                                            have p1266 := (MInv_fx O1247 F1261 e1252 rfl p1255)
                                                            have e1267 : Iv h1257 n1 0 = v141 := ((fxI F1261 e1264 rfl).trans ((fxI F1248 e143 rfl).trans e142))
                                                            have e1268 : Iv h1257 n33 33 = v141 := ((fxI F1261 e1252 rfl).trans ((fxI F1248 e1254 rfl).trans e145))
                                                            refine GW.widen (by omega : _ ≤ 12 * (x128 + 8).toNat + 119) (by omega : _ ≤ 804 * (x128 + 8).toNat + 52115) ?_
                                                            exact ih131 _ (by omega) (x128 + 8) h1257 rfl O1260 ((F134.call F1248 rfl).call F1261 rfl) (iw f1263 (by decide) (by decide)) p1265 p1266 (e1267.trans (Eq.symm e1268))
                                                          · rcases Classical.em ((bAnd (sx xs x128) 63) = 26) with q1269 | q1270
                                                            · refine g_tin (kv := 26) C q1269 (by decide) 1567 (by decide) (by decide) rfl (by decide) dL_law_40 ?_
                                                              have f1271 : (26 : Int) ≤ (bAnd (sx xs x128) 63) ∧ (bAnd (sx xs x128) 63) ≤ (26 : Int) := ii f153 (r_eq (il 26) q1269) (by decide) (by decide)
                                                              refine g_aload_n C rfl 1 rfl dL_law_1567 ?_
                                                              refine g_aload_n C rfl 0 rfl dL_law_1568 ?_
                                                              refine g_iload C 4 rfl dL_law_1569 ?_
                                                              refine g_iconst C dL_law_1571 ?_
                                                              have f1272 : (1 : Int) ≤ (x128 + 1) ∧ (x128 + 1) ≤ (4089 : Int) := ia_add f150 (il 1) (by decide) (by decide)
                                                              refine g_iadd C dL_law_1572 ?_
                                                              refine g_sld C hX hbl hbz (by omega) (by omega) dL_law_1573 ?_
                                                              have f1273 : (-2147483648 : Int) ≤ (sx xs (x128 + 1)) ∧ (sx xs (x128 + 1)) ≤ (2147483647 : Int) := inR_of _
                                                              refine g_aload_n C rfl 0 rfl dL_law_1574 ?_
                                                              refine g_iload C 4 rfl dL_law_1575 ?_
                                                              refine g_iconst C dL_law_1577 ?_
                                                              have f1274 : (2 : Int) ≤ (x128 + 2) ∧ (x128 + 2) ≤ (4090 : Int) := ia_add f150 (il 2) (by decide) (by decide)
                                                              refine g_iadd C dL_law_1578 ?_
                                                              refine g_sld C hX hbl hbz (by omega) (by omega) dL_law_1579 ?_
                                                              have f1275 : (-2147483648 : Int) ≤ (sx xs (x128 + 2)) ∧ (sx xs (x128 + 2)) ≤ (2147483647 : Int) := inR_of _
                                                              refine g_callI (st := []) (gc_V C lk_LandSurveyLaw_147 (k_X11_quarrel l D cy w z0 O133 e143 f1273 f1275 p136) e143 rfl rfl rfl ⟨by decide, by decide⟩ (Nat.le_of_ble_eq_true rfl) dL_law_1580 ⟨(by show _ ≤ 601024; omega), (by show _ ≤ 7293034; omega)⟩) (fun r1276 h1277 f1279 K1278 => ?_)
                                                              obtain ⟨O1280, F1281, f1282, p1283⟩ := K1278
                                                              refine g_pop C rfl dL_law_1583 ?_
                                                              refine g_aload_n C rfl 2 rfl dL_law_1584 ?_
                                                              refine g_aload_n C rfl 0 rfl dL_law_1585 ?_
                                                              refine g_iload C 4 rfl dL_law_1586 ?_
                                                              refine g_iconst C dL_law_1588 ?_
                                                              refine g_iadd C dL_law_1589 ?_
                                                              refine g_sld C hX hbl hbz (by omega) (by omega) dL_law_1590 ?_
                                                              refine g_aload_n C rfl 0 rfl dL_law_1591 ?_
                                                              refine g_iload C 4 rfl dL_law_1592 ?_
                                                              refine g_iconst C dL_law_1594 ?_
                                                              refine g_iadd C dL_law_1595 ?_
                                                              refine g_sld C hX hbl hbz (by omega) (by omega) dL_law_1596 ?_
                                                              have e1284 : Tg h116 n33 = 12 := (pT_T hh115)
                                                              have e1285 : Tg h1277 n33 = 12 := (fxT F1281 (fxT F134 ((pNT hh125 (pN_n hh125 z124 e1284)).trans e1284)))
                                                              have e1286 : Tg h116 n33 = 12 := (pT_T hh115)
                                                              have e1287 : Tg h129 n33 = 12 := (fxT F134 ((pNT hh125 (pN_n hh125 z124 e1286)).trans e1286))
                                                              have p1288 := (MInv_fx O133 F1281 e1287 rfl p137)
                                                              refine g_callI (st := []) (gc_V C lk_LandSurveyLaw_150 (k_X12_quarrel l D cy w z0 O1280 e1285 f1273 f1275 p1288) e1285 rfl rfl rfl ⟨by decide, by decide⟩ (Nat.le_of_ble_eq_true rfl) dL_law_1597 ⟨(by show _ ≤ 601024; omega), (by show _ ≤ 7293034; omega)⟩) (fun r1289 h1290 f1292 K1291 => ?_)
                                                              obtain ⟨O1293, F1294, f1295⟩ := K1291
                                                              refine g_pop C rfl dL_law_1600 ?_
                                                              refine g_goto C 1896 (by decide) dL_law_1601 ?_
                                                              have f1296 : (8 : Int) ≤ (x128 + 8) ∧ (x128 + 8) ≤ (4096 : Int) := ia_add f150 (il 8) (by decide) (by decide)
                                                              refine g_iinc C [(4, .inl (x128 + 8)), (0, .inr (.inr (b + 1))), (1, .inr (.inr n1)), (2, .inr (.inr n33)), (3, .inr (.inr n122))] 4 rfl (by decide) rfl dL_law_1896 ?_
                                                              refine g_goto C 23 (by decide) dL_law_1899 ?_
                                                              refine GW.sub [1, 2, 3, 4, 0] rfl ?_
                                                              have e1297 : Tg h1277 n1 = 11 := (fxT F1281 e143)
                                                              have p1298 := (XInv_fx O1280 F1294 e1297 rfl p1283)
                                                              have p1299 := (MInv_fx O1280 F1294 e1285 rfl p1288)
                                                              have e1300 : Iv h1290 n1 0 = v141 := ((fxI F1294 e1297 rfl).trans ((fxI F1281 e143 rfl).trans e142))
                                                              have e1301 : Iv h1290 n33 33 = v141 := ((fxI F1294 e1285 rfl).trans ((fxI F1281 e1287 rfl).trans e145))
                                                              refine GW.widen (by omega : _ ≤ 12 * (x128 + 8).toNat + 119) (by omega : _ ≤ 804 * (x128 + 8).toNat + 52115) ?_
                                                              exact ih131 _ (by omega) (x128 + 8) h1290 rfl O1293 ((F134.call F1281 rfl).call F1294 rfl) (iw f1296 (by decide) (by decide)) p1298 p1299 (e1300.trans (Eq.symm e1301))
                                                            · rcases Classical.em ((bAnd (sx xs x128) 63) = 27) with q1302 | q1303
                                                              · refine g_tin (kv := 27) C q1302 (by decide) 1604 (by decide) (by decide) rfl (by decide) dL_law_40 ?_
                                                                have f1304 : (27 : Int) ≤ (bAnd (sx xs x128) 63) ∧ (bAnd (sx xs x128) 63) ≤ (27 : Int) := ii f153 (r_eq (il 27) q1302) (by decide) (by decide)
                                                                refine g_aload_n C rfl 1 rfl dL_law_1604 ?_
                                                                refine g_aload_n C rfl 0 rfl dL_law_1605 ?_
                                                                refine g_iload C 4 rfl dL_law_1606 ?_
                                                                refine g_iconst C dL_law_1608 ?_
                                                                have f1305 : (1 : Int) ≤ (x128 + 1) ∧ (x128 + 1) ≤ (4089 : Int) := ia_add f150 (il 1) (by decide) (by decide)
                                                                refine g_iadd C dL_law_1609 ?_
                                                                refine g_sld C hX hbl hbz (by omega) (by omega) dL_law_1610 ?_
                                                                have f1306 : (-2147483648 : Int) ≤ (sx xs (x128 + 1)) ∧ (sx xs (x128 + 1)) ≤ (2147483647 : Int) := inR_of _
                                                                refine g_callI (st := []) (gc_V C lk_LandSurveyLaw_151 (k_X11_stale l D cy w z0 O133 e143 f1306 p136) e143 rfl rfl rfl ⟨by decide, by decide⟩ (Nat.le_of_ble_eq_true rfl) dL_law_1611 ⟨(by show _ ≤ 601024; omega), (by show _ ≤ 7293034; omega)⟩) (fun r1307 h1308 f1310 K1309 => ?_)
                                                                obtain ⟨O1311, F1312, f1313, p1314⟩ := K1309
                                                                refine g_pop C rfl dL_law_1614 ?_
                                                                refine g_aload_n C rfl 2 rfl dL_law_1615 ?_
                                                                refine g_aload_n C rfl 0 rfl dL_law_1616 ?_
                                                                refine g_iload C 4 rfl dL_law_1617 ?_
                                                                refine g_iconst C dL_law_1619 ?_
                                                                refine g_iadd C dL_law_1620 ?_
                                                                refine g_sld C hX hbl hbz (by omega) (by omega) dL_law_1621 ?_
                                                                have e1315 : Tg h116 n33 = 12 := (pT_T hh115)
                                                                have e1316 : Tg h1308 n33 = 12 := (fxT F1312 (fxT F134 ((pNT hh125 (pN_n hh125 z124 e1315)).trans e1315)))
                                                                have e1317 : Tg h116 n33 = 12 := (pT_T hh115)
                                                                have e1318 : Tg h129 n33 = 12 := (fxT F134 ((pNT hh125 (pN_n hh125 z124 e1317)).trans e1317))
                                                                have p1319 := (MInv_fx O133 F1312 e1318 rfl p137)
                                                                refine g_callI (st := []) (gc_V C lk_LandSurveyLaw_154 (k_X12_stale l D cy w z0 O1311 e1316 f1306 p1319) e1316 rfl rfl rfl ⟨by decide, by decide⟩ (Nat.le_of_ble_eq_true rfl) dL_law_1622 ⟨(by show _ ≤ 601024; omega), (by show _ ≤ 7293034; omega)⟩) (fun r1320 h1321 f1323 K1322 => ?_)
                                                                obtain ⟨O1324, F1325, f1326⟩ := K1322
                                                                refine g_pop C rfl dL_law_1625 ?_
                                                                refine g_goto C 1896 (by decide) dL_law_1626 ?_
                                                                have f1327 : (8 : Int) ≤ (x128 + 8) ∧ (x128 + 8) ≤ (4096 : Int) := ia_add f150 (il 8) (by decide) (by decide)
                                                                refine g_iinc C [(4, .inl (x128 + 8)), (0, .inr (.inr (b + 1))), (1, .inr (.inr n1)), (2, .inr (.inr n33)), (3, .inr (.inr n122))] 4 rfl (by decide) rfl dL_law_1896 ?_
                                                                refine g_goto C 23 (by decide) dL_law_1899 ?_
                                                                refine GW.sub [1, 2, 3, 4, 0] rfl ?_
                                                                have e1328 : Tg h1308 n1 = 11 := (fxT F1312 e143)
                                                                have p1329 := (XInv_fx O1311 F1325 e1328 rfl p1314)
                                                                have p1330 := (MInv_fx O1311 F1325 e1316 rfl p1319)
                                                                have e1331 : Iv h1321 n1 0 = v141 := ((fxI F1325 e1328 rfl).trans ((fxI F1312 e143 rfl).trans e142))
                                                                have e1332 : Iv h1321 n33 33 = v141 := ((fxI F1325 e1316 rfl).trans ((fxI F1312 e1318 rfl).trans e145))
                                                                refine GW.widen (by omega : _ ≤ 12 * (x128 + 8).toNat + 119) (by omega : _ ≤ 804 * (x128 + 8).toNat + 52115) ?_
                                                                exact ih131 _ (by omega) (x128 + 8) h1321 rfl O1324 ((F134.call F1312 rfl).call F1325 rfl) (iw f1327 (by decide) (by decide)) p1329 p1330 (e1331.trans (Eq.symm e1332))
                                                              · rcases Classical.em ((bAnd (sx xs x128) 63) = 28) with q1333 | q1334
                                                                · refine g_tin (kv := 28) C q1333 (by decide) 1629 (by decide) (by decide) rfl (by decide) dL_law_40 ?_
                                                                  have f1335 : (28 : Int) ≤ (bAnd (sx xs x128) 63) ∧ (bAnd (sx xs x128) 63) ≤ (28 : Int) := ii f153 (r_eq (il 28) q1333) (by decide) (by decide)
                                                                  refine g_aload_n C rfl 1 rfl dL_law_1629 ?_
                                                                  refine g_aload_n C rfl 0 rfl dL_law_1630 ?_
                                                                  refine g_iload C 4 rfl dL_law_1631 ?_
                                                                  refine g_iconst C dL_law_1633 ?_
                                                                  have f1336 : (1 : Int) ≤ (x128 + 1) ∧ (x128 + 1) ≤ (4089 : Int) := ia_add f150 (il 1) (by decide) (by decide)
                                                                  refine g_iadd C dL_law_1634 ?_
                                                                  refine g_sld C hX hbl hbz (by omega) (by omega) dL_law_1635 ?_
                                                                  have f1337 : (-2147483648 : Int) ≤ (sx xs (x128 + 1)) ∧ (sx xs (x128 + 1)) ≤ (2147483647 : Int) := inR_of _
                                                                  refine g_aload_n C rfl 0 rfl dL_law_1636 ?_
                                                                  refine g_iload C 4 rfl dL_law_1637 ?_
                                                                  refine g_iconst C dL_law_1639 ?_
                                                                  have f1338 : (2 : Int) ≤ (x128 + 2) ∧ (x128 + 2) ≤ (4090 : Int) := ia_add f150 (il 2) (by decide) (by decide)
                                                                  refine g_iadd C dL_law_1640 ?_
                                                                  refine g_sld C hX hbl hbz (by omega) (by omega) dL_law_1641 ?_
                                                                  have f1339 : (-2147483648 : Int) ≤ (sx xs (x128 + 2)) ∧ (sx xs (x128 + 2)) ≤ (2147483647 : Int) := inR_of _
                                                                  refine g_aload_n C rfl 0 rfl dL_law_1642 ?_
                                                                  refine g_iload C 4 rfl dL_law_1643 ?_
                                                                  refine g_iconst C dL_law_1645 ?_
                                                                  have f1340 : (3 : Int) ≤ (x128 + 3) ∧ (x128 + 3) ≤ (4091 : Int) := ia_add f150 (il 3) (by decide) (by decide)
                                                                  refine g_iadd C dL_law_1646 ?_
                                                                  refine g_sld C hX hbl hbz (by omega) (by omega) dL_law_1647 ?_
                                                                  have f1341 : (-2147483648 : Int) ≤ (sx xs (x128 + 3)) ∧ (sx xs (x128 + 3)) ≤ (2147483647 : Int) := inR_of _
                                                                  refine g_callI (st := []) (gc_V C lk_LandSurveyLaw_155 (k_X11_doubles l D cy w z0 O133 e143 f1337 f1339 f1341 p136) e143 rfl rfl rfl ⟨by decide, by decide⟩ (Nat.le_of_ble_eq_true rfl) dL_law_1648 ⟨(by show _ ≤ 601024; omega), (by show _ ≤ 7293034; omega)⟩) (fun r1342 h1343 f1345 K1344 => ?_)
                                                                  obtain ⟨O1346, F1347, f1348, p1349⟩ := K1344
                                                                  refine g_pop C rfl dL_law_1651 ?_
                                                                  refine g_aload_n C rfl 2 rfl dL_law_1652 ?_
                                                                  refine g_aload_n C rfl 0 rfl dL_law_1653 ?_
                                                                  refine g_iload C 4 rfl dL_law_1654 ?_
                                                                  refine g_iconst C dL_law_1656 ?_
                                                                  refine g_iadd C dL_law_1657 ?_
                                                                  refine g_sld C hX hbl hbz (by omega) (by omega) dL_law_1658 ?_
                                                                  refine g_aload_n C rfl 0 rfl dL_law_1659 ?_
                                                                  refine g_iload C 4 rfl dL_law_1660 ?_
                                                                  refine g_iconst C dL_law_1662 ?_
                                                                  refine g_iadd C dL_law_1663 ?_
                                                                  refine g_sld C hX hbl hbz (by omega) (by omega) dL_law_1664 ?_
                                                                  refine g_aload_n C rfl 0 rfl dL_law_1665 ?_
                                                                  refine g_iload C 4 rfl dL_law_1666 ?_
                                                                  refine g_iconst C dL_law_1668 ?_
                                                                  refine g_iadd C dL_law_1669 ?_
                                                                  refine g_sld C hX hbl hbz (by omega) (by omega) dL_law_1670 ?_
                                                                  have e1350 : Tg h116 n33 = 12 := (pT_T hh115)
                                                                  have e1351 : Tg h1343 n33 = 12 := (fxT F1347 (fxT F134 ((pNT hh125 (pN_n hh125 z124 e1350)).trans e1350)))
                                                                  have e1352 : Tg h116 n33 = 12 := (pT_T hh115)
                                                                  have e1353 : Tg h129 n33 = 12 := (fxT F134 ((pNT hh125 (pN_n hh125 z124 e1352)).trans e1352))
                                                                  have p1354 := (MInv_fx O133 F1347 e1353 rfl p137)
                                                                  refine g_callI (st := []) (gc_V C lk_LandSurveyLaw_158 (k_X12_doubles l D cy w z0 O1346 e1351 f1337 f1339 f1341 p1354) e1351 rfl rfl rfl ⟨by decide, by decide⟩ (Nat.le_of_ble_eq_true rfl) dL_law_1671 ⟨(by show _ ≤ 601024; omega), (by show _ ≤ 7293034; omega)⟩) (fun r1355 h1356 f1358 K1357 => ?_)
                                                                  obtain ⟨O1359, F1360, f1361⟩ := K1357
                                                                  refine g_pop C rfl dL_law_1674 ?_
                                                                  refine g_goto C 1896 (by decide) dL_law_1675 ?_
                                                                  have f1362 : (8 : Int) ≤ (x128 + 8) ∧ (x128 + 8) ≤ (4096 : Int) := ia_add f150 (il 8) (by decide) (by decide)
                                                                  refine g_iinc C [(4, .inl (x128 + 8)), (0, .inr (.inr (b + 1))), (1, .inr (.inr n1)), (2, .inr (.inr n33)), (3, .inr (.inr n122))] 4 rfl (by decide) rfl dL_law_1896 ?_
                                                                  refine g_goto C 23 (by decide) dL_law_1899 ?_
                                                                  refine GW.sub [1, 2, 3, 4, 0] rfl ?_
                                                                  have e1363 : Tg h1343 n1 = 11 := (fxT F1347 e143)
                                                                  have p1364 := (XInv_fx O1346 F1360 e1363 rfl p1349)
                                                                  have p1365 := (MInv_fx O1346 F1360 e1351 rfl p1354)
                                                                  have e1366 : Iv h1356 n1 0 = v141 := ((fxI F1360 e1363 rfl).trans ((fxI F1347 e143 rfl).trans e142))
                                                                  have e1367 : Iv h1356 n33 33 = v141 := ((fxI F1360 e1351 rfl).trans ((fxI F1347 e1353 rfl).trans e145))
                                                                  refine GW.widen (by omega : _ ≤ 12 * (x128 + 8).toNat + 119) (by omega : _ ≤ 804 * (x128 + 8).toNat + 52115) ?_
                                                                  exact ih131 _ (by omega) (x128 + 8) h1356 rfl O1359 ((F134.call F1347 rfl).call F1360 rfl) (iw f1362 (by decide) (by decide)) p1364 p1365 (e1366.trans (Eq.symm e1367))
                                                                · rcases Classical.em ((bAnd (sx xs x128) 63) = 29) with q1368 | q1369
                                                                  · refine g_tin (kv := 29) C q1368 (by decide) 1678 (by decide) (by decide) rfl (by decide) dL_law_40 ?_
                                                                    have f1370 : (29 : Int) ≤ (bAnd (sx xs x128) 63) ∧ (bAnd (sx xs x128) 63) ≤ (29 : Int) := ii f153 (r_eq (il 29) q1368) (by decide) (by decide)
                                                                    refine g_aload_n C rfl 1 rfl dL_law_1678 ?_
                                                                    refine g_aload_n C rfl 0 rfl dL_law_1679 ?_
                                                                    refine g_iload C 4 rfl dL_law_1680 ?_
                                                                    refine g_iconst C dL_law_1682 ?_
                                                                    have f1371 : (1 : Int) ≤ (x128 + 1) ∧ (x128 + 1) ≤ (4089 : Int) := ia_add f150 (il 1) (by decide) (by decide)
                                                                    refine g_iadd C dL_law_1683 ?_
                                                                    refine g_sld C hX hbl hbz (by omega) (by omega) dL_law_1684 ?_
                                                                    have f1372 : (-2147483648 : Int) ≤ (sx xs (x128 + 1)) ∧ (sx xs (x128 + 1)) ≤ (2147483647 : Int) := inR_of _
                                                                    refine g_aload_n C rfl 3 rfl dL_law_1685 ?_
                                                                    have e1373 : Tg h129 n122 = 99102 := (fxT F134 (pN_T hh125))
                                                                    have e1374 : Ln h129 n122 = 1 := ((fxL F134 (pN_T hh125)).trans (pN_L hh125))
                                                                    refine g_callI (st := []) (gw_S C (k_L_habit l hst D cy w z0 O133 e143 f1372 e1373 e1374 p136) kw_1452 kw_1453 kw_143 kw_1454 okL_habit rfl ⟨by decide, by decide⟩ (Nat.le_of_ble_eq_true rfl) dL_law_1686 ⟨(by show _ ≤ 601024; omega), (by show _ ≤ 7293034; omega)⟩) (fun r1375 h1376 f1377 K1378 => ?_)
                                                                    obtain ⟨O1379, F1380, f1381, p1382⟩ := K1378
                                                                    refine g_istore C [(5, .inl r1375), (0, .inr (.inr (b + 1))), (1, .inr (.inr n1)), (2, .inr (.inr n33)), (3, .inr (.inr n122)), (4, .inl x128)] (by decide) rfl dL_law_1689 ?_
                                                                    refine g_aload_n C rfl 3 rfl dL_law_1691 ?_
                                                                    refine g_aload_n C rfl 1 rfl dL_law_1692 ?_
                                                                    refine g_iload C 5 rfl dL_law_1693 ?_
                                                                    refine g_iconst C dL_law_1695 ?_
                                                                    refine g_iadd C dL_law_1696 ?_
                                                                    refine g_sld C hX hbl hbz (by omega) (by omega) dL_law_1697 ?_
                                                                    have e1383 : Tg h116 n33 = 12 := (pT_T hh115)
                                                                    have e1384 : Tg h1376 n33 = 12 := (fxT F1380 (fxT F134 ((pNT hh125 (pN_n hh125 z124 e1383)).trans e1383)))
                                                                    have e1385 : Tg h116 n33 = 12 := (pT_T hh115)
                                                                    have e1386 : Tg h129 n33 = 12 := (fxT F134 ((pNT hh125 (pN_n hh125 z124 e1385)).trans e1385))
                                                                    have p1387 := (MInv_fx O133 F1380 e1386 rfl p137)
                                                                    refine g_callI (st := []) (gc_V C lk_LandSurveyLaw_162 (k_X12_habit l D cy w z0 O1379 e1384 f1372 p1387) e1384 rfl rfl rfl ⟨by decide, by decide⟩ (Nat.le_of_ble_eq_true rfl) dL_law_1698 ⟨(by show _ ≤ 601024; omega), (by show _ ≤ 7293034; omega)⟩) (fun r1388 h1389 f1391 K1390 => ?_)
                                                                    obtain ⟨O1392, F1393, f1394⟩ := K1390
                                                                    refine g_istore C [(6, .inl r1388), (5, .inl r1375), (0, .inr (.inr (b + 1))), (1, .inr (.inr n1)), (2, .inr (.inr n33)), (3, .inr (.inr n122)), (4, .inl x128)] (by decide) rfl dL_law_1701 ?_
                                                                    refine g_goto C 1896 (by decide) dL_law_1703 ?_
                                                                    have f1395 : (8 : Int) ≤ (x128 + 8) ∧ (x128 + 8) ≤ (4096 : Int) := ia_add f150 (il 8) (by decide) (by decide)
                                                                    refine g_iinc C [(4, .inl (x128 + 8)), (6, .inl r1388), (5, .inl r1375), (0, .inr (.inr (b + 1))), (1, .inr (.inr n1)), (2, .inr (.inr n33)), (3, .inr (.inr n122))] 6 rfl (by decide) rfl dL_law_1896 ?_
                                                                    refine g_goto C 23 (by decide) dL_law_1899 ?_
                                                                    refine GW.sub [3, 4, 5, 6, 0] rfl ?_
                                                                    have e1396 : Tg h1376 n1 = 11 := (fxT F1380 e143)
                                                                    have p1397 := (XInv_fx O1379 F1393 e1396 rfl p1382)
                                                                    have p1398 := (MInv_fx O1379 F1393 e1384 rfl p1387)
                                                                    have e1399 : Iv h1389 n1 0 = v141 := ((fxI F1393 e1396 rfl).trans ((fxI F1380 e143 rfl).trans e142))
                                                                    have e1400 : Iv h1389 n33 33 = v141 := ((fxI F1393 e1384 rfl).trans ((fxI F1380 e1386 rfl).trans e145))
                                                                    refine GW.widen (by omega : _ ≤ 12 * (x128 + 8).toNat + 119) (by omega : _ ≤ 804 * (x128 + 8).toNat + 52115) ?_
                                                                    exact ih131 _ (by omega) (x128 + 8) h1389 rfl O1392 ((F134.call F1380 rfl).call F1393 rfl) (iw f1395 (by decide) (by decide)) p1397 p1398 (e1399.trans (Eq.symm e1400))
                                                                  · rcases Classical.em ((bAnd (sx xs x128) 63) = 30) with q1401 | q1402
                                                                    · refine g_tin (kv := 30) C q1401 (by decide) 1706 (by decide) (by decide) rfl (by decide) dL_law_40 ?_
                                                                      have f1403 : (30 : Int) ≤ (bAnd (sx xs x128) 63) ∧ (bAnd (sx xs x128) 63) ≤ (30 : Int) := ii f153 (r_eq (il 30) q1401) (by decide) (by decide)
                                                                      refine g_aload_n C rfl 1 rfl dL_law_1706 ?_
                                                                      refine g_aload_n C rfl 0 rfl dL_law_1707 ?_
                                                                      refine g_iload C 4 rfl dL_law_1708 ?_
                                                                      refine g_iconst C dL_law_1710 ?_
                                                                      have f1404 : (1 : Int) ≤ (x128 + 1) ∧ (x128 + 1) ≤ (4089 : Int) := ia_add f150 (il 1) (by decide) (by decide)
                                                                      refine g_iadd C dL_law_1711 ?_
                                                                      refine g_sld C hX hbl hbz (by omega) (by omega) dL_law_1712 ?_
                                                                      have f1405 : (-2147483648 : Int) ≤ (sx xs (x128 + 1)) ∧ (sx xs (x128 + 1)) ≤ (2147483647 : Int) := inR_of _
                                                                      refine g_aload_n C rfl 0 rfl dL_law_1713 ?_
                                                                      refine g_iload C 4 rfl dL_law_1714 ?_
                                                                      refine g_iconst C dL_law_1716 ?_
                                                                      have f1406 : (2 : Int) ≤ (x128 + 2) ∧ (x128 + 2) ≤ (4090 : Int) := ia_add f150 (il 2) (by decide) (by decide)
                                                                      refine g_iadd C dL_law_1717 ?_
                                                                      refine g_sld C hX hbl hbz (by omega) (by omega) dL_law_1718 ?_
                                                                      have f1407 : (-2147483648 : Int) ≤ (sx xs (x128 + 2)) ∧ (sx xs (x128 + 2)) ≤ (2147483647 : Int) := inR_of _
                                                                      refine g_aload_n C rfl 0 rfl dL_law_1719 ?_
                                                                      refine g_iload C 4 rfl dL_law_1720 ?_
                                                                      refine g_iconst C dL_law_1722 ?_
                                                                      have f1408 : (3 : Int) ≤ (x128 + 3) ∧ (x128 + 3) ≤ (4091 : Int) := ia_add f150 (il 3) (by decide) (by decide)
                                                                      refine g_iadd C dL_law_1723 ?_
                                                                      refine g_sld C hX hbl hbz (by omega) (by omega) dL_law_1724 ?_
                                                                      have f1409 : (-2147483648 : Int) ≤ (sx xs (x128 + 3)) ∧ (sx xs (x128 + 3)) ≤ (2147483647 : Int) := inR_of _
                                                                      refine g_if_eq C f1409 1732 (by decide) dL_law_1725 (fun q1410 => ?_) (fun q1411 => ?_)
                                                                      · have f1412 : (0 : Int) ≤ (sx xs (x128 + 3)) ∧ (sx xs (x128 + 3)) ≤ (0 : Int) := ii f1409 (r_eq (il 0) q1410) (by decide) (by decide)
                                                                        refine g_iconst C dL_law_1732 ?_
                                                                        refine g_callI (st := []) (gc_V C lk_LandSurveyLaw_163 (k_X11_question l D cy w z0 O133 e143 f1405 f1407 (iw (il 0) (by decide) (by decide)) p136) e143 rfl rfl rfl ⟨by decide, by decide⟩ (Nat.le_of_ble_eq_true rfl) dL_law_1733 ⟨(by show _ ≤ 601024; omega), (by show _ ≤ 7293034; omega)⟩) (fun r1413 h1414 f1416 K1415 => ?_)
                                                                        obtain ⟨O1417, F1418, f1419, p1420⟩ := K1415
                                                                        refine g_pop C rfl dL_law_1736 ?_
                                                                        refine g_aload_n C rfl 2 rfl dL_law_1737 ?_
                                                                        refine g_aload_n C rfl 0 rfl dL_law_1738 ?_
                                                                        refine g_iload C 4 rfl dL_law_1739 ?_
                                                                        refine g_iconst C dL_law_1741 ?_
                                                                        refine g_iadd C dL_law_1742 ?_
                                                                        refine g_sld C hX hbl hbz (by omega) (by omega) dL_law_1743 ?_
                                                                        refine g_aload_n C rfl 0 rfl dL_law_1744 ?_
                                                                        refine g_iload C 4 rfl dL_law_1745 ?_
                                                                        refine g_iconst C dL_law_1747 ?_
                                                                        refine g_iadd C dL_law_1748 ?_
                                                                        refine g_sld C hX hbl hbz (by omega) (by omega) dL_law_1749 ?_
                                                                        refine g_aload_n C rfl 0 rfl dL_law_1750 ?_
                                                                        refine g_iload C 4 rfl dL_law_1751 ?_
                                                                        refine g_iconst C dL_law_1753 ?_
                                                                        refine g_iadd C dL_law_1754 ?_
                                                                        refine g_sld C hX hbl hbz (by omega) (by omega) dL_law_1755 ?_
                                                                        refine g_if_eq C (iw f1412 (by decide) (by decide)) 1763 (by decide) dL_law_1756 (fun q1421 => ?_) (fun q1422 => ?_)
                                                                        · refine g_iconst C dL_law_1763 ?_
                                                                          have e1423 : Tg h116 n33 = 12 := (pT_T hh115)
                                                                          have e1424 : Tg h1414 n33 = 12 := (fxT F1418 (fxT F134 ((pNT hh125 (pN_n hh125 z124 e1423)).trans e1423)))
                                                                          refine g_callI (st := []) (gc_V C lk_LandSurveyLaw_166 (k_X12_question l D cy w z0 O1417 e1424 f1405 f1407 (iw (il 0) (by decide) (by decide))) e1424 rfl rfl rfl ⟨by decide, by decide⟩ (Nat.le_of_ble_eq_true rfl) dL_law_1764 ⟨(by show _ ≤ 601024; omega), (by show _ ≤ 7293034; omega)⟩) (fun r1425 h1426 f1428 K1427 => ?_)
                                                                          obtain ⟨O1429, F1430, f1431⟩ := K1427
                                                                          refine g_pop C rfl dL_law_1767 ?_
                                                                          refine g_goto C 1896 (by decide) dL_law_1768 ?_
                                                                          have f1432 : (8 : Int) ≤ (x128 + 8) ∧ (x128 + 8) ≤ (4096 : Int) := ia_add f150 (il 8) (by decide) (by decide)
                                                                          refine g_iinc C [(4, .inl (x128 + 8)), (0, .inr (.inr (b + 1))), (1, .inr (.inr n1)), (2, .inr (.inr n33)), (3, .inr (.inr n122))] 4 rfl (by decide) rfl dL_law_1896 ?_
                                                                          refine g_goto C 23 (by decide) dL_law_1899 ?_
                                                                          refine GW.sub [1, 2, 3, 4, 0] rfl ?_
                                                                          have e1433 : Tg h1414 n1 = 11 := (fxT F1418 e143)
                                                                          have p1434 := (XInv_fx O1417 F1430 e1433 rfl p1420)
                                                                          have e1435 : Tg h116 n33 = 12 := (pT_T hh115)
                                                                          have e1436 : Tg h129 n33 = 12 := (fxT F134 ((pNT hh125 (pN_n hh125 z124 e1435)).trans e1435))
                                                                          have p1437 := (MInv_fx O1417 F1430 e1424 rfl (MInv_fx O133 F1418 e1436 rfl p137))
                                                                          have e1438 : Iv h1426 n1 0 = v141 := ((fxI F1430 e1433 rfl).trans ((fxI F1418 e143 rfl).trans e142))
                                                                          have e1439 : Iv h1426 n33 33 = v141 := ((fxI F1430 e1424 rfl).trans ((fxI F1418 e1436 rfl).trans e145))
                                                                          refine GW.widen (by omega : _ ≤ 12 * (x128 + 8).toNat + 119) (by omega : _ ≤ 804 * (x128 + 8).toNat + 52115) ?_
                                                                          exact ih131 _ (by omega) (x128 + 8) h1426 rfl O1429 ((F134.call F1418 rfl).call F1430 rfl) (iw f1432 (by decide) (by decide)) p1434 p1437 (e1438.trans (Eq.symm e1439))
                                                                        · exact (no_ne f1412 (il 0) q1422 (by decide)).elim
                                                                      · refine g_iconst C dL_law_1728 ?_
                                                                        refine g_goto C 1733 (by decide) dL_law_1729 ?_
                                                                        refine g_callI (st := []) (gc_V C lk_LandSurveyLaw_163 (k_X11_question l D cy w z0 O133 e143 f1405 f1407 (iw (il 1) (by decide) (by decide)) p136) e143 rfl rfl rfl ⟨by decide, by decide⟩ (Nat.le_of_ble_eq_true rfl) dL_law_1733 ⟨(by show _ ≤ 601024; omega), (by show _ ≤ 7293034; omega)⟩) (fun r1440 h1441 f1443 K1442 => ?_)
                                                                        obtain ⟨O1444, F1445, f1446, p1447⟩ := K1442
                                                                        refine g_pop C rfl dL_law_1736 ?_
                                                                        refine g_aload_n C rfl 2 rfl dL_law_1737 ?_
                                                                        refine g_aload_n C rfl 0 rfl dL_law_1738 ?_
                                                                        refine g_iload C 4 rfl dL_law_1739 ?_
                                                                        refine g_iconst C dL_law_1741 ?_
                                                                        refine g_iadd C dL_law_1742 ?_
                                                                        refine g_sld C hX hbl hbz (by omega) (by omega) dL_law_1743 ?_
                                                                        refine g_aload_n C rfl 0 rfl dL_law_1744 ?_
                                                                        refine g_iload C 4 rfl dL_law_1745 ?_
                                                                        refine g_iconst C dL_law_1747 ?_
                                                                        refine g_iadd C dL_law_1748 ?_
                                                                        refine g_sld C hX hbl hbz (by omega) (by omega) dL_law_1749 ?_
                                                                        refine g_aload_n C rfl 0 rfl dL_law_1750 ?_
                                                                        refine g_iload C 4 rfl dL_law_1751 ?_
                                                                        refine g_iconst C dL_law_1753 ?_
                                                                        refine g_iadd C dL_law_1754 ?_
                                                                        refine g_sld C hX hbl hbz (by omega) (by omega) dL_law_1755 ?_
                                                                        refine g_if_eq C f1409 1763 (by decide) dL_law_1756 (fun q1448 => ?_) (fun q1449 => ?_)
                                                                        · have f1450 : (0 : Int) ≤ (sx xs (x128 + 3)) ∧ (sx xs (x128 + 3)) ≤ (0 : Int) := ii f1409 (r_eq (il 0) q1448) (by decide) (by decide)
                                                                          refine g_iconst C dL_law_1763 ?_
                                                                          have e1451 : Tg h116 n33 = 12 := (pT_T hh115)
                                                                          have e1452 : Tg h1441 n33 = 12 := (fxT F1445 (fxT F134 ((pNT hh125 (pN_n hh125 z124 e1451)).trans e1451)))
                                                                          refine g_callI (st := []) (gc_V C lk_LandSurveyLaw_166 (k_X12_question l D cy w z0 O1444 e1452 f1405 f1407 (iw (il 0) (by decide) (by decide))) e1452 rfl rfl rfl ⟨by decide, by decide⟩ (Nat.le_of_ble_eq_true rfl) dL_law_1764 ⟨(by show _ ≤ 601024; omega), (by show _ ≤ 7293034; omega)⟩) (fun r1453 h1454 f1456 K1455 => ?_)
                                                                          obtain ⟨O1457, F1458, f1459⟩ := K1455
                                                                          refine g_pop C rfl dL_law_1767 ?_
                                                                          refine g_goto C 1896 (by decide) dL_law_1768 ?_
                                                                          have f1460 : (8 : Int) ≤ (x128 + 8) ∧ (x128 + 8) ≤ (4096 : Int) := ia_add f150 (il 8) (by decide) (by decide)
                                                                          refine g_iinc C [(4, .inl (x128 + 8)), (0, .inr (.inr (b + 1))), (1, .inr (.inr n1)), (2, .inr (.inr n33)), (3, .inr (.inr n122))] 4 rfl (by decide) rfl dL_law_1896 ?_
                                                                          refine g_goto C 23 (by decide) dL_law_1899 ?_
                                                                          refine GW.sub [1, 2, 3, 4, 0] rfl ?_
                                                                          have e1461 : Tg h1441 n1 = 11 := (fxT F1445 e143)
                                                                          have p1462 := (XInv_fx O1444 F1458 e1461 rfl p1447)
                                                                          have e1463 : Tg h116 n33 = 12 := (pT_T hh115)
                                                                          have e1464 : Tg h129 n33 = 12 := (fxT F134 ((pNT hh125 (pN_n hh125 z124 e1463)).trans e1463))
                                                                          have p1465 := (MInv_fx O1444 F1458 e1452 rfl (MInv_fx O133 F1445 e1464 rfl p137))
                                                                          have e1466 : Iv h1454 n1 0 = v141 := ((fxI F1458 e1461 rfl).trans ((fxI F1445 e143 rfl).trans e142))
                                                                          have e1467 : Iv h1454 n33 33 = v141 := ((fxI F1458 e1452 rfl).trans ((fxI F1445 e1464 rfl).trans e145))
                                                                          refine GW.widen (by omega : _ ≤ 12 * (x128 + 8).toNat + 119) (by omega : _ ≤ 804 * (x128 + 8).toNat + 52115) ?_
                                                                          exact ih131 _ (by omega) (x128 + 8) h1454 rfl O1457 ((F134.call F1445 rfl).call F1458 rfl) (iw f1460 (by decide) (by decide)) p1462 p1465 (e1466.trans (Eq.symm e1467))
                                                                        · refine g_iconst C dL_law_1759 ?_
                                                                          refine g_goto C 1764 (by decide) dL_law_1760 ?_
                                                                          have e1468 : Tg h116 n33 = 12 := (pT_T hh115)
                                                                          have e1469 : Tg h1441 n33 = 12 := (fxT F1445 (fxT F134 ((pNT hh125 (pN_n hh125 z124 e1468)).trans e1468)))
                                                                          refine g_callI (st := []) (gc_V C lk_LandSurveyLaw_166 (k_X12_question l D cy w z0 O1444 e1469 f1405 f1407 (iw (il 1) (by decide) (by decide))) e1469 rfl rfl rfl ⟨by decide, by decide⟩ (Nat.le_of_ble_eq_true rfl) dL_law_1764 ⟨(by show _ ≤ 601024; omega), (by show _ ≤ 7293034; omega)⟩) (fun r1470 h1471 f1473 K1472 => ?_)
                                                                          obtain ⟨O1474, F1475, f1476⟩ := K1472
                                                                          refine g_pop C rfl dL_law_1767 ?_
                                                                          refine g_goto C 1896 (by decide) dL_law_1768 ?_
                                                                          have f1477 : (8 : Int) ≤ (x128 + 8) ∧ (x128 + 8) ≤ (4096 : Int) := ia_add f150 (il 8) (by decide) (by decide)
                                                                          refine g_iinc C [(4, .inl (x128 + 8)), (0, .inr (.inr (b + 1))), (1, .inr (.inr n1)), (2, .inr (.inr n33)), (3, .inr (.inr n122))] 4 rfl (by decide) rfl dL_law_1896 ?_
                                                                          refine g_goto C 23 (by decide) dL_law_1899 ?_
                                                                          refine GW.sub [1, 2, 3, 4, 0] rfl ?_
                                                                          have e1478 : Tg h1441 n1 = 11 := (fxT F1445 e143)
                                                                          have p1479 := (XInv_fx O1444 F1475 e1478 rfl p1447)
                                                                          have e1480 : Tg h116 n33 = 12 := (pT_T hh115)
                                                                          have e1481 : Tg h129 n33 = 12 := (fxT F134 ((pNT hh125 (pN_n hh125 z124 e1480)).trans e1480))
                                                                          have p1482 := (MInv_fx O1444 F1475 e1469 rfl (MInv_fx O133 F1445 e1481 rfl p137))
                                                                          have e1483 : Iv h1471 n1 0 = v141 := ((fxI F1475 e1478 rfl).trans ((fxI F1445 e143 rfl).trans e142))
                                                                          have e1484 : Iv h1471 n33 33 = v141 := ((fxI F1475 e1469 rfl).trans ((fxI F1445 e1481 rfl).trans e145))
                                                                          refine GW.widen (by omega : _ ≤ 12 * (x128 + 8).toNat + 119) (by omega : _ ≤ 804 * (x128 + 8).toNat + 52115) ?_
                                                                          exact ih131 _ (by omega) (x128 + 8) h1471 rfl O1474 ((F134.call F1445 rfl).call F1475 rfl) (iw f1477 (by decide) (by decide)) p1479 p1482 (e1483.trans (Eq.symm e1484))
                                                                    · rcases Classical.em ((bAnd (sx xs x128) 63) = 31) with q1485 | q1486
                                                                      · refine g_tin (kv := 31) C q1485 (by decide) 1771 (by decide) (by decide) rfl (by decide) dL_law_40 ?_
                                                                        have f1487 : (31 : Int) ≤ (bAnd (sx xs x128) 63) ∧ (bAnd (sx xs x128) 63) ≤ (31 : Int) := ii f153 (r_eq (il 31) q1485) (by decide) (by decide)
                                                                        refine g_aload_n C rfl 1 rfl dL_law_1771 ?_
                                                                        refine g_aload_n C rfl 0 rfl dL_law_1772 ?_
                                                                        refine g_iload C 4 rfl dL_law_1773 ?_
                                                                        refine g_iconst C dL_law_1775 ?_
                                                                        have f1488 : (1 : Int) ≤ (x128 + 1) ∧ (x128 + 1) ≤ (4089 : Int) := ia_add f150 (il 1) (by decide) (by decide)
                                                                        refine g_iadd C dL_law_1776 ?_
                                                                        refine g_sld C hX hbl hbz (by omega) (by omega) dL_law_1777 ?_
                                                                        have f1489 : (-2147483648 : Int) ≤ (sx xs (x128 + 1)) ∧ (sx xs (x128 + 1)) ≤ (2147483647 : Int) := inR_of _
                                                                        refine g_aload_n C rfl 0 rfl dL_law_1778 ?_
                                                                        refine g_iload C 4 rfl dL_law_1779 ?_
                                                                        refine g_iconst C dL_law_1781 ?_
                                                                        have f1490 : (2 : Int) ≤ (x128 + 2) ∧ (x128 + 2) ≤ (4090 : Int) := ia_add f150 (il 2) (by decide) (by decide)
                                                                        refine g_iadd C dL_law_1782 ?_
                                                                        refine g_sld C hX hbl hbz (by omega) (by omega) dL_law_1783 ?_
                                                                        have f1491 : (-2147483648 : Int) ≤ (sx xs (x128 + 2)) ∧ (sx xs (x128 + 2)) ≤ (2147483647 : Int) := inR_of _
                                                                        refine g_aload_n C rfl 0 rfl dL_law_1784 ?_
                                                                        refine g_iload C 4 rfl dL_law_1785 ?_
                                                                        refine g_iconst C dL_law_1787 ?_
                                                                        have f1492 : (3 : Int) ≤ (x128 + 3) ∧ (x128 + 3) ≤ (4091 : Int) := ia_add f150 (il 3) (by decide) (by decide)
                                                                        refine g_iadd C dL_law_1788 ?_
                                                                        refine g_sld C hX hbl hbz (by omega) (by omega) dL_law_1789 ?_
                                                                        have f1493 : (-2147483648 : Int) ≤ (sx xs (x128 + 3)) ∧ (sx xs (x128 + 3)) ≤ (2147483647 : Int) := inR_of _
                                                                        refine g_callI (st := []) (gc_V C lk_LandSurveyLaw_167 (k_X11_place l D cy w z0 O133 e143 f1489 f1491 f1493 p136) e143 rfl rfl rfl ⟨by decide, by decide⟩ (Nat.le_of_ble_eq_true rfl) dL_law_1790 ⟨(by show _ ≤ 601024; omega), (by show _ ≤ 7293034; omega)⟩) (fun r1494 h1495 f1497 K1496 => ?_)
                                                                        obtain ⟨O1498, F1499, f1500, p1501⟩ := K1496
                                                                        refine g_pop C rfl dL_law_1793 ?_
                                                                        refine g_aload_n C rfl 2 rfl dL_law_1794 ?_
                                                                        refine g_aload_n C rfl 0 rfl dL_law_1795 ?_
                                                                        refine g_iload C 4 rfl dL_law_1796 ?_
                                                                        refine g_iconst C dL_law_1798 ?_
                                                                        refine g_iadd C dL_law_1799 ?_
                                                                        refine g_sld C hX hbl hbz (by omega) (by omega) dL_law_1800 ?_
                                                                        refine g_aload_n C rfl 0 rfl dL_law_1801 ?_
                                                                        refine g_iload C 4 rfl dL_law_1802 ?_
                                                                        refine g_iconst C dL_law_1804 ?_
                                                                        refine g_iadd C dL_law_1805 ?_
                                                                        refine g_sld C hX hbl hbz (by omega) (by omega) dL_law_1806 ?_
                                                                        refine g_aload_n C rfl 0 rfl dL_law_1807 ?_
                                                                        refine g_iload C 4 rfl dL_law_1808 ?_
                                                                        refine g_iconst C dL_law_1810 ?_
                                                                        refine g_iadd C dL_law_1811 ?_
                                                                        refine g_sld C hX hbl hbz (by omega) (by omega) dL_law_1812 ?_
                                                                        have e1502 : Tg h116 n33 = 12 := (pT_T hh115)
                                                                        have e1503 : Tg h1495 n33 = 12 := (fxT F1499 (fxT F134 ((pNT hh125 (pN_n hh125 z124 e1502)).trans e1502)))
                                                                        refine g_callI (st := []) (gc_V C lk_LandSurveyLaw_170 (k_X12_place l D cy w z0 O1498 e1503 f1489 f1491 f1493) e1503 rfl rfl rfl ⟨by decide, by decide⟩ (Nat.le_of_ble_eq_true rfl) dL_law_1813 ⟨(by show _ ≤ 601024; omega), (by show _ ≤ 7293034; omega)⟩) (fun r1504 h1505 f1507 K1506 => ?_)
                                                                        obtain ⟨O1508, F1509, f1510⟩ := K1506
                                                                        refine g_pop C rfl dL_law_1816 ?_
                                                                        refine g_goto C 1896 (by decide) dL_law_1817 ?_
                                                                        have f1511 : (8 : Int) ≤ (x128 + 8) ∧ (x128 + 8) ≤ (4096 : Int) := ia_add f150 (il 8) (by decide) (by decide)
                                                                        refine g_iinc C [(4, .inl (x128 + 8)), (0, .inr (.inr (b + 1))), (1, .inr (.inr n1)), (2, .inr (.inr n33)), (3, .inr (.inr n122))] 4 rfl (by decide) rfl dL_law_1896 ?_
                                                                        refine g_goto C 23 (by decide) dL_law_1899 ?_
                                                                        refine GW.sub [1, 2, 3, 4, 0] rfl ?_
                                                                        have e1512 : Tg h1495 n1 = 11 := (fxT F1499 e143)
                                                                        have p1513 := (XInv_fx O1498 F1509 e1512 rfl p1501)
                                                                        have e1514 : Tg h116 n33 = 12 := (pT_T hh115)
                                                                        have e1515 : Tg h129 n33 = 12 := (fxT F134 ((pNT hh125 (pN_n hh125 z124 e1514)).trans e1514))
                                                                        have p1516 := (MInv_fx O1498 F1509 e1503 rfl (MInv_fx O133 F1499 e1515 rfl p137))
                                                                        have e1517 : Iv h1505 n1 0 = v141 := ((fxI F1509 e1512 rfl).trans ((fxI F1499 e143 rfl).trans e142))
                                                                        have e1518 : Iv h1505 n33 33 = v141 := ((fxI F1509 e1503 rfl).trans ((fxI F1499 e1515 rfl).trans e145))
                                                                        refine GW.widen (by omega : _ ≤ 12 * (x128 + 8).toNat + 119) (by omega : _ ≤ 804 * (x128 + 8).toNat + 52115) ?_
                                                                        exact ih131 _ (by omega) (x128 + 8) h1505 rfl O1508 ((F134.call F1499 rfl).call F1509 rfl) (iw f1511 (by decide) (by decide)) p1513 p1516 (e1517.trans (Eq.symm e1518))
                                                                      · rcases Classical.em ((bAnd (sx xs x128) 63) = 32) with q1519 | q1520
                                                                        · refine g_tin (kv := 32) C q1519 (by decide) 1820 (by decide) (by decide) rfl (by decide) dL_law_40 ?_
                                                                          have f1521 : (32 : Int) ≤ (bAnd (sx xs x128) 63) ∧ (bAnd (sx xs x128) 63) ≤ (32 : Int) := ii f153 (r_eq (il 32) q1519) (by decide) (by decide)
                                                                          refine g_aload_n C rfl 1 rfl dL_law_1820 ?_
                                                                          refine g_callI (st := []) (gc_V C lk_LandSurveyLaw_171 (k_X11_doubt l D cy w z0 O133 e143 p136) e143 rfl rfl rfl ⟨by decide, by decide⟩ (Nat.le_of_ble_eq_true rfl) dL_law_1821 ⟨(by show _ ≤ 601024; omega), (by show _ ≤ 7293034; omega)⟩) (fun r1522 h1523 f1525 K1524 => ?_)
                                                                          obtain ⟨O1526, F1527, f1528, p1529⟩ := K1524
                                                                          refine g_pop C rfl dL_law_1824 ?_
                                                                          refine g_aload_n C rfl 2 rfl dL_law_1825 ?_
                                                                          have e1530 : Tg h116 n33 = 12 := (pT_T hh115)
                                                                          have e1531 : Tg h1523 n33 = 12 := (fxT F1527 (fxT F134 ((pNT hh125 (pN_n hh125 z124 e1530)).trans e1530)))
                                                                          have e1532 : Tg h116 n33 = 12 := (pT_T hh115)
                                                                          have e1533 : Tg h129 n33 = 12 := (fxT F134 ((pNT hh125 (pN_n hh125 z124 e1532)).trans e1532))
                                                                          have p1534 := (MInv_fx O133 F1527 e1533 rfl p137)
                                                                          refine g_callI (st := []) (gc_V C lk_LandSurveyLaw_174 (k_X12_doubt l D cy w z0 O1526 e1531 p1534) e1531 rfl rfl rfl ⟨by decide, by decide⟩ (Nat.le_of_ble_eq_true rfl) dL_law_1826 ⟨(by show _ ≤ 601024; omega), (by show _ ≤ 7293034; omega)⟩) (fun r1535 h1536 f1538 K1537 => ?_)
                                                                          obtain ⟨O1539, F1540, f1541⟩ := K1537
                                                                          refine g_pop C rfl dL_law_1829 ?_
                                                                          refine g_goto C 1896 (by decide) dL_law_1830 ?_
                                                                          have f1542 : (8 : Int) ≤ (x128 + 8) ∧ (x128 + 8) ≤ (4096 : Int) := ia_add f150 (il 8) (by decide) (by decide)
                                                                          refine g_iinc C [(4, .inl (x128 + 8)), (0, .inr (.inr (b + 1))), (1, .inr (.inr n1)), (2, .inr (.inr n33)), (3, .inr (.inr n122))] 4 rfl (by decide) rfl dL_law_1896 ?_
                                                                          refine g_goto C 23 (by decide) dL_law_1899 ?_
                                                                          refine GW.sub [1, 2, 3, 4, 0] rfl ?_
                                                                          have e1543 : Tg h1523 n1 = 11 := (fxT F1527 e143)
                                                                          have p1544 := (XInv_fx O1526 F1540 e1543 rfl p1529)
                                                                          have p1545 := (MInv_fx O1526 F1540 e1531 rfl p1534)
                                                                          have e1546 : Iv h1536 n1 0 = v141 := ((fxI F1540 e1543 rfl).trans ((fxI F1527 e143 rfl).trans e142))
                                                                          have e1547 : Iv h1536 n33 33 = v141 := ((fxI F1540 e1531 rfl).trans ((fxI F1527 e1533 rfl).trans e145))
                                                                          refine GW.widen (by omega : _ ≤ 12 * (x128 + 8).toNat + 119) (by omega : _ ≤ 804 * (x128 + 8).toNat + 52115) ?_
                                                                          exact ih131 _ (by omega) (x128 + 8) h1536 rfl O1539 ((F134.call F1527 rfl).call F1540 rfl) (iw f1542 (by decide) (by decide)) p1544 p1545 (e1546.trans (Eq.symm e1547))
                                                                        · rcases Classical.em ((bAnd (sx xs x128) 63) = 33) with q1548 | q1549
                                                                          · refine g_tin (kv := 33) C q1548 (by decide) 1833 (by decide) (by decide) rfl (by decide) dL_law_40 ?_
                                                                            have f1550 : (33 : Int) ≤ (bAnd (sx xs x128) 63) ∧ (bAnd (sx xs x128) 63) ≤ (33 : Int) := ii f153 (r_eq (il 33) q1548) (by decide) (by decide)
                                                                            refine g_aload_n C rfl 1 rfl dL_law_1833 ?_
                                                                            refine g_aload_n C rfl 0 rfl dL_law_1834 ?_
                                                                            refine g_iload C 4 rfl dL_law_1835 ?_
                                                                            refine g_iconst C dL_law_1837 ?_
                                                                            have f1551 : (1 : Int) ≤ (x128 + 1) ∧ (x128 + 1) ≤ (4089 : Int) := ia_add f150 (il 1) (by decide) (by decide)
                                                                            refine g_iadd C dL_law_1838 ?_
                                                                            refine g_sld C hX hbl hbz (by omega) (by omega) dL_law_1839 ?_
                                                                            have f1552 : (-2147483648 : Int) ≤ (sx xs (x128 + 1)) ∧ (sx xs (x128 + 1)) ≤ (2147483647 : Int) := inR_of _
                                                                            refine g_callI (st := []) (gc_V C lk_LandSurveyLaw_175 (k_X11_left l D cy w z0 O133 e143 f1552 p136) e143 rfl rfl rfl ⟨by decide, by decide⟩ (Nat.le_of_ble_eq_true rfl) dL_law_1840 ⟨(by show _ ≤ 601024; omega), (by show _ ≤ 7293034; omega)⟩) (fun r1553 h1554 f1556 K1555 => ?_)
                                                                            obtain ⟨O1557, F1558, f1559, p1560⟩ := K1555
                                                                            refine g_pop C rfl dL_law_1843 ?_
                                                                            refine g_aload_n C rfl 2 rfl dL_law_1844 ?_
                                                                            refine g_aload_n C rfl 0 rfl dL_law_1845 ?_
                                                                            refine g_iload C 4 rfl dL_law_1846 ?_
                                                                            refine g_iconst C dL_law_1848 ?_
                                                                            refine g_iadd C dL_law_1849 ?_
                                                                            refine g_sld C hX hbl hbz (by omega) (by omega) dL_law_1850 ?_
                                                                            have e1561 : Tg h116 n33 = 12 := (pT_T hh115)
                                                                            have e1562 : Tg h1554 n33 = 12 := (fxT F1558 (fxT F134 ((pNT hh125 (pN_n hh125 z124 e1561)).trans e1561)))
                                                                            have e1563 : Tg h116 n33 = 12 := (pT_T hh115)
                                                                            have e1564 : Tg h129 n33 = 12 := (fxT F134 ((pNT hh125 (pN_n hh125 z124 e1563)).trans e1563))
                                                                            have p1565 := (MInv_fx O133 F1558 e1564 rfl p137)
                                                                            refine g_callI (st := []) (gc_V C lk_LandSurveyLaw_178 (k_X12_left l D cy w z0 O1557 e1562 f1552 p1565) e1562 rfl rfl rfl ⟨by decide, by decide⟩ (Nat.le_of_ble_eq_true rfl) dL_law_1851 ⟨(by show _ ≤ 601024; omega), (by show _ ≤ 7293034; omega)⟩) (fun r1566 h1567 f1569 K1568 => ?_)
                                                                            obtain ⟨O1570, F1571, f1572⟩ := K1568
                                                                            refine g_pop C rfl dL_law_1854 ?_
                                                                            refine g_goto C 1896 (by decide) dL_law_1855 ?_
                                                                            have f1573 : (8 : Int) ≤ (x128 + 8) ∧ (x128 + 8) ≤ (4096 : Int) := ia_add f150 (il 8) (by decide) (by decide)
                                                                            refine g_iinc C [(4, .inl (x128 + 8)), (0, .inr (.inr (b + 1))), (1, .inr (.inr n1)), (2, .inr (.inr n33)), (3, .inr (.inr n122))] 4 rfl (by decide) rfl dL_law_1896 ?_
                                                                            refine g_goto C 23 (by decide) dL_law_1899 ?_
                                                                            refine GW.sub [1, 2, 3, 4, 0] rfl ?_
                                                                            have e1574 : Tg h1554 n1 = 11 := (fxT F1558 e143)
                                                                            have p1575 := (XInv_fx O1557 F1571 e1574 rfl p1560)
                                                                            have p1576 := (MInv_fx O1557 F1571 e1562 rfl p1565)
                                                                            have e1577 : Iv h1567 n1 0 = v141 := ((fxI F1571 e1574 rfl).trans ((fxI F1558 e143 rfl).trans e142))
                                                                            have e1578 : Iv h1567 n33 33 = v141 := ((fxI F1571 e1562 rfl).trans ((fxI F1558 e1564 rfl).trans e145))
                                                                            refine GW.widen (by omega : _ ≤ 12 * (x128 + 8).toNat + 119) (by omega : _ ≤ 804 * (x128 + 8).toNat + 52115) ?_
                                                                            exact ih131 _ (by omega) (x128 + 8) h1567 rfl O1570 ((F134.call F1558 rfl).call F1571 rfl) (iw f1573 (by decide) (by decide)) p1575 p1576 (e1577.trans (Eq.symm e1578))
                                                                          · rcases Classical.em ((bAnd (sx xs x128) 63) = 34) with q1579 | q1580
                                                                            · refine g_tin (kv := 34) C q1579 (by decide) 1858 (by decide) (by decide) rfl (by decide) dL_law_40 ?_
                                                                              have f1581 : (34 : Int) ≤ (bAnd (sx xs x128) 63) ∧ (bAnd (sx xs x128) 63) ≤ (34 : Int) := ii f153 (r_eq (il 34) q1579) (by decide) (by decide)
                                                                              refine g_aload_n C rfl 1 rfl dL_law_1858 ?_
                                                                              refine g_callI (st := []) (gc_V C lk_LandSurveyLaw_179 (k_X11_next l D cy w z0 O133 e143 p136) e143 rfl rfl rfl ⟨by decide, by decide⟩ (Nat.le_of_ble_eq_true rfl) dL_law_1859 ⟨(by show _ ≤ 601024; omega), (by show _ ≤ 7293034; omega)⟩) (fun r1582 h1583 f1585 K1584 => ?_)
                                                                              obtain ⟨O1586, F1587, f1588, p1589⟩ := K1584
                                                                              refine g_pop C rfl dL_law_1862 ?_
                                                                              refine g_aload_n C rfl 2 rfl dL_law_1863 ?_
                                                                              have e1590 : Tg h116 n33 = 12 := (pT_T hh115)
                                                                              have e1591 : Tg h1583 n33 = 12 := (fxT F1587 (fxT F134 ((pNT hh125 (pN_n hh125 z124 e1590)).trans e1590)))
                                                                              have e1592 : Tg h116 n33 = 12 := (pT_T hh115)
                                                                              have e1593 : Tg h129 n33 = 12 := (fxT F134 ((pNT hh125 (pN_n hh125 z124 e1592)).trans e1592))
                                                                              have p1594 := (MInv_fx O133 F1587 e1593 rfl p137)
                                                                              refine g_callI (st := []) (gc_V C lk_LandSurveyLaw_182 (k_X12_next l D cy w z0 O1586 e1591 p1594) e1591 rfl rfl rfl ⟨by decide, by decide⟩ (Nat.le_of_ble_eq_true rfl) dL_law_1864 ⟨(by show _ ≤ 601024; omega), (by show _ ≤ 7293034; omega)⟩) (fun r1595 h1596 f1598 K1597 => ?_)
                                                                              obtain ⟨O1599, F1600, f1601⟩ := K1597
                                                                              refine g_pop C rfl dL_law_1867 ?_
                                                                              refine g_goto C 1896 (by decide) dL_law_1868 ?_
                                                                              have f1602 : (8 : Int) ≤ (x128 + 8) ∧ (x128 + 8) ≤ (4096 : Int) := ia_add f150 (il 8) (by decide) (by decide)
                                                                              refine g_iinc C [(4, .inl (x128 + 8)), (0, .inr (.inr (b + 1))), (1, .inr (.inr n1)), (2, .inr (.inr n33)), (3, .inr (.inr n122))] 4 rfl (by decide) rfl dL_law_1896 ?_
                                                                              refine g_goto C 23 (by decide) dL_law_1899 ?_
                                                                              refine GW.sub [1, 2, 3, 4, 0] rfl ?_
                                                                              have e1603 : Tg h1583 n1 = 11 := (fxT F1587 e143)
                                                                              have p1604 := (XInv_fx O1586 F1600 e1603 rfl p1589)
                                                                              have p1605 := (MInv_fx O1586 F1600 e1591 rfl p1594)
                                                                              have e1606 : Iv h1596 n1 0 = v141 := ((fxI F1600 e1603 rfl).trans ((fxI F1587 e143 rfl).trans e142))
                                                                              have e1607 : Iv h1596 n33 33 = v141 := ((fxI F1600 e1591 rfl).trans ((fxI F1587 e1593 rfl).trans e145))
                                                                              refine GW.widen (by omega : _ ≤ 12 * (x128 + 8).toNat + 119) (by omega : _ ≤ 804 * (x128 + 8).toNat + 52115) ?_
                                                                              exact ih131 _ (by omega) (x128 + 8) h1596 rfl O1599 ((F134.call F1587 rfl).call F1600 rfl) (iw f1602 (by decide) (by decide)) p1604 p1605 (e1606.trans (Eq.symm e1607))
                                                                            · rcases Classical.em ((bAnd (sx xs x128) 63) = 35) with q1608 | q1609
                                                                              · refine g_tin (kv := 35) C q1608 (by decide) 1871 (by decide) (by decide) rfl (by decide) dL_law_40 ?_
                                                                                have f1610 : (35 : Int) ≤ (bAnd (sx xs x128) 63) ∧ (bAnd (sx xs x128) 63) ≤ (35 : Int) := ii f153 (r_eq (il 35) q1608) (by decide) (by decide)
                                                                                refine g_aload_n C rfl 1 rfl dL_law_1871 ?_
                                                                                refine g_aload_n C rfl 0 rfl dL_law_1872 ?_
                                                                                refine g_iload C 4 rfl dL_law_1873 ?_
                                                                                refine g_iconst C dL_law_1875 ?_
                                                                                have f1611 : (1 : Int) ≤ (x128 + 1) ∧ (x128 + 1) ≤ (4089 : Int) := ia_add f150 (il 1) (by decide) (by decide)
                                                                                refine g_iadd C dL_law_1876 ?_
                                                                                refine g_sld C hX hbl hbz (by omega) (by omega) dL_law_1877 ?_
                                                                                have f1612 : (-2147483648 : Int) ≤ (sx xs (x128 + 1)) ∧ (sx xs (x128 + 1)) ≤ (2147483647 : Int) := inR_of _
                                                                                refine g_callI (st := []) (gc_V C lk_LandSurveyLaw_183 (k_X11_count l D cy w z0 O133 e143 f1612 p136) e143 rfl rfl rfl ⟨by decide, by decide⟩ (Nat.le_of_ble_eq_true rfl) dL_law_1878 ⟨(by show _ ≤ 601024; omega), (by show _ ≤ 7293034; omega)⟩) (fun r1613 h1614 f1616 K1615 => ?_)
                                                                                obtain ⟨O1617, F1618, f1619, p1620⟩ := K1615
                                                                                refine g_pop C rfl dL_law_1881 ?_
                                                                                refine g_aload_n C rfl 2 rfl dL_law_1882 ?_
                                                                                refine g_aload_n C rfl 0 rfl dL_law_1883 ?_
                                                                                refine g_iload C 4 rfl dL_law_1884 ?_
                                                                                refine g_iconst C dL_law_1886 ?_
                                                                                refine g_iadd C dL_law_1887 ?_
                                                                                refine g_sld C hX hbl hbz (by omega) (by omega) dL_law_1888 ?_
                                                                                have e1621 : Tg h116 n33 = 12 := (pT_T hh115)
                                                                                have e1622 : Tg h1614 n33 = 12 := (fxT F1618 (fxT F134 ((pNT hh125 (pN_n hh125 z124 e1621)).trans e1621)))
                                                                                have e1623 : Tg h116 n33 = 12 := (pT_T hh115)
                                                                                have e1624 : Tg h129 n33 = 12 := (fxT F134 ((pNT hh125 (pN_n hh125 z124 e1623)).trans e1623))
                                                                                have p1625 := (MInv_fx O133 F1618 e1624 rfl p137)
                                                                                refine g_callI (st := []) (gc_V C lk_LandSurveyLaw_186 (k_X12_count l D cy w z0 O1617 e1622 f1612 p1625) e1622 rfl rfl rfl ⟨by decide, by decide⟩ (Nat.le_of_ble_eq_true rfl) dL_law_1889 ⟨(by show _ ≤ 601024; omega), (by show _ ≤ 7293034; omega)⟩) (fun r1626 h1627 f1629 K1628 => ?_)
                                                                                obtain ⟨O1630, F1631, f1632⟩ := K1628
                                                                                refine g_pop C rfl dL_law_1892 ?_
                                                                                refine g_goto C 1896 (by decide) dL_law_1893 ?_
                                                                                have f1633 : (8 : Int) ≤ (x128 + 8) ∧ (x128 + 8) ≤ (4096 : Int) := ia_add f150 (il 8) (by decide) (by decide)
                                                                                refine g_iinc C [(4, .inl (x128 + 8)), (0, .inr (.inr (b + 1))), (1, .inr (.inr n1)), (2, .inr (.inr n33)), (3, .inr (.inr n122))] 4 rfl (by decide) rfl dL_law_1896 ?_
                                                                                refine g_goto C 23 (by decide) dL_law_1899 ?_
                                                                                refine GW.sub [1, 2, 3, 4, 0] rfl ?_
                                                                                have e1634 : Tg h1614 n1 = 11 := (fxT F1618 e143)
                                                                                have p1635 := (XInv_fx O1617 F1631 e1634 rfl p1620)
                                                                                have p1636 := (MInv_fx O1617 F1631 e1622 rfl p1625)
                                                                                have e1637 : Iv h1627 n1 0 = v141 := ((fxI F1631 e1634 rfl).trans ((fxI F1618 e143 rfl).trans e142))
                                                                                have e1638 : Iv h1627 n33 33 = v141 := ((fxI F1631 e1622 rfl).trans ((fxI F1618 e1624 rfl).trans e145))
                                                                                refine GW.widen (by omega : _ ≤ 12 * (x128 + 8).toNat + 119) (by omega : _ ≤ 804 * (x128 + 8).toNat + 52115) ?_
                                                                                exact ih131 _ (by omega) (x128 + 8) h1627 rfl O1630 ((F134.call F1618 rfl).call F1631 rfl) (iw f1633 (by decide) (by decide)) p1635 p1636 (e1637.trans (Eq.symm e1638))
                                                                              · refine g_tout C (iw f153 (by decide) (by decide)) 1896 (by omega) (by decide) dL_law_40 ?_
                                                                                have f1639 : (8 : Int) ≤ (x128 + 8) ∧ (x128 + 8) ≤ (4096 : Int) := ia_add f150 (il 8) (by decide) (by decide)
                                                                                refine g_iinc C [(4, .inl (x128 + 8)), (0, .inr (.inr (b + 1))), (1, .inr (.inr n1)), (2, .inr (.inr n33)), (3, .inr (.inr n122))] 4 rfl (by decide) rfl dL_law_1896 ?_
                                                                                refine g_goto C 23 (by decide) dL_law_1899 ?_
                                                                                refine GW.sub [1, 2, 3, 4, 0] rfl ?_
                                                                                refine GW.widen (by omega : _ ≤ 12 * (x128 + 8).toNat + 119) (by omega : _ ≤ 804 * (x128 + 8).toNat + 52115) ?_
                                                                                exact ih131 _ (by omega) (x128 + 8) h129 rfl O133 F134 (iw f1639 (by decide) (by decide)) p136 p137 (e142.trans (Eq.symm e145))
  refine GW.widen (by omega : _ ≤ 12 * (0 : Int).toNat + 119) (by omega : _ ≤ 804 * (0 : Int).toNat + 52115) ?_
  have e1640 : Tg h116 n1 = 11 := (fxT F121 (pT_T hh26))
  have p1641 := (XInv_fx O117 ((Fx.rf (wr := [1000099102]) (h := h116)).pN z124 hh125 rfl) e1640 rfl (XInv_fx O28 F121 (pT_T hh26) rfl p31))
  have p1642 := (MInv_fx O117 ((Fx.rf (wr := [1000099102]) (h := h116)).pN z124 hh125 rfl) (pT_T hh115) rfl p120)
  have e1643 : Iv h126 n1 0 = 0 := ((pNI hh125 (pN_n hh125 z124 e1640)).trans ((fxI F121 (pT_T hh26) rfl).trans e30))
  have e1644 : Iv h126 n33 33 = 0 := ((pNI hh125 (pN_n hh125 z124 (pT_T hh115))).trans e119)
  exact L130 _ 0 h126 rfl O127 Fx.rf (iw (il 0) (by decide) (by decide)) p1641 p1642 (e1643.trans (Eq.symm e1644))
