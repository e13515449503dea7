abbrev cL_law : ByteArray := code
def yL_law : MethodName := ⟨"LandSurveyLaw", "law", "([I)Z"⟩
theorem okL_law : yok yL_law 1 := by decide +kernel
theorem dL_law_200 : decode cL_law 200 = .ok (.aload_n 1, 1) := by decide +kernel
theorem dL_law_201 : decode cL_law 201 = .ok (.aload_n 0, 1) := by decide +kernel
theorem dL_law_202 : decode cL_law 202 = .ok (.iload 4, 2) := by decide +kernel
theorem dL_law_204 : decode cL_law 204 = .ok (.iconst 1, 1) := by decide +kernel
theorem dL_law_205 : decode cL_law 205 = .ok (.iadd, 1) := by decide +kernel
theorem dL_law_206 : decode cL_law 206 = .ok (.iaload, 1) := by decide +kernel
theorem dL_law_207 : decode cL_law 207 = .ok (.invokevirtual 30, 3) := by decide +kernel
theorem kw_529 : Cond.code yX11_days prog_1_method_2_code 2 (some .int) ∈ uu := uu_in (i := 529) (by decide +kernel) (by decide +kernel)
theorem kw_526 : Cond.methodLink "LandSurveyLaw" 30 yX11_days ∈ uu := uu_in (i := 526) (by decide +kernel) (by decide +kernel)
theorem kw_527 : Cond.instanceMethod yX11_days ∈ uu := uu_in (i := 527) (by decide +kernel) (by decide +kernel)
theorem kw_528 : Cond.selects "LandSurvey" yX11_days yX11_days ∈ uu := uu_in (i := 528) (by decide +kernel) (by decide +kernel)
theorem lk_LandSurveyLaw_30 : lkV "LandSurveyLaw" 30 yX11_days cX11_days 2 (some .int) 1 := ⟨kw_526, kw_527, kw_528, kw_144, kw_529, okX11_days⟩
theorem dL_law_210 : decode cL_law 210 = .ok (.pop, 1) := by decide +kernel
theorem dL_law_211 : decode cL_law 211 = .ok (.aload_n 2, 1) := by decide +kernel
theorem dL_law_212 : decode cL_law 212 = .ok (.aload_n 0, 1) := by decide +kernel
theorem dL_law_213 : decode cL_law 213 = .ok (.iload 4, 2) := by decide +kernel
theorem dL_law_215 : decode cL_law 215 = .ok (.iconst 1, 1) := by decide +kernel
theorem dL_law_216 : decode cL_law 216 = .ok (.iadd, 1) := by decide +kernel
theorem dL_law_217 : decode cL_law 217 = .ok (.iaload, 1) := by decide +kernel
theorem dL_law_218 : decode cL_law 218 = .ok (.invokevirtual 33, 3) := by decide +kernel
theorem kw_1887 : Cond.code yX12_days prog_14_method_38_code 2 (some .int) ∈ uu := uu_in (i := 1887) (by decide +kernel) (by decide +kernel)
theorem kw_1884 : Cond.methodLink "LandSurveyLaw" 33 yX12_days ∈ uu := uu_in (i := 1884) (by decide +kernel) (by decide +kernel)
theorem kw_1885 : Cond.instanceMethod yX12_days ∈ uu := uu_in (i := 1885) (by decide +kernel) (by decide +kernel)
theorem kw_1886 : Cond.selects "LandSurveyModel" yX12_days yX12_days ∈ uu := uu_in (i := 1886) (by decide +kernel) (by decide +kernel)
theorem lk_LandSurveyLaw_33 : lkV "LandSurveyLaw" 33 yX12_days cX12_days 2 (some .int) 1 := ⟨kw_1884, kw_1885, kw_1886, kw_152, kw_1887, okX12_days⟩
theorem dL_law_221 : decode cL_law 221 = .ok (.pop, 1) := by decide +kernel
theorem dL_law_222 : decode cL_law 222 = .ok (.goto 1674, 3) := by decide +kernel
theorem dL_law_1896 : decode cL_law 1896 = .ok (.iinc 4 8, 3) := by decide +kernel
theorem dL_law_1899 : decode cL_law 1899 = .ok (.goto (-1876), 3) := by decide +kernel
theorem dL_law_225 : decode cL_law 225 = .ok (.aload_n 1, 1) := by decide +kernel
theorem dL_law_226 : decode cL_law 226 = .ok (.aload_n 0, 1) := by decide +kernel
theorem dL_law_227 : decode cL_law 227 = .ok (.iload 4, 2) := by decide +kernel
theorem dL_law_229 : decode cL_law 229 = .ok (.iconst 1, 1) := by decide +kernel
theorem dL_law_230 : decode cL_law 230 = .ok (.iadd, 1) := by decide +kernel
theorem dL_law_231 : decode cL_law 231 = .ok (.iaload, 1) := by decide +kernel
theorem dL_law_232 : decode cL_law 232 = .ok (.invokevirtual 34, 3) := by decide +kernel
theorem kw_533 : Cond.code yX11_view prog_1_method_3_code 2 (some .boolean) ∈ uu := uu_in (i := 533) (by decide +kernel) (by decide +kernel)
theorem kw_530 : Cond.methodLink "LandSurveyLaw" 34 yX11_view ∈ uu := uu_in (i := 530) (by decide +kernel) (by decide +kernel)
theorem kw_531 : Cond.instanceMethod yX11_view ∈ uu := uu_in (i := 531) (by decide +kernel) (by decide +kernel)
theorem kw_532 : Cond.selects "LandSurvey" yX11_view yX11_view ∈ uu := uu_in (i := 532) (by decide +kernel) (by decide +kernel)
theorem lk_LandSurveyLaw_34 : lkV "LandSurveyLaw" 34 yX11_view cX11_view 2 (some .boolean) 1 := ⟨kw_530, kw_531, kw_532, kw_144, kw_533, okX11_view⟩
theorem dL_law_235 : decode cL_law 235 = .ok (.pop, 1) := by decide +kernel
theorem dL_law_236 : decode cL_law 236 = .ok (.aload_n 2, 1) := by decide +kernel
theorem dL_law_237 : decode cL_law 237 = .ok (.aload_n 0, 1) := by decide +kernel
theorem dL_law_238 : decode cL_law 238 = .ok (.iload 4, 2) := by decide +kernel
theorem dL_law_240 : decode cL_law 240 = .ok (.iconst 1, 1) := by decide +kernel
theorem dL_law_241 : decode cL_law 241 = .ok (.iadd, 1) := by decide +kernel
theorem dL_law_242 : decode cL_law 242 = .ok (.iaload, 1) := by decide +kernel
theorem dL_law_243 : decode cL_law 243 = .ok (.invokevirtual 38, 3) := by decide +kernel
theorem kw_1894 : Cond.code yX12_view prog_14_method_39_code 2 (some .boolean) ∈ uu := uu_in (i := 1894) (by decide +kernel) (by decide +kernel)
theorem kw_1891 : Cond.methodLink "LandSurveyLaw" 38 yX12_view ∈ uu := uu_in (i := 1891) (by decide +kernel) (by decide +kernel)
theorem kw_1892 : Cond.instanceMethod yX12_view ∈ uu := uu_in (i := 1892) (by decide +kernel) (by decide +kernel)
theorem kw_1893 : Cond.selects "LandSurveyModel" yX12_view yX12_view ∈ uu := uu_in (i := 1893) (by decide +kernel) (by decide +kernel)
theorem lk_LandSurveyLaw_38 : lkV "LandSurveyLaw" 38 yX12_view cX12_view 2 (some .boolean) 1 := ⟨kw_1891, kw_1892, kw_1893, kw_152, kw_1894, okX12_view⟩
theorem dL_law_246 : decode cL_law 246 = .ok (.pop, 1) := by decide +kernel
theorem dL_law_247 : decode cL_law 247 = .ok (.goto 1649, 3) := by decide +kernel
theorem dL_law_250 : decode cL_law 250 = .ok (.aload_n 1, 1) := by decide +kernel
theorem dL_law_251 : decode cL_law 251 = .ok (.aload_n 0, 1) := by decide +kernel
theorem dL_law_252 : decode cL_law 252 = .ok (.iload 4, 2) := by decide +kernel
theorem dL_law_254 : decode cL_law 254 = .ok (.iconst 1, 1) := by decide +kernel
theorem dL_law_255 : decode cL_law 255 = .ok (.iadd, 1) := by decide +kernel
theorem dL_law_256 : decode cL_law 256 = .ok (.iaload, 1) := by decide +kernel
theorem dL_law_257 : decode cL_law 257 = .ok (.aload_n 0, 1) := by decide +kernel
theorem dL_law_258 : decode cL_law 258 = .ok (.iload 4, 2) := by decide +kernel
theorem dL_law_260 : decode cL_law 260 = .ok (.iconst 2, 1) := by decide +kernel
theorem dL_law_261 : decode cL_law 261 = .ok (.iadd, 1) := by decide +kernel
theorem dL_law_262 : decode cL_law 262 = .ok (.iaload, 1) := by decide +kernel
theorem dL_law_263 : decode cL_law 263 = .ok (.aload_n 0, 1) := by decide +kernel
theorem dL_law_264 : decode cL_law 264 = .ok (.iload 4, 2) := by decide +kernel
theorem dL_law_266 : decode cL_law 266 = .ok (.iconst 3, 1) := by decide +kernel
theorem dL_law_267 : decode cL_law 267 = .ok (.iadd, 1) := by decide +kernel
theorem dL_law_268 : decode cL_law 268 = .ok (.iaload, 1) := by decide +kernel
theorem dL_law_269 : decode cL_law 269 = .ok (.aload_n 0, 1) := by decide +kernel
theorem dL_law_270 : decode cL_law 270 = .ok (.iload 4, 2) := by decide +kernel
theorem dL_law_272 : decode cL_law 272 = .ok (.iconst 4, 1) := by decide +kernel
theorem dL_law_273 : decode cL_law 273 = .ok (.iadd, 1) := by decide +kernel
theorem dL_law_274 : decode cL_law 274 = .ok (.iaload, 1) := by decide +kernel
theorem dL_law_275 : decode cL_law 275 = .ok (.ifCond .eq 7, 3) := by decide +kernel
theorem dL_law_282 : decode cL_law 282 = .ok (.iconst 0, 1) := by decide +kernel
theorem dL_law_283 : decode cL_law 283 = .ok (.invokevirtual 39, 3) := by decide +kernel
theorem kw_537 : Cond.code yX11_cell prog_1_method_4_code 6 (some .boolean) ∈ uu := uu_in (i := 537) (by decide +kernel) (by decide +kernel)
theorem kw_534 : Cond.methodLink "LandSurveyLaw" 39 yX11_cell ∈ uu := uu_in (i := 534) (by decide +kernel) (by decide +kernel)
theorem kw_535 : Cond.instanceMethod yX11_cell ∈ uu := uu_in (i := 535) (by decide +kernel) (by decide +kernel)
theorem kw_536 : Cond.selects "LandSurvey" yX11_cell yX11_cell ∈ uu := uu_in (i := 536) (by decide +kernel) (by decide +kernel)
theorem lk_LandSurveyLaw_39 : lkV "LandSurveyLaw" 39 yX11_cell cX11_cell 6 (some .boolean) 4 := ⟨kw_534, kw_535, kw_536, kw_144, kw_537, okX11_cell⟩
theorem dL_law_286 : decode cL_law 286 = .ok (.pop, 1) := by decide +kernel
theorem dL_law_287 : decode cL_law 287 = .ok (.aload_n 2, 1) := by decide +kernel
theorem dL_law_288 : decode cL_law 288 = .ok (.aload_n 0, 1) := by decide +kernel
theorem dL_law_289 : decode cL_law 289 = .ok (.iload 4, 2) := by decide +kernel
theorem dL_law_291 : decode cL_law 291 = .ok (.iconst 1, 1) := by decide +kernel
theorem dL_law_292 : decode cL_law 292 = .ok (.iadd, 1) := by decide +kernel
theorem dL_law_293 : decode cL_law 293 = .ok (.iaload, 1) := by decide +kernel
theorem dL_law_294 : decode cL_law 294 = .ok (.aload_n 0, 1) := by decide +kernel
theorem dL_law_295 : decode cL_law 295 = .ok (.iload 4, 2) := by decide +kernel
theorem dL_law_297 : decode cL_law 297 = .ok (.iconst 2, 1) := by decide +kernel
theorem dL_law_298 : decode cL_law 298 = .ok (.iadd, 1) := by decide +kernel
theorem dL_law_299 : decode cL_law 299 = .ok (.iaload, 1) := by decide +kernel
theorem dL_law_300 : decode cL_law 300 = .ok (.aload_n 0, 1) := by decide +kernel
theorem dL_law_301 : decode cL_law 301 = .ok (.iload 4, 2) := by decide +kernel
theorem dL_law_303 : decode cL_law 303 = .ok (.iconst 3, 1) := by decide +kernel
theorem dL_law_304 : decode cL_law 304 = .ok (.iadd, 1) := by decide +kernel
theorem dL_law_305 : decode cL_law 305 = .ok (.iaload, 1) := by decide +kernel
theorem dL_law_306 : decode cL_law 306 = .ok (.aload_n 0, 1) := by decide +kernel
theorem dL_law_307 : decode cL_law 307 = .ok (.iload 4, 2) := by decide +kernel
theorem dL_law_309 : decode cL_law 309 = .ok (.iconst 4, 1) := by decide +kernel
theorem dL_law_310 : decode cL_law 310 = .ok (.iadd, 1) := by decide +kernel
theorem dL_law_311 : decode cL_law 311 = .ok (.iaload, 1) := by decide +kernel
theorem dL_law_312 : decode cL_law 312 = .ok (.ifCond .eq 7, 3) := by decide +kernel
theorem dL_law_319 : decode cL_law 319 = .ok (.iconst 0, 1) := by decide +kernel
theorem dL_law_320 : decode cL_law 320 = .ok (.invokevirtual 43, 3) := by decide +kernel
theorem kw_1898 : Cond.code yX12_cell prog_14_method_41_code 5 (some .boolean) ∈ uu := uu_in (i := 1898) (by decide +kernel) (by decide +kernel)
theorem kw_1895 : Cond.methodLink "LandSurveyLaw" 43 yX12_cell ∈ uu := uu_in (i := 1895) (by decide +kernel) (by decide +kernel)
theorem kw_1896 : Cond.instanceMethod yX12_cell ∈ uu := uu_in (i := 1896) (by decide +kernel) (by decide +kernel)
theorem kw_1897 : Cond.selects "LandSurveyModel" yX12_cell yX12_cell ∈ uu := uu_in (i := 1897) (by decide +kernel) (by decide +kernel)
theorem lk_LandSurveyLaw_43 : lkV "LandSurveyLaw" 43 yX12_cell cX12_cell 5 (some .boolean) 4 := ⟨kw_1895, kw_1896, kw_1897, kw_152, kw_1898, okX12_cell⟩
theorem dL_law_323 : decode cL_law 323 = .ok (.pop, 1) := by decide +kernel
theorem dL_law_324 : decode cL_law 324 = .ok (.goto 1572, 3) := by decide +kernel
theorem dL_law_278 : decode cL_law 278 = .ok (.iconst 1, 1) := by decide +kernel
theorem dL_law_279 : decode cL_law 279 = .ok (.goto 4, 3) := by decide +kernel
theorem dL_law_315 : decode cL_law 315 = .ok (.iconst 1, 1) := by decide +kernel
theorem dL_law_316 : decode cL_law 316 = .ok (.goto 4, 3) := by decide +kernel
theorem dL_law_327 : decode cL_law 327 = .ok (.aload_n 1, 1) := by decide +kernel
theorem dL_law_328 : decode cL_law 328 = .ok (.aload_n 0, 1) := by decide +kernel
theorem dL_law_329 : decode cL_law 329 = .ok (.iload 4, 2) := by decide +kernel
theorem dL_law_331 : decode cL_law 331 = .ok (.iconst 1, 1) := by decide +kernel
theorem dL_law_332 : decode cL_law 332 = .ok (.iadd, 1) := by decide +kernel
theorem dL_law_333 : decode cL_law 333 = .ok (.iaload, 1) := by decide +kernel
theorem dL_law_334 : decode cL_law 334 = .ok (.aload_n 0, 1) := by decide +kernel
theorem dL_law_335 : decode cL_law 335 = .ok (.iload 4, 2) := by decide +kernel
theorem dL_law_337 : decode cL_law 337 = .ok (.iconst 2, 1) := by decide +kernel
theorem dL_law_338 : decode cL_law 338 = .ok (.iadd, 1) := by decide +kernel
theorem dL_law_339 : decode cL_law 339 = .ok (.iaload, 1) := by decide +kernel
theorem dL_law_340 : decode cL_law 340 = .ok (.aload_n 0, 1) := by decide +kernel
theorem dL_law_341 : decode cL_law 341 = .ok (.iload 4, 2) := by decide +kernel
theorem dL_law_343 : decode cL_law 343 = .ok (.iconst 3, 1) := by decide +kernel
theorem dL_law_344 : decode cL_law 344 = .ok (.iadd, 1) := by decide +kernel
theorem dL_law_345 : decode cL_law 345 = .ok (.iaload, 1) := by decide +kernel
theorem dL_law_346 : decode cL_law 346 = .ok (.ifCond .eq 7, 3) := by decide +kernel
theorem dL_law_353 : decode cL_law 353 = .ok (.iconst 0, 1) := by decide +kernel
theorem dL_law_354 : decode cL_law 354 = .ok (.invokevirtual 44, 3) := by decide +kernel
theorem kw_544 : Cond.code yX11_fold prog_1_method_5_code 5 (some .boolean) ∈ uu := uu_in (i := 544) (by decide +kernel) (by decide +kernel)
theorem kw_541 : Cond.methodLink "LandSurveyLaw" 44 yX11_fold ∈ uu := uu_in (i := 541) (by decide +kernel) (by decide +kernel)
theorem kw_542 : Cond.instanceMethod yX11_fold ∈ uu := uu_in (i := 542) (by decide +kernel) (by decide +kernel)
theorem kw_543 : Cond.selects "LandSurvey" yX11_fold yX11_fold ∈ uu := uu_in (i := 543) (by decide +kernel) (by decide +kernel)
theorem lk_LandSurveyLaw_44 : lkV "LandSurveyLaw" 44 yX11_fold cX11_fold 5 (some .boolean) 3 := ⟨kw_541, kw_542, kw_543, kw_144, kw_544, okX11_fold⟩
theorem dL_law_357 : decode cL_law 357 = .ok (.pop, 1) := by decide +kernel
theorem dL_law_358 : decode cL_law 358 = .ok (.aload_n 2, 1) := by decide +kernel
theorem dL_law_359 : decode cL_law 359 = .ok (.aload_n 0, 1) := by decide +kernel
theorem dL_law_360 : decode cL_law 360 = .ok (.iload 4, 2) := by decide +kernel
theorem dL_law_362 : decode cL_law 362 = .ok (.iconst 1, 1) := by decide +kernel
theorem dL_law_363 : decode cL_law 363 = .ok (.iadd, 1) := by decide +kernel
theorem dL_law_364 : decode cL_law 364 = .ok (.iaload, 1) := by decide +kernel
theorem dL_law_365 : decode cL_law 365 = .ok (.aload_n 0, 1) := by decide +kernel
theorem dL_law_366 : decode cL_law 366 = .ok (.iload 4, 2) := by decide +kernel
theorem dL_law_368 : decode cL_law 368 = .ok (.iconst 2, 1) := by decide +kernel
theorem dL_law_369 : decode cL_law 369 = .ok (.iadd, 1) := by decide +kernel
theorem dL_law_370 : decode cL_law 370 = .ok (.iaload, 1) := by decide +kernel
theorem dL_law_371 : decode cL_law 371 = .ok (.aload_n 0, 1) := by decide +kernel
theorem dL_law_372 : decode cL_law 372 = .ok (.iload 4, 2) := by decide +kernel
theorem dL_law_374 : decode cL_law 374 = .ok (.iconst 3, 1) := by decide +kernel
theorem dL_law_375 : decode cL_law 375 = .ok (.iadd, 1) := by decide +kernel
theorem dL_law_376 : decode cL_law 376 = .ok (.iaload, 1) := by decide +kernel
theorem dL_law_377 : decode cL_law 377 = .ok (.ifCond .eq 7, 3) := by decide +kernel
theorem dL_law_384 : decode cL_law 384 = .ok (.iconst 0, 1) := by decide +kernel
theorem dL_law_385 : decode cL_law 385 = .ok (.invokevirtual 48, 3) := by decide +kernel
theorem kw_1905 : Cond.code yX12_fold prog_14_method_42_code 4 (some .boolean) ∈ uu := uu_in (i := 1905) (by decide +kernel) (by decide +kernel)
theorem kw_1902 : Cond.methodLink "LandSurveyLaw" 48 yX12_fold ∈ uu := uu_in (i := 1902) (by decide +kernel) (by decide +kernel)
theorem kw_1903 : Cond.instanceMethod yX12_fold ∈ uu := uu_in (i := 1903) (by decide +kernel) (by decide +kernel)
theorem kw_1904 : Cond.selects "LandSurveyModel" yX12_fold yX12_fold ∈ uu := uu_in (i := 1904) (by decide +kernel) (by decide +kernel)
theorem lk_LandSurveyLaw_48 : lkV "LandSurveyLaw" 48 yX12_fold cX12_fold 4 (some .boolean) 3 := ⟨kw_1902, kw_1903, kw_1904, kw_152, kw_1905, okX12_fold⟩
theorem dL_law_388 : decode cL_law 388 = .ok (.pop, 1) := by decide +kernel
theorem dL_law_389 : decode cL_law 389 = .ok (.goto 1507, 3) := by decide +kernel
theorem dL_law_349 : decode cL_law 349 = .ok (.iconst 1, 1) := by decide +kernel
theorem dL_law_350 : decode cL_law 350 = .ok (.goto 4, 3) := by decide +kernel
theorem dL_law_380 : decode cL_law 380 = .ok (.iconst 1, 1) := by decide +kernel
theorem dL_law_381 : decode cL_law 381 = .ok (.goto 4, 3) := by decide +kernel
theorem dL_law_392 : decode cL_law 392 = .ok (.aload_n 1, 1) := by decide +kernel
theorem dL_law_393 : decode cL_law 393 = .ok (.aload_n 0, 1) := by decide +kernel
theorem dL_law_394 : decode cL_law 394 = .ok (.iload 4, 2) := by decide +kernel
theorem dL_law_396 : decode cL_law 396 = .ok (.iconst 1, 1) := by decide +kernel
theorem dL_law_397 : decode cL_law 397 = .ok (.iadd, 1) := by decide +kernel
theorem dL_law_398 : decode cL_law 398 = .ok (.iaload, 1) := by decide +kernel
theorem dL_law_399 : decode cL_law 399 = .ok (.aload_n 0, 1) := by decide +kernel
theorem dL_law_400 : decode cL_law 400 = .ok (.iload 4, 2) := by decide +kernel
theorem dL_law_402 : decode cL_law 402 = .ok (.iconst 2, 1) := by decide +kernel
theorem dL_law_403 : decode cL_law 403 = .ok (.iadd, 1) := by decide +kernel
theorem dL_law_404 : decode cL_law 404 = .ok (.iaload, 1) := by decide +kernel
theorem dL_law_405 : decode cL_law 405 = .ok (.aload_n 0, 1) := by decide +kernel
theorem dL_law_406 : decode cL_law 406 = .ok (.iload 4, 2) := by decide +kernel
theorem dL_law_408 : decode cL_law 408 = .ok (.iconst 3, 1) := by decide +kernel
theorem dL_law_409 : decode cL_law 409 = .ok (.iadd, 1) := by decide +kernel
theorem dL_law_410 : decode cL_law 410 = .ok (.iaload, 1) := by decide +kernel
theorem dL_law_411 : decode cL_law 411 = .ok (.invokevirtual 49, 3) := by decide +kernel
theorem kw_548 : Cond.code yX11_own prog_1_method_6_code 5 (some .boolean) ∈ uu := uu_in (i := 548) (by decide +kernel) (by decide +kernel)
theorem kw_545 : Cond.methodLink "LandSurveyLaw" 49 yX11_own ∈ uu := uu_in (i := 545) (by decide +kernel) (by decide +kernel)
theorem kw_546 : Cond.instanceMethod yX11_own ∈ uu := uu_in (i := 546) (by decide +kernel) (by decide +kernel)
theorem kw_547 : Cond.selects "LandSurvey" yX11_own yX11_own ∈ uu := uu_in (i := 547) (by decide +kernel) (by decide +kernel)
theorem lk_LandSurveyLaw_49 : lkV "LandSurveyLaw" 49 yX11_own cX11_own 5 (some .boolean) 3 := ⟨kw_545, kw_546, kw_547, kw_144, kw_548, okX11_own⟩
theorem dL_law_414 : decode cL_law 414 = .ok (.pop, 1) := by decide +kernel
theorem dL_law_415 : decode cL_law 415 = .ok (.aload_n 2, 1) := by decide +kernel
theorem dL_law_416 : decode cL_law 416 = .ok (.aload_n 0, 1) := by decide +kernel
theorem dL_law_417 : decode cL_law 417 = .ok (.iload 4, 2) := by decide +kernel
theorem dL_law_419 : decode cL_law 419 = .ok (.iconst 1, 1) := by decide +kernel
theorem dL_law_420 : decode cL_law 420 = .ok (.iadd, 1) := by decide +kernel
theorem dL_law_421 : decode cL_law 421 = .ok (.iaload, 1) := by decide +kernel
theorem dL_law_422 : decode cL_law 422 = .ok (.aload_n 0, 1) := by decide +kernel
theorem dL_law_423 : decode cL_law 423 = .ok (.iload 4, 2) := by decide +kernel
theorem dL_law_425 : decode cL_law 425 = .ok (.iconst 2, 1) := by decide +kernel
theorem dL_law_426 : decode cL_law 426 = .ok (.iadd, 1) := by decide +kernel
theorem dL_law_427 : decode cL_law 427 = .ok (.iaload, 1) := by decide +kernel
theorem dL_law_428 : decode cL_law 428 = .ok (.aload_n 0, 1) := by decide +kernel
theorem dL_law_429 : decode cL_law 429 = .ok (.iload 4, 2) := by decide +kernel
theorem dL_law_431 : decode cL_law 431 = .ok (.iconst 3, 1) := by decide +kernel
theorem dL_law_432 : decode cL_law 432 = .ok (.iadd, 1) := by decide +kernel
theorem dL_law_433 : decode cL_law 433 = .ok (.iaload, 1) := by decide +kernel
theorem dL_law_434 : decode cL_law 434 = .ok (.invokevirtual 53, 3) := by decide +kernel
theorem kw_1909 : Cond.code yX12_own prog_14_method_43_code 4 (some .boolean) ∈ uu := uu_in (i := 1909) (by decide +kernel) (by decide +kernel)
theorem kw_1906 : Cond.methodLink "LandSurveyLaw" 53 yX12_own ∈ uu := uu_in (i := 1906) (by decide +kernel) (by decide +kernel)
theorem kw_1907 : Cond.instanceMethod yX12_own ∈ uu := uu_in (i := 1907) (by decide +kernel) (by decide +kernel)
theorem kw_1908 : Cond.selects "LandSurveyModel" yX12_own yX12_own ∈ uu := uu_in (i := 1908) (by decide +kernel) (by decide +kernel)
theorem lk_LandSurveyLaw_53 : lkV "LandSurveyLaw" 53 yX12_own cX12_own 4 (some .boolean) 3 := ⟨kw_1906, kw_1907, kw_1908, kw_152, kw_1909, okX12_own⟩
theorem dL_law_437 : decode cL_law 437 = .ok (.pop, 1) := by decide +kernel
theorem dL_law_438 : decode cL_law 438 = .ok (.goto 1458, 3) := by decide +kernel
theorem dL_law_441 : decode cL_law 441 = .ok (.aload_n 1, 1) := by decide +kernel
theorem dL_law_442 : decode cL_law 442 = .ok (.aload_n 0, 1) := by decide +kernel
theorem dL_law_443 : decode cL_law 443 = .ok (.iload 4, 2) := by decide +kernel
theorem dL_law_445 : decode cL_law 445 = .ok (.iconst 1, 1) := by decide +kernel
theorem dL_law_446 : decode cL_law 446 = .ok (.iadd, 1) := by decide +kernel
theorem dL_law_447 : decode cL_law 447 = .ok (.iaload, 1) := by decide +kernel
theorem dL_law_448 : decode cL_law 448 = .ok (.aload_n 0, 1) := by decide +kernel
theorem dL_law_449 : decode cL_law 449 = .ok (.iload 4, 2) := by decide +kernel
theorem dL_law_451 : decode cL_law 451 = .ok (.iconst 2, 1) := by decide +kernel
theorem dL_law_452 : decode cL_law 452 = .ok (.iadd, 1) := by decide +kernel
theorem dL_law_453 : decode cL_law 453 = .ok (.iaload, 1) := by decide +kernel
theorem dL_law_454 : decode cL_law 454 = .ok (.aload_n 0, 1) := by decide +kernel
theorem dL_law_455 : decode cL_law 455 = .ok (.iload 4, 2) := by decide +kernel
theorem dL_law_457 : decode cL_law 457 = .ok (.iconst 3, 1) := by decide +kernel
theorem dL_law_458 : decode cL_law 458 = .ok (.iadd, 1) := by decide +kernel
theorem dL_law_459 : decode cL_law 459 = .ok (.iaload, 1) := by decide +kernel
theorem dL_law_460 : decode cL_law 460 = .ok (.aload_n 0, 1) := by decide +kernel
theorem dL_law_461 : decode cL_law 461 = .ok (.iload 4, 2) := by decide +kernel
theorem dL_law_463 : decode cL_law 463 = .ok (.iconst 4, 1) := by decide +kernel
theorem dL_law_464 : decode cL_law 464 = .ok (.iadd, 1) := by decide +kernel
theorem dL_law_465 : decode cL_law 465 = .ok (.iaload, 1) := by decide +kernel
theorem dL_law_466 : decode cL_law 466 = .ok (.aload_n 0, 1) := by decide +kernel
theorem dL_law_467 : decode cL_law 467 = .ok (.iload 4, 2) := by decide +kernel
theorem dL_law_469 : decode cL_law 469 = .ok (.iconst 5, 1) := by decide +kernel
theorem dL_law_470 : decode cL_law 470 = .ok (.iadd, 1) := by decide +kernel
theorem dL_law_471 : decode cL_law 471 = .ok (.iaload, 1) := by decide +kernel
theorem dL_law_472 : decode cL_law 472 = .ok (.aload_n 0, 1) := by decide +kernel
theorem dL_law_473 : decode cL_law 473 = .ok (.iload 4, 2) := by decide +kernel
theorem dL_law_475 : decode cL_law 475 = .ok (.bipush 6, 2) := by decide +kernel
theorem dL_law_477 : decode cL_law 477 = .ok (.iadd, 1) := by decide +kernel
theorem dL_law_478 : decode cL_law 478 = .ok (.iaload, 1) := by decide +kernel
theorem dL_law_479 : decode cL_law 479 = .ok (.invokevirtual 54, 3) := by decide +kernel
theorem kw_552 : Cond.code yX11_sight prog_1_method_7_code 10 (some .int) ∈ uu := uu_in (i := 552) (by decide +kernel) (by decide +kernel)
theorem kw_549 : Cond.methodLink "LandSurveyLaw" 54 yX11_sight ∈ uu := uu_in (i := 549) (by decide +kernel) (by decide +kernel)
theorem kw_550 : Cond.instanceMethod yX11_sight ∈ uu := uu_in (i := 550) (by decide +kernel) (by decide +kernel)
theorem kw_551 : Cond.selects "LandSurvey" yX11_sight yX11_sight ∈ uu := uu_in (i := 551) (by decide +kernel) (by decide +kernel)
theorem lk_LandSurveyLaw_54 : lkV "LandSurveyLaw" 54 yX11_sight cX11_sight 10 (some .int) 6 := ⟨kw_549, kw_550, kw_551, kw_144, kw_552, okX11_sight⟩
theorem dL_law_482 : decode cL_law 482 = .ok (.pop, 1) := by decide +kernel
theorem dL_law_483 : decode cL_law 483 = .ok (.aload_n 2, 1) := by decide +kernel
theorem dL_law_484 : decode cL_law 484 = .ok (.aload_n 0, 1) := by decide +kernel
theorem dL_law_485 : decode cL_law 485 = .ok (.iload 4, 2) := by decide +kernel
theorem dL_law_487 : decode cL_law 487 = .ok (.iconst 1, 1) := by decide +kernel
theorem dL_law_488 : decode cL_law 488 = .ok (.iadd, 1) := by decide +kernel
theorem dL_law_489 : decode cL_law 489 = .ok (.iaload, 1) := by decide +kernel
theorem dL_law_490 : decode cL_law 490 = .ok (.aload_n 0, 1) := by decide +kernel
theorem dL_law_491 : decode cL_law 491 = .ok (.iload 4, 2) := by decide +kernel
theorem dL_law_493 : decode cL_law 493 = .ok (.iconst 2, 1) := by decide +kernel
theorem dL_law_494 : decode cL_law 494 = .ok (.iadd, 1) := by decide +kernel
theorem dL_law_495 : decode cL_law 495 = .ok (.iaload, 1) := by decide +kernel
theorem dL_law_496 : decode cL_law 496 = .ok (.aload_n 0, 1) := by decide +kernel
theorem dL_law_497 : decode cL_law 497 = .ok (.iload 4, 2) := by decide +kernel
theorem dL_law_499 : decode cL_law 499 = .ok (.iconst 3, 1) := by decide +kernel
theorem dL_law_500 : decode cL_law 500 = .ok (.iadd, 1) := by decide +kernel
theorem dL_law_501 : decode cL_law 501 = .ok (.iaload, 1) := by decide +kernel
theorem dL_law_502 : decode cL_law 502 = .ok (.aload_n 0, 1) := by decide +kernel
theorem dL_law_503 : decode cL_law 503 = .ok (.iload 4, 2) := by decide +kernel
theorem dL_law_505 : decode cL_law 505 = .ok (.iconst 4, 1) := by decide +kernel
theorem dL_law_506 : decode cL_law 506 = .ok (.iadd, 1) := by decide +kernel
theorem dL_law_507 : decode cL_law 507 = .ok (.iaload, 1) := by decide +kernel
theorem dL_law_508 : decode cL_law 508 = .ok (.aload_n 0, 1) := by decide +kernel
theorem dL_law_509 : decode cL_law 509 = .ok (.iload 4, 2) := by decide +kernel
theorem dL_law_511 : decode cL_law 511 = .ok (.iconst 5, 1) := by decide +kernel
theorem dL_law_512 : decode cL_law 512 = .ok (.iadd, 1) := by decide +kernel
theorem dL_law_513 : decode cL_law 513 = .ok (.iaload, 1) := by decide +kernel
theorem dL_law_514 : decode cL_law 514 = .ok (.aload_n 0, 1) := by decide +kernel
theorem dL_law_515 : decode cL_law 515 = .ok (.iload 4, 2) := by decide +kernel
theorem dL_law_517 : decode cL_law 517 = .ok (.bipush 6, 2) := by decide +kernel
theorem dL_law_519 : decode cL_law 519 = .ok (.iadd, 1) := by decide +kernel
theorem dL_law_520 : decode cL_law 520 = .ok (.iaload, 1) := by decide +kernel
theorem dL_law_521 : decode cL_law 521 = .ok (.invokevirtual 58, 3) := by decide +kernel
theorem kw_1913 : Cond.code yX12_sight prog_14_method_44_code 8 (some .int) ∈ uu := uu_in (i := 1913) (by decide +kernel) (by decide +kernel)
theorem kw_1910 : Cond.methodLink "LandSurveyLaw" 58 yX12_sight ∈ uu := uu_in (i := 1910) (by decide +kernel) (by decide +kernel)
theorem kw_1911 : Cond.instanceMethod yX12_sight ∈ uu := uu_in (i := 1911) (by decide +kernel) (by decide +kernel)
theorem kw_1912 : Cond.selects "LandSurveyModel" yX12_sight yX12_sight ∈ uu := uu_in (i := 1912) (by decide +kernel) (by decide +kernel)
theorem lk_LandSurveyLaw_58 : lkV "LandSurveyLaw" 58 yX12_sight cX12_sight 8 (some .int) 6 := ⟨kw_1910, kw_1911, kw_1912, kw_152, kw_1913, okX12_sight⟩
theorem dL_law_524 : decode cL_law 524 = .ok (.pop, 1) := by decide +kernel
theorem dL_law_525 : decode cL_law 525 = .ok (.goto 1371, 3) := by decide +kernel
theorem dL_law_528 : decode cL_law 528 = .ok (.aload_n 1, 1) := by decide +kernel
theorem dL_law_529 : decode cL_law 529 = .ok (.aload_n 0, 1) := by decide +kernel
theorem dL_law_530 : decode cL_law 530 = .ok (.iload 4, 2) := by decide +kernel
theorem dL_law_532 : decode cL_law 532 = .ok (.iconst 1, 1) := by decide +kernel
theorem dL_law_533 : decode cL_law 533 = .ok (.iadd, 1) := by decide +kernel
theorem dL_law_534 : decode cL_law 534 = .ok (.iaload, 1) := by decide +kernel
theorem dL_law_535 : decode cL_law 535 = .ok (.aload_n 0, 1) := by decide +kernel
theorem dL_law_536 : decode cL_law 536 = .ok (.iload 4, 2) := by decide +kernel
theorem dL_law_538 : decode cL_law 538 = .ok (.iconst 2, 1) := by decide +kernel
theorem dL_law_539 : decode cL_law 539 = .ok (.iadd, 1) := by decide +kernel
theorem dL_law_540 : decode cL_law 540 = .ok (.iaload, 1) := by decide +kernel
theorem dL_law_541 : decode cL_law 541 = .ok (.aload_n 0, 1) := by decide +kernel
theorem dL_law_542 : decode cL_law 542 = .ok (.iload 4, 2) := by decide +kernel
theorem dL_law_544 : decode cL_law 544 = .ok (.iconst 3, 1) := by decide +kernel
theorem dL_law_545 : decode cL_law 545 = .ok (.iadd, 1) := by decide +kernel
theorem dL_law_546 : decode cL_law 546 = .ok (.iaload, 1) := by decide +kernel
theorem dL_law_547 : decode cL_law 547 = .ok (.aload_n 0, 1) := by decide +kernel
theorem dL_law_548 : decode cL_law 548 = .ok (.iload 4, 2) := by decide +kernel
theorem dL_law_550 : decode cL_law 550 = .ok (.iconst 4, 1) := by decide +kernel
theorem dL_law_551 : decode cL_law 551 = .ok (.iadd, 1) := by decide +kernel
theorem dL_law_552 : decode cL_law 552 = .ok (.iaload, 1) := by decide +kernel
theorem dL_law_553 : decode cL_law 553 = .ok (.invokevirtual 59, 3) := by decide +kernel
theorem kw_639 : Cond.code yX11_dip prog_1_method_8_code 5 (some .boolean) ∈ uu := uu_in (i := 639) (by decide +kernel) (by decide +kernel)
theorem kw_636 : Cond.methodLink "LandSurveyLaw" 59 yX11_dip ∈ uu := uu_in (i := 636) (by decide +kernel) (by decide +kernel)
theorem kw_637 : Cond.instanceMethod yX11_dip ∈ uu := uu_in (i := 637) (by decide +kernel) (by decide +kernel)
theorem kw_638 : Cond.selects "LandSurvey" yX11_dip yX11_dip ∈ uu := uu_in (i := 638) (by decide +kernel) (by decide +kernel)
theorem lk_LandSurveyLaw_59 : lkV "LandSurveyLaw" 59 yX11_dip cX11_dip 5 (some .boolean) 4 := ⟨kw_636, kw_637, kw_638, kw_144, kw_639, okX11_dip⟩
theorem dL_law_556 : decode cL_law 556 = .ok (.pop, 1) := by decide +kernel
theorem dL_law_557 : decode cL_law 557 = .ok (.aload_n 2, 1) := by decide +kernel
theorem dL_law_558 : decode cL_law 558 = .ok (.aload_n 0, 1) := by decide +kernel
theorem dL_law_559 : decode cL_law 559 = .ok (.iload 4, 2) := by decide +kernel
theorem dL_law_561 : decode cL_law 561 = .ok (.iconst 1, 1) := by decide +kernel
theorem dL_law_562 : decode cL_law 562 = .ok (.iadd, 1) := by decide +kernel
theorem dL_law_563 : decode cL_law 563 = .ok (.iaload, 1) := by decide +kernel
theorem dL_law_564 : decode cL_law 564 = .ok (.aload_n 0, 1) := by decide +kernel
theorem dL_law_565 : decode cL_law 565 = .ok (.iload 4, 2) := by decide +kernel
theorem dL_law_567 : decode cL_law 567 = .ok (.iconst 2, 1) := by decide +kernel
theorem dL_law_568 : decode cL_law 568 = .ok (.iadd, 1) := by decide +kernel
theorem dL_law_569 : decode cL_law 569 = .ok (.iaload, 1) := by decide +kernel
theorem dL_law_570 : decode cL_law 570 = .ok (.aload_n 0, 1) := by decide +kernel
theorem dL_law_571 : decode cL_law 571 = .ok (.iload 4, 2) := by decide +kernel
theorem dL_law_573 : decode cL_law 573 = .ok (.iconst 3, 1) := by decide +kernel
theorem dL_law_574 : decode cL_law 574 = .ok (.iadd, 1) := by decide +kernel
theorem dL_law_575 : decode cL_law 575 = .ok (.iaload, 1) := by decide +kernel
theorem dL_law_576 : decode cL_law 576 = .ok (.aload_n 0, 1) := by decide +kernel
theorem dL_law_577 : decode cL_law 577 = .ok (.iload 4, 2) := by decide +kernel
theorem dL_law_579 : decode cL_law 579 = .ok (.iconst 4, 1) := by decide +kernel
theorem dL_law_580 : decode cL_law 580 = .ok (.iadd, 1) := by decide +kernel
theorem dL_law_581 : decode cL_law 581 = .ok (.iaload, 1) := by decide +kernel
theorem dL_law_582 : decode cL_law 582 = .ok (.invokevirtual 63, 3) := by decide +kernel
theorem kw_1917 : Cond.code yX12_dip prog_14_method_46_code 5 (some .boolean) ∈ uu := uu_in (i := 1917) (by decide +kernel) (by decide +kernel)
theorem kw_1914 : Cond.methodLink "LandSurveyLaw" 63 yX12_dip ∈ uu := uu_in (i := 1914) (by decide +kernel) (by decide +kernel)
theorem kw_1915 : Cond.instanceMethod yX12_dip ∈ uu := uu_in (i := 1915) (by decide +kernel) (by decide +kernel)
theorem kw_1916 : Cond.selects "LandSurveyModel" yX12_dip yX12_dip ∈ uu := uu_in (i := 1916) (by decide +kernel) (by decide +kernel)
theorem lk_LandSurveyLaw_63 : lkV "LandSurveyLaw" 63 yX12_dip cX12_dip 5 (some .boolean) 4 := ⟨kw_1914, kw_1915, kw_1916, kw_152, kw_1917, okX12_dip⟩
theorem dL_law_585 : decode cL_law 585 = .ok (.pop, 1) := by decide +kernel
theorem dL_law_586 : decode cL_law 586 = .ok (.goto 1310, 3) := by decide +kernel
theorem dL_law_589 : decode cL_law 589 = .ok (.aload_n 1, 1) := by decide +kernel
theorem dL_law_590 : decode cL_law 590 = .ok (.aload_n 0, 1) := by decide +kernel
theorem dL_law_591 : decode cL_law 591 = .ok (.iload 4, 2) := by decide +kernel
theorem dL_law_593 : decode cL_law 593 = .ok (.iconst 1, 1) := by decide +kernel
theorem dL_law_594 : decode cL_law 594 = .ok (.iadd, 1) := by decide +kernel
theorem dL_law_595 : decode cL_law 595 = .ok (.iaload, 1) := by decide +kernel
theorem dL_law_596 : decode cL_law 596 = .ok (.aload_n 0, 1) := by decide +kernel
theorem dL_law_597 : decode cL_law 597 = .ok (.iload 4, 2) := by decide +kernel
theorem dL_law_599 : decode cL_law 599 = .ok (.iconst 2, 1) := by decide +kernel
theorem dL_law_600 : decode cL_law 600 = .ok (.iadd, 1) := by decide +kernel
theorem dL_law_601 : decode cL_law 601 = .ok (.iaload, 1) := by decide +kernel
theorem dL_law_602 : decode cL_law 602 = .ok (.aload_n 0, 1) := by decide +kernel
theorem dL_law_603 : decode cL_law 603 = .ok (.iload 4, 2) := by decide +kernel
theorem dL_law_605 : decode cL_law 605 = .ok (.iconst 3, 1) := by decide +kernel
theorem dL_law_606 : decode cL_law 606 = .ok (.iadd, 1) := by decide +kernel
theorem dL_law_607 : decode cL_law 607 = .ok (.iaload, 1) := by decide +kernel
theorem dL_law_608 : decode cL_law 608 = .ok (.ifCond .eq 7, 3) := by decide +kernel
theorem dL_law_615 : decode cL_law 615 = .ok (.iconst 0, 1) := by decide +kernel
theorem dL_law_616 : decode cL_law 616 = .ok (.invokevirtual 64, 3) := by decide +kernel
theorem kw_650 : Cond.code yX11_remain prog_1_method_9_code 4 (some .boolean) ∈ uu := uu_in (i := 650) (by decide +kernel) (by decide +kernel)
theorem kw_647 : Cond.methodLink "LandSurveyLaw" 64 yX11_remain ∈ uu := uu_in (i := 647) (by decide +kernel) (by decide +kernel)
theorem kw_648 : Cond.instanceMethod yX11_remain ∈ uu := uu_in (i := 648) (by decide +kernel) (by decide +kernel)
theorem kw_649 : Cond.selects "LandSurvey" yX11_remain yX11_remain ∈ uu := uu_in (i := 649) (by decide +kernel) (by decide +kernel)
theorem lk_LandSurveyLaw_64 : lkV "LandSurveyLaw" 64 yX11_remain cX11_remain 4 (some .boolean) 3 := ⟨kw_647, kw_648, kw_649, kw_144, kw_650, okX11_remain⟩
theorem dL_law_619 : decode cL_law 619 = .ok (.pop, 1) := by decide +kernel
theorem dL_law_620 : decode cL_law 620 = .ok (.aload_n 2, 1) := by decide +kernel
theorem dL_law_621 : decode cL_law 621 = .ok (.aload_n 0, 1) := by decide +kernel
theorem dL_law_622 : decode cL_law 622 = .ok (.iload 4, 2) := by decide +kernel
theorem dL_law_624 : decode cL_law 624 = .ok (.iconst 1, 1) := by decide +kernel
theorem dL_law_625 : decode cL_law 625 = .ok (.iadd, 1) := by decide +kernel
theorem dL_law_626 : decode cL_law 626 = .ok (.iaload, 1) := by decide +kernel
theorem dL_law_627 : decode cL_law 627 = .ok (.aload_n 0, 1) := by decide +kernel
theorem dL_law_628 : decode cL_law 628 = .ok (.iload 4, 2) := by decide +kernel
theorem dL_law_630 : decode cL_law 630 = .ok (.iconst 2, 1) := by decide +kernel
theorem dL_law_631 : decode cL_law 631 = .ok (.iadd, 1) := by decide +kernel
theorem dL_law_632 : decode cL_law 632 = .ok (.iaload, 1) := by decide +kernel
theorem dL_law_633 : decode cL_law 633 = .ok (.aload_n 0, 1) := by decide +kernel
theorem dL_law_634 : decode cL_law 634 = .ok (.iload 4, 2) := by decide +kernel
theorem dL_law_636 : decode cL_law 636 = .ok (.iconst 3, 1) := by decide +kernel
theorem dL_law_637 : decode cL_law 637 = .ok (.iadd, 1) := by decide +kernel
theorem dL_law_638 : decode cL_law 638 = .ok (.iaload, 1) := by decide +kernel
theorem dL_law_639 : decode cL_law 639 = .ok (.ifCond .eq 7, 3) := by decide +kernel
theorem dL_law_646 : decode cL_law 646 = .ok (.iconst 0, 1) := by decide +kernel
theorem dL_law_647 : decode cL_law 647 = .ok (.invokevirtual 67, 3) := by decide +kernel
theorem kw_1925 : Cond.code yX12_remain prog_14_method_47_code 4 (some .boolean) ∈ uu := uu_in (i := 1925) (by decide +kernel) (by decide +kernel)
theorem kw_1922 : Cond.methodLink "LandSurveyLaw" 67 yX12_remain ∈ uu := uu_in (i := 1922) (by decide +kernel) (by decide +kernel)
theorem kw_1923 : Cond.instanceMethod yX12_remain ∈ uu := uu_in (i := 1923) (by decide +kernel) (by decide +kernel)
theorem kw_1924 : Cond.selects "LandSurveyModel" yX12_remain yX12_remain ∈ uu := uu_in (i := 1924) (by decide +kernel) (by decide +kernel)
theorem lk_LandSurveyLaw_67 : lkV "LandSurveyLaw" 67 yX12_remain cX12_remain 4 (some .boolean) 3 := ⟨kw_1922, kw_1923, kw_1924, kw_152, kw_1925, okX12_remain⟩
theorem dL_law_650 : decode cL_law 650 = .ok (.pop, 1) := by decide +kernel
theorem dL_law_651 : decode cL_law 651 = .ok (.goto 1245, 3) := by decide +kernel
theorem dL_law_611 : decode cL_law 611 = .ok (.iconst 1, 1) := by decide +kernel
theorem dL_law_612 : decode cL_law 612 = .ok (.goto 4, 3) := by decide +kernel
theorem dL_law_642 : decode cL_law 642 = .ok (.iconst 1, 1) := by decide +kernel
theorem dL_law_643 : decode cL_law 643 = .ok (.goto 4, 3) := by decide +kernel
theorem dL_law_654 : decode cL_law 654 = .ok (.aload_n 1, 1) := by decide +kernel
theorem dL_law_655 : decode cL_law 655 = .ok (.aload_n 0, 1) := by decide +kernel
theorem dL_law_656 : decode cL_law 656 = .ok (.iload 4, 2) := by decide +kernel
theorem dL_law_658 : decode cL_law 658 = .ok (.iconst 1, 1) := by decide +kernel
theorem dL_law_659 : decode cL_law 659 = .ok (.iadd, 1) := by decide +kernel
theorem dL_law_660 : decode cL_law 660 = .ok (.iaload, 1) := by decide +kernel
theorem dL_law_661 : decode cL_law 661 = .ok (.invokevirtual 68, 3) := by decide +kernel
theorem kw_654 : Cond.code yX11_withdraw prog_1_method_10_code 2 (some .boolean) ∈ uu := uu_in (i := 654) (by decide +kernel) (by decide +kernel)
theorem kw_651 : Cond.methodLink "LandSurveyLaw" 68 yX11_withdraw ∈ uu := uu_in (i := 651) (by decide +kernel) (by decide +kernel)
theorem kw_652 : Cond.instanceMethod yX11_withdraw ∈ uu := uu_in (i := 652) (by decide +kernel) (by decide +kernel)
theorem kw_653 : Cond.selects "LandSurvey" yX11_withdraw yX11_withdraw ∈ uu := uu_in (i := 653) (by decide +kernel) (by decide +kernel)
theorem lk_LandSurveyLaw_68 : lkV "LandSurveyLaw" 68 yX11_withdraw cX11_withdraw 2 (some .boolean) 1 := ⟨kw_651, kw_652, kw_653, kw_144, kw_654, okX11_withdraw⟩
theorem dL_law_664 : decode cL_law 664 = .ok (.pop, 1) := by decide +kernel
theorem dL_law_665 : decode cL_law 665 = .ok (.aload_n 2, 1) := by decide +kernel
theorem dL_law_666 : decode cL_law 666 = .ok (.aload_n 0, 1) := by decide +kernel
theorem dL_law_667 : decode cL_law 667 = .ok (.iload 4, 2) := by decide +kernel
theorem dL_law_669 : decode cL_law 669 = .ok (.iconst 1, 1) := by decide +kernel
theorem dL_law_670 : decode cL_law 670 = .ok (.iadd, 1) := by decide +kernel
theorem dL_law_671 : decode cL_law 671 = .ok (.iaload, 1) := by decide +kernel
theorem dL_law_672 : decode cL_law 672 = .ok (.invokevirtual 71, 3) := by decide +kernel
theorem kw_1929 : Cond.code yX12_withdraw prog_14_method_48_code 2 (some .boolean) ∈ uu := uu_in (i := 1929) (by decide +kernel) (by decide +kernel)
theorem kw_1926 : Cond.methodLink "LandSurveyLaw" 71 yX12_withdraw ∈ uu := uu_in (i := 1926) (by decide +kernel) (by decide +kernel)
theorem kw_1927 : Cond.instanceMethod yX12_withdraw ∈ uu := uu_in (i := 1927) (by decide +kernel) (by decide +kernel)
theorem kw_1928 : Cond.selects "LandSurveyModel" yX12_withdraw yX12_withdraw ∈ uu := uu_in (i := 1928) (by decide +kernel) (by decide +kernel)
theorem lk_LandSurveyLaw_71 : lkV "LandSurveyLaw" 71 yX12_withdraw cX12_withdraw 2 (some .boolean) 1 := ⟨kw_1926, kw_1927, kw_1928, kw_152, kw_1929, okX12_withdraw⟩
theorem dL_law_675 : decode cL_law 675 = .ok (.pop, 1) := by decide +kernel
theorem dL_law_676 : decode cL_law 676 = .ok (.goto 1220, 3) := by decide +kernel
theorem dL_law_679 : decode cL_law 679 = .ok (.aload_n 1, 1) := by decide +kernel
theorem dL_law_680 : decode cL_law 680 = .ok (.aload_n 0, 1) := by decide +kernel
theorem dL_law_681 : decode cL_law 681 = .ok (.iload 4, 2) := by decide +kernel
theorem dL_law_683 : decode cL_law 683 = .ok (.iconst 1, 1) := by decide +kernel
theorem dL_law_684 : decode cL_law 684 = .ok (.iadd, 1) := by decide +kernel
theorem dL_law_685 : decode cL_law 685 = .ok (.iaload, 1) := by decide +kernel
theorem dL_law_686 : decode cL_law 686 = .ok (.i2l, 1) := by decide +kernel
theorem dL_law_687 : decode cL_law 687 = .ok (.bipush 32, 2) := by decide +kernel
theorem dL_law_689 : decode cL_law 689 = .ok (.lshl, 1) := by decide +kernel
theorem dL_law_690 : decode cL_law 690 = .ok (.aload_n 0, 1) := by decide +kernel
theorem dL_law_691 : decode cL_law 691 = .ok (.iload 4, 2) := by decide +kernel
theorem dL_law_693 : decode cL_law 693 = .ok (.iconst 2, 1) := by decide +kernel
theorem dL_law_694 : decode cL_law 694 = .ok (.iadd, 1) := by decide +kernel
theorem dL_law_695 : decode cL_law 695 = .ok (.iaload, 1) := by decide +kernel
theorem dL_law_696 : decode cL_law 696 = .ok (.i2l, 1) := by decide +kernel
theorem dL_law_697 : decode cL_law 697 = .ok (.ldc2_w 72, 3) := by decide +kernel
theorem kw_2263 : Cond.constantLong "LandSurveyLaw" 72 (4294967295) ∈ uu := uu_in (i := 2263) (by decide +kernel) (by decide +kernel)
theorem dL_law_700 : decode cL_law 700 = .ok (.land, 1) := by decide +kernel
theorem dL_law_701 : decode cL_law 701 = .ok (.lor, 1) := by decide +kernel
theorem dL_law_702 : decode cL_law 702 = .ok (.aload_n 0, 1) := by decide +kernel
theorem dL_law_703 : decode cL_law 703 = .ok (.iload 4, 2) := by decide +kernel
theorem dL_law_705 : decode cL_law 705 = .ok (.iconst 3, 1) := by decide +kernel
theorem dL_law_706 : decode cL_law 706 = .ok (.iadd, 1) := by decide +kernel
theorem dL_law_707 : decode cL_law 707 = .ok (.iaload, 1) := by decide +kernel
theorem dL_law_708 : decode cL_law 708 = .ok (.i2l, 1) := by decide +kernel
theorem dL_law_709 : decode cL_law 709 = .ok (.bipush 32, 2) := by decide +kernel
theorem dL_law_711 : decode cL_law 711 = .ok (.lshl, 1) := by decide +kernel
theorem dL_law_712 : decode cL_law 712 = .ok (.aload_n 0, 1) := by decide +kernel
theorem dL_law_713 : decode cL_law 713 = .ok (.iload 4, 2) := by decide +kernel
theorem dL_law_715 : decode cL_law 715 = .ok (.iconst 4, 1) := by decide +kernel
theorem dL_law_716 : decode cL_law 716 = .ok (.iadd, 1) := by decide +kernel
theorem dL_law_717 : decode cL_law 717 = .ok (.iaload, 1) := by decide +kernel
theorem dL_law_718 : decode cL_law 718 = .ok (.i2l, 1) := by decide +kernel
theorem dL_law_719 : decode cL_law 719 = .ok (.ldc2_w 72, 3) := by decide +kernel
theorem dL_law_722 : decode cL_law 722 = .ok (.land, 1) := by decide +kernel
theorem dL_law_723 : decode cL_law 723 = .ok (.lor, 1) := by decide +kernel
theorem dL_law_724 : decode cL_law 724 = .ok (.aload_n 0, 1) := by decide +kernel
theorem dL_law_725 : decode cL_law 725 = .ok (.iload 4, 2) := by decide +kernel
theorem dL_law_727 : decode cL_law 727 = .ok (.iconst 5, 1) := by decide +kernel
theorem dL_law_728 : decode cL_law 728 = .ok (.iadd, 1) := by decide +kernel
theorem dL_law_729 : decode cL_law 729 = .ok (.iaload, 1) := by decide +kernel
theorem dL_law_730 : decode cL_law 730 = .ok (.i2l, 1) := by decide +kernel
theorem dL_law_731 : decode cL_law 731 = .ok (.bipush 32, 2) := by decide +kernel
theorem dL_law_733 : decode cL_law 733 = .ok (.lshl, 1) := by decide +kernel
theorem dL_law_734 : decode cL_law 734 = .ok (.aload_n 0, 1) := by decide +kernel
theorem dL_law_735 : decode cL_law 735 = .ok (.iload 4, 2) := by decide +kernel
theorem dL_law_737 : decode cL_law 737 = .ok (.bipush 6, 2) := by decide +kernel
theorem dL_law_739 : decode cL_law 739 = .ok (.iadd, 1) := by decide +kernel
theorem dL_law_740 : decode cL_law 740 = .ok (.iaload, 1) := by decide +kernel
theorem dL_law_741 : decode cL_law 741 = .ok (.i2l, 1) := by decide +kernel
theorem dL_law_742 : decode cL_law 742 = .ok (.ldc2_w 72, 3) := by decide +kernel
theorem dL_law_745 : decode cL_law 745 = .ok (.land, 1) := by decide +kernel
theorem dL_law_746 : decode cL_law 746 = .ok (.lor, 1) := by decide +kernel
theorem dL_law_747 : decode cL_law 747 = .ok (.invokevirtual 74, 3) := by decide +kernel
theorem kw_658 : Cond.code yX11_feed prog_1_method_11_code 7 (some .int) ∈ uu := uu_in (i := 658) (by decide +kernel) (by decide +kernel)
theorem kw_655 : Cond.methodLink "LandSurveyLaw" 74 yX11_feed ∈ uu := uu_in (i := 655) (by decide +kernel) (by decide +kernel)
theorem kw_656 : Cond.instanceMethod yX11_feed ∈ uu := uu_in (i := 656) (by decide +kernel) (by decide +kernel)
theorem kw_657 : Cond.selects "LandSurvey" yX11_feed yX11_feed ∈ uu := uu_in (i := 657) (by decide +kernel) (by decide +kernel)
theorem lk_LandSurveyLaw_74 : lkV "LandSurveyLaw" 74 yX11_feed cX11_feed 7 (some .int) 3 := ⟨kw_655, kw_656, kw_657, kw_144, kw_658, okX11_feed⟩
theorem dL_law_750 : decode cL_law 750 = .ok (.pop, 1) := by decide +kernel
theorem dL_law_751 : decode cL_law 751 = .ok (.aload_n 2, 1) := by decide +kernel
theorem dL_law_752 : decode cL_law 752 = .ok (.aload_n 0, 1) := by decide +kernel
theorem dL_law_753 : decode cL_law 753 = .ok (.iload 4, 2) := by decide +kernel
theorem dL_law_755 : decode cL_law 755 = .ok (.iconst 1, 1) := by decide +kernel
theorem dL_law_756 : decode cL_law 756 = .ok (.iadd, 1) := by decide +kernel
theorem dL_law_757 : decode cL_law 757 = .ok (.iaload, 1) := by decide +kernel
theorem dL_law_758 : decode cL_law 758 = .ok (.i2l, 1) := by decide +kernel
theorem dL_law_759 : decode cL_law 759 = .ok (.bipush 32, 2) := by decide +kernel
theorem dL_law_761 : decode cL_law 761 = .ok (.lshl, 1) := by decide +kernel
theorem dL_law_762 : decode cL_law 762 = .ok (.aload_n 0, 1) := by decide +kernel
theorem dL_law_763 : decode cL_law 763 = .ok (.iload 4, 2) := by decide +kernel
theorem dL_law_765 : decode cL_law 765 = .ok (.iconst 2, 1) := by decide +kernel
theorem dL_law_766 : decode cL_law 766 = .ok (.iadd, 1) := by decide +kernel
theorem dL_law_767 : decode cL_law 767 = .ok (.iaload, 1) := by decide +kernel
theorem dL_law_768 : decode cL_law 768 = .ok (.i2l, 1) := by decide +kernel
theorem dL_law_769 : decode cL_law 769 = .ok (.ldc2_w 72, 3) := by decide +kernel
theorem dL_law_772 : decode cL_law 772 = .ok (.land, 1) := by decide +kernel
theorem dL_law_773 : decode cL_law 773 = .ok (.lor, 1) := by decide +kernel
theorem dL_law_774 : decode cL_law 774 = .ok (.aload_n 0, 1) := by decide +kernel
theorem dL_law_775 : decode cL_law 775 = .ok (.iload 4, 2) := by decide +kernel
theorem dL_law_777 : decode cL_law 777 = .ok (.iconst 3, 1) := by decide +kernel
theorem dL_law_778 : decode cL_law 778 = .ok (.iadd, 1) := by decide +kernel
theorem dL_law_779 : decode cL_law 779 = .ok (.iaload, 1) := by decide +kernel
theorem dL_law_780 : decode cL_law 780 = .ok (.i2l, 1) := by decide +kernel
theorem dL_law_781 : decode cL_law 781 = .ok (.bipush 32, 2) := by decide +kernel
theorem dL_law_783 : decode cL_law 783 = .ok (.lshl, 1) := by decide +kernel
theorem dL_law_784 : decode cL_law 784 = .ok (.aload_n 0, 1) := by decide +kernel
theorem dL_law_785 : decode cL_law 785 = .ok (.iload 4, 2) := by decide +kernel
theorem dL_law_787 : decode cL_law 787 = .ok (.iconst 4, 1) := by decide +kernel
theorem dL_law_788 : decode cL_law 788 = .ok (.iadd, 1) := by decide +kernel
theorem dL_law_789 : decode cL_law 789 = .ok (.iaload, 1) := by decide +kernel
theorem dL_law_790 : decode cL_law 790 = .ok (.i2l, 1) := by decide +kernel
theorem dL_law_791 : decode cL_law 791 = .ok (.ldc2_w 72, 3) := by decide +kernel
theorem dL_law_794 : decode cL_law 794 = .ok (.land, 1) := by decide +kernel
theorem dL_law_795 : decode cL_law 795 = .ok (.lor, 1) := by decide +kernel
theorem dL_law_796 : decode cL_law 796 = .ok (.aload_n 0, 1) := by decide +kernel
theorem dL_law_797 : decode cL_law 797 = .ok (.iload 4, 2) := by decide +kernel
theorem dL_law_799 : decode cL_law 799 = .ok (.iconst 5, 1) := by decide +kernel
theorem dL_law_800 : decode cL_law 800 = .ok (.iadd, 1) := by decide +kernel
theorem dL_law_801 : decode cL_law 801 = .ok (.iaload, 1) := by decide +kernel
theorem dL_law_802 : decode cL_law 802 = .ok (.i2l, 1) := by decide +kernel
theorem dL_law_803 : decode cL_law 803 = .ok (.bipush 32, 2) := by decide +kernel
theorem dL_law_805 : decode cL_law 805 = .ok (.lshl, 1) := by decide +kernel
theorem dL_law_806 : decode cL_law 806 = .ok (.aload_n 0, 1) := by decide +kernel
theorem dL_law_807 : decode cL_law 807 = .ok (.iload 4, 2) := by decide +kernel
theorem dL_law_809 : decode cL_law 809 = .ok (.bipush 6, 2) := by decide +kernel
theorem dL_law_811 : decode cL_law 811 = .ok (.iadd, 1) := by decide +kernel
theorem dL_law_812 : decode cL_law 812 = .ok (.iaload, 1) := by decide +kernel
theorem dL_law_813 : decode cL_law 813 = .ok (.i2l, 1) := by decide +kernel
theorem dL_law_814 : decode cL_law 814 = .ok (.ldc2_w 72, 3) := by decide +kernel
theorem dL_law_817 : decode cL_law 817 = .ok (.land, 1) := by decide +kernel
theorem dL_law_818 : decode cL_law 818 = .ok (.lor, 1) := by decide +kernel
theorem dL_law_819 : decode cL_law 819 = .ok (.invokevirtual 78, 3) := by decide +kernel
theorem kw_1465 : Cond.code yX12_feed prog_14_method_2_code 7 (some .int) ∈ uu := uu_in (i := 1465) (by decide +kernel) (by decide +kernel)
theorem kw_1462 : Cond.methodLink "LandSurveyLaw" 78 yX12_feed ∈ uu := uu_in (i := 1462) (by decide +kernel) (by decide +kernel)
theorem kw_1463 : Cond.instanceMethod yX12_feed ∈ uu := uu_in (i := 1463) (by decide +kernel) (by decide +kernel)
theorem kw_1464 : Cond.selects "LandSurveyModel" yX12_feed yX12_feed ∈ uu := uu_in (i := 1464) (by decide +kernel) (by decide +kernel)
theorem lk_LandSurveyLaw_78 : lkV "LandSurveyLaw" 78 yX12_feed cX12_feed 7 (some .int) 3 := ⟨kw_1462, kw_1463, kw_1464, kw_152, kw_1465, okX12_feed⟩
theorem dL_law_822 : decode cL_law 822 = .ok (.pop, 1) := by decide +kernel
theorem dL_law_823 : decode cL_law 823 = .ok (.goto 1073, 3) := by decide +kernel
theorem dL_law_826 : decode cL_law 826 = .ok (.aload_n 1, 1) := by decide +kernel
theorem dL_law_827 : decode cL_law 827 = .ok (.invokevirtual 79, 3) := by decide +kernel
theorem kw_666 : Cond.code yX11_rules prog_1_method_12_code 2 (some .int) ∈ uu := uu_in (i := 666) (by decide +kernel) (by decide +kernel)
theorem kw_663 : Cond.methodLink "LandSurveyLaw" 79 yX11_rules ∈ uu := uu_in (i := 663) (by decide +kernel) (by decide +kernel)
theorem kw_664 : Cond.instanceMethod yX11_rules ∈ uu := uu_in (i := 664) (by decide +kernel) (by decide +kernel)
theorem kw_665 : Cond.selects "LandSurvey" yX11_rules yX11_rules ∈ uu := uu_in (i := 665) (by decide +kernel) (by decide +kernel)
theorem lk_LandSurveyLaw_79 : lkV "LandSurveyLaw" 79 yX11_rules cX11_rules 2 (some .int) 0 := ⟨kw_663, kw_664, kw_665, kw_144, kw_666, okX11_rules⟩
theorem dL_law_830 : decode cL_law 830 = .ok (.pop, 1) := by decide +kernel
theorem dL_law_831 : decode cL_law 831 = .ok (.aload_n 2, 1) := by decide +kernel
theorem dL_law_832 : decode cL_law 832 = .ok (.invokevirtual 83, 3) := by decide +kernel
theorem kw_1771 : Cond.code yX12_rules prog_14_method_18_code 2 (some .int) ∈ uu := uu_in (i := 1771) (by decide +kernel) (by decide +kernel)
theorem kw_1768 : Cond.methodLink "LandSurveyLaw" 83 yX12_rules ∈ uu := uu_in (i := 1768) (by decide +kernel) (by decide +kernel)
theorem kw_1769 : Cond.instanceMethod yX12_rules ∈ uu := uu_in (i := 1769) (by decide +kernel) (by decide +kernel)
theorem kw_1770 : Cond.selects "LandSurveyModel" yX12_rules yX12_rules ∈ uu := uu_in (i := 1770) (by decide +kernel) (by decide +kernel)
theorem lk_LandSurveyLaw_83 : lkV "LandSurveyLaw" 83 yX12_rules cX12_rules 2 (some .int) 0 := ⟨kw_1768, kw_1769, kw_1770, kw_152, kw_1771, okX12_rules⟩
theorem dL_law_835 : decode cL_law 835 = .ok (.pop, 1) := by decide +kernel
theorem dL_law_836 : decode cL_law 836 = .ok (.goto 1060, 3) := by decide +kernel
theorem dL_law_839 : decode cL_law 839 = .ok (.aload_n 1, 1) := by decide +kernel
theorem dL_law_840 : decode cL_law 840 = .ok (.aload_n 0, 1) := by decide +kernel
theorem dL_law_841 : decode cL_law 841 = .ok (.iload 4, 2) := by decide +kernel
theorem dL_law_843 : decode cL_law 843 = .ok (.iconst 1, 1) := by decide +kernel
theorem dL_law_844 : decode cL_law 844 = .ok (.iadd, 1) := by decide +kernel
theorem dL_law_845 : decode cL_law 845 = .ok (.iaload, 1) := by decide +kernel
theorem dL_law_846 : decode cL_law 846 = .ok (.aload_n 0, 1) := by decide +kernel
theorem dL_law_847 : decode cL_law 847 = .ok (.iload 4, 2) := by decide +kernel
theorem dL_law_849 : decode cL_law 849 = .ok (.iconst 2, 1) := by decide +kernel
theorem dL_law_850 : decode cL_law 850 = .ok (.iadd, 1) := by decide +kernel
theorem dL_law_851 : decode cL_law 851 = .ok (.iaload, 1) := by decide +kernel
theorem dL_law_852 : decode cL_law 852 = .ok (.aload_n 0, 1) := by decide +kernel
theorem dL_law_853 : decode cL_law 853 = .ok (.iload 4, 2) := by decide +kernel
theorem dL_law_855 : decode cL_law 855 = .ok (.iconst 3, 1) := by decide +kernel
theorem dL_law_856 : decode cL_law 856 = .ok (.iadd, 1) := by decide +kernel
theorem dL_law_857 : decode cL_law 857 = .ok (.iaload, 1) := by decide +kernel
theorem dL_law_858 : decode cL_law 858 = .ok (.ifCond .eq 7, 3) := by decide +kernel
theorem dL_law_865 : decode cL_law 865 = .ok (.iconst 0, 1) := by decide +kernel
theorem dL_law_866 : decode cL_law 866 = .ok (.aload_n 0, 1) := by decide +kernel
theorem dL_law_867 : decode cL_law 867 = .ok (.iload 4, 2) := by decide +kernel
theorem dL_law_869 : decode cL_law 869 = .ok (.iconst 4, 1) := by decide +kernel
theorem dL_law_870 : decode cL_law 870 = .ok (.iadd, 1) := by decide +kernel
theorem dL_law_871 : decode cL_law 871 = .ok (.iaload, 1) := by decide +kernel
theorem dL_law_872 : decode cL_law 872 = .ok (.aload_n 0, 1) := by decide +kernel
theorem dL_law_873 : decode cL_law 873 = .ok (.iload 4, 2) := by decide +kernel
theorem dL_law_875 : decode cL_law 875 = .ok (.iconst 5, 1) := by decide +kernel
theorem dL_law_876 : decode cL_law 876 = .ok (.iadd, 1) := by decide +kernel
theorem dL_law_877 : decode cL_law 877 = .ok (.iaload, 1) := by decide +kernel
theorem dL_law_878 : decode cL_law 878 = .ok (.aload_n 0, 1) := by decide +kernel
theorem dL_law_879 : decode cL_law 879 = .ok (.iload 4, 2) := by decide +kernel
theorem dL_law_881 : decode cL_law 881 = .ok (.bipush 6, 2) := by decide +kernel
theorem dL_law_883 : decode cL_law 883 = .ok (.iadd, 1) := by decide +kernel
theorem dL_law_884 : decode cL_law 884 = .ok (.iaload, 1) := by decide +kernel
theorem dL_law_885 : decode cL_law 885 = .ok (.aload_n 0, 1) := by decide +kernel
theorem dL_law_886 : decode cL_law 886 = .ok (.iload 4, 2) := by decide +kernel
theorem dL_law_888 : decode cL_law 888 = .ok (.bipush 7, 2) := by decide +kernel
theorem dL_law_890 : decode cL_law 890 = .ok (.iadd, 1) := by decide +kernel
theorem dL_law_891 : decode cL_law 891 = .ok (.iaload, 1) := by decide +kernel
theorem dL_law_892 : decode cL_law 892 = .ok (.invokevirtual 84, 3) := by decide +kernel
theorem kw_913 : Cond.code yX11_fault prog_1_method_13_code 10 (some .int) ∈ uu := uu_in (i := 913) (by decide +kernel) (by decide +kernel)
theorem kw_910 : Cond.methodLink "LandSurveyLaw" 84 yX11_fault ∈ uu := uu_in (i := 910) (by decide +kernel) (by decide +kernel)
theorem kw_911 : Cond.instanceMethod yX11_fault ∈ uu := uu_in (i := 911) (by decide +kernel) (by decide +kernel)
theorem kw_912 : Cond.selects "LandSurvey" yX11_fault yX11_fault ∈ uu := uu_in (i := 912) (by decide +kernel) (by decide +kernel)
theorem lk_LandSurveyLaw_84 : lkV "LandSurveyLaw" 84 yX11_fault cX11_fault 10 (some .int) 7 := ⟨kw_910, kw_911, kw_912, kw_144, kw_913, okX11_fault⟩
theorem dL_law_895 : decode cL_law 895 = .ok (.pop, 1) := by decide +kernel
theorem dL_law_896 : decode cL_law 896 = .ok (.aload_n 2, 1) := by decide +kernel
theorem dL_law_897 : decode cL_law 897 = .ok (.aload_n 0, 1) := by decide +kernel
theorem dL_law_898 : decode cL_law 898 = .ok (.iload 4, 2) := by decide +kernel
theorem dL_law_900 : decode cL_law 900 = .ok (.iconst 1, 1) := by decide +kernel
theorem dL_law_901 : decode cL_law 901 = .ok (.iadd, 1) := by decide +kernel
theorem dL_law_902 : decode cL_law 902 = .ok (.iaload, 1) := by decide +kernel
theorem dL_law_903 : decode cL_law 903 = .ok (.aload_n 0, 1) := by decide +kernel
theorem dL_law_904 : decode cL_law 904 = .ok (.iload 4, 2) := by decide +kernel
theorem dL_law_906 : decode cL_law 906 = .ok (.iconst 2, 1) := by decide +kernel
theorem dL_law_907 : decode cL_law 907 = .ok (.iadd, 1) := by decide +kernel
theorem dL_law_908 : decode cL_law 908 = .ok (.iaload, 1) := by decide +kernel
theorem dL_law_909 : decode cL_law 909 = .ok (.aload_n 0, 1) := by decide +kernel
theorem dL_law_910 : decode cL_law 910 = .ok (.iload 4, 2) := by decide +kernel
theorem dL_law_912 : decode cL_law 912 = .ok (.iconst 3, 1) := by decide +kernel
theorem dL_law_913 : decode cL_law 913 = .ok (.iadd, 1) := by decide +kernel
theorem dL_law_914 : decode cL_law 914 = .ok (.iaload, 1) := by decide +kernel
theorem dL_law_915 : decode cL_law 915 = .ok (.ifCond .eq 7, 3) := by decide +kernel
theorem dL_law_922 : decode cL_law 922 = .ok (.iconst 0, 1) := by decide +kernel
theorem dL_law_923 : decode cL_law 923 = .ok (.aload_n 0, 1) := by decide +kernel
theorem dL_law_924 : decode cL_law 924 = .ok (.iload 4, 2) := by decide +kernel
theorem dL_law_926 : decode cL_law 926 = .ok (.iconst 4, 1) := by decide +kernel
theorem dL_law_927 : decode cL_law 927 = .ok (.iadd, 1) := by decide +kernel
theorem dL_law_928 : decode cL_law 928 = .ok (.iaload, 1) := by decide +kernel
theorem dL_law_929 : decode cL_law 929 = .ok (.aload_n 0, 1) := by decide +kernel
theorem dL_law_930 : decode cL_law 930 = .ok (.iload 4, 2) := by decide +kernel
theorem dL_law_932 : decode cL_law 932 = .ok (.iconst 5, 1) := by decide +kernel
theorem dL_law_933 : decode cL_law 933 = .ok (.iadd, 1) := by decide +kernel
theorem dL_law_934 : decode cL_law 934 = .ok (.iaload, 1) := by decide +kernel
theorem dL_law_935 : decode cL_law 935 = .ok (.aload_n 0, 1) := by decide +kernel
theorem dL_law_936 : decode cL_law 936 = .ok (.iload 4, 2) := by decide +kernel
theorem dL_law_938 : decode cL_law 938 = .ok (.bipush 6, 2) := by decide +kernel
theorem dL_law_940 : decode cL_law 940 = .ok (.iadd, 1) := by decide +kernel
theorem dL_law_941 : decode cL_law 941 = .ok (.iaload, 1) := by decide +kernel
theorem dL_law_942 : decode cL_law 942 = .ok (.aload_n 0, 1) := by decide +kernel
theorem dL_law_943 : decode cL_law 943 = .ok (.iload 4, 2) := by decide +kernel
theorem dL_law_945 : decode cL_law 945 = .ok (.bipush 7, 2) := by decide +kernel
theorem dL_law_947 : decode cL_law 947 = .ok (.iadd, 1) := by decide +kernel
theorem dL_law_948 : decode cL_law 948 = .ok (.iaload, 1) := by decide +kernel
theorem dL_law_949 : decode cL_law 949 = .ok (.invokevirtual 88, 3) := by decide +kernel
theorem kw_1933 : Cond.code yX12_fault prog_14_method_65_code 10 (some .int) ∈ uu := uu_in (i := 1933) (by decide +kernel) (by decide +kernel)
theorem kw_1930 : Cond.methodLink "LandSurveyLaw" 88 yX12_fault ∈ uu := uu_in (i := 1930) (by decide +kernel) (by decide +kernel)
theorem kw_1931 : Cond.instanceMethod yX12_fault ∈ uu := uu_in (i := 1931) (by decide +kernel) (by decide +kernel)
theorem kw_1932 : Cond.selects "LandSurveyModel" yX12_fault yX12_fault ∈ uu := uu_in (i := 1932) (by decide +kernel) (by decide +kernel)
theorem lk_LandSurveyLaw_88 : lkV "LandSurveyLaw" 88 yX12_fault cX12_fault 10 (some .int) 7 := ⟨kw_1930, kw_1931, kw_1932, kw_152, kw_1933, okX12_fault⟩
theorem dL_law_952 : decode cL_law 952 = .ok (.pop, 1) := by decide +kernel
theorem dL_law_953 : decode cL_law 953 = .ok (.goto 943, 3) := by decide +kernel
theorem dL_law_861 : decode cL_law 861 = .ok (.iconst 1, 1) := by decide +kernel
theorem dL_law_862 : decode cL_law 862 = .ok (.goto 4, 3) := by decide +kernel
theorem dL_law_918 : decode cL_law 918 = .ok (.iconst 1, 1) := by decide +kernel
theorem dL_law_919 : decode cL_law 919 = .ok (.goto 4, 3) := by decide +kernel
set_option maxRecDepth 100000 in
set_option maxHeartbeats 8000000 in
theorem law_c0 (l : Launch) (hst : l.stackTraces = false) {p : Program} {e : Env} {s : State} {m : MethodId} {below : List Frame} {meth : Method} {c : Code} {D : va_G} {cy : Nat → ClassId} {w : Nat → Nat} {z0 b L : Nat} {xs : Nat → Int32} {h : Hp} {x : Int} {n1 n2 n3 : Nat} (C : Cx p l room_1 s m #[Value.ref b] meth c D cy z0 7 cL_law "LandSurveyLaw" w) (hr : meth.sig.returnType = ret) (hX : va_X b L xs s s.heap) (hbl : b < s.heap.size) (hbz : b < z0) (hzs : s.heap.size ≤ z0) (hL : L ≤ 4096) (fx : 0 ≤ x ∧ x ≤ 4088) (hq : x ≤ (L : Int) - 8) (O : Okh h) (tn1 : Tg h n1 = 11) (tn2 : Tg h n2 = 12) (tn3 : Tg h n3 = 99102) (ln3 : Ln h n3 = 1) (pX : XInv h n1) (pM : MInv h n2) (hT : Qask h n1 = Qm 82 h n2 ∧ ASK h n1) (IH : ∀ (h1 : Hp), Okh h1 → Tg h1 n1 = 11 → Tg h1 n2 = 12 → Tg h1 n3 = 99102 → Ln h1 n3 = 1 → XInv h1 n1 → MInv h1 n2 → Qask h1 n1 = Qm 82 h1 n2 ∧ ASK h1 n1 → GW p l e room_1 s m #[Value.ref b] below meth c D cy z0 7 (lw_Z below #[Value.ref b] s) 23 [(4, .inl (x + 8)), (3, .inr (.inr n3)), (2, .inr (.inr n2)), (1, .inr (.inr n1)), (0, .inr (.inr (b + 1)))] [] h1 (13 * (x + 8).toNat + 119) (806 * (x + 8).toNat + 52115)) : GW p l e room_1 s m #[Value.ref b] below meth c D cy z0 7 (lw_Z below #[Value.ref b] s) 200 [(4, .inl x), (3, .inr (.inr n3)), (2, .inr (.inr n2)), (1, .inr (.inr n1)), (0, .inr (.inr (b + 1)))] [] h (13 * x.toNat + 119) (806 * x.toNat + 52115) := by
  obtain ⟨F1, e2⟩ : ∃ z, Qask h n1 = z := ⟨_, rfl⟩
  have e3 : Qm 82 h n2 = F1 := (Eq.symm hT.1).trans e2
  refine g_aload_n C rfl 3 rfl dL_law_200 ?_
  refine g_aload_n C rfl 4 rfl dL_law_201 ?_
  refine g_iload C 0 rfl dL_law_202 ?_
  refine g_iconst C dL_law_204 ?_
  have f4 : (1 : Int) ≤ (x + 1) ∧ (x + 1) ≤ (4089 : Int) := ia_add fx (il 1) (by decide) (by decide)
  refine g_iadd C dL_law_205 ?_
  refine g_sld C hX hbl hbz ⟨by omega, by omega⟩ (by omega) dL_law_206 ?_
  have f5 : (-2147483648 : Int) ≤ (sx xs (x + 1)) ∧ (sx xs (x + 1)) ≤ (2147483647 : Int) := inR_of _
  refine g_callI (st := []) (gc_V C lk_LandSurveyLaw_30 (k_X11_days l D cy w z0 O tn1 f5) tn1 rfl rfl rfl ⟨by decide, by decide⟩ (Nat.le_of_ble_eq_true rfl) dL_law_207 ⟨(by show _ ≤ 601024; omega), (by show _ ≤ 7293034; omega)⟩) (fun r6 h7 f9 K8 => ?_)
  obtain ⟨O10, F11, f12⟩ := K8
  refine g_pop C rfl dL_law_210 ?_
  refine g_aload_n C rfl 2 rfl dL_law_211 ?_
  refine g_aload_n C rfl 4 rfl dL_law_212 ?_
  refine g_iload C 0 rfl dL_law_213 ?_
  refine g_iconst C dL_law_215 ?_
  refine g_iadd C dL_law_216 ?_
  refine g_sld C hX hbl hbz ⟨by omega, by omega⟩ (by omega) dL_law_217 ?_
  have e13 : Tg h7 n2 = 12 := (fxT F11 tn2)
  refine g_callI (st := []) (gc_V C lk_LandSurveyLaw_33 (k_X12_days l D cy w z0 O10 e13 f5) e13 rfl rfl rfl ⟨by decide, by decide⟩ (Nat.le_of_ble_eq_true rfl) dL_law_218 ⟨(by show _ ≤ 601024; omega), (by show _ ≤ 7293034; omega)⟩) (fun r14 h15 f17 K16 => ?_)
  obtain ⟨O18, F19, f20, p21, p22⟩ := K16
  refine g_pop C rfl dL_law_221 ?_
  refine g_goto C 1896 (by decide) dL_law_222 ?_
  have f23 : (8 : Int) ≤ (x + 8) ∧ (x + 8) ≤ (4096 : Int) := ia_add fx (il 8) (by decide) (by decide)
  refine g_iinc C [(4, .inl (x + 8)), (3, .inr (.inr n3)), (2, .inr (.inr n2)), (1, .inr (.inr n1)), (0, .inr (.inr (b + 1)))] 0 rfl (by decide) rfl dL_law_1896 ?_
  refine g_goto C 23 (by decide) dL_law_1899 ?_
  refine GW.sub [0, 1, 2, 3, 4] rfl ?_
  refine GW.widen (by omega : _ ≤ 13 * (x + 8).toNat + 119) (by omega : _ ≤ 806 * (x + 8).toNat + 52115) ?_
  have e24 : Qask h7 n1 = F1 := Eq.trans (show Qask h7 n1 = Qask h n1 from (Qask_fx O F11 tn1 rfl)) e2
  have e26 : Tg h7 n1 = 11 := (fxT F11 tn1)
  have e25 : Qask h15 n1 = F1 := Eq.trans (show Qask h15 n1 = Qask h7 n1 from (Qask_fx O10 F19 e26 rfl)) e24
  have e27 : Qm 82 h7 n2 = F1 := Eq.trans (show Qm 82 h7 n2 = Qm 82 h n2 from (mAI (j := 82) O F11 tn2 rE_12_82 ar_182101 rfl rfl)) e3
  have e28 : Qm 82 h15 n2 = F1 := Eq.trans (show Qm 82 h15 n2 = Qm 82 h7 n2 from (mAI (j := 82) O10 F19 e13 rE_12_82 ar_182101 rfl rfl)) e27
  have p29 := (ASK_fx O10 F19 e26 rfl (ASK_fx O F11 tn1 rfl hT.2))
  have p30 := (XInv_fx O10 F19 e26 rfl (XInv_fx O F11 tn1 rfl pX))
  have p31 := (MInv_fx O10 F19 e13 rfl (MInv_fx O F11 tn2 rfl pM))
  have e32 : Tg h15 n1 = 11 := (fxT F19 e26)
  have e33 : Tg h15 n2 = 12 := (fxT F19 e13)
  have e34 : Tg h15 n3 = 99102 := (fxT F19 (fxT F11 tn3))
  have e35 : Tg h7 n3 = 99102 := (fxT F11 tn3)
  have e36 : Ln h15 n3 = 1 := ((fxL F19 e35).trans ((fxL F11 tn3).trans ln3))
  exact IH _ O18 e32 e33 e34 e36 p30 p31 ⟨(e25.trans (Eq.symm e28)), p29⟩
set_option maxRecDepth 100000 in
set_option maxHeartbeats 8000000 in
theorem law_c1 (l : Launch) (hst : l.stackTraces = false) {p : Program} {e : Env} {s : State} {m : MethodId} {below : List Frame} {meth : Method} {c : Code} {D : va_G} {cy : Nat → ClassId} {w : Nat → Nat} {z0 b L : Nat} {xs : Nat → Int32} {h : Hp} {x : Int} {n1 n2 n3 : Nat} (C : Cx p l room_1 s m #[Value.ref b] meth c D cy z0 7 cL_law "LandSurveyLaw" w) (hr : meth.sig.returnType = ret) (hX : va_X b L xs s s.heap) (hbl : b < s.heap.size) (hbz : b < z0) (hzs : s.heap.size ≤ z0) (hL : L ≤ 4096) (fx : 0 ≤ x ∧ x ≤ 4088) (hq : x ≤ (L : Int) - 8) (O : Okh h) (tn1 : Tg h n1 = 11) (tn2 : Tg h n2 = 12) (tn3 : Tg h n3 = 99102) (ln3 : Ln h n3 = 1) (pX : XInv h n1) (pM : MInv h n2) (hT : Qask h n1 = Qm 82 h n2 ∧ ASK h n1) (IH : ∀ (h1 : Hp), Okh h1 → Tg h1 n1 = 11 → Tg h1 n2 = 12 → Tg h1 n3 = 99102 → Ln h1 n3 = 1 → XInv h1 n1 → MInv h1 n2 → Qask h1 n1 = Qm 82 h1 n2 ∧ ASK h1 n1 → GW p l e room_1 s m #[Value.ref b] below meth c D cy z0 7 (lw_Z below #[Value.ref b] s) 23 [(4, .inl (x + 8)), (3, .inr (.inr n3)), (2, .inr (.inr n2)), (1, .inr (.inr n1)), (0, .inr (.inr (b + 1)))] [] h1 (13 * (x + 8).toNat + 119) (806 * (x + 8).toNat + 52115)) : GW p l e room_1 s m #[Value.ref b] below meth c D cy z0 7 (lw_Z below #[Value.ref b] s) 225 [(4, .inl x), (3, .inr (.inr n3)), (2, .inr (.inr n2)), (1, .inr (.inr n1)), (0, .inr (.inr (b + 1)))] [] h (13 * x.toNat + 119) (806 * x.toNat + 52115) := by
  obtain ⟨F1, e2⟩ : ∃ z, Qask h n1 = z := ⟨_, rfl⟩
  have e3 : Qm 82 h n2 = F1 := (Eq.symm hT.1).trans e2
  refine g_aload_n C rfl 3 rfl dL_law_225 ?_
  refine g_aload_n C rfl 4 rfl dL_law_226 ?_
  refine g_iload C 0 rfl dL_law_227 ?_
  refine g_iconst C dL_law_229 ?_
  have f4 : (1 : Int) ≤ (x + 1) ∧ (x + 1) ≤ (4089 : Int) := ia_add fx (il 1) (by decide) (by decide)
  refine g_iadd C dL_law_230 ?_
  refine g_sld C hX hbl hbz ⟨by omega, by omega⟩ (by omega) dL_law_231 ?_
  have f5 : (-2147483648 : Int) ≤ (sx xs (x + 1)) ∧ (sx xs (x + 1)) ≤ (2147483647 : Int) := inR_of _
  refine g_callI (st := []) (gc_V C lk_LandSurveyLaw_34 (kx_X11_view l D cy w z0 O tn1 f5 pX) tn1 rfl rfl rfl ⟨by decide, by decide⟩ (Nat.le_of_ble_eq_true rfl) dL_law_232 ⟨(by show _ ≤ 601024; omega), (by show _ ≤ 7293034; omega)⟩) (fun r6 h7 f9 K8 => ?_)
  obtain ⟨O10, F11, f12, p13⟩ := K8
  refine g_pop C rfl dL_law_235 ?_
  refine g_aload_n C rfl 2 rfl dL_law_236 ?_
  refine g_aload_n C rfl 4 rfl dL_law_237 ?_
  refine g_iload C 0 rfl dL_law_238 ?_
  refine g_iconst C dL_law_240 ?_
  refine g_iadd C dL_law_241 ?_
  refine g_sld C hX hbl hbz ⟨by omega, by omega⟩ (by omega) dL_law_242 ?_
  have e14 : Tg h7 n2 = 12 := (fxT F11 tn2)
  refine g_callI (st := []) (gc_V C lk_LandSurveyLaw_38 (k_X12_view l D cy w z0 O10 e14 f5) e14 rfl rfl rfl ⟨by decide, by decide⟩ (Nat.le_of_ble_eq_true rfl) dL_law_243 ⟨(by show _ ≤ 601024; omega), (by show _ ≤ 7293034; omega)⟩) (fun r15 h16 f18 K17 => ?_)
  obtain ⟨O19, F20, f21⟩ := K17
  refine g_pop C rfl dL_law_246 ?_
  refine g_goto C 1896 (by decide) dL_law_247 ?_
  have f22 : (8 : Int) ≤ (x + 8) ∧ (x + 8) ≤ (4096 : Int) := ia_add fx (il 8) (by decide) (by decide)
  refine g_iinc C [(4, .inl (x + 8)), (3, .inr (.inr n3)), (2, .inr (.inr n2)), (1, .inr (.inr n1)), (0, .inr (.inr (b + 1)))] 0 rfl (by decide) rfl dL_law_1896 ?_
  refine g_goto C 23 (by decide) dL_law_1899 ?_
  refine GW.sub [0, 1, 2, 3, 4] rfl ?_
  refine GW.widen (by omega : _ ≤ 13 * (x + 8).toNat + 119) (by omega : _ ≤ 806 * (x + 8).toNat + 52115) ?_
  have e23 : Qask h7 n1 = F1 := Eq.trans (show Qask h7 n1 = Qask h n1 from (Qask_fx O F11 tn1 rfl)) e2
  have e25 : Tg h7 n1 = 11 := (fxT F11 tn1)
  have e24 : Qask h16 n1 = F1 := Eq.trans (show Qask h16 n1 = Qask h7 n1 from (Qask_fx O10 F20 e25 rfl)) e23
  have e26 : Qm 82 h7 n2 = F1 := Eq.trans (show Qm 82 h7 n2 = Qm 82 h n2 from (mAI (j := 82) O F11 tn2 rE_12_82 ar_182101 rfl rfl)) e3
  have e27 : Qm 82 h16 n2 = F1 := Eq.trans (show Qm 82 h16 n2 = Qm 82 h7 n2 from (mAI (j := 82) O10 F20 e14 rE_12_82 ar_182101 rfl rfl)) e26
  have p28 := (ASK_fx O10 F20 e25 rfl (ASK_fx O F11 tn1 rfl hT.2))
  have p29 := (XInv_fx O10 F20 e25 rfl p13)
  have p30 := (MInv_fx O10 F20 e14 rfl (MInv_fx O F11 tn2 rfl pM))
  have e31 : Tg h16 n1 = 11 := (fxT F20 e25)
  have e32 : Tg h16 n2 = 12 := (fxT F20 e14)
  have e33 : Tg h16 n3 = 99102 := (fxT F20 (fxT F11 tn3))
  have e34 : Tg h7 n3 = 99102 := (fxT F11 tn3)
  have e35 : Ln h16 n3 = 1 := ((fxL F20 e34).trans ((fxL F11 tn3).trans ln3))
  exact IH _ O19 e31 e32 e33 e35 p29 p30 ⟨(e24.trans (Eq.symm e27)), p28⟩
set_option maxRecDepth 100000 in
set_option maxHeartbeats 8000000 in
theorem law_c2 (l : Launch) (hst : l.stackTraces = false) {p : Program} {e : Env} {s : State} {m : MethodId} {below : List Frame} {meth : Method} {c : Code} {D : va_G} {cy : Nat → ClassId} {w : Nat → Nat} {z0 b L : Nat} {xs : Nat → Int32} {h : Hp} {x : Int} {n1 n2 n3 : Nat} (C : Cx p l room_1 s m #[Value.ref b] meth c D cy z0 7 cL_law "LandSurveyLaw" w) (hr : meth.sig.returnType = ret) (hX : va_X b L xs s s.heap) (hbl : b < s.heap.size) (hbz : b < z0) (hzs : s.heap.size ≤ z0) (hL : L ≤ 4096) (fx : 0 ≤ x ∧ x ≤ 4088) (hq : x ≤ (L : Int) - 8) (O : Okh h) (tn1 : Tg h n1 = 11) (tn2 : Tg h n2 = 12) (tn3 : Tg h n3 = 99102) (ln3 : Ln h n3 = 1) (pX : XInv h n1) (pM : MInv h n2) (hT : Qask h n1 = Qm 82 h n2 ∧ ASK h n1) (IH : ∀ (h1 : Hp), Okh h1 → Tg h1 n1 = 11 → Tg h1 n2 = 12 → Tg h1 n3 = 99102 → Ln h1 n3 = 1 → XInv h1 n1 → MInv h1 n2 → Qask h1 n1 = Qm 82 h1 n2 ∧ ASK h1 n1 → GW p l e room_1 s m #[Value.ref b] below meth c D cy z0 7 (lw_Z below #[Value.ref b] s) 23 [(4, .inl (x + 8)), (3, .inr (.inr n3)), (2, .inr (.inr n2)), (1, .inr (.inr n1)), (0, .inr (.inr (b + 1)))] [] h1 (13 * (x + 8).toNat + 119) (806 * (x + 8).toNat + 52115)) : GW p l e room_1 s m #[Value.ref b] below meth c D cy z0 7 (lw_Z below #[Value.ref b] s) 250 [(4, .inl x), (3, .inr (.inr n3)), (2, .inr (.inr n2)), (1, .inr (.inr n1)), (0, .inr (.inr (b + 1)))] [] h (13 * x.toNat + 119) (806 * x.toNat + 52115) := by
  obtain ⟨F1, e2⟩ : ∃ z, Qask h n1 = z := ⟨_, rfl⟩
  have e3 : Qm 82 h n2 = F1 := (Eq.symm hT.1).trans e2
  refine g_aload_n C rfl 3 rfl dL_law_250 ?_
  refine g_aload_n C rfl 4 rfl dL_law_251 ?_
  refine g_iload C 0 rfl dL_law_252 ?_
  refine g_iconst C dL_law_254 ?_
  have f4 : (1 : Int) ≤ (x + 1) ∧ (x + 1) ≤ (4089 : Int) := ia_add fx (il 1) (by decide) (by decide)
  refine g_iadd C dL_law_255 ?_
  refine g_sld C hX hbl hbz ⟨by omega, by omega⟩ (by omega) dL_law_256 ?_
  have f5 : (-2147483648 : Int) ≤ (sx xs (x + 1)) ∧ (sx xs (x + 1)) ≤ (2147483647 : Int) := inR_of _
  refine g_aload_n C rfl 4 rfl dL_law_257 ?_
  refine g_iload C 0 rfl dL_law_258 ?_
  refine g_iconst C dL_law_260 ?_
  have f6 : (2 : Int) ≤ (x + 2) ∧ (x + 2) ≤ (4090 : Int) := ia_add fx (il 2) (by decide) (by decide)
  refine g_iadd C dL_law_261 ?_
  refine g_sld C hX hbl hbz ⟨by omega, by omega⟩ (by omega) dL_law_262 ?_
  have f7 : (-2147483648 : Int) ≤ (sx xs (x + 2)) ∧ (sx xs (x + 2)) ≤ (2147483647 : Int) := inR_of _
  refine g_aload_n C rfl 4 rfl dL_law_263 ?_
  refine g_iload C 0 rfl dL_law_264 ?_
  refine g_iconst C dL_law_266 ?_
  have f8 : (3 : Int) ≤ (x + 3) ∧ (x + 3) ≤ (4091 : Int) := ia_add fx (il 3) (by decide) (by decide)
  refine g_iadd C dL_law_267 ?_
  refine g_sld C hX hbl hbz ⟨by omega, by omega⟩ (by omega) dL_law_268 ?_
  have f9 : (-2147483648 : Int) ≤ (sx xs (x + 3)) ∧ (sx xs (x + 3)) ≤ (2147483647 : Int) := inR_of _
  refine g_aload_n C rfl 4 rfl dL_law_269 ?_
  refine g_iload C 0 rfl dL_law_270 ?_
  refine g_iconst C dL_law_272 ?_
  have f10 : (4 : Int) ≤ (x + 4) ∧ (x + 4) ≤ (4092 : Int) := ia_add fx (il 4) (by decide) (by decide)
  refine g_iadd C dL_law_273 ?_
  refine g_sld C hX hbl hbz ⟨by omega, by omega⟩ (by omega) dL_law_274 ?_
  have f11 : (-2147483648 : Int) ≤ (sx xs (x + 4)) ∧ (sx xs (x + 4)) ≤ (2147483647 : Int) := inR_of _
  refine g_if_eq C f11 282 (by decide) dL_law_275 (fun q12 => ?_) (fun q13 => ?_)
  · have f14 : (0 : Int) ≤ (sx xs (x + 4)) ∧ (sx xs (x + 4)) ≤ (0 : Int) := ii f11 (r_eq (il 0) q12) (by decide) (by decide)
    refine g_iconst C dL_law_282 ?_
    refine g_callI (st := []) (gc_V C lk_LandSurveyLaw_39 (kx_X11_cell l D cy w z0 O tn1 f5 f7 f9 (iw (il 0) (by decide) (by decide)) pX) tn1 rfl rfl rfl ⟨by decide, by decide⟩ (Nat.le_of_ble_eq_true rfl) dL_law_283 ⟨(by show _ ≤ 601024; omega), (by show _ ≤ 7293034; omega)⟩) (fun r15 h16 f18 K17 => ?_)
    obtain ⟨O19, F20, f21, p22⟩ := K17
    refine g_pop C rfl dL_law_286 ?_
    refine g_aload_n C rfl 2 rfl dL_law_287 ?_
    refine g_aload_n C rfl 4 rfl dL_law_288 ?_
    refine g_iload C 0 rfl dL_law_289 ?_
    refine g_iconst C dL_law_291 ?_
    refine g_iadd C dL_law_292 ?_
    refine g_sld C hX hbl hbz ⟨by omega, by omega⟩ (by omega) dL_law_293 ?_
    refine g_aload_n C rfl 4 rfl dL_law_294 ?_
    refine g_iload C 0 rfl dL_law_295 ?_
    refine g_iconst C dL_law_297 ?_
    refine g_iadd C dL_law_298 ?_
    refine g_sld C hX hbl hbz ⟨by omega, by omega⟩ (by omega) dL_law_299 ?_
    refine g_aload_n C rfl 4 rfl dL_law_300 ?_
    refine g_iload C 0 rfl dL_law_301 ?_
    refine g_iconst C dL_law_303 ?_
    refine g_iadd C dL_law_304 ?_
    refine g_sld C hX hbl hbz ⟨by omega, by omega⟩ (by omega) dL_law_305 ?_
    refine g_aload_n C rfl 4 rfl dL_law_306 ?_
    refine g_iload C 0 rfl dL_law_307 ?_
    refine g_iconst C dL_law_309 ?_
    refine g_iadd C dL_law_310 ?_
    refine g_sld C hX hbl hbz ⟨by omega, by omega⟩ (by omega) dL_law_311 ?_
    refine g_if_eq C (iw f14 (by decide) (by decide)) 319 (by decide) dL_law_312 (fun q23 => ?_) (fun q24 => ?_)
    · refine g_iconst C dL_law_319 ?_
      have e25 : Tg h16 n2 = 12 := (fxT F20 tn2)
      refine g_callI (st := []) (gc_V C lk_LandSurveyLaw_43 (k_X12_cell l D cy w z0 O19 e25 f5 f7 f9 (iw (il 0) (by decide) (by decide))) e25 rfl rfl rfl ⟨by decide, by decide⟩ (Nat.le_of_ble_eq_true rfl) dL_law_320 ⟨(by show _ ≤ 601024; omega), (by show _ ≤ 7293034; omega)⟩) (fun r26 h27 f29 K28 => ?_)
      obtain ⟨O30, F31, f32⟩ := K28
      refine g_pop C rfl dL_law_323 ?_
      refine g_goto C 1896 (by decide) dL_law_324 ?_
      have f33 : (8 : Int) ≤ (x + 8) ∧ (x + 8) ≤ (4096 : Int) := ia_add fx (il 8) (by decide) (by decide)
      refine g_iinc C [(4, .inl (x + 8)), (3, .inr (.inr n3)), (2, .inr (.inr n2)), (1, .inr (.inr n1)), (0, .inr (.inr (b + 1)))] 0 rfl (by decide) rfl dL_law_1896 ?_
      refine g_goto C 23 (by decide) dL_law_1899 ?_
      refine GW.sub [0, 1, 2, 3, 4] rfl ?_
      refine GW.widen (by omega : _ ≤ 13 * (x + 8).toNat + 119) (by omega : _ ≤ 806 * (x + 8).toNat + 52115) ?_
      have e34 : Qask h16 n1 = F1 := Eq.trans (show Qask h16 n1 = Qask h n1 from (Qask_fx O F20 tn1 rfl)) e2
      have e36 : Tg h16 n1 = 11 := (fxT F20 tn1)
      have e35 : Qask h27 n1 = F1 := Eq.trans (show Qask h27 n1 = Qask h16 n1 from (Qask_fx O19 F31 e36 rfl)) e34
      have e37 : Qm 82 h16 n2 = F1 := Eq.trans (show Qm 82 h16 n2 = Qm 82 h n2 from (mAI (j := 82) O F20 tn2 rE_12_82 ar_182101 rfl rfl)) e3
      have e38 : Qm 82 h27 n2 = F1 := Eq.trans (show Qm 82 h27 n2 = Qm 82 h16 n2 from (mAI (j := 82) O19 F31 e25 rE_12_82 ar_182101 rfl rfl)) e37
      have p39 := (ASK_fx O19 F31 e36 rfl (ASK_fx O F20 tn1 rfl hT.2))
      have p40 := (XInv_fx O19 F31 e36 rfl p22)
      have p41 := (MInv_fx O19 F31 e25 rfl (MInv_fx O F20 tn2 rfl pM))
      have e42 : Tg h27 n1 = 11 := (fxT F31 e36)
      have e43 : Tg h27 n2 = 12 := (fxT F31 e25)
      have e44 : Tg h27 n3 = 99102 := (fxT F31 (fxT F20 tn3))
      have e45 : Tg h16 n3 = 99102 := (fxT F20 tn3)
      have e46 : Ln h27 n3 = 1 := ((fxL F31 e45).trans ((fxL F20 tn3).trans ln3))
      exact IH _ O30 e42 e43 e44 e46 p40 p41 ⟨(e35.trans (Eq.symm e38)), p39⟩
    · exact (no_ne f14 (il 0) q24 (by decide)).elim
  · refine g_iconst C dL_law_278 ?_
    refine g_goto C 283 (by decide) dL_law_279 ?_
    refine g_callI (st := []) (gc_V C lk_LandSurveyLaw_39 (kx_X11_cell l D cy w z0 O tn1 f5 f7 f9 (iw (il 1) (by decide) (by decide)) pX) tn1 rfl rfl rfl ⟨by decide, by decide⟩ (Nat.le_of_ble_eq_true rfl) dL_law_283 ⟨(by show _ ≤ 601024; omega), (by show _ ≤ 7293034; omega)⟩) (fun r47 h48 f50 K49 => ?_)
    obtain ⟨O51, F52, f53, p54⟩ := K49
    refine g_pop C rfl dL_law_286 ?_
    refine g_aload_n C rfl 2 rfl dL_law_287 ?_
    refine g_aload_n C rfl 4 rfl dL_law_288 ?_
    refine g_iload C 0 rfl dL_law_289 ?_
    refine g_iconst C dL_law_291 ?_
    refine g_iadd C dL_law_292 ?_
    refine g_sld C hX hbl hbz ⟨by omega, by omega⟩ (by omega) dL_law_293 ?_
    refine g_aload_n C rfl 4 rfl dL_law_294 ?_
    refine g_iload C 0 rfl dL_law_295 ?_
    refine g_iconst C dL_law_297 ?_
    refine g_iadd C dL_law_298 ?_
    refine g_sld C hX hbl hbz ⟨by omega, by omega⟩ (by omega) dL_law_299 ?_
    refine g_aload_n C rfl 4 rfl dL_law_300 ?_
    refine g_iload C 0 rfl dL_law_301 ?_
    refine g_iconst C dL_law_303 ?_
    refine g_iadd C dL_law_304 ?_
    refine g_sld C hX hbl hbz ⟨by omega, by omega⟩ (by omega) dL_law_305 ?_
    refine g_aload_n C rfl 4 rfl dL_law_306 ?_
    refine g_iload C 0 rfl dL_law_307 ?_
    refine g_iconst C dL_law_309 ?_
    refine g_iadd C dL_law_310 ?_
    refine g_sld C hX hbl hbz ⟨by omega, by omega⟩ (by omega) dL_law_311 ?_
    refine g_if_eq C f11 319 (by decide) dL_law_312 (fun q55 => ?_) (fun q56 => ?_)
    · have f57 : (0 : Int) ≤ (sx xs (x + 4)) ∧ (sx xs (x + 4)) ≤ (0 : Int) := ii f11 (r_eq (il 0) q55) (by decide) (by decide)
      refine g_iconst C dL_law_319 ?_
      have e58 : Tg h48 n2 = 12 := (fxT F52 tn2)
      refine g_callI (st := []) (gc_V C lk_LandSurveyLaw_43 (k_X12_cell l D cy w z0 O51 e58 f5 f7 f9 (iw (il 0) (by decide) (by decide))) e58 rfl rfl rfl ⟨by decide, by decide⟩ (Nat.le_of_ble_eq_true rfl) dL_law_320 ⟨(by show _ ≤ 601024; omega), (by show _ ≤ 7293034; omega)⟩) (fun r59 h60 f62 K61 => ?_)
      obtain ⟨O63, F64, f65⟩ := K61
      refine g_pop C rfl dL_law_323 ?_
      refine g_goto C 1896 (by decide) dL_law_324 ?_
      have f66 : (8 : Int) ≤ (x + 8) ∧ (x + 8) ≤ (4096 : Int) := ia_add fx (il 8) (by decide) (by decide)
      refine g_iinc C [(4, .inl (x + 8)), (3, .inr (.inr n3)), (2, .inr (.inr n2)), (1, .inr (.inr n1)), (0, .inr (.inr (b + 1)))] 0 rfl (by decide) rfl dL_law_1896 ?_
      refine g_goto C 23 (by decide) dL_law_1899 ?_
      refine GW.sub [0, 1, 2, 3, 4] rfl ?_
      refine GW.widen (by omega : _ ≤ 13 * (x + 8).toNat + 119) (by omega : _ ≤ 806 * (x + 8).toNat + 52115) ?_
      have e67 : Qask h48 n1 = F1 := Eq.trans (show Qask h48 n1 = Qask h n1 from (Qask_fx O F52 tn1 rfl)) e2
      have e69 : Tg h48 n1 = 11 := (fxT F52 tn1)
      have e68 : Qask h60 n1 = F1 := Eq.trans (show Qask h60 n1 = Qask h48 n1 from (Qask_fx O51 F64 e69 rfl)) e67
      have e70 : Qm 82 h48 n2 = F1 := Eq.trans (show Qm 82 h48 n2 = Qm 82 h n2 from (mAI (j := 82) O F52 tn2 rE_12_82 ar_182101 rfl rfl)) e3
      have e71 : Qm 82 h60 n2 = F1 := Eq.trans (show Qm 82 h60 n2 = Qm 82 h48 n2 from (mAI (j := 82) O51 F64 e58 rE_12_82 ar_182101 rfl rfl)) e70
      have p72 := (ASK_fx O51 F64 e69 rfl (ASK_fx O F52 tn1 rfl hT.2))
      have p73 := (XInv_fx O51 F64 e69 rfl p54)
      have p74 := (MInv_fx O51 F64 e58 rfl (MInv_fx O F52 tn2 rfl pM))
      have e75 : Tg h60 n1 = 11 := (fxT F64 e69)
      have e76 : Tg h60 n2 = 12 := (fxT F64 e58)
      have e77 : Tg h60 n3 = 99102 := (fxT F64 (fxT F52 tn3))
      have e78 : Tg h48 n3 = 99102 := (fxT F52 tn3)
      have e79 : Ln h60 n3 = 1 := ((fxL F64 e78).trans ((fxL F52 tn3).trans ln3))
      exact IH _ O63 e75 e76 e77 e79 p73 p74 ⟨(e68.trans (Eq.symm e71)), p72⟩
    · refine g_iconst C dL_law_315 ?_
      refine g_goto C 320 (by decide) dL_law_316 ?_
      have e80 : Tg h48 n2 = 12 := (fxT F52 tn2)
      refine g_callI (st := []) (gc_V C lk_LandSurveyLaw_43 (k_X12_cell l D cy w z0 O51 e80 f5 f7 f9 (iw (il 1) (by decide) (by decide))) e80 rfl rfl rfl ⟨by decide, by decide⟩ (Nat.le_of_ble_eq_true rfl) dL_law_320 ⟨(by show _ ≤ 601024; omega), (by show _ ≤ 7293034; omega)⟩) (fun r81 h82 f84 K83 => ?_)
      obtain ⟨O85, F86, f87⟩ := K83
      refine g_pop C rfl dL_law_323 ?_
      refine g_goto C 1896 (by decide) dL_law_324 ?_
      have f88 : (8 : Int) ≤ (x + 8) ∧ (x + 8) ≤ (4096 : Int) := ia_add fx (il 8) (by decide) (by decide)
      refine g_iinc C [(4, .inl (x + 8)), (3, .inr (.inr n3)), (2, .inr (.inr n2)), (1, .inr (.inr n1)), (0, .inr (.inr (b + 1)))] 0 rfl (by decide) rfl dL_law_1896 ?_
      refine g_goto C 23 (by decide) dL_law_1899 ?_
      refine GW.sub [0, 1, 2, 3, 4] rfl ?_
      refine GW.widen (by omega : _ ≤ 13 * (x + 8).toNat + 119) (by omega : _ ≤ 806 * (x + 8).toNat + 52115) ?_
      have e89 : Qask h48 n1 = F1 := Eq.trans (show Qask h48 n1 = Qask h n1 from (Qask_fx O F52 tn1 rfl)) e2
      have e91 : Tg h48 n1 = 11 := (fxT F52 tn1)
      have e90 : Qask h82 n1 = F1 := Eq.trans (show Qask h82 n1 = Qask h48 n1 from (Qask_fx O51 F86 e91 rfl)) e89
      have e92 : Qm 82 h48 n2 = F1 := Eq.trans (show Qm 82 h48 n2 = Qm 82 h n2 from (mAI (j := 82) O F52 tn2 rE_12_82 ar_182101 rfl rfl)) e3
      have e93 : Qm 82 h82 n2 = F1 := Eq.trans (show Qm 82 h82 n2 = Qm 82 h48 n2 from (mAI (j := 82) O51 F86 e80 rE_12_82 ar_182101 rfl rfl)) e92
      have p94 := (ASK_fx O51 F86 e91 rfl (ASK_fx O F52 tn1 rfl hT.2))
      have p95 := (XInv_fx O51 F86 e91 rfl p54)
      have p96 := (MInv_fx O51 F86 e80 rfl (MInv_fx O F52 tn2 rfl pM))
      have e97 : Tg h82 n1 = 11 := (fxT F86 e91)
      have e98 : Tg h82 n2 = 12 := (fxT F86 e80)
      have e99 : Tg h82 n3 = 99102 := (fxT F86 (fxT F52 tn3))
      have e100 : Tg h48 n3 = 99102 := (fxT F52 tn3)
      have e101 : Ln h82 n3 = 1 := ((fxL F86 e100).trans ((fxL F52 tn3).trans ln3))
      exact IH _ O85 e97 e98 e99 e101 p95 p96 ⟨(e90.trans (Eq.symm e93)), p94⟩
set_option maxRecDepth 100000 in
set_option maxHeartbeats 8000000 in
theorem law_c3 (l : Launch) (hst : l.stackTraces = false) {p : Program} {e : Env} {s : State} {m : MethodId} {below : List Frame} {meth : Method} {c : Code} {D : va_G} {cy : Nat → ClassId} {w : Nat → Nat} {z0 b L : Nat} {xs : Nat → Int32} {h : Hp} {x : Int} {n1 n2 n3 : Nat} (C : Cx p l room_1 s m #[Value.ref b] meth c D cy z0 7 cL_law "LandSurveyLaw" w) (hr : meth.sig.returnType = ret) (hX : va_X b L xs s s.heap) (hbl : b < s.heap.size) (hbz : b < z0) (hzs : s.heap.size ≤ z0) (hL : L ≤ 4096) (fx : 0 ≤ x ∧ x ≤ 4088) (hq : x ≤ (L : Int) - 8) (O : Okh h) (tn1 : Tg h n1 = 11) (tn2 : Tg h n2 = 12) (tn3 : Tg h n3 = 99102) (ln3 : Ln h n3 = 1) (pX : XInv h n1) (pM : MInv h n2) (hT : Qask h n1 = Qm 82 h n2 ∧ ASK h n1) (IH : ∀ (h1 : Hp), Okh h1 → Tg h1 n1 = 11 → Tg h1 n2 = 12 → Tg h1 n3 = 99102 → Ln h1 n3 = 1 → XInv h1 n1 → MInv h1 n2 → Qask h1 n1 = Qm 82 h1 n2 ∧ ASK h1 n1 → GW p l e room_1 s m #[Value.ref b] below meth c D cy z0 7 (lw_Z below #[Value.ref b] s) 23 [(4, .inl (x + 8)), (3, .inr (.inr n3)), (2, .inr (.inr n2)), (1, .inr (.inr n1)), (0, .inr (.inr (b + 1)))] [] h1 (13 * (x + 8).toNat + 119) (806 * (x + 8).toNat + 52115)) : GW p l e room_1 s m #[Value.ref b] below meth c D cy z0 7 (lw_Z below #[Value.ref b] s) 327 [(4, .inl x), (3, .inr (.inr n3)), (2, .inr (.inr n2)), (1, .inr (.inr n1)), (0, .inr (.inr (b + 1)))] [] h (13 * x.toNat + 119) (806 * x.toNat + 52115) := by
  obtain ⟨F1, e2⟩ : ∃ z, Qask h n1 = z := ⟨_, rfl⟩
  have e3 : Qm 82 h n2 = F1 := (Eq.symm hT.1).trans e2
  refine g_aload_n C rfl 3 rfl dL_law_327 ?_
  refine g_aload_n C rfl 4 rfl dL_law_328 ?_
  refine g_iload C 0 rfl dL_law_329 ?_
  refine g_iconst C dL_law_331 ?_
  have f4 : (1 : Int) ≤ (x + 1) ∧ (x + 1) ≤ (4089 : Int) := ia_add fx (il 1) (by decide) (by decide)
  refine g_iadd C dL_law_332 ?_
  refine g_sld C hX hbl hbz ⟨by omega, by omega⟩ (by omega) dL_law_333 ?_
  have f5 : (-2147483648 : Int) ≤ (sx xs (x + 1)) ∧ (sx xs (x + 1)) ≤ (2147483647 : Int) := inR_of _
  refine g_aload_n C rfl 4 rfl dL_law_334 ?_
  refine g_iload C 0 rfl dL_law_335 ?_
  refine g_iconst C dL_law_337 ?_
  have f6 : (2 : Int) ≤ (x + 2) ∧ (x + 2) ≤ (4090 : Int) := ia_add fx (il 2) (by decide) (by decide)
  refine g_iadd C dL_law_338 ?_
  refine g_sld C hX hbl hbz ⟨by omega, by omega⟩ (by omega) dL_law_339 ?_
  have f7 : (-2147483648 : Int) ≤ (sx xs (x + 2)) ∧ (sx xs (x + 2)) ≤ (2147483647 : Int) := inR_of _
  refine g_aload_n C rfl 4 rfl dL_law_340 ?_
  refine g_iload C 0 rfl dL_law_341 ?_
  refine g_iconst C dL_law_343 ?_
  have f8 : (3 : Int) ≤ (x + 3) ∧ (x + 3) ≤ (4091 : Int) := ia_add fx (il 3) (by decide) (by decide)
  refine g_iadd C dL_law_344 ?_
  refine g_sld C hX hbl hbz ⟨by omega, by omega⟩ (by omega) dL_law_345 ?_
  have f9 : (-2147483648 : Int) ≤ (sx xs (x + 3)) ∧ (sx xs (x + 3)) ≤ (2147483647 : Int) := inR_of _
  refine g_if_eq C f9 353 (by decide) dL_law_346 (fun q10 => ?_) (fun q11 => ?_)
  · have f12 : (0 : Int) ≤ (sx xs (x + 3)) ∧ (sx xs (x + 3)) ≤ (0 : Int) := ii f9 (r_eq (il 0) q10) (by decide) (by decide)
    refine g_iconst C dL_law_353 ?_
    refine g_callI (st := []) (gc_V C lk_LandSurveyLaw_44 (kx_X11_fold l D cy w z0 O tn1 f5 f7 (iw (il 0) (by decide) (by decide)) pX) tn1 rfl rfl rfl ⟨by decide, by decide⟩ (Nat.le_of_ble_eq_true rfl) dL_law_354 ⟨(by show _ ≤ 601024; omega), (by show _ ≤ 7293034; omega)⟩) (fun r13 h14 f16 K15 => ?_)
    obtain ⟨O17, F18, f19, p20⟩ := K15
    refine g_pop C rfl dL_law_357 ?_
    refine g_aload_n C rfl 2 rfl dL_law_358 ?_
    refine g_aload_n C rfl 4 rfl dL_law_359 ?_
    refine g_iload C 0 rfl dL_law_360 ?_
    refine g_iconst C dL_law_362 ?_
    refine g_iadd C dL_law_363 ?_
    refine g_sld C hX hbl hbz ⟨by omega, by omega⟩ (by omega) dL_law_364 ?_
    refine g_aload_n C rfl 4 rfl dL_law_365 ?_
    refine g_iload C 0 rfl dL_law_366 ?_
    refine g_iconst C dL_law_368 ?_
    refine g_iadd C dL_law_369 ?_
    refine g_sld C hX hbl hbz ⟨by omega, by omega⟩ (by omega) dL_law_370 ?_
    refine g_aload_n C rfl 4 rfl dL_law_371 ?_
    refine g_iload C 0 rfl dL_law_372 ?_
    refine g_iconst C dL_law_374 ?_
    refine g_iadd C dL_law_375 ?_
    refine g_sld C hX hbl hbz ⟨by omega, by omega⟩ (by omega) dL_law_376 ?_
    refine g_if_eq C (iw f12 (by decide) (by decide)) 384 (by decide) dL_law_377 (fun q21 => ?_) (fun q22 => ?_)
    · refine g_iconst C dL_law_384 ?_
      have e23 : Tg h14 n2 = 12 := (fxT F18 tn2)
      refine g_callI (st := []) (gc_V C lk_LandSurveyLaw_48 (k_X12_fold l D cy w z0 O17 e23 f5 f7 (iw (il 0) (by decide) (by decide))) e23 rfl rfl rfl ⟨by decide, by decide⟩ (Nat.le_of_ble_eq_true rfl) dL_law_385 ⟨(by show _ ≤ 601024; omega), (by show _ ≤ 7293034; omega)⟩) (fun r24 h25 f27 K26 => ?_)
      obtain ⟨O28, F29, f30⟩ := K26
      refine g_pop C rfl dL_law_388 ?_
      refine g_goto C 1896 (by decide) dL_law_389 ?_
      have f31 : (8 : Int) ≤ (x + 8) ∧ (x + 8) ≤ (4096 : Int) := ia_add fx (il 8) (by decide) (by decide)
      refine g_iinc C [(4, .inl (x + 8)), (3, .inr (.inr n3)), (2, .inr (.inr n2)), (1, .inr (.inr n1)), (0, .inr (.inr (b + 1)))] 0 rfl (by decide) rfl dL_law_1896 ?_
      refine g_goto C 23 (by decide) dL_law_1899 ?_
      refine GW.sub [0, 1, 2, 3, 4] rfl ?_
      refine GW.widen (by omega : _ ≤ 13 * (x + 8).toNat + 119) (by omega : _ ≤ 806 * (x + 8).toNat + 52115) ?_
      have e32 : Qask h14 n1 = F1 := Eq.trans (show Qask h14 n1 = Qask h n1 from (Qask_fx O F18 tn1 rfl)) e2
      have e34 : Tg h14 n1 = 11 := (fxT F18 tn1)
      have e33 : Qask h25 n1 = F1 := Eq.trans (show Qask h25 n1 = Qask h14 n1 from (Qask_fx O17 F29 e34 rfl)) e32
      have e35 : Qm 82 h14 n2 = F1 := Eq.trans (show Qm 82 h14 n2 = Qm 82 h n2 from (mAI (j := 82) O F18 tn2 rE_12_82 ar_182101 rfl rfl)) e3
      have e36 : Qm 82 h25 n2 = F1 := Eq.trans (show Qm 82 h25 n2 = Qm 82 h14 n2 from (mAI (j := 82) O17 F29 e23 rE_12_82 ar_182101 rfl rfl)) e35
      have p37 := (ASK_fx O17 F29 e34 rfl (ASK_fx O F18 tn1 rfl hT.2))
      have p38 := (XInv_fx O17 F29 e34 rfl p20)
      have p39 := (MInv_fx O17 F29 e23 rfl (MInv_fx O F18 tn2 rfl pM))
      have e40 : Tg h25 n1 = 11 := (fxT F29 e34)
      have e41 : Tg h25 n2 = 12 := (fxT F29 e23)
      have e42 : Tg h25 n3 = 99102 := (fxT F29 (fxT F18 tn3))
      have e43 : Tg h14 n3 = 99102 := (fxT F18 tn3)
      have e44 : Ln h25 n3 = 1 := ((fxL F29 e43).trans ((fxL F18 tn3).trans ln3))
      exact IH _ O28 e40 e41 e42 e44 p38 p39 ⟨(e33.trans (Eq.symm e36)), p37⟩
    · exact (no_ne f12 (il 0) q22 (by decide)).elim
  · refine g_iconst C dL_law_349 ?_
    refine g_goto C 354 (by decide) dL_law_350 ?_
    refine g_callI (st := []) (gc_V C lk_LandSurveyLaw_44 (kx_X11_fold l D cy w z0 O tn1 f5 f7 (iw (il 1) (by decide) (by decide)) pX) tn1 rfl rfl rfl ⟨by decide, by decide⟩ (Nat.le_of_ble_eq_true rfl) dL_law_354 ⟨(by show _ ≤ 601024; omega), (by show _ ≤ 7293034; omega)⟩) (fun r45 h46 f48 K47 => ?_)
    obtain ⟨O49, F50, f51, p52⟩ := K47
    refine g_pop C rfl dL_law_357 ?_
    refine g_aload_n C rfl 2 rfl dL_law_358 ?_
    refine g_aload_n C rfl 4 rfl dL_law_359 ?_
    refine g_iload C 0 rfl dL_law_360 ?_
    refine g_iconst C dL_law_362 ?_
    refine g_iadd C dL_law_363 ?_
    refine g_sld C hX hbl hbz ⟨by omega, by omega⟩ (by omega) dL_law_364 ?_
    refine g_aload_n C rfl 4 rfl dL_law_365 ?_
    refine g_iload C 0 rfl dL_law_366 ?_
    refine g_iconst C dL_law_368 ?_
    refine g_iadd C dL_law_369 ?_
    refine g_sld C hX hbl hbz ⟨by omega, by omega⟩ (by omega) dL_law_370 ?_
    refine g_aload_n C rfl 4 rfl dL_law_371 ?_
    refine g_iload C 0 rfl dL_law_372 ?_
    refine g_iconst C dL_law_374 ?_
    refine g_iadd C dL_law_375 ?_
    refine g_sld C hX hbl hbz ⟨by omega, by omega⟩ (by omega) dL_law_376 ?_
    refine g_if_eq C f9 384 (by decide) dL_law_377 (fun q53 => ?_) (fun q54 => ?_)
    · have f55 : (0 : Int) ≤ (sx xs (x + 3)) ∧ (sx xs (x + 3)) ≤ (0 : Int) := ii f9 (r_eq (il 0) q53) (by decide) (by decide)
      refine g_iconst C dL_law_384 ?_
      have e56 : Tg h46 n2 = 12 := (fxT F50 tn2)
      refine g_callI (st := []) (gc_V C lk_LandSurveyLaw_48 (k_X12_fold l D cy w z0 O49 e56 f5 f7 (iw (il 0) (by decide) (by decide))) e56 rfl rfl rfl ⟨by decide, by decide⟩ (Nat.le_of_ble_eq_true rfl) dL_law_385 ⟨(by show _ ≤ 601024; omega), (by show _ ≤ 7293034; omega)⟩) (fun r57 h58 f60 K59 => ?_)
      obtain ⟨O61, F62, f63⟩ := K59
      refine g_pop C rfl dL_law_388 ?_
      refine g_goto C 1896 (by decide) dL_law_389 ?_
      have f64 : (8 : Int) ≤ (x + 8) ∧ (x + 8) ≤ (4096 : Int) := ia_add fx (il 8) (by decide) (by decide)
      refine g_iinc C [(4, .inl (x + 8)), (3, .inr (.inr n3)), (2, .inr (.inr n2)), (1, .inr (.inr n1)), (0, .inr (.inr (b + 1)))] 0 rfl (by decide) rfl dL_law_1896 ?_
      refine g_goto C 23 (by decide) dL_law_1899 ?_
      refine GW.sub [0, 1, 2, 3, 4] rfl ?_
      refine GW.widen (by omega : _ ≤ 13 * (x + 8).toNat + 119) (by omega : _ ≤ 806 * (x + 8).toNat + 52115) ?_
      have e65 : Qask h46 n1 = F1 := Eq.trans (show Qask h46 n1 = Qask h n1 from (Qask_fx O F50 tn1 rfl)) e2
      have e67 : Tg h46 n1 = 11 := (fxT F50 tn1)
      have e66 : Qask h58 n1 = F1 := Eq.trans (show Qask h58 n1 = Qask h46 n1 from (Qask_fx O49 F62 e67 rfl)) e65
      have e68 : Qm 82 h46 n2 = F1 := Eq.trans (show Qm 82 h46 n2 = Qm 82 h n2 from (mAI (j := 82) O F50 tn2 rE_12_82 ar_182101 rfl rfl)) e3
      have e69 : Qm 82 h58 n2 = F1 := Eq.trans (show Qm 82 h58 n2 = Qm 82 h46 n2 from (mAI (j := 82) O49 F62 e56 rE_12_82 ar_182101 rfl rfl)) e68
      have p70 := (ASK_fx O49 F62 e67 rfl (ASK_fx O F50 tn1 rfl hT.2))
      have p71 := (XInv_fx O49 F62 e67 rfl p52)
      have p72 := (MInv_fx O49 F62 e56 rfl (MInv_fx O F50 tn2 rfl pM))
      have e73 : Tg h58 n1 = 11 := (fxT F62 e67)
      have e74 : Tg h58 n2 = 12 := (fxT F62 e56)
      have e75 : Tg h58 n3 = 99102 := (fxT F62 (fxT F50 tn3))
      have e76 : Tg h46 n3 = 99102 := (fxT F50 tn3)
      have e77 : Ln h58 n3 = 1 := ((fxL F62 e76).trans ((fxL F50 tn3).trans ln3))
      exact IH _ O61 e73 e74 e75 e77 p71 p72 ⟨(e66.trans (Eq.symm e69)), p70⟩
    · refine g_iconst C dL_law_380 ?_
      refine g_goto C 385 (by decide) dL_law_381 ?_
      have e78 : Tg h46 n2 = 12 := (fxT F50 tn2)
      refine g_callI (st := []) (gc_V C lk_LandSurveyLaw_48 (k_X12_fold l D cy w z0 O49 e78 f5 f7 (iw (il 1) (by decide) (by decide))) e78 rfl rfl rfl ⟨by decide, by decide⟩ (Nat.le_of_ble_eq_true rfl) dL_law_385 ⟨(by show _ ≤ 601024; omega), (by show _ ≤ 7293034; omega)⟩) (fun r79 h80 f82 K81 => ?_)
      obtain ⟨O83, F84, f85⟩ := K81
      refine g_pop C rfl dL_law_388 ?_
      refine g_goto C 1896 (by decide) dL_law_389 ?_
      have f86 : (8 : Int) ≤ (x + 8) ∧ (x + 8) ≤ (4096 : Int) := ia_add fx (il 8) (by decide) (by decide)
      refine g_iinc C [(4, .inl (x + 8)), (3, .inr (.inr n3)), (2, .inr (.inr n2)), (1, .inr (.inr n1)), (0, .inr (.inr (b + 1)))] 0 rfl (by decide) rfl dL_law_1896 ?_
      refine g_goto C 23 (by decide) dL_law_1899 ?_
      refine GW.sub [0, 1, 2, 3, 4] rfl ?_
      refine GW.widen (by omega : _ ≤ 13 * (x + 8).toNat + 119) (by omega : _ ≤ 806 * (x + 8).toNat + 52115) ?_
      have e87 : Qask h46 n1 = F1 := Eq.trans (show Qask h46 n1 = Qask h n1 from (Qask_fx O F50 tn1 rfl)) e2
      have e89 : Tg h46 n1 = 11 := (fxT F50 tn1)
      have e88 : Qask h80 n1 = F1 := Eq.trans (show Qask h80 n1 = Qask h46 n1 from (Qask_fx O49 F84 e89 rfl)) e87
      have e90 : Qm 82 h46 n2 = F1 := Eq.trans (show Qm 82 h46 n2 = Qm 82 h n2 from (mAI (j := 82) O F50 tn2 rE_12_82 ar_182101 rfl rfl)) e3
      have e91 : Qm 82 h80 n2 = F1 := Eq.trans (show Qm 82 h80 n2 = Qm 82 h46 n2 from (mAI (j := 82) O49 F84 e78 rE_12_82 ar_182101 rfl rfl)) e90
      have p92 := (ASK_fx O49 F84 e89 rfl (ASK_fx O F50 tn1 rfl hT.2))
      have p93 := (XInv_fx O49 F84 e89 rfl p52)
      have p94 := (MInv_fx O49 F84 e78 rfl (MInv_fx O F50 tn2 rfl pM))
      have e95 : Tg h80 n1 = 11 := (fxT F84 e89)
      have e96 : Tg h80 n2 = 12 := (fxT F84 e78)
      have e97 : Tg h80 n3 = 99102 := (fxT F84 (fxT F50 tn3))
      have e98 : Tg h46 n3 = 99102 := (fxT F50 tn3)
      have e99 : Ln h80 n3 = 1 := ((fxL F84 e98).trans ((fxL F50 tn3).trans ln3))
      exact IH _ O83 e95 e96 e97 e99 p93 p94 ⟨(e88.trans (Eq.symm e91)), p92⟩
set_option maxRecDepth 100000 in
set_option maxHeartbeats 8000000 in
theorem law_c4 (l : Launch) (hst : l.stackTraces = false) {p : Program} {e : Env} {s : State} {m : MethodId} {below : List Frame} {meth : Method} {c : Code} {D : va_G} {cy : Nat → ClassId} {w : Nat → Nat} {z0 b L : Nat} {xs : Nat → Int32} {h : Hp} {x : Int} {n1 n2 n3 : Nat} (C : Cx p l room_1 s m #[Value.ref b] meth c D cy z0 7 cL_law "LandSurveyLaw" w) (hr : meth.sig.returnType = ret) (hX : va_X b L xs s s.heap) (hbl : b < s.heap.size) (hbz : b < z0) (hzs : s.heap.size ≤ z0) (hL : L ≤ 4096) (fx : 0 ≤ x ∧ x ≤ 4088) (hq : x ≤ (L : Int) - 8) (O : Okh h) (tn1 : Tg h n1 = 11) (tn2 : Tg h n2 = 12) (tn3 : Tg h n3 = 99102) (ln3 : Ln h n3 = 1) (pX : XInv h n1) (pM : MInv h n2) (hT : Qask h n1 = Qm 82 h n2 ∧ ASK h n1) (IH : ∀ (h1 : Hp), Okh h1 → Tg h1 n1 = 11 → Tg h1 n2 = 12 → Tg h1 n3 = 99102 → Ln h1 n3 = 1 → XInv h1 n1 → MInv h1 n2 → Qask h1 n1 = Qm 82 h1 n2 ∧ ASK h1 n1 → GW p l e room_1 s m #[Value.ref b] below meth c D cy z0 7 (lw_Z below #[Value.ref b] s) 23 [(4, .inl (x + 8)), (3, .inr (.inr n3)), (2, .inr (.inr n2)), (1, .inr (.inr n1)), (0, .inr (.inr (b + 1)))] [] h1 (13 * (x + 8).toNat + 119) (806 * (x + 8).toNat + 52115)) : GW p l e room_1 s m #[Value.ref b] below meth c D cy z0 7 (lw_Z below #[Value.ref b] s) 392 [(4, .inl x), (3, .inr (.inr n3)), (2, .inr (.inr n2)), (1, .inr (.inr n1)), (0, .inr (.inr (b + 1)))] [] h (13 * x.toNat + 119) (806 * x.toNat + 52115) := by
  obtain ⟨F1, e2⟩ : ∃ z, Qask h n1 = z := ⟨_, rfl⟩
  have e3 : Qm 82 h n2 = F1 := (Eq.symm hT.1).trans e2
  refine g_aload_n C rfl 3 rfl dL_law_392 ?_
  refine g_aload_n C rfl 4 rfl dL_law_393 ?_
  refine g_iload C 0 rfl dL_law_394 ?_
  refine g_iconst C dL_law_396 ?_
  have f4 : (1 : Int) ≤ (x + 1) ∧ (x + 1) ≤ (4089 : Int) := ia_add fx (il 1) (by decide) (by decide)
  refine g_iadd C dL_law_397 ?_
  refine g_sld C hX hbl hbz ⟨by omega, by omega⟩ (by omega) dL_law_398 ?_
  have f5 : (-2147483648 : Int) ≤ (sx xs (x + 1)) ∧ (sx xs (x + 1)) ≤ (2147483647 : Int) := inR_of _
  refine g_aload_n C rfl 4 rfl dL_law_399 ?_
  refine g_iload C 0 rfl dL_law_400 ?_
  refine g_iconst C dL_law_402 ?_
  have f6 : (2 : Int) ≤ (x + 2) ∧ (x + 2) ≤ (4090 : Int) := ia_add fx (il 2) (by decide) (by decide)
  refine g_iadd C dL_law_403 ?_
  refine g_sld C hX hbl hbz ⟨by omega, by omega⟩ (by omega) dL_law_404 ?_
  have f7 : (-2147483648 : Int) ≤ (sx xs (x + 2)) ∧ (sx xs (x + 2)) ≤ (2147483647 : Int) := inR_of _
  refine g_aload_n C rfl 4 rfl dL_law_405 ?_
  refine g_iload C 0 rfl dL_law_406 ?_
  refine g_iconst C dL_law_408 ?_
  have f8 : (3 : Int) ≤ (x + 3) ∧ (x + 3) ≤ (4091 : Int) := ia_add fx (il 3) (by decide) (by decide)
  refine g_iadd C dL_law_409 ?_
  refine g_sld C hX hbl hbz ⟨by omega, by omega⟩ (by omega) dL_law_410 ?_
  have f9 : (-2147483648 : Int) ≤ (sx xs (x + 3)) ∧ (sx xs (x + 3)) ≤ (2147483647 : Int) := inR_of _
  refine g_callI (st := []) (gc_V C lk_LandSurveyLaw_49 (k_X11_own l D cy w z0 O tn1 f5 f7 f9) tn1 rfl rfl rfl ⟨by decide, by decide⟩ (Nat.le_of_ble_eq_true rfl) dL_law_411 ⟨(by show _ ≤ 601024; omega), (by show _ ≤ 7293034; omega)⟩) (fun r10 h11 f13 K12 => ?_)
  obtain ⟨O14, F15, f16⟩ := K12
  refine g_pop C rfl dL_law_414 ?_
  refine g_aload_n C rfl 2 rfl dL_law_415 ?_
  refine g_aload_n C rfl 4 rfl dL_law_416 ?_
  refine g_iload C 0 rfl dL_law_417 ?_
  refine g_iconst C dL_law_419 ?_
  refine g_iadd C dL_law_420 ?_
  refine g_sld C hX hbl hbz ⟨by omega, by omega⟩ (by omega) dL_law_421 ?_
  refine g_aload_n C rfl 4 rfl dL_law_422 ?_
  refine g_iload C 0 rfl dL_law_423 ?_
  refine g_iconst C dL_law_425 ?_
  refine g_iadd C dL_law_426 ?_
  refine g_sld C hX hbl hbz ⟨by omega, by omega⟩ (by omega) dL_law_427 ?_
  refine g_aload_n C rfl 4 rfl dL_law_428 ?_
  refine g_iload C 0 rfl dL_law_429 ?_
  refine g_iconst C dL_law_431 ?_
  refine g_iadd C dL_law_432 ?_
  refine g_sld C hX hbl hbz ⟨by omega, by omega⟩ (by omega) dL_law_433 ?_
  have e17 : Tg h11 n2 = 12 := (fxT F15 tn2)
  refine g_callI (st := []) (gc_V C lk_LandSurveyLaw_53 (k_X12_own l D cy w z0 O14 e17 f5 f7 f9) e17 rfl rfl rfl ⟨by decide, by decide⟩ (Nat.le_of_ble_eq_true rfl) dL_law_434 ⟨(by show _ ≤ 601024; omega), (by show _ ≤ 7293034; omega)⟩) (fun r18 h19 f21 K20 => ?_)
  obtain ⟨O22, F23, f24⟩ := K20
  refine g_pop C rfl dL_law_437 ?_
  refine g_goto C 1896 (by decide) dL_law_438 ?_
  have f25 : (8 : Int) ≤ (x + 8) ∧ (x + 8) ≤ (4096 : Int) := ia_add fx (il 8) (by decide) (by decide)
  refine g_iinc C [(4, .inl (x + 8)), (3, .inr (.inr n3)), (2, .inr (.inr n2)), (1, .inr (.inr n1)), (0, .inr (.inr (b + 1)))] 0 rfl (by decide) rfl dL_law_1896 ?_
  refine g_goto C 23 (by decide) dL_law_1899 ?_
  refine GW.sub [0, 1, 2, 3, 4] rfl ?_
  refine GW.widen (by omega : _ ≤ 13 * (x + 8).toNat + 119) (by omega : _ ≤ 806 * (x + 8).toNat + 52115) ?_
  have e26 : Qask h11 n1 = F1 := Eq.trans (show Qask h11 n1 = Qask h n1 from (Qask_fx O F15 tn1 rfl)) e2
  have e28 : Tg h11 n1 = 11 := (fxT F15 tn1)
  have e27 : Qask h19 n1 = F1 := Eq.trans (show Qask h19 n1 = Qask h11 n1 from (Qask_fx O14 F23 e28 rfl)) e26
  have e29 : Qm 82 h11 n2 = F1 := Eq.trans (show Qm 82 h11 n2 = Qm 82 h n2 from (mAI (j := 82) O F15 tn2 rE_12_82 ar_182101 rfl rfl)) e3
  have e30 : Qm 82 h19 n2 = F1 := Eq.trans (show Qm 82 h19 n2 = Qm 82 h11 n2 from (mAI (j := 82) O14 F23 e17 rE_12_82 ar_182101 rfl rfl)) e29
  have p31 := (ASK_fx O14 F23 e28 rfl (ASK_fx O F15 tn1 rfl hT.2))
  have p32 := (XInv_fx O14 F23 e28 rfl (XInv_fx O F15 tn1 rfl pX))
  have p33 := (MInv_fx O14 F23 e17 rfl (MInv_fx O F15 tn2 rfl pM))
  have e34 : Tg h19 n1 = 11 := (fxT F23 e28)
  have e35 : Tg h19 n2 = 12 := (fxT F23 e17)
  have e36 : Tg h19 n3 = 99102 := (fxT F23 (fxT F15 tn3))
  have e37 : Tg h11 n3 = 99102 := (fxT F15 tn3)
  have e38 : Ln h19 n3 = 1 := ((fxL F23 e37).trans ((fxL F15 tn3).trans ln3))
  exact IH _ O22 e34 e35 e36 e38 p32 p33 ⟨(e27.trans (Eq.symm e30)), p31⟩
set_option maxRecDepth 100000 in
set_option maxHeartbeats 8000000 in
theorem law_c5 (l : Launch) (hst : l.stackTraces = false) {p : Program} {e : Env} {s : State} {m : MethodId} {below : List Frame} {meth : Method} {c : Code} {D : va_G} {cy : Nat → ClassId} {w : Nat → Nat} {z0 b L : Nat} {xs : Nat → Int32} {h : Hp} {x : Int} {n1 n2 n3 : Nat} (C : Cx p l room_1 s m #[Value.ref b] meth c D cy z0 7 cL_law "LandSurveyLaw" w) (hr : meth.sig.returnType = ret) (hX : va_X b L xs s s.heap) (hbl : b < s.heap.size) (hbz : b < z0) (hzs : s.heap.size ≤ z0) (hL : L ≤ 4096) (fx : 0 ≤ x ∧ x ≤ 4088) (hq : x ≤ (L : Int) - 8) (O : Okh h) (tn1 : Tg h n1 = 11) (tn2 : Tg h n2 = 12) (tn3 : Tg h n3 = 99102) (ln3 : Ln h n3 = 1) (pX : XInv h n1) (pM : MInv h n2) (hT : Qask h n1 = Qm 82 h n2 ∧ ASK h n1) (IH : ∀ (h1 : Hp), Okh h1 → Tg h1 n1 = 11 → Tg h1 n2 = 12 → Tg h1 n3 = 99102 → Ln h1 n3 = 1 → XInv h1 n1 → MInv h1 n2 → Qask h1 n1 = Qm 82 h1 n2 ∧ ASK h1 n1 → GW p l e room_1 s m #[Value.ref b] below meth c D cy z0 7 (lw_Z below #[Value.ref b] s) 23 [(4, .inl (x + 8)), (3, .inr (.inr n3)), (2, .inr (.inr n2)), (1, .inr (.inr n1)), (0, .inr (.inr (b + 1)))] [] h1 (13 * (x + 8).toNat + 119) (806 * (x + 8).toNat + 52115)) : GW p l e room_1 s m #[Value.ref b] below meth c D cy z0 7 (lw_Z below #[Value.ref b] s) 441 [(4, .inl x), (3, .inr (.inr n3)), (2, .inr (.inr n2)), (1, .inr (.inr n1)), (0, .inr (.inr (b + 1)))] [] h (13 * x.toNat + 119) (806 * x.toNat + 52115) := by
  obtain ⟨F1, e2⟩ : ∃ z, Qask h n1 = z := ⟨_, rfl⟩
  have e3 : Qm 82 h n2 = F1 := (Eq.symm hT.1).trans e2
  refine g_aload_n C rfl 3 rfl dL_law_441 ?_
  refine g_aload_n C rfl 4 rfl dL_law_442 ?_
  refine g_iload C 0 rfl dL_law_443 ?_
  refine g_iconst C dL_law_445 ?_
  have f4 : (1 : Int) ≤ (x + 1) ∧ (x + 1) ≤ (4089 : Int) := ia_add fx (il 1) (by decide) (by decide)
  refine g_iadd C dL_law_446 ?_
  refine g_sld C hX hbl hbz ⟨by omega, by omega⟩ (by omega) dL_law_447 ?_
  have f5 : (-2147483648 : Int) ≤ (sx xs (x + 1)) ∧ (sx xs (x + 1)) ≤ (2147483647 : Int) := inR_of _
  refine g_aload_n C rfl 4 rfl dL_law_448 ?_
  refine g_iload C 0 rfl dL_law_449 ?_
  refine g_iconst C dL_law_451 ?_
  have f6 : (2 : Int) ≤ (x + 2) ∧ (x + 2) ≤ (4090 : Int) := ia_add fx (il 2) (by decide) (by decide)
  refine g_iadd C dL_law_452 ?_
  refine g_sld C hX hbl hbz ⟨by omega, by omega⟩ (by omega) dL_law_453 ?_
  have f7 : (-2147483648 : Int) ≤ (sx xs (x + 2)) ∧ (sx xs (x + 2)) ≤ (2147483647 : Int) := inR_of _
  refine g_aload_n C rfl 4 rfl dL_law_454 ?_
  refine g_iload C 0 rfl dL_law_455 ?_
  refine g_iconst C dL_law_457 ?_
  have f8 : (3 : Int) ≤ (x + 3) ∧ (x + 3) ≤ (4091 : Int) := ia_add fx (il 3) (by decide) (by decide)
  refine g_iadd C dL_law_458 ?_
  refine g_sld C hX hbl hbz ⟨by omega, by omega⟩ (by omega) dL_law_459 ?_
  have f9 : (-2147483648 : Int) ≤ (sx xs (x + 3)) ∧ (sx xs (x + 3)) ≤ (2147483647 : Int) := inR_of _
  refine g_aload_n C rfl 4 rfl dL_law_460 ?_
  refine g_iload C 0 rfl dL_law_461 ?_
  refine g_iconst C dL_law_463 ?_
  have f10 : (4 : Int) ≤ (x + 4) ∧ (x + 4) ≤ (4092 : Int) := ia_add fx (il 4) (by decide) (by decide)
  refine g_iadd C dL_law_464 ?_
  refine g_sld C hX hbl hbz ⟨by omega, by omega⟩ (by omega) dL_law_465 ?_
  have f11 : (-2147483648 : Int) ≤ (sx xs (x + 4)) ∧ (sx xs (x + 4)) ≤ (2147483647 : Int) := inR_of _
  refine g_aload_n C rfl 4 rfl dL_law_466 ?_
  refine g_iload C 0 rfl dL_law_467 ?_
  refine g_iconst C dL_law_469 ?_
  have f12 : (5 : Int) ≤ (x + 5) ∧ (x + 5) ≤ (4093 : Int) := ia_add fx (il 5) (by decide) (by decide)
  refine g_iadd C dL_law_470 ?_
  refine g_sld C hX hbl hbz ⟨by omega, by omega⟩ (by omega) dL_law_471 ?_
  have f13 : (-2147483648 : Int) ≤ (sx xs (x + 5)) ∧ (sx xs (x + 5)) ≤ (2147483647 : Int) := inR_of _
  refine g_aload_n C rfl 4 rfl dL_law_472 ?_
  refine g_iload C 0 rfl dL_law_473 ?_
  refine g_bipush C (by decide) dL_law_475 ?_
  have f14 : (6 : Int) ≤ (x + 6) ∧ (x + 6) ≤ (4094 : Int) := ia_add fx (il 6) (by decide) (by decide)
  refine g_iadd C dL_law_477 ?_
  refine g_sld C hX hbl hbz ⟨by omega, by omega⟩ (by omega) dL_law_478 ?_
  have f15 : (-2147483648 : Int) ≤ (sx xs (x + 6)) ∧ (sx xs (x + 6)) ≤ (2147483647 : Int) := inR_of _
  refine g_callI (st := []) (gc_V C lk_LandSurveyLaw_54 (k_X11_sight l D cy w z0 O tn1 f5 f7 f9 f11 f13 f15 pX) tn1 rfl rfl rfl ⟨by decide, by decide⟩ (Nat.le_of_ble_eq_true rfl) dL_law_479 ⟨(by show _ ≤ 601024; omega), (by show _ ≤ 7293034; omega)⟩) (fun r16 h17 f19 K18 => ?_)
  obtain ⟨O20, F21, f22, p23⟩ := K18
  refine g_pop C rfl dL_law_482 ?_
  refine g_aload_n C rfl 2 rfl dL_law_483 ?_
  refine g_aload_n C rfl 4 rfl dL_law_484 ?_
  refine g_iload C 0 rfl dL_law_485 ?_
  refine g_iconst C dL_law_487 ?_
  refine g_iadd C dL_law_488 ?_
  refine g_sld C hX hbl hbz ⟨by omega, by omega⟩ (by omega) dL_law_489 ?_
  refine g_aload_n C rfl 4 rfl dL_law_490 ?_
  refine g_iload C 0 rfl dL_law_491 ?_
  refine g_iconst C dL_law_493 ?_
  refine g_iadd C dL_law_494 ?_
  refine g_sld C hX hbl hbz ⟨by omega, by omega⟩ (by omega) dL_law_495 ?_
  refine g_aload_n C rfl 4 rfl dL_law_496 ?_
  refine g_iload C 0 rfl dL_law_497 ?_
  refine g_iconst C dL_law_499 ?_
  refine g_iadd C dL_law_500 ?_
  refine g_sld C hX hbl hbz ⟨by omega, by omega⟩ (by omega) dL_law_501 ?_
  refine g_aload_n C rfl 4 rfl dL_law_502 ?_
  refine g_iload C 0 rfl dL_law_503 ?_
  refine g_iconst C dL_law_505 ?_
  refine g_iadd C dL_law_506 ?_
  refine g_sld C hX hbl hbz ⟨by omega, by omega⟩ (by omega) dL_law_507 ?_
  refine g_aload_n C rfl 4 rfl dL_law_508 ?_
  refine g_iload C 0 rfl dL_law_509 ?_
  refine g_iconst C dL_law_511 ?_
  refine g_iadd C dL_law_512 ?_
  refine g_sld C hX hbl hbz ⟨by omega, by omega⟩ (by omega) dL_law_513 ?_
  refine g_aload_n C rfl 4 rfl dL_law_514 ?_
  refine g_iload C 0 rfl dL_law_515 ?_
  refine g_bipush C (by decide) dL_law_517 ?_
  refine g_iadd C dL_law_519 ?_
  refine g_sld C hX hbl hbz ⟨by omega, by omega⟩ (by omega) dL_law_520 ?_
  have e24 : Tg h17 n2 = 12 := (fxT F21 tn2)
  refine g_callI (st := []) (gc_V C lk_LandSurveyLaw_58 (k_X12_sight l D cy w z0 O20 e24 f5 f7 f9 f11 f13 f15) e24 rfl rfl rfl ⟨by decide, by decide⟩ (Nat.le_of_ble_eq_true rfl) dL_law_521 ⟨(by show _ ≤ 601024; omega), (by show _ ≤ 7293034; omega)⟩) (fun r25 h26 f28 K27 => ?_)
  obtain ⟨O29, F30, f31⟩ := K27
  refine g_pop C rfl dL_law_524 ?_
  refine g_goto C 1896 (by decide) dL_law_525 ?_
  have f32 : (8 : Int) ≤ (x + 8) ∧ (x + 8) ≤ (4096 : Int) := ia_add fx (il 8) (by decide) (by decide)
  refine g_iinc C [(4, .inl (x + 8)), (3, .inr (.inr n3)), (2, .inr (.inr n2)), (1, .inr (.inr n1)), (0, .inr (.inr (b + 1)))] 0 rfl (by decide) rfl dL_law_1896 ?_
  refine g_goto C 23 (by decide) dL_law_1899 ?_
  refine GW.sub [0, 1, 2, 3, 4] rfl ?_
  refine GW.widen (by omega : _ ≤ 13 * (x + 8).toNat + 119) (by omega : _ ≤ 806 * (x + 8).toNat + 52115) ?_
  have e33 : Qask h17 n1 = F1 := Eq.trans (show Qask h17 n1 = Qask h n1 from (Qask_fx O F21 tn1 rfl)) e2
  have e35 : Tg h17 n1 = 11 := (fxT F21 tn1)
  have e34 : Qask h26 n1 = F1 := Eq.trans (show Qask h26 n1 = Qask h17 n1 from (Qask_fx O20 F30 e35 rfl)) e33
  have e36 : Qm 82 h17 n2 = F1 := Eq.trans (show Qm 82 h17 n2 = Qm 82 h n2 from (mAI (j := 82) O F21 tn2 rE_12_82 ar_182101 rfl rfl)) e3
  have e37 : Qm 82 h26 n2 = F1 := Eq.trans (show Qm 82 h26 n2 = Qm 82 h17 n2 from (mAI (j := 82) O20 F30 e24 rE_12_82 ar_182101 rfl rfl)) e36
  have p38 := (ASK_fx O20 F30 e35 rfl (ASK_fx O F21 tn1 rfl hT.2))
  have p39 := (XInv_fx O20 F30 e35 rfl p23)
  have p40 := (MInv_fx O20 F30 e24 rfl (MInv_fx O F21 tn2 rfl pM))
  have e41 : Tg h26 n1 = 11 := (fxT F30 e35)
  have e42 : Tg h26 n2 = 12 := (fxT F30 e24)
  have e43 : Tg h26 n3 = 99102 := (fxT F30 (fxT F21 tn3))
  have e44 : Tg h17 n3 = 99102 := (fxT F21 tn3)
  have e45 : Ln h26 n3 = 1 := ((fxL F30 e44).trans ((fxL F21 tn3).trans ln3))
  exact IH _ O29 e41 e42 e43 e45 p39 p40 ⟨(e34.trans (Eq.symm e37)), p38⟩
set_option maxRecDepth 100000 in
set_option maxHeartbeats 8000000 in
theorem law_c6 (l : Launch) (hst : l.stackTraces = false) {p : Program} {e : Env} {s : State} {m : MethodId} {below : List Frame} {meth : Method} {c : Code} {D : va_G} {cy : Nat → ClassId} {w : Nat → Nat} {z0 b L : Nat} {xs : Nat → Int32} {h : Hp} {x : Int} {n1 n2 n3 : Nat} (C : Cx p l room_1 s m #[Value.ref b] meth c D cy z0 7 cL_law "LandSurveyLaw" w) (hr : meth.sig.returnType = ret) (hX : va_X b L xs s s.heap) (hbl : b < s.heap.size) (hbz : b < z0) (hzs : s.heap.size ≤ z0) (hL : L ≤ 4096) (fx : 0 ≤ x ∧ x ≤ 4088) (hq : x ≤ (L : Int) - 8) (O : Okh h) (tn1 : Tg h n1 = 11) (tn2 : Tg h n2 = 12) (tn3 : Tg h n3 = 99102) (ln3 : Ln h n3 = 1) (pX : XInv h n1) (pM : MInv h n2) (hT : Qask h n1 = Qm 82 h n2 ∧ ASK h n1) (IH : ∀ (h1 : Hp), Okh h1 → Tg h1 n1 = 11 → Tg h1 n2 = 12 → Tg h1 n3 = 99102 → Ln h1 n3 = 1 → XInv h1 n1 → MInv h1 n2 → Qask h1 n1 = Qm 82 h1 n2 ∧ ASK h1 n1 → GW p l e room_1 s m #[Value.ref b] below meth c D cy z0 7 (lw_Z below #[Value.ref b] s) 23 [(4, .inl (x + 8)), (3, .inr (.inr n3)), (2, .inr (.inr n2)), (1, .inr (.inr n1)), (0, .inr (.inr (b + 1)))] [] h1 (13 * (x + 8).toNat + 119) (806 * (x + 8).toNat + 52115)) : GW p l e room_1 s m #[Value.ref b] below meth c D cy z0 7 (lw_Z below #[Value.ref b] s) 528 [(4, .inl x), (3, .inr (.inr n3)), (2, .inr (.inr n2)), (1, .inr (.inr n1)), (0, .inr (.inr (b + 1)))] [] h (13 * x.toNat + 119) (806 * x.toNat + 52115) := by
  obtain ⟨F1, e2⟩ : ∃ z, Qask h n1 = z := ⟨_, rfl⟩
  have e3 : Qm 82 h n2 = F1 := (Eq.symm hT.1).trans e2
  refine g_aload_n C rfl 3 rfl dL_law_528 ?_
  refine g_aload_n C rfl 4 rfl dL_law_529 ?_
  refine g_iload C 0 rfl dL_law_530 ?_
  refine g_iconst C dL_law_532 ?_
  have f4 : (1 : Int) ≤ (x + 1) ∧ (x + 1) ≤ (4089 : Int) := ia_add fx (il 1) (by decide) (by decide)
  refine g_iadd C dL_law_533 ?_
  refine g_sld C hX hbl hbz ⟨by omega, by omega⟩ (by omega) dL_law_534 ?_
  have f5 : (-2147483648 : Int) ≤ (sx xs (x + 1)) ∧ (sx xs (x + 1)) ≤ (2147483647 : Int) := inR_of _
  refine g_aload_n C rfl 4 rfl dL_law_535 ?_
  refine g_iload C 0 rfl dL_law_536 ?_
  refine g_iconst C dL_law_538 ?_
  have f6 : (2 : Int) ≤ (x + 2) ∧ (x + 2) ≤ (4090 : Int) := ia_add fx (il 2) (by decide) (by decide)
  refine g_iadd C dL_law_539 ?_
  refine g_sld C hX hbl hbz ⟨by omega, by omega⟩ (by omega) dL_law_540 ?_
  have f7 : (-2147483648 : Int) ≤ (sx xs (x + 2)) ∧ (sx xs (x + 2)) ≤ (2147483647 : Int) := inR_of _
  refine g_aload_n C rfl 4 rfl dL_law_541 ?_
  refine g_iload C 0 rfl dL_law_542 ?_
  refine g_iconst C dL_law_544 ?_
  have f8 : (3 : Int) ≤ (x + 3) ∧ (x + 3) ≤ (4091 : Int) := ia_add fx (il 3) (by decide) (by decide)
  refine g_iadd C dL_law_545 ?_
  refine g_sld C hX hbl hbz ⟨by omega, by omega⟩ (by omega) dL_law_546 ?_
  have f9 : (-2147483648 : Int) ≤ (sx xs (x + 3)) ∧ (sx xs (x + 3)) ≤ (2147483647 : Int) := inR_of _
  refine g_aload_n C rfl 4 rfl dL_law_547 ?_
  refine g_iload C 0 rfl dL_law_548 ?_
  refine g_iconst C dL_law_550 ?_
  have f10 : (4 : Int) ≤ (x + 4) ∧ (x + 4) ≤ (4092 : Int) := ia_add fx (il 4) (by decide) (by decide)
  refine g_iadd C dL_law_551 ?_
  refine g_sld C hX hbl hbz ⟨by omega, by omega⟩ (by omega) dL_law_552 ?_
  have f11 : (-2147483648 : Int) ≤ (sx xs (x + 4)) ∧ (sx xs (x + 4)) ≤ (2147483647 : Int) := inR_of _
  refine g_callI (st := []) (gc_V C lk_LandSurveyLaw_59 (k_X11_dip l D cy w z0 O tn1 f5 f7 f9 f11 pX) tn1 rfl rfl rfl ⟨by decide, by decide⟩ (Nat.le_of_ble_eq_true rfl) dL_law_553 ⟨(by show _ ≤ 601024; omega), (by show _ ≤ 7293034; omega)⟩) (fun r12 h13 f15 K14 => ?_)
  obtain ⟨O16, F17, f18, p19⟩ := K14
  refine g_pop C rfl dL_law_556 ?_
  refine g_aload_n C rfl 2 rfl dL_law_557 ?_
  refine g_aload_n C rfl 4 rfl dL_law_558 ?_
  refine g_iload C 0 rfl dL_law_559 ?_
  refine g_iconst C dL_law_561 ?_
  refine g_iadd C dL_law_562 ?_
  refine g_sld C hX hbl hbz ⟨by omega, by omega⟩ (by omega) dL_law_563 ?_
  refine g_aload_n C rfl 4 rfl dL_law_564 ?_
  refine g_iload C 0 rfl dL_law_565 ?_
  refine g_iconst C dL_law_567 ?_
  refine g_iadd C dL_law_568 ?_
  refine g_sld C hX hbl hbz ⟨by omega, by omega⟩ (by omega) dL_law_569 ?_
  refine g_aload_n C rfl 4 rfl dL_law_570 ?_
  refine g_iload C 0 rfl dL_law_571 ?_
  refine g_iconst C dL_law_573 ?_
  refine g_iadd C dL_law_574 ?_
  refine g_sld C hX hbl hbz ⟨by omega, by omega⟩ (by omega) dL_law_575 ?_
  refine g_aload_n C rfl 4 rfl dL_law_576 ?_
  refine g_iload C 0 rfl dL_law_577 ?_
  refine g_iconst C dL_law_579 ?_
  refine g_iadd C dL_law_580 ?_
  refine g_sld C hX hbl hbz ⟨by omega, by omega⟩ (by omega) dL_law_581 ?_
  have e20 : Tg h13 n2 = 12 := (fxT F17 tn2)
  refine g_callI (st := []) (gc_V C lk_LandSurveyLaw_63 (k_X12_dip l D cy w z0 O16 e20 f5 f7 f9 f11) e20 rfl rfl rfl ⟨by decide, by decide⟩ (Nat.le_of_ble_eq_true rfl) dL_law_582 ⟨(by show _ ≤ 601024; omega), (by show _ ≤ 7293034; omega)⟩) (fun r21 h22 f24 K23 => ?_)
  obtain ⟨O25, F26, f27⟩ := K23
  refine g_pop C rfl dL_law_585 ?_
  refine g_goto C 1896 (by decide) dL_law_586 ?_
  have f28 : (8 : Int) ≤ (x + 8) ∧ (x + 8) ≤ (4096 : Int) := ia_add fx (il 8) (by decide) (by decide)
  refine g_iinc C [(4, .inl (x + 8)), (3, .inr (.inr n3)), (2, .inr (.inr n2)), (1, .inr (.inr n1)), (0, .inr (.inr (b + 1)))] 0 rfl (by decide) rfl dL_law_1896 ?_
  refine g_goto C 23 (by decide) dL_law_1899 ?_
  refine GW.sub [0, 1, 2, 3, 4] rfl ?_
  refine GW.widen (by omega : _ ≤ 13 * (x + 8).toNat + 119) (by omega : _ ≤ 806 * (x + 8).toNat + 52115) ?_
  have e29 : Qask h13 n1 = F1 := Eq.trans (show Qask h13 n1 = Qask h n1 from (Qask_fx O F17 tn1 rfl)) e2
  have e31 : Tg h13 n1 = 11 := (fxT F17 tn1)
  have e30 : Qask h22 n1 = F1 := Eq.trans (show Qask h22 n1 = Qask h13 n1 from (Qask_fx O16 F26 e31 rfl)) e29
  have e32 : Qm 82 h13 n2 = F1 := Eq.trans (show Qm 82 h13 n2 = Qm 82 h n2 from (mAI (j := 82) O F17 tn2 rE_12_82 ar_182101 rfl rfl)) e3
  have e33 : Qm 82 h22 n2 = F1 := Eq.trans (show Qm 82 h22 n2 = Qm 82 h13 n2 from (mAI (j := 82) O16 F26 e20 rE_12_82 ar_182101 rfl rfl)) e32
  have p34 := (ASK_fx O16 F26 e31 rfl (ASK_fx O F17 tn1 rfl hT.2))
  have p35 := (XInv_fx O16 F26 e31 rfl p19)
  have p36 := (MInv_fx O16 F26 e20 rfl (MInv_fx O F17 tn2 rfl pM))
  have e37 : Tg h22 n1 = 11 := (fxT F26 e31)
  have e38 : Tg h22 n2 = 12 := (fxT F26 e20)
  have e39 : Tg h22 n3 = 99102 := (fxT F26 (fxT F17 tn3))
  have e40 : Tg h13 n3 = 99102 := (fxT F17 tn3)
  have e41 : Ln h22 n3 = 1 := ((fxL F26 e40).trans ((fxL F17 tn3).trans ln3))
  exact IH _ O25 e37 e38 e39 e41 p35 p36 ⟨(e30.trans (Eq.symm e33)), p34⟩
set_option maxRecDepth 100000 in
set_option maxHeartbeats 8000000 in
theorem law_c7 (l : Launch) (hst : l.stackTraces = false) {p : Program} {e : Env} {s : State} {m : MethodId} {below : List Frame} {meth : Method} {c : Code} {D : va_G} {cy : Nat → ClassId} {w : Nat → Nat} {z0 b L : Nat} {xs : Nat → Int32} {h : Hp} {x : Int} {n1 n2 n3 : Nat} (C : Cx p l room_1 s m #[Value.ref b] meth c D cy z0 7 cL_law "LandSurveyLaw" w) (hr : meth.sig.returnType = ret) (hX : va_X b L xs s s.heap) (hbl : b < s.heap.size) (hbz : b < z0) (hzs : s.heap.size ≤ z0) (hL : L ≤ 4096) (fx : 0 ≤ x ∧ x ≤ 4088) (hq : x ≤ (L : Int) - 8) (O : Okh h) (tn1 : Tg h n1 = 11) (tn2 : Tg h n2 = 12) (tn3 : Tg h n3 = 99102) (ln3 : Ln h n3 = 1) (pX : XInv h n1) (pM : MInv h n2) (hT : Qask h n1 = Qm 82 h n2 ∧ ASK h n1) (IH : ∀ (h1 : Hp), Okh h1 → Tg h1 n1 = 11 → Tg h1 n2 = 12 → Tg h1 n3 = 99102 → Ln h1 n3 = 1 → XInv h1 n1 → MInv h1 n2 → Qask h1 n1 = Qm 82 h1 n2 ∧ ASK h1 n1 → GW p l e room_1 s m #[Value.ref b] below meth c D cy z0 7 (lw_Z below #[Value.ref b] s) 23 [(4, .inl (x + 8)), (3, .inr (.inr n3)), (2, .inr (.inr n2)), (1, .inr (.inr n1)), (0, .inr (.inr (b + 1)))] [] h1 (13 * (x + 8).toNat + 119) (806 * (x + 8).toNat + 52115)) : GW p l e room_1 s m #[Value.ref b] below meth c D cy z0 7 (lw_Z below #[Value.ref b] s) 589 [(4, .inl x), (3, .inr (.inr n3)), (2, .inr (.inr n2)), (1, .inr (.inr n1)), (0, .inr (.inr (b + 1)))] [] h (13 * x.toNat + 119) (806 * x.toNat + 52115) := by
  obtain ⟨F1, e2⟩ : ∃ z, Qask h n1 = z := ⟨_, rfl⟩
  have e3 : Qm 82 h n2 = F1 := (Eq.symm hT.1).trans e2
  refine g_aload_n C rfl 3 rfl dL_law_589 ?_
  refine g_aload_n C rfl 4 rfl dL_law_590 ?_
  refine g_iload C 0 rfl dL_law_591 ?_
  refine g_iconst C dL_law_593 ?_
  have f4 : (1 : Int) ≤ (x + 1) ∧ (x + 1) ≤ (4089 : Int) := ia_add fx (il 1) (by decide) (by decide)
  refine g_iadd C dL_law_594 ?_
  refine g_sld C hX hbl hbz ⟨by omega, by omega⟩ (by omega) dL_law_595 ?_
  have f5 : (-2147483648 : Int) ≤ (sx xs (x + 1)) ∧ (sx xs (x + 1)) ≤ (2147483647 : Int) := inR_of _
  refine g_aload_n C rfl 4 rfl dL_law_596 ?_
  refine g_iload C 0 rfl dL_law_597 ?_
  refine g_iconst C dL_law_599 ?_
  have f6 : (2 : Int) ≤ (x + 2) ∧ (x + 2) ≤ (4090 : Int) := ia_add fx (il 2) (by decide) (by decide)
  refine g_iadd C dL_law_600 ?_
  refine g_sld C hX hbl hbz ⟨by omega, by omega⟩ (by omega) dL_law_601 ?_
  have f7 : (-2147483648 : Int) ≤ (sx xs (x + 2)) ∧ (sx xs (x + 2)) ≤ (2147483647 : Int) := inR_of _
  refine g_aload_n C rfl 4 rfl dL_law_602 ?_
  refine g_iload C 0 rfl dL_law_603 ?_
  refine g_iconst C dL_law_605 ?_
  have f8 : (3 : Int) ≤ (x + 3) ∧ (x + 3) ≤ (4091 : Int) := ia_add fx (il 3) (by decide) (by decide)
  refine g_iadd C dL_law_606 ?_
  refine g_sld C hX hbl hbz ⟨by omega, by omega⟩ (by omega) dL_law_607 ?_
  have f9 : (-2147483648 : Int) ≤ (sx xs (x + 3)) ∧ (sx xs (x + 3)) ≤ (2147483647 : Int) := inR_of _
  refine g_if_eq C f9 615 (by decide) dL_law_608 (fun q10 => ?_) (fun q11 => ?_)
  · have f12 : (0 : Int) ≤ (sx xs (x + 3)) ∧ (sx xs (x + 3)) ≤ (0 : Int) := ii f9 (r_eq (il 0) q10) (by decide) (by decide)
    refine g_iconst C dL_law_615 ?_
    refine g_callI (st := []) (gc_V C lk_LandSurveyLaw_64 (k_X11_remain l D cy w z0 O tn1 f5 f7 (iw (il 0) (by decide) (by decide)) pX) tn1 rfl rfl rfl ⟨by decide, by decide⟩ (Nat.le_of_ble_eq_true rfl) dL_law_616 ⟨(by show _ ≤ 601024; omega), (by show _ ≤ 7293034; omega)⟩) (fun r13 h14 f16 K15 => ?_)
    obtain ⟨O17, F18, f19, p20⟩ := K15
    refine g_pop C rfl dL_law_619 ?_
    refine g_aload_n C rfl 2 rfl dL_law_620 ?_
    refine g_aload_n C rfl 4 rfl dL_law_621 ?_
    refine g_iload C 0 rfl dL_law_622 ?_
    refine g_iconst C dL_law_624 ?_
    refine g_iadd C dL_law_625 ?_
    refine g_sld C hX hbl hbz ⟨by omega, by omega⟩ (by omega) dL_law_626 ?_
    refine g_aload_n C rfl 4 rfl dL_law_627 ?_
    refine g_iload C 0 rfl dL_law_628 ?_
    refine g_iconst C dL_law_630 ?_
    refine g_iadd C dL_law_631 ?_
    refine g_sld C hX hbl hbz ⟨by omega, by omega⟩ (by omega) dL_law_632 ?_
    refine g_aload_n C rfl 4 rfl dL_law_633 ?_
    refine g_iload C 0 rfl dL_law_634 ?_
    refine g_iconst C dL_law_636 ?_
    refine g_iadd C dL_law_637 ?_
    refine g_sld C hX hbl hbz ⟨by omega, by omega⟩ (by omega) dL_law_638 ?_
    refine g_if_eq C (iw f12 (by decide) (by decide)) 646 (by decide) dL_law_639 (fun q21 => ?_) (fun q22 => ?_)
    · refine g_iconst C dL_law_646 ?_
      have e23 : Tg h14 n2 = 12 := (fxT F18 tn2)
      refine g_callI (st := []) (gc_V C lk_LandSurveyLaw_67 (k_X12_remain l D cy w z0 O17 e23 f5 f7 (iw (il 0) (by decide) (by decide))) e23 rfl rfl rfl ⟨by decide, by decide⟩ (Nat.le_of_ble_eq_true rfl) dL_law_647 ⟨(by show _ ≤ 601024; omega), (by show _ ≤ 7293034; omega)⟩) (fun r24 h25 f27 K26 => ?_)
      obtain ⟨O28, F29, f30⟩ := K26
      refine g_pop C rfl dL_law_650 ?_
      refine g_goto C 1896 (by decide) dL_law_651 ?_
      have f31 : (8 : Int) ≤ (x + 8) ∧ (x + 8) ≤ (4096 : Int) := ia_add fx (il 8) (by decide) (by decide)
      refine g_iinc C [(4, .inl (x + 8)), (3, .inr (.inr n3)), (2, .inr (.inr n2)), (1, .inr (.inr n1)), (0, .inr (.inr (b + 1)))] 0 rfl (by decide) rfl dL_law_1896 ?_
      refine g_goto C 23 (by decide) dL_law_1899 ?_
      refine GW.sub [0, 1, 2, 3, 4] rfl ?_
      refine GW.widen (by omega : _ ≤ 13 * (x + 8).toNat + 119) (by omega : _ ≤ 806 * (x + 8).toNat + 52115) ?_
      have e32 : Qask h14 n1 = F1 := Eq.trans (show Qask h14 n1 = Qask h n1 from (Qask_fx O F18 tn1 rfl)) e2
      have e34 : Tg h14 n1 = 11 := (fxT F18 tn1)
      have e33 : Qask h25 n1 = F1 := Eq.trans (show Qask h25 n1 = Qask h14 n1 from (Qask_fx O17 F29 e34 rfl)) e32
      have e35 : Qm 82 h14 n2 = F1 := Eq.trans (show Qm 82 h14 n2 = Qm 82 h n2 from (mAI (j := 82) O F18 tn2 rE_12_82 ar_182101 rfl rfl)) e3
      have e36 : Qm 82 h25 n2 = F1 := Eq.trans (show Qm 82 h25 n2 = Qm 82 h14 n2 from (mAI (j := 82) O17 F29 e23 rE_12_82 ar_182101 rfl rfl)) e35
      have p37 := (ASK_fx O17 F29 e34 rfl (ASK_fx O F18 tn1 rfl hT.2))
      have p38 := (XInv_fx O17 F29 e34 rfl p20)
      have p39 := (MInv_fx O17 F29 e23 rfl (MInv_fx O F18 tn2 rfl pM))
      have e40 : Tg h25 n1 = 11 := (fxT F29 e34)
      have e41 : Tg h25 n2 = 12 := (fxT F29 e23)
      have e42 : Tg h25 n3 = 99102 := (fxT F29 (fxT F18 tn3))
      have e43 : Tg h14 n3 = 99102 := (fxT F18 tn3)
      have e44 : Ln h25 n3 = 1 := ((fxL F29 e43).trans ((fxL F18 tn3).trans ln3))
      exact IH _ O28 e40 e41 e42 e44 p38 p39 ⟨(e33.trans (Eq.symm e36)), p37⟩
    · exact (no_ne f12 (il 0) q22 (by decide)).elim
  · refine g_iconst C dL_law_611 ?_
    refine g_goto C 616 (by decide) dL_law_612 ?_
    refine g_callI (st := []) (gc_V C lk_LandSurveyLaw_64 (k_X11_remain l D cy w z0 O tn1 f5 f7 (iw (il 1) (by decide) (by decide)) pX) tn1 rfl rfl rfl ⟨by decide, by decide⟩ (Nat.le_of_ble_eq_true rfl) dL_law_616 ⟨(by show _ ≤ 601024; omega), (by show _ ≤ 7293034; omega)⟩) (fun r45 h46 f48 K47 => ?_)
    obtain ⟨O49, F50, f51, p52⟩ := K47
    refine g_pop C rfl dL_law_619 ?_
    refine g_aload_n C rfl 2 rfl dL_law_620 ?_
    refine g_aload_n C rfl 4 rfl dL_law_621 ?_
    refine g_iload C 0 rfl dL_law_622 ?_
    refine g_iconst C dL_law_624 ?_
    refine g_iadd C dL_law_625 ?_
    refine g_sld C hX hbl hbz ⟨by omega, by omega⟩ (by omega) dL_law_626 ?_
    refine g_aload_n C rfl 4 rfl dL_law_627 ?_
    refine g_iload C 0 rfl dL_law_628 ?_
    refine g_iconst C dL_law_630 ?_
    refine g_iadd C dL_law_631 ?_
    refine g_sld C hX hbl hbz ⟨by omega, by omega⟩ (by omega) dL_law_632 ?_
    refine g_aload_n C rfl 4 rfl dL_law_633 ?_
    refine g_iload C 0 rfl dL_law_634 ?_
    refine g_iconst C dL_law_636 ?_
    refine g_iadd C dL_law_637 ?_
    refine g_sld C hX hbl hbz ⟨by omega, by omega⟩ (by omega) dL_law_638 ?_
    refine g_if_eq C f9 646 (by decide) dL_law_639 (fun q53 => ?_) (fun q54 => ?_)
    · have f55 : (0 : Int) ≤ (sx xs (x + 3)) ∧ (sx xs (x + 3)) ≤ (0 : Int) := ii f9 (r_eq (il 0) q53) (by decide) (by decide)
      refine g_iconst C dL_law_646 ?_
      have e56 : Tg h46 n2 = 12 := (fxT F50 tn2)
      refine g_callI (st := []) (gc_V C lk_LandSurveyLaw_67 (k_X12_remain l D cy w z0 O49 e56 f5 f7 (iw (il 0) (by decide) (by decide))) e56 rfl rfl rfl ⟨by decide, by decide⟩ (Nat.le_of_ble_eq_true rfl) dL_law_647 ⟨(by show _ ≤ 601024; omega), (by show _ ≤ 7293034; omega)⟩) (fun r57 h58 f60 K59 => ?_)
      obtain ⟨O61, F62, f63⟩ := K59
      refine g_pop C rfl dL_law_650 ?_
      refine g_goto C 1896 (by decide) dL_law_651 ?_
      have f64 : (8 : Int) ≤ (x + 8) ∧ (x + 8) ≤ (4096 : Int) := ia_add fx (il 8) (by decide) (by decide)
      refine g_iinc C [(4, .inl (x + 8)), (3, .inr (.inr n3)), (2, .inr (.inr n2)), (1, .inr (.inr n1)), (0, .inr (.inr (b + 1)))] 0 rfl (by decide) rfl dL_law_1896 ?_
      refine g_goto C 23 (by decide) dL_law_1899 ?_
      refine GW.sub [0, 1, 2, 3, 4] rfl ?_
      refine GW.widen (by omega : _ ≤ 13 * (x + 8).toNat + 119) (by omega : _ ≤ 806 * (x + 8).toNat + 52115) ?_
      have e65 : Qask h46 n1 = F1 := Eq.trans (show Qask h46 n1 = Qask h n1 from (Qask_fx O F50 tn1 rfl)) e2
      have e67 : Tg h46 n1 = 11 := (fxT F50 tn1)
      have e66 : Qask h58 n1 = F1 := Eq.trans (show Qask h58 n1 = Qask h46 n1 from (Qask_fx O49 F62 e67 rfl)) e65
      have e68 : Qm 82 h46 n2 = F1 := Eq.trans (show Qm 82 h46 n2 = Qm 82 h n2 from (mAI (j := 82) O F50 tn2 rE_12_82 ar_182101 rfl rfl)) e3
      have e69 : Qm 82 h58 n2 = F1 := Eq.trans (show Qm 82 h58 n2 = Qm 82 h46 n2 from (mAI (j := 82) O49 F62 e56 rE_12_82 ar_182101 rfl rfl)) e68
      have p70 := (ASK_fx O49 F62 e67 rfl (ASK_fx O F50 tn1 rfl hT.2))
      have p71 := (XInv_fx O49 F62 e67 rfl p52)
      have p72 := (MInv_fx O49 F62 e56 rfl (MInv_fx O F50 tn2 rfl pM))
      have e73 : Tg h58 n1 = 11 := (fxT F62 e67)
      have e74 : Tg h58 n2 = 12 := (fxT F62 e56)
      have e75 : Tg h58 n3 = 99102 := (fxT F62 (fxT F50 tn3))
      have e76 : Tg h46 n3 = 99102 := (fxT F50 tn3)
      have e77 : Ln h58 n3 = 1 := ((fxL F62 e76).trans ((fxL F50 tn3).trans ln3))
      exact IH _ O61 e73 e74 e75 e77 p71 p72 ⟨(e66.trans (Eq.symm e69)), p70⟩
    · refine g_iconst C dL_law_642 ?_
      refine g_goto C 647 (by decide) dL_law_643 ?_
      have e78 : Tg h46 n2 = 12 := (fxT F50 tn2)
      refine g_callI (st := []) (gc_V C lk_LandSurveyLaw_67 (k_X12_remain l D cy w z0 O49 e78 f5 f7 (iw (il 1) (by decide) (by decide))) e78 rfl rfl rfl ⟨by decide, by decide⟩ (Nat.le_of_ble_eq_true rfl) dL_law_647 ⟨(by show _ ≤ 601024; omega), (by show _ ≤ 7293034; omega)⟩) (fun r79 h80 f82 K81 => ?_)
      obtain ⟨O83, F84, f85⟩ := K81
      refine g_pop C rfl dL_law_650 ?_
      refine g_goto C 1896 (by decide) dL_law_651 ?_
      have f86 : (8 : Int) ≤ (x + 8) ∧ (x + 8) ≤ (4096 : Int) := ia_add fx (il 8) (by decide) (by decide)
      refine g_iinc C [(4, .inl (x + 8)), (3, .inr (.inr n3)), (2, .inr (.inr n2)), (1, .inr (.inr n1)), (0, .inr (.inr (b + 1)))] 0 rfl (by decide) rfl dL_law_1896 ?_
      refine g_goto C 23 (by decide) dL_law_1899 ?_
      refine GW.sub [0, 1, 2, 3, 4] rfl ?_
      refine GW.widen (by omega : _ ≤ 13 * (x + 8).toNat + 119) (by omega : _ ≤ 806 * (x + 8).toNat + 52115) ?_
      have e87 : Qask h46 n1 = F1 := Eq.trans (show Qask h46 n1 = Qask h n1 from (Qask_fx O F50 tn1 rfl)) e2
      have e89 : Tg h46 n1 = 11 := (fxT F50 tn1)
      have e88 : Qask h80 n1 = F1 := Eq.trans (show Qask h80 n1 = Qask h46 n1 from (Qask_fx O49 F84 e89 rfl)) e87
      have e90 : Qm 82 h46 n2 = F1 := Eq.trans (show Qm 82 h46 n2 = Qm 82 h n2 from (mAI (j := 82) O F50 tn2 rE_12_82 ar_182101 rfl rfl)) e3
      have e91 : Qm 82 h80 n2 = F1 := Eq.trans (show Qm 82 h80 n2 = Qm 82 h46 n2 from (mAI (j := 82) O49 F84 e78 rE_12_82 ar_182101 rfl rfl)) e90
      have p92 := (ASK_fx O49 F84 e89 rfl (ASK_fx O F50 tn1 rfl hT.2))
      have p93 := (XInv_fx O49 F84 e89 rfl p52)
      have p94 := (MInv_fx O49 F84 e78 rfl (MInv_fx O F50 tn2 rfl pM))
      have e95 : Tg h80 n1 = 11 := (fxT F84 e89)
      have e96 : Tg h80 n2 = 12 := (fxT F84 e78)
      have e97 : Tg h80 n3 = 99102 := (fxT F84 (fxT F50 tn3))
      have e98 : Tg h46 n3 = 99102 := (fxT F50 tn3)
      have e99 : Ln h80 n3 = 1 := ((fxL F84 e98).trans ((fxL F50 tn3).trans ln3))
      exact IH _ O83 e95 e96 e97 e99 p93 p94 ⟨(e88.trans (Eq.symm e91)), p92⟩
set_option maxRecDepth 100000 in
set_option maxHeartbeats 8000000 in
theorem law_c8 (l : Launch) (hst : l.stackTraces = false) {p : Program} {e : Env} {s : State} {m : MethodId} {below : List Frame} {meth : Method} {c : Code} {D : va_G} {cy : Nat → ClassId} {w : Nat → Nat} {z0 b L : Nat} {xs : Nat → Int32} {h : Hp} {x : Int} {n1 n2 n3 : Nat} (C : Cx p l room_1 s m #[Value.ref b] meth c D cy z0 7 cL_law "LandSurveyLaw" w) (hr : meth.sig.returnType = ret) (hX : va_X b L xs s s.heap) (hbl : b < s.heap.size) (hbz : b < z0) (hzs : s.heap.size ≤ z0) (hL : L ≤ 4096) (fx : 0 ≤ x ∧ x ≤ 4088) (hq : x ≤ (L : Int) - 8) (O : Okh h) (tn1 : Tg h n1 = 11) (tn2 : Tg h n2 = 12) (tn3 : Tg h n3 = 99102) (ln3 : Ln h n3 = 1) (pX : XInv h n1) (pM : MInv h n2) (hT : Qask h n1 = Qm 82 h n2 ∧ ASK h n1) (IH : ∀ (h1 : Hp), Okh h1 → Tg h1 n1 = 11 → Tg h1 n2 = 12 → Tg h1 n3 = 99102 → Ln h1 n3 = 1 → XInv h1 n1 → MInv h1 n2 → Qask h1 n1 = Qm 82 h1 n2 ∧ ASK h1 n1 → GW p l e room_1 s m #[Value.ref b] below meth c D cy z0 7 (lw_Z below #[Value.ref b] s) 23 [(4, .inl (x + 8)), (3, .inr (.inr n3)), (2, .inr (.inr n2)), (1, .inr (.inr n1)), (0, .inr (.inr (b + 1)))] [] h1 (13 * (x + 8).toNat + 119) (806 * (x + 8).toNat + 52115)) : GW p l e room_1 s m #[Value.ref b] below meth c D cy z0 7 (lw_Z below #[Value.ref b] s) 654 [(4, .inl x), (3, .inr (.inr n3)), (2, .inr (.inr n2)), (1, .inr (.inr n1)), (0, .inr (.inr (b + 1)))] [] h (13 * x.toNat + 119) (806 * x.toNat + 52115) := by
  obtain ⟨F1, e2⟩ : ∃ z, Qask h n1 = z := ⟨_, rfl⟩
  have e3 : Qm 82 h n2 = F1 := (Eq.symm hT.1).trans e2
  refine g_aload_n C rfl 3 rfl dL_law_654 ?_
  refine g_aload_n C rfl 4 rfl dL_law_655 ?_
  refine g_iload C 0 rfl dL_law_656 ?_
  refine g_iconst C dL_law_658 ?_
  have f4 : (1 : Int) ≤ (x + 1) ∧ (x + 1) ≤ (4089 : Int) := ia_add fx (il 1) (by decide) (by decide)
  refine g_iadd C dL_law_659 ?_
  refine g_sld C hX hbl hbz ⟨by omega, by omega⟩ (by omega) dL_law_660 ?_
  have f5 : (-2147483648 : Int) ≤ (sx xs (x + 1)) ∧ (sx xs (x + 1)) ≤ (2147483647 : Int) := inR_of _
  refine g_callI (st := []) (gc_V C lk_LandSurveyLaw_68 (k_X11_withdraw l D cy w z0 O tn1 f5 pX) tn1 rfl rfl rfl ⟨by decide, by decide⟩ (Nat.le_of_ble_eq_true rfl) dL_law_661 ⟨(by show _ ≤ 601024; omega), (by show _ ≤ 7293034; omega)⟩) (fun r6 h7 f9 K8 => ?_)
  obtain ⟨O10, F11, f12, p13⟩ := K8
  refine g_pop C rfl dL_law_664 ?_
  refine g_aload_n C rfl 2 rfl dL_law_665 ?_
  refine g_aload_n C rfl 4 rfl dL_law_666 ?_
  refine g_iload C 0 rfl dL_law_667 ?_
  refine g_iconst C dL_law_669 ?_
  refine g_iadd C dL_law_670 ?_
  refine g_sld C hX hbl hbz ⟨by omega, by omega⟩ (by omega) dL_law_671 ?_
  have e14 : Tg h7 n2 = 12 := (fxT F11 tn2)
  refine g_callI (st := []) (gc_V C lk_LandSurveyLaw_71 (k_X12_withdraw l D cy w z0 O10 e14 f5) e14 rfl rfl rfl ⟨by decide, by decide⟩ (Nat.le_of_ble_eq_true rfl) dL_law_672 ⟨(by show _ ≤ 601024; omega), (by show _ ≤ 7293034; omega)⟩) (fun r15 h16 f18 K17 => ?_)
  obtain ⟨O19, F20, f21⟩ := K17
  refine g_pop C rfl dL_law_675 ?_
  refine g_goto C 1896 (by decide) dL_law_676 ?_
  have f22 : (8 : Int) ≤ (x + 8) ∧ (x + 8) ≤ (4096 : Int) := ia_add fx (il 8) (by decide) (by decide)
  refine g_iinc C [(4, .inl (x + 8)), (3, .inr (.inr n3)), (2, .inr (.inr n2)), (1, .inr (.inr n1)), (0, .inr (.inr (b + 1)))] 0 rfl (by decide) rfl dL_law_1896 ?_
  refine g_goto C 23 (by decide) dL_law_1899 ?_
  refine GW.sub [0, 1, 2, 3, 4] rfl ?_
  refine GW.widen (by omega : _ ≤ 13 * (x + 8).toNat + 119) (by omega : _ ≤ 806 * (x + 8).toNat + 52115) ?_
  have e23 : Qask h7 n1 = F1 := Eq.trans (show Qask h7 n1 = Qask h n1 from (Qask_fx O F11 tn1 rfl)) e2
  have e25 : Tg h7 n1 = 11 := (fxT F11 tn1)
  have e24 : Qask h16 n1 = F1 := Eq.trans (show Qask h16 n1 = Qask h7 n1 from (Qask_fx O10 F20 e25 rfl)) e23
  have e26 : Qm 82 h7 n2 = F1 := Eq.trans (show Qm 82 h7 n2 = Qm 82 h n2 from (mAI (j := 82) O F11 tn2 rE_12_82 ar_182101 rfl rfl)) e3
  have e27 : Qm 82 h16 n2 = F1 := Eq.trans (show Qm 82 h16 n2 = Qm 82 h7 n2 from (mAI (j := 82) O10 F20 e14 rE_12_82 ar_182101 rfl rfl)) e26
  have p28 := (ASK_fx O10 F20 e25 rfl (ASK_fx O F11 tn1 rfl hT.2))
  have p29 := (XInv_fx O10 F20 e25 rfl p13)
  have p30 := (MInv_fx O10 F20 e14 rfl (MInv_fx O F11 tn2 rfl pM))
  have e31 : Tg h16 n1 = 11 := (fxT F20 e25)
  have e32 : Tg h16 n2 = 12 := (fxT F20 e14)
  have e33 : Tg h16 n3 = 99102 := (fxT F20 (fxT F11 tn3))
  have e34 : Tg h7 n3 = 99102 := (fxT F11 tn3)
  have e35 : Ln h16 n3 = 1 := ((fxL F20 e34).trans ((fxL F11 tn3).trans ln3))
  exact IH _ O19 e31 e32 e33 e35 p29 p30 ⟨(e24.trans (Eq.symm e27)), p28⟩
set_option maxRecDepth 100000 in
set_option maxHeartbeats 8000000 in
theorem law_c9 (l : Launch) (hst : l.stackTraces = false) {p : Program} {e : Env} {s : State} {m : MethodId} {below : List Frame} {meth : Method} {c : Code} {D : va_G} {cy : Nat → ClassId} {w : Nat → Nat} {z0 b L : Nat} {xs : Nat → Int32} {h : Hp} {x : Int} {n1 n2 n3 : Nat} (C : Cx p l room_1 s m #[Value.ref b] meth c D cy z0 7 cL_law "LandSurveyLaw" w) (hr : meth.sig.returnType = ret) (hX : va_X b L xs s s.heap) (hbl : b < s.heap.size) (hbz : b < z0) (hzs : s.heap.size ≤ z0) (hL : L ≤ 4096) (fx : 0 ≤ x ∧ x ≤ 4088) (hq : x ≤ (L : Int) - 8) (O : Okh h) (tn1 : Tg h n1 = 11) (tn2 : Tg h n2 = 12) (tn3 : Tg h n3 = 99102) (ln3 : Ln h n3 = 1) (pX : XInv h n1) (pM : MInv h n2) (hT : Qask h n1 = Qm 82 h n2 ∧ ASK h n1) (IH : ∀ (h1 : Hp), Okh h1 → Tg h1 n1 = 11 → Tg h1 n2 = 12 → Tg h1 n3 = 99102 → Ln h1 n3 = 1 → XInv h1 n1 → MInv h1 n2 → Qask h1 n1 = Qm 82 h1 n2 ∧ ASK h1 n1 → GW p l e room_1 s m #[Value.ref b] below meth c D cy z0 7 (lw_Z below #[Value.ref b] s) 23 [(4, .inl (x + 8)), (3, .inr (.inr n3)), (2, .inr (.inr n2)), (1, .inr (.inr n1)), (0, .inr (.inr (b + 1)))] [] h1 (13 * (x + 8).toNat + 119) (806 * (x + 8).toNat + 52115)) : GW p l e room_1 s m #[Value.ref b] below meth c D cy z0 7 (lw_Z below #[Value.ref b] s) 679 [(4, .inl x), (3, .inr (.inr n3)), (2, .inr (.inr n2)), (1, .inr (.inr n1)), (0, .inr (.inr (b + 1)))] [] h (13 * x.toNat + 119) (806 * x.toNat + 52115) := by
  obtain ⟨F1, e2⟩ : ∃ z, Qask h n1 = z := ⟨_, rfl⟩
  have e3 : Qm 82 h n2 = F1 := (Eq.symm hT.1).trans e2
  refine g_aload_n C rfl 3 rfl dL_law_679 ?_
  refine g_aload_n C rfl 4 rfl dL_law_680 ?_
  refine g_iload C 0 rfl dL_law_681 ?_
  refine g_iconst C dL_law_683 ?_
  have f4 : (1 : Int) ≤ (x + 1) ∧ (x + 1) ≤ (4089 : Int) := ia_add fx (il 1) (by decide) (by decide)
  refine g_iadd C dL_law_684 ?_
  refine g_sld C hX hbl hbz ⟨by omega, by omega⟩ (by omega) dL_law_685 ?_
  have f5 : (-2147483648 : Int) ≤ (sx xs (x + 1)) ∧ (sx xs (x + 1)) ≤ (2147483647 : Int) := inR_of _
  refine g_i2l C f5 dL_law_686 ?_
  refine g_bipush C (by decide) dL_law_687 ?_
  refine g_lshl C dL_law_689 ?_
  have f6 : (-9223372036854775808 : Int) ≤ (lShl (sx xs (x + 1)) 32) ∧ (lShl (sx xs (x + 1)) 32) ≤ (9223372036854775807 : Int) := inL_of _
  refine g_aload_n C rfl 4 rfl dL_law_690 ?_
  refine g_iload C 0 rfl dL_law_691 ?_
  refine g_iconst C dL_law_693 ?_
  have f7 : (2 : Int) ≤ (x + 2) ∧ (x + 2) ≤ (4090 : Int) := ia_add fx (il 2) (by decide) (by decide)
  refine g_iadd C dL_law_694 ?_
  refine g_sld C hX hbl hbz ⟨by omega, by omega⟩ (by omega) dL_law_695 ?_
  have f8 : (-2147483648 : Int) ≤ (sx xs (x + 2)) ∧ (sx xs (x + 2)) ≤ (2147483647 : Int) := inR_of _
  refine g_i2l C f8 dL_law_696 ?_
  refine g_ldc2 (z := 4294967295) C kw_2263 (by decide) dL_law_697 ?_
  refine g_land C dL_law_700 ?_
  have f9 : (-9223372036854775808 : Int) ≤ (lAnd (sx xs (x + 2)) 4294967295) ∧ (lAnd (sx xs (x + 2)) 4294967295) ≤ (9223372036854775807 : Int) := inL_of _
  refine g_lor C dL_law_701 ?_
  have f10 : (-9223372036854775808 : Int) ≤ (lOr (lShl (sx xs (x + 1)) 32) (lAnd (sx xs (x + 2)) 4294967295)) ∧ (lOr (lShl (sx xs (x + 1)) 32) (lAnd (sx xs (x + 2)) 4294967295)) ≤ (9223372036854775807 : Int) := inL_of _
  refine g_aload_n C rfl 4 rfl dL_law_702 ?_
  refine g_iload C 0 rfl dL_law_703 ?_
  refine g_iconst C dL_law_705 ?_
  have f11 : (3 : Int) ≤ (x + 3) ∧ (x + 3) ≤ (4091 : Int) := ia_add fx (il 3) (by decide) (by decide)
  refine g_iadd C dL_law_706 ?_
  refine g_sld C hX hbl hbz ⟨by omega, by omega⟩ (by omega) dL_law_707 ?_
  have f12 : (-2147483648 : Int) ≤ (sx xs (x + 3)) ∧ (sx xs (x + 3)) ≤ (2147483647 : Int) := inR_of _
  refine g_i2l C f12 dL_law_708 ?_
  refine g_bipush C (by decide) dL_law_709 ?_
  refine g_lshl C dL_law_711 ?_
  have f13 : (-9223372036854775808 : Int) ≤ (lShl (sx xs (x + 3)) 32) ∧ (lShl (sx xs (x + 3)) 32) ≤ (9223372036854775807 : Int) := inL_of _
  refine g_aload_n C rfl 4 rfl dL_law_712 ?_
  refine g_iload C 0 rfl dL_law_713 ?_
  refine g_iconst C dL_law_715 ?_
  have f14 : (4 : Int) ≤ (x + 4) ∧ (x + 4) ≤ (4092 : Int) := ia_add fx (il 4) (by decide) (by decide)
  refine g_iadd C dL_law_716 ?_
  refine g_sld C hX hbl hbz ⟨by omega, by omega⟩ (by omega) dL_law_717 ?_
  have f15 : (-2147483648 : Int) ≤ (sx xs (x + 4)) ∧ (sx xs (x + 4)) ≤ (2147483647 : Int) := inR_of _
  refine g_i2l C f15 dL_law_718 ?_
  refine g_ldc2 (z := 4294967295) C kw_2263 (by decide) dL_law_719 ?_
  refine g_land C dL_law_722 ?_
  have f16 : (-9223372036854775808 : Int) ≤ (lAnd (sx xs (x + 4)) 4294967295) ∧ (lAnd (sx xs (x + 4)) 4294967295) ≤ (9223372036854775807 : Int) := inL_of _
  refine g_lor C dL_law_723 ?_
  have f17 : (-9223372036854775808 : Int) ≤ (lOr (lShl (sx xs (x + 3)) 32) (lAnd (sx xs (x + 4)) 4294967295)) ∧ (lOr (lShl (sx xs (x + 3)) 32) (lAnd (sx xs (x + 4)) 4294967295)) ≤ (9223372036854775807 : Int) := inL_of _
  refine g_aload_n C rfl 4 rfl dL_law_724 ?_
  refine g_iload C 0 rfl dL_law_725 ?_
  refine g_iconst C dL_law_727 ?_
  have f18 : (5 : Int) ≤ (x + 5) ∧ (x + 5) ≤ (4093 : Int) := ia_add fx (il 5) (by decide) (by decide)
  refine g_iadd C dL_law_728 ?_
  refine g_sld C hX hbl hbz ⟨by omega, by omega⟩ (by omega) dL_law_729 ?_
  have f19 : (-2147483648 : Int) ≤ (sx xs (x + 5)) ∧ (sx xs (x + 5)) ≤ (2147483647 : Int) := inR_of _
  refine g_i2l C f19 dL_law_730 ?_
  refine g_bipush C (by decide) dL_law_731 ?_
  refine g_lshl C dL_law_733 ?_
  have f20 : (-9223372036854775808 : Int) ≤ (lShl (sx xs (x + 5)) 32) ∧ (lShl (sx xs (x + 5)) 32) ≤ (9223372036854775807 : Int) := inL_of _
  refine g_aload_n C rfl 4 rfl dL_law_734 ?_
  refine g_iload C 0 rfl dL_law_735 ?_
  refine g_bipush C (by decide) dL_law_737 ?_
  have f21 : (6 : Int) ≤ (x + 6) ∧ (x + 6) ≤ (4094 : Int) := ia_add fx (il 6) (by decide) (by decide)
  refine g_iadd C dL_law_739 ?_
  refine g_sld C hX hbl hbz ⟨by omega, by omega⟩ (by omega) dL_law_740 ?_
  have f22 : (-2147483648 : Int) ≤ (sx xs (x + 6)) ∧ (sx xs (x + 6)) ≤ (2147483647 : Int) := inR_of _
  refine g_i2l C f22 dL_law_741 ?_
  refine g_ldc2 (z := 4294967295) C kw_2263 (by decide) dL_law_742 ?_
  refine g_land C dL_law_745 ?_
  have f23 : (-9223372036854775808 : Int) ≤ (lAnd (sx xs (x + 6)) 4294967295) ∧ (lAnd (sx xs (x + 6)) 4294967295) ≤ (9223372036854775807 : Int) := inL_of _
  refine g_lor C dL_law_746 ?_
  have f24 : (-9223372036854775808 : Int) ≤ (lOr (lShl (sx xs (x + 5)) 32) (lAnd (sx xs (x + 6)) 4294967295)) ∧ (lOr (lShl (sx xs (x + 5)) 32) (lAnd (sx xs (x + 6)) 4294967295)) ≤ (9223372036854775807 : Int) := inL_of _
  refine g_callI (st := []) (gc_V C lk_LandSurveyLaw_74 (k_X11_feed l D cy w z0 O tn1 f10 f17 f24) tn1 rfl rfl rfl ⟨by decide, by decide⟩ (Nat.le_of_ble_eq_true rfl) dL_law_747 ⟨(by show _ ≤ 601024; omega), (by show _ ≤ 7293034; omega)⟩) (fun r25 h26 f28 K27 => ?_)
  obtain ⟨O29, F30, f31⟩ := K27
  refine g_pop C rfl dL_law_750 ?_
  refine g_aload_n C rfl 2 rfl dL_law_751 ?_
  refine g_aload_n C rfl 4 rfl dL_law_752 ?_
  refine g_iload C 0 rfl dL_law_753 ?_
  refine g_iconst C dL_law_755 ?_
  refine g_iadd C dL_law_756 ?_
  refine g_sld C hX hbl hbz ⟨by omega, by omega⟩ (by omega) dL_law_757 ?_
  refine g_i2l C f5 dL_law_758 ?_
  refine g_bipush C (by decide) dL_law_759 ?_
  refine g_lshl C dL_law_761 ?_
  refine g_aload_n C rfl 4 rfl dL_law_762 ?_
  refine g_iload C 0 rfl dL_law_763 ?_
  refine g_iconst C dL_law_765 ?_
  refine g_iadd C dL_law_766 ?_
  refine g_sld C hX hbl hbz ⟨by omega, by omega⟩ (by omega) dL_law_767 ?_
  refine g_i2l C f8 dL_law_768 ?_
  refine g_ldc2 (z := 4294967295) C kw_2263 (by decide) dL_law_769 ?_
  refine g_land C dL_law_772 ?_
  refine g_lor C dL_law_773 ?_
  refine g_aload_n C rfl 4 rfl dL_law_774 ?_
  refine g_iload C 0 rfl dL_law_775 ?_
  refine g_iconst C dL_law_777 ?_
  refine g_iadd C dL_law_778 ?_
  refine g_sld C hX hbl hbz ⟨by omega, by omega⟩ (by omega) dL_law_779 ?_
  refine g_i2l C f12 dL_law_780 ?_
  refine g_bipush C (by decide) dL_law_781 ?_
  refine g_lshl C dL_law_783 ?_
  refine g_aload_n C rfl 4 rfl dL_law_784 ?_
  refine g_iload C 0 rfl dL_law_785 ?_
  refine g_iconst C dL_law_787 ?_
  refine g_iadd C dL_law_788 ?_
  refine g_sld C hX hbl hbz ⟨by omega, by omega⟩ (by omega) dL_law_789 ?_
  refine g_i2l C f15 dL_law_790 ?_
  refine g_ldc2 (z := 4294967295) C kw_2263 (by decide) dL_law_791 ?_
  refine g_land C dL_law_794 ?_
  refine g_lor C dL_law_795 ?_
  refine g_aload_n C rfl 4 rfl dL_law_796 ?_
  refine g_iload C 0 rfl dL_law_797 ?_
  refine g_iconst C dL_law_799 ?_
  refine g_iadd C dL_law_800 ?_
  refine g_sld C hX hbl hbz ⟨by omega, by omega⟩ (by omega) dL_law_801 ?_
  refine g_i2l C f19 dL_law_802 ?_
  refine g_bipush C (by decide) dL_law_803 ?_
  refine g_lshl C dL_law_805 ?_
  refine g_aload_n C rfl 4 rfl dL_law_806 ?_
  refine g_iload C 0 rfl dL_law_807 ?_
  refine g_bipush C (by decide) dL_law_809 ?_
  refine g_iadd C dL_law_811 ?_
  refine g_sld C hX hbl hbz ⟨by omega, by omega⟩ (by omega) dL_law_812 ?_
  refine g_i2l C f22 dL_law_813 ?_
  refine g_ldc2 (z := 4294967295) C kw_2263 (by decide) dL_law_814 ?_
  refine g_land C dL_law_817 ?_
  refine g_lor C dL_law_818 ?_
  have e32 : Tg h26 n2 = 12 := (fxT F30 tn2)
  refine g_callI (st := []) (gc_V C lk_LandSurveyLaw_78 (k_X12_feed l D cy w z0 O29 e32 f10 f17 f24) e32 rfl rfl rfl ⟨by decide, by decide⟩ (Nat.le_of_ble_eq_true rfl) dL_law_819 ⟨(by show _ ≤ 601024; omega), (by show _ ≤ 7293034; omega)⟩) (fun r33 h34 f36 K35 => ?_)
  obtain ⟨O37, F38, f39⟩ := K35
  refine g_pop C rfl dL_law_822 ?_
  refine g_goto C 1896 (by decide) dL_law_823 ?_
  have f40 : (8 : Int) ≤ (x + 8) ∧ (x + 8) ≤ (4096 : Int) := ia_add fx (il 8) (by decide) (by decide)
  refine g_iinc C [(4, .inl (x + 8)), (3, .inr (.inr n3)), (2, .inr (.inr n2)), (1, .inr (.inr n1)), (0, .inr (.inr (b + 1)))] 0 rfl (by decide) rfl dL_law_1896 ?_
  refine g_goto C 23 (by decide) dL_law_1899 ?_
  refine GW.sub [0, 1, 2, 3, 4] rfl ?_
  refine GW.widen (by omega : _ ≤ 13 * (x + 8).toNat + 119) (by omega : _ ≤ 806 * (x + 8).toNat + 52115) ?_
  have e41 : Qask h26 n1 = F1 := Eq.trans (show Qask h26 n1 = Qask h n1 from (Qask_fx O F30 tn1 rfl)) e2
  have e43 : Tg h26 n1 = 11 := (fxT F30 tn1)
  have e42 : Qask h34 n1 = F1 := Eq.trans (show Qask h34 n1 = Qask h26 n1 from (Qask_fx O29 F38 e43 rfl)) e41
  have e44 : Qm 82 h26 n2 = F1 := Eq.trans (show Qm 82 h26 n2 = Qm 82 h n2 from (mAI (j := 82) O F30 tn2 rE_12_82 ar_182101 rfl rfl)) e3
  have e45 : Qm 82 h34 n2 = F1 := Eq.trans (show Qm 82 h34 n2 = Qm 82 h26 n2 from (mAI (j := 82) O29 F38 e32 rE_12_82 ar_182101 rfl rfl)) e44
  have p46 := (ASK_fx O29 F38 e43 rfl (ASK_fx O F30 tn1 rfl hT.2))
  have p47 := (XInv_fx O29 F38 e43 rfl (XInv_fx O F30 tn1 rfl pX))
  have p48 := (MInv_fx O29 F38 e32 rfl (MInv_fx O F30 tn2 rfl pM))
  have e49 : Tg h34 n1 = 11 := (fxT F38 e43)
  have e50 : Tg h34 n2 = 12 := (fxT F38 e32)
  have e51 : Tg h34 n3 = 99102 := (fxT F38 (fxT F30 tn3))
  have e52 : Tg h26 n3 = 99102 := (fxT F30 tn3)
  have e53 : Ln h34 n3 = 1 := ((fxL F38 e52).trans ((fxL F30 tn3).trans ln3))
  exact IH _ O37 e49 e50 e51 e53 p47 p48 ⟨(e42.trans (Eq.symm e45)), p46⟩
set_option maxRecDepth 100000 in
set_option maxHeartbeats 8000000 in
theorem law_c10 (l : Launch) (hst : l.stackTraces = false) {p : Program} {e : Env} {s : State} {m : MethodId} {below : List Frame} {meth : Method} {c : Code} {D : va_G} {cy : Nat → ClassId} {w : Nat → Nat} {z0 b L : Nat} {xs : Nat → Int32} {h : Hp} {x : Int} {n1 n2 n3 : Nat} (C : Cx p l room_1 s m #[Value.ref b] meth c D cy z0 7 cL_law "LandSurveyLaw" w) (hr : meth.sig.returnType = ret) (hX : va_X b L xs s s.heap) (hbl : b < s.heap.size) (hbz : b < z0) (hzs : s.heap.size ≤ z0) (hL : L ≤ 4096) (fx : 0 ≤ x ∧ x ≤ 4088) (hq : x ≤ (L : Int) - 8) (O : Okh h) (tn1 : Tg h n1 = 11) (tn2 : Tg h n2 = 12) (tn3 : Tg h n3 = 99102) (ln3 : Ln h n3 = 1) (pX : XInv h n1) (pM : MInv h n2) (hT : Qask h n1 = Qm 82 h n2 ∧ ASK h n1) (IH : ∀ (h1 : Hp), Okh h1 → Tg h1 n1 = 11 → Tg h1 n2 = 12 → Tg h1 n3 = 99102 → Ln h1 n3 = 1 → XInv h1 n1 → MInv h1 n2 → Qask h1 n1 = Qm 82 h1 n2 ∧ ASK h1 n1 → GW p l e room_1 s m #[Value.ref b] below meth c D cy z0 7 (lw_Z below #[Value.ref b] s) 23 [(4, .inl (x + 8)), (3, .inr (.inr n3)), (2, .inr (.inr n2)), (1, .inr (.inr n1)), (0, .inr (.inr (b + 1)))] [] h1 (13 * (x + 8).toNat + 119) (806 * (x + 8).toNat + 52115)) : GW p l e room_1 s m #[Value.ref b] below meth c D cy z0 7 (lw_Z below #[Value.ref b] s) 826 [(4, .inl x), (3, .inr (.inr n3)), (2, .inr (.inr n2)), (1, .inr (.inr n1)), (0, .inr (.inr (b + 1)))] [] h (13 * x.toNat + 119) (806 * x.toNat + 52115) := by
  obtain ⟨F1, e2⟩ : ∃ z, Qask h n1 = z := ⟨_, rfl⟩
  have e3 : Qm 82 h n2 = F1 := (Eq.symm hT.1).trans e2
  refine g_aload_n C rfl 3 rfl dL_law_826 ?_
  refine g_callI (st := []) (gc_V C lk_LandSurveyLaw_79 (k_X11_rules l D cy w z0 O tn1 pX) tn1 rfl rfl rfl ⟨by decide, by decide⟩ (Nat.le_of_ble_eq_true rfl) dL_law_827 ⟨(by show _ ≤ 601024; omega), (by show _ ≤ 7293034; omega)⟩) (fun r4 h5 f7 K6 => ?_)
  obtain ⟨O8, F9, f10, p11⟩ := K6
  refine g_pop C rfl dL_law_830 ?_
  refine g_aload_n C rfl 2 rfl dL_law_831 ?_
  have e12 : Tg h5 n2 = 12 := (fxT F9 tn2)
  have p13 := (MInv_fx O F9 tn2 rfl pM)
  refine g_callI (st := []) (gc_V C lk_LandSurveyLaw_83 (k_X12_rules l D cy w z0 O8 e12 p13) e12 rfl rfl rfl ⟨by decide, by decide⟩ (Nat.le_of_ble_eq_true rfl) dL_law_832 ⟨(by show _ ≤ 601024; omega), (by show _ ≤ 7293034; omega)⟩) (fun r14 h15 f17 K16 => ?_)
  obtain ⟨O18, F19, f20, p21⟩ := K16
  refine g_pop C rfl dL_law_835 ?_
  refine g_goto C 1896 (by decide) dL_law_836 ?_
  have f22 : (8 : Int) ≤ (x + 8) ∧ (x + 8) ≤ (4096 : Int) := ia_add fx (il 8) (by decide) (by decide)
  refine g_iinc C [(4, .inl (x + 8)), (3, .inr (.inr n3)), (2, .inr (.inr n2)), (1, .inr (.inr n1)), (0, .inr (.inr (b + 1)))] 0 rfl (by decide) rfl dL_law_1896 ?_
  refine g_goto C 23 (by decide) dL_law_1899 ?_
  refine GW.sub [0, 1, 2, 3, 4] rfl ?_
  refine GW.widen (by omega : _ ≤ 13 * (x + 8).toNat + 119) (by omega : _ ≤ 806 * (x + 8).toNat + 52115) ?_
  have e23 : Qask h5 n1 = F1 := Eq.trans (show Qask h5 n1 = Qask h n1 from (Qask_fx O F9 tn1 rfl)) e2
  have e25 : Tg h5 n1 = 11 := (fxT F9 tn1)
  have e24 : Qask h15 n1 = F1 := Eq.trans (show Qask h15 n1 = Qask h5 n1 from (Qask_fx O8 F19 e25 rfl)) e23
  have e26 : Qm 82 h5 n2 = F1 := Eq.trans (show Qm 82 h5 n2 = Qm 82 h n2 from (mAI (j := 82) O F9 tn2 rE_12_82 ar_182101 rfl rfl)) e3
  have e27 : Qm 82 h15 n2 = F1 := Eq.trans (show Qm 82 h15 n2 = Qm 82 h5 n2 from (mAI (j := 82) O8 F19 e12 rE_12_82 ar_182101 rfl rfl)) e26
  have p28 := (ASK_fx O8 F19 e25 rfl (ASK_fx O F9 tn1 rfl hT.2))
  have p29 := (XInv_fx O8 F19 e25 rfl p11)
  have e30 : Tg h15 n1 = 11 := (fxT F19 e25)
  have e31 : Tg h15 n2 = 12 := (fxT F19 e12)
  have e32 : Tg h15 n3 = 99102 := (fxT F19 (fxT F9 tn3))
  have e33 : Tg h5 n3 = 99102 := (fxT F9 tn3)
  have e34 : Ln h15 n3 = 1 := ((fxL F19 e33).trans ((fxL F9 tn3).trans ln3))
  exact IH _ O18 e30 e31 e32 e34 p29 p21 ⟨(e24.trans (Eq.symm e27)), p28⟩
set_option maxRecDepth 100000 in
set_option maxHeartbeats 8000000 in
theorem law_c11 (l : Launch) (hst : l.stackTraces = false) {p : Program} {e : Env} {s : State} {m : MethodId} {below : List Frame} {meth : Method} {c : Code} {D : va_G} {cy : Nat → ClassId} {w : Nat → Nat} {z0 b L : Nat} {xs : Nat → Int32} {h : Hp} {x : Int} {n1 n2 n3 : Nat} (C : Cx p l room_1 s m #[Value.ref b] meth c D cy z0 7 cL_law "LandSurveyLaw" w) (hr : meth.sig.returnType = ret) (hX : va_X b L xs s s.heap) (hbl : b < s.heap.size) (hbz : b < z0) (hzs : s.heap.size ≤ z0) (hL : L ≤ 4096) (fx : 0 ≤ x ∧ x ≤ 4088) (hq : x ≤ (L : Int) - 8) (O : Okh h) (tn1 : Tg h n1 = 11) (tn2 : Tg h n2 = 12) (tn3 : Tg h n3 = 99102) (ln3 : Ln h n3 = 1) (pX : XInv h n1) (pM : MInv h n2) (hT : Qask h n1 = Qm 82 h n2 ∧ ASK h n1) (IH : ∀ (h1 : Hp), Okh h1 → Tg h1 n1 = 11 → Tg h1 n2 = 12 → Tg h1 n3 = 99102 → Ln h1 n3 = 1 → XInv h1 n1 → MInv h1 n2 → Qask h1 n1 = Qm 82 h1 n2 ∧ ASK h1 n1 → GW p l e room_1 s m #[Value.ref b] below meth c D cy z0 7 (lw_Z below #[Value.ref b] s) 23 [(4, .inl (x + 8)), (3, .inr (.inr n3)), (2, .inr (.inr n2)), (1, .inr (.inr n1)), (0, .inr (.inr (b + 1)))] [] h1 (13 * (x + 8).toNat + 119) (806 * (x + 8).toNat + 52115)) : GW p l e room_1 s m #[Value.ref b] below meth c D cy z0 7 (lw_Z below #[Value.ref b] s) 839 [(4, .inl x), (3, .inr (.inr n3)), (2, .inr (.inr n2)), (1, .inr (.inr n1)), (0, .inr (.inr (b + 1)))] [] h (13 * x.toNat + 119) (806 * x.toNat + 52115) := by
  obtain ⟨F1, e2⟩ : ∃ z, Qask h n1 = z := ⟨_, rfl⟩
  have e3 : Qm 82 h n2 = F1 := (Eq.symm hT.1).trans e2
  refine g_aload_n C rfl 3 rfl dL_law_839 ?_
  refine g_aload_n C rfl 4 rfl dL_law_840 ?_
  refine g_iload C 0 rfl dL_law_841 ?_
  refine g_iconst C dL_law_843 ?_
  have f4 : (1 : Int) ≤ (x + 1) ∧ (x + 1) ≤ (4089 : Int) := ia_add fx (il 1) (by decide) (by decide)
  refine g_iadd C dL_law_844 ?_
  refine g_sld C hX hbl hbz ⟨by omega, by omega⟩ (by omega) dL_law_845 ?_
  have f5 : (-2147483648 : Int) ≤ (sx xs (x + 1)) ∧ (sx xs (x + 1)) ≤ (2147483647 : Int) := inR_of _
  refine g_aload_n C rfl 4 rfl dL_law_846 ?_
  refine g_iload C 0 rfl dL_law_847 ?_
  refine g_iconst C dL_law_849 ?_
  have f6 : (2 : Int) ≤ (x + 2) ∧ (x + 2) ≤ (4090 : Int) := ia_add fx (il 2) (by decide) (by decide)
  refine g_iadd C dL_law_850 ?_
  refine g_sld C hX hbl hbz ⟨by omega, by omega⟩ (by omega) dL_law_851 ?_
  have f7 : (-2147483648 : Int) ≤ (sx xs (x + 2)) ∧ (sx xs (x + 2)) ≤ (2147483647 : Int) := inR_of _
  refine g_aload_n C rfl 4 rfl dL_law_852 ?_
  refine g_iload C 0 rfl dL_law_853 ?_
  refine g_iconst C dL_law_855 ?_
  have f8 : (3 : Int) ≤ (x + 3) ∧ (x + 3) ≤ (4091 : Int) := ia_add fx (il 3) (by decide) (by decide)
  refine g_iadd C dL_law_856 ?_
  refine g_sld C hX hbl hbz ⟨by omega, by omega⟩ (by omega) dL_law_857 ?_
  have f9 : (-2147483648 : Int) ≤ (sx xs (x + 3)) ∧ (sx xs (x + 3)) ≤ (2147483647 : Int) := inR_of _
  refine g_if_eq C f9 865 (by decide) dL_law_858 (fun q10 => ?_) (fun q11 => ?_)
  · have f12 : (0 : Int) ≤ (sx xs (x + 3)) ∧ (sx xs (x + 3)) ≤ (0 : Int) := ii f9 (r_eq (il 0) q10) (by decide) (by decide)
    refine g_iconst C dL_law_865 ?_
    refine g_aload_n C rfl 4 rfl dL_law_866 ?_
    refine g_iload C 0 rfl dL_law_867 ?_
    refine g_iconst C dL_law_869 ?_
    have f13 : (4 : Int) ≤ (x + 4) ∧ (x + 4) ≤ (4092 : Int) := ia_add fx (il 4) (by decide) (by decide)
    refine g_iadd C dL_law_870 ?_
    refine g_sld C hX hbl hbz ⟨by omega, by omega⟩ (by omega) dL_law_871 ?_
    have f14 : (-2147483648 : Int) ≤ (sx xs (x + 4)) ∧ (sx xs (x + 4)) ≤ (2147483647 : Int) := inR_of _
    refine g_aload_n C rfl 4 rfl dL_law_872 ?_
    refine g_iload C 0 rfl dL_law_873 ?_
    refine g_iconst C dL_law_875 ?_
    have f15 : (5 : Int) ≤ (x + 5) ∧ (x + 5) ≤ (4093 : Int) := ia_add fx (il 5) (by decide) (by decide)
    refine g_iadd C dL_law_876 ?_
    refine g_sld C hX hbl hbz ⟨by omega, by omega⟩ (by omega) dL_law_877 ?_
    have f16 : (-2147483648 : Int) ≤ (sx xs (x + 5)) ∧ (sx xs (x + 5)) ≤ (2147483647 : Int) := inR_of _
    refine g_aload_n C rfl 4 rfl dL_law_878 ?_
    refine g_iload C 0 rfl dL_law_879 ?_
    refine g_bipush C (by decide) dL_law_881 ?_
    have f17 : (6 : Int) ≤ (x + 6) ∧ (x + 6) ≤ (4094 : Int) := ia_add fx (il 6) (by decide) (by decide)
    refine g_iadd C dL_law_883 ?_
    refine g_sld C hX hbl hbz ⟨by omega, by omega⟩ (by omega) dL_law_884 ?_
    have f18 : (-2147483648 : Int) ≤ (sx xs (x + 6)) ∧ (sx xs (x + 6)) ≤ (2147483647 : Int) := inR_of _
    refine g_aload_n C rfl 4 rfl dL_law_885 ?_
    refine g_iload C 0 rfl dL_law_886 ?_
    refine g_bipush C (by decide) dL_law_888 ?_
    have f19 : (7 : Int) ≤ (x + 7) ∧ (x + 7) ≤ (4095 : Int) := ia_add fx (il 7) (by decide) (by decide)
    refine g_iadd C dL_law_890 ?_
    refine g_sld C hX hbl hbz ⟨by omega, by omega⟩ (by omega) dL_law_891 ?_
    have f20 : (-2147483648 : Int) ≤ (sx xs (x + 7)) ∧ (sx xs (x + 7)) ≤ (2147483647 : Int) := inR_of _
    refine g_callI (st := []) (gc_V C lk_LandSurveyLaw_84 (k_X11_fault l D cy w z0 O tn1 f5 f7 (iw (il 0) (by decide) (by decide)) f14 f16 f18 f20 pX) tn1 rfl rfl rfl ⟨by decide, by decide⟩ (Nat.le_of_ble_eq_true rfl) dL_law_892 ⟨(by show _ ≤ 601024; omega), (by show _ ≤ 7293034; omega)⟩) (fun r21 h22 f24 K23 => ?_)
    obtain ⟨O25, F26, f27, p28⟩ := K23
    refine g_pop C rfl dL_law_895 ?_
    refine g_aload_n C rfl 2 rfl dL_law_896 ?_
    refine g_aload_n C rfl 4 rfl dL_law_897 ?_
    refine g_iload C 0 rfl dL_law_898 ?_
    refine g_iconst C dL_law_900 ?_
    refine g_iadd C dL_law_901 ?_
    refine g_sld C hX hbl hbz ⟨by omega, by omega⟩ (by omega) dL_law_902 ?_
    refine g_aload_n C rfl 4 rfl dL_law_903 ?_
    refine g_iload C 0 rfl dL_law_904 ?_
    refine g_iconst C dL_law_906 ?_
    refine g_iadd C dL_law_907 ?_
    refine g_sld C hX hbl hbz ⟨by omega, by omega⟩ (by omega) dL_law_908 ?_
    refine g_aload_n C rfl 4 rfl dL_law_909 ?_
    refine g_iload C 0 rfl dL_law_910 ?_
    refine g_iconst C dL_law_912 ?_
    refine g_iadd C dL_law_913 ?_
    refine g_sld C hX hbl hbz ⟨by omega, by omega⟩ (by omega) dL_law_914 ?_
    refine g_if_eq C (iw f12 (by decide) (by decide)) 922 (by decide) dL_law_915 (fun q29 => ?_) (fun q30 => ?_)
    · refine g_iconst C dL_law_922 ?_
      refine g_aload_n C rfl 4 rfl dL_law_923 ?_
      refine g_iload C 0 rfl dL_law_924 ?_
      refine g_iconst C dL_law_926 ?_
      refine g_iadd C dL_law_927 ?_
      refine g_sld C hX hbl hbz ⟨by omega, by omega⟩ (by omega) dL_law_928 ?_
      refine g_aload_n C rfl 4 rfl dL_law_929 ?_
      refine g_iload C 0 rfl dL_law_930 ?_
      refine g_iconst C dL_law_932 ?_
      refine g_iadd C dL_law_933 ?_
      refine g_sld C hX hbl hbz ⟨by omega, by omega⟩ (by omega) dL_law_934 ?_
      refine g_aload_n C rfl 4 rfl dL_law_935 ?_
      refine g_iload C 0 rfl dL_law_936 ?_
      refine g_bipush C (by decide) dL_law_938 ?_
      refine g_iadd C dL_law_940 ?_
      refine g_sld C hX hbl hbz ⟨by omega, by omega⟩ (by omega) dL_law_941 ?_
      refine g_aload_n C rfl 4 rfl dL_law_942 ?_
      refine g_iload C 0 rfl dL_law_943 ?_
      refine g_bipush C (by decide) dL_law_945 ?_
      refine g_iadd C dL_law_947 ?_
      refine g_sld C hX hbl hbz ⟨by omega, by omega⟩ (by omega) dL_law_948 ?_
      have e31 : Tg h22 n2 = 12 := (fxT F26 tn2)
      refine g_callI (st := []) (gc_V C lk_LandSurveyLaw_88 (k_X12_fault l D cy w z0 O25 e31 f5 f7 (iw (il 0) (by decide) (by decide)) f14 f16 f18 f20) e31 rfl rfl rfl ⟨by decide, by decide⟩ (Nat.le_of_ble_eq_true rfl) dL_law_949 ⟨(by show _ ≤ 601024; omega), (by show _ ≤ 7293034; omega)⟩) (fun r32 h33 f35 K34 => ?_)
      obtain ⟨O36, F37, f38⟩ := K34
      refine g_pop C rfl dL_law_952 ?_
      refine g_goto C 1896 (by decide) dL_law_953 ?_
      have f39 : (8 : Int) ≤ (x + 8) ∧ (x + 8) ≤ (4096 : Int) := ia_add fx (il 8) (by decide) (by decide)
      refine g_iinc C [(4, .inl (x + 8)), (3, .inr (.inr n3)), (2, .inr (.inr n2)), (1, .inr (.inr n1)), (0, .inr (.inr (b + 1)))] 0 rfl (by decide) rfl dL_law_1896 ?_
      refine g_goto C 23 (by decide) dL_law_1899 ?_
      refine GW.sub [0, 1, 2, 3, 4] rfl ?_
      refine GW.widen (by omega : _ ≤ 13 * (x + 8).toNat + 119) (by omega : _ ≤ 806 * (x + 8).toNat + 52115) ?_
      have e40 : Qask h22 n1 = F1 := Eq.trans (show Qask h22 n1 = Qask h n1 from (Qask_fx O F26 tn1 rfl)) e2
      have e42 : Tg h22 n1 = 11 := (fxT F26 tn1)
      have e41 : Qask h33 n1 = F1 := Eq.trans (show Qask h33 n1 = Qask h22 n1 from (Qask_fx O25 F37 e42 rfl)) e40
      have e43 : Qm 82 h22 n2 = F1 := Eq.trans (show Qm 82 h22 n2 = Qm 82 h n2 from (mAI (j := 82) O F26 tn2 rE_12_82 ar_182101 rfl rfl)) e3
      have e44 : Qm 82 h33 n2 = F1 := Eq.trans (show Qm 82 h33 n2 = Qm 82 h22 n2 from (mAI (j := 82) O25 F37 e31 rE_12_82 ar_182101 rfl rfl)) e43
      have p45 := (ASK_fx O25 F37 e42 rfl (ASK_fx O F26 tn1 rfl hT.2))
      have p46 := (XInv_fx O25 F37 e42 rfl p28)
      have p47 := (MInv_fx O25 F37 e31 rfl (MInv_fx O F26 tn2 rfl pM))
      have e48 : Tg h33 n1 = 11 := (fxT F37 e42)
      have e49 : Tg h33 n2 = 12 := (fxT F37 e31)
      have e50 : Tg h33 n3 = 99102 := (fxT F37 (fxT F26 tn3))
      have e51 : Tg h22 n3 = 99102 := (fxT F26 tn3)
      have e52 : Ln h33 n3 = 1 := ((fxL F37 e51).trans ((fxL F26 tn3).trans ln3))
      exact IH _ O36 e48 e49 e50 e52 p46 p47 ⟨(e41.trans (Eq.symm e44)), p45⟩
    · exact (no_ne f12 (il 0) q30 (by decide)).elim
  · refine g_iconst C dL_law_861 ?_
    refine g_goto C 866 (by decide) dL_law_862 ?_
    refine g_aload_n C rfl 4 rfl dL_law_866 ?_
    refine g_iload C 0 rfl dL_law_867 ?_
    refine g_iconst C dL_law_869 ?_
    have f53 : (4 : Int) ≤ (x + 4) ∧ (x + 4) ≤ (4092 : Int) := ia_add fx (il 4) (by decide) (by decide)
    refine g_iadd C dL_law_870 ?_
    refine g_sld C hX hbl hbz ⟨by omega, by omega⟩ (by omega) dL_law_871 ?_
    have f54 : (-2147483648 : Int) ≤ (sx xs (x + 4)) ∧ (sx xs (x + 4)) ≤ (2147483647 : Int) := inR_of _
    refine g_aload_n C rfl 4 rfl dL_law_872 ?_
    refine g_iload C 0 rfl dL_law_873 ?_
    refine g_iconst C dL_law_875 ?_
    have f55 : (5 : Int) ≤ (x + 5) ∧ (x + 5) ≤ (4093 : Int) := ia_add fx (il 5) (by decide) (by decide)
    refine g_iadd C dL_law_876 ?_
    refine g_sld C hX hbl hbz ⟨by omega, by omega⟩ (by omega) dL_law_877 ?_
    have f56 : (-2147483648 : Int) ≤ (sx xs (x + 5)) ∧ (sx xs (x + 5)) ≤ (2147483647 : Int) := inR_of _
    refine g_aload_n C rfl 4 rfl dL_law_878 ?_
    refine g_iload C 0 rfl dL_law_879 ?_
    refine g_bipush C (by decide) dL_law_881 ?_
    have f57 : (6 : Int) ≤ (x + 6) ∧ (x + 6) ≤ (4094 : Int) := ia_add fx (il 6) (by decide) (by decide)
    refine g_iadd C dL_law_883 ?_
    refine g_sld C hX hbl hbz ⟨by omega, by omega⟩ (by omega) dL_law_884 ?_
    have f58 : (-2147483648 : Int) ≤ (sx xs (x + 6)) ∧ (sx xs (x + 6)) ≤ (2147483647 : Int) := inR_of _
    refine g_aload_n C rfl 4 rfl dL_law_885 ?_
    refine g_iload C 0 rfl dL_law_886 ?_
    refine g_bipush C (by decide) dL_law_888 ?_
    have f59 : (7 : Int) ≤ (x + 7) ∧ (x + 7) ≤ (4095 : Int) := ia_add fx (il 7) (by decide) (by decide)
    refine g_iadd C dL_law_890 ?_
    refine g_sld C hX hbl hbz ⟨by omega, by omega⟩ (by omega) dL_law_891 ?_
    have f60 : (-2147483648 : Int) ≤ (sx xs (x + 7)) ∧ (sx xs (x + 7)) ≤ (2147483647 : Int) := inR_of _
    refine g_callI (st := []) (gc_V C lk_LandSurveyLaw_84 (k_X11_fault l D cy w z0 O tn1 f5 f7 (iw (il 1) (by decide) (by decide)) f54 f56 f58 f60 pX) tn1 rfl rfl rfl ⟨by decide, by decide⟩ (Nat.le_of_ble_eq_true rfl) dL_law_892 ⟨(by show _ ≤ 601024; omega), (by show _ ≤ 7293034; omega)⟩) (fun r61 h62 f64 K63 => ?_)
    obtain ⟨O65, F66, f67, p68⟩ := K63
    refine g_pop C rfl dL_law_895 ?_
    refine g_aload_n C rfl 2 rfl dL_law_896 ?_
    refine g_aload_n C rfl 4 rfl dL_law_897 ?_
    refine g_iload C 0 rfl dL_law_898 ?_
    refine g_iconst C dL_law_900 ?_
    refine g_iadd C dL_law_901 ?_
    refine g_sld C hX hbl hbz ⟨by omega, by omega⟩ (by omega) dL_law_902 ?_
    refine g_aload_n C rfl 4 rfl dL_law_903 ?_
    refine g_iload C 0 rfl dL_law_904 ?_
    refine g_iconst C dL_law_906 ?_
    refine g_iadd C dL_law_907 ?_
    refine g_sld C hX hbl hbz ⟨by omega, by omega⟩ (by omega) dL_law_908 ?_
    refine g_aload_n C rfl 4 rfl dL_law_909 ?_
    refine g_iload C 0 rfl dL_law_910 ?_
    refine g_iconst C dL_law_912 ?_
    refine g_iadd C dL_law_913 ?_
    refine g_sld C hX hbl hbz ⟨by omega, by omega⟩ (by omega) dL_law_914 ?_
    refine g_if_eq C f9 922 (by decide) dL_law_915 (fun q69 => ?_) (fun q70 => ?_)
    · have f71 : (0 : Int) ≤ (sx xs (x + 3)) ∧ (sx xs (x + 3)) ≤ (0 : Int) := ii f9 (r_eq (il 0) q69) (by decide) (by decide)
      refine g_iconst C dL_law_922 ?_
      refine g_aload_n C rfl 4 rfl dL_law_923 ?_
      refine g_iload C 0 rfl dL_law_924 ?_
      refine g_iconst C dL_law_926 ?_
      refine g_iadd C dL_law_927 ?_
      refine g_sld C hX hbl hbz ⟨by omega, by omega⟩ (by omega) dL_law_928 ?_
      refine g_aload_n C rfl 4 rfl dL_law_929 ?_
      refine g_iload C 0 rfl dL_law_930 ?_
      refine g_iconst C dL_law_932 ?_
      refine g_iadd C dL_law_933 ?_
      refine g_sld C hX hbl hbz ⟨by omega, by omega⟩ (by omega) dL_law_934 ?_
      refine g_aload_n C rfl 4 rfl dL_law_935 ?_
      refine g_iload C 0 rfl dL_law_936 ?_
      refine g_bipush C (by decide) dL_law_938 ?_
      refine g_iadd C dL_law_940 ?_
      refine g_sld C hX hbl hbz ⟨by omega, by omega⟩ (by omega) dL_law_941 ?_
      refine g_aload_n C rfl 4 rfl dL_law_942 ?_
      refine g_iload C 0 rfl dL_law_943 ?_
      refine g_bipush C (by decide) dL_law_945 ?_
      refine g_iadd C dL_law_947 ?_
      refine g_sld C hX hbl hbz ⟨by omega, by omega⟩ (by omega) dL_law_948 ?_
      have e72 : Tg h62 n2 = 12 := (fxT F66 tn2)
      refine g_callI (st := []) (gc_V C lk_LandSurveyLaw_88 (k_X12_fault l D cy w z0 O65 e72 f5 f7 (iw (il 0) (by decide) (by decide)) f54 f56 f58 f60) e72 rfl rfl rfl ⟨by decide, by decide⟩ (Nat.le_of_ble_eq_true rfl) dL_law_949 ⟨(by show _ ≤ 601024; omega), (by show _ ≤ 7293034; omega)⟩) (fun r73 h74 f76 K75 => ?_)
      obtain ⟨O77, F78, f79⟩ := K75
      refine g_pop C rfl dL_law_952 ?_
      refine g_goto C 1896 (by decide) dL_law_953 ?_
      have f80 : (8 : Int) ≤ (x + 8) ∧ (x + 8) ≤ (4096 : Int) := ia_add fx (il 8) (by decide) (by decide)
      refine g_iinc C [(4, .inl (x + 8)), (3, .inr (.inr n3)), (2, .inr (.inr n2)), (1, .inr (.inr n1)), (0, .inr (.inr (b + 1)))] 0 rfl (by decide) rfl dL_law_1896 ?_
      refine g_goto C 23 (by decide) dL_law_1899 ?_
      refine GW.sub [0, 1, 2, 3, 4] rfl ?_
      refine GW.widen (by omega : _ ≤ 13 * (x + 8).toNat + 119) (by omega : _ ≤ 806 * (x + 8).toNat + 52115) ?_
      have e81 : Qask h62 n1 = F1 := Eq.trans (show Qask h62 n1 = Qask h n1 from (Qask_fx O F66 tn1 rfl)) e2
      have e83 : Tg h62 n1 = 11 := (fxT F66 tn1)
      have e82 : Qask h74 n1 = F1 := Eq.trans (show Qask h74 n1 = Qask h62 n1 from (Qask_fx O65 F78 e83 rfl)) e81
      have e84 : Qm 82 h62 n2 = F1 := Eq.trans (show Qm 82 h62 n2 = Qm 82 h n2 from (mAI (j := 82) O F66 tn2 rE_12_82 ar_182101 rfl rfl)) e3
      have e85 : Qm 82 h74 n2 = F1 := Eq.trans (show Qm 82 h74 n2 = Qm 82 h62 n2 from (mAI (j := 82) O65 F78 e72 rE_12_82 ar_182101 rfl rfl)) e84
      have p86 := (ASK_fx O65 F78 e83 rfl (ASK_fx O F66 tn1 rfl hT.2))
      have p87 := (XInv_fx O65 F78 e83 rfl p68)
      have p88 := (MInv_fx O65 F78 e72 rfl (MInv_fx O F66 tn2 rfl pM))
      have e89 : Tg h74 n1 = 11 := (fxT F78 e83)
      have e90 : Tg h74 n2 = 12 := (fxT F78 e72)
      have e91 : Tg h74 n3 = 99102 := (fxT F78 (fxT F66 tn3))
      have e92 : Tg h62 n3 = 99102 := (fxT F66 tn3)
      have e93 : Ln h74 n3 = 1 := ((fxL F78 e92).trans ((fxL F66 tn3).trans ln3))
      exact IH _ O77 e89 e90 e91 e93 p87 p88 ⟨(e82.trans (Eq.symm e85)), p86⟩
    · refine g_iconst C dL_law_918 ?_
      refine g_goto C 923 (by decide) dL_law_919 ?_
      refine g_aload_n C rfl 4 rfl dL_law_923 ?_
      refine g_iload C 0 rfl dL_law_924 ?_
      refine g_iconst C dL_law_926 ?_
      refine g_iadd C dL_law_927 ?_
      refine g_sld C hX hbl hbz ⟨by omega, by omega⟩ (by omega) dL_law_928 ?_
      refine g_aload_n C rfl 4 rfl dL_law_929 ?_
      refine g_iload C 0 rfl dL_law_930 ?_
      refine g_iconst C dL_law_932 ?_
      refine g_iadd C dL_law_933 ?_
      refine g_sld C hX hbl hbz ⟨by omega, by omega⟩ (by omega) dL_law_934 ?_
      refine g_aload_n C rfl 4 rfl dL_law_935 ?_
      refine g_iload C 0 rfl dL_law_936 ?_
      refine g_bipush C (by decide) dL_law_938 ?_
      refine g_iadd C dL_law_940 ?_
      refine g_sld C hX hbl hbz ⟨by omega, by omega⟩ (by omega) dL_law_941 ?_
      refine g_aload_n C rfl 4 rfl dL_law_942 ?_
      refine g_iload C 0 rfl dL_law_943 ?_
      refine g_bipush C (by decide) dL_law_945 ?_
      refine g_iadd C dL_law_947 ?_
      refine g_sld C hX hbl hbz ⟨by omega, by omega⟩ (by omega) dL_law_948 ?_
      have e94 : Tg h62 n2 = 12 := (fxT F66 tn2)
      refine g_callI (st := []) (gc_V C lk_LandSurveyLaw_88 (k_X12_fault l D cy w z0 O65 e94 f5 f7 (iw (il 1) (by decide) (by decide)) f54 f56 f58 f60) e94 rfl rfl rfl ⟨by decide, by decide⟩ (Nat.le_of_ble_eq_true rfl) dL_law_949 ⟨(by show _ ≤ 601024; omega), (by show _ ≤ 7293034; omega)⟩) (fun r95 h96 f98 K97 => ?_)
      obtain ⟨O99, F100, f101⟩ := K97
      refine g_pop C rfl dL_law_952 ?_
      refine g_goto C 1896 (by decide) dL_law_953 ?_
      have f102 : (8 : Int) ≤ (x + 8) ∧ (x + 8) ≤ (4096 : Int) := ia_add fx (il 8) (by decide) (by decide)
      refine g_iinc C [(4, .inl (x + 8)), (3, .inr (.inr n3)), (2, .inr (.inr n2)), (1, .inr (.inr n1)), (0, .inr (.inr (b + 1)))] 0 rfl (by decide) rfl dL_law_1896 ?_
      refine g_goto C 23 (by decide) dL_law_1899 ?_
      refine GW.sub [0, 1, 2, 3, 4] rfl ?_
      refine GW.widen (by omega : _ ≤ 13 * (x + 8).toNat + 119) (by omega : _ ≤ 806 * (x + 8).toNat + 52115) ?_
      have e103 : Qask h62 n1 = F1 := Eq.trans (show Qask h62 n1 = Qask h n1 from (Qask_fx O F66 tn1 rfl)) e2
      have e105 : Tg h62 n1 = 11 := (fxT F66 tn1)
      have e104 : Qask h96 n1 = F1 := Eq.trans (show Qask h96 n1 = Qask h62 n1 from (Qask_fx O65 F100 e105 rfl)) e103
      have e106 : Qm 82 h62 n2 = F1 := Eq.trans (show Qm 82 h62 n2 = Qm 82 h n2 from (mAI (j := 82) O F66 tn2 rE_12_82 ar_182101 rfl rfl)) e3
      have e107 : Qm 82 h96 n2 = F1 := Eq.trans (show Qm 82 h96 n2 = Qm 82 h62 n2 from (mAI (j := 82) O65 F100 e94 rE_12_82 ar_182101 rfl rfl)) e106
      have p108 := (ASK_fx O65 F100 e105 rfl (ASK_fx O F66 tn1 rfl hT.2))
      have p109 := (XInv_fx O65 F100 e105 rfl p68)
      have p110 := (MInv_fx O65 F100 e94 rfl (MInv_fx O F66 tn2 rfl pM))
      have e111 : Tg h96 n1 = 11 := (fxT F100 e105)
      have e112 : Tg h96 n2 = 12 := (fxT F100 e94)
      have e113 : Tg h96 n3 = 99102 := (fxT F100 (fxT F66 tn3))
      have e114 : Tg h62 n3 = 99102 := (fxT F66 tn3)
      have e115 : Ln h96 n3 = 1 := ((fxL F100 e114).trans ((fxL F66 tn3).trans ln3))
      exact IH _ O99 e111 e112 e113 e115 p109 p110 ⟨(e104.trans (Eq.symm e107)), p108⟩
