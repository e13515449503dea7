abbrev cX4_init : ByteArray := prog_6_method_1_code
def yX4_init : MethodName := ⟨RX4, "<init>", "()V"⟩
theorem okX4_init : yok yX4_init 0 := by decide +kernel
theorem dX4_init_0 : decode cX4_init 0 = .ok (.aload_n 0, 1) := by decide +kernel
theorem dX4_init_1 : decode cX4_init 1 = .ok (.invokespecial 3, 3) := by decide +kernel
theorem kw_285 : Cond.methodLink "LandSurvey$RuleBook" 3 (⟨"java/lang/Object", "<init>", "()V"⟩ : MethodName) ∈ uu := uu_in (i := 285) (by decide +kernel) (by decide +kernel)
theorem dX4_init_4 : decode cX4_init 4 = .ok (.aload_n 0, 1) := by decide +kernel
theorem dX4_init_5 : decode cX4_init 5 = .ok (.bipush 8, 2) := by decide +kernel
theorem dX4_init_7 : decode cX4_init 7 = .ok (.newarray .int, 2) := by decide +kernel
theorem dX4_init_9 : decode cX4_init 9 = .ok (.putfield 9, 3) := by decide +kernel
theorem pk_LandSurvey_RuleBook_0 : pk RX4 TX4 4 0 tyX4 true := ⟨tyX4_ok, nmX4, rfl⟩
theorem dX4_init_12 : decode cX4_init 12 = .ok (.aload_n 0, 1) := by decide +kernel
theorem dX4_init_13 : decode cX4_init 13 = .ok (.bipush 8, 2) := by decide +kernel
theorem dX4_init_15 : decode cX4_init 15 = .ok (.anewarray 15, 3) := by decide +kernel
theorem kw_286 : Cond.classLink "LandSurvey$RuleBook" 15 "LandSurvey$Rules" ∈ uu := uu_in (i := 286) (by decide +kernel) (by decide +kernel)
theorem dX4_init_18 : decode cX4_init 18 = .ok (.putfield 17, 3) := by decide +kernel
theorem pk_LandSurvey_RuleBook_1 : pk RX4 TX4 4 1 tyX4 true := ⟨tyX4_ok, nmX4, rfl⟩
theorem dX4_init_21 : decode cX4_init 21 = .ok (.aload_n 0, 1) := by decide +kernel
theorem dX4_init_22 : decode cX4_init 22 = .ok (.new 15, 3) := by decide +kernel
theorem dX4_init_25 : decode cX4_init 25 = .ok (.dup, 1) := by decide +kernel
theorem dX4_init_26 : decode cX4_init 26 = .ok (.invokespecial 21, 3) := by decide +kernel
theorem kw_289 : Cond.methodLink "LandSurvey$RuleBook" 21 yX5_init ∈ uu := uu_in (i := 289) (by decide +kernel) (by decide +kernel)
theorem lk_LandSurvey_RuleBook_21 : lkI "LandSurvey$RuleBook" 21 yX5_init cX5_init 1 none 0 := ⟨kw_289, kw_290, kw_149, kw_291, okX5_init, rfl⟩
theorem dX4_init_29 : decode cX4_init 29 = .ok (.putfield 22, 3) := by decide +kernel
theorem pk_LandSurvey_RuleBook_3 : pk RX4 TX4 4 3 tyX4 true := ⟨tyX4_ok, nmX4, rfl⟩
theorem dX4_init_32 : decode cX4_init 32 = .ok (.return_, 1) := by decide +kernel
abbrev cX11_init : ByteArray := prog_1_method_1_code
def yX11_init : MethodName := ⟨RX11, "<init>", "()V"⟩
theorem okX11_init : yok yX11_init 0 := by decide +kernel
theorem dX11_init_0 : decode cX11_init 0 = .ok (.aload_n 0, 1) := by decide +kernel
theorem dX11_init_1 : decode cX11_init 1 = .ok (.invokespecial 1, 3) := by decide +kernel
theorem kw_177 : Cond.methodLink "LandSurvey" 1 (⟨"java/lang/Object", "<init>", "()V"⟩ : MethodName) ∈ uu := uu_in (i := 177) (by decide +kernel) (by decide +kernel)
theorem dX11_init_4 : decode cX11_init 4 = .ok (.aload_n 0, 1) := by decide +kernel
theorem dX11_init_5 : decode cX11_init 5 = .ok (.iconst (-1), 1) := by decide +kernel
theorem dX11_init_6 : decode cX11_init 6 = .ok (.putfield 9, 3) := by decide +kernel
theorem dX11_init_9 : decode cX11_init 9 = .ok (.aload_n 0, 1) := by decide +kernel
theorem dX11_init_10 : decode cX11_init 10 = .ok (.new 13, 3) := by decide +kernel
theorem kw_180 : Cond.classLink "LandSurvey" 13 "LandSurvey$Land" ∈ uu := uu_in (i := 180) (by decide +kernel) (by decide +kernel)
theorem kw_181 : Cond.instantiable "LandSurvey$Land" 9 ∈ uu := uu_in (i := 181) (by decide +kernel) (by decide +kernel)
theorem kw_145 : Cond.initialized "LandSurvey$Land" ∈ uu := uu_in (i := 145) (by decide +kernel) (by decide +kernel)
theorem dX11_init_13 : decode cX11_init 13 = .ok (.dup, 1) := by decide +kernel
theorem dX11_init_14 : decode cX11_init 14 = .ok (.invokespecial 15, 3) := by decide +kernel
theorem kw_184 : Cond.code yX2_init prog_4_method_1_code 1 none ∈ uu := uu_in (i := 184) (by decide +kernel) (by decide +kernel)
theorem kw_182 : Cond.methodLink "LandSurvey" 15 yX2_init ∈ uu := uu_in (i := 182) (by decide +kernel) (by decide +kernel)
theorem kw_183 : Cond.instanceMethod yX2_init ∈ uu := uu_in (i := 183) (by decide +kernel) (by decide +kernel)
theorem lk_LandSurvey_15 : lkI "LandSurvey" 15 yX2_init cX2_init 1 none 0 := ⟨kw_182, kw_183, kw_145, kw_184, okX2_init, rfl⟩
theorem tbI_3_1003 : ∀ j, rI 3 j = rI 1003 j := tab_I (by decide +kernel)
theorem tbE_3_1003 : ∀ j, (rE 3 j).1 = (rE 1003 j).1 ∧ (rE 3 j).2.1 = (rE 1003 j).2.1 := tab_E (by decide +kernel)
theorem tbN_3 : ∀ j, (rE 3 j).2.2 = true → ([0, 1, 2, 3, 4, 6, 7] : List Nat).elem j = true := tab_N _ (by decide +kernel)
theorem dX11_init_17 : decode cX11_init 17 = .ok (.putfield 16, 3) := by decide +kernel
theorem pk_LandSurvey_2 : pk RX11 TX11 19 2 tyX11 true := ⟨tyX11_ok, nmX11, rfl⟩
theorem dX11_init_20 : decode cX11_init 20 = .ok (.aload_n 0, 1) := by decide +kernel
theorem dX11_init_21 : decode cX11_init 21 = .ok (.bipush 40, 2) := by decide +kernel
theorem dX11_init_23 : decode cX11_init 23 = .ok (.anewarray 20, 3) := by decide +kernel
theorem dX11_init_26 : decode cX11_init 26 = .ok (.putfield 22, 3) := by decide +kernel
theorem pk_LandSurvey_3 : pk RX11 TX11 19 3 tyX11 true := ⟨tyX11_ok, nmX11, rfl⟩
theorem dX11_init_29 : decode cX11_init 29 = .ok (.aload_n 0, 1) := by decide +kernel
theorem dX11_init_30 : decode cX11_init 30 = .ok (.new 26, 3) := by decide +kernel
theorem kw_228 : Cond.classLink "LandSurvey" 26 "LandSurvey$Reader" ∈ uu := uu_in (i := 228) (by decide +kernel) (by decide +kernel)
theorem kw_229 : Cond.instantiable "LandSurvey$Reader" 14 ∈ uu := uu_in (i := 229) (by decide +kernel) (by decide +kernel)
theorem dX11_init_33 : decode cX11_init 33 = .ok (.dup, 1) := by decide +kernel
theorem dX11_init_34 : decode cX11_init 34 = .ok (.invokespecial 28, 3) := by decide +kernel
theorem kw_232 : Cond.code yX3_init prog_5_method_1_code 1 none ∈ uu := uu_in (i := 232) (by decide +kernel) (by decide +kernel)
theorem kw_231 : Cond.instanceMethod yX3_init ∈ uu := uu_in (i := 231) (by decide +kernel) (by decide +kernel)
theorem lk_LandSurvey_28 : lkN yX3_init cX3_init 1 none 0 := ⟨kw_231, kw_147, kw_232, okX3_init, rfl⟩
theorem tbI_4_1004 : ∀ j, rI 4 j = rI 1004 j := tab_I (by decide +kernel)
theorem tbE_4_1004 : ∀ j, (rE 4 j).1 = (rE 1004 j).1 ∧ (rE 4 j).2.1 = (rE 1004 j).2.1 := tab_E (by decide +kernel)
theorem tbN_4 : ∀ j, (rE 4 j).2.2 = true → ([0, 11] : List Nat).elem j = true := tab_N _ (by decide +kernel)
theorem dX11_init_37 : decode cX11_init 37 = .ok (.putfield 29, 3) := by decide +kernel
theorem pk_LandSurvey_5 : pk RX11 TX11 19 5 tyX11 true := ⟨tyX11_ok, nmX11, rfl⟩
theorem dX11_init_40 : decode cX11_init 40 = .ok (.aload_n 0, 1) := by decide +kernel
theorem dX11_init_41 : decode cX11_init 41 = .ok (.new 33, 3) := by decide +kernel
theorem kw_280 : Cond.classLink "LandSurvey" 33 "LandSurvey$RuleBook" ∈ uu := uu_in (i := 280) (by decide +kernel) (by decide +kernel)
theorem kw_281 : Cond.instantiable "LandSurvey$RuleBook" 4 ∈ uu := uu_in (i := 281) (by decide +kernel) (by decide +kernel)
theorem dX11_init_44 : decode cX11_init 44 = .ok (.dup, 1) := by decide +kernel
theorem dX11_init_45 : decode cX11_init 45 = .ok (.invokespecial 35, 3) := by decide +kernel
theorem kw_284 : Cond.code yX4_init prog_6_method_1_code 1 none ∈ uu := uu_in (i := 284) (by decide +kernel) (by decide +kernel)
theorem kw_283 : Cond.instanceMethod yX4_init ∈ uu := uu_in (i := 283) (by decide +kernel) (by decide +kernel)
theorem lk_LandSurvey_35 : lkN yX4_init cX4_init 1 none 0 := ⟨kw_283, kw_148, kw_284, okX4_init, rfl⟩
theorem tbI_5_1005 : ∀ j, rI 5 j = rI 1005 j := tab_I (by decide +kernel)
theorem tbE_5_1005 : ∀ j, (rE 5 j).1 = (rE 1005 j).1 ∧ (rE 5 j).2.1 = (rE 1005 j).2.1 := tab_E (by decide +kernel)
theorem tbN_5 : ∀ j, (rE 5 j).2.2 = true → ([0, 1, 3] : List Nat).elem j = true := tab_N _ (by decide +kernel)
theorem dX11_init_48 : decode cX11_init 48 = .ok (.putfield 36, 3) := by decide +kernel
theorem pk_LandSurvey_6 : pk RX11 TX11 19 6 tyX11 true := ⟨tyX11_ok, nmX11, rfl⟩
theorem dX11_init_51 : decode cX11_init 51 = .ok (.aload_n 0, 1) := by decide +kernel
theorem dX11_init_52 : decode cX11_init 52 = .ok (.aload_n 0, 1) := by decide +kernel
theorem dX11_init_53 : decode cX11_init 53 = .ok (.getfield 36, 3) := by decide +kernel
theorem dX11_init_56 : decode cX11_init 56 = .ok (.getfield 40, 3) := by decide +kernel
theorem kw_382 : Cond.fieldLink "LandSurvey" 40 "LandSurvey$RuleBook" "empty" "LLandSurvey$Rules;" ∈ uu := uu_in (i := 382) (by decide +kernel) (by decide +kernel)
theorem fk_LandSurvey_40 : fkR "LandSurvey" 40 4 3 RX4 TX4 4 := ⟨rfl, rfl, inX4, by decide, kw_382, by decide⟩
theorem dX11_init_59 : decode cX11_init 59 = .ok (.putfield 44, 3) := by decide +kernel
theorem dX11_init_62 : decode cX11_init 62 = .ok (.aload_n 0, 1) := by decide +kernel
theorem dX11_init_63 : decode cX11_init 63 = .ok (.iconst 4, 1) := by decide +kernel
theorem dX11_init_64 : decode cX11_init 64 = .ok (.anewarray 47, 3) := by decide +kernel
theorem dX11_init_67 : decode cX11_init 67 = .ok (.putfield 49, 3) := by decide +kernel
theorem pk_LandSurvey_8 : pk RX11 TX11 19 8 tyX11 true := ⟨tyX11_ok, nmX11, rfl⟩
theorem dX11_init_70 : decode cX11_init 70 = .ok (.aload_n 0, 1) := by decide +kernel
theorem dX11_init_71 : decode cX11_init 71 = .ok (.bipush 10, 2) := by decide +kernel
theorem dX11_init_73 : decode cX11_init 73 = .ok (.anewarray 53, 3) := by decide +kernel
theorem dX11_init_76 : decode cX11_init 76 = .ok (.putfield 55, 3) := by decide +kernel
theorem pk_LandSurvey_11 : pk RX11 TX11 19 11 tyX11 true := ⟨tyX11_ok, nmX11, rfl⟩
theorem dX11_init_79 : decode cX11_init 79 = .ok (.aload_n 0, 1) := by decide +kernel
theorem dX11_init_80 : decode cX11_init 80 = .ok (.new 59, 3) := by decide +kernel
theorem kw_396 : Cond.classLink "LandSurvey" 59 "LandSurvey$Search" ∈ uu := uu_in (i := 396) (by decide +kernel) (by decide +kernel)
theorem kw_397 : Cond.instantiable "LandSurvey$Search" 13 ∈ uu := uu_in (i := 397) (by decide +kernel) (by decide +kernel)
theorem dX11_init_83 : decode cX11_init 83 = .ok (.dup, 1) := by decide +kernel
theorem dX11_init_84 : decode cX11_init 84 = .ok (.aload_n 0, 1) := by decide +kernel
theorem dX11_init_85 : decode cX11_init 85 = .ok (.getfield 22, 3) := by decide +kernel
theorem dX11_init_88 : decode cX11_init 88 = .ok (.aload_n 0, 1) := by decide +kernel
theorem dX11_init_89 : decode cX11_init 89 = .ok (.getfield 49, 3) := by decide +kernel
theorem dX11_init_92 : decode cX11_init 92 = .ok (.invokespecial 61, 3) := by decide +kernel
theorem kw_400 : Cond.code yX6_init prog_8_method_1_code 3 none ∈ uu := uu_in (i := 400) (by decide +kernel) (by decide +kernel)
theorem kw_398 : Cond.methodLink "LandSurvey" 61 yX6_init ∈ uu := uu_in (i := 398) (by decide +kernel) (by decide +kernel)
theorem kw_399 : Cond.instanceMethod yX6_init ∈ uu := uu_in (i := 399) (by decide +kernel) (by decide +kernel)
theorem lk_LandSurvey_61 : lkI "LandSurvey" 61 yX6_init cX6_init 3 none 2 := ⟨kw_398, kw_399, kw_150, kw_400, okX6_init, rfl⟩
theorem tbI_7_1007 : ∀ j, rI 7 j = rI 1007 j := tab_I (by decide +kernel)
theorem tbE_7_1007 : ∀ j, (rE 7 j).1 = (rE 1007 j).1 ∧ (rE 7 j).2.1 = (rE 1007 j).2.1 := tab_E (by decide +kernel)
theorem tbN_7 : ∀ j, (rE 7 j).2.2 = true → ([0, 1, 2, 6, 7, 8, 9, 10, 11] : List Nat).elem j = true := tab_N _ (by decide +kernel)
theorem dX11_init_95 : decode cX11_init 95 = .ok (.putfield 64, 3) := by decide +kernel
theorem pk_LandSurvey_13 : pk RX11 TX11 19 13 tyX11 true := ⟨tyX11_ok, nmX11, rfl⟩
theorem dX11_init_98 : decode cX11_init 98 = .ok (.aload_n 0, 1) := by decide +kernel
theorem dX11_init_99 : decode cX11_init 99 = .ok (.bipush 16, 2) := by decide +kernel
theorem dX11_init_101 : decode cX11_init 101 = .ok (.anewarray 68, 3) := by decide +kernel
theorem dX11_init_104 : decode cX11_init 104 = .ok (.putfield 70, 3) := by decide +kernel
theorem pk_LandSurvey_14 : pk RX11 TX11 19 14 tyX11 true := ⟨tyX11_ok, nmX11, rfl⟩
theorem dX11_init_107 : decode cX11_init 107 = .ok (.aload_n 0, 1) := by decide +kernel
theorem dX11_init_108 : decode cX11_init 108 = .ok (.bipush 12, 2) := by decide +kernel
theorem dX11_init_110 : decode cX11_init 110 = .ok (.newarray .int, 2) := by decide +kernel
theorem dX11_init_112 : decode cX11_init 112 = .ok (.putfield 74, 3) := by decide +kernel
theorem pk_LandSurvey_18 : pk RX11 TX11 19 18 tyX11 true := ⟨tyX11_ok, nmX11, rfl⟩
theorem dX11_init_115 : decode cX11_init 115 = .ok (.return_, 1) := by decide +kernel
def wr_k_X4_init : List Nat := [201000, 201001, 201003, 201201, 201202, 201203, 201204, 201205, 201207, 201208, 201211, 201212, 201214, 201215, 201216, 201217, 201218, 5620000, 1000000006, 1000001006, 1000002006, 1000021100, 1000022108, 1000023102, 1000024100, 1000025100, 1000026100, 1000027100, 1000028100, 1000029100, 1000030100, 1000031100, 1000032100, 1000033100, 1000034100, 1000035100, 1000036100, 1000037100]
set_option maxRecDepth 100000 in
set_option maxHeartbeats 4000000 in
theorem k_X4_init (l : Launch) (D : va_G) (cy : Nat → ClassId) (w : Nat → Nat) (z0 : Nat)  {h : Hp} {a0 : Nat}  (O : Okh h) (ta0 : Tg h a0 = 1005) (P_ND : ND h) : MV l D cy w z0 yX4_init cX4_init 1 none 2 44 15 229 [.inr (.inr a0)] h (fun h1 => Okh h1 ∧ Fx wr_k_X4_init h h1 ∧ (¬ Rv h1 a0 0 = 0) ∧ (¬ Rv h1 a0 1 = 0) ∧ (¬ Rv h1 a0 3 = 0) ∧ (ND h1) ∧ (RulesOk h1 (Rv h1 a0 3))) := by
  refine hm_go (by decide +kernel) (Nat.le_of_ble_eq_true rfl) (fun p e s m below meth c C hr hn => ?_)
  refine g_aload_n C rfl 0 rfl dX4_init_0 ?_
  refine g_oinit C (tg_nz ta0) kw_285 kw_178 (by decide) (Nat.le_of_ble_eq_true rfl) dX4_init_1 ?_
  refine g_aload_n C rfl 0 rfl dX4_init_4 ?_
  refine g_bipush C (by decide) dX4_init_5 ?_
  refine g_newa (atype := .int) (t := 0) (ty := .int) (N := 8) C 21100 rfl (iw (il 8) (by decide) (by decide)) (by decide) rfl kw_224 rfl (fun _ => rfl) (by decide) (by decide) (by decide) (by decide) dX4_init_7 (fun n1 z2 z3 h5 hh4 => ?_)
  have O6 := O.pN z2 z3 hh4 (by decide) nn_21100
  have e7 : Tg h5 a0 = 1005 := ((pNT hh4 (pN_n hh4 z3 ta0)).trans ta0)
  refine gp_RF C fk_LandSurvey_RuleBook_9 pk_LandSurvey_RuleBook_0 rfl e7 hn rfl (nf_a _ _) dX4_init_9 (fun h9 hh8 => ?_)
  have O10 := O6.pR e7 hh8 (okR_l rE_1005_0 (pN_T hh4) (pN_L hh4))
  refine g_aload_n C rfl 0 rfl dX4_init_12 ?_
  refine g_bipush C (by decide) dX4_init_13 ?_
  refine g_newq (t := 8) C 22108 rfl (iw (il 8) (by decide) (by decide)) (by decide) (by decide) kw_286 C.2.1.2.1.2.2.2.2 rfl (by decide) (by decide) (by decide) dX4_init_15 (fun n11 z12 z13 h15 hh14 => ?_)
  have O16 := O10.pN z12 z13 hh14 (by decide) nn_22108
  have e17 : Tg h15 a0 = 1005 := ((pNT hh14 (pN_n hh14 z13 ((pRT hh8).trans e7))).trans ((pRT hh8).trans e7))
  refine gp_RF C fk_LandSurvey_RuleBook_17 pk_LandSurvey_RuleBook_1 rfl e17 hn rfl (nf_a _ _) dX4_init_18 (fun h19 hh18 => ?_)
  have O20 := O16.pR e17 hh18 (okR_l rE_1005_1 (pN_T hh14) (pN_L hh14))
  refine g_aload_n C rfl 0 rfl dX4_init_21 ?_
  refine g_new C 1006 rfl rfl rfl inX5 tyX5 tyX5_ok kw_286 kw_288 kw_149 (by decide +kernel) (by decide) (by decide) dX4_init_22 (fun n21 z22 z23 h25 hh24 => ?_)
  have O26 := O20.pN z22 z23 hh24 (by decide) nn_1006
  refine g_dup C rfl dX4_init_25 ?_
  refine g_callV (st := [.inr (.inr n21), .inr (.inr a0)]) (gc_I C lk_LandSurvey_RuleBook_21 rfl (k_X5_init l D cy w z0 O26 (pN_T hh24)) (tg_nz (pN_T hh24)) rfl ⟨by decide, by decide⟩ (Nat.le_of_ble_eq_true rfl) dX4_init_26 ⟨(by decide), (by decide)⟩) (fun h28 K29 => ?_)
  obtain ⟨O31, F32, p33, p34, p35, p36, p37, p38, p39, p40, p41, p42, p43, p44, p45, p46, p47⟩ := K29
  have p48 := (ND_fx ((Fx.rf (wr := [201001]) (h := h15)).pR e17 hh18 rfl) rfl rfl (ND_fx ((Fx.rf (wr := [1000022108]) (h := h9)).pN z13 hh14 rfl) rfl rfl (ND_fx ((Fx.rf (wr := [201000]) (h := h5)).pR e7 hh8 rfl) rfl rfl (ND_fx ((Fx.rf (wr := [1000021100]) (h := h)).pN z3 hh4 rfl) rfl rfl P_ND))))
  have p49 := DU_new p48 hh24
  have p50 := DU_fx F32 rfl rfl p49
  obtain ⟨v51, e52⟩ : ∃ z, Rv h28 n21 14 = z := ⟨_, rfl⟩
  have e53 : Tg h28 n21 = 1006 := (fxT F32 (pN_T hh24))
  have t54 := ok_N O31 e53 rE_1006_14 e52 (by rw [← e52]; exact p40)
  have l55 := ok_NL O31 e53 rE_1006_14 e52 (by rw [← e52]; exact p40)
  have z56 := p45
  rw [e52] at z56
  obtain ⟨v57, e58⟩ : ∃ z, Rv h28 n21 15 = z := ⟨_, rfl⟩
  have t59 := ok_N O31 e53 rE_1006_15 e58 (by rw [← e58]; exact p41)
  have l60 := ok_NL O31 e53 rE_1006_15 e58 (by rw [← e58]; exact p41)
  have z61 := p46
  rw [e58] at z61
  obtain ⟨v62, e63⟩ : ∃ z, Rv h28 n21 16 = z := ⟨_, rfl⟩
  have t64 := ok_N O31 e53 rE_1006_16 e63 (by rw [← e63]; exact p42)
  have l65 := ok_NL O31 e53 rE_1006_16 e63 (by rw [← e63]; exact p42)
  have z66 := p47
  rw [e63] at z66
  refine g_rt (T0 := 1005) (T1 := 2005) e53 rfl (fun h68 hh67 => ?_)
  have O69 := O31.rt1 (T0 := 2006) (T1 := 1005) e53 hh67 nu_1006 tbI_2006_1006 tbE_2006_1006 (fun j hj => by
      have z := List.elem_iff.mp (tbN_2006 j hj)
      simp only [List.mem_cons, List.not_mem_nil, or_false] at z
      rcases z with rfl | rfl | rfl | rfl | rfl | rfl | rfl | rfl | rfl | rfl | rfl | rfl
      · exact p33
      · exact p34
      · exact p35
      · exact p36
      · exact p37
      · exact p38
      · exact p39
      · exact p40
      · exact p41
      · exact p42
      · exact p43
      · exact p44)
  have e70 : Ln h68 n21 = 0 := ((pTL hh67).trans ((fxL F32 (pN_T hh24)).trans (pN_L hh24)))
  have e71 : Rv h68 n21 14 = v51 := ((pTR hh67).trans e52)
  have e72 : Tg h68 v51 = 31100 := ((pTT hh67 (ne_tag t54 e53 (by decide))).trans t54)
  have e73 : Ln h68 v51 = 24 := ((pTL hh67).trans l55)
  have e74 : Rv h68 n21 15 = v57 := ((pTR hh67).trans e58)
  have e75 : Tg h68 v57 = 33100 := ((pTT hh67 (ne_tag t59 e53 (by decide))).trans t59)
  have e76 : Ln h68 v57 = 24 := ((pTL hh67).trans l60)
  have e77 : Rv h68 n21 16 = v62 := ((pTR hh67).trans e63)
  have e78 : Tg h68 v62 = 35100 := ((pTT hh67 (ne_tag t64 e53 (by decide))).trans t64)
  have e79 : Ln h68 v62 = 24 := ((pTL hh67).trans l65)
  have e80 : Iv h68 n21 13 = 0 := ((pTI hh67).trans ((fxI F32 (pN_T hh24) rfl).trans (pN_I hh24)))
  have p81 := DU_rt p50 hh67
  have F82 : Fx [201201, 201202, 201203, 201204, 201205, 201207, 201208, 201211, 201212, 201214, 201215, 201216, 201217, 201218, 5620000, 1000001006, 1000002006, 1000023102, 1000024100, 1000025100, 1000026100, 1000027100, 1000028100, 1000029100, 1000031100, 1000033100, 1000035100, 1000036100, 1000037100] h19 h68 := ((((Fx.rf (wr := [201201, 201202, 201203, 201204, 201205, 201207, 201208, 201211, 201212, 201214, 201215, 201216, 201217, 201218, 5620000, 1000001006, 1000002006, 1000023102, 1000024100, 1000025100, 1000026100, 1000027100, 1000028100, 1000029100, 1000031100, 1000033100, 1000035100, 1000036100, 1000037100]) (h := h19)).pN z23 hh24 rfl).call F32 rfl).pT (nt_of (Fx.rf (wr := [201201, 201202, 201203, 201204, 201205, 201207, 201208, 201211, 201212, 201214, 201215, 201216, 201217, 201218, 5620000, 1000001006, 1000002006, 1000023102, 1000024100, 1000025100, 1000026100, 1000027100, 1000028100, 1000029100, 1000031100, 1000033100, 1000035100, 1000036100, 1000037100]) (h := h19)) z23) hh67 rfl)
  have p83 : RulesOk h68 n21 := fun k hk => absurd hk (by rw [e80]; omega)
  refine g_rt (T0 := 2005) (T1 := 5) (pT_T hh67) rfl (fun h85 hh84 => ?_)
  have e86 : Tg h85 v51 = 31100 := ((pTT hh84 (ne_tag e72 (pT_T hh67) (by decide))).trans e72)
  refine g_rt (T0 := 31099) (T1 := 30099) e86 rfl (fun h88 hh87 => ?_)
  have e89 : Tg h88 v57 = 33100 := ((pTT hh87 (ne_tag ((pTT hh84 (ne_tag e75 (pT_T hh67) (by decide))).trans e75) e86 (by decide))).trans ((pTT hh84 (ne_tag e75 (pT_T hh67) (by decide))).trans e75))
  refine g_rt (T0 := 33099) (T1 := 32099) e89 rfl (fun h91 hh90 => ?_)
  have e92 : Tg h91 v62 = 35100 := ((pTT hh90 (ne_tag ((pTT hh87 (ne_tag ((pTT hh84 (ne_tag e78 (pT_T hh67) (by decide))).trans e78) e86 (by decide))).trans ((pTT hh84 (ne_tag e78 (pT_T hh67) (by decide))).trans e78)) e89 (by decide))).trans ((pTT hh87 (ne_tag ((pTT hh84 (ne_tag e78 (pT_T hh67) (by decide))).trans e78) e86 (by decide))).trans ((pTT hh84 (ne_tag e78 (pT_T hh67) (by decide))).trans e78)))
  refine g_rt (T0 := 35099) (T1 := 34099) e92 rfl (fun h94 hh93 => ?_)
  have O95 := fin_rules O69 p81 (pT_T hh67) e71 e74 e77 hh84 hh87 hh90 hh93
  have p96 := (ND_rt2 (ND_rt2 (ND_rt2 (ND_rt p81 hh84 ⟨by decide, by decide⟩) hh87 ⟨by decide, by decide⟩) hh90 ⟨by decide, by decide⟩) hh93 ⟨by decide, by decide⟩)
  have p97 := (RulesOk_rt hh93 (RulesOk_rt hh90 (RulesOk_rt hh87 (RulesOk_rt hh84 p83))))
  have e98 : Tg h94 a0 = 1005 := ((pTT hh93 (ne_tag ((pTT hh90 (ne_tag ((pTT hh87 (ne_tag ((pTT hh84 (ne_tag (fxT F82 ((pRT hh18).trans e17)) (pT_T hh67) (by decide))).trans (fxT F82 ((pRT hh18).trans e17))) e86 (by decide))).trans ((pTT hh84 (ne_tag (fxT F82 ((pRT hh18).trans e17)) (pT_T hh67) (by decide))).trans (fxT F82 ((pRT hh18).trans e17)))) e89 (by decide))).trans ((pTT hh87 (ne_tag ((pTT hh84 (ne_tag (fxT F82 ((pRT hh18).trans e17)) (pT_T hh67) (by decide))).trans (fxT F82 ((pRT hh18).trans e17))) e86 (by decide))).trans ((pTT hh84 (ne_tag (fxT F82 ((pRT hh18).trans e17)) (pT_T hh67) (by decide))).trans (fxT F82 ((pRT hh18).trans e17))))) e92 (by decide))).trans ((pTT hh90 (ne_tag ((pTT hh87 (ne_tag ((pTT hh84 (ne_tag (fxT F82 ((pRT hh18).trans e17)) (pT_T hh67) (by decide))).trans (fxT F82 ((pRT hh18).trans e17))) e86 (by decide))).trans ((pTT hh84 (ne_tag (fxT F82 ((pRT hh18).trans e17)) (pT_T hh67) (by decide))).trans (fxT F82 ((pRT hh18).trans e17)))) e89 (by decide))).trans ((pTT hh87 (ne_tag ((pTT hh84 (ne_tag (fxT F82 ((pRT hh18).trans e17)) (pT_T hh67) (by decide))).trans (fxT F82 ((pRT hh18).trans e17))) e86 (by decide))).trans ((pTT hh84 (ne_tag (fxT F82 ((pRT hh18).trans e17)) (pT_T hh67) (by decide))).trans (fxT F82 ((pRT hh18).trans e17))))))
  refine gp_RF C fk_LandSurvey_RuleBook_22 pk_LandSurvey_RuleBook_3 rfl e98 hn rfl (nf_o _ _) dX4_init_29 (fun h100 hh99 => ?_)
  have e102 : Tg h94 n21 = 6 := ((pTT hh93 (ne_tag ((pTT hh90 (ne_tag ((pTT hh87 (ne_tag (pT_T hh84) e86 (by decide))).trans (pT_T hh84)) e89 (by decide))).trans ((pTT hh87 (ne_tag (pT_T hh84) e86 (by decide))).trans (pT_T hh84))) e92 (by decide))).trans ((pTT hh90 (ne_tag ((pTT hh87 (ne_tag (pT_T hh84) e86 (by decide))).trans (pT_T hh84)) e89 (by decide))).trans ((pTT hh87 (ne_tag (pT_T hh84) e86 (by decide))).trans (pT_T hh84))))
  have O101 := O95.pR e98 hh99 (okR_o rE_1005_3 e102)
  have e103 : Tg h9 a0 = 1005 := ((pRT hh8).trans e7)
  have e104 : Tg h19 a0 = 1005 := ((pRT hh18).trans e17)
  have e105 : Rv h100 a0 0 = n1 := ((pR_j hh99 (by decide)).trans ((pTR hh93).trans ((pTR hh90).trans ((pTR hh87).trans ((pTR hh84).trans ((fxR F82 e104 rfl).trans ((pR_j hh18 (by decide)).trans ((pNR hh14 (pN_n hh14 z13 e103)).trans (pR_e hh8)))))))))
  have e106 : Tg h100 n1 = 21100 := ((pRT hh99).trans ((pTT hh93 (ne_tag ((pTT hh90 (ne_tag ((pTT hh87 (ne_tag ((pTT hh84 (ne_tag (fxT F82 ((pRT hh18).trans ((pNT hh14 (pN_n hh14 z13 ((pRT hh8).trans (pN_T hh4)))).trans ((pRT hh8).trans (pN_T hh4))))) (pT_T hh67) (by decide))).trans (fxT F82 ((pRT hh18).trans ((pNT hh14 (pN_n hh14 z13 ((pRT hh8).trans (pN_T hh4)))).trans ((pRT hh8).trans (pN_T hh4)))))) e86 (by decide))).trans ((pTT hh84 (ne_tag (fxT F82 ((pRT hh18).trans ((pNT hh14 (pN_n hh14 z13 ((pRT hh8).trans (pN_T hh4)))).trans ((pRT hh8).trans (pN_T hh4))))) (pT_T hh67) (by decide))).trans (fxT F82 ((pRT hh18).trans ((pNT hh14 (pN_n hh14 z13 ((pRT hh8).trans (pN_T hh4)))).trans ((pRT hh8).trans (pN_T hh4))))))) e89 (by decide))).trans ((pTT hh87 (ne_tag ((pTT hh84 (ne_tag (fxT F82 ((pRT hh18).trans ((pNT hh14 (pN_n hh14 z13 ((pRT hh8).trans (pN_T hh4)))).trans ((pRT hh8).trans (pN_T hh4))))) (pT_T hh67) (by decide))).trans (fxT F82 ((pRT hh18).trans ((pNT hh14 (pN_n hh14 z13 ((pRT hh8).trans (pN_T hh4)))).trans ((pRT hh8).trans (pN_T hh4)))))) e86 (by decide))).trans ((pTT hh84 (ne_tag (fxT F82 ((pRT hh18).trans ((pNT hh14 (pN_n hh14 z13 ((pRT hh8).trans (pN_T hh4)))).trans ((pRT hh8).trans (pN_T hh4))))) (pT_T hh67) (by decide))).trans (fxT F82 ((pRT hh18).trans ((pNT hh14 (pN_n hh14 z13 ((pRT hh8).trans (pN_T hh4)))).trans ((pRT hh8).trans (pN_T hh4)))))))) e92 (by decide))).trans ((pTT hh90 (ne_tag ((pTT hh87 (ne_tag ((pTT hh84 (ne_tag (fxT F82 ((pRT hh18).trans ((pNT hh14 (pN_n hh14 z13 ((pRT hh8).trans (pN_T hh4)))).trans ((pRT hh8).trans (pN_T hh4))))) (pT_T hh67) (by decide))).trans (fxT F82 ((pRT hh18).trans ((pNT hh14 (pN_n hh14 z13 ((pRT hh8).trans (pN_T hh4)))).trans ((pRT hh8).trans (pN_T hh4)))))) e86 (by decide))).trans ((pTT hh84 (ne_tag (fxT F82 ((pRT hh18).trans ((pNT hh14 (pN_n hh14 z13 ((pRT hh8).trans (pN_T hh4)))).trans ((pRT hh8).trans (pN_T hh4))))) (pT_T hh67) (by decide))).trans (fxT F82 ((pRT hh18).trans ((pNT hh14 (pN_n hh14 z13 ((pRT hh8).trans (pN_T hh4)))).trans ((pRT hh8).trans (pN_T hh4))))))) e89 (by decide))).trans ((pTT hh87 (ne_tag ((pTT hh84 (ne_tag (fxT F82 ((pRT hh18).trans ((pNT hh14 (pN_n hh14 z13 ((pRT hh8).trans (pN_T hh4)))).trans ((pRT hh8).trans (pN_T hh4))))) (pT_T hh67) (by decide))).trans (fxT F82 ((pRT hh18).trans ((pNT hh14 (pN_n hh14 z13 ((pRT hh8).trans (pN_T hh4)))).trans ((pRT hh8).trans (pN_T hh4)))))) e86 (by decide))).trans ((pTT hh84 (ne_tag (fxT F82 ((pRT hh18).trans ((pNT hh14 (pN_n hh14 z13 ((pRT hh8).trans (pN_T hh4)))).trans ((pRT hh8).trans (pN_T hh4))))) (pT_T hh67) (by decide))).trans (fxT F82 ((pRT hh18).trans ((pNT hh14 (pN_n hh14 z13 ((pRT hh8).trans (pN_T hh4)))).trans ((pRT hh8).trans (pN_T hh4))))))))))
  have e107 : Rv h100 a0 1 = n11 := ((pR_j hh99 (by decide)).trans ((pTR hh93).trans ((pTR hh90).trans ((pTR hh87).trans ((pTR hh84).trans ((fxR F82 e104 rfl).trans (pR_e hh18)))))))
  have e108 : Tg h100 n11 = 22108 := ((pRT hh99).trans ((pTT hh93 (ne_tag ((pTT hh90 (ne_tag ((pTT hh87 (ne_tag ((pTT hh84 (ne_tag (fxT F82 ((pRT hh18).trans (pN_T hh14))) (pT_T hh67) (by decide))).trans (fxT F82 ((pRT hh18).trans (pN_T hh14)))) e86 (by decide))).trans ((pTT hh84 (ne_tag (fxT F82 ((pRT hh18).trans (pN_T hh14))) (pT_T hh67) (by decide))).trans (fxT F82 ((pRT hh18).trans (pN_T hh14))))) e89 (by decide))).trans ((pTT hh87 (ne_tag ((pTT hh84 (ne_tag (fxT F82 ((pRT hh18).trans (pN_T hh14))) (pT_T hh67) (by decide))).trans (fxT F82 ((pRT hh18).trans (pN_T hh14)))) e86 (by decide))).trans ((pTT hh84 (ne_tag (fxT F82 ((pRT hh18).trans (pN_T hh14))) (pT_T hh67) (by decide))).trans (fxT F82 ((pRT hh18).trans (pN_T hh14)))))) e92 (by decide))).trans ((pTT hh90 (ne_tag ((pTT hh87 (ne_tag ((pTT hh84 (ne_tag (fxT F82 ((pRT hh18).trans (pN_T hh14))) (pT_T hh67) (by decide))).trans (fxT F82 ((pRT hh18).trans (pN_T hh14)))) e86 (by decide))).trans ((pTT hh84 (ne_tag (fxT F82 ((pRT hh18).trans (pN_T hh14))) (pT_T hh67) (by decide))).trans (fxT F82 ((pRT hh18).trans (pN_T hh14))))) e89 (by decide))).trans ((pTT hh87 (ne_tag ((pTT hh84 (ne_tag (fxT F82 ((pRT hh18).trans (pN_T hh14))) (pT_T hh67) (by decide))).trans (fxT F82 ((pRT hh18).trans (pN_T hh14)))) e86 (by decide))).trans ((pTT hh84 (ne_tag (fxT F82 ((pRT hh18).trans (pN_T hh14))) (pT_T hh67) (by decide))).trans (fxT F82 ((pRT hh18).trans (pN_T hh14))))))))
  have e109 : Tg h100 n21 = 6 := ((pRT hh99).trans e102)
  have p110 := (ND_fx ((Fx.rf (wr := [201003]) (h := h94)).pR e98 hh99 rfl) rfl rfl p96)
  have p111 := (RulesOk_fx O95 ((Fx.rf (wr := [201003]) (h := h94)).pR e98 hh99 rfl) e102 rfl p97)
  exact g_vret C hr ⟨O101, (((((((((((Fx.rf (wr := wr_k_X4_init)).pN z3 hh4 rfl).pR e7 hh8 rfl).pN z13 hh14 rfl).pR e17 hh18 rfl).call F82 rfl).pT (nt_of (((((Fx.rf (wr := wr_k_X4_init) (h := h)).pN z3 hh4 rfl).pR e7 hh8 rfl).pN z13 hh14 rfl).pR e17 hh18 rfl) z23) hh84 rfl).pT (nt_of ((((((Fx.rf (wr := wr_k_X4_init) (h := h)).pN z3 hh4 rfl).pR e7 hh8 rfl).pN z13 hh14 rfl).pR e17 hh18 rfl).pN z23 hh24 rfl) z56) hh87 rfl).pT (nt_of ((((((Fx.rf (wr := wr_k_X4_init) (h := h)).pN z3 hh4 rfl).pR e7 hh8 rfl).pN z13 hh14 rfl).pR e17 hh18 rfl).pN z23 hh24 rfl) z61) hh90 rfl).pT (nt_of ((((((Fx.rf (wr := wr_k_X4_init) (h := h)).pN z3 hh4 rfl).pR e7 hh8 rfl).pN z13 hh14 rfl).pR e17 hh18 rfl).pN z23 hh24 rfl) z66) hh93 rfl).pR e98 hh99 rfl), (by rw [e105]; exact nz_of O101 e106), (by rw [e107]; exact nz_of O101 e108), (by rw [(pR_e hh99)]; exact nz_of O101 e109), p110, (by rw [(pR_e hh99)]; exact p111)⟩ (by decide) (by decide) dX4_init_32
def wr_k_X11_init : List Nat := [200600, 200601, 200602, 200603, 200604, 200606, 200607, 200800, 200811, 201000, 201001, 201003, 201201, 201202, 201203, 201204, 201205, 201207, 201208, 201211, 201212, 201214, 201215, 201216, 201217, 201218, 201400, 201401, 201402, 201406, 201407, 201408, 201409, 201410, 201411, 202000, 202001, 202002, 202201, 202202, 202203, 202205, 202206, 202207, 202208, 202211, 202213, 202214, 202218, 2420000, 3020000, 5620000, 1000000003, 1000000004, 1000000005, 1000000006, 1000000007, 1000000010, 1000001003, 1000001004, 1000001005, 1000001006, 1000001007, 1000001010, 1000002006, 1000012100, 1000013101, 1000014101, 1000015100, 1000016101, 1000017100, 1000018100, 1000019103, 1000020100, 1000021100, 1000022108, 1000023102, 1000024100, 1000025100, 1000026100, 1000027100, 1000028100, 1000029100, 1000030100, 1000031100, 1000032100, 1000033100, 1000034100, 1000035100, 1000036100, 1000037100, 1000038104, 1000039105, 1000040100, 1000041102, 1000042102, 1000043100, 1000045100, 1000046102, 1000047100, 1000048106, 1000049107, 1000050100]
set_option maxRecDepth 100000 in
set_option maxHeartbeats 4000000 in
theorem k_X11_init (l : Launch) (D : va_G) (cy : Nat → ClassId) (w : Nat → Nat) (z0 : Nat)  {h : Hp} {a0 : Nat}  (O : Okh h) (ta0 : Tg h a0 = 1011) (P_ND : ND h) (P_z : Iv h a0 4 = 0 ∧ Iv h a0 9 = 0 ∧ Iv h a0 12 = 0 ∧ Iv h a0 15 = 0) : MV l D cy w z0 yX11_init cX11_init 1 none 3 66 48 5500 [.inr (.inr a0)] h (fun h1 => Okh h1 ∧ Fx wr_k_X11_init h h1 ∧ (¬ Rv h1 a0 2 = 0) ∧ (¬ Rv h1 a0 3 = 0) ∧ (¬ Rv h1 a0 5 = 0) ∧ (¬ Rv h1 a0 6 = 0) ∧ (¬ Rv h1 a0 7 = 0) ∧ (¬ Rv h1 a0 8 = 0) ∧ (¬ Rv h1 a0 11 = 0) ∧ (¬ Rv h1 a0 13 = 0) ∧ (¬ Rv h1 a0 14 = 0) ∧ (¬ Rv h1 a0 18 = 0) ∧ (XInv h1 a0)) := by
  refine hm_go (by decide +kernel) (Nat.le_of_ble_eq_true rfl) (fun p e s m below meth c C hr hn => ?_)
  refine g_aload_n C rfl 0 rfl dX11_init_0 ?_
  refine g_oinit C (tg_nz ta0) kw_177 kw_178 (by decide) (Nat.le_of_ble_eq_true rfl) dX11_init_1 ?_
  refine g_aload_n C rfl 0 rfl dX11_init_4 ?_
  refine g_iconst C dX11_init_5 ?_
  refine gp_I C fk_LandSurvey_9 pk_LandSurvey_1 rfl ta0 (iw (il (-1)) (by decide) (by decide)) (nf_i _) dX11_init_6 (fun h2 hh1 => ?_)
  have O3 := O.pI ta0 hh1 rI_1011_1 (iw (il (-1)) (by decide) (by decide)) nofun
  refine g_aload_n C rfl 0 rfl dX11_init_9 ?_
  refine g_new C 1003 rfl rfl rfl inX2 tyX2 tyX2_ok kw_180 kw_181 kw_145 (by decide +kernel) (by decide) (by decide) dX11_init_10 (fun n4 z5 z6 h8 hh7 => ?_)
  have O9 := O3.pN z5 z6 hh7 (by decide) nn_1003
  refine g_dup C rfl dX11_init_13 ?_
  refine g_callV (st := [.inr (.inr n4), .inr (.inr a0)]) (gc_I C lk_LandSurvey_15 rfl (k_X2_init l D cy w z0 O9 (pN_T hh7)) (tg_nz (pN_T hh7)) rfl ⟨by decide, by decide⟩ (Nat.le_of_ble_eq_true rfl) dX11_init_14 ⟨(by decide), (by decide)⟩) (fun h11 K12 => ?_)
  obtain ⟨O14, F15, p16, p17, p18, p19, p20, p21, p22⟩ := K12
  have e23 : Tg h11 n4 = 1003 := (fxT F15 (pN_T hh7))
  refine g_rt (T0 := 1002) (T1 := 2) e23 rfl (fun h25 hh24 => ?_)
  have O26 := O14.rt1 (T0 := 3) (T1 := 1002) e23 hh24 nu_1003 tbI_3_1003 tbE_3_1003 (fun j hj => by
      have z := List.elem_iff.mp (tbN_3 j hj)
      simp only [List.mem_cons, List.not_mem_nil, or_false] at z
      rcases z with rfl | rfl | rfl | rfl | rfl | rfl | rfl
      · exact p16
      · exact p17
      · exact p18
      · exact p19
      · exact p20
      · exact p21
      · exact p22)
  have e27 : Ln h25 n4 = 0 := ((pTL hh24).trans ((fxL F15 (pN_T hh7)).trans (pN_L hh7)))
  have F28 : Fx [200600, 200601, 200602, 200603, 200604, 200606, 200607, 2420000, 3020000, 1000000003, 1000001003, 1000012100, 1000013101, 1000014101, 1000015100, 1000016101, 1000017100, 1000018100] h2 h25 := ((((Fx.rf (wr := [200600, 200601, 200602, 200603, 200604, 200606, 200607, 2420000, 3020000, 1000000003, 1000001003, 1000012100, 1000013101, 1000014101, 1000015100, 1000016101, 1000017100, 1000018100]) (h := h2)).pN z6 hh7 rfl).call F15 rfl).pT (nt_of (Fx.rf (wr := [200600, 200601, 200602, 200603, 200604, 200606, 200607, 2420000, 3020000, 1000000003, 1000001003, 1000012100, 1000013101, 1000014101, 1000015100, 1000016101, 1000017100, 1000018100]) (h := h2)) z6) hh24 rfl)
  have e29 : Tg h25 a0 = 1011 := (fxT F28 ((pIT hh1).trans ta0))
  refine gp_RF C fk_LandSurvey_16 pk_LandSurvey_2 rfl e29 hn rfl (nf_o _ _) dX11_init_17 (fun h31 hh30 => ?_)
  have O32 := O26.pR e29 hh30 (okR_o rE_1011_2 (pT_T hh24))
  refine g_aload_n C rfl 0 rfl dX11_init_20 ?_
  refine g_bipush C (by decide) dX11_init_21 ?_
  refine g_newq (t := 4) C 38104 rfl (iw (il 40) (by decide) (by decide)) (by decide) (by decide) kw_226 C.2.1.2.1.1 rfl (by decide) (by decide) (by decide) dX11_init_23 (fun n33 z34 z35 h37 hh36 => ?_)
  have O38 := O32.pN z34 z35 hh36 (by decide) nn_38104
  have e39 : Tg h37 a0 = 1011 := ((pNT hh36 (pN_n hh36 z35 ((pRT hh30).trans e29))).trans ((pRT hh30).trans e29))
  refine gp_RF C fk_LandSurvey_22 pk_LandSurvey_3 rfl e39 hn rfl (nf_a _ _) dX11_init_26 (fun h41 hh40 => ?_)
  have O42 := O38.pR e39 hh40 (okR_l rE_1011_3 (pN_T hh36) (pN_L hh36))
  refine g_aload_n C rfl 0 rfl dX11_init_29 ?_
  refine g_new C 1004 rfl rfl rfl inX3 tyX3 tyX3_ok kw_228 kw_229 kw_147 (by decide +kernel) (by decide) (by decide) dX11_init_30 (fun n43 z44 z45 h47 hh46 => ?_)
  have O48 := O42.pN z44 z45 hh46 (by decide) nn_1004
  refine g_dup C rfl dX11_init_33 ?_
  refine g_callV (st := [.inr (.inr n43), .inr (.inr a0)]) (gc_N C lk_LandSurvey_28 rfl (k_X3_init l D cy w z0 O48 (pN_T hh46)) (tg_nz (pN_T hh46)) C.2.1.2.2.1 rfl ⟨by decide, by decide⟩ (Nat.le_of_ble_eq_true rfl) dX11_init_34 ⟨(by decide), (by decide)⟩) (fun h50 K51 => ?_)
  obtain ⟨O53, F54, p55, p56⟩ := K51
  have e57 : Tg h50 n43 = 1004 := (fxT F54 (pN_T hh46))
  refine g_rt (T0 := 1003) (T1 := 3) e57 rfl (fun h59 hh58 => ?_)
  have O60 := O53.rt1 (T0 := 4) (T1 := 1003) e57 hh58 nu_1004 tbI_4_1004 tbE_4_1004 (fun j hj => by
      have z := List.elem_iff.mp (tbN_4 j hj)
      simp only [List.mem_cons, List.not_mem_nil, or_false] at z
      rcases z with rfl | rfl
      · exact p55
      · exact p56)
  have e61 : Ln h59 n43 = 0 := ((pTL hh58).trans ((fxL F54 (pN_T hh46)).trans (pN_L hh46)))
  have F62 : Fx [200800, 200811, 1000000004, 1000001004, 1000019103, 1000020100] h41 h59 := ((((Fx.rf (wr := [200800, 200811, 1000000004, 1000001004, 1000019103, 1000020100]) (h := h41)).pN z45 hh46 rfl).call F54 rfl).pT (nt_of (Fx.rf (wr := [200800, 200811, 1000000004, 1000001004, 1000019103, 1000020100]) (h := h41)) z45) hh58 rfl)
  have e63 : Tg h59 a0 = 1011 := (fxT F62 ((pRT hh40).trans e39))
  refine gp_RF C fk_LandSurvey_29 pk_LandSurvey_5 rfl e63 hn rfl (nf_o _ _) dX11_init_37 (fun h65 hh64 => ?_)
  have O66 := O60.pR e63 hh64 (okR_o rE_1011_5 (pT_T hh58))
  refine g_aload_n C rfl 0 rfl dX11_init_40 ?_
  refine g_new C 1005 rfl rfl rfl inX4 tyX4 tyX4_ok kw_280 kw_281 kw_148 (by decide +kernel) (by decide) (by decide) dX11_init_41 (fun n67 z68 z69 h71 hh70 => ?_)
  have O72 := O66.pN z68 z69 hh70 (by decide) nn_1005
  refine g_dup C rfl dX11_init_44 ?_
  have p73 := (ND_fx ((Fx.rf (wr := [1000001005]) (h := h65)).pN z69 hh70 rfl) rfl rfl (ND_fx ((Fx.rf (wr := [202205]) (h := h59)).pR e63 hh64 rfl) rfl rfl (ND_fx F62 rfl rfl (ND_fx ((Fx.rf (wr := [202203]) (h := h37)).pR e39 hh40 rfl) rfl rfl (ND_fx ((Fx.rf (wr := [1000038104]) (h := h31)).pN z35 hh36 rfl) rfl rfl (ND_fx ((Fx.rf (wr := [202202]) (h := h25)).pR e29 hh30 rfl) rfl rfl (ND_fx F28 rfl rfl (ND_fx ((Fx.rf (wr := [202201]) (h := h)).pI ta0 hh1 rfl) rfl rfl P_ND))))))))
  refine g_callV (st := [.inr (.inr n67), .inr (.inr a0)]) (gc_N C lk_LandSurvey_35 rfl (k_X4_init l D cy w z0 O72 (pN_T hh70) p73) (tg_nz (pN_T hh70)) C.2.1.2.2.2.1 rfl ⟨by decide, by decide⟩ (Nat.le_of_ble_eq_true rfl) dX11_init_45 ⟨(by decide), (by decide)⟩) (fun h75 K76 => ?_)
  obtain ⟨O78, F79, p80, p81, p82, p83, p84⟩ := K76
  obtain ⟨v85, e86⟩ : ∃ z, Rv h75 n67 3 = z := ⟨_, rfl⟩
  have e87 : Tg h75 n67 = 1005 := (fxT F79 (pN_T hh70))
  have t88 := ok_N O78 e87 rE_1005_3 e86 (by rw [← e86]; exact p82)
  have z89 := p84
  rw [e86] at z89
  refine g_rt (T0 := 1004) (T1 := 4) e87 rfl (fun h91 hh90 => ?_)
  have O92 := O78.rt1 (T0 := 5) (T1 := 1004) e87 hh90 nu_1005 tbI_5_1005 tbE_5_1005 (fun j hj => by
      have z := List.elem_iff.mp (tbN_5 j hj)
      simp only [List.mem_cons, List.not_mem_nil, or_false] at z
      rcases z with rfl | rfl | rfl
      · exact p80
      · exact p81
      · exact p82)
  have e93 : Ln h91 n67 = 0 := ((pTL hh90).trans ((fxL F79 (pN_T hh70)).trans (pN_L hh70)))
  have e94 : Iv h91 n67 2 = 0 := ((pTI hh90).trans ((fxI F79 (pN_T hh70) rfl).trans (pN_I hh70)))
  have e95 : Rv h91 n67 3 = v85 := ((pTR hh90).trans e86)
  have e96 : Tg h91 v85 = 6 := ((pTT hh90 (ne_tag t88 e87 (by decide))).trans t88)
  have p97 := ND_rt2 p83 hh90 ⟨by decide, by decide⟩
  have p98 := RulesOk_rt hh90 z89
  have F99 : Fx [201000, 201001, 201003, 201201, 201202, 201203, 201204, 201205, 201207, 201208, 201211, 201212, 201214, 201215, 201216, 201217, 201218, 5620000, 1000000005, 1000000006, 1000001005, 1000001006, 1000002006, 1000021100, 1000022108, 1000023102, 1000024100, 1000025100, 1000026100, 1000027100, 1000028100, 1000029100, 1000030100, 1000031100, 1000032100, 1000033100, 1000034100, 1000035100, 1000036100, 1000037100] h65 h91 := ((((Fx.rf (wr := [201000, 201001, 201003, 201201, 201202, 201203, 201204, 201205, 201207, 201208, 201211, 201212, 201214, 201215, 201216, 201217, 201218, 5620000, 1000000005, 1000000006, 1000001005, 1000001006, 1000002006, 1000021100, 1000022108, 1000023102, 1000024100, 1000025100, 1000026100, 1000027100, 1000028100, 1000029100, 1000030100, 1000031100, 1000032100, 1000033100, 1000034100, 1000035100, 1000036100, 1000037100]) (h := h65)).pN z69 hh70 rfl).call F79 rfl).pT (nt_of (Fx.rf (wr := [201000, 201001, 201003, 201201, 201202, 201203, 201204, 201205, 201207, 201208, 201211, 201212, 201214, 201215, 201216, 201217, 201218, 5620000, 1000000005, 1000000006, 1000001005, 1000001006, 1000002006, 1000021100, 1000022108, 1000023102, 1000024100, 1000025100, 1000026100, 1000027100, 1000028100, 1000029100, 1000030100, 1000031100, 1000032100, 1000033100, 1000034100, 1000035100, 1000036100, 1000037100]) (h := h65)) z69) hh90 rfl)
  have p100 : BkOk h91 n67 := ⟨fun k hk => absurd hk (by rw [e94]; omega), by rw [e95]; exact p98⟩
  have e101 : Tg h91 a0 = 1011 := (fxT F99 ((pRT hh64).trans e63))
  refine gp_RF C fk_LandSurvey_36 pk_LandSurvey_6 rfl e101 hn rfl (nf_o _ _) dX11_init_48 (fun h103 hh102 => ?_)
  have O104 := O92.pR e101 hh102 (okR_o rE_1011_6 (pT_T hh90))
  refine g_aload_n C rfl 0 rfl dX11_init_51 ?_
  refine g_aload_n C rfl 0 rfl dX11_init_52 ?_
  have e105 : Tg h103 a0 = 1011 := ((pRT hh102).trans e101)
  refine gf_R C fk_LandSurvey_36 rfl e105 (pR_e hh102) dX11_init_53 ?_
  have e106 : Tg h103 n67 = 5 := ((pRT hh102).trans (pT_T hh90))
  have e107 : Rv h103 n67 3 = v85 := ((pR_n hh102 (ne_tag (pT_T hh90) e101 (by decide))).trans e95)
  refine gf_R C fk_LandSurvey_40 rfl e106 e107 dX11_init_56 ?_
  refine gp_R C fk_LandSurvey_44 pk_LandSurvey_7 rfl e105 (nf_o _ _) dX11_init_59 (fun h109 hh108 => ?_)
  have e111 : Tg h103 v85 = 6 := ((pRT hh102).trans e96)
  have O110 := O104.pR e105 hh108 (okR_o rE_1011_7 e111)
  refine g_aload_n C rfl 0 rfl dX11_init_62 ?_
  refine g_iconst C dX11_init_63 ?_
  refine g_newq (t := 5) C 39105 rfl (iw (il 4) (by decide) (by decide)) (by decide) (by decide) kw_392 C.2.1.2.1.2.1 rfl (by decide) (by decide) (by decide) dX11_init_64 (fun n112 z113 z114 h116 hh115 => ?_)
  have O117 := O110.pN z113 z114 hh115 (by decide) nn_39105
  have e118 : Tg h116 a0 = 1011 := ((pNT hh115 (pN_n hh115 z114 ((pRT hh108).trans e105))).trans ((pRT hh108).trans e105))
  refine gp_RF C fk_LandSurvey_49 pk_LandSurvey_8 rfl e118 hn rfl (nf_a _ _) dX11_init_67 (fun h120 hh119 => ?_)
  have O121 := O117.pR e118 hh119 (okR_l rE_1011_8 (pN_T hh115) (pN_L hh115))
  refine g_aload_n C rfl 0 rfl dX11_init_70 ?_
  refine g_bipush C (by decide) dX11_init_71 ?_
  refine g_newq (t := 6) C 48106 rfl (iw (il 10) (by decide) (by decide)) (by decide) (by decide) kw_394 C.2.1.2.1.2.2.1 rfl (by decide) (by decide) (by decide) dX11_init_73 (fun n122 z123 z124 h126 hh125 => ?_)
  have O127 := O121.pN z123 z124 hh125 (by decide) nn_48106
  have e128 : Tg h126 a0 = 1011 := ((pNT hh125 (pN_n hh125 z124 ((pRT hh119).trans e118))).trans ((pRT hh119).trans e118))
  refine gp_RF C fk_LandSurvey_55 pk_LandSurvey_11 rfl e128 hn rfl (nf_a _ _) dX11_init_76 (fun h130 hh129 => ?_)
  have O131 := O127.pR e128 hh129 (okR_l rE_1011_11 (pN_T hh125) (pN_L hh125))
  refine g_aload_n C rfl 0 rfl dX11_init_79 ?_
  refine g_new C 1007 rfl rfl rfl inX6 tyX6 tyX6_ok kw_396 kw_397 kw_150 (by decide +kernel) (by decide) (by decide) dX11_init_80 (fun n132 z133 z134 h136 hh135 => ?_)
  have O137 := O131.pN z133 z134 hh135 (by decide) nn_1007
  refine g_dup C rfl dX11_init_83 ?_
  refine g_aload_n C rfl 0 rfl dX11_init_84 ?_
  have e138 : Tg h136 a0 = 1011 := ((pNT hh135 (pN_n hh135 z134 ((pRT hh129).trans e128))).trans ((pRT hh129).trans e128))
  have e139 : Tg h41 a0 = 1011 := ((pRT hh40).trans e39)
  have e140 : Tg h65 a0 = 1011 := ((pRT hh64).trans e63)
  have e141 : Tg h109 a0 = 1011 := ((pRT hh108).trans e105)
  have e142 : Tg h120 a0 = 1011 := ((pRT hh119).trans e118)
  have e143 : Tg h130 a0 = 1011 := ((pRT hh129).trans e128)
  have e144 : Rv h136 a0 3 = n33 := ((pNR hh135 (pN_n hh135 z134 e143)).trans ((pR_j hh129 (by decide)).trans ((pNR hh125 (pN_n hh125 z124 e142)).trans ((pR_j hh119 (by decide)).trans ((pNR hh115 (pN_n hh115 z114 e141)).trans ((pR_j hh108 (by decide)).trans ((pR_j hh102 (by decide)).trans ((fxR F99 e140 rfl).trans ((pR_j hh64 (by decide)).trans ((fxR F62 e139 rfl).trans (pR_e hh40)))))))))))
  refine gf_R C fk_LandSurvey_22 rfl e138 e144 dX11_init_85 ?_
  refine g_aload_n C rfl 0 rfl dX11_init_88 ?_
  have e145 : Rv h136 a0 8 = n112 := ((pNR hh135 (pN_n hh135 z134 e143)).trans ((pR_j hh129 (by decide)).trans ((pNR hh125 (pN_n hh125 z124 e142)).trans (pR_e hh119))))
  refine gf_R C fk_LandSurvey_49 rfl e138 e145 dX11_init_89 ?_
  have e146 : Tg h136 n33 = 38104 := ((pNT hh135 (pN_n hh135 z134 ((pRT hh129).trans ((pNT hh125 (pN_n hh125 z124 ((pRT hh119).trans ((pNT hh115 (pN_n hh115 z114 ((pRT hh108).trans ((pRT hh102).trans (fxT F99 ((pRT hh64).trans (fxT F62 ((pRT hh40).trans (pN_T hh36))))))))).trans ((pRT hh108).trans ((pRT hh102).trans (fxT F99 ((pRT hh64).trans (fxT F62 ((pRT hh40).trans (pN_T hh36))))))))))).trans ((pRT hh119).trans ((pNT hh115 (pN_n hh115 z114 ((pRT hh108).trans ((pRT hh102).trans (fxT F99 ((pRT hh64).trans (fxT F62 ((pRT hh40).trans (pN_T hh36))))))))).trans ((pRT hh108).trans ((pRT hh102).trans (fxT F99 ((pRT hh64).trans (fxT F62 ((pRT hh40).trans (pN_T hh36))))))))))))).trans ((pRT hh129).trans ((pNT hh125 (pN_n hh125 z124 ((pRT hh119).trans ((pNT hh115 (pN_n hh115 z114 ((pRT hh108).trans ((pRT hh102).trans (fxT F99 ((pRT hh64).trans (fxT F62 ((pRT hh40).trans (pN_T hh36))))))))).trans ((pRT hh108).trans ((pRT hh102).trans (fxT F99 ((pRT hh64).trans (fxT F62 ((pRT hh40).trans (pN_T hh36))))))))))).trans ((pRT hh119).trans ((pNT hh115 (pN_n hh115 z114 ((pRT hh108).trans ((pRT hh102).trans (fxT F99 ((pRT hh64).trans (fxT F62 ((pRT hh40).trans (pN_T hh36))))))))).trans ((pRT hh108).trans ((pRT hh102).trans (fxT F99 ((pRT hh64).trans (fxT F62 ((pRT hh40).trans (pN_T hh36))))))))))))
  have e147 : Tg h41 n33 = 38104 := ((pRT hh40).trans (pN_T hh36))
  have e148 : Tg h65 n33 = 38104 := ((pRT hh64).trans (fxT F62 e147))
  have e149 : Tg h109 n33 = 38104 := ((pRT hh108).trans ((pRT hh102).trans (fxT F99 e148)))
  have e150 : Tg h120 n33 = 38104 := ((pRT hh119).trans ((pNT hh115 (pN_n hh115 z114 e149)).trans e149))
  have e151 : Tg h130 n33 = 38104 := ((pRT hh129).trans ((pNT hh125 (pN_n hh125 z124 e150)).trans e150))
  have e152 : Ln h136 n33 = 40 := ((pNL hh135 (pN_n hh135 z134 e151)).trans ((pRL hh129).trans ((pNL hh125 (pN_n hh125 z124 e150)).trans ((pRL hh119).trans ((pNL hh115 (pN_n hh115 z114 e149)).trans ((pRL hh108).trans ((pRL hh102).trans ((fxL F99 e148).trans ((pRL hh64).trans ((fxL F62 e147).trans ((pRL hh40).trans (pN_L hh36))))))))))))
  have e153 : Tg h136 n112 = 39105 := ((pNT hh135 (pN_n hh135 z134 ((pRT hh129).trans ((pNT hh125 (pN_n hh125 z124 ((pRT hh119).trans (pN_T hh115)))).trans ((pRT hh119).trans (pN_T hh115)))))).trans ((pRT hh129).trans ((pNT hh125 (pN_n hh125 z124 ((pRT hh119).trans (pN_T hh115)))).trans ((pRT hh119).trans (pN_T hh115)))))
  have e154 : Tg h120 n112 = 39105 := ((pRT hh119).trans (pN_T hh115))
  have e155 : Tg h130 n112 = 39105 := ((pRT hh129).trans ((pNT hh125 (pN_n hh125 z124 e154)).trans e154))
  have e156 : Ln h136 n112 = 4 := ((pNL hh135 (pN_n hh135 z134 e155)).trans ((pRL hh129).trans ((pNL hh125 (pN_n hh125 z124 e154)).trans ((pRL hh119).trans (pN_L hh115)))))
  refine g_callV (st := [.inr (.inr n132), .inr (.inr a0)]) (gc_I C lk_LandSurvey_61 rfl (k_X6_init l D cy w z0 O137 (pN_T hh135) e146 e152 e153 e156) (tg_nz (pN_T hh135)) rfl ⟨by decide, by decide⟩ (Nat.le_of_ble_eq_true rfl) dX11_init_92 ⟨(by decide), (by decide)⟩) (fun h158 K159 => ?_)
  obtain ⟨O161, F162, p163, p164, p165, p166, p167, p168, p169, p170, p171, p172, p173⟩ := K159
  have e174 : Tg h158 n132 = 1007 := (fxT F162 (pN_T hh135))
  refine g_rt (T0 := 1006) (T1 := 6) e174 rfl (fun h176 hh175 => ?_)
  have O177 := O161.rt1 (T0 := 7) (T1 := 1006) e174 hh175 nu_1007 tbI_7_1007 tbE_7_1007 (fun j hj => by
      have z := List.elem_iff.mp (tbN_7 j hj)
      simp only [List.mem_cons, List.not_mem_nil, or_false] at z
      rcases z with rfl | rfl | rfl | rfl | rfl | rfl | rfl | rfl | rfl
      · exact p163
      · exact p164
      · exact p165
      · exact p166
      · exact p167
      · exact p168
      · exact p169
      · exact p170
      · exact p171)
  have e178 : Ln h176 n132 = 0 := ((pTL hh175).trans ((fxL F162 (pN_T hh135)).trans (pN_L hh135)))
  have e179 : Iv h176 n132 3 = 0 := ((pTI hh175).trans ((fxI F162 (pN_T hh135) rfl).trans (pN_I hh135)))
  have e180 : Iv h176 n132 4 = 0 := ((pTI hh175).trans ((fxI F162 (pN_T hh135) rfl).trans (pN_I hh135)))
  have e181 : Rv h176 n132 1 = n33 := ((pTR hh175).trans p172)
  have e182 : Rv h176 n132 2 = n112 := ((pTR hh175).trans p173)
  have F183 : Fx [201400, 201401, 201402, 201406, 201407, 201408, 201409, 201410, 201411, 202000, 202001, 202002, 1000000007, 1000000010, 1000001007, 1000001010, 1000040100, 1000041102, 1000042102, 1000043100, 1000045100, 1000046102, 1000047100] h130 h176 := ((((Fx.rf (wr := [201400, 201401, 201402, 201406, 201407, 201408, 201409, 201410, 201411, 202000, 202001, 202002, 1000000007, 1000000010, 1000001007, 1000001010, 1000040100, 1000041102, 1000042102, 1000043100, 1000045100, 1000046102, 1000047100]) (h := h130)).pN z134 hh135 rfl).call F162 rfl).pT (nt_of (Fx.rf (wr := [201400, 201401, 201402, 201406, 201407, 201408, 201409, 201410, 201411, 202000, 202001, 202002, 1000000007, 1000000010, 1000001007, 1000001010, 1000040100, 1000041102, 1000042102, 1000043100, 1000045100, 1000046102, 1000047100]) (h := h130)) z134) hh175 rfl)
  have e184 : Tg h176 a0 = 1011 := (fxT F183 e143)
  refine gp_RF C fk_LandSurvey_64 pk_LandSurvey_13 rfl e184 hn rfl (nf_o _ _) dX11_init_95 (fun h186 hh185 => ?_)
  have O187 := O177.pR e184 hh185 (okR_o rE_1011_13 (pT_T hh175))
  refine g_aload_n C rfl 0 rfl dX11_init_98 ?_
  refine g_bipush C (by decide) dX11_init_99 ?_
  refine g_newq (t := 7) C 49107 rfl (iw (il 16) (by decide) (by decide)) (by decide) (by decide) kw_466 C.2.1.2.1.2.2.2.1 rfl (by decide) (by decide) (by decide) dX11_init_101 (fun n188 z189 z190 h192 hh191 => ?_)
  have O193 := O187.pN z189 z190 hh191 (by decide) nn_49107
  have e194 : Tg h192 a0 = 1011 := ((pNT hh191 (pN_n hh191 z190 ((pRT hh185).trans e184))).trans ((pRT hh185).trans e184))
  refine gp_RF C fk_LandSurvey_70 pk_LandSurvey_14 rfl e194 hn rfl (nf_a _ _) dX11_init_104 (fun h196 hh195 => ?_)
  have O197 := O193.pR e194 hh195 (okR_l rE_1011_14 (pN_T hh191) (pN_L hh191))
  refine g_aload_n C rfl 0 rfl dX11_init_107 ?_
  refine g_bipush C (by decide) dX11_init_108 ?_
  refine g_newa (atype := .int) (t := 0) (ty := .int) (N := 12) C 50100 rfl (iw (il 12) (by decide) (by decide)) (by decide) rfl kw_224 rfl (fun _ => rfl) (by decide) (by decide) (by decide) (by decide) dX11_init_110 (fun n198 z199 z200 h202 hh201 => ?_)
  have O203 := O197.pN z199 z200 hh201 (by decide) nn_50100
  have e204 : Tg h202 a0 = 1011 := ((pNT hh201 (pN_n hh201 z200 ((pRT hh195).trans e194))).trans ((pRT hh195).trans e194))
  refine gp_RF C fk_LandSurvey_74 pk_LandSurvey_18 rfl e204 hn rfl (nf_a _ _) dX11_init_112 (fun h206 hh205 => ?_)
  have O207 := O203.pR e204 hh205 (okR_l rE_1011_18 (pN_T hh201) (pN_L hh201))
  have e208 : Tg h186 a0 = 1011 := ((pRT hh185).trans e184)
  have e209 : Tg h196 a0 = 1011 := ((pRT hh195).trans e194)
  have e210 : Rv h206 a0 3 = n33 := ((pR_j hh205 (by decide)).trans ((pNR hh201 (pN_n hh201 z200 e209)).trans ((pR_j hh195 (by decide)).trans ((pNR hh191 (pN_n hh191 z190 e208)).trans ((pR_j hh185 (by decide)).trans ((fxR F183 e143 rfl).trans ((pR_j hh129 (by decide)).trans ((pNR hh125 (pN_n hh125 z124 e142)).trans ((pR_j hh119 (by decide)).trans ((pNR hh115 (pN_n hh115 z114 e141)).trans ((pR_j hh108 (by decide)).trans ((pR_j hh102 (by decide)).trans ((fxR F99 e140 rfl).trans ((pR_j hh64 (by decide)).trans ((fxR F62 e139 rfl).trans (pR_e hh40))))))))))))))))
  have e211 : Rv h206 a0 8 = n112 := ((pR_j hh205 (by decide)).trans ((pNR hh201 (pN_n hh201 z200 e209)).trans ((pR_j hh195 (by decide)).trans ((pNR hh191 (pN_n hh191 z190 e208)).trans ((pR_j hh185 (by decide)).trans ((fxR F183 e143 rfl).trans ((pR_j hh129 (by decide)).trans ((pNR hh125 (pN_n hh125 z124 e142)).trans (pR_e hh119)))))))))
  have e212 : Rv h206 a0 11 = n122 := ((pR_j hh205 (by decide)).trans ((pNR hh201 (pN_n hh201 z200 e209)).trans ((pR_j hh195 (by decide)).trans ((pNR hh191 (pN_n hh191 z190 e208)).trans ((pR_j hh185 (by decide)).trans ((fxR F183 e143 rfl).trans (pR_e hh129)))))))
  have e213 : Tg h31 a0 = 1011 := ((pRT hh30).trans e29)
  have e214 : Rv h206 a0 2 = n4 := ((pR_j hh205 (by decide)).trans ((pNR hh201 (pN_n hh201 z200 e209)).trans ((pR_j hh195 (by decide)).trans ((pNR hh191 (pN_n hh191 z190 e208)).trans ((pR_j hh185 (by decide)).trans ((fxR F183 e143 rfl).trans ((pR_j hh129 (by decide)).trans ((pNR hh125 (pN_n hh125 z124 e142)).trans ((pR_j hh119 (by decide)).trans ((pNR hh115 (pN_n hh115 z114 e141)).trans ((pR_j hh108 (by decide)).trans ((pR_j hh102 (by decide)).trans ((fxR F99 e140 rfl).trans ((pR_j hh64 (by decide)).trans ((fxR F62 e139 rfl).trans ((pR_j hh40 (by decide)).trans ((pNR hh36 (pN_n hh36 z35 e213)).trans (pR_e hh30))))))))))))))))))
  have e215 : Tg h206 n4 = 3 := ((pRT hh205).trans ((pNT hh201 (pN_n hh201 z200 ((pRT hh195).trans ((pNT hh191 (pN_n hh191 z190 ((pRT hh185).trans (fxT F183 ((pRT hh129).trans ((pNT hh125 (pN_n hh125 z124 ((pRT hh119).trans ((pNT hh115 (pN_n hh115 z114 ((pRT hh108).trans ((pRT hh102).trans (fxT F99 ((pRT hh64).trans (fxT F62 ((pRT hh40).trans ((pNT hh36 (pN_n hh36 z35 ((pRT hh30).trans (pT_T hh24)))).trans ((pRT hh30).trans (pT_T hh24))))))))))).trans ((pRT hh108).trans ((pRT hh102).trans (fxT F99 ((pRT hh64).trans (fxT F62 ((pRT hh40).trans ((pNT hh36 (pN_n hh36 z35 ((pRT hh30).trans (pT_T hh24)))).trans ((pRT hh30).trans (pT_T hh24))))))))))))).trans ((pRT hh119).trans ((pNT hh115 (pN_n hh115 z114 ((pRT hh108).trans ((pRT hh102).trans (fxT F99 ((pRT hh64).trans (fxT F62 ((pRT hh40).trans ((pNT hh36 (pN_n hh36 z35 ((pRT hh30).trans (pT_T hh24)))).trans ((pRT hh30).trans (pT_T hh24))))))))))).trans ((pRT hh108).trans ((pRT hh102).trans (fxT F99 ((pRT hh64).trans (fxT F62 ((pRT hh40).trans ((pNT hh36 (pN_n hh36 z35 ((pRT hh30).trans (pT_T hh24)))).trans ((pRT hh30).trans (pT_T hh24))))))))))))))))).trans ((pRT hh185).trans (fxT F183 ((pRT hh129).trans ((pNT hh125 (pN_n hh125 z124 ((pRT hh119).trans ((pNT hh115 (pN_n hh115 z114 ((pRT hh108).trans ((pRT hh102).trans (fxT F99 ((pRT hh64).trans (fxT F62 ((pRT hh40).trans ((pNT hh36 (pN_n hh36 z35 ((pRT hh30).trans (pT_T hh24)))).trans ((pRT hh30).trans (pT_T hh24))))))))))).trans ((pRT hh108).trans ((pRT hh102).trans (fxT F99 ((pRT hh64).trans (fxT F62 ((pRT hh40).trans ((pNT hh36 (pN_n hh36 z35 ((pRT hh30).trans (pT_T hh24)))).trans ((pRT hh30).trans (pT_T hh24))))))))))))).trans ((pRT hh119).trans ((pNT hh115 (pN_n hh115 z114 ((pRT hh108).trans ((pRT hh102).trans (fxT F99 ((pRT hh64).trans (fxT F62 ((pRT hh40).trans ((pNT hh36 (pN_n hh36 z35 ((pRT hh30).trans (pT_T hh24)))).trans ((pRT hh30).trans (pT_T hh24))))))))))).trans ((pRT hh108).trans ((pRT hh102).trans (fxT F99 ((pRT hh64).trans (fxT F62 ((pRT hh40).trans ((pNT hh36 (pN_n hh36 z35 ((pRT hh30).trans (pT_T hh24)))).trans ((pRT hh30).trans (pT_T hh24))))))))))))))))))).trans ((pRT hh195).trans ((pNT hh191 (pN_n hh191 z190 ((pRT hh185).trans (fxT F183 ((pRT hh129).trans ((pNT hh125 (pN_n hh125 z124 ((pRT hh119).trans ((pNT hh115 (pN_n hh115 z114 ((pRT hh108).trans ((pRT hh102).trans (fxT F99 ((pRT hh64).trans (fxT F62 ((pRT hh40).trans ((pNT hh36 (pN_n hh36 z35 ((pRT hh30).trans (pT_T hh24)))).trans ((pRT hh30).trans (pT_T hh24))))))))))).trans ((pRT hh108).trans ((pRT hh102).trans (fxT F99 ((pRT hh64).trans (fxT F62 ((pRT hh40).trans ((pNT hh36 (pN_n hh36 z35 ((pRT hh30).trans (pT_T hh24)))).trans ((pRT hh30).trans (pT_T hh24))))))))))))).trans ((pRT hh119).trans ((pNT hh115 (pN_n hh115 z114 ((pRT hh108).trans ((pRT hh102).trans (fxT F99 ((pRT hh64).trans (fxT F62 ((pRT hh40).trans ((pNT hh36 (pN_n hh36 z35 ((pRT hh30).trans (pT_T hh24)))).trans ((pRT hh30).trans (pT_T hh24))))))))))).trans ((pRT hh108).trans ((pRT hh102).trans (fxT F99 ((pRT hh64).trans (fxT F62 ((pRT hh40).trans ((pNT hh36 (pN_n hh36 z35 ((pRT hh30).trans (pT_T hh24)))).trans ((pRT hh30).trans (pT_T hh24))))))))))))))))).trans ((pRT hh185).trans (fxT F183 ((pRT hh129).trans ((pNT hh125 (pN_n hh125 z124 ((pRT hh119).trans ((pNT hh115 (pN_n hh115 z114 ((pRT hh108).trans ((pRT hh102).trans (fxT F99 ((pRT hh64).trans (fxT F62 ((pRT hh40).trans ((pNT hh36 (pN_n hh36 z35 ((pRT hh30).trans (pT_T hh24)))).trans ((pRT hh30).trans (pT_T hh24))))))))))).trans ((pRT hh108).trans ((pRT hh102).trans (fxT F99 ((pRT hh64).trans (fxT F62 ((pRT hh40).trans ((pNT hh36 (pN_n hh36 z35 ((pRT hh30).trans (pT_T hh24)))).trans ((pRT hh30).trans (pT_T hh24))))))))))))).trans ((pRT hh119).trans ((pNT hh115 (pN_n hh115 z114 ((pRT hh108).trans ((pRT hh102).trans (fxT F99 ((pRT hh64).trans (fxT F62 ((pRT hh40).trans ((pNT hh36 (pN_n hh36 z35 ((pRT hh30).trans (pT_T hh24)))).trans ((pRT hh30).trans (pT_T hh24))))))))))).trans ((pRT hh108).trans ((pRT hh102).trans (fxT F99 ((pRT hh64).trans (fxT F62 ((pRT hh40).trans ((pNT hh36 (pN_n hh36 z35 ((pRT hh30).trans (pT_T hh24)))).trans ((pRT hh30).trans (pT_T hh24)))))))))))))))))))
  have e216 : Tg h206 n33 = 38104 := ((pRT hh205).trans ((pNT hh201 (pN_n hh201 z200 ((pRT hh195).trans ((pNT hh191 (pN_n hh191 z190 ((pRT hh185).trans (fxT F183 e151)))).trans ((pRT hh185).trans (fxT F183 e151)))))).trans ((pRT hh195).trans ((pNT hh191 (pN_n hh191 z190 ((pRT hh185).trans (fxT F183 e151)))).trans ((pRT hh185).trans (fxT F183 e151))))))
  have e217 : Rv h206 a0 5 = n43 := ((pR_j hh205 (by decide)).trans ((pNR hh201 (pN_n hh201 z200 e209)).trans ((pR_j hh195 (by decide)).trans ((pNR hh191 (pN_n hh191 z190 e208)).trans ((pR_j hh185 (by decide)).trans ((fxR F183 e143 rfl).trans ((pR_j hh129 (by decide)).trans ((pNR hh125 (pN_n hh125 z124 e142)).trans ((pR_j hh119 (by decide)).trans ((pNR hh115 (pN_n hh115 z114 e141)).trans ((pR_j hh108 (by decide)).trans ((pR_j hh102 (by decide)).trans ((fxR F99 e140 rfl).trans (pR_e hh64))))))))))))))
  have e218 : Tg h206 n43 = 4 := ((pRT hh205).trans ((pNT hh201 (pN_n hh201 z200 ((pRT hh195).trans ((pNT hh191 (pN_n hh191 z190 ((pRT hh185).trans (fxT F183 ((pRT hh129).trans ((pNT hh125 (pN_n hh125 z124 ((pRT hh119).trans ((pNT hh115 (pN_n hh115 z114 ((pRT hh108).trans ((pRT hh102).trans (fxT F99 ((pRT hh64).trans (pT_T hh58))))))).trans ((pRT hh108).trans ((pRT hh102).trans (fxT F99 ((pRT hh64).trans (pT_T hh58))))))))).trans ((pRT hh119).trans ((pNT hh115 (pN_n hh115 z114 ((pRT hh108).trans ((pRT hh102).trans (fxT F99 ((pRT hh64).trans (pT_T hh58))))))).trans ((pRT hh108).trans ((pRT hh102).trans (fxT F99 ((pRT hh64).trans (pT_T hh58))))))))))))).trans ((pRT hh185).trans (fxT F183 ((pRT hh129).trans ((pNT hh125 (pN_n hh125 z124 ((pRT hh119).trans ((pNT hh115 (pN_n hh115 z114 ((pRT hh108).trans ((pRT hh102).trans (fxT F99 ((pRT hh64).trans (pT_T hh58))))))).trans ((pRT hh108).trans ((pRT hh102).trans (fxT F99 ((pRT hh64).trans (pT_T hh58))))))))).trans ((pRT hh119).trans ((pNT hh115 (pN_n hh115 z114 ((pRT hh108).trans ((pRT hh102).trans (fxT F99 ((pRT hh64).trans (pT_T hh58))))))).trans ((pRT hh108).trans ((pRT hh102).trans (fxT F99 ((pRT hh64).trans (pT_T hh58))))))))))))))).trans ((pRT hh195).trans ((pNT hh191 (pN_n hh191 z190 ((pRT hh185).trans (fxT F183 ((pRT hh129).trans ((pNT hh125 (pN_n hh125 z124 ((pRT hh119).trans ((pNT hh115 (pN_n hh115 z114 ((pRT hh108).trans ((pRT hh102).trans (fxT F99 ((pRT hh64).trans (pT_T hh58))))))).trans ((pRT hh108).trans ((pRT hh102).trans (fxT F99 ((pRT hh64).trans (pT_T hh58))))))))).trans ((pRT hh119).trans ((pNT hh115 (pN_n hh115 z114 ((pRT hh108).trans ((pRT hh102).trans (fxT F99 ((pRT hh64).trans (pT_T hh58))))))).trans ((pRT hh108).trans ((pRT hh102).trans (fxT F99 ((pRT hh64).trans (pT_T hh58))))))))))))).trans ((pRT hh185).trans (fxT F183 ((pRT hh129).trans ((pNT hh125 (pN_n hh125 z124 ((pRT hh119).trans ((pNT hh115 (pN_n hh115 z114 ((pRT hh108).trans ((pRT hh102).trans (fxT F99 ((pRT hh64).trans (pT_T hh58))))))).trans ((pRT hh108).trans ((pRT hh102).trans (fxT F99 ((pRT hh64).trans (pT_T hh58))))))))).trans ((pRT hh119).trans ((pNT hh115 (pN_n hh115 z114 ((pRT hh108).trans ((pRT hh102).trans (fxT F99 ((pRT hh64).trans (pT_T hh58))))))).trans ((pRT hh108).trans ((pRT hh102).trans (fxT F99 ((pRT hh64).trans (pT_T hh58)))))))))))))))
  have e219 : Rv h206 a0 6 = n67 := ((pR_j hh205 (by decide)).trans ((pNR hh201 (pN_n hh201 z200 e209)).trans ((pR_j hh195 (by decide)).trans ((pNR hh191 (pN_n hh191 z190 e208)).trans ((pR_j hh185 (by decide)).trans ((fxR F183 e143 rfl).trans ((pR_j hh129 (by decide)).trans ((pNR hh125 (pN_n hh125 z124 e142)).trans ((pR_j hh119 (by decide)).trans ((pNR hh115 (pN_n hh115 z114 e141)).trans ((pR_j hh108 (by decide)).trans (pR_e hh102))))))))))))
  have e220 : Tg h206 n67 = 5 := ((pRT hh205).trans ((pNT hh201 (pN_n hh201 z200 ((pRT hh195).trans ((pNT hh191 (pN_n hh191 z190 ((pRT hh185).trans (fxT F183 ((pRT hh129).trans ((pNT hh125 (pN_n hh125 z124 ((pRT hh119).trans ((pNT hh115 (pN_n hh115 z114 ((pRT hh108).trans e106))).trans ((pRT hh108).trans e106))))).trans ((pRT hh119).trans ((pNT hh115 (pN_n hh115 z114 ((pRT hh108).trans e106))).trans ((pRT hh108).trans e106))))))))).trans ((pRT hh185).trans (fxT F183 ((pRT hh129).trans ((pNT hh125 (pN_n hh125 z124 ((pRT hh119).trans ((pNT hh115 (pN_n hh115 z114 ((pRT hh108).trans e106))).trans ((pRT hh108).trans e106))))).trans ((pRT hh119).trans ((pNT hh115 (pN_n hh115 z114 ((pRT hh108).trans e106))).trans ((pRT hh108).trans e106))))))))))).trans ((pRT hh195).trans ((pNT hh191 (pN_n hh191 z190 ((pRT hh185).trans (fxT F183 ((pRT hh129).trans ((pNT hh125 (pN_n hh125 z124 ((pRT hh119).trans ((pNT hh115 (pN_n hh115 z114 ((pRT hh108).trans e106))).trans ((pRT hh108).trans e106))))).trans ((pRT hh119).trans ((pNT hh115 (pN_n hh115 z114 ((pRT hh108).trans e106))).trans ((pRT hh108).trans e106))))))))).trans ((pRT hh185).trans (fxT F183 ((pRT hh129).trans ((pNT hh125 (pN_n hh125 z124 ((pRT hh119).trans ((pNT hh115 (pN_n hh115 z114 ((pRT hh108).trans e106))).trans ((pRT hh108).trans e106))))).trans ((pRT hh119).trans ((pNT hh115 (pN_n hh115 z114 ((pRT hh108).trans e106))).trans ((pRT hh108).trans e106)))))))))))
  have e221 : Rv h206 a0 7 = v85 := ((pR_j hh205 (by decide)).trans ((pNR hh201 (pN_n hh201 z200 e209)).trans ((pR_j hh195 (by decide)).trans ((pNR hh191 (pN_n hh191 z190 e208)).trans ((pR_j hh185 (by decide)).trans ((fxR F183 e143 rfl).trans ((pR_j hh129 (by decide)).trans ((pNR hh125 (pN_n hh125 z124 e142)).trans ((pR_j hh119 (by decide)).trans ((pNR hh115 (pN_n hh115 z114 e141)).trans (pR_e hh108)))))))))))
  have e222 : Tg h206 v85 = 6 := ((pRT hh205).trans ((pNT hh201 (pN_n hh201 z200 ((pRT hh195).trans ((pNT hh191 (pN_n hh191 z190 ((pRT hh185).trans (fxT F183 ((pRT hh129).trans ((pNT hh125 (pN_n hh125 z124 ((pRT hh119).trans ((pNT hh115 (pN_n hh115 z114 ((pRT hh108).trans e111))).trans ((pRT hh108).trans e111))))).trans ((pRT hh119).trans ((pNT hh115 (pN_n hh115 z114 ((pRT hh108).trans e111))).trans ((pRT hh108).trans e111))))))))).trans ((pRT hh185).trans (fxT F183 ((pRT hh129).trans ((pNT hh125 (pN_n hh125 z124 ((pRT hh119).trans ((pNT hh115 (pN_n hh115 z114 ((pRT hh108).trans e111))).trans ((pRT hh108).trans e111))))).trans ((pRT hh119).trans ((pNT hh115 (pN_n hh115 z114 ((pRT hh108).trans e111))).trans ((pRT hh108).trans e111))))))))))).trans ((pRT hh195).trans ((pNT hh191 (pN_n hh191 z190 ((pRT hh185).trans (fxT F183 ((pRT hh129).trans ((pNT hh125 (pN_n hh125 z124 ((pRT hh119).trans ((pNT hh115 (pN_n hh115 z114 ((pRT hh108).trans e111))).trans ((pRT hh108).trans e111))))).trans ((pRT hh119).trans ((pNT hh115 (pN_n hh115 z114 ((pRT hh108).trans e111))).trans ((pRT hh108).trans e111))))))))).trans ((pRT hh185).trans (fxT F183 ((pRT hh129).trans ((pNT hh125 (pN_n hh125 z124 ((pRT hh119).trans ((pNT hh115 (pN_n hh115 z114 ((pRT hh108).trans e111))).trans ((pRT hh108).trans e111))))).trans ((pRT hh119).trans ((pNT hh115 (pN_n hh115 z114 ((pRT hh108).trans e111))).trans ((pRT hh108).trans e111)))))))))))
  have e223 : Tg h206 n112 = 39105 := ((pRT hh205).trans ((pNT hh201 (pN_n hh201 z200 ((pRT hh195).trans ((pNT hh191 (pN_n hh191 z190 ((pRT hh185).trans (fxT F183 e155)))).trans ((pRT hh185).trans (fxT F183 e155)))))).trans ((pRT hh195).trans ((pNT hh191 (pN_n hh191 z190 ((pRT hh185).trans (fxT F183 e155)))).trans ((pRT hh185).trans (fxT F183 e155))))))
  have e224 : Tg h206 n122 = 48106 := ((pRT hh205).trans ((pNT hh201 (pN_n hh201 z200 ((pRT hh195).trans ((pNT hh191 (pN_n hh191 z190 ((pRT hh185).trans (fxT F183 ((pRT hh129).trans (pN_T hh125)))))).trans ((pRT hh185).trans (fxT F183 ((pRT hh129).trans (pN_T hh125)))))))).trans ((pRT hh195).trans ((pNT hh191 (pN_n hh191 z190 ((pRT hh185).trans (fxT F183 ((pRT hh129).trans (pN_T hh125)))))).trans ((pRT hh185).trans (fxT F183 ((pRT hh129).trans (pN_T hh125))))))))
  have e225 : Rv h206 a0 13 = n132 := ((pR_j hh205 (by decide)).trans ((pNR hh201 (pN_n hh201 z200 e209)).trans ((pR_j hh195 (by decide)).trans ((pNR hh191 (pN_n hh191 z190 e208)).trans (pR_e hh185)))))
  have e226 : Tg h206 n132 = 7 := ((pRT hh205).trans ((pNT hh201 (pN_n hh201 z200 ((pRT hh195).trans ((pNT hh191 (pN_n hh191 z190 ((pRT hh185).trans (pT_T hh175)))).trans ((pRT hh185).trans (pT_T hh175)))))).trans ((pRT hh195).trans ((pNT hh191 (pN_n hh191 z190 ((pRT hh185).trans (pT_T hh175)))).trans ((pRT hh185).trans (pT_T hh175))))))
  have e227 : Rv h206 a0 14 = n188 := ((pR_j hh205 (by decide)).trans ((pNR hh201 (pN_n hh201 z200 e209)).trans (pR_e hh195)))
  have e228 : Tg h206 n188 = 49107 := ((pRT hh205).trans ((pNT hh201 (pN_n hh201 z200 ((pRT hh195).trans (pN_T hh191)))).trans ((pRT hh195).trans (pN_T hh191))))
  have e229 : Tg h206 n198 = 50100 := ((pRT hh205).trans (pN_T hh201))
  have e230 : Tg h2 a0 = 1011 := ((pIT hh1).trans ta0)
  have e231 : Iv h206 a0 4 = 0 := ((pRI hh205).trans ((pNI hh201 (pN_n hh201 z200 e209)).trans ((pRI hh195).trans ((pNI hh191 (pN_n hh191 z190 e208)).trans ((pRI hh185).trans ((fxI F183 e143 rfl).trans ((pRI hh129).trans ((pNI hh125 (pN_n hh125 z124 e142)).trans ((pRI hh119).trans ((pNI hh115 (pN_n hh115 z114 e141)).trans ((pRI hh108).trans ((pRI hh102).trans ((fxI F99 e140 rfl).trans ((pRI hh64).trans ((fxI F62 e139 rfl).trans ((pRI hh40).trans ((pNI hh36 (pN_n hh36 z35 e213)).trans ((pRI hh30).trans ((fxI F28 e230 rfl).trans ((pI_j hh1 (by decide)).trans P_z.1))))))))))))))))))))
  have e232 : Iv h206 a0 9 = 0 := ((pRI hh205).trans ((pNI hh201 (pN_n hh201 z200 e209)).trans ((pRI hh195).trans ((pNI hh191 (pN_n hh191 z190 e208)).trans ((pRI hh185).trans ((fxI F183 e143 rfl).trans ((pRI hh129).trans ((pNI hh125 (pN_n hh125 z124 e142)).trans ((pRI hh119).trans ((pNI hh115 (pN_n hh115 z114 e141)).trans ((pRI hh108).trans ((pRI hh102).trans ((fxI F99 e140 rfl).trans ((pRI hh64).trans ((fxI F62 e139 rfl).trans ((pRI hh40).trans ((pNI hh36 (pN_n hh36 z35 e213)).trans ((pRI hh30).trans ((fxI F28 e230 rfl).trans ((pI_j hh1 (by decide)).trans P_z.2.1))))))))))))))))))))
  have e233 : Iv h206 a0 12 = 0 := ((pRI hh205).trans ((pNI hh201 (pN_n hh201 z200 e209)).trans ((pRI hh195).trans ((pNI hh191 (pN_n hh191 z190 e208)).trans ((pRI hh185).trans ((fxI F183 e143 rfl).trans ((pRI hh129).trans ((pNI hh125 (pN_n hh125 z124 e142)).trans ((pRI hh119).trans ((pNI hh115 (pN_n hh115 z114 e141)).trans ((pRI hh108).trans ((pRI hh102).trans ((fxI F99 e140 rfl).trans ((pRI hh64).trans ((fxI F62 e139 rfl).trans ((pRI hh40).trans ((pNI hh36 (pN_n hh36 z35 e213)).trans ((pRI hh30).trans ((fxI F28 e230 rfl).trans ((pI_j hh1 (by decide)).trans P_z.2.2.1))))))))))))))))))))
  have e234 : Iv h206 a0 15 = 0 := ((pRI hh205).trans ((pNI hh201 (pN_n hh201 z200 e209)).trans ((pRI hh195).trans ((pNI hh191 (pN_n hh191 z190 e208)).trans ((pRI hh185).trans ((fxI F183 e143 rfl).trans ((pRI hh129).trans ((pNI hh125 (pN_n hh125 z124 e142)).trans ((pRI hh119).trans ((pNI hh115 (pN_n hh115 z114 e141)).trans ((pRI hh108).trans ((pRI hh102).trans ((fxI F99 e140 rfl).trans ((pRI hh64).trans ((fxI F62 e139 rfl).trans ((pRI hh40).trans ((pNI hh36 (pN_n hh36 z35 e213)).trans ((pRI hh30).trans ((fxI F28 e230 rfl).trans ((pI_j hh1 (by decide)).trans P_z.2.2.2))))))))))))))))))))
  have e235 : Tg h186 n132 = 7 := ((pRT hh185).trans (pT_T hh175))
  have e236 : Tg h192 n132 = 7 := ((pNT hh191 (pN_n hh191 z190 e235)).trans e235)
  have e237 : Tg h196 n132 = 7 := ((pRT hh195).trans e236)
  have e238 : Tg h202 n132 = 7 := ((pNT hh201 (pN_n hh201 z200 e237)).trans e237)
  have e239 : Rv h206 n132 1 = n33 := ((pR_n hh205 (ne_tag e238 e204 (by decide))).trans ((pNR hh201 (pN_n hh201 z200 e237)).trans ((pR_n hh195 (ne_tag e236 e194 (by decide))).trans ((pNR hh191 (pN_n hh191 z190 e235)).trans ((pR_n hh185 (ne_tag (pT_T hh175) e184 (by decide))).trans e181)))))
  have e240 : Rv h206 n132 2 = n112 := ((pR_n hh205 (ne_tag e238 e204 (by decide))).trans ((pNR hh201 (pN_n hh201 z200 e237)).trans ((pR_n hh195 (ne_tag e236 e194 (by decide))).trans ((pNR hh191 (pN_n hh191 z190 e235)).trans ((pR_n hh185 (ne_tag (pT_T hh175) e184 (by decide))).trans e182)))))
  have e241 : Iv h206 n132 3 = 0 := ((pRI hh205).trans ((pNI hh201 (pN_n hh201 z200 e237)).trans ((pRI hh195).trans ((pNI hh191 (pN_n hh191 z190 e235)).trans ((pRI hh185).trans e179)))))
  have e242 : Iv h206 n132 4 = 0 := ((pRI hh205).trans ((pNI hh201 (pN_n hh201 z200 e237)).trans ((pRI hh195).trans ((pNI hh191 (pN_n hh191 z190 e235)).trans ((pRI hh185).trans e180)))))
  have e243 : Tg h109 n67 = 5 := ((pRT hh108).trans e106)
  have e244 : Tg h116 n67 = 5 := ((pNT hh115 (pN_n hh115 z114 e243)).trans e243)
  have e245 : Tg h120 n67 = 5 := ((pRT hh119).trans e244)
  have e246 : Tg h126 n67 = 5 := ((pNT hh125 (pN_n hh125 z124 e245)).trans e245)
  have e247 : Tg h130 n67 = 5 := ((pRT hh129).trans e246)
  have e248 : Tg h176 n67 = 5 := (fxT F183 e247)
  have e249 : Tg h186 n67 = 5 := ((pRT hh185).trans e248)
  have e250 : Tg h192 n67 = 5 := ((pNT hh191 (pN_n hh191 z190 e249)).trans e249)
  have e251 : Tg h196 n67 = 5 := ((pRT hh195).trans e250)
  have e252 : Tg h202 n67 = 5 := ((pNT hh201 (pN_n hh201 z200 e251)).trans e251)
  have p253 := (BkOk_fx O203 ((Fx.rf (wr := [202218]) (h := h202)).pR e204 hh205 rfl) e252 rfl rfl (BkOk_fx O197 ((Fx.rf (wr := [1000050100]) (h := h196)).pN z200 hh201 rfl) e251 rfl rfl (BkOk_fx O193 ((Fx.rf (wr := [202214]) (h := h192)).pR e194 hh195 rfl) e250 rfl rfl (BkOk_fx O187 ((Fx.rf (wr := [1000049107]) (h := h186)).pN z190 hh191 rfl) e249 rfl rfl (BkOk_fx O177 ((Fx.rf (wr := [202213]) (h := h176)).pR e184 hh185 rfl) e248 rfl rfl (BkOk_fx O131 F183 e247 rfl rfl (BkOk_fx O127 ((Fx.rf (wr := [202211]) (h := h126)).pR e128 hh129 rfl) e246 rfl rfl (BkOk_fx O121 ((Fx.rf (wr := [1000048106]) (h := h120)).pN z124 hh125 rfl) e245 rfl rfl (BkOk_fx O117 ((Fx.rf (wr := [202208]) (h := h116)).pR e118 hh119 rfl) e244 rfl rfl (BkOk_fx O110 ((Fx.rf (wr := [1000039105]) (h := h109)).pN z114 hh115 rfl) e243 rfl rfl (BkOk_fx O104 ((Fx.rf (wr := [202207]) (h := h103)).pR e105 hh108 rfl) e106 rfl rfl (BkOk_fx O92 ((Fx.rf (wr := [202206]) (h := h91)).pR e101 hh102 rfl) (pT_T hh90) rfl rfl p100))))))))))))
  have e254 : Tg h109 v85 = 6 := ((pRT hh108).trans e111)
  have e255 : Tg h116 v85 = 6 := ((pNT hh115 (pN_n hh115 z114 e254)).trans e254)
  have e256 : Tg h120 v85 = 6 := ((pRT hh119).trans e255)
  have e257 : Tg h126 v85 = 6 := ((pNT hh125 (pN_n hh125 z124 e256)).trans e256)
  have e258 : Tg h130 v85 = 6 := ((pRT hh129).trans e257)
  have e259 : Tg h176 v85 = 6 := (fxT F183 e258)
  have e260 : Tg h186 v85 = 6 := ((pRT hh185).trans e259)
  have e261 : Tg h192 v85 = 6 := ((pNT hh191 (pN_n hh191 z190 e260)).trans e260)
  have e262 : Tg h196 v85 = 6 := ((pRT hh195).trans e261)
  have e263 : Tg h202 v85 = 6 := ((pNT hh201 (pN_n hh201 z200 e262)).trans e262)
  have p264 := (RulesOk_fx O203 ((Fx.rf (wr := [202218]) (h := h202)).pR e204 hh205 rfl) e263 rfl (RulesOk_fx O197 ((Fx.rf (wr := [1000050100]) (h := h196)).pN z200 hh201 rfl) e262 rfl (RulesOk_fx O193 ((Fx.rf (wr := [202214]) (h := h192)).pR e194 hh195 rfl) e261 rfl (RulesOk_fx O187 ((Fx.rf (wr := [1000049107]) (h := h186)).pN z190 hh191 rfl) e260 rfl (RulesOk_fx O177 ((Fx.rf (wr := [202213]) (h := h176)).pR e184 hh185 rfl) e259 rfl (RulesOk_fx O131 F183 e258 rfl (RulesOk_fx O127 ((Fx.rf (wr := [202211]) (h := h126)).pR e128 hh129 rfl) e257 rfl (RulesOk_fx O121 ((Fx.rf (wr := [1000048106]) (h := h120)).pN z124 hh125 rfl) e256 rfl (RulesOk_fx O117 ((Fx.rf (wr := [202208]) (h := h116)).pR e118 hh119 rfl) e255 rfl (RulesOk_fx O110 ((Fx.rf (wr := [1000039105]) (h := h109)).pN z114 hh115 rfl) e254 rfl (RulesOk_fx O104 ((Fx.rf (wr := [202207]) (h := h103)).pR e105 hh108 rfl) e111 rfl (RulesOk_fx O92 ((Fx.rf (wr := [202206]) (h := h91)).pR e101 hh102 rfl) e96 rfl p98))))))))))))
  have p265 := (ND_fx ((Fx.rf (wr := [202218]) (h := h202)).pR e204 hh205 rfl) rfl rfl (ND_fx ((Fx.rf (wr := [1000050100]) (h := h196)).pN z200 hh201 rfl) rfl rfl (ND_fx ((Fx.rf (wr := [202214]) (h := h192)).pR e194 hh195 rfl) rfl rfl (ND_fx ((Fx.rf (wr := [1000049107]) (h := h186)).pN z190 hh191 rfl) rfl rfl (ND_fx ((Fx.rf (wr := [202213]) (h := h176)).pR e184 hh185 rfl) rfl rfl (ND_fx F183 rfl rfl (ND_fx ((Fx.rf (wr := [202211]) (h := h126)).pR e128 hh129 rfl) rfl rfl (ND_fx ((Fx.rf (wr := [1000048106]) (h := h120)).pN z124 hh125 rfl) rfl rfl (ND_fx ((Fx.rf (wr := [202208]) (h := h116)).pR e118 hh119 rfl) rfl rfl (ND_fx ((Fx.rf (wr := [1000039105]) (h := h109)).pN z114 hh115 rfl) rfl rfl (ND_fx ((Fx.rf (wr := [202207]) (h := h103)).pR e105 hh108 rfl) rfl rfl (ND_fx ((Fx.rf (wr := [202206]) (h := h91)).pR e101 hh102 rfl) rfl rfl p97))))))))))))
  exact g_vret C hr ⟨O207, (((((((((((((((((((((Fx.rf (wr := wr_k_X11_init)).pI ta0 hh1 rfl).call F28 rfl).pR e29 hh30 rfl).pN z35 hh36 rfl).pR e39 hh40 rfl).call F62 rfl).pR e63 hh64 rfl).call F99 rfl).pR e101 hh102 rfl).pR e105 hh108 rfl).pN z114 hh115 rfl).pR e118 hh119 rfl).pN z124 hh125 rfl).pR e128 hh129 rfl).call F183 rfl).pR e184 hh185 rfl).pN z190 hh191 rfl).pR e194 hh195 rfl).pN z200 hh201 rfl).pR e204 hh205 rfl), (by rw [e214]; exact nz_of O207 e215), (by rw [e210]; exact nz_of O207 e216), (by rw [e217]; exact nz_of O207 e218), (by rw [e219]; exact nz_of O207 e220), (by rw [e221]; exact nz_of O207 e222), (by rw [e211]; exact nz_of O207 e223), (by rw [e212]; exact nz_of O207 e224), (by rw [e225]; exact nz_of O207 e226), (by rw [e227]; exact nz_of O207 e228), (by rw [(pR_e hh205)]; exact nz_of O207 e229), (by unfold XInv; rw [e210, e231, e211, e232, e212, e233, e234, e227, e225, e219, e221, e239, e240, e241, e242]; exact ⟨(fun k hk => absurd hk (by omega)), (fun k hk => absurd hk (by omega)), (fun k hk => absurd hk (by omega)), (fun z => absurd z (by decide)), rfl, rfl, (by omega), (by omega), p253, p264, p265⟩)⟩ (by decide) (by decide) dX11_init_115
