def wr_k3_X11_init : List Nat := [200600, 200601, 200602, 200603, 200604, 200606, 200607, 200800, 200811, 201000, 201001, 201003, 201201, 201202, 201203, 201204, 201205, 201207, 201208, 201211, 201212, 201214, 201215, 201216, 201217, 201218, 201400, 201401, 201402, 201406, 201407, 201408, 201409, 201410, 201411, 202000, 202001, 202002, 202201, 202202, 202203, 202205, 202206, 202207, 202208, 202211, 202213, 202214, 202218, 2420000, 3020000, 5620000, 8020000, 8620000, 8820000, 9020000, 9420000, 10020000, 1000000003, 1000000004, 1000000005, 1000000006, 1000000007, 1000000010, 1000001003, 1000001004, 1000001005, 1000001006, 1000001007, 1000001010, 1000002006, 1000012100, 1000013101, 1000014101, 1000015100, 1000016101, 1000017100, 1000018100, 1000019103, 1000020100, 1000021100, 1000022108, 1000023102, 1000024100, 1000025100, 1000026100, 1000027100, 1000028100, 1000029100, 1000030100, 1000031100, 1000032100, 1000033100, 1000034100, 1000035100, 1000036100, 1000037100, 1000038104, 1000039105, 1000040100, 1000041102, 1000042102, 1000043100, 1000045100, 1000046102, 1000047100, 1000048106, 1000049107, 1000050100]
set_option maxRecDepth 100000 in
set_option maxHeartbeats 4000000 in
theorem k3_X11_init (l : Launch) (D : va_G) (cy : Nat → ClassId) (w : Nat → Nat) (z0 : Nat) {h : Hp} {a0 : Nat}  (O : Okh h) (ta0 : Tg h a0 = 1011) (P_ND : ND h) (P_z : Iv h a0 4 = 0 ∧ Iv h a0 9 = 0 ∧ Iv h a0 12 = 0 ∧ Iv h a0 15 = 0) : MV l D cy w z0 yX11_init cX11_init 1 none 3 66 48 5500 [.inr (.inr a0)] h (fun h1 => Okh h1 ∧ Fx wr_k3_X11_init h h1 ∧ (¬ Rv h1 a0 2 = 0) ∧ (¬ Rv h1 a0 3 = 0) ∧ (¬ Rv h1 a0 5 = 0) ∧ (¬ Rv h1 a0 6 = 0) ∧ (¬ Rv h1 a0 7 = 0) ∧ (¬ Rv h1 a0 8 = 0) ∧ (¬ Rv h1 a0 11 = 0) ∧ (¬ Rv h1 a0 13 = 0) ∧ (¬ Rv h1 a0 14 = 0) ∧ (¬ Rv h1 a0 18 = 0) ∧ (XInv h1 a0) ∧ (Qplc h1 a0 = 0)) := by
  refine hm_go (by decide +kernel) (Nat.le_of_ble_eq_true rfl) (fun p e s m below meth c C hr hn => ?_)
  refine g_aload_n C rfl 0 rfl dX11_init_0 ?_
  refine g_oinit C (tg_nz ta0) kw_177 kw_178 (by decide) (Nat.le_of_ble_eq_true rfl) dX11_init_1 ?_
  refine g_aload_n C rfl 0 rfl dX11_init_4 ?_
  refine g_iconst C dX11_init_5 ?_
  refine gp_I C fk_LandSurvey_9 pk_LandSurvey_1 rfl ta0 (iw (il (-1)) (by decide) (by decide)) (nf_i _) dX11_init_6 (fun h2 hh1 => ?_)
  have O3 := O.pI ta0 hh1 rI_1011_1 (iw (il (-1)) (by decide) (by decide)) nofun
  refine g_aload_n C rfl 0 rfl dX11_init_9 ?_
  refine g_new C 1003 rfl rfl rfl inX2 tyX2 tyX2_ok kw_180 kw_181 kw_145 (by decide +kernel) (by decide) (by decide) dX11_init_10 (fun n4 z5 z6 h8 hh7 => ?_)
  have O9 := O3.pN z5 z6 hh7 (by decide) nn_1003
  refine g_dup C rfl dX11_init_13 ?_
  refine g_callV (st := [.inr (.inr n4), .inr (.inr a0)]) (gc_I C lk_LandSurvey_15 rfl (k_X2_init l D cy w z0 O9 (pN_T hh7)) (tg_nz (pN_T hh7)) rfl ⟨by decide, by decide⟩ (Nat.le_of_ble_eq_true rfl) dX11_init_14 ⟨(by decide), (by decide)⟩) (fun h11 K12 => ?_)
  obtain ⟨O14, F15, p16, p17, p18, p19, p20, p21, p22⟩ := K12
  have e23 : Tg h11 n4 = 1003 := (fxT F15 (pN_T hh7))
  refine g_rt (T0 := 1002) (T1 := 2) e23 rfl (fun h25 hh24 => ?_)
  have O26 := O14.rt1 (T0 := 3) (T1 := 1002) e23 hh24 nu_1003 tbI_3_1003 tbE_3_1003 (fun j hj => by
      have z := List.elem_iff.mp (tbN_3 j hj)
      simp only [List.mem_cons, List.not_mem_nil, or_false] at z
      rcases z with rfl | rfl | rfl | rfl | rfl | rfl | rfl
      · exact p16
      · exact p17
      · exact p18
      · exact p19
      · exact p20
      · exact p21
      · exact p22)
  have e27 : Ln h25 n4 = 0 := ((pTL hh24).trans ((fxL F15 (pN_T hh7)).trans (pN_L hh7)))
  have e28 : Iv h25 n4 5 = 0 := ((pTI hh24).trans ((fxI F15 (pN_T hh7) rfl).trans (pN_I hh7)))
  have e29 : Iv h25 n4 8 = 0 := ((pTI hh24).trans ((fxI F15 (pN_T hh7) rfl).trans (pN_I hh7)))
  have F30 : Fx [200600, 200601, 200602, 200603, 200604, 200606, 200607, 2420000, 3020000, 5620000, 8020000, 8620000, 8820000, 9020000, 9420000, 10020000, 1000000003, 1000001003, 1000012100, 1000013101, 1000014101, 1000015100, 1000016101, 1000017100, 1000018100] h2 h25 := ((((Fx.rf (wr := [200600, 200601, 200602, 200603, 200604, 200606, 200607, 2420000, 3020000, 5620000, 8020000, 8620000, 8820000, 9020000, 9420000, 10020000, 1000000003, 1000001003, 1000012100, 1000013101, 1000014101, 1000015100, 1000016101, 1000017100, 1000018100]) (h := h2)).pN z6 hh7 rfl).call F15 rfl).pT (nt_of (Fx.rf (wr := [200600, 200601, 200602, 200603, 200604, 200606, 200607, 2420000, 3020000, 5620000, 8020000, 8620000, 8820000, 9020000, 9420000, 10020000, 1000000003, 1000001003, 1000012100, 1000013101, 1000014101, 1000015100, 1000016101, 1000017100, 1000018100]) (h := h2)) z6) hh24 rfl)
  have e31 : Tg h25 a0 = 1011 := (fxT F30 ((pIT hh1).trans ta0))
  refine gp_RF C fk_LandSurvey_16 pk_LandSurvey_2 rfl e31 hn rfl (nf_o _ _) dX11_init_17 (fun h33 hh32 => ?_)
  have O34 := O26.pR e31 hh32 (okR_o rE_1011_2 (pT_T hh24))
  refine g_aload_n C rfl 0 rfl dX11_init_20 ?_
  refine g_bipush C (by decide) dX11_init_21 ?_
  refine g_newq (t := 4) C 38104 rfl (iw (il 40) (by decide) (by decide)) (by decide) (by decide) kw_226 C.2.1.2.1.1 rfl (by decide) (by decide) (by decide) dX11_init_23 (fun n35 z36 z37 h39 hh38 => ?_)
  have O40 := O34.pN z36 z37 hh38 (by decide) nn_38104
  have e41 : Tg h33 a0 = 1011 := ((pRT hh32).trans e31)
  have e42 : Tg h39 a0 = 1011 := ((pNT hh38 (pN_n hh38 z37 e41)).trans e41)
  refine gp_RF C fk_LandSurvey_22 pk_LandSurvey_3 rfl e42 hn rfl (nf_a _ _) dX11_init_26 (fun h44 hh43 => ?_)
  have O45 := O40.pR e42 hh43 (okR_l rE_1011_3 (pN_T hh38) (pN_L hh38))
  refine g_aload_n C rfl 0 rfl dX11_init_29 ?_
  refine g_new C 1004 rfl rfl rfl inX3 tyX3 tyX3_ok kw_228 kw_229 kw_147 (by decide +kernel) (by decide) (by decide) dX11_init_30 (fun n46 z47 z48 h50 hh49 => ?_)
  have O51 := O45.pN z47 z48 hh49 (by decide) nn_1004
  refine g_dup C rfl dX11_init_33 ?_
  refine g_callV (st := [.inr (.inr n46), .inr (.inr a0)]) (gc_N C lk_LandSurvey_28 rfl (k_X3_init l D cy w z0 O51 (pN_T hh49)) (tg_nz (pN_T hh49)) C.2.1.2.2.1 rfl ⟨by decide, by decide⟩ (Nat.le_of_ble_eq_true rfl) dX11_init_34 ⟨(by decide), (by decide)⟩) (fun h53 K54 => ?_)
  obtain ⟨O56, F57, p58, p59⟩ := K54
  have e60 : Tg h53 n46 = 1004 := (fxT F57 (pN_T hh49))
  refine g_rt (T0 := 1003) (T1 := 3) e60 rfl (fun h62 hh61 => ?_)
  have O63 := O56.rt1 (T0 := 4) (T1 := 1003) e60 hh61 nu_1004 tbI_4_1004 tbE_4_1004 (fun j hj => by
      have z := List.elem_iff.mp (tbN_4 j hj)
      simp only [List.mem_cons, List.not_mem_nil, or_false] at z
      rcases z with rfl | rfl
      · exact p58
      · exact p59)
  have e64 : Ln h62 n46 = 0 := ((pTL hh61).trans ((fxL F57 (pN_T hh49)).trans (pN_L hh49)))
  have e65 : Iv h62 n46 1 = 0 := ((pTI hh61).trans ((fxI F57 (pN_T hh49) rfl).trans (pN_I hh49)))
  have F66 : Fx [200800, 200811, 1000000004, 1000001004, 1000019103, 1000020100] h44 h62 := ((((Fx.rf (wr := [200800, 200811, 1000000004, 1000001004, 1000019103, 1000020100]) (h := h44)).pN z48 hh49 rfl).call F57 rfl).pT (nt_of (Fx.rf (wr := [200800, 200811, 1000000004, 1000001004, 1000019103, 1000020100]) (h := h44)) z48) hh61 rfl)
  have e67 : Tg h62 a0 = 1011 := (fxT F66 ((pRT hh43).trans e42))
  refine gp_RF C fk_LandSurvey_29 pk_LandSurvey_5 rfl e67 hn rfl (nf_o _ _) dX11_init_37 (fun h69 hh68 => ?_)
  have O70 := O63.pR e67 hh68 (okR_o rE_1011_5 (pT_T hh61))
  refine g_aload_n C rfl 0 rfl dX11_init_40 ?_
  refine g_new C 1005 rfl rfl rfl inX4 tyX4 tyX4_ok kw_280 kw_281 kw_148 (by decide +kernel) (by decide) (by decide) dX11_init_41 (fun n71 z72 z73 h75 hh74 => ?_)
  have O76 := O70.pN z72 z73 hh74 (by decide) nn_1005
  refine g_dup C rfl dX11_init_44 ?_
  have p77 := (ND_fx ((Fx.rf (wr := [1000001005]) (h := h69)).pN z73 hh74 rfl) rfl rfl (ND_fx ((Fx.rf (wr := [202205]) (h := h62)).pR e67 hh68 rfl) rfl rfl (ND_fx F66 rfl rfl (ND_fx ((Fx.rf (wr := [202203]) (h := h39)).pR e42 hh43 rfl) rfl rfl (ND_fx ((Fx.rf (wr := [1000038104]) (h := h33)).pN z37 hh38 rfl) rfl rfl (ND_fx ((Fx.rf (wr := [202202]) (h := h25)).pR e31 hh32 rfl) rfl rfl (ND_fx F30 rfl rfl (ND_fx ((Fx.rf (wr := [202201]) (h := h)).pI ta0 hh1 rfl) rfl rfl P_ND))))))))
  refine g_callV (st := [.inr (.inr n71), .inr (.inr a0)]) (gc_N C lk_LandSurvey_35 rfl (k_X4_init l D cy w z0 O76 (pN_T hh74) p77) (tg_nz (pN_T hh74)) C.2.1.2.2.2.1 rfl ⟨by decide, by decide⟩ (Nat.le_of_ble_eq_true rfl) dX11_init_45 ⟨(by decide), (by decide)⟩) (fun h79 K80 => ?_)
  obtain ⟨O82, F83, p84, p85, p86, p87, p88⟩ := K80
  obtain ⟨v89, e90⟩ : ∃ z, Rv h79 n71 3 = z := ⟨_, rfl⟩
  have e91 : Tg h79 n71 = 1005 := (fxT F83 (pN_T hh74))
  have t92 := ok_N O82 e91 rE_1005_3 e90 (by rw [← e90]; exact p86)
  have z93 := p88
  rw [e90] at z93
  refine g_rt (T0 := 1004) (T1 := 4) e91 rfl (fun h95 hh94 => ?_)
  have O96 := O82.rt1 (T0 := 5) (T1 := 1004) e91 hh94 nu_1005 tbI_5_1005 tbE_5_1005 (fun j hj => by
      have z := List.elem_iff.mp (tbN_5 j hj)
      simp only [List.mem_cons, List.not_mem_nil, or_false] at z
      rcases z with rfl | rfl | rfl
      · exact p84
      · exact p85
      · exact p86)
  have e97 : Ln h95 n71 = 0 := ((pTL hh94).trans ((fxL F83 (pN_T hh74)).trans (pN_L hh74)))
  have e98 : Iv h95 n71 2 = 0 := ((pTI hh94).trans ((fxI F83 (pN_T hh74) rfl).trans (pN_I hh74)))
  have e99 : Rv h95 n71 3 = v89 := ((pTR hh94).trans e90)
  have e100 : Tg h95 v89 = 6 := ((pTT hh94 (ne_tag t92 e91 (by decide))).trans t92)
  have p101 := ND_rt2 p87 hh94 ⟨by decide, by decide⟩
  have p102 := RulesOk_rt hh94 z93
  have F103 : Fx [201000, 201001, 201003, 201201, 201202, 201203, 201204, 201205, 201207, 201208, 201211, 201212, 201214, 201215, 201216, 201217, 201218, 2420000, 3020000, 5620000, 8020000, 8620000, 8820000, 9020000, 9420000, 10020000, 1000000005, 1000000006, 1000001005, 1000001006, 1000002006, 1000021100, 1000022108, 1000023102, 1000024100, 1000025100, 1000026100, 1000027100, 1000028100, 1000029100, 1000030100, 1000031100, 1000032100, 1000033100, 1000034100, 1000035100, 1000036100, 1000037100] h69 h95 := ((((Fx.rf (wr := [201000, 201001, 201003, 201201, 201202, 201203, 201204, 201205, 201207, 201208, 201211, 201212, 201214, 201215, 201216, 201217, 201218, 2420000, 3020000, 5620000, 8020000, 8620000, 8820000, 9020000, 9420000, 10020000, 1000000005, 1000000006, 1000001005, 1000001006, 1000002006, 1000021100, 1000022108, 1000023102, 1000024100, 1000025100, 1000026100, 1000027100, 1000028100, 1000029100, 1000030100, 1000031100, 1000032100, 1000033100, 1000034100, 1000035100, 1000036100, 1000037100]) (h := h69)).pN z73 hh74 rfl).call F83 rfl).pT (nt_of (Fx.rf (wr := [201000, 201001, 201003, 201201, 201202, 201203, 201204, 201205, 201207, 201208, 201211, 201212, 201214, 201215, 201216, 201217, 201218, 2420000, 3020000, 5620000, 8020000, 8620000, 8820000, 9020000, 9420000, 10020000, 1000000005, 1000000006, 1000001005, 1000001006, 1000002006, 1000021100, 1000022108, 1000023102, 1000024100, 1000025100, 1000026100, 1000027100, 1000028100, 1000029100, 1000030100, 1000031100, 1000032100, 1000033100, 1000034100, 1000035100, 1000036100, 1000037100]) (h := h69)) z73) hh94 rfl)
  have p104 : BkOk h95 n71 := ⟨fun k hk => absurd hk (by rw [e98]; omega), by rw [e99]; exact p102⟩
  have e105 : Tg h95 a0 = 1011 := (fxT F103 ((pRT hh68).trans e67))
  refine gp_RF C fk_LandSurvey_36 pk_LandSurvey_6 rfl e105 hn rfl (nf_o _ _) dX11_init_48 (fun h107 hh106 => ?_)
  have O108 := O96.pR e105 hh106 (okR_o rE_1011_6 (pT_T hh94))
  refine g_aload_n C rfl 0 rfl dX11_init_51 ?_
  refine g_aload_n C rfl 0 rfl dX11_init_52 ?_
  have e109 : Tg h107 a0 = 1011 := ((pRT hh106).trans e105)
  refine gf_R C fk_LandSurvey_36 rfl e109 (pR_e hh106) dX11_init_53 ?_
  have e110 : Tg h107 n71 = 5 := ((pRT hh106).trans (pT_T hh94))
  have e111 : Rv h107 n71 3 = v89 := ((pR_n hh106 (ne_tag (pT_T hh94) e105 (by decide))).trans e99)
  refine gf_R C fk_LandSurvey_40 rfl e110 e111 dX11_init_56 ?_
  refine gp_R C fk_LandSurvey_44 pk_LandSurvey_7 rfl e109 (nf_o _ _) dX11_init_59 (fun h113 hh112 => ?_)
  have e115 : Tg h107 v89 = 6 := ((pRT hh106).trans e100)
  have O114 := O108.pR e109 hh112 (okR_o rE_1011_7 e115)
  refine g_aload_n C rfl 0 rfl dX11_init_62 ?_
  refine g_iconst C dX11_init_63 ?_
  refine g_newq (t := 5) C 39105 rfl (iw (il 4) (by decide) (by decide)) (by decide) (by decide) kw_392 C.2.1.2.1.2.1 rfl (by decide) (by decide) (by decide) dX11_init_64 (fun n116 z117 z118 h120 hh119 => ?_)
  have O121 := O114.pN z117 z118 hh119 (by decide) nn_39105
  have e122 : Tg h113 a0 = 1011 := ((pRT hh112).trans e109)
  have e123 : Tg h120 a0 = 1011 := ((pNT hh119 (pN_n hh119 z118 e122)).trans e122)
  refine gp_RF C fk_LandSurvey_49 pk_LandSurvey_8 rfl e123 hn rfl (nf_a _ _) dX11_init_67 (fun h125 hh124 => ?_)
  have O126 := O121.pR e123 hh124 (okR_l rE_1011_8 (pN_T hh119) (pN_L hh119))
  refine g_aload_n C rfl 0 rfl dX11_init_70 ?_
  refine g_bipush C (by decide) dX11_init_71 ?_
  refine g_newq (t := 6) C 48106 rfl (iw (il 10) (by decide) (by decide)) (by decide) (by decide) kw_394 C.2.1.2.1.2.2.1 rfl (by decide) (by decide) (by decide) dX11_init_73 (fun n127 z128 z129 h131 hh130 => ?_)
  have O132 := O126.pN z128 z129 hh130 (by decide) nn_48106
  have e133 : Tg h125 a0 = 1011 := ((pRT hh124).trans e123)
  have e134 : Tg h131 a0 = 1011 := ((pNT hh130 (pN_n hh130 z129 e133)).trans e133)
  refine gp_RF C fk_LandSurvey_55 pk_LandSurvey_11 rfl e134 hn rfl (nf_a _ _) dX11_init_76 (fun h136 hh135 => ?_)
  have O137 := O132.pR e134 hh135 (okR_l rE_1011_11 (pN_T hh130) (pN_L hh130))
  refine g_aload_n C rfl 0 rfl dX11_init_79 ?_
  refine g_new C 1007 rfl rfl rfl inX6 tyX6 tyX6_ok kw_396 kw_397 kw_150 (by decide +kernel) (by decide) (by decide) dX11_init_80 (fun n138 z139 z140 h142 hh141 => ?_)
  have O143 := O137.pN z139 z140 hh141 (by decide) nn_1007
  refine g_dup C rfl dX11_init_83 ?_
  refine g_aload_n C rfl 0 rfl dX11_init_84 ?_
  have e144 : Tg h136 a0 = 1011 := ((pRT hh135).trans e134)
  have e145 : Tg h142 a0 = 1011 := ((pNT hh141 (pN_n hh141 z140 e144)).trans e144)
  have e146 : Tg h44 a0 = 1011 := ((pRT hh43).trans e42)
  have e147 : Tg h69 a0 = 1011 := ((pRT hh68).trans e67)
  have e148 : Rv h142 a0 3 = n35 := ((pNR hh141 (pN_n hh141 z140 e144)).trans ((pR_j hh135 (by decide)).trans ((pNR hh130 (pN_n hh130 z129 e133)).trans ((pR_j hh124 (by decide)).trans ((pNR hh119 (pN_n hh119 z118 e122)).trans ((pR_j hh112 (by decide)).trans ((pR_j hh106 (by decide)).trans ((fxR F103 e147 rfl).trans ((pR_j hh68 (by decide)).trans ((fxR F66 e146 rfl).trans (pR_e hh43)))))))))))
  refine gf_R C fk_LandSurvey_22 rfl e145 e148 dX11_init_85 ?_
  refine g_aload_n C rfl 0 rfl dX11_init_88 ?_
  have e149 : Rv h142 a0 8 = n116 := ((pNR hh141 (pN_n hh141 z140 e144)).trans ((pR_j hh135 (by decide)).trans ((pNR hh130 (pN_n hh130 z129 e133)).trans (pR_e hh124))))
  refine gf_R C fk_LandSurvey_49 rfl e145 e149 dX11_init_89 ?_
  have e150 : Tg h113 n35 = 38104 := ((pRT hh112).trans ((pRT hh106).trans (fxT F103 ((pRT hh68).trans (fxT F66 ((pRT hh43).trans (pN_T hh38)))))))
  have e151 : Tg h125 n35 = 38104 := ((pRT hh124).trans ((pNT hh119 (pN_n hh119 z118 e150)).trans e150))
  have e152 : Tg h136 n35 = 38104 := ((pRT hh135).trans ((pNT hh130 (pN_n hh130 z129 e151)).trans e151))
  have e153 : Tg h142 n35 = 38104 := ((pNT hh141 (pN_n hh141 z140 e152)).trans e152)
  have e154 : Tg h44 n35 = 38104 := ((pRT hh43).trans (pN_T hh38))
  have e155 : Tg h69 n35 = 38104 := ((pRT hh68).trans (fxT F66 e154))
  have e156 : Ln h142 n35 = 40 := ((pNL hh141 (pN_n hh141 z140 e152)).trans ((pRL hh135).trans ((pNL hh130 (pN_n hh130 z129 e151)).trans ((pRL hh124).trans ((pNL hh119 (pN_n hh119 z118 e150)).trans ((pRL hh112).trans ((pRL hh106).trans ((fxL F103 e155).trans ((pRL hh68).trans ((fxL F66 e154).trans ((pRL hh43).trans (pN_L hh38))))))))))))
  have e157 : Tg h125 n116 = 39105 := ((pRT hh124).trans (pN_T hh119))
  have e158 : Tg h136 n116 = 39105 := ((pRT hh135).trans ((pNT hh130 (pN_n hh130 z129 e157)).trans e157))
  have e159 : Tg h142 n116 = 39105 := ((pNT hh141 (pN_n hh141 z140 e158)).trans e158)
  have e160 : Ln h142 n116 = 4 := ((pNL hh141 (pN_n hh141 z140 e158)).trans ((pRL hh135).trans ((pNL hh130 (pN_n hh130 z129 e157)).trans ((pRL hh124).trans (pN_L hh119)))))
  refine g_callV (st := [.inr (.inr n138), .inr (.inr a0)]) (gc_I C lk_LandSurvey_61 rfl (k_X6_init l D cy w z0 O143 (pN_T hh141) e153 e156 e159 e160) (tg_nz (pN_T hh141)) rfl ⟨by decide, by decide⟩ (Nat.le_of_ble_eq_true rfl) dX11_init_92 ⟨(by decide), (by decide)⟩) (fun h162 K163 => ?_)
  obtain ⟨O165, F166, p167, p168, p169, p170, p171, p172, p173, p174, p175, p176, p177⟩ := K163
  have e178 : Tg h162 n138 = 1007 := (fxT F166 (pN_T hh141))
  refine g_rt (T0 := 1006) (T1 := 6) e178 rfl (fun h180 hh179 => ?_)
  have O181 := O165.rt1 (T0 := 7) (T1 := 1006) e178 hh179 nu_1007 tbI_7_1007 tbE_7_1007 (fun j hj => by
      have z := List.elem_iff.mp (tbN_7 j hj)
      simp only [List.mem_cons, List.not_mem_nil, or_false] at z
      rcases z with rfl | rfl | rfl | rfl | rfl | rfl | rfl | rfl | rfl
      · exact p167
      · exact p168
      · exact p169
      · exact p170
      · exact p171
      · exact p172
      · exact p173
      · exact p174
      · exact p175)
  have e182 : Ln h180 n138 = 0 := ((pTL hh179).trans ((fxL F166 (pN_T hh141)).trans (pN_L hh141)))
  have e183 : Iv h180 n138 3 = 0 := ((pTI hh179).trans ((fxI F166 (pN_T hh141) rfl).trans (pN_I hh141)))
  have e184 : Iv h180 n138 4 = 0 := ((pTI hh179).trans ((fxI F166 (pN_T hh141) rfl).trans (pN_I hh141)))
  have e185 : Rv h180 n138 1 = n35 := ((pTR hh179).trans p176)
  have e186 : Rv h180 n138 2 = n116 := ((pTR hh179).trans p177)
  have F187 : Fx [201400, 201401, 201402, 201406, 201407, 201408, 201409, 201410, 201411, 202000, 202001, 202002, 1000000007, 1000000010, 1000001007, 1000001010, 1000040100, 1000041102, 1000042102, 1000043100, 1000045100, 1000046102, 1000047100] h136 h180 := ((((Fx.rf (wr := [201400, 201401, 201402, 201406, 201407, 201408, 201409, 201410, 201411, 202000, 202001, 202002, 1000000007, 1000000010, 1000001007, 1000001010, 1000040100, 1000041102, 1000042102, 1000043100, 1000045100, 1000046102, 1000047100]) (h := h136)).pN z140 hh141 rfl).call F166 rfl).pT (nt_of (Fx.rf (wr := [201400, 201401, 201402, 201406, 201407, 201408, 201409, 201410, 201411, 202000, 202001, 202002, 1000000007, 1000000010, 1000001007, 1000001010, 1000040100, 1000041102, 1000042102, 1000043100, 1000045100, 1000046102, 1000047100]) (h := h136)) z140) hh179 rfl)
  have e188 : Tg h180 a0 = 1011 := (fxT F187 e144)
  refine gp_RF C fk_LandSurvey_64 pk_LandSurvey_13 rfl e188 hn rfl (nf_o _ _) dX11_init_95 (fun h190 hh189 => ?_)
  have O191 := O181.pR e188 hh189 (okR_o rE_1011_13 (pT_T hh179))
  refine g_aload_n C rfl 0 rfl dX11_init_98 ?_
  refine g_bipush C (by decide) dX11_init_99 ?_
  refine g_newq (t := 7) C 49107 rfl (iw (il 16) (by decide) (by decide)) (by decide) (by decide) kw_466 C.2.1.2.1.2.2.2.1 rfl (by decide) (by decide) (by decide) dX11_init_101 (fun n192 z193 z194 h196 hh195 => ?_)
  have O197 := O191.pN z193 z194 hh195 (by decide) nn_49107
  have e198 : Tg h190 a0 = 1011 := ((pRT hh189).trans e188)
  have e199 : Tg h196 a0 = 1011 := ((pNT hh195 (pN_n hh195 z194 e198)).trans e198)
  refine gp_RF C fk_LandSurvey_70 pk_LandSurvey_14 rfl e199 hn rfl (nf_a _ _) dX11_init_104 (fun h201 hh200 => ?_)
  have O202 := O197.pR e199 hh200 (okR_l rE_1011_14 (pN_T hh195) (pN_L hh195))
  refine g_aload_n C rfl 0 rfl dX11_init_107 ?_
  refine g_bipush C (by decide) dX11_init_108 ?_
  refine g_newa (atype := .int) (t := 0) (ty := .int) (N := 12) C 50100 rfl (iw (il 12) (by decide) (by decide)) (by decide) rfl kw_224 rfl (fun _ => rfl) (by decide) (by decide) (by decide) (by decide) dX11_init_110 (fun n203 z204 z205 h207 hh206 => ?_)
  have O208 := O202.pN z204 z205 hh206 (by decide) nn_50100
  have e209 : Tg h201 a0 = 1011 := ((pRT hh200).trans e199)
  have e210 : Tg h207 a0 = 1011 := ((pNT hh206 (pN_n hh206 z205 e209)).trans e209)
  refine gp_RF C fk_LandSurvey_74 pk_LandSurvey_18 rfl e210 hn rfl (nf_a _ _) dX11_init_112 (fun h212 hh211 => ?_)
  have O213 := O208.pR e210 hh211 (okR_l rE_1011_18 (pN_T hh206) (pN_L hh206))
  have e214 : Rv h212 a0 3 = n35 := ((pR_j hh211 (by decide)).trans ((pNR hh206 (pN_n hh206 z205 e209)).trans ((pR_j hh200 (by decide)).trans ((pNR hh195 (pN_n hh195 z194 e198)).trans ((pR_j hh189 (by decide)).trans ((fxR F187 e144 rfl).trans ((pR_j hh135 (by decide)).trans ((pNR hh130 (pN_n hh130 z129 e133)).trans ((pR_j hh124 (by decide)).trans ((pNR hh119 (pN_n hh119 z118 e122)).trans ((pR_j hh112 (by decide)).trans ((pR_j hh106 (by decide)).trans ((fxR F103 e147 rfl).trans ((pR_j hh68 (by decide)).trans ((fxR F66 e146 rfl).trans (pR_e hh43))))))))))))))))
  have e215 : Rv h212 a0 8 = n116 := ((pR_j hh211 (by decide)).trans ((pNR hh206 (pN_n hh206 z205 e209)).trans ((pR_j hh200 (by decide)).trans ((pNR hh195 (pN_n hh195 z194 e198)).trans ((pR_j hh189 (by decide)).trans ((fxR F187 e144 rfl).trans ((pR_j hh135 (by decide)).trans ((pNR hh130 (pN_n hh130 z129 e133)).trans (pR_e hh124)))))))))
  have e216 : Rv h212 a0 11 = n127 := ((pR_j hh211 (by decide)).trans ((pNR hh206 (pN_n hh206 z205 e209)).trans ((pR_j hh200 (by decide)).trans ((pNR hh195 (pN_n hh195 z194 e198)).trans ((pR_j hh189 (by decide)).trans ((fxR F187 e144 rfl).trans (pR_e hh135)))))))
  have e217 : Rv h212 a0 2 = n4 := ((pR_j hh211 (by decide)).trans ((pNR hh206 (pN_n hh206 z205 e209)).trans ((pR_j hh200 (by decide)).trans ((pNR hh195 (pN_n hh195 z194 e198)).trans ((pR_j hh189 (by decide)).trans ((fxR F187 e144 rfl).trans ((pR_j hh135 (by decide)).trans ((pNR hh130 (pN_n hh130 z129 e133)).trans ((pR_j hh124 (by decide)).trans ((pNR hh119 (pN_n hh119 z118 e122)).trans ((pR_j hh112 (by decide)).trans ((pR_j hh106 (by decide)).trans ((fxR F103 e147 rfl).trans ((pR_j hh68 (by decide)).trans ((fxR F66 e146 rfl).trans ((pR_j hh43 (by decide)).trans ((pNR hh38 (pN_n hh38 z37 e41)).trans (pR_e hh32))))))))))))))))))
  have e218 : Tg h33 n4 = 3 := ((pRT hh32).trans (pT_T hh24))
  have e219 : Tg h113 n4 = 3 := ((pRT hh112).trans ((pRT hh106).trans (fxT F103 ((pRT hh68).trans (fxT F66 ((pRT hh43).trans ((pNT hh38 (pN_n hh38 z37 e218)).trans e218)))))))
  have e220 : Tg h125 n4 = 3 := ((pRT hh124).trans ((pNT hh119 (pN_n hh119 z118 e219)).trans e219))
  have e221 : Tg h190 n4 = 3 := ((pRT hh189).trans (fxT F187 ((pRT hh135).trans ((pNT hh130 (pN_n hh130 z129 e220)).trans e220))))
  have e222 : Tg h201 n4 = 3 := ((pRT hh200).trans ((pNT hh195 (pN_n hh195 z194 e221)).trans e221))
  have e223 : Tg h212 n4 = 3 := ((pRT hh211).trans ((pNT hh206 (pN_n hh206 z205 e222)).trans e222))
  have e224 : Tg h190 n35 = 38104 := ((pRT hh189).trans (fxT F187 e152))
  have e225 : Tg h201 n35 = 38104 := ((pRT hh200).trans ((pNT hh195 (pN_n hh195 z194 e224)).trans e224))
  have e226 : Tg h212 n35 = 38104 := ((pRT hh211).trans ((pNT hh206 (pN_n hh206 z205 e225)).trans e225))
  have e227 : Rv h212 a0 5 = n46 := ((pR_j hh211 (by decide)).trans ((pNR hh206 (pN_n hh206 z205 e209)).trans ((pR_j hh200 (by decide)).trans ((pNR hh195 (pN_n hh195 z194 e198)).trans ((pR_j hh189 (by decide)).trans ((fxR F187 e144 rfl).trans ((pR_j hh135 (by decide)).trans ((pNR hh130 (pN_n hh130 z129 e133)).trans ((pR_j hh124 (by decide)).trans ((pNR hh119 (pN_n hh119 z118 e122)).trans ((pR_j hh112 (by decide)).trans ((pR_j hh106 (by decide)).trans ((fxR F103 e147 rfl).trans (pR_e hh68))))))))))))))
  have e228 : Tg h113 n46 = 4 := ((pRT hh112).trans ((pRT hh106).trans (fxT F103 ((pRT hh68).trans (pT_T hh61)))))
  have e229 : Tg h125 n46 = 4 := ((pRT hh124).trans ((pNT hh119 (pN_n hh119 z118 e228)).trans e228))
  have e230 : Tg h190 n46 = 4 := ((pRT hh189).trans (fxT F187 ((pRT hh135).trans ((pNT hh130 (pN_n hh130 z129 e229)).trans e229))))
  have e231 : Tg h201 n46 = 4 := ((pRT hh200).trans ((pNT hh195 (pN_n hh195 z194 e230)).trans e230))
  have e232 : Tg h212 n46 = 4 := ((pRT hh211).trans ((pNT hh206 (pN_n hh206 z205 e231)).trans e231))
  have e233 : Rv h212 a0 6 = n71 := ((pR_j hh211 (by decide)).trans ((pNR hh206 (pN_n hh206 z205 e209)).trans ((pR_j hh200 (by decide)).trans ((pNR hh195 (pN_n hh195 z194 e198)).trans ((pR_j hh189 (by decide)).trans ((fxR F187 e144 rfl).trans ((pR_j hh135 (by decide)).trans ((pNR hh130 (pN_n hh130 z129 e133)).trans ((pR_j hh124 (by decide)).trans ((pNR hh119 (pN_n hh119 z118 e122)).trans ((pR_j hh112 (by decide)).trans (pR_e hh106))))))))))))
  have e234 : Tg h113 n71 = 5 := ((pRT hh112).trans e110)
  have e235 : Tg h125 n71 = 5 := ((pRT hh124).trans ((pNT hh119 (pN_n hh119 z118 e234)).trans e234))
  have e236 : Tg h190 n71 = 5 := ((pRT hh189).trans (fxT F187 ((pRT hh135).trans ((pNT hh130 (pN_n hh130 z129 e235)).trans e235))))
  have e237 : Tg h201 n71 = 5 := ((pRT hh200).trans ((pNT hh195 (pN_n hh195 z194 e236)).trans e236))
  have e238 : Tg h212 n71 = 5 := ((pRT hh211).trans ((pNT hh206 (pN_n hh206 z205 e237)).trans e237))
  have e239 : Rv h212 a0 7 = v89 := ((pR_j hh211 (by decide)).trans ((pNR hh206 (pN_n hh206 z205 e209)).trans ((pR_j hh200 (by decide)).trans ((pNR hh195 (pN_n hh195 z194 e198)).trans ((pR_j hh189 (by decide)).trans ((fxR F187 e144 rfl).trans ((pR_j hh135 (by decide)).trans ((pNR hh130 (pN_n hh130 z129 e133)).trans ((pR_j hh124 (by decide)).trans ((pNR hh119 (pN_n hh119 z118 e122)).trans (pR_e hh112)))))))))))
  have e240 : Tg h113 v89 = 6 := ((pRT hh112).trans e115)
  have e241 : Tg h125 v89 = 6 := ((pRT hh124).trans ((pNT hh119 (pN_n hh119 z118 e240)).trans e240))
  have e242 : Tg h190 v89 = 6 := ((pRT hh189).trans (fxT F187 ((pRT hh135).trans ((pNT hh130 (pN_n hh130 z129 e241)).trans e241))))
  have e243 : Tg h201 v89 = 6 := ((pRT hh200).trans ((pNT hh195 (pN_n hh195 z194 e242)).trans e242))
  have e244 : Tg h212 v89 = 6 := ((pRT hh211).trans ((pNT hh206 (pN_n hh206 z205 e243)).trans e243))
  have e245 : Tg h190 n116 = 39105 := ((pRT hh189).trans (fxT F187 e158))
  have e246 : Tg h201 n116 = 39105 := ((pRT hh200).trans ((pNT hh195 (pN_n hh195 z194 e245)).trans e245))
  have e247 : Tg h212 n116 = 39105 := ((pRT hh211).trans ((pNT hh206 (pN_n hh206 z205 e246)).trans e246))
  have e248 : Tg h190 n127 = 48106 := ((pRT hh189).trans (fxT F187 ((pRT hh135).trans (pN_T hh130))))
  have e249 : Tg h201 n127 = 48106 := ((pRT hh200).trans ((pNT hh195 (pN_n hh195 z194 e248)).trans e248))
  have e250 : Tg h212 n127 = 48106 := ((pRT hh211).trans ((pNT hh206 (pN_n hh206 z205 e249)).trans e249))
  have e251 : Rv h212 a0 13 = n138 := ((pR_j hh211 (by decide)).trans ((pNR hh206 (pN_n hh206 z205 e209)).trans ((pR_j hh200 (by decide)).trans ((pNR hh195 (pN_n hh195 z194 e198)).trans (pR_e hh189)))))
  have e252 : Tg h190 n138 = 7 := ((pRT hh189).trans (pT_T hh179))
  have e253 : Tg h201 n138 = 7 := ((pRT hh200).trans ((pNT hh195 (pN_n hh195 z194 e252)).trans e252))
  have e254 : Tg h212 n138 = 7 := ((pRT hh211).trans ((pNT hh206 (pN_n hh206 z205 e253)).trans e253))
  have e255 : Rv h212 a0 14 = n192 := ((pR_j hh211 (by decide)).trans ((pNR hh206 (pN_n hh206 z205 e209)).trans (pR_e hh200)))
  have e256 : Tg h201 n192 = 49107 := ((pRT hh200).trans (pN_T hh195))
  have e257 : Tg h212 n192 = 49107 := ((pRT hh211).trans ((pNT hh206 (pN_n hh206 z205 e256)).trans e256))
  have e258 : Tg h212 n203 = 50100 := ((pRT hh211).trans (pN_T hh206))
  have e259 : Tg h2 a0 = 1011 := ((pIT hh1).trans ta0)
  have e260 : Iv h212 a0 4 = 0 := ((pRI hh211).trans ((pNI hh206 (pN_n hh206 z205 e209)).trans ((pRI hh200).trans ((pNI hh195 (pN_n hh195 z194 e198)).trans ((pRI hh189).trans ((fxI F187 e144 rfl).trans ((pRI hh135).trans ((pNI hh130 (pN_n hh130 z129 e133)).trans ((pRI hh124).trans ((pNI hh119 (pN_n hh119 z118 e122)).trans ((pRI hh112).trans ((pRI hh106).trans ((fxI F103 e147 rfl).trans ((pRI hh68).trans ((fxI F66 e146 rfl).trans ((pRI hh43).trans ((pNI hh38 (pN_n hh38 z37 e41)).trans ((pRI hh32).trans ((fxI F30 e259 rfl).trans ((pI_j hh1 (by decide)).trans P_z.1))))))))))))))))))))
  have e261 : Iv h212 a0 9 = 0 := ((pRI hh211).trans ((pNI hh206 (pN_n hh206 z205 e209)).trans ((pRI hh200).trans ((pNI hh195 (pN_n hh195 z194 e198)).trans ((pRI hh189).trans ((fxI F187 e144 rfl).trans ((pRI hh135).trans ((pNI hh130 (pN_n hh130 z129 e133)).trans ((pRI hh124).trans ((pNI hh119 (pN_n hh119 z118 e122)).trans ((pRI hh112).trans ((pRI hh106).trans ((fxI F103 e147 rfl).trans ((pRI hh68).trans ((fxI F66 e146 rfl).trans ((pRI hh43).trans ((pNI hh38 (pN_n hh38 z37 e41)).trans ((pRI hh32).trans ((fxI F30 e259 rfl).trans ((pI_j hh1 (by decide)).trans P_z.2.1))))))))))))))))))))
  have e262 : Iv h212 a0 12 = 0 := ((pRI hh211).trans ((pNI hh206 (pN_n hh206 z205 e209)).trans ((pRI hh200).trans ((pNI hh195 (pN_n hh195 z194 e198)).trans ((pRI hh189).trans ((fxI F187 e144 rfl).trans ((pRI hh135).trans ((pNI hh130 (pN_n hh130 z129 e133)).trans ((pRI hh124).trans ((pNI hh119 (pN_n hh119 z118 e122)).trans ((pRI hh112).trans ((pRI hh106).trans ((fxI F103 e147 rfl).trans ((pRI hh68).trans ((fxI F66 e146 rfl).trans ((pRI hh43).trans ((pNI hh38 (pN_n hh38 z37 e41)).trans ((pRI hh32).trans ((fxI F30 e259 rfl).trans ((pI_j hh1 (by decide)).trans P_z.2.2.1))))))))))))))))))))
  have e263 : Iv h212 a0 15 = 0 := ((pRI hh211).trans ((pNI hh206 (pN_n hh206 z205 e209)).trans ((pRI hh200).trans ((pNI hh195 (pN_n hh195 z194 e198)).trans ((pRI hh189).trans ((fxI F187 e144 rfl).trans ((pRI hh135).trans ((pNI hh130 (pN_n hh130 z129 e133)).trans ((pRI hh124).trans ((pNI hh119 (pN_n hh119 z118 e122)).trans ((pRI hh112).trans ((pRI hh106).trans ((fxI F103 e147 rfl).trans ((pRI hh68).trans ((fxI F66 e146 rfl).trans ((pRI hh43).trans ((pNI hh38 (pN_n hh38 z37 e41)).trans ((pRI hh32).trans ((fxI F30 e259 rfl).trans ((pI_j hh1 (by decide)).trans P_z.2.2.2))))))))))))))))))))
  have e264 : Tg h196 n138 = 7 := ((pNT hh195 (pN_n hh195 z194 e252)).trans e252)
  have e265 : Tg h207 n138 = 7 := ((pNT hh206 (pN_n hh206 z205 e253)).trans e253)
  have e266 : Rv h212 n138 1 = n35 := ((pR_n hh211 (ne_tag e265 e210 (by decide))).trans ((pNR hh206 (pN_n hh206 z205 e253)).trans ((pR_n hh200 (ne_tag e264 e199 (by decide))).trans ((pNR hh195 (pN_n hh195 z194 e252)).trans ((pR_n hh189 (ne_tag (pT_T hh179) e188 (by decide))).trans e185)))))
  have e267 : Rv h212 n138 2 = n116 := ((pR_n hh211 (ne_tag e265 e210 (by decide))).trans ((pNR hh206 (pN_n hh206 z205 e253)).trans ((pR_n hh200 (ne_tag e264 e199 (by decide))).trans ((pNR hh195 (pN_n hh195 z194 e252)).trans ((pR_n hh189 (ne_tag (pT_T hh179) e188 (by decide))).trans e186)))))
  have e268 : Iv h212 n138 3 = 0 := ((pRI hh211).trans ((pNI hh206 (pN_n hh206 z205 e253)).trans ((pRI hh200).trans ((pNI hh195 (pN_n hh195 z194 e252)).trans ((pRI hh189).trans e183)))))
  have e269 : Iv h212 n138 4 = 0 := ((pRI hh211).trans ((pNI hh206 (pN_n hh206 z205 e253)).trans ((pRI hh200).trans ((pNI hh195 (pN_n hh195 z194 e252)).trans ((pRI hh189).trans e184)))))
  have e270 : Tg h120 n71 = 5 := ((pNT hh119 (pN_n hh119 z118 e234)).trans e234)
  have e271 : Tg h131 n71 = 5 := ((pNT hh130 (pN_n hh130 z129 e235)).trans e235)
  have e272 : Tg h136 n71 = 5 := ((pRT hh135).trans e271)
  have e273 : Tg h180 n71 = 5 := (fxT F187 e272)
  have e274 : Tg h196 n71 = 5 := ((pNT hh195 (pN_n hh195 z194 e236)).trans e236)
  have e275 : Tg h207 n71 = 5 := ((pNT hh206 (pN_n hh206 z205 e237)).trans e237)
  have p276 := (BkOk_fx O208 ((Fx.rf (wr := [202218]) (h := h207)).pR e210 hh211 rfl) e275 rfl rfl (BkOk_fx O202 ((Fx.rf (wr := [1000050100]) (h := h201)).pN z205 hh206 rfl) e237 rfl rfl (BkOk_fx O197 ((Fx.rf (wr := [202214]) (h := h196)).pR e199 hh200 rfl) e274 rfl rfl (BkOk_fx O191 ((Fx.rf (wr := [1000049107]) (h := h190)).pN z194 hh195 rfl) e236 rfl rfl (BkOk_fx O181 ((Fx.rf (wr := [202213]) (h := h180)).pR e188 hh189 rfl) e273 rfl rfl (BkOk_fx O137 F187 e272 rfl rfl (BkOk_fx O132 ((Fx.rf (wr := [202211]) (h := h131)).pR e134 hh135 rfl) e271 rfl rfl (BkOk_fx O126 ((Fx.rf (wr := [1000048106]) (h := h125)).pN z129 hh130 rfl) e235 rfl rfl (BkOk_fx O121 ((Fx.rf (wr := [202208]) (h := h120)).pR e123 hh124 rfl) e270 rfl rfl (BkOk_fx O114 ((Fx.rf (wr := [1000039105]) (h := h113)).pN z118 hh119 rfl) e234 rfl rfl (BkOk_fx O108 ((Fx.rf (wr := [202207]) (h := h107)).pR e109 hh112 rfl) e110 rfl rfl (BkOk_fx O96 ((Fx.rf (wr := [202206]) (h := h95)).pR e105 hh106 rfl) (pT_T hh94) rfl rfl p104))))))))))))
  have e277 : Tg h120 v89 = 6 := ((pNT hh119 (pN_n hh119 z118 e240)).trans e240)
  have e278 : Tg h131 v89 = 6 := ((pNT hh130 (pN_n hh130 z129 e241)).trans e241)
  have e279 : Tg h136 v89 = 6 := ((pRT hh135).trans e278)
  have e280 : Tg h180 v89 = 6 := (fxT F187 e279)
  have e281 : Tg h196 v89 = 6 := ((pNT hh195 (pN_n hh195 z194 e242)).trans e242)
  have e282 : Tg h207 v89 = 6 := ((pNT hh206 (pN_n hh206 z205 e243)).trans e243)
  have p283 := (RulesOk_fx O208 ((Fx.rf (wr := [202218]) (h := h207)).pR e210 hh211 rfl) e282 rfl (RulesOk_fx O202 ((Fx.rf (wr := [1000050100]) (h := h201)).pN z205 hh206 rfl) e243 rfl (RulesOk_fx O197 ((Fx.rf (wr := [202214]) (h := h196)).pR e199 hh200 rfl) e281 rfl (RulesOk_fx O191 ((Fx.rf (wr := [1000049107]) (h := h190)).pN z194 hh195 rfl) e242 rfl (RulesOk_fx O181 ((Fx.rf (wr := [202213]) (h := h180)).pR e188 hh189 rfl) e280 rfl (RulesOk_fx O137 F187 e279 rfl (RulesOk_fx O132 ((Fx.rf (wr := [202211]) (h := h131)).pR e134 hh135 rfl) e278 rfl (RulesOk_fx O126 ((Fx.rf (wr := [1000048106]) (h := h125)).pN z129 hh130 rfl) e241 rfl (RulesOk_fx O121 ((Fx.rf (wr := [202208]) (h := h120)).pR e123 hh124 rfl) e277 rfl (RulesOk_fx O114 ((Fx.rf (wr := [1000039105]) (h := h113)).pN z118 hh119 rfl) e240 rfl (RulesOk_fx O108 ((Fx.rf (wr := [202207]) (h := h107)).pR e109 hh112 rfl) e115 rfl (RulesOk_fx O96 ((Fx.rf (wr := [202206]) (h := h95)).pR e105 hh106 rfl) e100 rfl p102))))))))))))
  have p284 := (ND_fx ((Fx.rf (wr := [202218]) (h := h207)).pR e210 hh211 rfl) rfl rfl (ND_fx ((Fx.rf (wr := [1000050100]) (h := h201)).pN z205 hh206 rfl) rfl rfl (ND_fx ((Fx.rf (wr := [202214]) (h := h196)).pR e199 hh200 rfl) rfl rfl (ND_fx ((Fx.rf (wr := [1000049107]) (h := h190)).pN z194 hh195 rfl) rfl rfl (ND_fx ((Fx.rf (wr := [202213]) (h := h180)).pR e188 hh189 rfl) rfl rfl (ND_fx F187 rfl rfl (ND_fx ((Fx.rf (wr := [202211]) (h := h131)).pR e134 hh135 rfl) rfl rfl (ND_fx ((Fx.rf (wr := [1000048106]) (h := h125)).pN z129 hh130 rfl) rfl rfl (ND_fx ((Fx.rf (wr := [202208]) (h := h120)).pR e123 hh124 rfl) rfl rfl (ND_fx ((Fx.rf (wr := [1000039105]) (h := h113)).pN z118 hh119 rfl) rfl rfl (ND_fx ((Fx.rf (wr := [202207]) (h := h107)).pR e109 hh112 rfl) rfl rfl (ND_fx ((Fx.rf (wr := [202206]) (h := h95)).pR e105 hh106 rfl) rfl rfl p101))))))))))))
  have e285 : Tg h44 n4 = 3 := ((pRT hh43).trans ((pNT hh38 (pN_n hh38 z37 e218)).trans e218))
  have e286 : Tg h69 n4 = 3 := ((pRT hh68).trans (fxT F66 e285))
  have e287 : Tg h136 n4 = 3 := ((pRT hh135).trans ((pNT hh130 (pN_n hh130 z129 e220)).trans e220))
  have e288 : Iv h212 n4 8 = 0 := ((pRI hh211).trans ((pNI hh206 (pN_n hh206 z205 e222)).trans ((pRI hh200).trans ((pNI hh195 (pN_n hh195 z194 e221)).trans ((pRI hh189).trans ((fxI F187 e287 rfl).trans ((pRI hh135).trans ((pNI hh130 (pN_n hh130 z129 e220)).trans ((pRI hh124).trans ((pNI hh119 (pN_n hh119 z118 e219)).trans ((pRI hh112).trans ((pRI hh106).trans ((fxI F103 e286 rfl).trans ((pRI hh68).trans ((fxI F66 e285 rfl).trans ((pRI hh43).trans ((pNI hh38 (pN_n hh38 z37 e218)).trans ((pRI hh32).trans e29))))))))))))))))))
  exact g_vret C hr ⟨O213, (((((((((((((((((((((Fx.rf (wr := wr_k3_X11_init)).pI ta0 hh1 rfl).call F30 rfl).pR e31 hh32 rfl).pN z37 hh38 rfl).pR e42 hh43 rfl).call F66 rfl).pR e67 hh68 rfl).call F103 rfl).pR e105 hh106 rfl).pR e109 hh112 rfl).pN z118 hh119 rfl).pR e123 hh124 rfl).pN z129 hh130 rfl).pR e134 hh135 rfl).call F187 rfl).pR e188 hh189 rfl).pN z194 hh195 rfl).pR e199 hh200 rfl).pN z205 hh206 rfl).pR e210 hh211 rfl), (by rw [e217]; exact nz_of O213 e223), (by rw [e214]; exact nz_of O213 e226), (by rw [e227]; exact nz_of O213 e232), (by rw [e233]; exact nz_of O213 e238), (by rw [e239]; exact nz_of O213 e244), (by rw [e215]; exact nz_of O213 e247), (by rw [e216]; exact nz_of O213 e250), (by rw [e251]; exact nz_of O213 e254), (by rw [e255]; exact nz_of O213 e257), (by rw [(pR_e hh211)]; exact nz_of O213 e258), (by unfold XInv; rw [e214, e260, e215, e261, e216, e262, e263, e255, e251, e233, e239, e266, e267, e268, e269]; exact ⟨(fun k hk => absurd hk (by omega)), (fun k hk => absurd hk (by omega)), (fun k hk => absurd hk (by omega)), (fun z => absurd z (by decide)), rfl, rfl, (by omega), (by omega), p276, p283, p284⟩), (by unfold Qplc; rw [e217]; exact e288)⟩ (by decide) (by decide) dX11_init_115
