def wr_k3_X2_init : List Nat := [200600, 200601, 200602, 200603, 200604, 200606, 200607, 2420000, 3020000, 1000012100, 1000013101, 1000014101, 1000015100, 1000016101, 1000017100, 1000018100]
set_option maxRecDepth 100000 in
set_option maxHeartbeats 4000000 in
theorem k3_X2_init (l : Launch) (D : va_G) (cy : Nat → ClassId) (w : Nat → Nat) (z0 : Nat)  {h : Hp} {a0 : Nat}  (O : Okh h) (ta0 : Tg h a0 = 1003) : MV l D cy w z0 yX2_init cX2_init 1 none 1 24 7 496 [.inr (.inr a0)] h (fun h1 => Okh h1 ∧ Fx wr_k3_X2_init h h1 ∧ (¬ Rv h1 a0 0 = 0) ∧ (¬ Rv h1 a0 1 = 0) ∧ (¬ Rv h1 a0 2 = 0) ∧ (¬ Rv h1 a0 3 = 0) ∧ (¬ Rv h1 a0 4 = 0) ∧ (¬ Rv h1 a0 6 = 0) ∧ (¬ Rv h1 a0 7 = 0) ∧ (ZA h1 (Rv h1 a0 4))) := by
  refine hm_go (by decide +kernel) (Nat.le_of_ble_eq_true rfl) (fun p e s m below meth c C hr hn => ?_)
  refine g_aload_n C rfl 0 rfl dX2_init_0 ?_
  refine g_oinit C (tg_nz ta0) kw_185 kw_178 (by decide) (Nat.le_of_ble_eq_true rfl) dX2_init_1 ?_
  refine g_aload_n C rfl 0 rfl dX2_init_4 ?_
  refine g_bipush C (by decide) dX2_init_5 ?_
  refine g_newa (atype := .int) (t := 0) (ty := .int) (N := 96) C 12100 rfl (iw (il 96) (by decide) (by decide)) (by decide) rfl kw_224 rfl (fun _ => rfl) (by decide) (by decide) (by decide) (by decide) dX2_init_7 (fun n1 z2 z3 h5 hh4 => ?_)
  have O6 := O.pN z2 z3 hh4 (by decide) nn_12100
  have e7 : Tg h5 a0 = 1003 := ((pNT hh4 (pN_n hh4 z3 ta0)).trans ta0)
  refine gp_RF C fk_LandSurvey_Land_9 pk_LandSurvey_Land_0 rfl e7 hn rfl (nf_a _ _) dX2_init_9 (fun h9 hh8 => ?_)
  have O10 := O6.pR e7 hh8 (okR_l rE_1003_0 (pN_T hh4) (pN_L hh4))
  refine g_aload_n C rfl 0 rfl dX2_init_12 ?_
  refine g_bipush C (by decide) dX2_init_13 ?_
  refine g_newa (atype := .boolean) (t := 1) (ty := .boolean) (N := 96) C 13101 rfl (iw (il 96) (by decide) (by decide)) (by decide) rfl kw_225 rfl (fun _ => rfl) (by decide) (by decide) (by decide) (by decide) dX2_init_15 (fun n11 z12 z13 h15 hh14 => ?_)
  have O16 := O10.pN z12 z13 hh14 (by decide) nn_13101
  have e17 : Tg h9 a0 = 1003 := ((pRT hh8).trans e7)
  have e18 : Tg h15 a0 = 1003 := ((pNT hh14 (pN_n hh14 z13 e17)).trans e17)
  refine gp_RF C fk_LandSurvey_Land_15 pk_LandSurvey_Land_1 rfl e18 hn rfl (nf_a _ _) dX2_init_17 (fun h20 hh19 => ?_)
  have O21 := O16.pR e18 hh19 (okR_l rE_1003_1 (pN_T hh14) (pN_L hh14))
  refine g_aload_n C rfl 0 rfl dX2_init_20 ?_
  refine g_bipush C (by decide) dX2_init_21 ?_
  refine g_newa (atype := .boolean) (t := 1) (ty := .boolean) (N := 96) C 14101 rfl (iw (il 96) (by decide) (by decide)) (by decide) rfl kw_225 rfl (fun _ => rfl) (by decide) (by decide) (by decide) (by decide) dX2_init_23 (fun n22 z23 z24 h26 hh25 => ?_)
  have O27 := O21.pN z23 z24 hh25 (by decide) nn_14101
  have e28 : Tg h20 a0 = 1003 := ((pRT hh19).trans e18)
  have e29 : Tg h26 a0 = 1003 := ((pNT hh25 (pN_n hh25 z24 e28)).trans e28)
  refine gp_RF C fk_LandSurvey_Land_19 pk_LandSurvey_Land_2 rfl e29 hn rfl (nf_a _ _) dX2_init_25 (fun h31 hh30 => ?_)
  have O32 := O27.pR e29 hh30 (okR_l rE_1003_2 (pN_T hh25) (pN_L hh25))
  refine g_aload_n C rfl 0 rfl dX2_init_28 ?_
  refine g_bipush C (by decide) dX2_init_29 ?_
  refine g_newa (atype := .int) (t := 0) (ty := .int) (N := 96) C 15100 rfl (iw (il 96) (by decide) (by decide)) (by decide) rfl kw_224 rfl (fun _ => rfl) (by decide) (by decide) (by decide) (by decide) dX2_init_31 (fun n33 z34 z35 h37 hh36 => ?_)
  have O38 := O32.pN z34 z35 hh36 (by decide) nn_15100
  have e39 : Tg h31 a0 = 1003 := ((pRT hh30).trans e29)
  have e40 : Tg h37 a0 = 1003 := ((pNT hh36 (pN_n hh36 z35 e39)).trans e39)
  refine gp_RF C fk_LandSurvey_Land_22 pk_LandSurvey_Land_3 rfl e40 hn rfl (nf_a _ _) dX2_init_33 (fun h42 hh41 => ?_)
  have O43 := O38.pR e40 hh41 (okR_l rE_1003_3 (pN_T hh36) (pN_L hh36))
  refine g_aload_n C rfl 0 rfl dX2_init_36 ?_
  refine g_bipush C (by decide) dX2_init_37 ?_
  refine g_newa (atype := .boolean) (t := 1) (ty := .boolean) (N := 96) C 16101 rfl (iw (il 96) (by decide) (by decide)) (by decide) rfl kw_225 rfl (fun _ => rfl) (by decide) (by decide) (by decide) (by decide) dX2_init_39 (fun n44 z45 z46 h48 hh47 => ?_)
  have O49 := O43.pN z45 z46 hh47 (by decide) nn_16101
  have e50 : Tg h42 a0 = 1003 := ((pRT hh41).trans e40)
  have e51 : Tg h48 a0 = 1003 := ((pNT hh47 (pN_n hh47 z46 e50)).trans e50)
  refine gp_RF C fk_LandSurvey_Land_25 pk_LandSurvey_Land_4 rfl e51 hn rfl (nf_a _ _) dX2_init_41 (fun h53 hh52 => ?_)
  have O54 := O49.pR e51 hh52 (okR_l rE_1003_4 (pN_T hh47) (pN_L hh47))
  refine g_aload_n C rfl 0 rfl dX2_init_44 ?_
  refine g_bipush C (by decide) dX2_init_45 ?_
  refine g_newa (atype := .int) (t := 0) (ty := .int) (N := 8) C 17100 rfl (iw (il 8) (by decide) (by decide)) (by decide) rfl kw_224 rfl (fun _ => rfl) (by decide) (by decide) (by decide) (by decide) dX2_init_47 (fun n55 z56 z57 h59 hh58 => ?_)
  have O60 := O54.pN z56 z57 hh58 (by decide) nn_17100
  have e61 : Tg h53 a0 = 1003 := ((pRT hh52).trans e51)
  have e62 : Tg h59 a0 = 1003 := ((pNT hh58 (pN_n hh58 z57 e61)).trans e61)
  refine gp_RF C fk_LandSurvey_Land_28 pk_LandSurvey_Land_6 rfl e62 hn rfl (nf_a _ _) dX2_init_49 (fun h64 hh63 => ?_)
  have O65 := O60.pR e62 hh63 (okR_l rE_1003_6 (pN_T hh58) (pN_L hh58))
  refine g_aload_n C rfl 0 rfl dX2_init_52 ?_
  refine g_bipush C (by decide) dX2_init_53 ?_
  refine g_newa (atype := .int) (t := 0) (ty := .int) (N := 8) C 18100 rfl (iw (il 8) (by decide) (by decide)) (by decide) rfl kw_224 rfl (fun _ => rfl) (by decide) (by decide) (by decide) (by decide) dX2_init_55 (fun n66 z67 z68 h70 hh69 => ?_)
  have O71 := O65.pN z67 z68 hh69 (by decide) nn_18100
  have e72 : Tg h64 a0 = 1003 := ((pRT hh63).trans e62)
  have e73 : Tg h70 a0 = 1003 := ((pNT hh69 (pN_n hh69 z68 e72)).trans e72)
  refine gp_RF C fk_LandSurvey_Land_31 pk_LandSurvey_Land_7 rfl e73 hn rfl (nf_a _ _) dX2_init_57 (fun h75 hh74 => ?_)
  have O76 := O71.pR e73 hh74 (okR_l rE_1003_7 (pN_T hh69) (pN_L hh69))
  refine g_aload_n C rfl 0 rfl dX2_init_60 ?_
  have e77 : Tg h75 a0 = 1003 := ((pRT hh74).trans e73)
  have e78 : Rv h75 a0 0 = n1 := ((pR_j hh74 (by decide)).trans ((pNR hh69 (pN_n hh69 z68 e72)).trans ((pR_j hh63 (by decide)).trans ((pNR hh58 (pN_n hh58 z57 e61)).trans ((pR_j hh52 (by decide)).trans ((pNR hh47 (pN_n hh47 z46 e50)).trans ((pR_j hh41 (by decide)).trans ((pNR hh36 (pN_n hh36 z35 e39)).trans ((pR_j hh30 (by decide)).trans ((pNR hh25 (pN_n hh25 z24 e28)).trans ((pR_j hh19 (by decide)).trans ((pNR hh14 (pN_n hh14 z13 e17)).trans (pR_e hh8)))))))))))))
  refine gf_R C fk_LandSurvey_Land_9 rfl e77 e78 dX2_init_61 ?_
  refine g_sipush C (by decide) dX2_init_64 ?_
  have e79 : Tg h9 n1 = 12100 := ((pRT hh8).trans (pN_T hh4))
  have e80 : Tg h20 n1 = 12100 := ((pRT hh19).trans ((pNT hh14 (pN_n hh14 z13 e79)).trans e79))
  have e81 : Tg h31 n1 = 12100 := ((pRT hh30).trans ((pNT hh25 (pN_n hh25 z24 e80)).trans e80))
  have e82 : Tg h42 n1 = 12100 := ((pRT hh41).trans ((pNT hh36 (pN_n hh36 z35 e81)).trans e81))
  have e83 : Tg h53 n1 = 12100 := ((pRT hh52).trans ((pNT hh47 (pN_n hh47 z46 e82)).trans e82))
  have e84 : Tg h64 n1 = 12100 := ((pRT hh63).trans ((pNT hh58 (pN_n hh58 z57 e83)).trans e83))
  have e85 : Tg h75 n1 = 12100 := ((pRT hh74).trans ((pNT hh69 (pN_n hh69 z68 e84)).trans e84))
  have e86 : Ln h75 n1 = 96 := ((pRL hh74).trans ((pNL hh69 (pN_n hh69 z68 e84)).trans ((pRL hh63).trans ((pNL hh58 (pN_n hh58 z57 e83)).trans ((pRL hh52).trans ((pNL hh47 (pN_n hh47 z46 e82)).trans ((pRL hh41).trans ((pNL hh36 (pN_n hh36 z35 e81)).trans ((pRL hh30).trans ((pNL hh25 (pN_n hh25 z24 e80)).trans ((pRL hh19).trans ((pNL hh14 (pN_n hh14 z13 e79)).trans ((pRL hh8).trans (pN_L hh4))))))))))))))
  refine g_callV (st := []) (gc_S C lk_LandSurvey_Land_34 (k_fill_12100 l D cy w z0 O76 e85 e86 (iw (il 500) (by decide) (by decide))) rfl ⟨by decide, by decide⟩ (Nat.le_of_ble_eq_true rfl) dX2_init_67 ⟨(by decide), (by decide)⟩) (fun h88 K89 => ?_)
  obtain ⟨O91, F92⟩ := K89
  refine g_aload_n C rfl 0 rfl dX2_init_70 ?_
  have e93 : Tg h88 a0 = 1003 := (fxT F92 e77)
  have e94 : Rv h88 a0 3 = n33 := ((fxR F92 e77 rfl).trans ((pR_j hh74 (by decide)).trans ((pNR hh69 (pN_n hh69 z68 e72)).trans ((pR_j hh63 (by decide)).trans ((pNR hh58 (pN_n hh58 z57 e61)).trans ((pR_j hh52 (by decide)).trans ((pNR hh47 (pN_n hh47 z46 e50)).trans (pR_e hh41))))))))
  refine gf_R C fk_LandSurvey_Land_22 rfl e93 e94 dX2_init_71 ?_
  refine g_iconst C dX2_init_74 ?_
  have e95 : Tg h42 n33 = 15100 := ((pRT hh41).trans (pN_T hh36))
  have e96 : Tg h53 n33 = 15100 := ((pRT hh52).trans ((pNT hh47 (pN_n hh47 z46 e95)).trans e95))
  have e97 : Tg h64 n33 = 15100 := ((pRT hh63).trans ((pNT hh58 (pN_n hh58 z57 e96)).trans e96))
  have e98 : Tg h88 n33 = 15100 := (fxT F92 ((pRT hh74).trans ((pNT hh69 (pN_n hh69 z68 e97)).trans e97)))
  have e99 : Tg h75 n33 = 15100 := ((pRT hh74).trans ((pNT hh69 (pN_n hh69 z68 e97)).trans e97))
  have e100 : Ln h88 n33 = 96 := ((fxL F92 e99).trans ((pRL hh74).trans ((pNL hh69 (pN_n hh69 z68 e97)).trans ((pRL hh63).trans ((pNL hh58 (pN_n hh58 z57 e96)).trans ((pRL hh52).trans ((pNL hh47 (pN_n hh47 z46 e95)).trans ((pRL hh41).trans (pN_L hh36)))))))))
  refine g_callV (st := []) (gc_S C lk_LandSurvey_Land_34 (k_fill_15100 l D cy w z0 O91 e98 e100 (iw (il (-1)) (by decide) (by decide))) rfl ⟨by decide, by decide⟩ (Nat.le_of_ble_eq_true rfl) dX2_init_75 ⟨(by decide), (by decide)⟩) (fun h102 K103 => ?_)
  obtain ⟨O105, F106⟩ := K103
  have e107 : Rv h102 a0 0 = n1 := ((fxR F106 e93 rfl).trans ((fxR F92 e77 rfl).trans e78))
  have e108 : Tg h102 n1 = 12100 := (fxT F106 (fxT F92 e85))
  have e109 : Rv h102 a0 1 = n11 := ((fxR F106 e93 rfl).trans ((fxR F92 e77 rfl).trans ((pR_j hh74 (by decide)).trans ((pNR hh69 (pN_n hh69 z68 e72)).trans ((pR_j hh63 (by decide)).trans ((pNR hh58 (pN_n hh58 z57 e61)).trans ((pR_j hh52 (by decide)).trans ((pNR hh47 (pN_n hh47 z46 e50)).trans ((pR_j hh41 (by decide)).trans ((pNR hh36 (pN_n hh36 z35 e39)).trans ((pR_j hh30 (by decide)).trans ((pNR hh25 (pN_n hh25 z24 e28)).trans (pR_e hh19)))))))))))))
  have e110 : Tg h20 n11 = 13101 := ((pRT hh19).trans (pN_T hh14))
  have e111 : Tg h31 n11 = 13101 := ((pRT hh30).trans ((pNT hh25 (pN_n hh25 z24 e110)).trans e110))
  have e112 : Tg h42 n11 = 13101 := ((pRT hh41).trans ((pNT hh36 (pN_n hh36 z35 e111)).trans e111))
  have e113 : Tg h53 n11 = 13101 := ((pRT hh52).trans ((pNT hh47 (pN_n hh47 z46 e112)).trans e112))
  have e114 : Tg h64 n11 = 13101 := ((pRT hh63).trans ((pNT hh58 (pN_n hh58 z57 e113)).trans e113))
  have e115 : Tg h102 n11 = 13101 := (fxT F106 (fxT F92 ((pRT hh74).trans ((pNT hh69 (pN_n hh69 z68 e114)).trans e114))))
  have e116 : Rv h102 a0 2 = n22 := ((fxR F106 e93 rfl).trans ((fxR F92 e77 rfl).trans ((pR_j hh74 (by decide)).trans ((pNR hh69 (pN_n hh69 z68 e72)).trans ((pR_j hh63 (by decide)).trans ((pNR hh58 (pN_n hh58 z57 e61)).trans ((pR_j hh52 (by decide)).trans ((pNR hh47 (pN_n hh47 z46 e50)).trans ((pR_j hh41 (by decide)).trans ((pNR hh36 (pN_n hh36 z35 e39)).trans (pR_e hh30)))))))))))
  have e117 : Tg h31 n22 = 14101 := ((pRT hh30).trans (pN_T hh25))
  have e118 : Tg h42 n22 = 14101 := ((pRT hh41).trans ((pNT hh36 (pN_n hh36 z35 e117)).trans e117))
  have e119 : Tg h53 n22 = 14101 := ((pRT hh52).trans ((pNT hh47 (pN_n hh47 z46 e118)).trans e118))
  have e120 : Tg h64 n22 = 14101 := ((pRT hh63).trans ((pNT hh58 (pN_n hh58 z57 e119)).trans e119))
  have e121 : Tg h102 n22 = 14101 := (fxT F106 (fxT F92 ((pRT hh74).trans ((pNT hh69 (pN_n hh69 z68 e120)).trans e120))))
  have e122 : Rv h102 a0 3 = n33 := ((fxR F106 e93 rfl).trans e94)
  have e123 : Tg h102 n33 = 15100 := (fxT F106 e98)
  have e124 : Rv h102 a0 4 = n44 := ((fxR F106 e93 rfl).trans ((fxR F92 e77 rfl).trans ((pR_j hh74 (by decide)).trans ((pNR hh69 (pN_n hh69 z68 e72)).trans ((pR_j hh63 (by decide)).trans ((pNR hh58 (pN_n hh58 z57 e61)).trans (pR_e hh52)))))))
  have e125 : Tg h53 n44 = 16101 := ((pRT hh52).trans (pN_T hh47))
  have e126 : Tg h64 n44 = 16101 := ((pRT hh63).trans ((pNT hh58 (pN_n hh58 z57 e125)).trans e125))
  have e127 : Tg h102 n44 = 16101 := (fxT F106 (fxT F92 ((pRT hh74).trans ((pNT hh69 (pN_n hh69 z68 e126)).trans e126))))
  have e128 : Rv h102 a0 6 = n55 := ((fxR F106 e93 rfl).trans ((fxR F92 e77 rfl).trans ((pR_j hh74 (by decide)).trans ((pNR hh69 (pN_n hh69 z68 e72)).trans (pR_e hh63)))))
  have e129 : Tg h64 n55 = 17100 := ((pRT hh63).trans (pN_T hh58))
  have e130 : Tg h102 n55 = 17100 := (fxT F106 (fxT F92 ((pRT hh74).trans ((pNT hh69 (pN_n hh69 z68 e129)).trans e129))))
  have e131 : Rv h102 a0 7 = n66 := ((fxR F106 e93 rfl).trans ((fxR F92 e77 rfl).trans (pR_e hh74)))
  have e132 : Tg h102 n66 = 18100 := (fxT F106 (fxT F92 ((pRT hh74).trans (pN_T hh69))))
  have e133 : Tg h59 n44 = 16101 := ((pNT hh58 (pN_n hh58 z57 e125)).trans e125)
  have e134 : Tg h70 n44 = 16101 := ((pNT hh69 (pN_n hh69 z68 e126)).trans e126)
  have e135 : Tg h75 n44 = 16101 := ((pRT hh74).trans e134)
  have e136 : Tg h88 n44 = 16101 := (fxT F92 e135)
  have p137 := (ZA_fx F106 e136 ar_16101 rfl (ZA_fx F92 e135 ar_16101 rfl (ZA_fx ((Fx.rf (wr := [200607]) (h := h70)).pR e73 hh74 rfl) e134 ar_16101 rfl (ZA_fx ((Fx.rf (wr := [1000018100]) (h := h64)).pN z68 hh69 rfl) e126 ar_16101 rfl (ZA_fx ((Fx.rf (wr := [200606]) (h := h59)).pR e62 hh63 rfl) e133 ar_16101 rfl (ZA_fx ((Fx.rf (wr := [1000017100]) (h := h53)).pN z57 hh58 rfl) e125 ar_16101 rfl (ZA_fx ((Fx.rf (wr := [200604]) (h := h48)).pR e51 hh52 rfl) (pN_T hh47) ar_16101 rfl (fun _ => pN_I hh47))))))))
  exact g_vret C hr ⟨O105, (((((((((((((((((Fx.rf (wr := wr_k3_X2_init)).pN z3 hh4 rfl).pR e7 hh8 rfl).pN z13 hh14 rfl).pR e18 hh19 rfl).pN z24 hh25 rfl).pR e29 hh30 rfl).pN z35 hh36 rfl).pR e40 hh41 rfl).pN z46 hh47 rfl).pR e51 hh52 rfl).pN z57 hh58 rfl).pR e62 hh63 rfl).pN z68 hh69 rfl).pR e73 hh74 rfl).call F92 rfl).call F106 rfl), (by rw [e107]; exact nz_of O105 e108), (by rw [e109]; exact nz_of O105 e115), (by rw [e116]; exact nz_of O105 e121), (by rw [e122]; exact nz_of O105 e123), (by rw [e124]; exact nz_of O105 e127), (by rw [e128]; exact nz_of O105 e130), (by rw [e131]; exact nz_of O105 e132), (by rw [e124]; exact p137)⟩ (by decide) (by decide) dX2_init_78
def wr_k3_X11_init : List Nat := [200600, 200601, 200602, 200603, 200604, 200606, 200607, 200800, 200811, 201000, 201001, 201003, 201201, 201202, 201203, 201204, 201205, 201207, 201208, 201211, 201212, 201214, 201215, 201216, 201217, 201218, 201400, 201401, 201402, 201406, 201407, 201408, 201409, 201410, 201411, 202000, 202001, 202002, 202201, 202202, 202203, 202205, 202206, 202207, 202208, 202211, 202213, 202214, 202218, 2420000, 3020000, 5620000, 1000000003, 1000000004, 1000000005, 1000000006, 1000000007, 1000000010, 1000001003, 1000001004, 1000001005, 1000001006, 1000001007, 1000001010, 1000002006, 1000012100, 1000013101, 1000014101, 1000015100, 1000016101, 1000017100, 1000018100, 1000019103, 1000020100, 1000021100, 1000022108, 1000023102, 1000024100, 1000025100, 1000026100, 1000027100, 1000028100, 1000029100, 1000030100, 1000031100, 1000032100, 1000033100, 1000034100, 1000035100, 1000036100, 1000037100, 1000038104, 1000039105, 1000040100, 1000041102, 1000042102, 1000043100, 1000045100, 1000046102, 1000047100, 1000048106, 1000049107, 1000050100]
set_option maxRecDepth 100000 in
set_option maxHeartbeats 4000000 in
theorem k3_X11_init (l : Launch) (D : va_G) (cy : Nat → ClassId) (w : Nat → Nat) (z0 : Nat)  {h : Hp} {a0 : Nat}  (O : Okh h) (ta0 : Tg h a0 = 1011) (P_ND : ND h) (P_z : Iv h a0 4 = 0 ∧ Iv h a0 9 = 0 ∧ Iv h a0 12 = 0 ∧ Iv h a0 15 = 0) : MV l D cy w z0 yX11_init cX11_init 1 none 3 66 48 5500 [.inr (.inr a0)] h (fun h1 => Okh h1 ∧ Fx wr_k3_X11_init h h1 ∧ (¬ Rv h1 a0 2 = 0) ∧ (¬ Rv h1 a0 3 = 0) ∧ (¬ Rv h1 a0 5 = 0) ∧ (¬ Rv h1 a0 6 = 0) ∧ (¬ Rv h1 a0 7 = 0) ∧ (¬ Rv h1 a0 8 = 0) ∧ (¬ Rv h1 a0 11 = 0) ∧ (¬ Rv h1 a0 13 = 0) ∧ (¬ Rv h1 a0 14 = 0) ∧ (¬ Rv h1 a0 18 = 0) ∧ (XInv h1 a0) ∧ (Qask h1 a0 = zer1) ∧ (ASK h1 a0)) := by
  refine hm_go (by decide +kernel) (Nat.le_of_ble_eq_true rfl) (fun p e s m below meth c C hr hn => ?_)
  refine g_aload_n C rfl 0 rfl dX11_init_0 ?_
  refine g_oinit C (tg_nz ta0) kw_177 kw_178 (by decide) (Nat.le_of_ble_eq_true rfl) dX11_init_1 ?_
  refine g_aload_n C rfl 0 rfl dX11_init_4 ?_
  refine g_iconst C dX11_init_5 ?_
  refine gp_I C fk_LandSurvey_9 pk_LandSurvey_1 rfl ta0 (iw (il (-1)) (by decide) (by decide)) (nf_i _) dX11_init_6 (fun h2 hh1 => ?_)
  have O3 := O.pI ta0 hh1 rI_1011_1 (iw (il (-1)) (by decide) (by decide)) nofun
  refine g_aload_n C rfl 0 rfl dX11_init_9 ?_
  refine g_new C 1003 rfl rfl rfl inX2 tyX2 tyX2_ok kw_180 kw_181 kw_145 (by decide +kernel) (by decide) (by decide) dX11_init_10 (fun n4 z5 z6 h8 hh7 => ?_)
  have O9 := O3.pN z5 z6 hh7 (by decide) nn_1003
  refine g_dup C rfl dX11_init_13 ?_
  refine g_callV (st := [.inr (.inr n4), .inr (.inr a0)]) (gc_I C lk_LandSurvey_15 rfl (k3_X2_init l D cy w z0 O9 (pN_T hh7)) (tg_nz (pN_T hh7)) rfl ⟨by decide, by decide⟩ (Nat.le_of_ble_eq_true rfl) dX11_init_14 ⟨(by decide), (by decide)⟩) (fun h11 K12 => ?_)
  obtain ⟨O14, F15, p16, p17, p18, p19, p20, p21, p22, p23⟩ := K12
  obtain ⟨v24, e25⟩ : ∃ z, Rv h11 n4 4 = z := ⟨_, rfl⟩
  have e26 : Tg h11 n4 = 1003 := (fxT F15 (pN_T hh7))
  have t27 := ok_N O14 e26 rE_1003_4 e25 (by rw [← e25]; exact p20)
  have l28 := ok_NL O14 e26 rE_1003_4 e25 (by rw [← e25]; exact p20)
  have z29 := p23
  rw [e25] at z29
  refine g_rt (T0 := 1002) (T1 := 2) e26 rfl (fun h31 hh30 => ?_)
  have O32 := O14.rt1 (T0 := 3) (T1 := 1002) e26 hh30 nu_1003 tbI_3_1003 tbE_3_1003 (fun j hj => by
      have z := List.elem_iff.mp (tbN_3 j hj)
      simp only [List.mem_cons, List.not_mem_nil, or_false] at z
      rcases z with rfl | rfl | rfl | rfl | rfl | rfl | rfl
      · exact p16
      · exact p17
      · exact p18
      · exact p19
      · exact p20
      · exact p21
      · exact p22)
  have e33 : Ln h31 n4 = 0 := ((pTL hh30).trans ((fxL F15 (pN_T hh7)).trans (pN_L hh7)))
  have e34 : Iv h31 n4 5 = 0 := ((pTI hh30).trans ((fxI F15 (pN_T hh7) rfl).trans (pN_I hh7)))
  have e35 : Iv h31 n4 8 = 0 := ((pTI hh30).trans ((fxI F15 (pN_T hh7) rfl).trans (pN_I hh7)))
  have e36 : Rv h31 n4 4 = v24 := ((pTR hh30).trans e25)
  have e37 : Tg h31 v24 = 16101 := ((pTT hh30 (ne_tag t27 e26 (by decide))).trans t27)
  have z38 := ZA_rt hh30 z29
  have F39 : Fx [200600, 200601, 200602, 200603, 200604, 200606, 200607, 2420000, 3020000, 1000000003, 1000001003, 1000012100, 1000013101, 1000014101, 1000015100, 1000016101, 1000017100, 1000018100] h2 h31 := ((((Fx.rf (wr := [200600, 200601, 200602, 200603, 200604, 200606, 200607, 2420000, 3020000, 1000000003, 1000001003, 1000012100, 1000013101, 1000014101, 1000015100, 1000016101, 1000017100, 1000018100]) (h := h2)).pN z6 hh7 rfl).call F15 rfl).pT (nt_of (Fx.rf (wr := [200600, 200601, 200602, 200603, 200604, 200606, 200607, 2420000, 3020000, 1000000003, 1000001003, 1000012100, 1000013101, 1000014101, 1000015100, 1000016101, 1000017100, 1000018100]) (h := h2)) z6) hh30 rfl)
  have e40 : Tg h31 a0 = 1011 := (fxT F39 ((pIT hh1).trans ta0))
  refine gp_RF C fk_LandSurvey_16 pk_LandSurvey_2 rfl e40 hn rfl (nf_o _ _) dX11_init_17 (fun h42 hh41 => ?_)
  have O43 := O32.pR e40 hh41 (okR_o rE_1011_2 (pT_T hh30))
  refine g_aload_n C rfl 0 rfl dX11_init_20 ?_
  refine g_bipush C (by decide) dX11_init_21 ?_
  refine g_newq (t := 4) C 38104 rfl (iw (il 40) (by decide) (by decide)) (by decide) (by decide) kw_226 C.2.1.2.1.1 rfl (by decide) (by decide) (by decide) dX11_init_23 (fun n44 z45 z46 h48 hh47 => ?_)
  have O49 := O43.pN z45 z46 hh47 (by decide) nn_38104
  have e50 : Tg h42 a0 = 1011 := ((pRT hh41).trans e40)
  have e51 : Tg h48 a0 = 1011 := ((pNT hh47 (pN_n hh47 z46 e50)).trans e50)
  refine gp_RF C fk_LandSurvey_22 pk_LandSurvey_3 rfl e51 hn rfl (nf_a _ _) dX11_init_26 (fun h53 hh52 => ?_)
  have O54 := O49.pR e51 hh52 (okR_l rE_1011_3 (pN_T hh47) (pN_L hh47))
  refine g_aload_n C rfl 0 rfl dX11_init_29 ?_
  refine g_new C 1004 rfl rfl rfl inX3 tyX3 tyX3_ok kw_228 kw_229 kw_147 (by decide +kernel) (by decide) (by decide) dX11_init_30 (fun n55 z56 z57 h59 hh58 => ?_)
  have O60 := O54.pN z56 z57 hh58 (by decide) nn_1004
  refine g_dup C rfl dX11_init_33 ?_
  refine g_callV (st := [.inr (.inr n55), .inr (.inr a0)]) (gc_N C lk_LandSurvey_28 rfl (k_X3_init l D cy w z0 O60 (pN_T hh58)) (tg_nz (pN_T hh58)) C.2.1.2.2.1 rfl ⟨by decide, by decide⟩ (Nat.le_of_ble_eq_true rfl) dX11_init_34 ⟨(by decide), (by decide)⟩) (fun h62 K63 => ?_)
  obtain ⟨O65, F66, p67, p68⟩ := K63
  have e69 : Tg h62 n55 = 1004 := (fxT F66 (pN_T hh58))
  refine g_rt (T0 := 1003) (T1 := 3) e69 rfl (fun h71 hh70 => ?_)
  have O72 := O65.rt1 (T0 := 4) (T1 := 1003) e69 hh70 nu_1004 tbI_4_1004 tbE_4_1004 (fun j hj => by
      have z := List.elem_iff.mp (tbN_4 j hj)
      simp only [List.mem_cons, List.not_mem_nil, or_false] at z
      rcases z with rfl | rfl
      · exact p67
      · exact p68)
  have e73 : Ln h71 n55 = 0 := ((pTL hh70).trans ((fxL F66 (pN_T hh58)).trans (pN_L hh58)))
  have e74 : Iv h71 n55 1 = 0 := ((pTI hh70).trans ((fxI F66 (pN_T hh58) rfl).trans (pN_I hh58)))
  have F75 : Fx [200800, 200811, 1000000004, 1000001004, 1000019103, 1000020100] h53 h71 := ((((Fx.rf (wr := [200800, 200811, 1000000004, 1000001004, 1000019103, 1000020100]) (h := h53)).pN z57 hh58 rfl).call F66 rfl).pT (nt_of (Fx.rf (wr := [200800, 200811, 1000000004, 1000001004, 1000019103, 1000020100]) (h := h53)) z57) hh70 rfl)
  have e76 : Tg h71 a0 = 1011 := (fxT F75 ((pRT hh52).trans e51))
  refine gp_RF C fk_LandSurvey_29 pk_LandSurvey_5 rfl e76 hn rfl (nf_o _ _) dX11_init_37 (fun h78 hh77 => ?_)
  have O79 := O72.pR e76 hh77 (okR_o rE_1011_5 (pT_T hh70))
  refine g_aload_n C rfl 0 rfl dX11_init_40 ?_
  refine g_new C 1005 rfl rfl rfl inX4 tyX4 tyX4_ok kw_280 kw_281 kw_148 (by decide +kernel) (by decide) (by decide) dX11_init_41 (fun n80 z81 z82 h84 hh83 => ?_)
  have O85 := O79.pN z81 z82 hh83 (by decide) nn_1005
  refine g_dup C rfl dX11_init_44 ?_
  have p86 := (ND_fx ((Fx.rf (wr := [1000001005]) (h := h78)).pN z82 hh83 rfl) rfl rfl (ND_fx ((Fx.rf (wr := [202205]) (h := h71)).pR e76 hh77 rfl) rfl rfl (ND_fx F75 rfl rfl (ND_fx ((Fx.rf (wr := [202203]) (h := h48)).pR e51 hh52 rfl) rfl rfl (ND_fx ((Fx.rf (wr := [1000038104]) (h := h42)).pN z46 hh47 rfl) rfl rfl (ND_fx ((Fx.rf (wr := [202202]) (h := h31)).pR e40 hh41 rfl) rfl rfl (ND_fx F39 rfl rfl (ND_fx ((Fx.rf (wr := [202201]) (h := h)).pI ta0 hh1 rfl) rfl rfl P_ND))))))))
  refine g_callV (st := [.inr (.inr n80), .inr (.inr a0)]) (gc_N C lk_LandSurvey_35 rfl (k_X4_init l D cy w z0 O85 (pN_T hh83) p86) (tg_nz (pN_T hh83)) C.2.1.2.2.2.1 rfl ⟨by decide, by decide⟩ (Nat.le_of_ble_eq_true rfl) dX11_init_45 ⟨(by decide), (by decide)⟩) (fun h88 K89 => ?_)
  obtain ⟨O91, F92, p93, p94, p95, p96, p97⟩ := K89
  obtain ⟨v98, e99⟩ : ∃ z, Rv h88 n80 3 = z := ⟨_, rfl⟩
  have e100 : Tg h88 n80 = 1005 := (fxT F92 (pN_T hh83))
  have t101 := ok_N O91 e100 rE_1005_3 e99 (by rw [← e99]; exact p95)
  have z102 := p97
  rw [e99] at z102
  refine g_rt (T0 := 1004) (T1 := 4) e100 rfl (fun h104 hh103 => ?_)
  have O105 := O91.rt1 (T0 := 5) (T1 := 1004) e100 hh103 nu_1005 tbI_5_1005 tbE_5_1005 (fun j hj => by
      have z := List.elem_iff.mp (tbN_5 j hj)
      simp only [List.mem_cons, List.not_mem_nil, or_false] at z
      rcases z with rfl | rfl | rfl
      · exact p93
      · exact p94
      · exact p95)
  have e106 : Ln h104 n80 = 0 := ((pTL hh103).trans ((fxL F92 (pN_T hh83)).trans (pN_L hh83)))
  have e107 : Iv h104 n80 2 = 0 := ((pTI hh103).trans ((fxI F92 (pN_T hh83) rfl).trans (pN_I hh83)))
  have e108 : Rv h104 n80 3 = v98 := ((pTR hh103).trans e99)
  have e109 : Tg h104 v98 = 6 := ((pTT hh103 (ne_tag t101 e100 (by decide))).trans t101)
  have p110 := ND_rt2 p96 hh103 ⟨by decide, by decide⟩
  have p111 := RulesOk_rt hh103 z102
  have F112 : Fx [201000, 201001, 201003, 201201, 201202, 201203, 201204, 201205, 201207, 201208, 201211, 201212, 201214, 201215, 201216, 201217, 201218, 5620000, 1000000005, 1000000006, 1000001005, 1000001006, 1000002006, 1000021100, 1000022108, 1000023102, 1000024100, 1000025100, 1000026100, 1000027100, 1000028100, 1000029100, 1000030100, 1000031100, 1000032100, 1000033100, 1000034100, 1000035100, 1000036100, 1000037100] h78 h104 := ((((Fx.rf (wr := [201000, 201001, 201003, 201201, 201202, 201203, 201204, 201205, 201207, 201208, 201211, 201212, 201214, 201215, 201216, 201217, 201218, 5620000, 1000000005, 1000000006, 1000001005, 1000001006, 1000002006, 1000021100, 1000022108, 1000023102, 1000024100, 1000025100, 1000026100, 1000027100, 1000028100, 1000029100, 1000030100, 1000031100, 1000032100, 1000033100, 1000034100, 1000035100, 1000036100, 1000037100]) (h := h78)).pN z82 hh83 rfl).call F92 rfl).pT (nt_of (Fx.rf (wr := [201000, 201001, 201003, 201201, 201202, 201203, 201204, 201205, 201207, 201208, 201211, 201212, 201214, 201215, 201216, 201217, 201218, 5620000, 1000000005, 1000000006, 1000001005, 1000001006, 1000002006, 1000021100, 1000022108, 1000023102, 1000024100, 1000025100, 1000026100, 1000027100, 1000028100, 1000029100, 1000030100, 1000031100, 1000032100, 1000033100, 1000034100, 1000035100, 1000036100, 1000037100]) (h := h78)) z82) hh103 rfl)
  have p113 : BkOk h104 n80 := ⟨fun k hk => absurd hk (by rw [e107]; omega), by rw [e108]; exact p111⟩
  have e114 : Tg h104 a0 = 1011 := (fxT F112 ((pRT hh77).trans e76))
  refine gp_RF C fk_LandSurvey_36 pk_LandSurvey_6 rfl e114 hn rfl (nf_o _ _) dX11_init_48 (fun h116 hh115 => ?_)
  have O117 := O105.pR e114 hh115 (okR_o rE_1011_6 (pT_T hh103))
  refine g_aload_n C rfl 0 rfl dX11_init_51 ?_
  refine g_aload_n C rfl 0 rfl dX11_init_52 ?_
  have e118 : Tg h116 a0 = 1011 := ((pRT hh115).trans e114)
  refine gf_R C fk_LandSurvey_36 rfl e118 (pR_e hh115) dX11_init_53 ?_
  have e119 : Tg h116 n80 = 5 := ((pRT hh115).trans (pT_T hh103))
  have e120 : Rv h116 n80 3 = v98 := ((pR_n hh115 (ne_tag (pT_T hh103) e114 (by decide))).trans e108)
  refine gf_R C fk_LandSurvey_40 rfl e119 e120 dX11_init_56 ?_
  refine gp_R C fk_LandSurvey_44 pk_LandSurvey_7 rfl e118 (nf_o _ _) dX11_init_59 (fun h122 hh121 => ?_)
  have e124 : Tg h116 v98 = 6 := ((pRT hh115).trans e109)
  have O123 := O117.pR e118 hh121 (okR_o rE_1011_7 e124)
  refine g_aload_n C rfl 0 rfl dX11_init_62 ?_
  refine g_iconst C dX11_init_63 ?_
  refine g_newq (t := 5) C 39105 rfl (iw (il 4) (by decide) (by decide)) (by decide) (by decide) kw_392 C.2.1.2.1.2.1 rfl (by decide) (by decide) (by decide) dX11_init_64 (fun n125 z126 z127 h129 hh128 => ?_)
  have O130 := O123.pN z126 z127 hh128 (by decide) nn_39105
  have e131 : Tg h122 a0 = 1011 := ((pRT hh121).trans e118)
  have e132 : Tg h129 a0 = 1011 := ((pNT hh128 (pN_n hh128 z127 e131)).trans e131)
  refine gp_RF C fk_LandSurvey_49 pk_LandSurvey_8 rfl e132 hn rfl (nf_a _ _) dX11_init_67 (fun h134 hh133 => ?_)
  have O135 := O130.pR e132 hh133 (okR_l rE_1011_8 (pN_T hh128) (pN_L hh128))
  refine g_aload_n C rfl 0 rfl dX11_init_70 ?_
  refine g_bipush C (by decide) dX11_init_71 ?_
  refine g_newq (t := 6) C 48106 rfl (iw (il 10) (by decide) (by decide)) (by decide) (by decide) kw_394 C.2.1.2.1.2.2.1 rfl (by decide) (by decide) (by decide) dX11_init_73 (fun n136 z137 z138 h140 hh139 => ?_)
  have O141 := O135.pN z137 z138 hh139 (by decide) nn_48106
  have e142 : Tg h134 a0 = 1011 := ((pRT hh133).trans e132)
  have e143 : Tg h140 a0 = 1011 := ((pNT hh139 (pN_n hh139 z138 e142)).trans e142)
  refine gp_RF C fk_LandSurvey_55 pk_LandSurvey_11 rfl e143 hn rfl (nf_a _ _) dX11_init_76 (fun h145 hh144 => ?_)
  have O146 := O141.pR e143 hh144 (okR_l rE_1011_11 (pN_T hh139) (pN_L hh139))
  refine g_aload_n C rfl 0 rfl dX11_init_79 ?_
  refine g_new C 1007 rfl rfl rfl inX6 tyX6 tyX6_ok kw_396 kw_397 kw_150 (by decide +kernel) (by decide) (by decide) dX11_init_80 (fun n147 z148 z149 h151 hh150 => ?_)
  have O152 := O146.pN z148 z149 hh150 (by decide) nn_1007
  refine g_dup C rfl dX11_init_83 ?_
  refine g_aload_n C rfl 0 rfl dX11_init_84 ?_
  have e153 : Tg h145 a0 = 1011 := ((pRT hh144).trans e143)
  have e154 : Tg h151 a0 = 1011 := ((pNT hh150 (pN_n hh150 z149 e153)).trans e153)
  have e155 : Tg h53 a0 = 1011 := ((pRT hh52).trans e51)
  have e156 : Tg h78 a0 = 1011 := ((pRT hh77).trans e76)
  have e157 : Rv h151 a0 3 = n44 := ((pNR hh150 (pN_n hh150 z149 e153)).trans ((pR_j hh144 (by decide)).trans ((pNR hh139 (pN_n hh139 z138 e142)).trans ((pR_j hh133 (by decide)).trans ((pNR hh128 (pN_n hh128 z127 e131)).trans ((pR_j hh121 (by decide)).trans ((pR_j hh115 (by decide)).trans ((fxR F112 e156 rfl).trans ((pR_j hh77 (by decide)).trans ((fxR F75 e155 rfl).trans (pR_e hh52)))))))))))
  refine gf_R C fk_LandSurvey_22 rfl e154 e157 dX11_init_85 ?_
  refine g_aload_n C rfl 0 rfl dX11_init_88 ?_
  have e158 : Rv h151 a0 8 = n125 := ((pNR hh150 (pN_n hh150 z149 e153)).trans ((pR_j hh144 (by decide)).trans ((pNR hh139 (pN_n hh139 z138 e142)).trans (pR_e hh133))))
  refine gf_R C fk_LandSurvey_49 rfl e154 e158 dX11_init_89 ?_
  have e159 : Tg h122 n44 = 38104 := ((pRT hh121).trans ((pRT hh115).trans (fxT F112 ((pRT hh77).trans (fxT F75 ((pRT hh52).trans (pN_T hh47)))))))
  have e160 : Tg h134 n44 = 38104 := ((pRT hh133).trans ((pNT hh128 (pN_n hh128 z127 e159)).trans e159))
  have e161 : Tg h145 n44 = 38104 := ((pRT hh144).trans ((pNT hh139 (pN_n hh139 z138 e160)).trans e160))
  have e162 : Tg h151 n44 = 38104 := ((pNT hh150 (pN_n hh150 z149 e161)).trans e161)
  have e163 : Tg h53 n44 = 38104 := ((pRT hh52).trans (pN_T hh47))
  have e164 : Tg h78 n44 = 38104 := ((pRT hh77).trans (fxT F75 e163))
  have e165 : Ln h151 n44 = 40 := ((pNL hh150 (pN_n hh150 z149 e161)).trans ((pRL hh144).trans ((pNL hh139 (pN_n hh139 z138 e160)).trans ((pRL hh133).trans ((pNL hh128 (pN_n hh128 z127 e159)).trans ((pRL hh121).trans ((pRL hh115).trans ((fxL F112 e164).trans ((pRL hh77).trans ((fxL F75 e163).trans ((pRL hh52).trans (pN_L hh47))))))))))))
  have e166 : Tg h134 n125 = 39105 := ((pRT hh133).trans (pN_T hh128))
  have e167 : Tg h145 n125 = 39105 := ((pRT hh144).trans ((pNT hh139 (pN_n hh139 z138 e166)).trans e166))
  have e168 : Tg h151 n125 = 39105 := ((pNT hh150 (pN_n hh150 z149 e167)).trans e167)
  have e169 : Ln h151 n125 = 4 := ((pNL hh150 (pN_n hh150 z149 e167)).trans ((pRL hh144).trans ((pNL hh139 (pN_n hh139 z138 e166)).trans ((pRL hh133).trans (pN_L hh128)))))
  refine g_callV (st := [.inr (.inr n147), .inr (.inr a0)]) (gc_I C lk_LandSurvey_61 rfl (k_X6_init l D cy w z0 O152 (pN_T hh150) e162 e165 e168 e169) (tg_nz (pN_T hh150)) rfl ⟨by decide, by decide⟩ (Nat.le_of_ble_eq_true rfl) dX11_init_92 ⟨(by decide), (by decide)⟩) (fun h171 K172 => ?_)
  obtain ⟨O174, F175, p176, p177, p178, p179, p180, p181, p182, p183, p184, p185, p186⟩ := K172
  have e187 : Tg h171 n147 = 1007 := (fxT F175 (pN_T hh150))
  refine g_rt (T0 := 1006) (T1 := 6) e187 rfl (fun h189 hh188 => ?_)
  have O190 := O174.rt1 (T0 := 7) (T1 := 1006) e187 hh188 nu_1007 tbI_7_1007 tbE_7_1007 (fun j hj => by
      have z := List.elem_iff.mp (tbN_7 j hj)
      simp only [List.mem_cons, List.not_mem_nil, or_false] at z
      rcases z with rfl | rfl | rfl | rfl | rfl | rfl | rfl | rfl | rfl
      · exact p176
      · exact p177
      · exact p178
      · exact p179
      · exact p180
      · exact p181
      · exact p182
      · exact p183
      · exact p184)
  have e191 : Ln h189 n147 = 0 := ((pTL hh188).trans ((fxL F175 (pN_T hh150)).trans (pN_L hh150)))
  have e192 : Iv h189 n147 3 = 0 := ((pTI hh188).trans ((fxI F175 (pN_T hh150) rfl).trans (pN_I hh150)))
  have e193 : Iv h189 n147 4 = 0 := ((pTI hh188).trans ((fxI F175 (pN_T hh150) rfl).trans (pN_I hh150)))
  have e194 : Rv h189 n147 1 = n44 := ((pTR hh188).trans p185)
  have e195 : Rv h189 n147 2 = n125 := ((pTR hh188).trans p186)
  have F196 : Fx [201400, 201401, 201402, 201406, 201407, 201408, 201409, 201410, 201411, 202000, 202001, 202002, 1000000007, 1000000010, 1000001007, 1000001010, 1000040100, 1000041102, 1000042102, 1000043100, 1000045100, 1000046102, 1000047100] h145 h189 := ((((Fx.rf (wr := [201400, 201401, 201402, 201406, 201407, 201408, 201409, 201410, 201411, 202000, 202001, 202002, 1000000007, 1000000010, 1000001007, 1000001010, 1000040100, 1000041102, 1000042102, 1000043100, 1000045100, 1000046102, 1000047100]) (h := h145)).pN z149 hh150 rfl).call F175 rfl).pT (nt_of (Fx.rf (wr := [201400, 201401, 201402, 201406, 201407, 201408, 201409, 201410, 201411, 202000, 202001, 202002, 1000000007, 1000000010, 1000001007, 1000001010, 1000040100, 1000041102, 1000042102, 1000043100, 1000045100, 1000046102, 1000047100]) (h := h145)) z149) hh188 rfl)
  have e197 : Tg h189 a0 = 1011 := (fxT F196 e153)
  refine gp_RF C fk_LandSurvey_64 pk_LandSurvey_13 rfl e197 hn rfl (nf_o _ _) dX11_init_95 (fun h199 hh198 => ?_)
  have O200 := O190.pR e197 hh198 (okR_o rE_1011_13 (pT_T hh188))
  refine g_aload_n C rfl 0 rfl dX11_init_98 ?_
  refine g_bipush C (by decide) dX11_init_99 ?_
  refine g_newq (t := 7) C 49107 rfl (iw (il 16) (by decide) (by decide)) (by decide) (by decide) kw_466 C.2.1.2.1.2.2.2.1 rfl (by decide) (by decide) (by decide) dX11_init_101 (fun n201 z202 z203 h205 hh204 => ?_)
  have O206 := O200.pN z202 z203 hh204 (by decide) nn_49107
  have e207 : Tg h199 a0 = 1011 := ((pRT hh198).trans e197)
  have e208 : Tg h205 a0 = 1011 := ((pNT hh204 (pN_n hh204 z203 e207)).trans e207)
  refine gp_RF C fk_LandSurvey_70 pk_LandSurvey_14 rfl e208 hn rfl (nf_a _ _) dX11_init_104 (fun h210 hh209 => ?_)
  have O211 := O206.pR e208 hh209 (okR_l rE_1011_14 (pN_T hh204) (pN_L hh204))
  refine g_aload_n C rfl 0 rfl dX11_init_107 ?_
  refine g_bipush C (by decide) dX11_init_108 ?_
  refine g_newa (atype := .int) (t := 0) (ty := .int) (N := 12) C 50100 rfl (iw (il 12) (by decide) (by decide)) (by decide) rfl kw_224 rfl (fun _ => rfl) (by decide) (by decide) (by decide) (by decide) dX11_init_110 (fun n212 z213 z214 h216 hh215 => ?_)
  have O217 := O211.pN z213 z214 hh215 (by decide) nn_50100
  have e218 : Tg h210 a0 = 1011 := ((pRT hh209).trans e208)
  have e219 : Tg h216 a0 = 1011 := ((pNT hh215 (pN_n hh215 z214 e218)).trans e218)
  refine gp_RF C fk_LandSurvey_74 pk_LandSurvey_18 rfl e219 hn rfl (nf_a _ _) dX11_init_112 (fun h221 hh220 => ?_)
  have O222 := O217.pR e219 hh220 (okR_l rE_1011_18 (pN_T hh215) (pN_L hh215))
  have e223 : Rv h221 a0 3 = n44 := ((pR_j hh220 (by decide)).trans ((pNR hh215 (pN_n hh215 z214 e218)).trans ((pR_j hh209 (by decide)).trans ((pNR hh204 (pN_n hh204 z203 e207)).trans ((pR_j hh198 (by decide)).trans ((fxR F196 e153 rfl).trans ((pR_j hh144 (by decide)).trans ((pNR hh139 (pN_n hh139 z138 e142)).trans ((pR_j hh133 (by decide)).trans ((pNR hh128 (pN_n hh128 z127 e131)).trans ((pR_j hh121 (by decide)).trans ((pR_j hh115 (by decide)).trans ((fxR F112 e156 rfl).trans ((pR_j hh77 (by decide)).trans ((fxR F75 e155 rfl).trans (pR_e hh52))))))))))))))))
  have e224 : Rv h221 a0 8 = n125 := ((pR_j hh220 (by decide)).trans ((pNR hh215 (pN_n hh215 z214 e218)).trans ((pR_j hh209 (by decide)).trans ((pNR hh204 (pN_n hh204 z203 e207)).trans ((pR_j hh198 (by decide)).trans ((fxR F196 e153 rfl).trans ((pR_j hh144 (by decide)).trans ((pNR hh139 (pN_n hh139 z138 e142)).trans (pR_e hh133)))))))))
  have e225 : Rv h221 a0 11 = n136 := ((pR_j hh220 (by decide)).trans ((pNR hh215 (pN_n hh215 z214 e218)).trans ((pR_j hh209 (by decide)).trans ((pNR hh204 (pN_n hh204 z203 e207)).trans ((pR_j hh198 (by decide)).trans ((fxR F196 e153 rfl).trans (pR_e hh144)))))))
  have e226 : Rv h221 a0 2 = n4 := ((pR_j hh220 (by decide)).trans ((pNR hh215 (pN_n hh215 z214 e218)).trans ((pR_j hh209 (by decide)).trans ((pNR hh204 (pN_n hh204 z203 e207)).trans ((pR_j hh198 (by decide)).trans ((fxR F196 e153 rfl).trans ((pR_j hh144 (by decide)).trans ((pNR hh139 (pN_n hh139 z138 e142)).trans ((pR_j hh133 (by decide)).trans ((pNR hh128 (pN_n hh128 z127 e131)).trans ((pR_j hh121 (by decide)).trans ((pR_j hh115 (by decide)).trans ((fxR F112 e156 rfl).trans ((pR_j hh77 (by decide)).trans ((fxR F75 e155 rfl).trans ((pR_j hh52 (by decide)).trans ((pNR hh47 (pN_n hh47 z46 e50)).trans (pR_e hh41))))))))))))))))))
  have e227 : Tg h42 n4 = 3 := ((pRT hh41).trans (pT_T hh30))
  have e228 : Tg h122 n4 = 3 := ((pRT hh121).trans ((pRT hh115).trans (fxT F112 ((pRT hh77).trans (fxT F75 ((pRT hh52).trans ((pNT hh47 (pN_n hh47 z46 e227)).trans e227)))))))
  have e229 : Tg h134 n4 = 3 := ((pRT hh133).trans ((pNT hh128 (pN_n hh128 z127 e228)).trans e228))
  have e230 : Tg h199 n4 = 3 := ((pRT hh198).trans (fxT F196 ((pRT hh144).trans ((pNT hh139 (pN_n hh139 z138 e229)).trans e229))))
  have e231 : Tg h210 n4 = 3 := ((pRT hh209).trans ((pNT hh204 (pN_n hh204 z203 e230)).trans e230))
  have e232 : Tg h221 n4 = 3 := ((pRT hh220).trans ((pNT hh215 (pN_n hh215 z214 e231)).trans e231))
  have e233 : Tg h199 n44 = 38104 := ((pRT hh198).trans (fxT F196 e161))
  have e234 : Tg h210 n44 = 38104 := ((pRT hh209).trans ((pNT hh204 (pN_n hh204 z203 e233)).trans e233))
  have e235 : Tg h221 n44 = 38104 := ((pRT hh220).trans ((pNT hh215 (pN_n hh215 z214 e234)).trans e234))
  have e236 : Rv h221 a0 5 = n55 := ((pR_j hh220 (by decide)).trans ((pNR hh215 (pN_n hh215 z214 e218)).trans ((pR_j hh209 (by decide)).trans ((pNR hh204 (pN_n hh204 z203 e207)).trans ((pR_j hh198 (by decide)).trans ((fxR F196 e153 rfl).trans ((pR_j hh144 (by decide)).trans ((pNR hh139 (pN_n hh139 z138 e142)).trans ((pR_j hh133 (by decide)).trans ((pNR hh128 (pN_n hh128 z127 e131)).trans ((pR_j hh121 (by decide)).trans ((pR_j hh115 (by decide)).trans ((fxR F112 e156 rfl).trans (pR_e hh77))))))))))))))
  have e237 : Tg h122 n55 = 4 := ((pRT hh121).trans ((pRT hh115).trans (fxT F112 ((pRT hh77).trans (pT_T hh70)))))
  have e238 : Tg h134 n55 = 4 := ((pRT hh133).trans ((pNT hh128 (pN_n hh128 z127 e237)).trans e237))
  have e239 : Tg h199 n55 = 4 := ((pRT hh198).trans (fxT F196 ((pRT hh144).trans ((pNT hh139 (pN_n hh139 z138 e238)).trans e238))))
  have e240 : Tg h210 n55 = 4 := ((pRT hh209).trans ((pNT hh204 (pN_n hh204 z203 e239)).trans e239))
  have e241 : Tg h221 n55 = 4 := ((pRT hh220).trans ((pNT hh215 (pN_n hh215 z214 e240)).trans e240))
  have e242 : Rv h221 a0 6 = n80 := ((pR_j hh220 (by decide)).trans ((pNR hh215 (pN_n hh215 z214 e218)).trans ((pR_j hh209 (by decide)).trans ((pNR hh204 (pN_n hh204 z203 e207)).trans ((pR_j hh198 (by decide)).trans ((fxR F196 e153 rfl).trans ((pR_j hh144 (by decide)).trans ((pNR hh139 (pN_n hh139 z138 e142)).trans ((pR_j hh133 (by decide)).trans ((pNR hh128 (pN_n hh128 z127 e131)).trans ((pR_j hh121 (by decide)).trans (pR_e hh115))))))))))))
  have e243 : Tg h122 n80 = 5 := ((pRT hh121).trans e119)
  have e244 : Tg h134 n80 = 5 := ((pRT hh133).trans ((pNT hh128 (pN_n hh128 z127 e243)).trans e243))
  have e245 : Tg h199 n80 = 5 := ((pRT hh198).trans (fxT F196 ((pRT hh144).trans ((pNT hh139 (pN_n hh139 z138 e244)).trans e244))))
  have e246 : Tg h210 n80 = 5 := ((pRT hh209).trans ((pNT hh204 (pN_n hh204 z203 e245)).trans e245))
  have e247 : Tg h221 n80 = 5 := ((pRT hh220).trans ((pNT hh215 (pN_n hh215 z214 e246)).trans e246))
  have e248 : Rv h221 a0 7 = v98 := ((pR_j hh220 (by decide)).trans ((pNR hh215 (pN_n hh215 z214 e218)).trans ((pR_j hh209 (by decide)).trans ((pNR hh204 (pN_n hh204 z203 e207)).trans ((pR_j hh198 (by decide)).trans ((fxR F196 e153 rfl).trans ((pR_j hh144 (by decide)).trans ((pNR hh139 (pN_n hh139 z138 e142)).trans ((pR_j hh133 (by decide)).trans ((pNR hh128 (pN_n hh128 z127 e131)).trans (pR_e hh121)))))))))))
  have e249 : Tg h122 v98 = 6 := ((pRT hh121).trans e124)
  have e250 : Tg h134 v98 = 6 := ((pRT hh133).trans ((pNT hh128 (pN_n hh128 z127 e249)).trans e249))
  have e251 : Tg h199 v98 = 6 := ((pRT hh198).trans (fxT F196 ((pRT hh144).trans ((pNT hh139 (pN_n hh139 z138 e250)).trans e250))))
  have e252 : Tg h210 v98 = 6 := ((pRT hh209).trans ((pNT hh204 (pN_n hh204 z203 e251)).trans e251))
  have e253 : Tg h221 v98 = 6 := ((pRT hh220).trans ((pNT hh215 (pN_n hh215 z214 e252)).trans e252))
  have e254 : Tg h199 n125 = 39105 := ((pRT hh198).trans (fxT F196 e167))
  have e255 : Tg h210 n125 = 39105 := ((pRT hh209).trans ((pNT hh204 (pN_n hh204 z203 e254)).trans e254))
  have e256 : Tg h221 n125 = 39105 := ((pRT hh220).trans ((pNT hh215 (pN_n hh215 z214 e255)).trans e255))
  have e257 : Tg h199 n136 = 48106 := ((pRT hh198).trans (fxT F196 ((pRT hh144).trans (pN_T hh139))))
  have e258 : Tg h210 n136 = 48106 := ((pRT hh209).trans ((pNT hh204 (pN_n hh204 z203 e257)).trans e257))
  have e259 : Tg h221 n136 = 48106 := ((pRT hh220).trans ((pNT hh215 (pN_n hh215 z214 e258)).trans e258))
  have e260 : Rv h221 a0 13 = n147 := ((pR_j hh220 (by decide)).trans ((pNR hh215 (pN_n hh215 z214 e218)).trans ((pR_j hh209 (by decide)).trans ((pNR hh204 (pN_n hh204 z203 e207)).trans (pR_e hh198)))))
  have e261 : Tg h199 n147 = 7 := ((pRT hh198).trans (pT_T hh188))
  have e262 : Tg h210 n147 = 7 := ((pRT hh209).trans ((pNT hh204 (pN_n hh204 z203 e261)).trans e261))
  have e263 : Tg h221 n147 = 7 := ((pRT hh220).trans ((pNT hh215 (pN_n hh215 z214 e262)).trans e262))
  have e264 : Rv h221 a0 14 = n201 := ((pR_j hh220 (by decide)).trans ((pNR hh215 (pN_n hh215 z214 e218)).trans (pR_e hh209)))
  have e265 : Tg h210 n201 = 49107 := ((pRT hh209).trans (pN_T hh204))
  have e266 : Tg h221 n201 = 49107 := ((pRT hh220).trans ((pNT hh215 (pN_n hh215 z214 e265)).trans e265))
  have e267 : Tg h221 n212 = 50100 := ((pRT hh220).trans (pN_T hh215))
  have e268 : Tg h2 a0 = 1011 := ((pIT hh1).trans ta0)
  have e269 : Iv h221 a0 4 = 0 := ((pRI hh220).trans ((pNI hh215 (pN_n hh215 z214 e218)).trans ((pRI hh209).trans ((pNI hh204 (pN_n hh204 z203 e207)).trans ((pRI hh198).trans ((fxI F196 e153 rfl).trans ((pRI hh144).trans ((pNI hh139 (pN_n hh139 z138 e142)).trans ((pRI hh133).trans ((pNI hh128 (pN_n hh128 z127 e131)).trans ((pRI hh121).trans ((pRI hh115).trans ((fxI F112 e156 rfl).trans ((pRI hh77).trans ((fxI F75 e155 rfl).trans ((pRI hh52).trans ((pNI hh47 (pN_n hh47 z46 e50)).trans ((pRI hh41).trans ((fxI F39 e268 rfl).trans ((pI_j hh1 (by decide)).trans P_z.1))))))))))))))))))))
  have e270 : Iv h221 a0 9 = 0 := ((pRI hh220).trans ((pNI hh215 (pN_n hh215 z214 e218)).trans ((pRI hh209).trans ((pNI hh204 (pN_n hh204 z203 e207)).trans ((pRI hh198).trans ((fxI F196 e153 rfl).trans ((pRI hh144).trans ((pNI hh139 (pN_n hh139 z138 e142)).trans ((pRI hh133).trans ((pNI hh128 (pN_n hh128 z127 e131)).trans ((pRI hh121).trans ((pRI hh115).trans ((fxI F112 e156 rfl).trans ((pRI hh77).trans ((fxI F75 e155 rfl).trans ((pRI hh52).trans ((pNI hh47 (pN_n hh47 z46 e50)).trans ((pRI hh41).trans ((fxI F39 e268 rfl).trans ((pI_j hh1 (by decide)).trans P_z.2.1))))))))))))))))))))
  have e271 : Iv h221 a0 12 = 0 := ((pRI hh220).trans ((pNI hh215 (pN_n hh215 z214 e218)).trans ((pRI hh209).trans ((pNI hh204 (pN_n hh204 z203 e207)).trans ((pRI hh198).trans ((fxI F196 e153 rfl).trans ((pRI hh144).trans ((pNI hh139 (pN_n hh139 z138 e142)).trans ((pRI hh133).trans ((pNI hh128 (pN_n hh128 z127 e131)).trans ((pRI hh121).trans ((pRI hh115).trans ((fxI F112 e156 rfl).trans ((pRI hh77).trans ((fxI F75 e155 rfl).trans ((pRI hh52).trans ((pNI hh47 (pN_n hh47 z46 e50)).trans ((pRI hh41).trans ((fxI F39 e268 rfl).trans ((pI_j hh1 (by decide)).trans P_z.2.2.1))))))))))))))))))))
  have e272 : Iv h221 a0 15 = 0 := ((pRI hh220).trans ((pNI hh215 (pN_n hh215 z214 e218)).trans ((pRI hh209).trans ((pNI hh204 (pN_n hh204 z203 e207)).trans ((pRI hh198).trans ((fxI F196 e153 rfl).trans ((pRI hh144).trans ((pNI hh139 (pN_n hh139 z138 e142)).trans ((pRI hh133).trans ((pNI hh128 (pN_n hh128 z127 e131)).trans ((pRI hh121).trans ((pRI hh115).trans ((fxI F112 e156 rfl).trans ((pRI hh77).trans ((fxI F75 e155 rfl).trans ((pRI hh52).trans ((pNI hh47 (pN_n hh47 z46 e50)).trans ((pRI hh41).trans ((fxI F39 e268 rfl).trans ((pI_j hh1 (by decide)).trans P_z.2.2.2))))))))))))))))))))
  have e273 : Tg h205 n147 = 7 := ((pNT hh204 (pN_n hh204 z203 e261)).trans e261)
  have e274 : Tg h216 n147 = 7 := ((pNT hh215 (pN_n hh215 z214 e262)).trans e262)
  have e275 : Rv h221 n147 1 = n44 := ((pR_n hh220 (ne_tag e274 e219 (by decide))).trans ((pNR hh215 (pN_n hh215 z214 e262)).trans ((pR_n hh209 (ne_tag e273 e208 (by decide))).trans ((pNR hh204 (pN_n hh204 z203 e261)).trans ((pR_n hh198 (ne_tag (pT_T hh188) e197 (by decide))).trans e194)))))
  have e276 : Rv h221 n147 2 = n125 := ((pR_n hh220 (ne_tag e274 e219 (by decide))).trans ((pNR hh215 (pN_n hh215 z214 e262)).trans ((pR_n hh209 (ne_tag e273 e208 (by decide))).trans ((pNR hh204 (pN_n hh204 z203 e261)).trans ((pR_n hh198 (ne_tag (pT_T hh188) e197 (by decide))).trans e195)))))
  have e277 : Iv h221 n147 3 = 0 := ((pRI hh220).trans ((pNI hh215 (pN_n hh215 z214 e262)).trans ((pRI hh209).trans ((pNI hh204 (pN_n hh204 z203 e261)).trans ((pRI hh198).trans e192)))))
  have e278 : Iv h221 n147 4 = 0 := ((pRI hh220).trans ((pNI hh215 (pN_n hh215 z214 e262)).trans ((pRI hh209).trans ((pNI hh204 (pN_n hh204 z203 e261)).trans ((pRI hh198).trans e193)))))
  have e279 : Tg h129 n80 = 5 := ((pNT hh128 (pN_n hh128 z127 e243)).trans e243)
  have e280 : Tg h140 n80 = 5 := ((pNT hh139 (pN_n hh139 z138 e244)).trans e244)
  have e281 : Tg h145 n80 = 5 := ((pRT hh144).trans e280)
  have e282 : Tg h189 n80 = 5 := (fxT F196 e281)
  have e283 : Tg h205 n80 = 5 := ((pNT hh204 (pN_n hh204 z203 e245)).trans e245)
  have e284 : Tg h216 n80 = 5 := ((pNT hh215 (pN_n hh215 z214 e246)).trans e246)
  have p285 := (BkOk_fx O217 ((Fx.rf (wr := [202218]) (h := h216)).pR e219 hh220 rfl) e284 rfl rfl (BkOk_fx O211 ((Fx.rf (wr := [1000050100]) (h := h210)).pN z214 hh215 rfl) e246 rfl rfl (BkOk_fx O206 ((Fx.rf (wr := [202214]) (h := h205)).pR e208 hh209 rfl) e283 rfl rfl (BkOk_fx O200 ((Fx.rf (wr := [1000049107]) (h := h199)).pN z203 hh204 rfl) e245 rfl rfl (BkOk_fx O190 ((Fx.rf (wr := [202213]) (h := h189)).pR e197 hh198 rfl) e282 rfl rfl (BkOk_fx O146 F196 e281 rfl rfl (BkOk_fx O141 ((Fx.rf (wr := [202211]) (h := h140)).pR e143 hh144 rfl) e280 rfl rfl (BkOk_fx O135 ((Fx.rf (wr := [1000048106]) (h := h134)).pN z138 hh139 rfl) e244 rfl rfl (BkOk_fx O130 ((Fx.rf (wr := [202208]) (h := h129)).pR e132 hh133 rfl) e279 rfl rfl (BkOk_fx O123 ((Fx.rf (wr := [1000039105]) (h := h122)).pN z127 hh128 rfl) e243 rfl rfl (BkOk_fx O117 ((Fx.rf (wr := [202207]) (h := h116)).pR e118 hh121 rfl) e119 rfl rfl (BkOk_fx O105 ((Fx.rf (wr := [202206]) (h := h104)).pR e114 hh115 rfl) (pT_T hh103) rfl rfl p113))))))))))))
  have e286 : Tg h129 v98 = 6 := ((pNT hh128 (pN_n hh128 z127 e249)).trans e249)
  have e287 : Tg h140 v98 = 6 := ((pNT hh139 (pN_n hh139 z138 e250)).trans e250)
  have e288 : Tg h145 v98 = 6 := ((pRT hh144).trans e287)
  have e289 : Tg h189 v98 = 6 := (fxT F196 e288)
  have e290 : Tg h205 v98 = 6 := ((pNT hh204 (pN_n hh204 z203 e251)).trans e251)
  have e291 : Tg h216 v98 = 6 := ((pNT hh215 (pN_n hh215 z214 e252)).trans e252)
  have p292 := (RulesOk_fx O217 ((Fx.rf (wr := [202218]) (h := h216)).pR e219 hh220 rfl) e291 rfl (RulesOk_fx O211 ((Fx.rf (wr := [1000050100]) (h := h210)).pN z214 hh215 rfl) e252 rfl (RulesOk_fx O206 ((Fx.rf (wr := [202214]) (h := h205)).pR e208 hh209 rfl) e290 rfl (RulesOk_fx O200 ((Fx.rf (wr := [1000049107]) (h := h199)).pN z203 hh204 rfl) e251 rfl (RulesOk_fx O190 ((Fx.rf (wr := [202213]) (h := h189)).pR e197 hh198 rfl) e289 rfl (RulesOk_fx O146 F196 e288 rfl (RulesOk_fx O141 ((Fx.rf (wr := [202211]) (h := h140)).pR e143 hh144 rfl) e287 rfl (RulesOk_fx O135 ((Fx.rf (wr := [1000048106]) (h := h134)).pN z138 hh139 rfl) e250 rfl (RulesOk_fx O130 ((Fx.rf (wr := [202208]) (h := h129)).pR e132 hh133 rfl) e286 rfl (RulesOk_fx O123 ((Fx.rf (wr := [1000039105]) (h := h122)).pN z127 hh128 rfl) e249 rfl (RulesOk_fx O117 ((Fx.rf (wr := [202207]) (h := h116)).pR e118 hh121 rfl) e124 rfl (RulesOk_fx O105 ((Fx.rf (wr := [202206]) (h := h104)).pR e114 hh115 rfl) e109 rfl p111))))))))))))
  have p293 := (ND_fx ((Fx.rf (wr := [202218]) (h := h216)).pR e219 hh220 rfl) rfl rfl (ND_fx ((Fx.rf (wr := [1000050100]) (h := h210)).pN z214 hh215 rfl) rfl rfl (ND_fx ((Fx.rf (wr := [202214]) (h := h205)).pR e208 hh209 rfl) rfl rfl (ND_fx ((Fx.rf (wr := [1000049107]) (h := h199)).pN z203 hh204 rfl) rfl rfl (ND_fx ((Fx.rf (wr := [202213]) (h := h189)).pR e197 hh198 rfl) rfl rfl (ND_fx F196 rfl rfl (ND_fx ((Fx.rf (wr := [202211]) (h := h140)).pR e143 hh144 rfl) rfl rfl (ND_fx ((Fx.rf (wr := [1000048106]) (h := h134)).pN z138 hh139 rfl) rfl rfl (ND_fx ((Fx.rf (wr := [202208]) (h := h129)).pR e132 hh133 rfl) rfl rfl (ND_fx ((Fx.rf (wr := [1000039105]) (h := h122)).pN z127 hh128 rfl) rfl rfl (ND_fx ((Fx.rf (wr := [202207]) (h := h116)).pR e118 hh121 rfl) rfl rfl (ND_fx ((Fx.rf (wr := [202206]) (h := h104)).pR e114 hh115 rfl) rfl rfl p110))))))))))))
  have e294 : Tg h48 n4 = 3 := ((pNT hh47 (pN_n hh47 z46 e227)).trans e227)
  have e295 : Tg h53 n4 = 3 := ((pRT hh52).trans e294)
  have e296 : Tg h71 n4 = 3 := (fxT F75 e295)
  have e297 : Tg h78 n4 = 3 := ((pRT hh77).trans e296)
  have e298 : Tg h104 n4 = 3 := (fxT F112 e297)
  have e299 : Tg h116 n4 = 3 := ((pRT hh115).trans e298)
  have e300 : Tg h129 n4 = 3 := ((pNT hh128 (pN_n hh128 z127 e228)).trans e228)
  have e301 : Tg h140 n4 = 3 := ((pNT hh139 (pN_n hh139 z138 e229)).trans e229)
  have e302 : Tg h145 n4 = 3 := ((pRT hh144).trans e301)
  have e303 : Tg h189 n4 = 3 := (fxT F196 e302)
  have e304 : Tg h205 n4 = 3 := ((pNT hh204 (pN_n hh204 z203 e230)).trans e230)
  have e305 : Tg h216 n4 = 3 := ((pNT hh215 (pN_n hh215 z214 e231)).trans e231)
  have e306 : Rv h221 n4 4 = v24 := ((pR_n hh220 (ne_tag e305 e219 (by decide))).trans ((pNR hh215 (pN_n hh215 z214 e231)).trans ((pR_n hh209 (ne_tag e304 e208 (by decide))).trans ((pNR hh204 (pN_n hh204 z203 e230)).trans ((pR_n hh198 (ne_tag e303 e197 (by decide))).trans ((fxR F196 e302 rfl).trans ((pR_n hh144 (ne_tag e301 e143 (by decide))).trans ((pNR hh139 (pN_n hh139 z138 e229)).trans ((pR_n hh133 (ne_tag e300 e132 (by decide))).trans ((pNR hh128 (pN_n hh128 z127 e228)).trans ((pR_n hh121 (ne_tag e299 e118 (by decide))).trans ((pR_n hh115 (ne_tag e298 e114 (by decide))).trans ((fxR F112 e297 rfl).trans ((pR_n hh77 (ne_tag e296 e76 (by decide))).trans ((fxR F75 e295 rfl).trans ((pR_n hh52 (ne_tag e294 e51 (by decide))).trans ((pNR hh47 (pN_n hh47 z46 e227)).trans ((pR_n hh41 (ne_tag (pT_T hh30) e40 (by decide))).trans e36))))))))))))))))))
  have e307 : Tg h42 v24 = 16101 := ((pRT hh41).trans e37)
  have e308 : Tg h48 v24 = 16101 := ((pNT hh47 (pN_n hh47 z46 e307)).trans e307)
  have e309 : Tg h53 v24 = 16101 := ((pRT hh52).trans e308)
  have e310 : Tg h71 v24 = 16101 := (fxT F75 e309)
  have e311 : Tg h78 v24 = 16101 := ((pRT hh77).trans e310)
  have e312 : Tg h104 v24 = 16101 := (fxT F112 e311)
  have e313 : Tg h116 v24 = 16101 := ((pRT hh115).trans e312)
  have e314 : Tg h122 v24 = 16101 := ((pRT hh121).trans e313)
  have e315 : Tg h129 v24 = 16101 := ((pNT hh128 (pN_n hh128 z127 e314)).trans e314)
  have e316 : Tg h134 v24 = 16101 := ((pRT hh133).trans e315)
  have e317 : Tg h140 v24 = 16101 := ((pNT hh139 (pN_n hh139 z138 e316)).trans e316)
  have e318 : Tg h145 v24 = 16101 := ((pRT hh144).trans e317)
  have e319 : Tg h189 v24 = 16101 := (fxT F196 e318)
  have e320 : Tg h199 v24 = 16101 := ((pRT hh198).trans e319)
  have e321 : Tg h205 v24 = 16101 := ((pNT hh204 (pN_n hh204 z203 e320)).trans e320)
  have e322 : Tg h210 v24 = 16101 := ((pRT hh209).trans e321)
  have e323 : Tg h216 v24 = 16101 := ((pNT hh215 (pN_n hh215 z214 e322)).trans e322)
  have p324 := (ZA_fx ((Fx.rf (wr := [202218]) (h := h216)).pR e219 hh220 rfl) e323 ar_16101 rfl (ZA_fx ((Fx.rf (wr := [1000050100]) (h := h210)).pN z214 hh215 rfl) e322 ar_16101 rfl (ZA_fx ((Fx.rf (wr := [202214]) (h := h205)).pR e208 hh209 rfl) e321 ar_16101 rfl (ZA_fx ((Fx.rf (wr := [1000049107]) (h := h199)).pN z203 hh204 rfl) e320 ar_16101 rfl (ZA_fx ((Fx.rf (wr := [202213]) (h := h189)).pR e197 hh198 rfl) e319 ar_16101 rfl (ZA_fx F196 e318 ar_16101 rfl (ZA_fx ((Fx.rf (wr := [202211]) (h := h140)).pR e143 hh144 rfl) e317 ar_16101 rfl (ZA_fx ((Fx.rf (wr := [1000048106]) (h := h134)).pN z138 hh139 rfl) e316 ar_16101 rfl (ZA_fx ((Fx.rf (wr := [202208]) (h := h129)).pR e132 hh133 rfl) e315 ar_16101 rfl (ZA_fx ((Fx.rf (wr := [1000039105]) (h := h122)).pN z127 hh128 rfl) e314 ar_16101 rfl (ZA_fx ((Fx.rf (wr := [202207]) (h := h116)).pR e118 hh121 rfl) e313 ar_16101 rfl (ZA_fx ((Fx.rf (wr := [202206]) (h := h104)).pR e114 hh115 rfl) e312 ar_16101 rfl (ZA_fx F112 e311 ar_16101 rfl (ZA_fx ((Fx.rf (wr := [202205]) (h := h71)).pR e76 hh77 rfl) e310 ar_16101 rfl (ZA_fx F75 e309 ar_16101 rfl (ZA_fx ((Fx.rf (wr := [202203]) (h := h48)).pR e51 hh52 rfl) e308 ar_16101 rfl (ZA_fx ((Fx.rf (wr := [1000038104]) (h := h42)).pN z46 hh47 rfl) e307 ar_16101 rfl (ZA_fx ((Fx.rf (wr := [202202]) (h := h31)).pR e40 hh41 rfl) e37 ar_16101 rfl z38))))))))))))))))))
  have e325 : Iv h221 n4 5 = 0 := ((pRI hh220).trans ((pNI hh215 (pN_n hh215 z214 e231)).trans ((pRI hh209).trans ((pNI hh204 (pN_n hh204 z203 e230)).trans ((pRI hh198).trans ((fxI F196 e302 rfl).trans ((pRI hh144).trans ((pNI hh139 (pN_n hh139 z138 e229)).trans ((pRI hh133).trans ((pNI hh128 (pN_n hh128 z127 e228)).trans ((pRI hh121).trans ((pRI hh115).trans ((fxI F112 e297 rfl).trans ((pRI hh77).trans ((fxI F75 e295 rfl).trans ((pRI hh52).trans ((pNI hh47 (pN_n hh47 z46 e227)).trans ((pRI hh41).trans e34))))))))))))))))))
  exact g_vret C hr ⟨O222, (((((((((((((((((((((Fx.rf (wr := wr_k3_X11_init)).pI ta0 hh1 rfl).call F39 rfl).pR e40 hh41 rfl).pN z46 hh47 rfl).pR e51 hh52 rfl).call F75 rfl).pR e76 hh77 rfl).call F112 rfl).pR e114 hh115 rfl).pR e118 hh121 rfl).pN z127 hh128 rfl).pR e132 hh133 rfl).pN z138 hh139 rfl).pR e143 hh144 rfl).call F196 rfl).pR e197 hh198 rfl).pN z203 hh204 rfl).pR e208 hh209 rfl).pN z214 hh215 rfl).pR e219 hh220 rfl), (by rw [e226]; exact nz_of O222 e232), (by rw [e223]; exact nz_of O222 e235), (by rw [e236]; exact nz_of O222 e241), (by rw [e242]; exact nz_of O222 e247), (by rw [e248]; exact nz_of O222 e253), (by rw [e224]; exact nz_of O222 e256), (by rw [e225]; exact nz_of O222 e259), (by rw [e260]; exact nz_of O222 e263), (by rw [e264]; exact nz_of O222 e266), (by rw [(pR_e hh220)]; exact nz_of O222 e267), (by unfold XInv; rw [e223, e269, e224, e270, e225, e271, e272, e264, e260, e242, e248, e275, e276, e277, e278]; exact ⟨(fun k hk => absurd hk (by omega)), (fun k hk => absurd hk (by omega)), (fun k hk => absurd hk (by omega)), (fun z => absurd z (by decide)), rfl, rfl, (by omega), (by omega), p285, p292, p293⟩), (Qask_i e226 e306 p324), (ASK_i (by unfold Qasc; rw [e226]; exact e325) (Qask_i e226 e306 p324))⟩ (by decide) (by decide) dX11_init_115
def wr_k3_X12_init : List Nat := [202401, 202404, 202405, 202406, 202409, 202411, 202412, 202413, 202414, 202415, 202416, 202417, 202418, 202419, 202420, 202421, 202422, 202423, 202424, 202425, 202426, 202427, 202429, 202430, 202431, 202432, 202434, 202435, 202436, 202437, 202438, 202439, 202441, 202442, 202443, 202444, 202445, 202446, 202447, 202448, 202449, 202450, 202451, 202452, 202453, 202454, 202455, 202456, 202458, 202459, 202460, 202461, 202463, 202464, 202465, 202466, 202467, 202468, 202470, 202471, 202472, 202473, 202474, 202475, 202476, 202481, 202482, 202484, 202485, 202486, 21820400, 27220000, 27420200, 27820000, 1000101100, 1000104100, 1000105100, 1000106102, 1000109102, 1000111100, 1000112100, 1000113102, 1000114100, 1000115100, 1000116101, 1000117101, 1000118101, 1000119100, 1000120101, 1000121100, 1000122100, 1000123100, 1000124100, 1000125100, 1000126100, 1000127100, 1000129100, 1000130100, 1000131100, 1000132100, 1000136100, 1000137101, 1000138101, 1000139100, 1000141100, 1000142100, 1000143100, 1000144100, 1000145100, 1000146100, 1000147100, 1000148100, 1000149100, 1000150100, 1000151100, 1000152101, 1000153101, 1000154100, 1000155100, 1000156100, 1000158101, 1000159100, 1000160100, 1000161100, 1000163100, 1000164100, 1000165100, 1000166100, 1000167100, 1000168100, 1000170101, 1000171100, 1000172102, 1000173101, 1000174101, 1000175100, 1000176100, 1000181100, 1000182101, 1000184100, 1000185100, 1000186100]
set_option maxRecDepth 100000 in
set_option maxHeartbeats 4000000 in
theorem k3_X12_init (l : Launch) (D : va_G) (cy : Nat → ClassId) (w : Nat → Nat) (z0 : Nat)  {h : Hp} {a0 : Nat}  (O : Okh h) (ta0 : Tg h a0 = 1012) (P_zm : Iv h a0 10 = 0 ∧ Iv h a0 33 = 0) : MV l D cy w z0 yX12_init cX12_init 2 none 1 24 68 46508 [.inr (.inr a0)] h (fun h1 => Okh h1 ∧ Fx wr_k3_X12_init h h1 ∧ (¬ Rv h1 a0 1 = 0) ∧ (¬ Rv h1 a0 4 = 0) ∧ (¬ Rv h1 a0 5 = 0) ∧ (¬ Rv h1 a0 6 = 0) ∧ (¬ Rv h1 a0 9 = 0) ∧ (¬ Rv h1 a0 11 = 0) ∧ (¬ Rv h1 a0 12 = 0) ∧ (¬ Rv h1 a0 13 = 0) ∧ (¬ Rv h1 a0 14 = 0) ∧ (¬ Rv h1 a0 15 = 0) ∧ (¬ Rv h1 a0 16 = 0) ∧ (¬ Rv h1 a0 17 = 0) ∧ (¬ Rv h1 a0 18 = 0) ∧ (¬ Rv h1 a0 19 = 0) ∧ (¬ Rv h1 a0 20 = 0) ∧ (¬ Rv h1 a0 21 = 0) ∧ (¬ Rv h1 a0 22 = 0) ∧ (¬ Rv h1 a0 23 = 0) ∧ (¬ Rv h1 a0 24 = 0) ∧ (¬ Rv h1 a0 25 = 0) ∧ (¬ Rv h1 a0 26 = 0) ∧ (¬ Rv h1 a0 27 = 0) ∧ (¬ Rv h1 a0 29 = 0) ∧ (¬ Rv h1 a0 30 = 0) ∧ (¬ Rv h1 a0 31 = 0) ∧ (¬ Rv h1 a0 32 = 0) ∧ (¬ Rv h1 a0 36 = 0) ∧ (¬ Rv h1 a0 37 = 0) ∧ (¬ Rv h1 a0 38 = 0) ∧ (¬ Rv h1 a0 39 = 0) ∧ (¬ Rv h1 a0 41 = 0) ∧ (¬ Rv h1 a0 42 = 0) ∧ (¬ Rv h1 a0 43 = 0) ∧ (¬ Rv h1 a0 44 = 0) ∧ (¬ Rv h1 a0 45 = 0) ∧ (¬ Rv h1 a0 46 = 0) ∧ (¬ Rv h1 a0 47 = 0) ∧ (¬ Rv h1 a0 48 = 0) ∧ (¬ Rv h1 a0 49 = 0) ∧ (¬ Rv h1 a0 50 = 0) ∧ (¬ Rv h1 a0 51 = 0) ∧ (¬ Rv h1 a0 52 = 0) ∧ (¬ Rv h1 a0 53 = 0) ∧ (¬ Rv h1 a0 54 = 0) ∧ (¬ Rv h1 a0 55 = 0) ∧ (¬ Rv h1 a0 56 = 0) ∧ (¬ Rv h1 a0 58 = 0) ∧ (¬ Rv h1 a0 59 = 0) ∧ (¬ Rv h1 a0 60 = 0) ∧ (¬ Rv h1 a0 61 = 0) ∧ (¬ Rv h1 a0 63 = 0) ∧ (¬ Rv h1 a0 64 = 0) ∧ (¬ Rv h1 a0 65 = 0) ∧ (¬ Rv h1 a0 66 = 0) ∧ (¬ Rv h1 a0 67 = 0) ∧ (¬ Rv h1 a0 68 = 0) ∧ (¬ Rv h1 a0 70 = 0) ∧ (¬ Rv h1 a0 71 = 0) ∧ (¬ Rv h1 a0 72 = 0) ∧ (¬ Rv h1 a0 73 = 0) ∧ (¬ Rv h1 a0 74 = 0) ∧ (¬ Rv h1 a0 75 = 0) ∧ (¬ Rv h1 a0 76 = 0) ∧ (¬ Rv h1 a0 81 = 0) ∧ (¬ Rv h1 a0 82 = 0) ∧ (¬ Rv h1 a0 84 = 0) ∧ (¬ Rv h1 a0 85 = 0) ∧ (¬ Rv h1 a0 86 = 0) ∧ (MInv h1 a0) ∧ (Qm 82 h1 a0 = zer1)) := by
  refine hm_go (by decide +kernel) (Nat.le_of_ble_eq_true rfl) (fun p e s m below meth c C hr hn => ?_)
  have J2 : ∀ (h1 : Hp), Okh h1 → Fx [202401, 202404, 202405, 202406, 202409, 202411, 202412, 202413, 202414, 202415, 202416, 202417, 202418, 202419, 202420, 202421, 202422, 202423, 202424, 202425, 202426, 202427, 202429, 202430, 202431, 202432, 202434, 202435, 202436, 202437, 202438, 202439, 202441, 202442, 202443, 202444, 202445, 202446, 202447, 202448, 202449, 202450, 202451, 202452, 202453, 202454, 202455, 202456, 202458, 202459, 202460, 202461, 202463, 202464, 202465, 202466, 202467, 202468, 202470, 202471, 202472, 202473, 202474, 202475, 202476, 202481, 202482, 202484, 202485, 202486, 21820400, 27220000, 27420200, 27820000, 1000101100, 1000104100, 1000105100, 1000106102, 1000109102, 1000111100, 1000112100, 1000113102, 1000114100, 1000115100, 1000116101, 1000117101, 1000118101, 1000119100, 1000120101, 1000121100, 1000122100, 1000123100, 1000124100, 1000125100, 1000126100, 1000127100, 1000129100, 1000130100, 1000131100, 1000132100, 1000136100, 1000137101, 1000138101, 1000139100, 1000141100, 1000142100, 1000143100, 1000144100, 1000145100, 1000146100, 1000147100, 1000148100, 1000149100, 1000150100, 1000151100, 1000152101, 1000153101, 1000154100, 1000155100, 1000156100, 1000158101, 1000159100, 1000160100, 1000161100, 1000163100, 1000164100, 1000165100, 1000166100, 1000167100, 1000168100, 1000170101, 1000171100, 1000172102, 1000173101, 1000174101, 1000175100, 1000176100, 1000181100, 1000182101, 1000184100, 1000185100, 1000186100] h h1 → NZ h1 a0 [86, 85, 84, 82, 81, 76, 75, 74, 73, 72, 71, 70, 68, 67, 66, 65, 64, 63, 61, 60, 59, 58, 56, 55, 54, 53, 52, 51, 50, 49, 48, 47, 46, 45, 44, 43, 42, 41, 39, 38, 37, 36, 32, 31, 30, 29, 27, 26, 25, 24, 23, 22, 21, 20, 19, 18, 17, 16, 15, 14, 13, 12, 11, 9, 6, 5, 4, 1] → LZR h1 a0 → ZR82 h1 a0 → GW p l e (rmm 1 24 68 46508) s m (List.map toV [.inr (.inr a0)]).toArray below meth c D cy z0 2 (MQ below (QV D cy z0 (fun h1 => Okh h1 ∧ Fx wr_k3_X12_init h h1 ∧ (¬ Rv h1 a0 1 = 0) ∧ (¬ Rv h1 a0 4 = 0) ∧ (¬ Rv h1 a0 5 = 0) ∧ (¬ Rv h1 a0 6 = 0) ∧ (¬ Rv h1 a0 9 = 0) ∧ (¬ Rv h1 a0 11 = 0) ∧ (¬ Rv h1 a0 12 = 0) ∧ (¬ Rv h1 a0 13 = 0) ∧ (¬ Rv h1 a0 14 = 0) ∧ (¬ Rv h1 a0 15 = 0) ∧ (¬ Rv h1 a0 16 = 0) ∧ (¬ Rv h1 a0 17 = 0) ∧ (¬ Rv h1 a0 18 = 0) ∧ (¬ Rv h1 a0 19 = 0) ∧ (¬ Rv h1 a0 20 = 0) ∧ (¬ Rv h1 a0 21 = 0) ∧ (¬ Rv h1 a0 22 = 0) ∧ (¬ Rv h1 a0 23 = 0) ∧ (¬ Rv h1 a0 24 = 0) ∧ (¬ Rv h1 a0 25 = 0) ∧ (¬ Rv h1 a0 26 = 0) ∧ (¬ Rv h1 a0 27 = 0) ∧ (¬ Rv h1 a0 29 = 0) ∧ (¬ Rv h1 a0 30 = 0) ∧ (¬ Rv h1 a0 31 = 0) ∧ (¬ Rv h1 a0 32 = 0) ∧ (¬ Rv h1 a0 36 = 0) ∧ (¬ Rv h1 a0 37 = 0) ∧ (¬ Rv h1 a0 38 = 0) ∧ (¬ Rv h1 a0 39 = 0) ∧ (¬ Rv h1 a0 41 = 0) ∧ (¬ Rv h1 a0 42 = 0) ∧ (¬ Rv h1 a0 43 = 0) ∧ (¬ Rv h1 a0 44 = 0) ∧ (¬ Rv h1 a0 45 = 0) ∧ (¬ Rv h1 a0 46 = 0) ∧ (¬ Rv h1 a0 47 = 0) ∧ (¬ Rv h1 a0 48 = 0) ∧ (¬ Rv h1 a0 49 = 0) ∧ (¬ Rv h1 a0 50 = 0) ∧ (¬ Rv h1 a0 51 = 0) ∧ (¬ Rv h1 a0 52 = 0) ∧ (¬ Rv h1 a0 53 = 0) ∧ (¬ Rv h1 a0 54 = 0) ∧ (¬ Rv h1 a0 55 = 0) ∧ (¬ Rv h1 a0 56 = 0) ∧ (¬ Rv h1 a0 58 = 0) ∧ (¬ Rv h1 a0 59 = 0) ∧ (¬ Rv h1 a0 60 = 0) ∧ (¬ Rv h1 a0 61 = 0) ∧ (¬ Rv h1 a0 63 = 0) ∧ (¬ Rv h1 a0 64 = 0) ∧ (¬ Rv h1 a0 65 = 0) ∧ (¬ Rv h1 a0 66 = 0) ∧ (¬ Rv h1 a0 67 = 0) ∧ (¬ Rv h1 a0 68 = 0) ∧ (¬ Rv h1 a0 70 = 0) ∧ (¬ Rv h1 a0 71 = 0) ∧ (¬ Rv h1 a0 72 = 0) ∧ (¬ Rv h1 a0 73 = 0) ∧ (¬ Rv h1 a0 74 = 0) ∧ (¬ Rv h1 a0 75 = 0) ∧ (¬ Rv h1 a0 76 = 0) ∧ (¬ Rv h1 a0 81 = 0) ∧ (¬ Rv h1 a0 82 = 0) ∧ (¬ Rv h1 a0 84 = 0) ∧ (¬ Rv h1 a0 85 = 0) ∧ (¬ Rv h1 a0 86 = 0) ∧ (MInv h1 a0) ∧ (Qm 82 h1 a0 = zer1))) (List.map toV [.inr (.inr a0)]).toArray s 68 46508 (Aof z0)) 767 [(0, .inr (.inr a0))] [] h1 68 46508 := by
    intro h1 O3 F4 p5 p6 p7
    obtain ⟨v8, e9⟩ : ∃ z, Rv h1 a0 36 = z := ⟨_, rfl⟩
    have e10 : Tg h1 a0 = 1012 := (fxT F4 ta0)
    have t11 := ok_N O3 e10 rE_1012_36 e9 (by rw [← e9]; exact p5 36 rfl)
    have l12 := ok_NL O3 e10 rE_1012_36 e9 (by rw [← e9]; exact p5 36 rfl)
    obtain ⟨v13, e14⟩ : ∃ z, Rv h1 a0 37 = z := ⟨_, rfl⟩
    have t15 := ok_N O3 e10 rE_1012_37 e14 (by rw [← e14]; exact p5 37 rfl)
    have l16 := ok_NL O3 e10 rE_1012_37 e14 (by rw [← e14]; exact p5 37 rfl)
    obtain ⟨v17, e18⟩ : ∃ z, Rv h1 a0 39 = z := ⟨_, rfl⟩
    have t19 := ok_N O3 e10 rE_1012_39 e18 (by rw [← e18]; exact p5 39 rfl)
    have l20 := ok_NL O3 e10 rE_1012_39 e18 (by rw [← e18]; exact p5 39 rfl)
    refine g_iconst C dX12_init_767 ?_
    refine g_istore_n C [(1, .inl 0), (0, .inr (.inr a0))] rfl (by decide) rfl dX12_init_768 ?_
    refine GW.sub [1, 0] rfl ?_
    -- loop at 769
    have L23 : ∀ (μ : Nat) (x21 : Int) (h22 : Hp), (96 - x21).toNat = μ → Okh h22 → Fx [27220000, 27420200, 27820000] h1 h22 → ((0 : Int) ≤ x21 ∧ x21 ≤ (96 : Int)) → GW p l e (rmm 1 24 68 46508) s m (List.map toV [.inr (.inr a0)]).toArray below meth c D cy z0 2 (MQ below (QV D cy z0 (fun h1 => Okh h1 ∧ Fx wr_k3_X12_init h h1 ∧ (¬ Rv h1 a0 1 = 0) ∧ (¬ Rv h1 a0 4 = 0) ∧ (¬ Rv h1 a0 5 = 0) ∧ (¬ Rv h1 a0 6 = 0) ∧ (¬ Rv h1 a0 9 = 0) ∧ (¬ Rv h1 a0 11 = 0) ∧ (¬ Rv h1 a0 12 = 0) ∧ (¬ Rv h1 a0 13 = 0) ∧ (¬ Rv h1 a0 14 = 0) ∧ (¬ Rv h1 a0 15 = 0) ∧ (¬ Rv h1 a0 16 = 0) ∧ (¬ Rv h1 a0 17 = 0) ∧ (¬ Rv h1 a0 18 = 0) ∧ (¬ Rv h1 a0 19 = 0) ∧ (¬ Rv h1 a0 20 = 0) ∧ (¬ Rv h1 a0 21 = 0) ∧ (¬ Rv h1 a0 22 = 0) ∧ (¬ Rv h1 a0 23 = 0) ∧ (¬ Rv h1 a0 24 = 0) ∧ (¬ Rv h1 a0 25 = 0) ∧ (¬ Rv h1 a0 26 = 0) ∧ (¬ Rv h1 a0 27 = 0) ∧ (¬ Rv h1 a0 29 = 0) ∧ (¬ Rv h1 a0 30 = 0) ∧ (¬ Rv h1 a0 31 = 0) ∧ (¬ Rv h1 a0 32 = 0) ∧ (¬ Rv h1 a0 36 = 0) ∧ (¬ Rv h1 a0 37 = 0) ∧ (¬ Rv h1 a0 38 = 0) ∧ (¬ Rv h1 a0 39 = 0) ∧ (¬ Rv h1 a0 41 = 0) ∧ (¬ Rv h1 a0 42 = 0) ∧ (¬ Rv h1 a0 43 = 0) ∧ (¬ Rv h1 a0 44 = 0) ∧ (¬ Rv h1 a0 45 = 0) ∧ (¬ Rv h1 a0 46 = 0) ∧ (¬ Rv h1 a0 47 = 0) ∧ (¬ Rv h1 a0 48 = 0) ∧ (¬ Rv h1 a0 49 = 0) ∧ (¬ Rv h1 a0 50 = 0) ∧ (¬ Rv h1 a0 51 = 0) ∧ (¬ Rv h1 a0 52 = 0) ∧ (¬ Rv h1 a0 53 = 0) ∧ (¬ Rv h1 a0 54 = 0) ∧ (¬ Rv h1 a0 55 = 0) ∧ (¬ Rv h1 a0 56 = 0) ∧ (¬ Rv h1 a0 58 = 0) ∧ (¬ Rv h1 a0 59 = 0) ∧ (¬ Rv h1 a0 60 = 0) ∧ (¬ Rv h1 a0 61 = 0) ∧ (¬ Rv h1 a0 63 = 0) ∧ (¬ Rv h1 a0 64 = 0) ∧ (¬ Rv h1 a0 65 = 0) ∧ (¬ Rv h1 a0 66 = 0) ∧ (¬ Rv h1 a0 67 = 0) ∧ (¬ Rv h1 a0 68 = 0) ∧ (¬ Rv h1 a0 70 = 0) ∧ (¬ Rv h1 a0 71 = 0) ∧ (¬ Rv h1 a0 72 = 0) ∧ (¬ Rv h1 a0 73 = 0) ∧ (¬ Rv h1 a0 74 = 0) ∧ (¬ Rv h1 a0 75 = 0) ∧ (¬ Rv h1 a0 76 = 0) ∧ (¬ Rv h1 a0 81 = 0) ∧ (¬ Rv h1 a0 82 = 0) ∧ (¬ Rv h1 a0 84 = 0) ∧ (¬ Rv h1 a0 85 = 0) ∧ (¬ Rv h1 a0 86 = 0) ∧ (MInv h1 a0) ∧ (Qm 82 h1 a0 = zer1))) (List.map toV [.inr (.inr a0)]).toArray s 68 46508 (Aof z0)) 769 [(0, .inr (.inr a0)), (1, .inl x21)] [] h22 68 46508 := by
      intro μ
      induction μ using Nat.strongRecOn with
      | ind μ ih24 =>
        intro x21 h22 hm25 O26 F27 f28
        refine g_iload_n C rfl 1 rfl dX12_init_769 ?_
        refine g_bipush C (by decide) dX12_init_770 ?_
        refine g_icmp_ge C (iw f28 (by decide) (by decide)) (iw (il 96) (by decide) (by decide)) 804 (by decide) dX12_init_772 (fun q29 => ?_) (fun q30 => ?_)
        · have f31 : (96 : Int) ≤ x21 ∧ x21 ≤ (96 : Int) := r_ge f28 (il 96) q29 (by decide) (by decide)
          refine g_aload_n C rfl 0 rfl dX12_init_804 ?_
          refine g_iconst C dX12_init_805 ?_
          have e32 : Tg h22 a0 = 1012 := (fxT F27 e10)
          refine gp_I C fk_LandSurveyModel_287 pk_LandSurveyModel_34 rfl e32 (iw (il (-1)) (by decide) (by decide)) (nf_i _) dX12_init_806 (fun h34 hh33 => ?_)
          have O35 := O26.pI e32 hh33 rI_1012_34 (iw (il (-1)) (by decide) (by decide)) nofun
          refine g_aload_n C rfl 0 rfl dX12_init_809 ?_
          refine g_iconst C dX12_init_810 ?_
          have e36 : Tg h34 a0 = 1012 := ((pIT hh33).trans e32)
          refine gp_I C fk_LandSurveyModel_290 pk_LandSurveyModel_35 rfl e36 (iw (il 1) (by decide) (by decide)) (nar_z2 (iw (il 1) (by decide) (by decide))) dX12_init_811 (fun h38 hh37 => ?_)
          have O39 := O35.pI e36 hh37 rI_1012_35 (iw (il 1) (by decide) (by decide)) nofun
          have p40 := (NZ_fx ((Fx.rf (wr := [202435]) (h := h34)).pI e36 hh37 rfl) e36 (by decide) (NZ_fx ((Fx.rf (wr := [202434]) (h := h22)).pI e32 hh33 rfl) e32 (by decide) (NZ_fx F27 e10 (by decide) p5)))
          have e41 : Iv h38 a0 10 = 0 := ((pI_j hh37 (by decide)).trans ((pI_j hh33 (by decide)).trans ((fxI F27 e10 rfl).trans ((fxI F4 ta0 rfl).trans P_zm.1))))
          have p42 := (LZR_fx ((Fx.rf (wr := [202435]) (h := h34)).pI e36 hh37 rfl) e36 rfl (LZR_fx ((Fx.rf (wr := [202434]) (h := h22)).pI e32 hh33 rfl) e32 rfl (LZR_fx F27 e10 rfl p6)))
          have p43 := (ZR82_fx ((Fx.rf (wr := [202435]) (h := h34)).pI e36 hh37 rfl) e36 rfl (ZR82_fx ((Fx.rf (wr := [202434]) (h := h22)).pI e32 hh33 rfl) e32 rfl (ZR82_fx F27 e10 rfl p7)))
          exact g_vret C hr ⟨O39, (((((Fx.rf (wr := wr_k3_X12_init)).call F4 rfl).call F27 rfl).pI e32 hh33 rfl).pI e36 hh37 rfl), (p40 1 rfl), (p40 4 rfl), (p40 5 rfl), (p40 6 rfl), (p40 9 rfl), (p40 11 rfl), (p40 12 rfl), (p40 13 rfl), (p40 14 rfl), (p40 15 rfl), (p40 16 rfl), (p40 17 rfl), (p40 18 rfl), (p40 19 rfl), (p40 20 rfl), (p40 21 rfl), (p40 22 rfl), (p40 23 rfl), (p40 24 rfl), (p40 25 rfl), (p40 26 rfl), (p40 27 rfl), (p40 29 rfl), (p40 30 rfl), (p40 31 rfl), (p40 32 rfl), (p40 36 rfl), (p40 37 rfl), (p40 38 rfl), (p40 39 rfl), (p40 41 rfl), (p40 42 rfl), (p40 43 rfl), (p40 44 rfl), (p40 45 rfl), (p40 46 rfl), (p40 47 rfl), (p40 48 rfl), (p40 49 rfl), (p40 50 rfl), (p40 51 rfl), (p40 52 rfl), (p40 53 rfl), (p40 54 rfl), (p40 55 rfl), (p40 56 rfl), (p40 58 rfl), (p40 59 rfl), (p40 60 rfl), (p40 61 rfl), (p40 63 rfl), (p40 64 rfl), (p40 65 rfl), (p40 66 rfl), (p40 67 rfl), (p40 68 rfl), (p40 70 rfl), (p40 71 rfl), (p40 72 rfl), (p40 73 rfl), (p40 74 rfl), (p40 75 rfl), (p40 76 rfl), (p40 81 rfl), (p40 82 rfl), (p40 84 rfl), (p40 85 rfl), (p40 86 rfl), ⟨fun b hb => absurd hb (by rw [e41]; omega), fun k _ => by rw [p42.2.2 k]; omega⟩, (funext p43.2)⟩ (by decide) (by decide) dX12_init_814
        · have f44 : (0 : Int) ≤ x21 ∧ x21 ≤ (95 : Int) := r_lt f28 (il 96) q30 (by decide) (by decide)
          refine g_aload_n C rfl 0 rfl dX12_init_775 ?_
          have e45 : Tg h22 a0 = 1012 := (fxT F27 e10)
          have e46 : Rv h22 a0 36 = v8 := ((fxR F27 e10 rfl).trans e9)
          refine gf_R C fk_LandSurveyModel_161 rfl e45 e46 dX12_init_776 ?_
          refine g_iload_n C rfl 1 rfl dX12_init_779 ?_
          refine g_sipush C (by decide) dX12_init_780 ?_
          have e47 : Tg h22 v8 = 136100 := (fxT F27 t11)
          have e48 : Ln h22 v8 = 96 := ((fxL F27 t11).trans l12)
          refine g_iast C e47 rfl e48 (ix f44 (by decide) (by decide)) (iw (il 500) (by decide) (by decide)) dX12_init_783 (fun h50 hh49 => ?_)
          have O51 := O26.pIa e47 ar_136100 hh49 rI_136100_0 (iw (il 500) (by decide) (by decide)) nofun
          refine g_aload_n C rfl 0 rfl dX12_init_784 ?_
          have e52 : Tg h50 a0 = 1012 := ((pIT hh49).trans e45)
          have e53 : Rv h50 a0 37 = v13 := ((pIR hh49).trans ((fxR F27 e10 rfl).trans e14))
          refine gf_R C fk_LandSurveyModel_164 rfl e52 e53 dX12_init_785 ?_
          refine g_iload_n C rfl 1 rfl dX12_init_788 ?_
          refine g_iconst C dX12_init_789 ?_
          have e54 : Tg h50 v13 = 137101 := ((pIT hh49).trans (fxT F27 t15))
          have e55 : Ln h50 v13 = 96 := ((pIL hh49).trans ((fxL F27 t15).trans l16))
          refine g_zast C e54 rfl e55 (ix f44 (by decide) (by decide)) (iw (il 1) (by decide) (by decide)) dX12_init_790 (fun h57 hh56 => ?_)
          have O58 := O51.pIa e54 ar_137101 hh56 rI_137101_0 (iw (il 1) (by decide) (by decide)) nofun
          refine g_aload_n C rfl 0 rfl dX12_init_791 ?_
          have e59 : Tg h57 a0 = 1012 := ((pIT hh56).trans e52)
          have e60 : Rv h57 a0 39 = v17 := ((pIR hh56).trans ((pIR hh49).trans ((fxR F27 e10 rfl).trans e18)))
          refine gf_R C fk_LandSurveyModel_170 rfl e59 e60 dX12_init_792 ?_
          refine g_iload_n C rfl 1 rfl dX12_init_795 ?_
          refine g_iconst C dX12_init_796 ?_
          have e61 : Tg h57 v17 = 139100 := ((pIT hh56).trans ((pIT hh49).trans (fxT F27 t19)))
          have e62 : Ln h57 v17 = 96 := ((pIL hh56).trans ((pIL hh49).trans ((fxL F27 t19).trans l20)))
          refine g_iast C e61 rfl e62 (ix f44 (by decide) (by decide)) (iw (il (-1)) (by decide) (by decide)) dX12_init_797 (fun h64 hh63 => ?_)
          have O65 := O58.pIa e61 ar_139100 hh63 rI_139100_0 (iw (il (-1)) (by decide) (by decide)) nofun
          have f66 : (1 : Int) ≤ (x21 + 1) ∧ (x21 + 1) ≤ (96 : Int) := ia_add f44 (il 1) (by decide) (by decide)
          refine g_iinc C [(1, .inl (x21 + 1)), (0, .inr (.inr a0))] 1 rfl (by decide) rfl dX12_init_798 ?_
          refine g_goto C 769 (by decide) dX12_init_801 ?_
          refine GW.sub [1, 0] rfl ?_
          exact ih24 _ (by omega) (x21 + 1) h64 rfl O65 (((F27.pIa e47 ar_136100 hh49 rfl).pIa e54 ar_137101 hh56 rfl).pIa e61 ar_139100 hh63 rfl) (iw f66 (by decide) (by decide))
    exact L23 _ 0 h1 rfl O3 Fx.rf (iw (il 0) (by decide) (by decide))
  have J68 : ∀ (h67 : Hp), Okh h67 → Fx [202401, 202404, 202405, 202406, 202409, 202411, 202412, 202413, 202414, 202415, 202416, 202417, 202418, 202419, 202420, 202421, 202422, 202423, 202424, 202425, 202426, 202427, 202429, 202430, 202431, 202432, 202434, 202435, 202436, 202437, 202438, 202439, 202441, 202442, 202443, 202444, 202445, 202446, 202447, 202448, 202449, 202450, 202451, 202452, 202453, 202454, 202455, 202456, 202458, 202459, 202460, 202461, 202463, 202464, 202465, 202466, 202467, 202468, 202470, 202471, 202472, 202473, 202474, 202475, 202476, 202481, 202482, 202484, 202485, 202486, 21820400, 27220000, 27420200, 27820000, 1000101100, 1000104100, 1000105100, 1000106102, 1000109102, 1000111100, 1000112100, 1000113102, 1000114100, 1000115100, 1000116101, 1000117101, 1000118101, 1000119100, 1000120101, 1000121100, 1000122100, 1000123100, 1000124100, 1000125100, 1000126100, 1000127100, 1000129100, 1000130100, 1000131100, 1000132100, 1000136100, 1000137101, 1000138101, 1000139100, 1000141100, 1000142100, 1000143100, 1000144100, 1000145100, 1000146100, 1000147100, 1000148100, 1000149100, 1000150100, 1000151100, 1000152101, 1000153101, 1000154100, 1000155100, 1000156100, 1000158101, 1000159100, 1000160100, 1000161100, 1000163100, 1000164100, 1000165100, 1000166100, 1000167100, 1000168100, 1000170101, 1000171100, 1000172102, 1000173101, 1000174101, 1000175100, 1000176100, 1000181100, 1000182101, 1000184100, 1000185100, 1000186100] h h67 → NZ h67 a0 [81, 76, 75, 74, 73, 72, 71, 70, 68, 67, 66, 65, 64, 63, 61, 60, 59, 58, 56, 55, 54, 53, 52, 51, 50, 49, 48, 47, 46, 45, 44, 43, 42, 41, 39, 38, 37, 36, 32, 31, 30, 29, 27, 26, 25, 24, 23, 22, 21, 20, 19, 18, 17, 16, 15, 14, 13, 12, 11, 9, 6, 5, 4, 1] → LZR h67 a0 → GW p l e (rmm 1 24 68 46508) s m (List.map toV [.inr (.inr a0)]).toArray below meth c D cy z0 2 (MQ below (QV D cy z0 (fun h1 => Okh h1 ∧ Fx wr_k3_X12_init h h1 ∧ (¬ Rv h1 a0 1 = 0) ∧ (¬ Rv h1 a0 4 = 0) ∧ (¬ Rv h1 a0 5 = 0) ∧ (¬ Rv h1 a0 6 = 0) ∧ (¬ Rv h1 a0 9 = 0) ∧ (¬ Rv h1 a0 11 = 0) ∧ (¬ Rv h1 a0 12 = 0) ∧ (¬ Rv h1 a0 13 = 0) ∧ (¬ Rv h1 a0 14 = 0) ∧ (¬ Rv h1 a0 15 = 0) ∧ (¬ Rv h1 a0 16 = 0) ∧ (¬ Rv h1 a0 17 = 0) ∧ (¬ Rv h1 a0 18 = 0) ∧ (¬ Rv h1 a0 19 = 0) ∧ (¬ Rv h1 a0 20 = 0) ∧ (¬ Rv h1 a0 21 = 0) ∧ (¬ Rv h1 a0 22 = 0) ∧ (¬ Rv h1 a0 23 = 0) ∧ (¬ Rv h1 a0 24 = 0) ∧ (¬ Rv h1 a0 25 = 0) ∧ (¬ Rv h1 a0 26 = 0) ∧ (¬ Rv h1 a0 27 = 0) ∧ (¬ Rv h1 a0 29 = 0) ∧ (¬ Rv h1 a0 30 = 0) ∧ (¬ Rv h1 a0 31 = 0) ∧ (¬ Rv h1 a0 32 = 0) ∧ (¬ Rv h1 a0 36 = 0) ∧ (¬ Rv h1 a0 37 = 0) ∧ (¬ Rv h1 a0 38 = 0) ∧ (¬ Rv h1 a0 39 = 0) ∧ (¬ Rv h1 a0 41 = 0) ∧ (¬ Rv h1 a0 42 = 0) ∧ (¬ Rv h1 a0 43 = 0) ∧ (¬ Rv h1 a0 44 = 0) ∧ (¬ Rv h1 a0 45 = 0) ∧ (¬ Rv h1 a0 46 = 0) ∧ (¬ Rv h1 a0 47 = 0) ∧ (¬ Rv h1 a0 48 = 0) ∧ (¬ Rv h1 a0 49 = 0) ∧ (¬ Rv h1 a0 50 = 0) ∧ (¬ Rv h1 a0 51 = 0) ∧ (¬ Rv h1 a0 52 = 0) ∧ (¬ Rv h1 a0 53 = 0) ∧ (¬ Rv h1 a0 54 = 0) ∧ (¬ Rv h1 a0 55 = 0) ∧ (¬ Rv h1 a0 56 = 0) ∧ (¬ Rv h1 a0 58 = 0) ∧ (¬ Rv h1 a0 59 = 0) ∧ (¬ Rv h1 a0 60 = 0) ∧ (¬ Rv h1 a0 61 = 0) ∧ (¬ Rv h1 a0 63 = 0) ∧ (¬ Rv h1 a0 64 = 0) ∧ (¬ Rv h1 a0 65 = 0) ∧ (¬ Rv h1 a0 66 = 0) ∧ (¬ Rv h1 a0 67 = 0) ∧ (¬ Rv h1 a0 68 = 0) ∧ (¬ Rv h1 a0 70 = 0) ∧ (¬ Rv h1 a0 71 = 0) ∧ (¬ Rv h1 a0 72 = 0) ∧ (¬ Rv h1 a0 73 = 0) ∧ (¬ Rv h1 a0 74 = 0) ∧ (¬ Rv h1 a0 75 = 0) ∧ (¬ Rv h1 a0 76 = 0) ∧ (¬ Rv h1 a0 81 = 0) ∧ (¬ Rv h1 a0 82 = 0) ∧ (¬ Rv h1 a0 84 = 0) ∧ (¬ Rv h1 a0 85 = 0) ∧ (¬ Rv h1 a0 86 = 0) ∧ (MInv h1 a0) ∧ (Qm 82 h1 a0 = zer1))) (List.map toV [.inr (.inr a0)]).toArray s 68 46508 (Aof z0)) 735 [(0, .inr (.inr a0))] [] h67 64 46299 := by
    intro h67 O69 F70 p71 p72
    refine g_aload_n C rfl 0 rfl dX12_init_735 ?_
    refine g_bipush C (by decide) dX12_init_736 ?_
    refine g_newa (atype := .boolean) (t := 1) (ty := .boolean) (N := 96) C 182101 rfl (iw (il 96) (by decide) (by decide)) (by decide) rfl kw_225 rfl (fun _ => rfl) (by decide) (by decide) (by decide) (by decide) dX12_init_738 (fun n74 z75 z76 h78 hh77 => ?_)
    have O79 := O69.pN z75 z76 hh77 (by decide) nn_182101
    have e80 : Tg h67 a0 = 1012 := (fxT F70 ta0)
    have e81 : Tg h78 a0 = 1012 := ((pNT hh77 (pN_n hh77 z76 e80)).trans e80)
    refine gp_RF C fk_LandSurveyModel_275 pk_LandSurveyModel_82 rfl e81 hn rfl (nf_a _ _) dX12_init_740 (fun h83 hh82 => ?_)
    have O84 := O79.pR e81 hh82 (okR_l rE_1012_82 (pN_T hh77) (pN_L hh77))
    have p85 := ZR82_new hh77 hh82
    refine g_aload_n C rfl 0 rfl dX12_init_743 ?_
    refine g_bipush C (by decide) dX12_init_744 ?_
    refine g_newa (atype := .int) (t := 0) (ty := .int) (N := 8) C 184100 rfl (iw (il 8) (by decide) (by decide)) (by decide) rfl kw_224 rfl (fun _ => rfl) (by decide) (by decide) (by decide) (by decide) dX12_init_746 (fun n86 z87 z88 h90 hh89 => ?_)
    have O91 := O84.pN z87 z88 hh89 (by decide) nn_184100
    have e92 : Tg h83 a0 = 1012 := ((pRT hh82).trans e81)
    have e93 : Tg h90 a0 = 1012 := ((pNT hh89 (pN_n hh89 z88 e92)).trans e92)
    refine gp_RF C fk_LandSurveyModel_278 pk_LandSurveyModel_84 rfl e93 hn rfl (nf_a _ _) dX12_init_748 (fun h95 hh94 => ?_)
    have O96 := O91.pR e93 hh94 (okR_l rE_1012_84 (pN_T hh89) (pN_L hh89))
    refine g_aload_n C rfl 0 rfl dX12_init_751 ?_
    refine g_bipush C (by decide) dX12_init_752 ?_
    refine g_newa (atype := .int) (t := 0) (ty := .int) (N := 8) C 185100 rfl (iw (il 8) (by decide) (by decide)) (by decide) rfl kw_224 rfl (fun _ => rfl) (by decide) (by decide) (by decide) (by decide) dX12_init_754 (fun n97 z98 z99 h101 hh100 => ?_)
    have O102 := O96.pN z98 z99 hh100 (by decide) nn_185100
    have e103 : Tg h95 a0 = 1012 := ((pRT hh94).trans e93)
    have e104 : Tg h101 a0 = 1012 := ((pNT hh100 (pN_n hh100 z99 e103)).trans e103)
    refine gp_RF C fk_LandSurveyModel_281 pk_LandSurveyModel_85 rfl e104 hn rfl (nf_a _ _) dX12_init_756 (fun h106 hh105 => ?_)
    have O107 := O102.pR e104 hh105 (okR_l rE_1012_85 (pN_T hh100) (pN_L hh100))
    refine g_aload_n C rfl 0 rfl dX12_init_759 ?_
    refine g_bipush C (by decide) dX12_init_760 ?_
    refine g_newa (atype := .int) (t := 0) (ty := .int) (N := 97) C 186100 rfl (iw (il 97) (by decide) (by decide)) (by decide) rfl kw_224 rfl (fun _ => rfl) (by decide) (by decide) (by decide) (by decide) dX12_init_762 (fun n108 z109 z110 h112 hh111 => ?_)
    have O113 := O107.pN z109 z110 hh111 (by decide) nn_186100
    have e114 : Tg h106 a0 = 1012 := ((pRT hh105).trans e104)
    have e115 : Tg h112 a0 = 1012 := ((pNT hh111 (pN_n hh111 z110 e114)).trans e114)
    refine gp_RF C fk_LandSurveyModel_284 pk_LandSurveyModel_86 rfl e115 hn rfl (nf_a _ _) dX12_init_764 (fun h117 hh116 => ?_)
    have O118 := O113.pR e115 hh116 (okR_l rE_1012_86 (pN_T hh111) (pN_L hh111))
    refine GW.sub [0] rfl ?_
    have p119 := (NZ_fx ((Fx.rf (wr := [202486]) (h := h112)).pR e115 hh116 rfl) e115 (by decide) (NZ_fx ((Fx.rf (wr := [1000186100]) (h := h106)).pN z110 hh111 rfl) e114 (by decide) (NZ_fx ((Fx.rf (wr := [202485]) (h := h101)).pR e104 hh105 rfl) e104 (by decide) (NZ_fx ((Fx.rf (wr := [1000185100]) (h := h95)).pN z99 hh100 rfl) e103 (by decide) (NZ_fx ((Fx.rf (wr := [202484]) (h := h90)).pR e93 hh94 rfl) e93 (by decide) (NZ_fx ((Fx.rf (wr := [1000184100]) (h := h83)).pN z88 hh89 rfl) e92 (by decide) (NZ_fx ((Fx.rf (wr := [202482]) (h := h78)).pR e81 hh82 rfl) e81 (by decide) (NZ_fx ((Fx.rf (wr := [1000182101]) (h := h67)).pN z76 hh77 rfl) e80 (by decide) p71))))))))
    have e120 : Rv h117 a0 82 = n74 := ((pR_j hh116 (by decide)).trans ((pNR hh111 (pN_n hh111 z110 e114)).trans ((pR_j hh105 (by decide)).trans ((pNR hh100 (pN_n hh100 z99 e103)).trans ((pR_j hh94 (by decide)).trans ((pNR hh89 (pN_n hh89 z88 e92)).trans (pR_e hh82)))))))
    have e121 : Tg h83 n74 = 182101 := ((pRT hh82).trans (pN_T hh77))
    have e122 : Tg h95 n74 = 182101 := ((pRT hh94).trans ((pNT hh89 (pN_n hh89 z88 e121)).trans e121))
    have e123 : Tg h106 n74 = 182101 := ((pRT hh105).trans ((pNT hh100 (pN_n hh100 z99 e122)).trans e122))
    have e124 : Tg h117 n74 = 182101 := ((pRT hh116).trans ((pNT hh111 (pN_n hh111 z110 e123)).trans e123))
    have e125 : Rv h117 a0 84 = n86 := ((pR_j hh116 (by decide)).trans ((pNR hh111 (pN_n hh111 z110 e114)).trans ((pR_j hh105 (by decide)).trans ((pNR hh100 (pN_n hh100 z99 e103)).trans (pR_e hh94)))))
    have e126 : Tg h95 n86 = 184100 := ((pRT hh94).trans (pN_T hh89))
    have e127 : Tg h106 n86 = 184100 := ((pRT hh105).trans ((pNT hh100 (pN_n hh100 z99 e126)).trans e126))
    have e128 : Tg h117 n86 = 184100 := ((pRT hh116).trans ((pNT hh111 (pN_n hh111 z110 e127)).trans e127))
    have e129 : Rv h117 a0 85 = n97 := ((pR_j hh116 (by decide)).trans ((pNR hh111 (pN_n hh111 z110 e114)).trans (pR_e hh105)))
    have e130 : Tg h106 n97 = 185100 := ((pRT hh105).trans (pN_T hh100))
    have e131 : Tg h117 n97 = 185100 := ((pRT hh116).trans ((pNT hh111 (pN_n hh111 z110 e130)).trans e130))
    have e132 : Tg h117 n108 = 186100 := ((pRT hh116).trans (pN_T hh111))
    have p133 := (LZR_fx ((Fx.rf (wr := [202486]) (h := h112)).pR e115 hh116 rfl) e115 rfl (LZR_fx ((Fx.rf (wr := [1000186100]) (h := h106)).pN z110 hh111 rfl) e114 rfl (LZR_fx ((Fx.rf (wr := [202485]) (h := h101)).pR e104 hh105 rfl) e104 rfl (LZR_fx ((Fx.rf (wr := [1000185100]) (h := h95)).pN z99 hh100 rfl) e103 rfl (LZR_fx ((Fx.rf (wr := [202484]) (h := h90)).pR e93 hh94 rfl) e93 rfl (LZR_fx ((Fx.rf (wr := [1000184100]) (h := h83)).pN z88 hh89 rfl) e92 rfl (LZR_fx ((Fx.rf (wr := [202482]) (h := h78)).pR e81 hh82 rfl) e81 rfl (LZR_fx ((Fx.rf (wr := [1000182101]) (h := h67)).pN z76 hh77 rfl) e80 rfl p72))))))))
    have p134 := (ZR82_fx ((Fx.rf (wr := [202486]) (h := h112)).pR e115 hh116 rfl) e115 rfl (ZR82_fx ((Fx.rf (wr := [1000186100]) (h := h106)).pN z110 hh111 rfl) e114 rfl (ZR82_fx ((Fx.rf (wr := [202485]) (h := h101)).pR e104 hh105 rfl) e104 rfl (ZR82_fx ((Fx.rf (wr := [1000185100]) (h := h95)).pN z99 hh100 rfl) e103 rfl (ZR82_fx ((Fx.rf (wr := [202484]) (h := h90)).pR e93 hh94 rfl) e93 rfl (ZR82_fx ((Fx.rf (wr := [1000184100]) (h := h83)).pN z88 hh89 rfl) e92 rfl p85))))))
    exact J2 _ O118 ((((((((((Fx.rf (wr := [202401, 202404, 202405, 202406, 202409, 202411, 202412, 202413, 202414, 202415, 202416, 202417, 202418, 202419, 202420, 202421, 202422, 202423, 202424, 202425, 202426, 202427, 202429, 202430, 202431, 202432, 202434, 202435, 202436, 202437, 202438, 202439, 202441, 202442, 202443, 202444, 202445, 202446, 202447, 202448, 202449, 202450, 202451, 202452, 202453, 202454, 202455, 202456, 202458, 202459, 202460, 202461, 202463, 202464, 202465, 202466, 202467, 202468, 202470, 202471, 202472, 202473, 202474, 202475, 202476, 202481, 202482, 202484, 202485, 202486, 21820400, 27220000, 27420200, 27820000, 1000101100, 1000104100, 1000105100, 1000106102, 1000109102, 1000111100, 1000112100, 1000113102, 1000114100, 1000115100, 1000116101, 1000117101, 1000118101, 1000119100, 1000120101, 1000121100, 1000122100, 1000123100, 1000124100, 1000125100, 1000126100, 1000127100, 1000129100, 1000130100, 1000131100, 1000132100, 1000136100, 1000137101, 1000138101, 1000139100, 1000141100, 1000142100, 1000143100, 1000144100, 1000145100, 1000146100, 1000147100, 1000148100, 1000149100, 1000150100, 1000151100, 1000152101, 1000153101, 1000154100, 1000155100, 1000156100, 1000158101, 1000159100, 1000160100, 1000161100, 1000163100, 1000164100, 1000165100, 1000166100, 1000167100, 1000168100, 1000170101, 1000171100, 1000172102, 1000173101, 1000174101, 1000175100, 1000176100, 1000181100, 1000182101, 1000184100, 1000185100, 1000186100]) (h := h)).call F70 rfl).pN z76 hh77 rfl).pR e81 hh82 rfl).pN z88 hh89 rfl).pR e93 hh94 rfl).pN z99 hh100 rfl).pR e104 hh105 rfl).pN z110 hh111 rfl).pR e115 hh116 rfl) (NZ_cons (by rw [(pR_e hh116)]; exact nz_of O118 e132) (NZ_cons (by rw [e129]; exact nz_of O118 e131) (NZ_cons (by rw [e125]; exact nz_of O118 e128) (NZ_cons (by rw [e120]; exact nz_of O118 e124) p119)))) p133 p134
  have J136 : ∀ (h135 : Hp), Okh h135 → Fx [202401, 202404, 202405, 202406, 202409, 202411, 202412, 202413, 202414, 202415, 202416, 202417, 202418, 202419, 202420, 202421, 202422, 202423, 202424, 202425, 202426, 202427, 202429, 202430, 202431, 202432, 202434, 202435, 202436, 202437, 202438, 202439, 202441, 202442, 202443, 202444, 202445, 202446, 202447, 202448, 202449, 202450, 202451, 202452, 202453, 202454, 202455, 202456, 202458, 202459, 202460, 202461, 202463, 202464, 202465, 202466, 202467, 202468, 202470, 202471, 202472, 202473, 202474, 202475, 202476, 202481, 202482, 202484, 202485, 202486, 21820400, 27220000, 27420200, 27820000, 1000101100, 1000104100, 1000105100, 1000106102, 1000109102, 1000111100, 1000112100, 1000113102, 1000114100, 1000115100, 1000116101, 1000117101, 1000118101, 1000119100, 1000120101, 1000121100, 1000122100, 1000123100, 1000124100, 1000125100, 1000126100, 1000127100, 1000129100, 1000130100, 1000131100, 1000132100, 1000136100, 1000137101, 1000138101, 1000139100, 1000141100, 1000142100, 1000143100, 1000144100, 1000145100, 1000146100, 1000147100, 1000148100, 1000149100, 1000150100, 1000151100, 1000152101, 1000153101, 1000154100, 1000155100, 1000156100, 1000158101, 1000159100, 1000160100, 1000161100, 1000163100, 1000164100, 1000165100, 1000166100, 1000167100, 1000168100, 1000170101, 1000171100, 1000172102, 1000173101, 1000174101, 1000175100, 1000176100, 1000181100, 1000182101, 1000184100, 1000185100, 1000186100] h h135 → NZ h135 a0 [68, 67, 66, 65, 64, 63, 61, 60, 59, 58, 56, 55, 54, 53, 52, 51, 50, 49, 48, 47, 46, 45, 44, 43, 42, 41, 39, 38, 37, 36, 32, 31, 30, 29, 27, 26, 25, 24, 23, 22, 21, 20, 19, 18, 17, 16, 15, 14, 13, 12, 11, 9, 6, 5, 4, 1] → LZR h135 a0 → GW p l e (rmm 1 24 68 46508) s m (List.map toV [.inr (.inr a0)]).toArray below meth c D cy z0 2 (MQ below (QV D cy z0 (fun h1 => Okh h1 ∧ Fx wr_k3_X12_init h h1 ∧ (¬ Rv h1 a0 1 = 0) ∧ (¬ Rv h1 a0 4 = 0) ∧ (¬ Rv h1 a0 5 = 0) ∧ (¬ Rv h1 a0 6 = 0) ∧ (¬ Rv h1 a0 9 = 0) ∧ (¬ Rv h1 a0 11 = 0) ∧ (¬ Rv h1 a0 12 = 0) ∧ (¬ Rv h1 a0 13 = 0) ∧ (¬ Rv h1 a0 14 = 0) ∧ (¬ Rv h1 a0 15 = 0) ∧ (¬ Rv h1 a0 16 = 0) ∧ (¬ Rv h1 a0 17 = 0) ∧ (¬ Rv h1 a0 18 = 0) ∧ (¬ Rv h1 a0 19 = 0) ∧ (¬ Rv h1 a0 20 = 0) ∧ (¬ Rv h1 a0 21 = 0) ∧ (¬ Rv h1 a0 22 = 0) ∧ (¬ Rv h1 a0 23 = 0) ∧ (¬ Rv h1 a0 24 = 0) ∧ (¬ Rv h1 a0 25 = 0) ∧ (¬ Rv h1 a0 26 = 0) ∧ (¬ Rv h1 a0 27 = 0) ∧ (¬ Rv h1 a0 29 = 0) ∧ (¬ Rv h1 a0 30 = 0) ∧ (¬ Rv h1 a0 31 = 0) ∧ (¬ Rv h1 a0 32 = 0) ∧ (¬ Rv h1 a0 36 = 0) ∧ (¬ Rv h1 a0 37 = 0) ∧ (¬ Rv h1 a0 38 = 0) ∧ (¬ Rv h1 a0 39 = 0) ∧ (¬ Rv h1 a0 41 = 0) ∧ (¬ Rv h1 a0 42 = 0) ∧ (¬ Rv h1 a0 43 = 0) ∧ (¬ Rv h1 a0 44 = 0) ∧ (¬ Rv h1 a0 45 = 0) ∧ (¬ Rv h1 a0 46 = 0) ∧ (¬ Rv h1 a0 47 = 0) ∧ (¬ Rv h1 a0 48 = 0) ∧ (¬ Rv h1 a0 49 = 0) ∧ (¬ Rv h1 a0 50 = 0) ∧ (¬ Rv h1 a0 51 = 0) ∧ (¬ Rv h1 a0 52 = 0) ∧ (¬ Rv h1 a0 53 = 0) ∧ (¬ Rv h1 a0 54 = 0) ∧ (¬ Rv h1 a0 55 = 0) ∧ (¬ Rv h1 a0 56 = 0) ∧ (¬ Rv h1 a0 58 = 0) ∧ (¬ Rv h1 a0 59 = 0) ∧ (¬ Rv h1 a0 60 = 0) ∧ (¬ Rv h1 a0 61 = 0) ∧ (¬ Rv h1 a0 63 = 0) ∧ (¬ Rv h1 a0 64 = 0) ∧ (¬ Rv h1 a0 65 = 0) ∧ (¬ Rv h1 a0 66 = 0) ∧ (¬ Rv h1 a0 67 = 0) ∧ (¬ Rv h1 a0 68 = 0) ∧ (¬ Rv h1 a0 70 = 0) ∧ (¬ Rv h1 a0 71 = 0) ∧ (¬ Rv h1 a0 72 = 0) ∧ (¬ Rv h1 a0 73 = 0) ∧ (¬ Rv h1 a0 74 = 0) ∧ (¬ Rv h1 a0 75 = 0) ∧ (¬ Rv h1 a0 76 = 0) ∧ (¬ Rv h1 a0 81 = 0) ∧ (¬ Rv h1 a0 82 = 0) ∧ (¬ Rv h1 a0 84 = 0) ∧ (¬ Rv h1 a0 85 = 0) ∧ (¬ Rv h1 a0 86 = 0) ∧ (MInv h1 a0) ∧ (Qm 82 h1 a0 = zer1))) (List.map toV [.inr (.inr a0)]).toArray s 68 46508 (Aof z0)) 668 [(0, .inr (.inr a0))] [] h135 56 42187 := by
    intro h135 O137 F138 p139 p140
    refine g_aload_n C rfl 0 rfl dX12_init_668 ?_
    refine g_bipush C (by decide) dX12_init_669 ?_
    refine g_newa (atype := .boolean) (t := 1) (ty := .boolean) (N := 16) C 170101 rfl (iw (il 16) (by decide) (by decide)) (by decide) rfl kw_225 rfl (fun _ => rfl) (by decide) (by decide) (by decide) (by decide) dX12_init_671 (fun n142 z143 z144 h146 hh145 => ?_)
    have O147 := O137.pN z143 z144 hh145 (by decide) nn_170101
    have e148 : Tg h135 a0 = 1012 := (fxT F138 ta0)
    have e149 : Tg h146 a0 = 1012 := ((pNT hh145 (pN_n hh145 z144 e148)).trans e148)
    refine gp_RF C fk_LandSurveyModel_251 pk_LandSurveyModel_70 rfl e149 hn rfl (nf_a _ _) dX12_init_673 (fun h151 hh150 => ?_)
    have O152 := O147.pR e149 hh150 (okR_l rE_1012_70 (pN_T hh145) (pN_L hh145))
    refine g_aload_n C rfl 0 rfl dX12_init_676 ?_
    refine g_bipush C (by decide) dX12_init_677 ?_
    refine g_newa (atype := .int) (t := 0) (ty := .int) (N := 16) C 171100 rfl (iw (il 16) (by decide) (by decide)) (by decide) rfl kw_224 rfl (fun _ => rfl) (by decide) (by decide) (by decide) (by decide) dX12_init_679 (fun n153 z154 z155 h157 hh156 => ?_)
    have O158 := O152.pN z154 z155 hh156 (by decide) nn_171100
    have e159 : Tg h151 a0 = 1012 := ((pRT hh150).trans e149)
    have e160 : Tg h157 a0 = 1012 := ((pNT hh156 (pN_n hh156 z155 e159)).trans e159)
    refine gp_RF C fk_LandSurveyModel_254 pk_LandSurveyModel_71 rfl e160 hn rfl (nf_a _ _) dX12_init_681 (fun h162 hh161 => ?_)
    have O163 := O158.pR e160 hh161 (okR_l rE_1012_71 (pN_T hh156) (pN_L hh156))
    refine g_aload_n C rfl 0 rfl dX12_init_684 ?_
    refine g_bipush C (by decide) dX12_init_685 ?_
    refine g_newa (atype := .long) (t := 2) (ty := .long) (N := 16) C 172102 rfl (iw (il 16) (by decide) (by decide)) (by decide) rfl kw_376 rfl (fun _ => rfl) (by decide) (by decide) (by decide) (by decide) dX12_init_687 (fun n164 z165 z166 h168 hh167 => ?_)
    have O169 := O163.pN z165 z166 hh167 (by decide) nn_172102
    have e170 : Tg h162 a0 = 1012 := ((pRT hh161).trans e160)
    have e171 : Tg h168 a0 = 1012 := ((pNT hh167 (pN_n hh167 z166 e170)).trans e170)
    refine gp_RF C fk_LandSurveyModel_257 pk_LandSurveyModel_72 rfl e171 hn rfl (nf_a _ _) dX12_init_689 (fun h173 hh172 => ?_)
    have O174 := O169.pR e171 hh172 (okR_l rE_1012_72 (pN_T hh167) (pN_L hh167))
    refine g_aload_n C rfl 0 rfl dX12_init_692 ?_
    refine g_bipush C (by decide) dX12_init_693 ?_
    refine g_newa (atype := .boolean) (t := 1) (ty := .boolean) (N := 16) C 173101 rfl (iw (il 16) (by decide) (by decide)) (by decide) rfl kw_225 rfl (fun _ => rfl) (by decide) (by decide) (by decide) (by decide) dX12_init_695 (fun n175 z176 z177 h179 hh178 => ?_)
    have O180 := O174.pN z176 z177 hh178 (by decide) nn_173101
    have e181 : Tg h173 a0 = 1012 := ((pRT hh172).trans e171)
    have e182 : Tg h179 a0 = 1012 := ((pNT hh178 (pN_n hh178 z177 e181)).trans e181)
    refine gp_RF C fk_LandSurveyModel_260 pk_LandSurveyModel_73 rfl e182 hn rfl (nf_a _ _) dX12_init_697 (fun h184 hh183 => ?_)
    have O185 := O180.pR e182 hh183 (okR_l rE_1012_73 (pN_T hh178) (pN_L hh178))
    refine g_aload_n C rfl 0 rfl dX12_init_700 ?_
    refine g_bipush C (by decide) dX12_init_701 ?_
    refine g_newa (atype := .boolean) (t := 1) (ty := .boolean) (N := 16) C 174101 rfl (iw (il 16) (by decide) (by decide)) (by decide) rfl kw_225 rfl (fun _ => rfl) (by decide) (by decide) (by decide) (by decide) dX12_init_703 (fun n186 z187 z188 h190 hh189 => ?_)
    have O191 := O185.pN z187 z188 hh189 (by decide) nn_174101
    have e192 : Tg h184 a0 = 1012 := ((pRT hh183).trans e182)
    have e193 : Tg h190 a0 = 1012 := ((pNT hh189 (pN_n hh189 z188 e192)).trans e192)
    refine gp_RF C fk_LandSurveyModel_263 pk_LandSurveyModel_74 rfl e193 hn rfl (nf_a _ _) dX12_init_705 (fun h195 hh194 => ?_)
    have O196 := O191.pR e193 hh194 (okR_l rE_1012_74 (pN_T hh189) (pN_L hh189))
    refine g_aload_n C rfl 0 rfl dX12_init_708 ?_
    refine g_sipush C (by decide) dX12_init_709 ?_
    refine g_newa (atype := .int) (t := 0) (ty := .int) (N := 1536) C 175100 rfl (iw (il 1536) (by decide) (by decide)) (by decide) rfl kw_224 rfl (fun _ => rfl) (by decide) (by decide) (by decide) (by decide) dX12_init_712 (fun n197 z198 z199 h201 hh200 => ?_)
    have O202 := O196.pN z198 z199 hh200 (by decide) nn_175100
    have e203 : Tg h195 a0 = 1012 := ((pRT hh194).trans e193)
    have e204 : Tg h201 a0 = 1012 := ((pNT hh200 (pN_n hh200 z199 e203)).trans e203)
    refine gp_RF C fk_LandSurveyModel_266 pk_LandSurveyModel_75 rfl e204 hn rfl (nf_a _ _) dX12_init_714 (fun h206 hh205 => ?_)
    have O207 := O202.pR e204 hh205 (okR_l rE_1012_75 (pN_T hh200) (pN_L hh200))
    refine g_aload_n C rfl 0 rfl dX12_init_717 ?_
    refine g_sipush C (by decide) dX12_init_718 ?_
    refine g_newa (atype := .int) (t := 0) (ty := .int) (N := 1536) C 176100 rfl (iw (il 1536) (by decide) (by decide)) (by decide) rfl kw_224 rfl (fun _ => rfl) (by decide) (by decide) (by decide) (by decide) dX12_init_721 (fun n208 z209 z210 h212 hh211 => ?_)
    have O213 := O207.pN z209 z210 hh211 (by decide) nn_176100
    have e214 : Tg h206 a0 = 1012 := ((pRT hh205).trans e204)
    have e215 : Tg h212 a0 = 1012 := ((pNT hh211 (pN_n hh211 z210 e214)).trans e214)
    refine gp_RF C fk_LandSurveyModel_269 pk_LandSurveyModel_76 rfl e215 hn rfl (nf_a _ _) dX12_init_723 (fun h217 hh216 => ?_)
    have O218 := O213.pR e215 hh216 (okR_l rE_1012_76 (pN_T hh211) (pN_L hh211))
    refine g_aload_n C rfl 0 rfl dX12_init_726 ?_
    refine g_sipush C (by decide) dX12_init_727 ?_
    refine g_newa (atype := .int) (t := 0) (ty := .int) (N := 960) C 181100 rfl (iw (il 960) (by decide) (by decide)) (by decide) rfl kw_224 rfl (fun _ => rfl) (by decide) (by decide) (by decide) (by decide) dX12_init_730 (fun n219 z220 z221 h223 hh222 => ?_)
    have O224 := O218.pN z220 z221 hh222 (by decide) nn_181100
    have e225 : Tg h217 a0 = 1012 := ((pRT hh216).trans e215)
    have e226 : Tg h223 a0 = 1012 := ((pNT hh222 (pN_n hh222 z221 e225)).trans e225)
    refine gp_RF C fk_LandSurveyModel_272 pk_LandSurveyModel_81 rfl e226 hn rfl (nf_a _ _) dX12_init_732 (fun h228 hh227 => ?_)
    have O229 := O224.pR e226 hh227 (okR_l rE_1012_81 (pN_T hh222) (pN_L hh222))
    refine GW.sub [0] rfl ?_
    have p230 := (NZ_fx ((Fx.rf (wr := [202481]) (h := h223)).pR e226 hh227 rfl) e226 (by decide) (NZ_fx ((Fx.rf (wr := [1000181100]) (h := h217)).pN z221 hh222 rfl) e225 (by decide) (NZ_fx ((Fx.rf (wr := [202476]) (h := h212)).pR e215 hh216 rfl) e215 (by decide) (NZ_fx ((Fx.rf (wr := [1000176100]) (h := h206)).pN z210 hh211 rfl) e214 (by decide) (NZ_fx ((Fx.rf (wr := [202475]) (h := h201)).pR e204 hh205 rfl) e204 (by decide) (NZ_fx ((Fx.rf (wr := [1000175100]) (h := h195)).pN z199 hh200 rfl) e203 (by decide) (NZ_fx ((Fx.rf (wr := [202474]) (h := h190)).pR e193 hh194 rfl) e193 (by decide) (NZ_fx ((Fx.rf (wr := [1000174101]) (h := h184)).pN z188 hh189 rfl) e192 (by decide) (NZ_fx ((Fx.rf (wr := [202473]) (h := h179)).pR e182 hh183 rfl) e182 (by decide) (NZ_fx ((Fx.rf (wr := [1000173101]) (h := h173)).pN z177 hh178 rfl) e181 (by decide) (NZ_fx ((Fx.rf (wr := [202472]) (h := h168)).pR e171 hh172 rfl) e171 (by decide) (NZ_fx ((Fx.rf (wr := [1000172102]) (h := h162)).pN z166 hh167 rfl) e170 (by decide) (NZ_fx ((Fx.rf (wr := [202471]) (h := h157)).pR e160 hh161 rfl) e160 (by decide) (NZ_fx ((Fx.rf (wr := [1000171100]) (h := h151)).pN z155 hh156 rfl) e159 (by decide) (NZ_fx ((Fx.rf (wr := [202470]) (h := h146)).pR e149 hh150 rfl) e149 (by decide) (NZ_fx ((Fx.rf (wr := [1000170101]) (h := h135)).pN z144 hh145 rfl) e148 (by decide) p139))))))))))))))))
    have e231 : Rv h228 a0 70 = n142 := ((pR_j hh227 (by decide)).trans ((pNR hh222 (pN_n hh222 z221 e225)).trans ((pR_j hh216 (by decide)).trans ((pNR hh211 (pN_n hh211 z210 e214)).trans ((pR_j hh205 (by decide)).trans ((pNR hh200 (pN_n hh200 z199 e203)).trans ((pR_j hh194 (by decide)).trans ((pNR hh189 (pN_n hh189 z188 e192)).trans ((pR_j hh183 (by decide)).trans ((pNR hh178 (pN_n hh178 z177 e181)).trans ((pR_j hh172 (by decide)).trans ((pNR hh167 (pN_n hh167 z166 e170)).trans ((pR_j hh161 (by decide)).trans ((pNR hh156 (pN_n hh156 z155 e159)).trans (pR_e hh150)))))))))))))))
    have e232 : Tg h151 n142 = 170101 := ((pRT hh150).trans (pN_T hh145))
    have e233 : Tg h162 n142 = 170101 := ((pRT hh161).trans ((pNT hh156 (pN_n hh156 z155 e232)).trans e232))
    have e234 : Tg h173 n142 = 170101 := ((pRT hh172).trans ((pNT hh167 (pN_n hh167 z166 e233)).trans e233))
    have e235 : Tg h184 n142 = 170101 := ((pRT hh183).trans ((pNT hh178 (pN_n hh178 z177 e234)).trans e234))
    have e236 : Tg h195 n142 = 170101 := ((pRT hh194).trans ((pNT hh189 (pN_n hh189 z188 e235)).trans e235))
    have e237 : Tg h206 n142 = 170101 := ((pRT hh205).trans ((pNT hh200 (pN_n hh200 z199 e236)).trans e236))
    have e238 : Tg h217 n142 = 170101 := ((pRT hh216).trans ((pNT hh211 (pN_n hh211 z210 e237)).trans e237))
    have e239 : Tg h228 n142 = 170101 := ((pRT hh227).trans ((pNT hh222 (pN_n hh222 z221 e238)).trans e238))
    have e240 : Rv h228 a0 71 = n153 := ((pR_j hh227 (by decide)).trans ((pNR hh222 (pN_n hh222 z221 e225)).trans ((pR_j hh216 (by decide)).trans ((pNR hh211 (pN_n hh211 z210 e214)).trans ((pR_j hh205 (by decide)).trans ((pNR hh200 (pN_n hh200 z199 e203)).trans ((pR_j hh194 (by decide)).trans ((pNR hh189 (pN_n hh189 z188 e192)).trans ((pR_j hh183 (by decide)).trans ((pNR hh178 (pN_n hh178 z177 e181)).trans ((pR_j hh172 (by decide)).trans ((pNR hh167 (pN_n hh167 z166 e170)).trans (pR_e hh161)))))))))))))
    have e241 : Tg h162 n153 = 171100 := ((pRT hh161).trans (pN_T hh156))
    have e242 : Tg h173 n153 = 171100 := ((pRT hh172).trans ((pNT hh167 (pN_n hh167 z166 e241)).trans e241))
    have e243 : Tg h184 n153 = 171100 := ((pRT hh183).trans ((pNT hh178 (pN_n hh178 z177 e242)).trans e242))
    have e244 : Tg h195 n153 = 171100 := ((pRT hh194).trans ((pNT hh189 (pN_n hh189 z188 e243)).trans e243))
    have e245 : Tg h206 n153 = 171100 := ((pRT hh205).trans ((pNT hh200 (pN_n hh200 z199 e244)).trans e244))
    have e246 : Tg h217 n153 = 171100 := ((pRT hh216).trans ((pNT hh211 (pN_n hh211 z210 e245)).trans e245))
    have e247 : Tg h228 n153 = 171100 := ((pRT hh227).trans ((pNT hh222 (pN_n hh222 z221 e246)).trans e246))
    have e248 : Rv h228 a0 72 = n164 := ((pR_j hh227 (by decide)).trans ((pNR hh222 (pN_n hh222 z221 e225)).trans ((pR_j hh216 (by decide)).trans ((pNR hh211 (pN_n hh211 z210 e214)).trans ((pR_j hh205 (by decide)).trans ((pNR hh200 (pN_n hh200 z199 e203)).trans ((pR_j hh194 (by decide)).trans ((pNR hh189 (pN_n hh189 z188 e192)).trans ((pR_j hh183 (by decide)).trans ((pNR hh178 (pN_n hh178 z177 e181)).trans (pR_e hh172)))))))))))
    have e249 : Tg h173 n164 = 172102 := ((pRT hh172).trans (pN_T hh167))
    have e250 : Tg h184 n164 = 172102 := ((pRT hh183).trans ((pNT hh178 (pN_n hh178 z177 e249)).trans e249))
    have e251 : Tg h195 n164 = 172102 := ((pRT hh194).trans ((pNT hh189 (pN_n hh189 z188 e250)).trans e250))
    have e252 : Tg h206 n164 = 172102 := ((pRT hh205).trans ((pNT hh200 (pN_n hh200 z199 e251)).trans e251))
    have e253 : Tg h217 n164 = 172102 := ((pRT hh216).trans ((pNT hh211 (pN_n hh211 z210 e252)).trans e252))
    have e254 : Tg h228 n164 = 172102 := ((pRT hh227).trans ((pNT hh222 (pN_n hh222 z221 e253)).trans e253))
    have e255 : Rv h228 a0 73 = n175 := ((pR_j hh227 (by decide)).trans ((pNR hh222 (pN_n hh222 z221 e225)).trans ((pR_j hh216 (by decide)).trans ((pNR hh211 (pN_n hh211 z210 e214)).trans ((pR_j hh205 (by decide)).trans ((pNR hh200 (pN_n hh200 z199 e203)).trans ((pR_j hh194 (by decide)).trans ((pNR hh189 (pN_n hh189 z188 e192)).trans (pR_e hh183)))))))))
    have e256 : Tg h184 n175 = 173101 := ((pRT hh183).trans (pN_T hh178))
    have e257 : Tg h195 n175 = 173101 := ((pRT hh194).trans ((pNT hh189 (pN_n hh189 z188 e256)).trans e256))
    have e258 : Tg h206 n175 = 173101 := ((pRT hh205).trans ((pNT hh200 (pN_n hh200 z199 e257)).trans e257))
    have e259 : Tg h217 n175 = 173101 := ((pRT hh216).trans ((pNT hh211 (pN_n hh211 z210 e258)).trans e258))
    have e260 : Tg h228 n175 = 173101 := ((pRT hh227).trans ((pNT hh222 (pN_n hh222 z221 e259)).trans e259))
    have e261 : Rv h228 a0 74 = n186 := ((pR_j hh227 (by decide)).trans ((pNR hh222 (pN_n hh222 z221 e225)).trans ((pR_j hh216 (by decide)).trans ((pNR hh211 (pN_n hh211 z210 e214)).trans ((pR_j hh205 (by decide)).trans ((pNR hh200 (pN_n hh200 z199 e203)).trans (pR_e hh194)))))))
    have e262 : Tg h195 n186 = 174101 := ((pRT hh194).trans (pN_T hh189))
    have e263 : Tg h206 n186 = 174101 := ((pRT hh205).trans ((pNT hh200 (pN_n hh200 z199 e262)).trans e262))
    have e264 : Tg h217 n186 = 174101 := ((pRT hh216).trans ((pNT hh211 (pN_n hh211 z210 e263)).trans e263))
    have e265 : Tg h228 n186 = 174101 := ((pRT hh227).trans ((pNT hh222 (pN_n hh222 z221 e264)).trans e264))
    have e266 : Rv h228 a0 75 = n197 := ((pR_j hh227 (by decide)).trans ((pNR hh222 (pN_n hh222 z221 e225)).trans ((pR_j hh216 (by decide)).trans ((pNR hh211 (pN_n hh211 z210 e214)).trans (pR_e hh205)))))
    have e267 : Tg h206 n197 = 175100 := ((pRT hh205).trans (pN_T hh200))
    have e268 : Tg h217 n197 = 175100 := ((pRT hh216).trans ((pNT hh211 (pN_n hh211 z210 e267)).trans e267))
    have e269 : Tg h228 n197 = 175100 := ((pRT hh227).trans ((pNT hh222 (pN_n hh222 z221 e268)).trans e268))
    have e270 : Rv h228 a0 76 = n208 := ((pR_j hh227 (by decide)).trans ((pNR hh222 (pN_n hh222 z221 e225)).trans (pR_e hh216)))
    have e271 : Tg h217 n208 = 176100 := ((pRT hh216).trans (pN_T hh211))
    have e272 : Tg h228 n208 = 176100 := ((pRT hh227).trans ((pNT hh222 (pN_n hh222 z221 e271)).trans e271))
    have e273 : Tg h228 n219 = 181100 := ((pRT hh227).trans (pN_T hh222))
    have p274 := (LZR_fx ((Fx.rf (wr := [202481]) (h := h223)).pR e226 hh227 rfl) e226 rfl (LZR_fx ((Fx.rf (wr := [1000181100]) (h := h217)).pN z221 hh222 rfl) e225 rfl (LZR_fx ((Fx.rf (wr := [202476]) (h := h212)).pR e215 hh216 rfl) e215 rfl (LZR_fx ((Fx.rf (wr := [1000176100]) (h := h206)).pN z210 hh211 rfl) e214 rfl (LZR_fx ((Fx.rf (wr := [202475]) (h := h201)).pR e204 hh205 rfl) e204 rfl (LZR_fx ((Fx.rf (wr := [1000175100]) (h := h195)).pN z199 hh200 rfl) e203 rfl (LZR_fx ((Fx.rf (wr := [202474]) (h := h190)).pR e193 hh194 rfl) e193 rfl (LZR_fx ((Fx.rf (wr := [1000174101]) (h := h184)).pN z188 hh189 rfl) e192 rfl (LZR_fx ((Fx.rf (wr := [202473]) (h := h179)).pR e182 hh183 rfl) e182 rfl (LZR_fx ((Fx.rf (wr := [1000173101]) (h := h173)).pN z177 hh178 rfl) e181 rfl (LZR_fx ((Fx.rf (wr := [202472]) (h := h168)).pR e171 hh172 rfl) e171 rfl (LZR_fx ((Fx.rf (wr := [1000172102]) (h := h162)).pN z166 hh167 rfl) e170 rfl (LZR_fx ((Fx.rf (wr := [202471]) (h := h157)).pR e160 hh161 rfl) e160 rfl (LZR_fx ((Fx.rf (wr := [1000171100]) (h := h151)).pN z155 hh156 rfl) e159 rfl (LZR_fx ((Fx.rf (wr := [202470]) (h := h146)).pR e149 hh150 rfl) e149 rfl (LZR_fx ((Fx.rf (wr := [1000170101]) (h := h135)).pN z144 hh145 rfl) e148 rfl p140))))))))))))))))
    exact J68 _ O229 ((((((((((((((((((Fx.rf (wr := [202401, 202404, 202405, 202406, 202409, 202411, 202412, 202413, 202414, 202415, 202416, 202417, 202418, 202419, 202420, 202421, 202422, 202423, 202424, 202425, 202426, 202427, 202429, 202430, 202431, 202432, 202434, 202435, 202436, 202437, 202438, 202439, 202441, 202442, 202443, 202444, 202445, 202446, 202447, 202448, 202449, 202450, 202451, 202452, 202453, 202454, 202455, 202456, 202458, 202459, 202460, 202461, 202463, 202464, 202465, 202466, 202467, 202468, 202470, 202471, 202472, 202473, 202474, 202475, 202476, 202481, 202482, 202484, 202485, 202486, 21820400, 27220000, 27420200, 27820000, 1000101100, 1000104100, 1000105100, 1000106102, 1000109102, 1000111100, 1000112100, 1000113102, 1000114100, 1000115100, 1000116101, 1000117101, 1000118101, 1000119100, 1000120101, 1000121100, 1000122100, 1000123100, 1000124100, 1000125100, 1000126100, 1000127100, 1000129100, 1000130100, 1000131100, 1000132100, 1000136100, 1000137101, 1000138101, 1000139100, 1000141100, 1000142100, 1000143100, 1000144100, 1000145100, 1000146100, 1000147100, 1000148100, 1000149100, 1000150100, 1000151100, 1000152101, 1000153101, 1000154100, 1000155100, 1000156100, 1000158101, 1000159100, 1000160100, 1000161100, 1000163100, 1000164100, 1000165100, 1000166100, 1000167100, 1000168100, 1000170101, 1000171100, 1000172102, 1000173101, 1000174101, 1000175100, 1000176100, 1000181100, 1000182101, 1000184100, 1000185100, 1000186100]) (h := h)).call F138 rfl).pN z144 hh145 rfl).pR e149 hh150 rfl).pN z155 hh156 rfl).pR e160 hh161 rfl).pN z166 hh167 rfl).pR e171 hh172 rfl).pN z177 hh178 rfl).pR e182 hh183 rfl).pN z188 hh189 rfl).pR e193 hh194 rfl).pN z199 hh200 rfl).pR e204 hh205 rfl).pN z210 hh211 rfl).pR e215 hh216 rfl).pN z221 hh222 rfl).pR e226 hh227 rfl) (NZ_cons (by rw [(pR_e hh227)]; exact nz_of O229 e273) (NZ_cons (by rw [e270]; exact nz_of O229 e272) (NZ_cons (by rw [e266]; exact nz_of O229 e269) (NZ_cons (by rw [e261]; exact nz_of O229 e265) (NZ_cons (by rw [e255]; exact nz_of O229 e260) (NZ_cons (by rw [e248]; exact nz_of O229 e254) (NZ_cons (by rw [e240]; exact nz_of O229 e247) (NZ_cons (by rw [e231]; exact nz_of O229 e239) p230)))))))) p274
  have J276 : ∀ (h275 : Hp), Okh h275 → Fx [202401, 202404, 202405, 202406, 202409, 202411, 202412, 202413, 202414, 202415, 202416, 202417, 202418, 202419, 202420, 202421, 202422, 202423, 202424, 202425, 202426, 202427, 202429, 202430, 202431, 202432, 202434, 202435, 202436, 202437, 202438, 202439, 202441, 202442, 202443, 202444, 202445, 202446, 202447, 202448, 202449, 202450, 202451, 202452, 202453, 202454, 202455, 202456, 202458, 202459, 202460, 202461, 202463, 202464, 202465, 202466, 202467, 202468, 202470, 202471, 202472, 202473, 202474, 202475, 202476, 202481, 202482, 202484, 202485, 202486, 21820400, 27220000, 27420200, 27820000, 1000101100, 1000104100, 1000105100, 1000106102, 1000109102, 1000111100, 1000112100, 1000113102, 1000114100, 1000115100, 1000116101, 1000117101, 1000118101, 1000119100, 1000120101, 1000121100, 1000122100, 1000123100, 1000124100, 1000125100, 1000126100, 1000127100, 1000129100, 1000130100, 1000131100, 1000132100, 1000136100, 1000137101, 1000138101, 1000139100, 1000141100, 1000142100, 1000143100, 1000144100, 1000145100, 1000146100, 1000147100, 1000148100, 1000149100, 1000150100, 1000151100, 1000152101, 1000153101, 1000154100, 1000155100, 1000156100, 1000158101, 1000159100, 1000160100, 1000161100, 1000163100, 1000164100, 1000165100, 1000166100, 1000167100, 1000168100, 1000170101, 1000171100, 1000172102, 1000173101, 1000174101, 1000175100, 1000176100, 1000181100, 1000182101, 1000184100, 1000185100, 1000186100] h h275 → NZ h275 a0 [59, 58, 56, 55, 54, 53, 52, 51, 50, 49, 48, 47, 46, 45, 44, 43, 42, 41, 39, 38, 37, 36, 32, 31, 30, 29, 27, 26, 25, 24, 23, 22, 21, 20, 19, 18, 17, 16, 15, 14, 13, 12, 11, 9, 6, 5, 4, 1] → LZR h275 a0 → GW p l e (rmm 1 24 68 46508) s m (List.map toV [.inr (.inr a0)]).toArray below meth c D cy z0 2 (MQ below (QV D cy z0 (fun h1 => Okh h1 ∧ Fx wr_k3_X12_init h h1 ∧ (¬ Rv h1 a0 1 = 0) ∧ (¬ Rv h1 a0 4 = 0) ∧ (¬ Rv h1 a0 5 = 0) ∧ (¬ Rv h1 a0 6 = 0) ∧ (¬ Rv h1 a0 9 = 0) ∧ (¬ Rv h1 a0 11 = 0) ∧ (¬ Rv h1 a0 12 = 0) ∧ (¬ Rv h1 a0 13 = 0) ∧ (¬ Rv h1 a0 14 = 0) ∧ (¬ Rv h1 a0 15 = 0) ∧ (¬ Rv h1 a0 16 = 0) ∧ (¬ Rv h1 a0 17 = 0) ∧ (¬ Rv h1 a0 18 = 0) ∧ (¬ Rv h1 a0 19 = 0) ∧ (¬ Rv h1 a0 20 = 0) ∧ (¬ Rv h1 a0 21 = 0) ∧ (¬ Rv h1 a0 22 = 0) ∧ (¬ Rv h1 a0 23 = 0) ∧ (¬ Rv h1 a0 24 = 0) ∧ (¬ Rv h1 a0 25 = 0) ∧ (¬ Rv h1 a0 26 = 0) ∧ (¬ Rv h1 a0 27 = 0) ∧ (¬ Rv h1 a0 29 = 0) ∧ (¬ Rv h1 a0 30 = 0) ∧ (¬ Rv h1 a0 31 = 0) ∧ (¬ Rv h1 a0 32 = 0) ∧ (¬ Rv h1 a0 36 = 0) ∧ (¬ Rv h1 a0 37 = 0) ∧ (¬ Rv h1 a0 38 = 0) ∧ (¬ Rv h1 a0 39 = 0) ∧ (¬ Rv h1 a0 41 = 0) ∧ (¬ Rv h1 a0 42 = 0) ∧ (¬ Rv h1 a0 43 = 0) ∧ (¬ Rv h1 a0 44 = 0) ∧ (¬ Rv h1 a0 45 = 0) ∧ (¬ Rv h1 a0 46 = 0) ∧ (¬ Rv h1 a0 47 = 0) ∧ (¬ Rv h1 a0 48 = 0) ∧ (¬ Rv h1 a0 49 = 0) ∧ (¬ Rv h1 a0 50 = 0) ∧ (¬ Rv h1 a0 51 = 0) ∧ (¬ Rv h1 a0 52 = 0) ∧ (¬ Rv h1 a0 53 = 0) ∧ (¬ Rv h1 a0 54 = 0) ∧ (¬ Rv h1 a0 55 = 0) ∧ (¬ Rv h1 a0 56 = 0) ∧ (¬ Rv h1 a0 58 = 0) ∧ (¬ Rv h1 a0 59 = 0) ∧ (¬ Rv h1 a0 60 = 0) ∧ (¬ Rv h1 a0 61 = 0) ∧ (¬ Rv h1 a0 63 = 0) ∧ (¬ Rv h1 a0 64 = 0) ∧ (¬ Rv h1 a0 65 = 0) ∧ (¬ Rv h1 a0 66 = 0) ∧ (¬ Rv h1 a0 67 = 0) ∧ (¬ Rv h1 a0 68 = 0) ∧ (¬ Rv h1 a0 70 = 0) ∧ (¬ Rv h1 a0 71 = 0) ∧ (¬ Rv h1 a0 72 = 0) ∧ (¬ Rv h1 a0 73 = 0) ∧ (¬ Rv h1 a0 74 = 0) ∧ (¬ Rv h1 a0 75 = 0) ∧ (¬ Rv h1 a0 76 = 0) ∧ (¬ Rv h1 a0 81 = 0) ∧ (¬ Rv h1 a0 82 = 0) ∧ (¬ Rv h1 a0 84 = 0) ∧ (¬ Rv h1 a0 85 = 0) ∧ (¬ Rv h1 a0 86 = 0) ∧ (MInv h1 a0) ∧ (Qm 82 h1 a0 = zer1))) (List.map toV [.inr (.inr a0)]).toArray s 68 46508 (Aof z0)) 602 [(0, .inr (.inr a0))] [] h275 48 39585 := by
    intro h275 O277 F278 p279 p280
    refine g_aload_n C rfl 0 rfl dX12_init_602 ?_
    refine g_iconst C dX12_init_603 ?_
    refine g_newa (atype := .int) (t := 0) (ty := .int) (N := 4) C 160100 rfl (iw (il 4) (by decide) (by decide)) (by decide) rfl kw_224 rfl (fun _ => rfl) (by decide) (by decide) (by decide) (by decide) dX12_init_604 (fun n282 z283 z284 h286 hh285 => ?_)
    have O287 := O277.pN z283 z284 hh285 (by decide) nn_160100
    have e288 : Tg h275 a0 = 1012 := (fxT F278 ta0)
    have e289 : Tg h286 a0 = 1012 := ((pNT hh285 (pN_n hh285 z284 e288)).trans e288)
    refine gp_RF C fk_LandSurveyModel_227 pk_LandSurveyModel_60 rfl e289 hn rfl (nf_a _ _) dX12_init_606 (fun h291 hh290 => ?_)
    have O292 := O287.pR e289 hh290 (okR_l rE_1012_60 (pN_T hh285) (pN_L hh285))
    refine g_aload_n C rfl 0 rfl dX12_init_609 ?_
    refine g_iconst C dX12_init_610 ?_
    refine g_newa (atype := .int) (t := 0) (ty := .int) (N := 4) C 161100 rfl (iw (il 4) (by decide) (by decide)) (by decide) rfl kw_224 rfl (fun _ => rfl) (by decide) (by decide) (by decide) (by decide) dX12_init_611 (fun n293 z294 z295 h297 hh296 => ?_)
    have O298 := O292.pN z294 z295 hh296 (by decide) nn_161100
    have e299 : Tg h291 a0 = 1012 := ((pRT hh290).trans e289)
    have e300 : Tg h297 a0 = 1012 := ((pNT hh296 (pN_n hh296 z295 e299)).trans e299)
    refine gp_RF C fk_LandSurveyModel_230 pk_LandSurveyModel_61 rfl e300 hn rfl (nf_a _ _) dX12_init_613 (fun h302 hh301 => ?_)
    have O303 := O298.pR e300 hh301 (okR_l rE_1012_61 (pN_T hh296) (pN_L hh296))
    refine g_aload_n C rfl 0 rfl dX12_init_616 ?_
    refine g_sipush C (by decide) dX12_init_617 ?_
    refine g_newa (atype := .int) (t := 0) (ty := .int) (N := 600) C 163100 rfl (iw (il 600) (by decide) (by decide)) (by decide) rfl kw_224 rfl (fun _ => rfl) (by decide) (by decide) (by decide) (by decide) dX12_init_620 (fun n304 z305 z306 h308 hh307 => ?_)
    have O309 := O303.pN z305 z306 hh307 (by decide) nn_163100
    have e310 : Tg h302 a0 = 1012 := ((pRT hh301).trans e300)
    have e311 : Tg h308 a0 = 1012 := ((pNT hh307 (pN_n hh307 z306 e310)).trans e310)
    refine gp_RF C fk_LandSurveyModel_233 pk_LandSurveyModel_63 rfl e311 hn rfl (nf_a _ _) dX12_init_622 (fun h313 hh312 => ?_)
    have O314 := O309.pR e311 hh312 (okR_l rE_1012_63 (pN_T hh307) (pN_L hh307))
    refine g_aload_n C rfl 0 rfl dX12_init_625 ?_
    refine g_sipush C (by decide) dX12_init_626 ?_
    refine g_newa (atype := .int) (t := 0) (ty := .int) (N := 600) C 164100 rfl (iw (il 600) (by decide) (by decide)) (by decide) rfl kw_224 rfl (fun _ => rfl) (by decide) (by decide) (by decide) (by decide) dX12_init_629 (fun n315 z316 z317 h319 hh318 => ?_)
    have O320 := O314.pN z316 z317 hh318 (by decide) nn_164100
    have e321 : Tg h313 a0 = 1012 := ((pRT hh312).trans e311)
    have e322 : Tg h319 a0 = 1012 := ((pNT hh318 (pN_n hh318 z317 e321)).trans e321)
    refine gp_RF C fk_LandSurveyModel_236 pk_LandSurveyModel_64 rfl e322 hn rfl (nf_a _ _) dX12_init_631 (fun h324 hh323 => ?_)
    have O325 := O320.pR e322 hh323 (okR_l rE_1012_64 (pN_T hh318) (pN_L hh318))
    refine g_aload_n C rfl 0 rfl dX12_init_634 ?_
    refine g_sipush C (by decide) dX12_init_635 ?_
    refine g_newa (atype := .int) (t := 0) (ty := .int) (N := 600) C 165100 rfl (iw (il 600) (by decide) (by decide)) (by decide) rfl kw_224 rfl (fun _ => rfl) (by decide) (by decide) (by decide) (by decide) dX12_init_638 (fun n326 z327 z328 h330 hh329 => ?_)
    have O331 := O325.pN z327 z328 hh329 (by decide) nn_165100
    have e332 : Tg h324 a0 = 1012 := ((pRT hh323).trans e322)
    have e333 : Tg h330 a0 = 1012 := ((pNT hh329 (pN_n hh329 z328 e332)).trans e332)
    refine gp_RF C fk_LandSurveyModel_239 pk_LandSurveyModel_65 rfl e333 hn rfl (nf_a _ _) dX12_init_640 (fun h335 hh334 => ?_)
    have O336 := O331.pR e333 hh334 (okR_l rE_1012_65 (pN_T hh329) (pN_L hh329))
    refine g_aload_n C rfl 0 rfl dX12_init_643 ?_
    refine g_sipush C (by decide) dX12_init_644 ?_
    refine g_newa (atype := .int) (t := 0) (ty := .int) (N := 600) C 166100 rfl (iw (il 600) (by decide) (by decide)) (by decide) rfl kw_224 rfl (fun _ => rfl) (by decide) (by decide) (by decide) (by decide) dX12_init_647 (fun n337 z338 z339 h341 hh340 => ?_)
    have O342 := O336.pN z338 z339 hh340 (by decide) nn_166100
    have e343 : Tg h335 a0 = 1012 := ((pRT hh334).trans e333)
    have e344 : Tg h341 a0 = 1012 := ((pNT hh340 (pN_n hh340 z339 e343)).trans e343)
    refine gp_RF C fk_LandSurveyModel_242 pk_LandSurveyModel_66 rfl e344 hn rfl (nf_a _ _) dX12_init_649 (fun h346 hh345 => ?_)
    have O347 := O342.pR e344 hh345 (okR_l rE_1012_66 (pN_T hh340) (pN_L hh340))
    refine g_aload_n C rfl 0 rfl dX12_init_652 ?_
    refine g_bipush C (by decide) dX12_init_653 ?_
    refine g_newa (atype := .int) (t := 0) (ty := .int) (N := 97) C 167100 rfl (iw (il 97) (by decide) (by decide)) (by decide) rfl kw_224 rfl (fun _ => rfl) (by decide) (by decide) (by decide) (by decide) dX12_init_655 (fun n348 z349 z350 h352 hh351 => ?_)
    have O353 := O347.pN z349 z350 hh351 (by decide) nn_167100
    have e354 : Tg h346 a0 = 1012 := ((pRT hh345).trans e344)
    have e355 : Tg h352 a0 = 1012 := ((pNT hh351 (pN_n hh351 z350 e354)).trans e354)
    refine gp_RF C fk_LandSurveyModel_245 pk_LandSurveyModel_67 rfl e355 hn rfl (nf_a _ _) dX12_init_657 (fun h357 hh356 => ?_)
    have O358 := O353.pR e355 hh356 (okR_l rE_1012_67 (pN_T hh351) (pN_L hh351))
    refine g_aload_n C rfl 0 rfl dX12_init_660 ?_
    refine g_bipush C (by decide) dX12_init_661 ?_
    refine g_newa (atype := .int) (t := 0) (ty := .int) (N := 97) C 168100 rfl (iw (il 97) (by decide) (by decide)) (by decide) rfl kw_224 rfl (fun _ => rfl) (by decide) (by decide) (by decide) (by decide) dX12_init_663 (fun n359 z360 z361 h363 hh362 => ?_)
    have O364 := O358.pN z360 z361 hh362 (by decide) nn_168100
    have e365 : Tg h357 a0 = 1012 := ((pRT hh356).trans e355)
    have e366 : Tg h363 a0 = 1012 := ((pNT hh362 (pN_n hh362 z361 e365)).trans e365)
    refine gp_RF C fk_LandSurveyModel_248 pk_LandSurveyModel_68 rfl e366 hn rfl (nf_a _ _) dX12_init_665 (fun h368 hh367 => ?_)
    have O369 := O364.pR e366 hh367 (okR_l rE_1012_68 (pN_T hh362) (pN_L hh362))
    refine GW.sub [0] rfl ?_
    have p370 := (NZ_fx ((Fx.rf (wr := [202468]) (h := h363)).pR e366 hh367 rfl) e366 (by decide) (NZ_fx ((Fx.rf (wr := [1000168100]) (h := h357)).pN z361 hh362 rfl) e365 (by decide) (NZ_fx ((Fx.rf (wr := [202467]) (h := h352)).pR e355 hh356 rfl) e355 (by decide) (NZ_fx ((Fx.rf (wr := [1000167100]) (h := h346)).pN z350 hh351 rfl) e354 (by decide) (NZ_fx ((Fx.rf (wr := [202466]) (h := h341)).pR e344 hh345 rfl) e344 (by decide) (NZ_fx ((Fx.rf (wr := [1000166100]) (h := h335)).pN z339 hh340 rfl) e343 (by decide) (NZ_fx ((Fx.rf (wr := [202465]) (h := h330)).pR e333 hh334 rfl) e333 (by decide) (NZ_fx ((Fx.rf (wr := [1000165100]) (h := h324)).pN z328 hh329 rfl) e332 (by decide) (NZ_fx ((Fx.rf (wr := [202464]) (h := h319)).pR e322 hh323 rfl) e322 (by decide) (NZ_fx ((Fx.rf (wr := [1000164100]) (h := h313)).pN z317 hh318 rfl) e321 (by decide) (NZ_fx ((Fx.rf (wr := [202463]) (h := h308)).pR e311 hh312 rfl) e311 (by decide) (NZ_fx ((Fx.rf (wr := [1000163100]) (h := h302)).pN z306 hh307 rfl) e310 (by decide) (NZ_fx ((Fx.rf (wr := [202461]) (h := h297)).pR e300 hh301 rfl) e300 (by decide) (NZ_fx ((Fx.rf (wr := [1000161100]) (h := h291)).pN z295 hh296 rfl) e299 (by decide) (NZ_fx ((Fx.rf (wr := [202460]) (h := h286)).pR e289 hh290 rfl) e289 (by decide) (NZ_fx ((Fx.rf (wr := [1000160100]) (h := h275)).pN z284 hh285 rfl) e288 (by decide) p279))))))))))))))))
    have e371 : Rv h368 a0 60 = n282 := ((pR_j hh367 (by decide)).trans ((pNR hh362 (pN_n hh362 z361 e365)).trans ((pR_j hh356 (by decide)).trans ((pNR hh351 (pN_n hh351 z350 e354)).trans ((pR_j hh345 (by decide)).trans ((pNR hh340 (pN_n hh340 z339 e343)).trans ((pR_j hh334 (by decide)).trans ((pNR hh329 (pN_n hh329 z328 e332)).trans ((pR_j hh323 (by decide)).trans ((pNR hh318 (pN_n hh318 z317 e321)).trans ((pR_j hh312 (by decide)).trans ((pNR hh307 (pN_n hh307 z306 e310)).trans ((pR_j hh301 (by decide)).trans ((pNR hh296 (pN_n hh296 z295 e299)).trans (pR_e hh290)))))))))))))))
    have e372 : Tg h291 n282 = 160100 := ((pRT hh290).trans (pN_T hh285))
    have e373 : Tg h302 n282 = 160100 := ((pRT hh301).trans ((pNT hh296 (pN_n hh296 z295 e372)).trans e372))
    have e374 : Tg h313 n282 = 160100 := ((pRT hh312).trans ((pNT hh307 (pN_n hh307 z306 e373)).trans e373))
    have e375 : Tg h324 n282 = 160100 := ((pRT hh323).trans ((pNT hh318 (pN_n hh318 z317 e374)).trans e374))
    have e376 : Tg h335 n282 = 160100 := ((pRT hh334).trans ((pNT hh329 (pN_n hh329 z328 e375)).trans e375))
    have e377 : Tg h346 n282 = 160100 := ((pRT hh345).trans ((pNT hh340 (pN_n hh340 z339 e376)).trans e376))
    have e378 : Tg h357 n282 = 160100 := ((pRT hh356).trans ((pNT hh351 (pN_n hh351 z350 e377)).trans e377))
    have e379 : Tg h368 n282 = 160100 := ((pRT hh367).trans ((pNT hh362 (pN_n hh362 z361 e378)).trans e378))
    have e380 : Rv h368 a0 61 = n293 := ((pR_j hh367 (by decide)).trans ((pNR hh362 (pN_n hh362 z361 e365)).trans ((pR_j hh356 (by decide)).trans ((pNR hh351 (pN_n hh351 z350 e354)).trans ((pR_j hh345 (by decide)).trans ((pNR hh340 (pN_n hh340 z339 e343)).trans ((pR_j hh334 (by decide)).trans ((pNR hh329 (pN_n hh329 z328 e332)).trans ((pR_j hh323 (by decide)).trans ((pNR hh318 (pN_n hh318 z317 e321)).trans ((pR_j hh312 (by decide)).trans ((pNR hh307 (pN_n hh307 z306 e310)).trans (pR_e hh301)))))))))))))
    have e381 : Tg h302 n293 = 161100 := ((pRT hh301).trans (pN_T hh296))
    have e382 : Tg h313 n293 = 161100 := ((pRT hh312).trans ((pNT hh307 (pN_n hh307 z306 e381)).trans e381))
    have e383 : Tg h324 n293 = 161100 := ((pRT hh323).trans ((pNT hh318 (pN_n hh318 z317 e382)).trans e382))
    have e384 : Tg h335 n293 = 161100 := ((pRT hh334).trans ((pNT hh329 (pN_n hh329 z328 e383)).trans e383))
    have e385 : Tg h346 n293 = 161100 := ((pRT hh345).trans ((pNT hh340 (pN_n hh340 z339 e384)).trans e384))
    have e386 : Tg h357 n293 = 161100 := ((pRT hh356).trans ((pNT hh351 (pN_n hh351 z350 e385)).trans e385))
    have e387 : Tg h368 n293 = 161100 := ((pRT hh367).trans ((pNT hh362 (pN_n hh362 z361 e386)).trans e386))
    have e388 : Rv h368 a0 63 = n304 := ((pR_j hh367 (by decide)).trans ((pNR hh362 (pN_n hh362 z361 e365)).trans ((pR_j hh356 (by decide)).trans ((pNR hh351 (pN_n hh351 z350 e354)).trans ((pR_j hh345 (by decide)).trans ((pNR hh340 (pN_n hh340 z339 e343)).trans ((pR_j hh334 (by decide)).trans ((pNR hh329 (pN_n hh329 z328 e332)).trans ((pR_j hh323 (by decide)).trans ((pNR hh318 (pN_n hh318 z317 e321)).trans (pR_e hh312)))))))))))
    have e389 : Tg h313 n304 = 163100 := ((pRT hh312).trans (pN_T hh307))
    have e390 : Tg h324 n304 = 163100 := ((pRT hh323).trans ((pNT hh318 (pN_n hh318 z317 e389)).trans e389))
    have e391 : Tg h335 n304 = 163100 := ((pRT hh334).trans ((pNT hh329 (pN_n hh329 z328 e390)).trans e390))
    have e392 : Tg h346 n304 = 163100 := ((pRT hh345).trans ((pNT hh340 (pN_n hh340 z339 e391)).trans e391))
    have e393 : Tg h357 n304 = 163100 := ((pRT hh356).trans ((pNT hh351 (pN_n hh351 z350 e392)).trans e392))
    have e394 : Tg h368 n304 = 163100 := ((pRT hh367).trans ((pNT hh362 (pN_n hh362 z361 e393)).trans e393))
    have e395 : Rv h368 a0 64 = n315 := ((pR_j hh367 (by decide)).trans ((pNR hh362 (pN_n hh362 z361 e365)).trans ((pR_j hh356 (by decide)).trans ((pNR hh351 (pN_n hh351 z350 e354)).trans ((pR_j hh345 (by decide)).trans ((pNR hh340 (pN_n hh340 z339 e343)).trans ((pR_j hh334 (by decide)).trans ((pNR hh329 (pN_n hh329 z328 e332)).trans (pR_e hh323)))))))))
    have e396 : Tg h324 n315 = 164100 := ((pRT hh323).trans (pN_T hh318))
    have e397 : Tg h335 n315 = 164100 := ((pRT hh334).trans ((pNT hh329 (pN_n hh329 z328 e396)).trans e396))
    have e398 : Tg h346 n315 = 164100 := ((pRT hh345).trans ((pNT hh340 (pN_n hh340 z339 e397)).trans e397))
    have e399 : Tg h357 n315 = 164100 := ((pRT hh356).trans ((pNT hh351 (pN_n hh351 z350 e398)).trans e398))
    have e400 : Tg h368 n315 = 164100 := ((pRT hh367).trans ((pNT hh362 (pN_n hh362 z361 e399)).trans e399))
    have e401 : Rv h368 a0 65 = n326 := ((pR_j hh367 (by decide)).trans ((pNR hh362 (pN_n hh362 z361 e365)).trans ((pR_j hh356 (by decide)).trans ((pNR hh351 (pN_n hh351 z350 e354)).trans ((pR_j hh345 (by decide)).trans ((pNR hh340 (pN_n hh340 z339 e343)).trans (pR_e hh334)))))))
    have e402 : Tg h335 n326 = 165100 := ((pRT hh334).trans (pN_T hh329))
    have e403 : Tg h346 n326 = 165100 := ((pRT hh345).trans ((pNT hh340 (pN_n hh340 z339 e402)).trans e402))
    have e404 : Tg h357 n326 = 165100 := ((pRT hh356).trans ((pNT hh351 (pN_n hh351 z350 e403)).trans e403))
    have e405 : Tg h368 n326 = 165100 := ((pRT hh367).trans ((pNT hh362 (pN_n hh362 z361 e404)).trans e404))
    have e406 : Rv h368 a0 66 = n337 := ((pR_j hh367 (by decide)).trans ((pNR hh362 (pN_n hh362 z361 e365)).trans ((pR_j hh356 (by decide)).trans ((pNR hh351 (pN_n hh351 z350 e354)).trans (pR_e hh345)))))
    have e407 : Tg h346 n337 = 166100 := ((pRT hh345).trans (pN_T hh340))
    have e408 : Tg h357 n337 = 166100 := ((pRT hh356).trans ((pNT hh351 (pN_n hh351 z350 e407)).trans e407))
    have e409 : Tg h368 n337 = 166100 := ((pRT hh367).trans ((pNT hh362 (pN_n hh362 z361 e408)).trans e408))
    have e410 : Rv h368 a0 67 = n348 := ((pR_j hh367 (by decide)).trans ((pNR hh362 (pN_n hh362 z361 e365)).trans (pR_e hh356)))
    have e411 : Tg h357 n348 = 167100 := ((pRT hh356).trans (pN_T hh351))
    have e412 : Tg h368 n348 = 167100 := ((pRT hh367).trans ((pNT hh362 (pN_n hh362 z361 e411)).trans e411))
    have e413 : Tg h368 n359 = 168100 := ((pRT hh367).trans (pN_T hh362))
    have p414 := (LZR_fx ((Fx.rf (wr := [202468]) (h := h363)).pR e366 hh367 rfl) e366 rfl (LZR_fx ((Fx.rf (wr := [1000168100]) (h := h357)).pN z361 hh362 rfl) e365 rfl (LZR_fx ((Fx.rf (wr := [202467]) (h := h352)).pR e355 hh356 rfl) e355 rfl (LZR_fx ((Fx.rf (wr := [1000167100]) (h := h346)).pN z350 hh351 rfl) e354 rfl (LZR_fx ((Fx.rf (wr := [202466]) (h := h341)).pR e344 hh345 rfl) e344 rfl (LZR_fx ((Fx.rf (wr := [1000166100]) (h := h335)).pN z339 hh340 rfl) e343 rfl (LZR_fx ((Fx.rf (wr := [202465]) (h := h330)).pR e333 hh334 rfl) e333 rfl (LZR_fx ((Fx.rf (wr := [1000165100]) (h := h324)).pN z328 hh329 rfl) e332 rfl (LZR_fx ((Fx.rf (wr := [202464]) (h := h319)).pR e322 hh323 rfl) e322 rfl (LZR_fx ((Fx.rf (wr := [1000164100]) (h := h313)).pN z317 hh318 rfl) e321 rfl (LZR_fx ((Fx.rf (wr := [202463]) (h := h308)).pR e311 hh312 rfl) e311 rfl (LZR_fx ((Fx.rf (wr := [1000163100]) (h := h302)).pN z306 hh307 rfl) e310 rfl (LZR_fx ((Fx.rf (wr := [202461]) (h := h297)).pR e300 hh301 rfl) e300 rfl (LZR_fx ((Fx.rf (wr := [1000161100]) (h := h291)).pN z295 hh296 rfl) e299 rfl (LZR_fx ((Fx.rf (wr := [202460]) (h := h286)).pR e289 hh290 rfl) e289 rfl (LZR_fx ((Fx.rf (wr := [1000160100]) (h := h275)).pN z284 hh285 rfl) e288 rfl p280))))))))))))))))
    exact J136 _ O369 ((((((((((((((((((Fx.rf (wr := [202401, 202404, 202405, 202406, 202409, 202411, 202412, 202413, 202414, 202415, 202416, 202417, 202418, 202419, 202420, 202421, 202422, 202423, 202424, 202425, 202426, 202427, 202429, 202430, 202431, 202432, 202434, 202435, 202436, 202437, 202438, 202439, 202441, 202442, 202443, 202444, 202445, 202446, 202447, 202448, 202449, 202450, 202451, 202452, 202453, 202454, 202455, 202456, 202458, 202459, 202460, 202461, 202463, 202464, 202465, 202466, 202467, 202468, 202470, 202471, 202472, 202473, 202474, 202475, 202476, 202481, 202482, 202484, 202485, 202486, 21820400, 27220000, 27420200, 27820000, 1000101100, 1000104100, 1000105100, 1000106102, 1000109102, 1000111100, 1000112100, 1000113102, 1000114100, 1000115100, 1000116101, 1000117101, 1000118101, 1000119100, 1000120101, 1000121100, 1000122100, 1000123100, 1000124100, 1000125100, 1000126100, 1000127100, 1000129100, 1000130100, 1000131100, 1000132100, 1000136100, 1000137101, 1000138101, 1000139100, 1000141100, 1000142100, 1000143100, 1000144100, 1000145100, 1000146100, 1000147100, 1000148100, 1000149100, 1000150100, 1000151100, 1000152101, 1000153101, 1000154100, 1000155100, 1000156100, 1000158101, 1000159100, 1000160100, 1000161100, 1000163100, 1000164100, 1000165100, 1000166100, 1000167100, 1000168100, 1000170101, 1000171100, 1000172102, 1000173101, 1000174101, 1000175100, 1000176100, 1000181100, 1000182101, 1000184100, 1000185100, 1000186100]) (h := h)).call F278 rfl).pN z284 hh285 rfl).pR e289 hh290 rfl).pN z295 hh296 rfl).pR e300 hh301 rfl).pN z306 hh307 rfl).pR e311 hh312 rfl).pN z317 hh318 rfl).pR e322 hh323 rfl).pN z328 hh329 rfl).pR e333 hh334 rfl).pN z339 hh340 rfl).pR e344 hh345 rfl).pN z350 hh351 rfl).pR e355 hh356 rfl).pN z361 hh362 rfl).pR e366 hh367 rfl) (NZ_cons (by rw [(pR_e hh367)]; exact nz_of O369 e413) (NZ_cons (by rw [e410]; exact nz_of O369 e412) (NZ_cons (by rw [e406]; exact nz_of O369 e409) (NZ_cons (by rw [e401]; exact nz_of O369 e405) (NZ_cons (by rw [e395]; exact nz_of O369 e400) (NZ_cons (by rw [e388]; exact nz_of O369 e394) (NZ_cons (by rw [e380]; exact nz_of O369 e387) (NZ_cons (by rw [e371]; exact nz_of O369 e379) p370)))))))) p414
  have J416 : ∀ (h415 : Hp), Okh h415 → Fx [202401, 202404, 202405, 202406, 202409, 202411, 202412, 202413, 202414, 202415, 202416, 202417, 202418, 202419, 202420, 202421, 202422, 202423, 202424, 202425, 202426, 202427, 202429, 202430, 202431, 202432, 202434, 202435, 202436, 202437, 202438, 202439, 202441, 202442, 202443, 202444, 202445, 202446, 202447, 202448, 202449, 202450, 202451, 202452, 202453, 202454, 202455, 202456, 202458, 202459, 202460, 202461, 202463, 202464, 202465, 202466, 202467, 202468, 202470, 202471, 202472, 202473, 202474, 202475, 202476, 202481, 202482, 202484, 202485, 202486, 21820400, 27220000, 27420200, 27820000, 1000101100, 1000104100, 1000105100, 1000106102, 1000109102, 1000111100, 1000112100, 1000113102, 1000114100, 1000115100, 1000116101, 1000117101, 1000118101, 1000119100, 1000120101, 1000121100, 1000122100, 1000123100, 1000124100, 1000125100, 1000126100, 1000127100, 1000129100, 1000130100, 1000131100, 1000132100, 1000136100, 1000137101, 1000138101, 1000139100, 1000141100, 1000142100, 1000143100, 1000144100, 1000145100, 1000146100, 1000147100, 1000148100, 1000149100, 1000150100, 1000151100, 1000152101, 1000153101, 1000154100, 1000155100, 1000156100, 1000158101, 1000159100, 1000160100, 1000161100, 1000163100, 1000164100, 1000165100, 1000166100, 1000167100, 1000168100, 1000170101, 1000171100, 1000172102, 1000173101, 1000174101, 1000175100, 1000176100, 1000181100, 1000182101, 1000184100, 1000185100, 1000186100] h h415 → NZ h415 a0 [50, 49, 48, 47, 46, 45, 44, 43, 42, 41, 39, 38, 37, 36, 32, 31, 30, 29, 27, 26, 25, 24, 23, 22, 21, 20, 19, 18, 17, 16, 15, 14, 13, 12, 11, 9, 6, 5, 4, 1] → LZR h415 a0 → GW p l e (rmm 1 24 68 46508) s m (List.map toV [.inr (.inr a0)]).toArray below meth c D cy z0 2 (MQ below (QV D cy z0 (fun h1 => Okh h1 ∧ Fx wr_k3_X12_init h h1 ∧ (¬ Rv h1 a0 1 = 0) ∧ (¬ Rv h1 a0 4 = 0) ∧ (¬ Rv h1 a0 5 = 0) ∧ (¬ Rv h1 a0 6 = 0) ∧ (¬ Rv h1 a0 9 = 0) ∧ (¬ Rv h1 a0 11 = 0) ∧ (¬ Rv h1 a0 12 = 0) ∧ (¬ Rv h1 a0 13 = 0) ∧ (¬ Rv h1 a0 14 = 0) ∧ (¬ Rv h1 a0 15 = 0) ∧ (¬ Rv h1 a0 16 = 0) ∧ (¬ Rv h1 a0 17 = 0) ∧ (¬ Rv h1 a0 18 = 0) ∧ (¬ Rv h1 a0 19 = 0) ∧ (¬ Rv h1 a0 20 = 0) ∧ (¬ Rv h1 a0 21 = 0) ∧ (¬ Rv h1 a0 22 = 0) ∧ (¬ Rv h1 a0 23 = 0) ∧ (¬ Rv h1 a0 24 = 0) ∧ (¬ Rv h1 a0 25 = 0) ∧ (¬ Rv h1 a0 26 = 0) ∧ (¬ Rv h1 a0 27 = 0) ∧ (¬ Rv h1 a0 29 = 0) ∧ (¬ Rv h1 a0 30 = 0) ∧ (¬ Rv h1 a0 31 = 0) ∧ (¬ Rv h1 a0 32 = 0) ∧ (¬ Rv h1 a0 36 = 0) ∧ (¬ Rv h1 a0 37 = 0) ∧ (¬ Rv h1 a0 38 = 0) ∧ (¬ Rv h1 a0 39 = 0) ∧ (¬ Rv h1 a0 41 = 0) ∧ (¬ Rv h1 a0 42 = 0) ∧ (¬ Rv h1 a0 43 = 0) ∧ (¬ Rv h1 a0 44 = 0) ∧ (¬ Rv h1 a0 45 = 0) ∧ (¬ Rv h1 a0 46 = 0) ∧ (¬ Rv h1 a0 47 = 0) ∧ (¬ Rv h1 a0 48 = 0) ∧ (¬ Rv h1 a0 49 = 0) ∧ (¬ Rv h1 a0 50 = 0) ∧ (¬ Rv h1 a0 51 = 0) ∧ (¬ Rv h1 a0 52 = 0) ∧ (¬ Rv h1 a0 53 = 0) ∧ (¬ Rv h1 a0 54 = 0) ∧ (¬ Rv h1 a0 55 = 0) ∧ (¬ Rv h1 a0 56 = 0) ∧ (¬ Rv h1 a0 58 = 0) ∧ (¬ Rv h1 a0 59 = 0) ∧ (¬ Rv h1 a0 60 = 0) ∧ (¬ Rv h1 a0 61 = 0) ∧ (¬ Rv h1 a0 63 = 0) ∧ (¬ Rv h1 a0 64 = 0) ∧ (¬ Rv h1 a0 65 = 0) ∧ (¬ Rv h1 a0 66 = 0) ∧ (¬ Rv h1 a0 67 = 0) ∧ (¬ Rv h1 a0 68 = 0) ∧ (¬ Rv h1 a0 70 = 0) ∧ (¬ Rv h1 a0 71 = 0) ∧ (¬ Rv h1 a0 72 = 0) ∧ (¬ Rv h1 a0 73 = 0) ∧ (¬ Rv h1 a0 74 = 0) ∧ (¬ Rv h1 a0 75 = 0) ∧ (¬ Rv h1 a0 76 = 0) ∧ (¬ Rv h1 a0 81 = 0) ∧ (¬ Rv h1 a0 82 = 0) ∧ (¬ Rv h1 a0 84 = 0) ∧ (¬ Rv h1 a0 85 = 0) ∧ (¬ Rv h1 a0 86 = 0) ∧ (MInv h1 a0) ∧ (Qm 82 h1 a0 = zer1))) (List.map toV [.inr (.inr a0)]).toArray s 68 46508 (Aof z0)) 538 [(0, .inr (.inr a0))] [] h415 40 38573 := by
    intro h415 O417 F418 p419 p420
    refine g_aload_n C rfl 0 rfl dX12_init_538 ?_
    refine g_bipush C (by decide) dX12_init_539 ?_
    refine g_newa (atype := .int) (t := 0) (ty := .int) (N := 40) C 151100 rfl (iw (il 40) (by decide) (by decide)) (by decide) rfl kw_224 rfl (fun _ => rfl) (by decide) (by decide) (by decide) (by decide) dX12_init_541 (fun n422 z423 z424 h426 hh425 => ?_)
    have O427 := O417.pN z423 z424 hh425 (by decide) nn_151100
    have e428 : Tg h415 a0 = 1012 := (fxT F418 ta0)
    have e429 : Tg h426 a0 = 1012 := ((pNT hh425 (pN_n hh425 z424 e428)).trans e428)
    refine gp_RF C fk_LandSurveyModel_203 pk_LandSurveyModel_51 rfl e429 hn rfl (nf_a _ _) dX12_init_543 (fun h431 hh430 => ?_)
    have O432 := O427.pR e429 hh430 (okR_l rE_1012_51 (pN_T hh425) (pN_L hh425))
    refine g_aload_n C rfl 0 rfl dX12_init_546 ?_
    refine g_bipush C (by decide) dX12_init_547 ?_
    refine g_newa (atype := .boolean) (t := 1) (ty := .boolean) (N := 40) C 152101 rfl (iw (il 40) (by decide) (by decide)) (by decide) rfl kw_225 rfl (fun _ => rfl) (by decide) (by decide) (by decide) (by decide) dX12_init_549 (fun n433 z434 z435 h437 hh436 => ?_)
    have O438 := O432.pN z434 z435 hh436 (by decide) nn_152101
    have e439 : Tg h431 a0 = 1012 := ((pRT hh430).trans e429)
    have e440 : Tg h437 a0 = 1012 := ((pNT hh436 (pN_n hh436 z435 e439)).trans e439)
    refine gp_RF C fk_LandSurveyModel_206 pk_LandSurveyModel_52 rfl e440 hn rfl (nf_a _ _) dX12_init_551 (fun h442 hh441 => ?_)
    have O443 := O438.pR e440 hh441 (okR_l rE_1012_52 (pN_T hh436) (pN_L hh436))
    refine g_aload_n C rfl 0 rfl dX12_init_554 ?_
    refine g_bipush C (by decide) dX12_init_555 ?_
    refine g_newa (atype := .boolean) (t := 1) (ty := .boolean) (N := 40) C 153101 rfl (iw (il 40) (by decide) (by decide)) (by decide) rfl kw_225 rfl (fun _ => rfl) (by decide) (by decide) (by decide) (by decide) dX12_init_557 (fun n444 z445 z446 h448 hh447 => ?_)
    have O449 := O443.pN z445 z446 hh447 (by decide) nn_153101
    have e450 : Tg h442 a0 = 1012 := ((pRT hh441).trans e440)
    have e451 : Tg h448 a0 = 1012 := ((pNT hh447 (pN_n hh447 z446 e450)).trans e450)
    refine gp_RF C fk_LandSurveyModel_209 pk_LandSurveyModel_53 rfl e451 hn rfl (nf_a _ _) dX12_init_559 (fun h453 hh452 => ?_)
    have O454 := O449.pR e451 hh452 (okR_l rE_1012_53 (pN_T hh447) (pN_L hh447))
    refine g_aload_n C rfl 0 rfl dX12_init_562 ?_
    refine g_bipush C (by decide) dX12_init_563 ?_
    refine g_newa (atype := .int) (t := 0) (ty := .int) (N := 40) C 154100 rfl (iw (il 40) (by decide) (by decide)) (by decide) rfl kw_224 rfl (fun _ => rfl) (by decide) (by decide) (by decide) (by decide) dX12_init_565 (fun n455 z456 z457 h459 hh458 => ?_)
    have O460 := O454.pN z456 z457 hh458 (by decide) nn_154100
    have e461 : Tg h453 a0 = 1012 := ((pRT hh452).trans e451)
    have e462 : Tg h459 a0 = 1012 := ((pNT hh458 (pN_n hh458 z457 e461)).trans e461)
    refine gp_RF C fk_LandSurveyModel_212 pk_LandSurveyModel_54 rfl e462 hn rfl (nf_a _ _) dX12_init_567 (fun h464 hh463 => ?_)
    have O465 := O460.pR e462 hh463 (okR_l rE_1012_54 (pN_T hh458) (pN_L hh458))
    refine g_aload_n C rfl 0 rfl dX12_init_570 ?_
    refine g_bipush C (by decide) dX12_init_571 ?_
    refine g_newa (atype := .int) (t := 0) (ty := .int) (N := 40) C 155100 rfl (iw (il 40) (by decide) (by decide)) (by decide) rfl kw_224 rfl (fun _ => rfl) (by decide) (by decide) (by decide) (by decide) dX12_init_573 (fun n466 z467 z468 h470 hh469 => ?_)
    have O471 := O465.pN z467 z468 hh469 (by decide) nn_155100
    have e472 : Tg h464 a0 = 1012 := ((pRT hh463).trans e462)
    have e473 : Tg h470 a0 = 1012 := ((pNT hh469 (pN_n hh469 z468 e472)).trans e472)
    refine gp_RF C fk_LandSurveyModel_215 pk_LandSurveyModel_55 rfl e473 hn rfl (nf_a _ _) dX12_init_575 (fun h475 hh474 => ?_)
    have O476 := O471.pR e473 hh474 (okR_l rE_1012_55 (pN_T hh469) (pN_L hh469))
    refine g_aload_n C rfl 0 rfl dX12_init_578 ?_
    refine g_bipush C (by decide) dX12_init_579 ?_
    refine g_newa (atype := .int) (t := 0) (ty := .int) (N := 40) C 156100 rfl (iw (il 40) (by decide) (by decide)) (by decide) rfl kw_224 rfl (fun _ => rfl) (by decide) (by decide) (by decide) (by decide) dX12_init_581 (fun n477 z478 z479 h481 hh480 => ?_)
    have O482 := O476.pN z478 z479 hh480 (by decide) nn_156100
    have e483 : Tg h475 a0 = 1012 := ((pRT hh474).trans e473)
    have e484 : Tg h481 a0 = 1012 := ((pNT hh480 (pN_n hh480 z479 e483)).trans e483)
    refine gp_RF C fk_LandSurveyModel_218 pk_LandSurveyModel_56 rfl e484 hn rfl (nf_a _ _) dX12_init_583 (fun h486 hh485 => ?_)
    have O487 := O482.pR e484 hh485 (okR_l rE_1012_56 (pN_T hh480) (pN_L hh480))
    refine g_aload_n C rfl 0 rfl dX12_init_586 ?_
    refine g_sipush C (by decide) dX12_init_587 ?_
    refine g_newa (atype := .boolean) (t := 1) (ty := .boolean) (N := 768) C 158101 rfl (iw (il 768) (by decide) (by decide)) (by decide) rfl kw_225 rfl (fun _ => rfl) (by decide) (by decide) (by decide) (by decide) dX12_init_590 (fun n488 z489 z490 h492 hh491 => ?_)
    have O493 := O487.pN z489 z490 hh491 (by decide) nn_158101
    have e494 : Tg h486 a0 = 1012 := ((pRT hh485).trans e484)
    have e495 : Tg h492 a0 = 1012 := ((pNT hh491 (pN_n hh491 z490 e494)).trans e494)
    refine gp_RF C fk_LandSurveyModel_221 pk_LandSurveyModel_58 rfl e495 hn rfl (nf_a _ _) dX12_init_592 (fun h497 hh496 => ?_)
    have O498 := O493.pR e495 hh496 (okR_l rE_1012_58 (pN_T hh491) (pN_L hh491))
    refine g_aload_n C rfl 0 rfl dX12_init_595 ?_
    refine g_iconst C dX12_init_596 ?_
    refine g_newa (atype := .int) (t := 0) (ty := .int) (N := 4) C 159100 rfl (iw (il 4) (by decide) (by decide)) (by decide) rfl kw_224 rfl (fun _ => rfl) (by decide) (by decide) (by decide) (by decide) dX12_init_597 (fun n499 z500 z501 h503 hh502 => ?_)
    have O504 := O498.pN z500 z501 hh502 (by decide) nn_159100
    have e505 : Tg h497 a0 = 1012 := ((pRT hh496).trans e495)
    have e506 : Tg h503 a0 = 1012 := ((pNT hh502 (pN_n hh502 z501 e505)).trans e505)
    refine gp_RF C fk_LandSurveyModel_224 pk_LandSurveyModel_59 rfl e506 hn rfl (nf_a _ _) dX12_init_599 (fun h508 hh507 => ?_)
    have O509 := O504.pR e506 hh507 (okR_l rE_1012_59 (pN_T hh502) (pN_L hh502))
    refine GW.sub [0] rfl ?_
    have p510 := (NZ_fx ((Fx.rf (wr := [202459]) (h := h503)).pR e506 hh507 rfl) e506 (by decide) (NZ_fx ((Fx.rf (wr := [1000159100]) (h := h497)).pN z501 hh502 rfl) e505 (by decide) (NZ_fx ((Fx.rf (wr := [202458]) (h := h492)).pR e495 hh496 rfl) e495 (by decide) (NZ_fx ((Fx.rf (wr := [1000158101]) (h := h486)).pN z490 hh491 rfl) e494 (by decide) (NZ_fx ((Fx.rf (wr := [202456]) (h := h481)).pR e484 hh485 rfl) e484 (by decide) (NZ_fx ((Fx.rf (wr := [1000156100]) (h := h475)).pN z479 hh480 rfl) e483 (by decide) (NZ_fx ((Fx.rf (wr := [202455]) (h := h470)).pR e473 hh474 rfl) e473 (by decide) (NZ_fx ((Fx.rf (wr := [1000155100]) (h := h464)).pN z468 hh469 rfl) e472 (by decide) (NZ_fx ((Fx.rf (wr := [202454]) (h := h459)).pR e462 hh463 rfl) e462 (by decide) (NZ_fx ((Fx.rf (wr := [1000154100]) (h := h453)).pN z457 hh458 rfl) e461 (by decide) (NZ_fx ((Fx.rf (wr := [202453]) (h := h448)).pR e451 hh452 rfl) e451 (by decide) (NZ_fx ((Fx.rf (wr := [1000153101]) (h := h442)).pN z446 hh447 rfl) e450 (by decide) (NZ_fx ((Fx.rf (wr := [202452]) (h := h437)).pR e440 hh441 rfl) e440 (by decide) (NZ_fx ((Fx.rf (wr := [1000152101]) (h := h431)).pN z435 hh436 rfl) e439 (by decide) (NZ_fx ((Fx.rf (wr := [202451]) (h := h426)).pR e429 hh430 rfl) e429 (by decide) (NZ_fx ((Fx.rf (wr := [1000151100]) (h := h415)).pN z424 hh425 rfl) e428 (by decide) p419))))))))))))))))
    have e511 : Rv h508 a0 51 = n422 := ((pR_j hh507 (by decide)).trans ((pNR hh502 (pN_n hh502 z501 e505)).trans ((pR_j hh496 (by decide)).trans ((pNR hh491 (pN_n hh491 z490 e494)).trans ((pR_j hh485 (by decide)).trans ((pNR hh480 (pN_n hh480 z479 e483)).trans ((pR_j hh474 (by decide)).trans ((pNR hh469 (pN_n hh469 z468 e472)).trans ((pR_j hh463 (by decide)).trans ((pNR hh458 (pN_n hh458 z457 e461)).trans ((pR_j hh452 (by decide)).trans ((pNR hh447 (pN_n hh447 z446 e450)).trans ((pR_j hh441 (by decide)).trans ((pNR hh436 (pN_n hh436 z435 e439)).trans (pR_e hh430)))))))))))))))
    have e512 : Tg h431 n422 = 151100 := ((pRT hh430).trans (pN_T hh425))
    have e513 : Tg h442 n422 = 151100 := ((pRT hh441).trans ((pNT hh436 (pN_n hh436 z435 e512)).trans e512))
    have e514 : Tg h453 n422 = 151100 := ((pRT hh452).trans ((pNT hh447 (pN_n hh447 z446 e513)).trans e513))
    have e515 : Tg h464 n422 = 151100 := ((pRT hh463).trans ((pNT hh458 (pN_n hh458 z457 e514)).trans e514))
    have e516 : Tg h475 n422 = 151100 := ((pRT hh474).trans ((pNT hh469 (pN_n hh469 z468 e515)).trans e515))
    have e517 : Tg h486 n422 = 151100 := ((pRT hh485).trans ((pNT hh480 (pN_n hh480 z479 e516)).trans e516))
    have e518 : Tg h497 n422 = 151100 := ((pRT hh496).trans ((pNT hh491 (pN_n hh491 z490 e517)).trans e517))
    have e519 : Tg h508 n422 = 151100 := ((pRT hh507).trans ((pNT hh502 (pN_n hh502 z501 e518)).trans e518))
    have e520 : Rv h508 a0 52 = n433 := ((pR_j hh507 (by decide)).trans ((pNR hh502 (pN_n hh502 z501 e505)).trans ((pR_j hh496 (by decide)).trans ((pNR hh491 (pN_n hh491 z490 e494)).trans ((pR_j hh485 (by decide)).trans ((pNR hh480 (pN_n hh480 z479 e483)).trans ((pR_j hh474 (by decide)).trans ((pNR hh469 (pN_n hh469 z468 e472)).trans ((pR_j hh463 (by decide)).trans ((pNR hh458 (pN_n hh458 z457 e461)).trans ((pR_j hh452 (by decide)).trans ((pNR hh447 (pN_n hh447 z446 e450)).trans (pR_e hh441)))))))))))))
    have e521 : Tg h442 n433 = 152101 := ((pRT hh441).trans (pN_T hh436))
    have e522 : Tg h453 n433 = 152101 := ((pRT hh452).trans ((pNT hh447 (pN_n hh447 z446 e521)).trans e521))
    have e523 : Tg h464 n433 = 152101 := ((pRT hh463).trans ((pNT hh458 (pN_n hh458 z457 e522)).trans e522))
    have e524 : Tg h475 n433 = 152101 := ((pRT hh474).trans ((pNT hh469 (pN_n hh469 z468 e523)).trans e523))
    have e525 : Tg h486 n433 = 152101 := ((pRT hh485).trans ((pNT hh480 (pN_n hh480 z479 e524)).trans e524))
    have e526 : Tg h497 n433 = 152101 := ((pRT hh496).trans ((pNT hh491 (pN_n hh491 z490 e525)).trans e525))
    have e527 : Tg h508 n433 = 152101 := ((pRT hh507).trans ((pNT hh502 (pN_n hh502 z501 e526)).trans e526))
    have e528 : Rv h508 a0 53 = n444 := ((pR_j hh507 (by decide)).trans ((pNR hh502 (pN_n hh502 z501 e505)).trans ((pR_j hh496 (by decide)).trans ((pNR hh491 (pN_n hh491 z490 e494)).trans ((pR_j hh485 (by decide)).trans ((pNR hh480 (pN_n hh480 z479 e483)).trans ((pR_j hh474 (by decide)).trans ((pNR hh469 (pN_n hh469 z468 e472)).trans ((pR_j hh463 (by decide)).trans ((pNR hh458 (pN_n hh458 z457 e461)).trans (pR_e hh452)))))))))))
    have e529 : Tg h453 n444 = 153101 := ((pRT hh452).trans (pN_T hh447))
    have e530 : Tg h464 n444 = 153101 := ((pRT hh463).trans ((pNT hh458 (pN_n hh458 z457 e529)).trans e529))
    have e531 : Tg h475 n444 = 153101 := ((pRT hh474).trans ((pNT hh469 (pN_n hh469 z468 e530)).trans e530))
    have e532 : Tg h486 n444 = 153101 := ((pRT hh485).trans ((pNT hh480 (pN_n hh480 z479 e531)).trans e531))
    have e533 : Tg h497 n444 = 153101 := ((pRT hh496).trans ((pNT hh491 (pN_n hh491 z490 e532)).trans e532))
    have e534 : Tg h508 n444 = 153101 := ((pRT hh507).trans ((pNT hh502 (pN_n hh502 z501 e533)).trans e533))
    have e535 : Rv h508 a0 54 = n455 := ((pR_j hh507 (by decide)).trans ((pNR hh502 (pN_n hh502 z501 e505)).trans ((pR_j hh496 (by decide)).trans ((pNR hh491 (pN_n hh491 z490 e494)).trans ((pR_j hh485 (by decide)).trans ((pNR hh480 (pN_n hh480 z479 e483)).trans ((pR_j hh474 (by decide)).trans ((pNR hh469 (pN_n hh469 z468 e472)).trans (pR_e hh463)))))))))
    have e536 : Tg h464 n455 = 154100 := ((pRT hh463).trans (pN_T hh458))
    have e537 : Tg h475 n455 = 154100 := ((pRT hh474).trans ((pNT hh469 (pN_n hh469 z468 e536)).trans e536))
    have e538 : Tg h486 n455 = 154100 := ((pRT hh485).trans ((pNT hh480 (pN_n hh480 z479 e537)).trans e537))
    have e539 : Tg h497 n455 = 154100 := ((pRT hh496).trans ((pNT hh491 (pN_n hh491 z490 e538)).trans e538))
    have e540 : Tg h508 n455 = 154100 := ((pRT hh507).trans ((pNT hh502 (pN_n hh502 z501 e539)).trans e539))
    have e541 : Rv h508 a0 55 = n466 := ((pR_j hh507 (by decide)).trans ((pNR hh502 (pN_n hh502 z501 e505)).trans ((pR_j hh496 (by decide)).trans ((pNR hh491 (pN_n hh491 z490 e494)).trans ((pR_j hh485 (by decide)).trans ((pNR hh480 (pN_n hh480 z479 e483)).trans (pR_e hh474)))))))
    have e542 : Tg h475 n466 = 155100 := ((pRT hh474).trans (pN_T hh469))
    have e543 : Tg h486 n466 = 155100 := ((pRT hh485).trans ((pNT hh480 (pN_n hh480 z479 e542)).trans e542))
    have e544 : Tg h497 n466 = 155100 := ((pRT hh496).trans ((pNT hh491 (pN_n hh491 z490 e543)).trans e543))
    have e545 : Tg h508 n466 = 155100 := ((pRT hh507).trans ((pNT hh502 (pN_n hh502 z501 e544)).trans e544))
    have e546 : Rv h508 a0 56 = n477 := ((pR_j hh507 (by decide)).trans ((pNR hh502 (pN_n hh502 z501 e505)).trans ((pR_j hh496 (by decide)).trans ((pNR hh491 (pN_n hh491 z490 e494)).trans (pR_e hh485)))))
    have e547 : Tg h486 n477 = 156100 := ((pRT hh485).trans (pN_T hh480))
    have e548 : Tg h497 n477 = 156100 := ((pRT hh496).trans ((pNT hh491 (pN_n hh491 z490 e547)).trans e547))
    have e549 : Tg h508 n477 = 156100 := ((pRT hh507).trans ((pNT hh502 (pN_n hh502 z501 e548)).trans e548))
    have e550 : Rv h508 a0 58 = n488 := ((pR_j hh507 (by decide)).trans ((pNR hh502 (pN_n hh502 z501 e505)).trans (pR_e hh496)))
    have e551 : Tg h497 n488 = 158101 := ((pRT hh496).trans (pN_T hh491))
    have e552 : Tg h508 n488 = 158101 := ((pRT hh507).trans ((pNT hh502 (pN_n hh502 z501 e551)).trans e551))
    have e553 : Tg h508 n499 = 159100 := ((pRT hh507).trans (pN_T hh502))
    have p554 := (LZR_fx ((Fx.rf (wr := [202459]) (h := h503)).pR e506 hh507 rfl) e506 rfl (LZR_fx ((Fx.rf (wr := [1000159100]) (h := h497)).pN z501 hh502 rfl) e505 rfl (LZR_fx ((Fx.rf (wr := [202458]) (h := h492)).pR e495 hh496 rfl) e495 rfl (LZR_fx ((Fx.rf (wr := [1000158101]) (h := h486)).pN z490 hh491 rfl) e494 rfl (LZR_fx ((Fx.rf (wr := [202456]) (h := h481)).pR e484 hh485 rfl) e484 rfl (LZR_fx ((Fx.rf (wr := [1000156100]) (h := h475)).pN z479 hh480 rfl) e483 rfl (LZR_fx ((Fx.rf (wr := [202455]) (h := h470)).pR e473 hh474 rfl) e473 rfl (LZR_fx ((Fx.rf (wr := [1000155100]) (h := h464)).pN z468 hh469 rfl) e472 rfl (LZR_fx ((Fx.rf (wr := [202454]) (h := h459)).pR e462 hh463 rfl) e462 rfl (LZR_fx ((Fx.rf (wr := [1000154100]) (h := h453)).pN z457 hh458 rfl) e461 rfl (LZR_fx ((Fx.rf (wr := [202453]) (h := h448)).pR e451 hh452 rfl) e451 rfl (LZR_fx ((Fx.rf (wr := [1000153101]) (h := h442)).pN z446 hh447 rfl) e450 rfl (LZR_fx ((Fx.rf (wr := [202452]) (h := h437)).pR e440 hh441 rfl) e440 rfl (LZR_fx ((Fx.rf (wr := [1000152101]) (h := h431)).pN z435 hh436 rfl) e439 rfl (LZR_fx ((Fx.rf (wr := [202451]) (h := h426)).pR e429 hh430 rfl) e429 rfl (LZR_fx ((Fx.rf (wr := [1000151100]) (h := h415)).pN z424 hh425 rfl) e428 rfl p420))))))))))))))))
    exact J276 _ O509 ((((((((((((((((((Fx.rf (wr := [202401, 202404, 202405, 202406, 202409, 202411, 202412, 202413, 202414, 202415, 202416, 202417, 202418, 202419, 202420, 202421, 202422, 202423, 202424, 202425, 202426, 202427, 202429, 202430, 202431, 202432, 202434, 202435, 202436, 202437, 202438, 202439, 202441, 202442, 202443, 202444, 202445, 202446, 202447, 202448, 202449, 202450, 202451, 202452, 202453, 202454, 202455, 202456, 202458, 202459, 202460, 202461, 202463, 202464, 202465, 202466, 202467, 202468, 202470, 202471, 202472, 202473, 202474, 202475, 202476, 202481, 202482, 202484, 202485, 202486, 21820400, 27220000, 27420200, 27820000, 1000101100, 1000104100, 1000105100, 1000106102, 1000109102, 1000111100, 1000112100, 1000113102, 1000114100, 1000115100, 1000116101, 1000117101, 1000118101, 1000119100, 1000120101, 1000121100, 1000122100, 1000123100, 1000124100, 1000125100, 1000126100, 1000127100, 1000129100, 1000130100, 1000131100, 1000132100, 1000136100, 1000137101, 1000138101, 1000139100, 1000141100, 1000142100, 1000143100, 1000144100, 1000145100, 1000146100, 1000147100, 1000148100, 1000149100, 1000150100, 1000151100, 1000152101, 1000153101, 1000154100, 1000155100, 1000156100, 1000158101, 1000159100, 1000160100, 1000161100, 1000163100, 1000164100, 1000165100, 1000166100, 1000167100, 1000168100, 1000170101, 1000171100, 1000172102, 1000173101, 1000174101, 1000175100, 1000176100, 1000181100, 1000182101, 1000184100, 1000185100, 1000186100]) (h := h)).call F418 rfl).pN z424 hh425 rfl).pR e429 hh430 rfl).pN z435 hh436 rfl).pR e440 hh441 rfl).pN z446 hh447 rfl).pR e451 hh452 rfl).pN z457 hh458 rfl).pR e462 hh463 rfl).pN z468 hh469 rfl).pR e473 hh474 rfl).pN z479 hh480 rfl).pR e484 hh485 rfl).pN z490 hh491 rfl).pR e495 hh496 rfl).pN z501 hh502 rfl).pR e506 hh507 rfl) (NZ_cons (by rw [(pR_e hh507)]; exact nz_of O509 e553) (NZ_cons (by rw [e550]; exact nz_of O509 e552) (NZ_cons (by rw [e546]; exact nz_of O509 e549) (NZ_cons (by rw [e541]; exact nz_of O509 e545) (NZ_cons (by rw [e535]; exact nz_of O509 e540) (NZ_cons (by rw [e528]; exact nz_of O509 e534) (NZ_cons (by rw [e520]; exact nz_of O509 e527) (NZ_cons (by rw [e511]; exact nz_of O509 e519) p510)))))))) p554
  have J556 : ∀ (h555 : Hp), Okh h555 → Fx [202401, 202404, 202405, 202406, 202409, 202411, 202412, 202413, 202414, 202415, 202416, 202417, 202418, 202419, 202420, 202421, 202422, 202423, 202424, 202425, 202426, 202427, 202429, 202430, 202431, 202432, 202434, 202435, 202436, 202437, 202438, 202439, 202441, 202442, 202443, 202444, 202445, 202446, 202447, 202448, 202449, 202450, 202451, 202452, 202453, 202454, 202455, 202456, 202458, 202459, 202460, 202461, 202463, 202464, 202465, 202466, 202467, 202468, 202470, 202471, 202472, 202473, 202474, 202475, 202476, 202481, 202482, 202484, 202485, 202486, 21820400, 27220000, 27420200, 27820000, 1000101100, 1000104100, 1000105100, 1000106102, 1000109102, 1000111100, 1000112100, 1000113102, 1000114100, 1000115100, 1000116101, 1000117101, 1000118101, 1000119100, 1000120101, 1000121100, 1000122100, 1000123100, 1000124100, 1000125100, 1000126100, 1000127100, 1000129100, 1000130100, 1000131100, 1000132100, 1000136100, 1000137101, 1000138101, 1000139100, 1000141100, 1000142100, 1000143100, 1000144100, 1000145100, 1000146100, 1000147100, 1000148100, 1000149100, 1000150100, 1000151100, 1000152101, 1000153101, 1000154100, 1000155100, 1000156100, 1000158101, 1000159100, 1000160100, 1000161100, 1000163100, 1000164100, 1000165100, 1000166100, 1000167100, 1000168100, 1000170101, 1000171100, 1000172102, 1000173101, 1000174101, 1000175100, 1000176100, 1000181100, 1000182101, 1000184100, 1000185100, 1000186100] h h555 → NZ h555 a0 [42, 41, 39, 38, 37, 36, 32, 31, 30, 29, 27, 26, 25, 24, 23, 22, 21, 20, 19, 18, 17, 16, 15, 14, 13, 12, 11, 9, 6, 5, 4, 1] → LZR h555 a0 → GW p l e (rmm 1 24 68 46508) s m (List.map toV [.inr (.inr a0)]).toArray below meth c D cy z0 2 (MQ below (QV D cy z0 (fun h1 => Okh h1 ∧ Fx wr_k3_X12_init h h1 ∧ (¬ Rv h1 a0 1 = 0) ∧ (¬ Rv h1 a0 4 = 0) ∧ (¬ Rv h1 a0 5 = 0) ∧ (¬ Rv h1 a0 6 = 0) ∧ (¬ Rv h1 a0 9 = 0) ∧ (¬ Rv h1 a0 11 = 0) ∧ (¬ Rv h1 a0 12 = 0) ∧ (¬ Rv h1 a0 13 = 0) ∧ (¬ Rv h1 a0 14 = 0) ∧ (¬ Rv h1 a0 15 = 0) ∧ (¬ Rv h1 a0 16 = 0) ∧ (¬ Rv h1 a0 17 = 0) ∧ (¬ Rv h1 a0 18 = 0) ∧ (¬ Rv h1 a0 19 = 0) ∧ (¬ Rv h1 a0 20 = 0) ∧ (¬ Rv h1 a0 21 = 0) ∧ (¬ Rv h1 a0 22 = 0) ∧ (¬ Rv h1 a0 23 = 0) ∧ (¬ Rv h1 a0 24 = 0) ∧ (¬ Rv h1 a0 25 = 0) ∧ (¬ Rv h1 a0 26 = 0) ∧ (¬ Rv h1 a0 27 = 0) ∧ (¬ Rv h1 a0 29 = 0) ∧ (¬ Rv h1 a0 30 = 0) ∧ (¬ Rv h1 a0 31 = 0) ∧ (¬ Rv h1 a0 32 = 0) ∧ (¬ Rv h1 a0 36 = 0) ∧ (¬ Rv h1 a0 37 = 0) ∧ (¬ Rv h1 a0 38 = 0) ∧ (¬ Rv h1 a0 39 = 0) ∧ (¬ Rv h1 a0 41 = 0) ∧ (¬ Rv h1 a0 42 = 0) ∧ (¬ Rv h1 a0 43 = 0) ∧ (¬ Rv h1 a0 44 = 0) ∧ (¬ Rv h1 a0 45 = 0) ∧ (¬ Rv h1 a0 46 = 0) ∧ (¬ Rv h1 a0 47 = 0) ∧ (¬ Rv h1 a0 48 = 0) ∧ (¬ Rv h1 a0 49 = 0) ∧ (¬ Rv h1 a0 50 = 0) ∧ (¬ Rv h1 a0 51 = 0) ∧ (¬ Rv h1 a0 52 = 0) ∧ (¬ Rv h1 a0 53 = 0) ∧ (¬ Rv h1 a0 54 = 0) ∧ (¬ Rv h1 a0 55 = 0) ∧ (¬ Rv h1 a0 56 = 0) ∧ (¬ Rv h1 a0 58 = 0) ∧ (¬ Rv h1 a0 59 = 0) ∧ (¬ Rv h1 a0 60 = 0) ∧ (¬ Rv h1 a0 61 = 0) ∧ (¬ Rv h1 a0 63 = 0) ∧ (¬ Rv h1 a0 64 = 0) ∧ (¬ Rv h1 a0 65 = 0) ∧ (¬ Rv h1 a0 66 = 0) ∧ (¬ Rv h1 a0 67 = 0) ∧ (¬ Rv h1 a0 68 = 0) ∧ (¬ Rv h1 a0 70 = 0) ∧ (¬ Rv h1 a0 71 = 0) ∧ (¬ Rv h1 a0 72 = 0) ∧ (¬ Rv h1 a0 73 = 0) ∧ (¬ Rv h1 a0 74 = 0) ∧ (¬ Rv h1 a0 75 = 0) ∧ (¬ Rv h1 a0 76 = 0) ∧ (¬ Rv h1 a0 81 = 0) ∧ (¬ Rv h1 a0 82 = 0) ∧ (¬ Rv h1 a0 84 = 0) ∧ (¬ Rv h1 a0 85 = 0) ∧ (¬ Rv h1 a0 86 = 0) ∧ (MInv h1 a0) ∧ (Qm 82 h1 a0 = zer1))) (List.map toV [.inr (.inr a0)]).toArray s 68 46508 (Aof z0)) 474 [(0, .inr (.inr a0))] [] h555 32 38253 := by
    intro h555 O557 F558 p559 p560
    refine g_aload_n C rfl 0 rfl dX12_init_474 ?_
    refine g_bipush C (by decide) dX12_init_475 ?_
    refine g_newa (atype := .int) (t := 0) (ty := .int) (N := 40) C 143100 rfl (iw (il 40) (by decide) (by decide)) (by decide) rfl kw_224 rfl (fun _ => rfl) (by decide) (by decide) (by decide) (by decide) dX12_init_477 (fun n562 z563 z564 h566 hh565 => ?_)
    have O567 := O557.pN z563 z564 hh565 (by decide) nn_143100
    have e568 : Tg h555 a0 = 1012 := (fxT F558 ta0)
    have e569 : Tg h566 a0 = 1012 := ((pNT hh565 (pN_n hh565 z564 e568)).trans e568)
    refine gp_RF C fk_LandSurveyModel_179 pk_LandSurveyModel_43 rfl e569 hn rfl (nf_a _ _) dX12_init_479 (fun h571 hh570 => ?_)
    have O572 := O567.pR e569 hh570 (okR_l rE_1012_43 (pN_T hh565) (pN_L hh565))
    refine g_aload_n C rfl 0 rfl dX12_init_482 ?_
    refine g_bipush C (by decide) dX12_init_483 ?_
    refine g_newa (atype := .int) (t := 0) (ty := .int) (N := 40) C 144100 rfl (iw (il 40) (by decide) (by decide)) (by decide) rfl kw_224 rfl (fun _ => rfl) (by decide) (by decide) (by decide) (by decide) dX12_init_485 (fun n573 z574 z575 h577 hh576 => ?_)
    have O578 := O572.pN z574 z575 hh576 (by decide) nn_144100
    have e579 : Tg h571 a0 = 1012 := ((pRT hh570).trans e569)
    have e580 : Tg h577 a0 = 1012 := ((pNT hh576 (pN_n hh576 z575 e579)).trans e579)
    refine gp_RF C fk_LandSurveyModel_182 pk_LandSurveyModel_44 rfl e580 hn rfl (nf_a _ _) dX12_init_487 (fun h582 hh581 => ?_)
    have O583 := O578.pR e580 hh581 (okR_l rE_1012_44 (pN_T hh576) (pN_L hh576))
    refine g_aload_n C rfl 0 rfl dX12_init_490 ?_
    refine g_bipush C (by decide) dX12_init_491 ?_
    refine g_newa (atype := .int) (t := 0) (ty := .int) (N := 40) C 145100 rfl (iw (il 40) (by decide) (by decide)) (by decide) rfl kw_224 rfl (fun _ => rfl) (by decide) (by decide) (by decide) (by decide) dX12_init_493 (fun n584 z585 z586 h588 hh587 => ?_)
    have O589 := O583.pN z585 z586 hh587 (by decide) nn_145100
    have e590 : Tg h582 a0 = 1012 := ((pRT hh581).trans e580)
    have e591 : Tg h588 a0 = 1012 := ((pNT hh587 (pN_n hh587 z586 e590)).trans e590)
    refine gp_RF C fk_LandSurveyModel_185 pk_LandSurveyModel_45 rfl e591 hn rfl (nf_a _ _) dX12_init_495 (fun h593 hh592 => ?_)
    have O594 := O589.pR e591 hh592 (okR_l rE_1012_45 (pN_T hh587) (pN_L hh587))
    refine g_aload_n C rfl 0 rfl dX12_init_498 ?_
    refine g_bipush C (by decide) dX12_init_499 ?_
    refine g_newa (atype := .int) (t := 0) (ty := .int) (N := 40) C 146100 rfl (iw (il 40) (by decide) (by decide)) (by decide) rfl kw_224 rfl (fun _ => rfl) (by decide) (by decide) (by decide) (by decide) dX12_init_501 (fun n595 z596 z597 h599 hh598 => ?_)
    have O600 := O594.pN z596 z597 hh598 (by decide) nn_146100
    have e601 : Tg h593 a0 = 1012 := ((pRT hh592).trans e591)
    have e602 : Tg h599 a0 = 1012 := ((pNT hh598 (pN_n hh598 z597 e601)).trans e601)
    refine gp_RF C fk_LandSurveyModel_188 pk_LandSurveyModel_46 rfl e602 hn rfl (nf_a _ _) dX12_init_503 (fun h604 hh603 => ?_)
    have O605 := O600.pR e602 hh603 (okR_l rE_1012_46 (pN_T hh598) (pN_L hh598))
    refine g_aload_n C rfl 0 rfl dX12_init_506 ?_
    refine g_bipush C (by decide) dX12_init_507 ?_
    refine g_newa (atype := .int) (t := 0) (ty := .int) (N := 40) C 147100 rfl (iw (il 40) (by decide) (by decide)) (by decide) rfl kw_224 rfl (fun _ => rfl) (by decide) (by decide) (by decide) (by decide) dX12_init_509 (fun n606 z607 z608 h610 hh609 => ?_)
    have O611 := O605.pN z607 z608 hh609 (by decide) nn_147100
    have e612 : Tg h604 a0 = 1012 := ((pRT hh603).trans e602)
    have e613 : Tg h610 a0 = 1012 := ((pNT hh609 (pN_n hh609 z608 e612)).trans e612)
    refine gp_RF C fk_LandSurveyModel_191 pk_LandSurveyModel_47 rfl e613 hn rfl (nf_a _ _) dX12_init_511 (fun h615 hh614 => ?_)
    have O616 := O611.pR e613 hh614 (okR_l rE_1012_47 (pN_T hh609) (pN_L hh609))
    refine g_aload_n C rfl 0 rfl dX12_init_514 ?_
    refine g_bipush C (by decide) dX12_init_515 ?_
    refine g_newa (atype := .int) (t := 0) (ty := .int) (N := 40) C 148100 rfl (iw (il 40) (by decide) (by decide)) (by decide) rfl kw_224 rfl (fun _ => rfl) (by decide) (by decide) (by decide) (by decide) dX12_init_517 (fun n617 z618 z619 h621 hh620 => ?_)
    have O622 := O616.pN z618 z619 hh620 (by decide) nn_148100
    have e623 : Tg h615 a0 = 1012 := ((pRT hh614).trans e613)
    have e624 : Tg h621 a0 = 1012 := ((pNT hh620 (pN_n hh620 z619 e623)).trans e623)
    refine gp_RF C fk_LandSurveyModel_194 pk_LandSurveyModel_48 rfl e624 hn rfl (nf_a _ _) dX12_init_519 (fun h626 hh625 => ?_)
    have O627 := O622.pR e624 hh625 (okR_l rE_1012_48 (pN_T hh620) (pN_L hh620))
    refine g_aload_n C rfl 0 rfl dX12_init_522 ?_
    refine g_bipush C (by decide) dX12_init_523 ?_
    refine g_newa (atype := .int) (t := 0) (ty := .int) (N := 40) C 149100 rfl (iw (il 40) (by decide) (by decide)) (by decide) rfl kw_224 rfl (fun _ => rfl) (by decide) (by decide) (by decide) (by decide) dX12_init_525 (fun n628 z629 z630 h632 hh631 => ?_)
    have O633 := O627.pN z629 z630 hh631 (by decide) nn_149100
    have e634 : Tg h626 a0 = 1012 := ((pRT hh625).trans e624)
    have e635 : Tg h632 a0 = 1012 := ((pNT hh631 (pN_n hh631 z630 e634)).trans e634)
    refine gp_RF C fk_LandSurveyModel_197 pk_LandSurveyModel_49 rfl e635 hn rfl (nf_a _ _) dX12_init_527 (fun h637 hh636 => ?_)
    have O638 := O633.pR e635 hh636 (okR_l rE_1012_49 (pN_T hh631) (pN_L hh631))
    refine g_aload_n C rfl 0 rfl dX12_init_530 ?_
    refine g_bipush C (by decide) dX12_init_531 ?_
    refine g_newa (atype := .int) (t := 0) (ty := .int) (N := 40) C 150100 rfl (iw (il 40) (by decide) (by decide)) (by decide) rfl kw_224 rfl (fun _ => rfl) (by decide) (by decide) (by decide) (by decide) dX12_init_533 (fun n639 z640 z641 h643 hh642 => ?_)
    have O644 := O638.pN z640 z641 hh642 (by decide) nn_150100
    have e645 : Tg h637 a0 = 1012 := ((pRT hh636).trans e635)
    have e646 : Tg h643 a0 = 1012 := ((pNT hh642 (pN_n hh642 z641 e645)).trans e645)
    refine gp_RF C fk_LandSurveyModel_200 pk_LandSurveyModel_50 rfl e646 hn rfl (nf_a _ _) dX12_init_535 (fun h648 hh647 => ?_)
    have O649 := O644.pR e646 hh647 (okR_l rE_1012_50 (pN_T hh642) (pN_L hh642))
    refine GW.sub [0] rfl ?_
    have p650 := (NZ_fx ((Fx.rf (wr := [202450]) (h := h643)).pR e646 hh647 rfl) e646 (by decide) (NZ_fx ((Fx.rf (wr := [1000150100]) (h := h637)).pN z641 hh642 rfl) e645 (by decide) (NZ_fx ((Fx.rf (wr := [202449]) (h := h632)).pR e635 hh636 rfl) e635 (by decide) (NZ_fx ((Fx.rf (wr := [1000149100]) (h := h626)).pN z630 hh631 rfl) e634 (by decide) (NZ_fx ((Fx.rf (wr := [202448]) (h := h621)).pR e624 hh625 rfl) e624 (by decide) (NZ_fx ((Fx.rf (wr := [1000148100]) (h := h615)).pN z619 hh620 rfl) e623 (by decide) (NZ_fx ((Fx.rf (wr := [202447]) (h := h610)).pR e613 hh614 rfl) e613 (by decide) (NZ_fx ((Fx.rf (wr := [1000147100]) (h := h604)).pN z608 hh609 rfl) e612 (by decide) (NZ_fx ((Fx.rf (wr := [202446]) (h := h599)).pR e602 hh603 rfl) e602 (by decide) (NZ_fx ((Fx.rf (wr := [1000146100]) (h := h593)).pN z597 hh598 rfl) e601 (by decide) (NZ_fx ((Fx.rf (wr := [202445]) (h := h588)).pR e591 hh592 rfl) e591 (by decide) (NZ_fx ((Fx.rf (wr := [1000145100]) (h := h582)).pN z586 hh587 rfl) e590 (by decide) (NZ_fx ((Fx.rf (wr := [202444]) (h := h577)).pR e580 hh581 rfl) e580 (by decide) (NZ_fx ((Fx.rf (wr := [1000144100]) (h := h571)).pN z575 hh576 rfl) e579 (by decide) (NZ_fx ((Fx.rf (wr := [202443]) (h := h566)).pR e569 hh570 rfl) e569 (by decide) (NZ_fx ((Fx.rf (wr := [1000143100]) (h := h555)).pN z564 hh565 rfl) e568 (by decide) p559))))))))))))))))
    have e651 : Rv h648 a0 43 = n562 := ((pR_j hh647 (by decide)).trans ((pNR hh642 (pN_n hh642 z641 e645)).trans ((pR_j hh636 (by decide)).trans ((pNR hh631 (pN_n hh631 z630 e634)).trans ((pR_j hh625 (by decide)).trans ((pNR hh620 (pN_n hh620 z619 e623)).trans ((pR_j hh614 (by decide)).trans ((pNR hh609 (pN_n hh609 z608 e612)).trans ((pR_j hh603 (by decide)).trans ((pNR hh598 (pN_n hh598 z597 e601)).trans ((pR_j hh592 (by decide)).trans ((pNR hh587 (pN_n hh587 z586 e590)).trans ((pR_j hh581 (by decide)).trans ((pNR hh576 (pN_n hh576 z575 e579)).trans (pR_e hh570)))))))))))))))
    have e652 : Tg h571 n562 = 143100 := ((pRT hh570).trans (pN_T hh565))
    have e653 : Tg h582 n562 = 143100 := ((pRT hh581).trans ((pNT hh576 (pN_n hh576 z575 e652)).trans e652))
    have e654 : Tg h593 n562 = 143100 := ((pRT hh592).trans ((pNT hh587 (pN_n hh587 z586 e653)).trans e653))
    have e655 : Tg h604 n562 = 143100 := ((pRT hh603).trans ((pNT hh598 (pN_n hh598 z597 e654)).trans e654))
    have e656 : Tg h615 n562 = 143100 := ((pRT hh614).trans ((pNT hh609 (pN_n hh609 z608 e655)).trans e655))
    have e657 : Tg h626 n562 = 143100 := ((pRT hh625).trans ((pNT hh620 (pN_n hh620 z619 e656)).trans e656))
    have e658 : Tg h637 n562 = 143100 := ((pRT hh636).trans ((pNT hh631 (pN_n hh631 z630 e657)).trans e657))
    have e659 : Tg h648 n562 = 143100 := ((pRT hh647).trans ((pNT hh642 (pN_n hh642 z641 e658)).trans e658))
    have e660 : Rv h648 a0 44 = n573 := ((pR_j hh647 (by decide)).trans ((pNR hh642 (pN_n hh642 z641 e645)).trans ((pR_j hh636 (by decide)).trans ((pNR hh631 (pN_n hh631 z630 e634)).trans ((pR_j hh625 (by decide)).trans ((pNR hh620 (pN_n hh620 z619 e623)).trans ((pR_j hh614 (by decide)).trans ((pNR hh609 (pN_n hh609 z608 e612)).trans ((pR_j hh603 (by decide)).trans ((pNR hh598 (pN_n hh598 z597 e601)).trans ((pR_j hh592 (by decide)).trans ((pNR hh587 (pN_n hh587 z586 e590)).trans (pR_e hh581)))))))))))))
    have e661 : Tg h582 n573 = 144100 := ((pRT hh581).trans (pN_T hh576))
    have e662 : Tg h593 n573 = 144100 := ((pRT hh592).trans ((pNT hh587 (pN_n hh587 z586 e661)).trans e661))
    have e663 : Tg h604 n573 = 144100 := ((pRT hh603).trans ((pNT hh598 (pN_n hh598 z597 e662)).trans e662))
    have e664 : Tg h615 n573 = 144100 := ((pRT hh614).trans ((pNT hh609 (pN_n hh609 z608 e663)).trans e663))
    have e665 : Tg h626 n573 = 144100 := ((pRT hh625).trans ((pNT hh620 (pN_n hh620 z619 e664)).trans e664))
    have e666 : Tg h637 n573 = 144100 := ((pRT hh636).trans ((pNT hh631 (pN_n hh631 z630 e665)).trans e665))
    have e667 : Tg h648 n573 = 144100 := ((pRT hh647).trans ((pNT hh642 (pN_n hh642 z641 e666)).trans e666))
    have e668 : Rv h648 a0 45 = n584 := ((pR_j hh647 (by decide)).trans ((pNR hh642 (pN_n hh642 z641 e645)).trans ((pR_j hh636 (by decide)).trans ((pNR hh631 (pN_n hh631 z630 e634)).trans ((pR_j hh625 (by decide)).trans ((pNR hh620 (pN_n hh620 z619 e623)).trans ((pR_j hh614 (by decide)).trans ((pNR hh609 (pN_n hh609 z608 e612)).trans ((pR_j hh603 (by decide)).trans ((pNR hh598 (pN_n hh598 z597 e601)).trans (pR_e hh592)))))))))))
    have e669 : Tg h593 n584 = 145100 := ((pRT hh592).trans (pN_T hh587))
    have e670 : Tg h604 n584 = 145100 := ((pRT hh603).trans ((pNT hh598 (pN_n hh598 z597 e669)).trans e669))
    have e671 : Tg h615 n584 = 145100 := ((pRT hh614).trans ((pNT hh609 (pN_n hh609 z608 e670)).trans e670))
    have e672 : Tg h626 n584 = 145100 := ((pRT hh625).trans ((pNT hh620 (pN_n hh620 z619 e671)).trans e671))
    have e673 : Tg h637 n584 = 145100 := ((pRT hh636).trans ((pNT hh631 (pN_n hh631 z630 e672)).trans e672))
    have e674 : Tg h648 n584 = 145100 := ((pRT hh647).trans ((pNT hh642 (pN_n hh642 z641 e673)).trans e673))
    have e675 : Rv h648 a0 46 = n595 := ((pR_j hh647 (by decide)).trans ((pNR hh642 (pN_n hh642 z641 e645)).trans ((pR_j hh636 (by decide)).trans ((pNR hh631 (pN_n hh631 z630 e634)).trans ((pR_j hh625 (by decide)).trans ((pNR hh620 (pN_n hh620 z619 e623)).trans ((pR_j hh614 (by decide)).trans ((pNR hh609 (pN_n hh609 z608 e612)).trans (pR_e hh603)))))))))
    have e676 : Tg h604 n595 = 146100 := ((pRT hh603).trans (pN_T hh598))
    have e677 : Tg h615 n595 = 146100 := ((pRT hh614).trans ((pNT hh609 (pN_n hh609 z608 e676)).trans e676))
    have e678 : Tg h626 n595 = 146100 := ((pRT hh625).trans ((pNT hh620 (pN_n hh620 z619 e677)).trans e677))
    have e679 : Tg h637 n595 = 146100 := ((pRT hh636).trans ((pNT hh631 (pN_n hh631 z630 e678)).trans e678))
    have e680 : Tg h648 n595 = 146100 := ((pRT hh647).trans ((pNT hh642 (pN_n hh642 z641 e679)).trans e679))
    have e681 : Rv h648 a0 47 = n606 := ((pR_j hh647 (by decide)).trans ((pNR hh642 (pN_n hh642 z641 e645)).trans ((pR_j hh636 (by decide)).trans ((pNR hh631 (pN_n hh631 z630 e634)).trans ((pR_j hh625 (by decide)).trans ((pNR hh620 (pN_n hh620 z619 e623)).trans (pR_e hh614)))))))
    have e682 : Tg h615 n606 = 147100 := ((pRT hh614).trans (pN_T hh609))
    have e683 : Tg h626 n606 = 147100 := ((pRT hh625).trans ((pNT hh620 (pN_n hh620 z619 e682)).trans e682))
    have e684 : Tg h637 n606 = 147100 := ((pRT hh636).trans ((pNT hh631 (pN_n hh631 z630 e683)).trans e683))
    have e685 : Tg h648 n606 = 147100 := ((pRT hh647).trans ((pNT hh642 (pN_n hh642 z641 e684)).trans e684))
    have e686 : Rv h648 a0 48 = n617 := ((pR_j hh647 (by decide)).trans ((pNR hh642 (pN_n hh642 z641 e645)).trans ((pR_j hh636 (by decide)).trans ((pNR hh631 (pN_n hh631 z630 e634)).trans (pR_e hh625)))))
    have e687 : Tg h626 n617 = 148100 := ((pRT hh625).trans (pN_T hh620))
    have e688 : Tg h637 n617 = 148100 := ((pRT hh636).trans ((pNT hh631 (pN_n hh631 z630 e687)).trans e687))
    have e689 : Tg h648 n617 = 148100 := ((pRT hh647).trans ((pNT hh642 (pN_n hh642 z641 e688)).trans e688))
    have e690 : Rv h648 a0 49 = n628 := ((pR_j hh647 (by decide)).trans ((pNR hh642 (pN_n hh642 z641 e645)).trans (pR_e hh636)))
    have e691 : Tg h637 n628 = 149100 := ((pRT hh636).trans (pN_T hh631))
    have e692 : Tg h648 n628 = 149100 := ((pRT hh647).trans ((pNT hh642 (pN_n hh642 z641 e691)).trans e691))
    have e693 : Tg h648 n639 = 150100 := ((pRT hh647).trans (pN_T hh642))
    have p694 := (LZR_fx ((Fx.rf (wr := [202450]) (h := h643)).pR e646 hh647 rfl) e646 rfl (LZR_fx ((Fx.rf (wr := [1000150100]) (h := h637)).pN z641 hh642 rfl) e645 rfl (LZR_fx ((Fx.rf (wr := [202449]) (h := h632)).pR e635 hh636 rfl) e635 rfl (LZR_fx ((Fx.rf (wr := [1000149100]) (h := h626)).pN z630 hh631 rfl) e634 rfl (LZR_fx ((Fx.rf (wr := [202448]) (h := h621)).pR e624 hh625 rfl) e624 rfl (LZR_fx ((Fx.rf (wr := [1000148100]) (h := h615)).pN z619 hh620 rfl) e623 rfl (LZR_fx ((Fx.rf (wr := [202447]) (h := h610)).pR e613 hh614 rfl) e613 rfl (LZR_fx ((Fx.rf (wr := [1000147100]) (h := h604)).pN z608 hh609 rfl) e612 rfl (LZR_fx ((Fx.rf (wr := [202446]) (h := h599)).pR e602 hh603 rfl) e602 rfl (LZR_fx ((Fx.rf (wr := [1000146100]) (h := h593)).pN z597 hh598 rfl) e601 rfl (LZR_fx ((Fx.rf (wr := [202445]) (h := h588)).pR e591 hh592 rfl) e591 rfl (LZR_fx ((Fx.rf (wr := [1000145100]) (h := h582)).pN z586 hh587 rfl) e590 rfl (LZR_fx ((Fx.rf (wr := [202444]) (h := h577)).pR e580 hh581 rfl) e580 rfl (LZR_fx ((Fx.rf (wr := [1000144100]) (h := h571)).pN z575 hh576 rfl) e579 rfl (LZR_fx ((Fx.rf (wr := [202443]) (h := h566)).pR e569 hh570 rfl) e569 rfl (LZR_fx ((Fx.rf (wr := [1000143100]) (h := h555)).pN z564 hh565 rfl) e568 rfl p560))))))))))))))))
    exact J416 _ O649 ((((((((((((((((((Fx.rf (wr := [202401, 202404, 202405, 202406, 202409, 202411, 202412, 202413, 202414, 202415, 202416, 202417, 202418, 202419, 202420, 202421, 202422, 202423, 202424, 202425, 202426, 202427, 202429, 202430, 202431, 202432, 202434, 202435, 202436, 202437, 202438, 202439, 202441, 202442, 202443, 202444, 202445, 202446, 202447, 202448, 202449, 202450, 202451, 202452, 202453, 202454, 202455, 202456, 202458, 202459, 202460, 202461, 202463, 202464, 202465, 202466, 202467, 202468, 202470, 202471, 202472, 202473, 202474, 202475, 202476, 202481, 202482, 202484, 202485, 202486, 21820400, 27220000, 27420200, 27820000, 1000101100, 1000104100, 1000105100, 1000106102, 1000109102, 1000111100, 1000112100, 1000113102, 1000114100, 1000115100, 1000116101, 1000117101, 1000118101, 1000119100, 1000120101, 1000121100, 1000122100, 1000123100, 1000124100, 1000125100, 1000126100, 1000127100, 1000129100, 1000130100, 1000131100, 1000132100, 1000136100, 1000137101, 1000138101, 1000139100, 1000141100, 1000142100, 1000143100, 1000144100, 1000145100, 1000146100, 1000147100, 1000148100, 1000149100, 1000150100, 1000151100, 1000152101, 1000153101, 1000154100, 1000155100, 1000156100, 1000158101, 1000159100, 1000160100, 1000161100, 1000163100, 1000164100, 1000165100, 1000166100, 1000167100, 1000168100, 1000170101, 1000171100, 1000172102, 1000173101, 1000174101, 1000175100, 1000176100, 1000181100, 1000182101, 1000184100, 1000185100, 1000186100]) (h := h)).call F558 rfl).pN z564 hh565 rfl).pR e569 hh570 rfl).pN z575 hh576 rfl).pR e580 hh581 rfl).pN z586 hh587 rfl).pR e591 hh592 rfl).pN z597 hh598 rfl).pR e602 hh603 rfl).pN z608 hh609 rfl).pR e613 hh614 rfl).pN z619 hh620 rfl).pR e624 hh625 rfl).pN z630 hh631 rfl).pR e635 hh636 rfl).pN z641 hh642 rfl).pR e646 hh647 rfl) (NZ_cons (by rw [(pR_e hh647)]; exact nz_of O649 e693) (NZ_cons (by rw [e690]; exact nz_of O649 e692) (NZ_cons (by rw [e686]; exact nz_of O649 e689) (NZ_cons (by rw [e681]; exact nz_of O649 e685) (NZ_cons (by rw [e675]; exact nz_of O649 e680) (NZ_cons (by rw [e668]; exact nz_of O649 e674) (NZ_cons (by rw [e660]; exact nz_of O649 e667) (NZ_cons (by rw [e651]; exact nz_of O649 e659) p650)))))))) p694
  have J696 : ∀ (h695 : Hp), Okh h695 → Fx [202401, 202404, 202405, 202406, 202409, 202411, 202412, 202413, 202414, 202415, 202416, 202417, 202418, 202419, 202420, 202421, 202422, 202423, 202424, 202425, 202426, 202427, 202429, 202430, 202431, 202432, 202434, 202435, 202436, 202437, 202438, 202439, 202441, 202442, 202443, 202444, 202445, 202446, 202447, 202448, 202449, 202450, 202451, 202452, 202453, 202454, 202455, 202456, 202458, 202459, 202460, 202461, 202463, 202464, 202465, 202466, 202467, 202468, 202470, 202471, 202472, 202473, 202474, 202475, 202476, 202481, 202482, 202484, 202485, 202486, 21820400, 27220000, 27420200, 27820000, 1000101100, 1000104100, 1000105100, 1000106102, 1000109102, 1000111100, 1000112100, 1000113102, 1000114100, 1000115100, 1000116101, 1000117101, 1000118101, 1000119100, 1000120101, 1000121100, 1000122100, 1000123100, 1000124100, 1000125100, 1000126100, 1000127100, 1000129100, 1000130100, 1000131100, 1000132100, 1000136100, 1000137101, 1000138101, 1000139100, 1000141100, 1000142100, 1000143100, 1000144100, 1000145100, 1000146100, 1000147100, 1000148100, 1000149100, 1000150100, 1000151100, 1000152101, 1000153101, 1000154100, 1000155100, 1000156100, 1000158101, 1000159100, 1000160100, 1000161100, 1000163100, 1000164100, 1000165100, 1000166100, 1000167100, 1000168100, 1000170101, 1000171100, 1000172102, 1000173101, 1000174101, 1000175100, 1000176100, 1000181100, 1000182101, 1000184100, 1000185100, 1000186100] h h695 → NZ h695 a0 [30, 29, 27, 26, 25, 24, 23, 22, 21, 20, 19, 18, 17, 16, 15, 14, 13, 12, 11, 9, 6, 5, 4, 1] → LZR h695 a0 → GW p l e (rmm 1 24 68 46508) s m (List.map toV [.inr (.inr a0)]).toArray below meth c D cy z0 2 (MQ below (QV D cy z0 (fun h1 => Okh h1 ∧ Fx wr_k3_X12_init h h1 ∧ (¬ Rv h1 a0 1 = 0) ∧ (¬ Rv h1 a0 4 = 0) ∧ (¬ Rv h1 a0 5 = 0) ∧ (¬ Rv h1 a0 6 = 0) ∧ (¬ Rv h1 a0 9 = 0) ∧ (¬ Rv h1 a0 11 = 0) ∧ (¬ Rv h1 a0 12 = 0) ∧ (¬ Rv h1 a0 13 = 0) ∧ (¬ Rv h1 a0 14 = 0) ∧ (¬ Rv h1 a0 15 = 0) ∧ (¬ Rv h1 a0 16 = 0) ∧ (¬ Rv h1 a0 17 = 0) ∧ (¬ Rv h1 a0 18 = 0) ∧ (¬ Rv h1 a0 19 = 0) ∧ (¬ Rv h1 a0 20 = 0) ∧ (¬ Rv h1 a0 21 = 0) ∧ (¬ Rv h1 a0 22 = 0) ∧ (¬ Rv h1 a0 23 = 0) ∧ (¬ Rv h1 a0 24 = 0) ∧ (¬ Rv h1 a0 25 = 0) ∧ (¬ Rv h1 a0 26 = 0) ∧ (¬ Rv h1 a0 27 = 0) ∧ (¬ Rv h1 a0 29 = 0) ∧ (¬ Rv h1 a0 30 = 0) ∧ (¬ Rv h1 a0 31 = 0) ∧ (¬ Rv h1 a0 32 = 0) ∧ (¬ Rv h1 a0 36 = 0) ∧ (¬ Rv h1 a0 37 = 0) ∧ (¬ Rv h1 a0 38 = 0) ∧ (¬ Rv h1 a0 39 = 0) ∧ (¬ Rv h1 a0 41 = 0) ∧ (¬ Rv h1 a0 42 = 0) ∧ (¬ Rv h1 a0 43 = 0) ∧ (¬ Rv h1 a0 44 = 0) ∧ (¬ Rv h1 a0 45 = 0) ∧ (¬ Rv h1 a0 46 = 0) ∧ (¬ Rv h1 a0 47 = 0) ∧ (¬ Rv h1 a0 48 = 0) ∧ (¬ Rv h1 a0 49 = 0) ∧ (¬ Rv h1 a0 50 = 0) ∧ (¬ Rv h1 a0 51 = 0) ∧ (¬ Rv h1 a0 52 = 0) ∧ (¬ Rv h1 a0 53 = 0) ∧ (¬ Rv h1 a0 54 = 0) ∧ (¬ Rv h1 a0 55 = 0) ∧ (¬ Rv h1 a0 56 = 0) ∧ (¬ Rv h1 a0 58 = 0) ∧ (¬ Rv h1 a0 59 = 0) ∧ (¬ Rv h1 a0 60 = 0) ∧ (¬ Rv h1 a0 61 = 0) ∧ (¬ Rv h1 a0 63 = 0) ∧ (¬ Rv h1 a0 64 = 0) ∧ (¬ Rv h1 a0 65 = 0) ∧ (¬ Rv h1 a0 66 = 0) ∧ (¬ Rv h1 a0 67 = 0) ∧ (¬ Rv h1 a0 68 = 0) ∧ (¬ Rv h1 a0 70 = 0) ∧ (¬ Rv h1 a0 71 = 0) ∧ (¬ Rv h1 a0 72 = 0) ∧ (¬ Rv h1 a0 73 = 0) ∧ (¬ Rv h1 a0 74 = 0) ∧ (¬ Rv h1 a0 75 = 0) ∧ (¬ Rv h1 a0 76 = 0) ∧ (¬ Rv h1 a0 81 = 0) ∧ (¬ Rv h1 a0 82 = 0) ∧ (¬ Rv h1 a0 84 = 0) ∧ (¬ Rv h1 a0 85 = 0) ∧ (¬ Rv h1 a0 86 = 0) ∧ (MInv h1 a0) ∧ (Qm 82 h1 a0 = zer1))) (List.map toV [.inr (.inr a0)]).toArray s 68 46508 (Aof z0)) 409 [(0, .inr (.inr a0))] [] h695 24 36177 := by
    intro h695 O697 F698 p699 p700
    refine g_aload_n C rfl 0 rfl dX12_init_409 ?_
    refine g_bipush C (by decide) dX12_init_410 ?_
    refine g_newa (atype := .int) (t := 0) (ty := .int) (N := 12) C 131100 rfl (iw (il 12) (by decide) (by decide)) (by decide) rfl kw_224 rfl (fun _ => rfl) (by decide) (by decide) (by decide) (by decide) dX12_init_412 (fun n702 z703 z704 h706 hh705 => ?_)
    have O707 := O697.pN z703 z704 hh705 (by decide) nn_131100
    have e708 : Tg h695 a0 = 1012 := (fxT F698 ta0)
    have e709 : Tg h706 a0 = 1012 := ((pNT hh705 (pN_n hh705 z704 e708)).trans e708)
    refine gp_RF C fk_LandSurveyModel_155 pk_LandSurveyModel_31 rfl e709 hn rfl (nf_a _ _) dX12_init_414 (fun h711 hh710 => ?_)
    have O712 := O707.pR e709 hh710 (okR_l rE_1012_31 (pN_T hh705) (pN_L hh705))
    refine g_aload_n C rfl 0 rfl dX12_init_417 ?_
    refine g_sipush C (by decide) dX12_init_418 ?_
    refine g_newa (atype := .int) (t := 0) (ty := .int) (N := 1600) C 132100 rfl (iw (il 1600) (by decide) (by decide)) (by decide) rfl kw_224 rfl (fun _ => rfl) (by decide) (by decide) (by decide) (by decide) dX12_init_421 (fun n713 z714 z715 h717 hh716 => ?_)
    have O718 := O712.pN z714 z715 hh716 (by decide) nn_132100
    have e719 : Tg h711 a0 = 1012 := ((pRT hh710).trans e709)
    have e720 : Tg h717 a0 = 1012 := ((pNT hh716 (pN_n hh716 z715 e719)).trans e719)
    refine gp_RF C fk_LandSurveyModel_158 pk_LandSurveyModel_32 rfl e720 hn rfl (nf_a _ _) dX12_init_423 (fun h722 hh721 => ?_)
    have O723 := O718.pR e720 hh721 (okR_l rE_1012_32 (pN_T hh716) (pN_L hh716))
    refine g_aload_n C rfl 0 rfl dX12_init_426 ?_
    refine g_bipush C (by decide) dX12_init_427 ?_
    refine g_newa (atype := .int) (t := 0) (ty := .int) (N := 96) C 136100 rfl (iw (il 96) (by decide) (by decide)) (by decide) rfl kw_224 rfl (fun _ => rfl) (by decide) (by decide) (by decide) (by decide) dX12_init_429 (fun n724 z725 z726 h728 hh727 => ?_)
    have O729 := O723.pN z725 z726 hh727 (by decide) nn_136100
    have e730 : Tg h722 a0 = 1012 := ((pRT hh721).trans e720)
    have e731 : Tg h728 a0 = 1012 := ((pNT hh727 (pN_n hh727 z726 e730)).trans e730)
    refine gp_RF C fk_LandSurveyModel_161 pk_LandSurveyModel_36 rfl e731 hn rfl (nf_a _ _) dX12_init_431 (fun h733 hh732 => ?_)
    have O734 := O729.pR e731 hh732 (okR_l rE_1012_36 (pN_T hh727) (pN_L hh727))
    refine g_aload_n C rfl 0 rfl dX12_init_434 ?_
    refine g_bipush C (by decide) dX12_init_435 ?_
    refine g_newa (atype := .boolean) (t := 1) (ty := .boolean) (N := 96) C 137101 rfl (iw (il 96) (by decide) (by decide)) (by decide) rfl kw_225 rfl (fun _ => rfl) (by decide) (by decide) (by decide) (by decide) dX12_init_437 (fun n735 z736 z737 h739 hh738 => ?_)
    have O740 := O734.pN z736 z737 hh738 (by decide) nn_137101
    have e741 : Tg h733 a0 = 1012 := ((pRT hh732).trans e731)
    have e742 : Tg h739 a0 = 1012 := ((pNT hh738 (pN_n hh738 z737 e741)).trans e741)
    refine gp_RF C fk_LandSurveyModel_164 pk_LandSurveyModel_37 rfl e742 hn rfl (nf_a _ _) dX12_init_439 (fun h744 hh743 => ?_)
    have O745 := O740.pR e742 hh743 (okR_l rE_1012_37 (pN_T hh738) (pN_L hh738))
    refine g_aload_n C rfl 0 rfl dX12_init_442 ?_
    refine g_bipush C (by decide) dX12_init_443 ?_
    refine g_newa (atype := .boolean) (t := 1) (ty := .boolean) (N := 96) C 138101 rfl (iw (il 96) (by decide) (by decide)) (by decide) rfl kw_225 rfl (fun _ => rfl) (by decide) (by decide) (by decide) (by decide) dX12_init_445 (fun n746 z747 z748 h750 hh749 => ?_)
    have O751 := O745.pN z747 z748 hh749 (by decide) nn_138101
    have e752 : Tg h744 a0 = 1012 := ((pRT hh743).trans e742)
    have e753 : Tg h750 a0 = 1012 := ((pNT hh749 (pN_n hh749 z748 e752)).trans e752)
    refine gp_RF C fk_LandSurveyModel_167 pk_LandSurveyModel_38 rfl e753 hn rfl (nf_a _ _) dX12_init_447 (fun h755 hh754 => ?_)
    have O756 := O751.pR e753 hh754 (okR_l rE_1012_38 (pN_T hh749) (pN_L hh749))
    refine g_aload_n C rfl 0 rfl dX12_init_450 ?_
    refine g_bipush C (by decide) dX12_init_451 ?_
    refine g_newa (atype := .int) (t := 0) (ty := .int) (N := 96) C 139100 rfl (iw (il 96) (by decide) (by decide)) (by decide) rfl kw_224 rfl (fun _ => rfl) (by decide) (by decide) (by decide) (by decide) dX12_init_453 (fun n757 z758 z759 h761 hh760 => ?_)
    have O762 := O756.pN z758 z759 hh760 (by decide) nn_139100
    have e763 : Tg h755 a0 = 1012 := ((pRT hh754).trans e753)
    have e764 : Tg h761 a0 = 1012 := ((pNT hh760 (pN_n hh760 z759 e763)).trans e763)
    refine gp_RF C fk_LandSurveyModel_170 pk_LandSurveyModel_39 rfl e764 hn rfl (nf_a _ _) dX12_init_455 (fun h766 hh765 => ?_)
    have O767 := O762.pR e764 hh765 (okR_l rE_1012_39 (pN_T hh760) (pN_L hh760))
    refine g_aload_n C rfl 0 rfl dX12_init_458 ?_
    refine g_bipush C (by decide) dX12_init_459 ?_
    refine g_newa (atype := .int) (t := 0) (ty := .int) (N := 40) C 141100 rfl (iw (il 40) (by decide) (by decide)) (by decide) rfl kw_224 rfl (fun _ => rfl) (by decide) (by decide) (by decide) (by decide) dX12_init_461 (fun n768 z769 z770 h772 hh771 => ?_)
    have O773 := O767.pN z769 z770 hh771 (by decide) nn_141100
    have e774 : Tg h766 a0 = 1012 := ((pRT hh765).trans e764)
    have e775 : Tg h772 a0 = 1012 := ((pNT hh771 (pN_n hh771 z770 e774)).trans e774)
    refine gp_RF C fk_LandSurveyModel_173 pk_LandSurveyModel_41 rfl e775 hn rfl (nf_a _ _) dX12_init_463 (fun h777 hh776 => ?_)
    have O778 := O773.pR e775 hh776 (okR_l rE_1012_41 (pN_T hh771) (pN_L hh771))
    refine g_aload_n C rfl 0 rfl dX12_init_466 ?_
    refine g_bipush C (by decide) dX12_init_467 ?_
    refine g_newa (atype := .int) (t := 0) (ty := .int) (N := 40) C 142100 rfl (iw (il 40) (by decide) (by decide)) (by decide) rfl kw_224 rfl (fun _ => rfl) (by decide) (by decide) (by decide) (by decide) dX12_init_469 (fun n779 z780 z781 h783 hh782 => ?_)
    have O784 := O778.pN z780 z781 hh782 (by decide) nn_142100
    have e785 : Tg h777 a0 = 1012 := ((pRT hh776).trans e775)
    have e786 : Tg h783 a0 = 1012 := ((pNT hh782 (pN_n hh782 z781 e785)).trans e785)
    refine gp_RF C fk_LandSurveyModel_176 pk_LandSurveyModel_42 rfl e786 hn rfl (nf_a _ _) dX12_init_471 (fun h788 hh787 => ?_)
    have O789 := O784.pR e786 hh787 (okR_l rE_1012_42 (pN_T hh782) (pN_L hh782))
    refine GW.sub [0] rfl ?_
    have p790 := (NZ_fx ((Fx.rf (wr := [202442]) (h := h783)).pR e786 hh787 rfl) e786 (by decide) (NZ_fx ((Fx.rf (wr := [1000142100]) (h := h777)).pN z781 hh782 rfl) e785 (by decide) (NZ_fx ((Fx.rf (wr := [202441]) (h := h772)).pR e775 hh776 rfl) e775 (by decide) (NZ_fx ((Fx.rf (wr := [1000141100]) (h := h766)).pN z770 hh771 rfl) e774 (by decide) (NZ_fx ((Fx.rf (wr := [202439]) (h := h761)).pR e764 hh765 rfl) e764 (by decide) (NZ_fx ((Fx.rf (wr := [1000139100]) (h := h755)).pN z759 hh760 rfl) e763 (by decide) (NZ_fx ((Fx.rf (wr := [202438]) (h := h750)).pR e753 hh754 rfl) e753 (by decide) (NZ_fx ((Fx.rf (wr := [1000138101]) (h := h744)).pN z748 hh749 rfl) e752 (by decide) (NZ_fx ((Fx.rf (wr := [202437]) (h := h739)).pR e742 hh743 rfl) e742 (by decide) (NZ_fx ((Fx.rf (wr := [1000137101]) (h := h733)).pN z737 hh738 rfl) e741 (by decide) (NZ_fx ((Fx.rf (wr := [202436]) (h := h728)).pR e731 hh732 rfl) e731 (by decide) (NZ_fx ((Fx.rf (wr := [1000136100]) (h := h722)).pN z726 hh727 rfl) e730 (by decide) (NZ_fx ((Fx.rf (wr := [202432]) (h := h717)).pR e720 hh721 rfl) e720 (by decide) (NZ_fx ((Fx.rf (wr := [1000132100]) (h := h711)).pN z715 hh716 rfl) e719 (by decide) (NZ_fx ((Fx.rf (wr := [202431]) (h := h706)).pR e709 hh710 rfl) e709 (by decide) (NZ_fx ((Fx.rf (wr := [1000131100]) (h := h695)).pN z704 hh705 rfl) e708 (by decide) p699))))))))))))))))
    have e791 : Rv h788 a0 31 = n702 := ((pR_j hh787 (by decide)).trans ((pNR hh782 (pN_n hh782 z781 e785)).trans ((pR_j hh776 (by decide)).trans ((pNR hh771 (pN_n hh771 z770 e774)).trans ((pR_j hh765 (by decide)).trans ((pNR hh760 (pN_n hh760 z759 e763)).trans ((pR_j hh754 (by decide)).trans ((pNR hh749 (pN_n hh749 z748 e752)).trans ((pR_j hh743 (by decide)).trans ((pNR hh738 (pN_n hh738 z737 e741)).trans ((pR_j hh732 (by decide)).trans ((pNR hh727 (pN_n hh727 z726 e730)).trans ((pR_j hh721 (by decide)).trans ((pNR hh716 (pN_n hh716 z715 e719)).trans (pR_e hh710)))))))))))))))
    have e792 : Tg h711 n702 = 131100 := ((pRT hh710).trans (pN_T hh705))
    have e793 : Tg h722 n702 = 131100 := ((pRT hh721).trans ((pNT hh716 (pN_n hh716 z715 e792)).trans e792))
    have e794 : Tg h733 n702 = 131100 := ((pRT hh732).trans ((pNT hh727 (pN_n hh727 z726 e793)).trans e793))
    have e795 : Tg h744 n702 = 131100 := ((pRT hh743).trans ((pNT hh738 (pN_n hh738 z737 e794)).trans e794))
    have e796 : Tg h755 n702 = 131100 := ((pRT hh754).trans ((pNT hh749 (pN_n hh749 z748 e795)).trans e795))
    have e797 : Tg h766 n702 = 131100 := ((pRT hh765).trans ((pNT hh760 (pN_n hh760 z759 e796)).trans e796))
    have e798 : Tg h777 n702 = 131100 := ((pRT hh776).trans ((pNT hh771 (pN_n hh771 z770 e797)).trans e797))
    have e799 : Tg h788 n702 = 131100 := ((pRT hh787).trans ((pNT hh782 (pN_n hh782 z781 e798)).trans e798))
    have e800 : Rv h788 a0 32 = n713 := ((pR_j hh787 (by decide)).trans ((pNR hh782 (pN_n hh782 z781 e785)).trans ((pR_j hh776 (by decide)).trans ((pNR hh771 (pN_n hh771 z770 e774)).trans ((pR_j hh765 (by decide)).trans ((pNR hh760 (pN_n hh760 z759 e763)).trans ((pR_j hh754 (by decide)).trans ((pNR hh749 (pN_n hh749 z748 e752)).trans ((pR_j hh743 (by decide)).trans ((pNR hh738 (pN_n hh738 z737 e741)).trans ((pR_j hh732 (by decide)).trans ((pNR hh727 (pN_n hh727 z726 e730)).trans (pR_e hh721)))))))))))))
    have e801 : Tg h722 n713 = 132100 := ((pRT hh721).trans (pN_T hh716))
    have e802 : Tg h733 n713 = 132100 := ((pRT hh732).trans ((pNT hh727 (pN_n hh727 z726 e801)).trans e801))
    have e803 : Tg h744 n713 = 132100 := ((pRT hh743).trans ((pNT hh738 (pN_n hh738 z737 e802)).trans e802))
    have e804 : Tg h755 n713 = 132100 := ((pRT hh754).trans ((pNT hh749 (pN_n hh749 z748 e803)).trans e803))
    have e805 : Tg h766 n713 = 132100 := ((pRT hh765).trans ((pNT hh760 (pN_n hh760 z759 e804)).trans e804))
    have e806 : Tg h777 n713 = 132100 := ((pRT hh776).trans ((pNT hh771 (pN_n hh771 z770 e805)).trans e805))
    have e807 : Tg h788 n713 = 132100 := ((pRT hh787).trans ((pNT hh782 (pN_n hh782 z781 e806)).trans e806))
    have e808 : Rv h788 a0 36 = n724 := ((pR_j hh787 (by decide)).trans ((pNR hh782 (pN_n hh782 z781 e785)).trans ((pR_j hh776 (by decide)).trans ((pNR hh771 (pN_n hh771 z770 e774)).trans ((pR_j hh765 (by decide)).trans ((pNR hh760 (pN_n hh760 z759 e763)).trans ((pR_j hh754 (by decide)).trans ((pNR hh749 (pN_n hh749 z748 e752)).trans ((pR_j hh743 (by decide)).trans ((pNR hh738 (pN_n hh738 z737 e741)).trans (pR_e hh732)))))))))))
    have e809 : Tg h733 n724 = 136100 := ((pRT hh732).trans (pN_T hh727))
    have e810 : Tg h744 n724 = 136100 := ((pRT hh743).trans ((pNT hh738 (pN_n hh738 z737 e809)).trans e809))
    have e811 : Tg h755 n724 = 136100 := ((pRT hh754).trans ((pNT hh749 (pN_n hh749 z748 e810)).trans e810))
    have e812 : Tg h766 n724 = 136100 := ((pRT hh765).trans ((pNT hh760 (pN_n hh760 z759 e811)).trans e811))
    have e813 : Tg h777 n724 = 136100 := ((pRT hh776).trans ((pNT hh771 (pN_n hh771 z770 e812)).trans e812))
    have e814 : Tg h788 n724 = 136100 := ((pRT hh787).trans ((pNT hh782 (pN_n hh782 z781 e813)).trans e813))
    have e815 : Rv h788 a0 37 = n735 := ((pR_j hh787 (by decide)).trans ((pNR hh782 (pN_n hh782 z781 e785)).trans ((pR_j hh776 (by decide)).trans ((pNR hh771 (pN_n hh771 z770 e774)).trans ((pR_j hh765 (by decide)).trans ((pNR hh760 (pN_n hh760 z759 e763)).trans ((pR_j hh754 (by decide)).trans ((pNR hh749 (pN_n hh749 z748 e752)).trans (pR_e hh743)))))))))
    have e816 : Tg h744 n735 = 137101 := ((pRT hh743).trans (pN_T hh738))
    have e817 : Tg h755 n735 = 137101 := ((pRT hh754).trans ((pNT hh749 (pN_n hh749 z748 e816)).trans e816))
    have e818 : Tg h766 n735 = 137101 := ((pRT hh765).trans ((pNT hh760 (pN_n hh760 z759 e817)).trans e817))
    have e819 : Tg h777 n735 = 137101 := ((pRT hh776).trans ((pNT hh771 (pN_n hh771 z770 e818)).trans e818))
    have e820 : Tg h788 n735 = 137101 := ((pRT hh787).trans ((pNT hh782 (pN_n hh782 z781 e819)).trans e819))
    have e821 : Rv h788 a0 38 = n746 := ((pR_j hh787 (by decide)).trans ((pNR hh782 (pN_n hh782 z781 e785)).trans ((pR_j hh776 (by decide)).trans ((pNR hh771 (pN_n hh771 z770 e774)).trans ((pR_j hh765 (by decide)).trans ((pNR hh760 (pN_n hh760 z759 e763)).trans (pR_e hh754)))))))
    have e822 : Tg h755 n746 = 138101 := ((pRT hh754).trans (pN_T hh749))
    have e823 : Tg h766 n746 = 138101 := ((pRT hh765).trans ((pNT hh760 (pN_n hh760 z759 e822)).trans e822))
    have e824 : Tg h777 n746 = 138101 := ((pRT hh776).trans ((pNT hh771 (pN_n hh771 z770 e823)).trans e823))
    have e825 : Tg h788 n746 = 138101 := ((pRT hh787).trans ((pNT hh782 (pN_n hh782 z781 e824)).trans e824))
    have e826 : Rv h788 a0 39 = n757 := ((pR_j hh787 (by decide)).trans ((pNR hh782 (pN_n hh782 z781 e785)).trans ((pR_j hh776 (by decide)).trans ((pNR hh771 (pN_n hh771 z770 e774)).trans (pR_e hh765)))))
    have e827 : Tg h766 n757 = 139100 := ((pRT hh765).trans (pN_T hh760))
    have e828 : Tg h777 n757 = 139100 := ((pRT hh776).trans ((pNT hh771 (pN_n hh771 z770 e827)).trans e827))
    have e829 : Tg h788 n757 = 139100 := ((pRT hh787).trans ((pNT hh782 (pN_n hh782 z781 e828)).trans e828))
    have e830 : Rv h788 a0 41 = n768 := ((pR_j hh787 (by decide)).trans ((pNR hh782 (pN_n hh782 z781 e785)).trans (pR_e hh776)))
    have e831 : Tg h777 n768 = 141100 := ((pRT hh776).trans (pN_T hh771))
    have e832 : Tg h788 n768 = 141100 := ((pRT hh787).trans ((pNT hh782 (pN_n hh782 z781 e831)).trans e831))
    have e833 : Tg h788 n779 = 142100 := ((pRT hh787).trans (pN_T hh782))
    have p834 := (LZR_fx ((Fx.rf (wr := [202442]) (h := h783)).pR e786 hh787 rfl) e786 rfl (LZR_fx ((Fx.rf (wr := [1000142100]) (h := h777)).pN z781 hh782 rfl) e785 rfl (LZR_fx ((Fx.rf (wr := [202441]) (h := h772)).pR e775 hh776 rfl) e775 rfl (LZR_fx ((Fx.rf (wr := [1000141100]) (h := h766)).pN z770 hh771 rfl) e774 rfl (LZR_fx ((Fx.rf (wr := [202439]) (h := h761)).pR e764 hh765 rfl) e764 rfl (LZR_fx ((Fx.rf (wr := [1000139100]) (h := h755)).pN z759 hh760 rfl) e763 rfl (LZR_fx ((Fx.rf (wr := [202438]) (h := h750)).pR e753 hh754 rfl) e753 rfl (LZR_fx ((Fx.rf (wr := [1000138101]) (h := h744)).pN z748 hh749 rfl) e752 rfl (LZR_fx ((Fx.rf (wr := [202437]) (h := h739)).pR e742 hh743 rfl) e742 rfl (LZR_fx ((Fx.rf (wr := [1000137101]) (h := h733)).pN z737 hh738 rfl) e741 rfl (LZR_fx ((Fx.rf (wr := [202436]) (h := h728)).pR e731 hh732 rfl) e731 rfl (LZR_fx ((Fx.rf (wr := [1000136100]) (h := h722)).pN z726 hh727 rfl) e730 rfl (LZR_fx ((Fx.rf (wr := [202432]) (h := h717)).pR e720 hh721 rfl) e720 rfl (LZR_fx ((Fx.rf (wr := [1000132100]) (h := h711)).pN z715 hh716 rfl) e719 rfl (LZR_fx ((Fx.rf (wr := [202431]) (h := h706)).pR e709 hh710 rfl) e709 rfl (LZR_fx ((Fx.rf (wr := [1000131100]) (h := h695)).pN z704 hh705 rfl) e708 rfl p700))))))))))))))))
    exact J556 _ O789 ((((((((((((((((((Fx.rf (wr := [202401, 202404, 202405, 202406, 202409, 202411, 202412, 202413, 202414, 202415, 202416, 202417, 202418, 202419, 202420, 202421, 202422, 202423, 202424, 202425, 202426, 202427, 202429, 202430, 202431, 202432, 202434, 202435, 202436, 202437, 202438, 202439, 202441, 202442, 202443, 202444, 202445, 202446, 202447, 202448, 202449, 202450, 202451, 202452, 202453, 202454, 202455, 202456, 202458, 202459, 202460, 202461, 202463, 202464, 202465, 202466, 202467, 202468, 202470, 202471, 202472, 202473, 202474, 202475, 202476, 202481, 202482, 202484, 202485, 202486, 21820400, 27220000, 27420200, 27820000, 1000101100, 1000104100, 1000105100, 1000106102, 1000109102, 1000111100, 1000112100, 1000113102, 1000114100, 1000115100, 1000116101, 1000117101, 1000118101, 1000119100, 1000120101, 1000121100, 1000122100, 1000123100, 1000124100, 1000125100, 1000126100, 1000127100, 1000129100, 1000130100, 1000131100, 1000132100, 1000136100, 1000137101, 1000138101, 1000139100, 1000141100, 1000142100, 1000143100, 1000144100, 1000145100, 1000146100, 1000147100, 1000148100, 1000149100, 1000150100, 1000151100, 1000152101, 1000153101, 1000154100, 1000155100, 1000156100, 1000158101, 1000159100, 1000160100, 1000161100, 1000163100, 1000164100, 1000165100, 1000166100, 1000167100, 1000168100, 1000170101, 1000171100, 1000172102, 1000173101, 1000174101, 1000175100, 1000176100, 1000181100, 1000182101, 1000184100, 1000185100, 1000186100]) (h := h)).call F698 rfl).pN z704 hh705 rfl).pR e709 hh710 rfl).pN z715 hh716 rfl).pR e720 hh721 rfl).pN z726 hh727 rfl).pR e731 hh732 rfl).pN z737 hh738 rfl).pR e742 hh743 rfl).pN z748 hh749 rfl).pR e753 hh754 rfl).pN z759 hh760 rfl).pR e764 hh765 rfl).pN z770 hh771 rfl).pR e775 hh776 rfl).pN z781 hh782 rfl).pR e786 hh787 rfl) (NZ_cons (by rw [(pR_e hh787)]; exact nz_of O789 e833) (NZ_cons (by rw [e830]; exact nz_of O789 e832) (NZ_cons (by rw [e826]; exact nz_of O789 e829) (NZ_cons (by rw [e821]; exact nz_of O789 e825) (NZ_cons (by rw [e815]; exact nz_of O789 e820) (NZ_cons (by rw [e808]; exact nz_of O789 e814) (NZ_cons (by rw [e800]; exact nz_of O789 e807) (NZ_cons (by rw [e791]; exact nz_of O789 e799) p790)))))))) p834
  have J836 : ∀ (h835 : Hp), Okh h835 → Fx [202401, 202404, 202405, 202406, 202409, 202411, 202412, 202413, 202414, 202415, 202416, 202417, 202418, 202419, 202420, 202421, 202422, 202423, 202424, 202425, 202426, 202427, 202429, 202430, 202431, 202432, 202434, 202435, 202436, 202437, 202438, 202439, 202441, 202442, 202443, 202444, 202445, 202446, 202447, 202448, 202449, 202450, 202451, 202452, 202453, 202454, 202455, 202456, 202458, 202459, 202460, 202461, 202463, 202464, 202465, 202466, 202467, 202468, 202470, 202471, 202472, 202473, 202474, 202475, 202476, 202481, 202482, 202484, 202485, 202486, 21820400, 27220000, 27420200, 27820000, 1000101100, 1000104100, 1000105100, 1000106102, 1000109102, 1000111100, 1000112100, 1000113102, 1000114100, 1000115100, 1000116101, 1000117101, 1000118101, 1000119100, 1000120101, 1000121100, 1000122100, 1000123100, 1000124100, 1000125100, 1000126100, 1000127100, 1000129100, 1000130100, 1000131100, 1000132100, 1000136100, 1000137101, 1000138101, 1000139100, 1000141100, 1000142100, 1000143100, 1000144100, 1000145100, 1000146100, 1000147100, 1000148100, 1000149100, 1000150100, 1000151100, 1000152101, 1000153101, 1000154100, 1000155100, 1000156100, 1000158101, 1000159100, 1000160100, 1000161100, 1000163100, 1000164100, 1000165100, 1000166100, 1000167100, 1000168100, 1000170101, 1000171100, 1000172102, 1000173101, 1000174101, 1000175100, 1000176100, 1000181100, 1000182101, 1000184100, 1000185100, 1000186100] h h835 → NZ h835 a0 [21, 20, 19, 18, 17, 16, 15, 14, 13, 12, 11, 9, 6, 5, 4, 1] → GW p l e (rmm 1 24 68 46508) s m (List.map toV [.inr (.inr a0)]).toArray below meth c D cy z0 2 (MQ below (QV D cy z0 (fun h1 => Okh h1 ∧ Fx wr_k3_X12_init h h1 ∧ (¬ Rv h1 a0 1 = 0) ∧ (¬ Rv h1 a0 4 = 0) ∧ (¬ Rv h1 a0 5 = 0) ∧ (¬ Rv h1 a0 6 = 0) ∧ (¬ Rv h1 a0 9 = 0) ∧ (¬ Rv h1 a0 11 = 0) ∧ (¬ Rv h1 a0 12 = 0) ∧ (¬ Rv h1 a0 13 = 0) ∧ (¬ Rv h1 a0 14 = 0) ∧ (¬ Rv h1 a0 15 = 0) ∧ (¬ Rv h1 a0 16 = 0) ∧ (¬ Rv h1 a0 17 = 0) ∧ (¬ Rv h1 a0 18 = 0) ∧ (¬ Rv h1 a0 19 = 0) ∧ (¬ Rv h1 a0 20 = 0) ∧ (¬ Rv h1 a0 21 = 0) ∧ (¬ Rv h1 a0 22 = 0) ∧ (¬ Rv h1 a0 23 = 0) ∧ (¬ Rv h1 a0 24 = 0) ∧ (¬ Rv h1 a0 25 = 0) ∧ (¬ Rv h1 a0 26 = 0) ∧ (¬ Rv h1 a0 27 = 0) ∧ (¬ Rv h1 a0 29 = 0) ∧ (¬ Rv h1 a0 30 = 0) ∧ (¬ Rv h1 a0 31 = 0) ∧ (¬ Rv h1 a0 32 = 0) ∧ (¬ Rv h1 a0 36 = 0) ∧ (¬ Rv h1 a0 37 = 0) ∧ (¬ Rv h1 a0 38 = 0) ∧ (¬ Rv h1 a0 39 = 0) ∧ (¬ Rv h1 a0 41 = 0) ∧ (¬ Rv h1 a0 42 = 0) ∧ (¬ Rv h1 a0 43 = 0) ∧ (¬ Rv h1 a0 44 = 0) ∧ (¬ Rv h1 a0 45 = 0) ∧ (¬ Rv h1 a0 46 = 0) ∧ (¬ Rv h1 a0 47 = 0) ∧ (¬ Rv h1 a0 48 = 0) ∧ (¬ Rv h1 a0 49 = 0) ∧ (¬ Rv h1 a0 50 = 0) ∧ (¬ Rv h1 a0 51 = 0) ∧ (¬ Rv h1 a0 52 = 0) ∧ (¬ Rv h1 a0 53 = 0) ∧ (¬ Rv h1 a0 54 = 0) ∧ (¬ Rv h1 a0 55 = 0) ∧ (¬ Rv h1 a0 56 = 0) ∧ (¬ Rv h1 a0 58 = 0) ∧ (¬ Rv h1 a0 59 = 0) ∧ (¬ Rv h1 a0 60 = 0) ∧ (¬ Rv h1 a0 61 = 0) ∧ (¬ Rv h1 a0 63 = 0) ∧ (¬ Rv h1 a0 64 = 0) ∧ (¬ Rv h1 a0 65 = 0) ∧ (¬ Rv h1 a0 66 = 0) ∧ (¬ Rv h1 a0 67 = 0) ∧ (¬ Rv h1 a0 68 = 0) ∧ (¬ Rv h1 a0 70 = 0) ∧ (¬ Rv h1 a0 71 = 0) ∧ (¬ Rv h1 a0 72 = 0) ∧ (¬ Rv h1 a0 73 = 0) ∧ (¬ Rv h1 a0 74 = 0) ∧ (¬ Rv h1 a0 75 = 0) ∧ (¬ Rv h1 a0 76 = 0) ∧ (¬ Rv h1 a0 81 = 0) ∧ (¬ Rv h1 a0 82 = 0) ∧ (¬ Rv h1 a0 84 = 0) ∧ (¬ Rv h1 a0 85 = 0) ∧ (¬ Rv h1 a0 86 = 0) ∧ (MInv h1 a0) ∧ (Qm 82 h1 a0 = zer1))) (List.map toV [.inr (.inr a0)]).toArray s 68 46508 (Aof z0)) 340 [(0, .inr (.inr a0))] [] h835 16 6540 := by
    intro h835 O837 F838 p839
    refine g_aload_n C rfl 0 rfl dX12_init_340 ?_
    refine g_bipush C (by decide) dX12_init_341 ?_
    refine g_newa (atype := .int) (t := 0) (ty := .int) (N := 90) C 122100 rfl (iw (il 90) (by decide) (by decide)) (by decide) rfl kw_224 rfl (fun _ => rfl) (by decide) (by decide) (by decide) (by decide) dX12_init_343 (fun n842 z843 z844 h846 hh845 => ?_)
    have O847 := O837.pN z843 z844 hh845 (by decide) nn_122100
    have e848 : Tg h835 a0 = 1012 := (fxT F838 ta0)
    have e849 : Tg h846 a0 = 1012 := ((pNT hh845 (pN_n hh845 z844 e848)).trans e848)
    refine gp_RF C fk_LandSurveyModel_131 pk_LandSurveyModel_22 rfl e849 hn rfl (nf_a _ _) dX12_init_345 (fun h851 hh850 => ?_)
    have O852 := O847.pR e849 hh850 (okR_l rE_1012_22 (pN_T hh845) (pN_L hh845))
    refine g_aload_n C rfl 0 rfl dX12_init_348 ?_
    refine g_bipush C (by decide) dX12_init_349 ?_
    refine g_newa (atype := .int) (t := 0) (ty := .int) (N := 90) C 123100 rfl (iw (il 90) (by decide) (by decide)) (by decide) rfl kw_224 rfl (fun _ => rfl) (by decide) (by decide) (by decide) (by decide) dX12_init_351 (fun n853 z854 z855 h857 hh856 => ?_)
    have O858 := O852.pN z854 z855 hh856 (by decide) nn_123100
    have e859 : Tg h851 a0 = 1012 := ((pRT hh850).trans e849)
    have e860 : Tg h857 a0 = 1012 := ((pNT hh856 (pN_n hh856 z855 e859)).trans e859)
    refine gp_RF C fk_LandSurveyModel_134 pk_LandSurveyModel_23 rfl e860 hn rfl (nf_a _ _) dX12_init_353 (fun h862 hh861 => ?_)
    have O863 := O858.pR e860 hh861 (okR_l rE_1012_23 (pN_T hh856) (pN_L hh856))
    refine g_aload_n C rfl 0 rfl dX12_init_356 ?_
    refine g_bipush C (by decide) dX12_init_357 ?_
    refine g_newa (atype := .int) (t := 0) (ty := .int) (N := 9) C 124100 rfl (iw (il 9) (by decide) (by decide)) (by decide) rfl kw_224 rfl (fun _ => rfl) (by decide) (by decide) (by decide) (by decide) dX12_init_359 (fun n864 z865 z866 h868 hh867 => ?_)
    have O869 := O863.pN z865 z866 hh867 (by decide) nn_124100
    have e870 : Tg h862 a0 = 1012 := ((pRT hh861).trans e860)
    have e871 : Tg h868 a0 = 1012 := ((pNT hh867 (pN_n hh867 z866 e870)).trans e870)
    refine gp_RF C fk_LandSurveyModel_137 pk_LandSurveyModel_24 rfl e871 hn rfl (nf_a _ _) dX12_init_361 (fun h873 hh872 => ?_)
    have O874 := O869.pR e871 hh872 (okR_l rE_1012_24 (pN_T hh867) (pN_L hh867))
    refine g_aload_n C rfl 0 rfl dX12_init_364 ?_
    refine g_sipush C (by decide) dX12_init_365 ?_
    refine g_newa (atype := .int) (t := 0) (ty := .int) (N := 216) C 125100 rfl (iw (il 216) (by decide) (by decide)) (by decide) rfl kw_224 rfl (fun _ => rfl) (by decide) (by decide) (by decide) (by decide) dX12_init_368 (fun n875 z876 z877 h879 hh878 => ?_)
    have O880 := O874.pN z876 z877 hh878 (by decide) nn_125100
    have e881 : Tg h873 a0 = 1012 := ((pRT hh872).trans e871)
    have e882 : Tg h879 a0 = 1012 := ((pNT hh878 (pN_n hh878 z877 e881)).trans e881)
    refine gp_RF C fk_LandSurveyModel_140 pk_LandSurveyModel_25 rfl e882 hn rfl (nf_a _ _) dX12_init_370 (fun h884 hh883 => ?_)
    have O885 := O880.pR e882 hh883 (okR_l rE_1012_25 (pN_T hh878) (pN_L hh878))
    refine g_aload_n C rfl 0 rfl dX12_init_373 ?_
    refine g_sipush C (by decide) dX12_init_374 ?_
    refine g_newa (atype := .int) (t := 0) (ty := .int) (N := 216) C 126100 rfl (iw (il 216) (by decide) (by decide)) (by decide) rfl kw_224 rfl (fun _ => rfl) (by decide) (by decide) (by decide) (by decide) dX12_init_377 (fun n886 z887 z888 h890 hh889 => ?_)
    have O891 := O885.pN z887 z888 hh889 (by decide) nn_126100
    have e892 : Tg h884 a0 = 1012 := ((pRT hh883).trans e882)
    have e893 : Tg h890 a0 = 1012 := ((pNT hh889 (pN_n hh889 z888 e892)).trans e892)
    refine gp_RF C fk_LandSurveyModel_143 pk_LandSurveyModel_26 rfl e893 hn rfl (nf_a _ _) dX12_init_379 (fun h895 hh894 => ?_)
    have O896 := O891.pR e893 hh894 (okR_l rE_1012_26 (pN_T hh889) (pN_L hh889))
    refine g_aload_n C rfl 0 rfl dX12_init_382 ?_
    refine g_sipush C (by decide) dX12_init_383 ?_
    refine g_newa (atype := .int) (t := 0) (ty := .int) (N := 216) C 127100 rfl (iw (il 216) (by decide) (by decide)) (by decide) rfl kw_224 rfl (fun _ => rfl) (by decide) (by decide) (by decide) (by decide) dX12_init_386 (fun n897 z898 z899 h901 hh900 => ?_)
    have O902 := O896.pN z898 z899 hh900 (by decide) nn_127100
    have e903 : Tg h895 a0 = 1012 := ((pRT hh894).trans e893)
    have e904 : Tg h901 a0 = 1012 := ((pNT hh900 (pN_n hh900 z899 e903)).trans e903)
    refine gp_RF C fk_LandSurveyModel_146 pk_LandSurveyModel_27 rfl e904 hn rfl (nf_a _ _) dX12_init_388 (fun h906 hh905 => ?_)
    have O907 := O902.pR e904 hh905 (okR_l rE_1012_27 (pN_T hh900) (pN_L hh900))
    have e909 : Tg h906 n897 = 127100 := ((pRT hh905).trans (pN_T hh900))
    have p908 := LZR_new hh900 (nz_of O907 e909) (pN_n hh900 z899 e903) hh905
    refine g_aload_n C rfl 0 rfl dX12_init_391 ?_
    refine g_sipush C (by decide) dX12_init_392 ?_
    refine g_newa (atype := .int) (t := 0) (ty := .int) (N := 14400) C 129100 rfl (iw (il 14400) (by decide) (by decide)) (by decide) rfl kw_224 rfl (fun _ => rfl) (by decide) (by decide) (by decide) (by decide) dX12_init_395 (fun n910 z911 z912 h914 hh913 => ?_)
    have O915 := O907.pN z911 z912 hh913 (by decide) nn_129100
    have e916 : Tg h906 a0 = 1012 := ((pRT hh905).trans e904)
    have e917 : Tg h914 a0 = 1012 := ((pNT hh913 (pN_n hh913 z912 e916)).trans e916)
    refine gp_RF C fk_LandSurveyModel_149 pk_LandSurveyModel_29 rfl e917 hn rfl (nf_a _ _) dX12_init_397 (fun h919 hh918 => ?_)
    have O920 := O915.pR e917 hh918 (okR_l rE_1012_29 (pN_T hh913) (pN_L hh913))
    refine g_aload_n C rfl 0 rfl dX12_init_400 ?_
    refine g_sipush C (by decide) dX12_init_401 ?_
    refine g_newa (atype := .int) (t := 0) (ty := .int) (N := 14400) C 130100 rfl (iw (il 14400) (by decide) (by decide)) (by decide) rfl kw_224 rfl (fun _ => rfl) (by decide) (by decide) (by decide) (by decide) dX12_init_404 (fun n921 z922 z923 h925 hh924 => ?_)
    have O926 := O920.pN z922 z923 hh924 (by decide) nn_130100
    have e927 : Tg h919 a0 = 1012 := ((pRT hh918).trans e917)
    have e928 : Tg h925 a0 = 1012 := ((pNT hh924 (pN_n hh924 z923 e927)).trans e927)
    refine gp_RF C fk_LandSurveyModel_152 pk_LandSurveyModel_30 rfl e928 hn rfl (nf_a _ _) dX12_init_406 (fun h930 hh929 => ?_)
    have O931 := O926.pR e928 hh929 (okR_l rE_1012_30 (pN_T hh924) (pN_L hh924))
    refine GW.sub [0] rfl ?_
    have p932 := (NZ_fx ((Fx.rf (wr := [202430]) (h := h925)).pR e928 hh929 rfl) e928 (by decide) (NZ_fx ((Fx.rf (wr := [1000130100]) (h := h919)).pN z923 hh924 rfl) e927 (by decide) (NZ_fx ((Fx.rf (wr := [202429]) (h := h914)).pR e917 hh918 rfl) e917 (by decide) (NZ_fx ((Fx.rf (wr := [1000129100]) (h := h906)).pN z912 hh913 rfl) e916 (by decide) (NZ_fx ((Fx.rf (wr := [202427]) (h := h901)).pR e904 hh905 rfl) e904 (by decide) (NZ_fx ((Fx.rf (wr := [1000127100]) (h := h895)).pN z899 hh900 rfl) e903 (by decide) (NZ_fx ((Fx.rf (wr := [202426]) (h := h890)).pR e893 hh894 rfl) e893 (by decide) (NZ_fx ((Fx.rf (wr := [1000126100]) (h := h884)).pN z888 hh889 rfl) e892 (by decide) (NZ_fx ((Fx.rf (wr := [202425]) (h := h879)).pR e882 hh883 rfl) e882 (by decide) (NZ_fx ((Fx.rf (wr := [1000125100]) (h := h873)).pN z877 hh878 rfl) e881 (by decide) (NZ_fx ((Fx.rf (wr := [202424]) (h := h868)).pR e871 hh872 rfl) e871 (by decide) (NZ_fx ((Fx.rf (wr := [1000124100]) (h := h862)).pN z866 hh867 rfl) e870 (by decide) (NZ_fx ((Fx.rf (wr := [202423]) (h := h857)).pR e860 hh861 rfl) e860 (by decide) (NZ_fx ((Fx.rf (wr := [1000123100]) (h := h851)).pN z855 hh856 rfl) e859 (by decide) (NZ_fx ((Fx.rf (wr := [202422]) (h := h846)).pR e849 hh850 rfl) e849 (by decide) (NZ_fx ((Fx.rf (wr := [1000122100]) (h := h835)).pN z844 hh845 rfl) e848 (by decide) p839))))))))))))))))
    have e933 : Rv h930 a0 22 = n842 := ((pR_j hh929 (by decide)).trans ((pNR hh924 (pN_n hh924 z923 e927)).trans ((pR_j hh918 (by decide)).trans ((pNR hh913 (pN_n hh913 z912 e916)).trans ((pR_j hh905 (by decide)).trans ((pNR hh900 (pN_n hh900 z899 e903)).trans ((pR_j hh894 (by decide)).trans ((pNR hh889 (pN_n hh889 z888 e892)).trans ((pR_j hh883 (by decide)).trans ((pNR hh878 (pN_n hh878 z877 e881)).trans ((pR_j hh872 (by decide)).trans ((pNR hh867 (pN_n hh867 z866 e870)).trans ((pR_j hh861 (by decide)).trans ((pNR hh856 (pN_n hh856 z855 e859)).trans (pR_e hh850)))))))))))))))
    have e934 : Tg h851 n842 = 122100 := ((pRT hh850).trans (pN_T hh845))
    have e935 : Tg h862 n842 = 122100 := ((pRT hh861).trans ((pNT hh856 (pN_n hh856 z855 e934)).trans e934))
    have e936 : Tg h873 n842 = 122100 := ((pRT hh872).trans ((pNT hh867 (pN_n hh867 z866 e935)).trans e935))
    have e937 : Tg h884 n842 = 122100 := ((pRT hh883).trans ((pNT hh878 (pN_n hh878 z877 e936)).trans e936))
    have e938 : Tg h895 n842 = 122100 := ((pRT hh894).trans ((pNT hh889 (pN_n hh889 z888 e937)).trans e937))
    have e939 : Tg h906 n842 = 122100 := ((pRT hh905).trans ((pNT hh900 (pN_n hh900 z899 e938)).trans e938))
    have e940 : Tg h919 n842 = 122100 := ((pRT hh918).trans ((pNT hh913 (pN_n hh913 z912 e939)).trans e939))
    have e941 : Tg h930 n842 = 122100 := ((pRT hh929).trans ((pNT hh924 (pN_n hh924 z923 e940)).trans e940))
    have e942 : Rv h930 a0 23 = n853 := ((pR_j hh929 (by decide)).trans ((pNR hh924 (pN_n hh924 z923 e927)).trans ((pR_j hh918 (by decide)).trans ((pNR hh913 (pN_n hh913 z912 e916)).trans ((pR_j hh905 (by decide)).trans ((pNR hh900 (pN_n hh900 z899 e903)).trans ((pR_j hh894 (by decide)).trans ((pNR hh889 (pN_n hh889 z888 e892)).trans ((pR_j hh883 (by decide)).trans ((pNR hh878 (pN_n hh878 z877 e881)).trans ((pR_j hh872 (by decide)).trans ((pNR hh867 (pN_n hh867 z866 e870)).trans (pR_e hh861)))))))))))))
    have e943 : Tg h862 n853 = 123100 := ((pRT hh861).trans (pN_T hh856))
    have e944 : Tg h873 n853 = 123100 := ((pRT hh872).trans ((pNT hh867 (pN_n hh867 z866 e943)).trans e943))
    have e945 : Tg h884 n853 = 123100 := ((pRT hh883).trans ((pNT hh878 (pN_n hh878 z877 e944)).trans e944))
    have e946 : Tg h895 n853 = 123100 := ((pRT hh894).trans ((pNT hh889 (pN_n hh889 z888 e945)).trans e945))
    have e947 : Tg h906 n853 = 123100 := ((pRT hh905).trans ((pNT hh900 (pN_n hh900 z899 e946)).trans e946))
    have e948 : Tg h919 n853 = 123100 := ((pRT hh918).trans ((pNT hh913 (pN_n hh913 z912 e947)).trans e947))
    have e949 : Tg h930 n853 = 123100 := ((pRT hh929).trans ((pNT hh924 (pN_n hh924 z923 e948)).trans e948))
    have e950 : Rv h930 a0 24 = n864 := ((pR_j hh929 (by decide)).trans ((pNR hh924 (pN_n hh924 z923 e927)).trans ((pR_j hh918 (by decide)).trans ((pNR hh913 (pN_n hh913 z912 e916)).trans ((pR_j hh905 (by decide)).trans ((pNR hh900 (pN_n hh900 z899 e903)).trans ((pR_j hh894 (by decide)).trans ((pNR hh889 (pN_n hh889 z888 e892)).trans ((pR_j hh883 (by decide)).trans ((pNR hh878 (pN_n hh878 z877 e881)).trans (pR_e hh872)))))))))))
    have e951 : Tg h873 n864 = 124100 := ((pRT hh872).trans (pN_T hh867))
    have e952 : Tg h884 n864 = 124100 := ((pRT hh883).trans ((pNT hh878 (pN_n hh878 z877 e951)).trans e951))
    have e953 : Tg h895 n864 = 124100 := ((pRT hh894).trans ((pNT hh889 (pN_n hh889 z888 e952)).trans e952))
    have e954 : Tg h906 n864 = 124100 := ((pRT hh905).trans ((pNT hh900 (pN_n hh900 z899 e953)).trans e953))
    have e955 : Tg h919 n864 = 124100 := ((pRT hh918).trans ((pNT hh913 (pN_n hh913 z912 e954)).trans e954))
    have e956 : Tg h930 n864 = 124100 := ((pRT hh929).trans ((pNT hh924 (pN_n hh924 z923 e955)).trans e955))
    have e957 : Rv h930 a0 25 = n875 := ((pR_j hh929 (by decide)).trans ((pNR hh924 (pN_n hh924 z923 e927)).trans ((pR_j hh918 (by decide)).trans ((pNR hh913 (pN_n hh913 z912 e916)).trans ((pR_j hh905 (by decide)).trans ((pNR hh900 (pN_n hh900 z899 e903)).trans ((pR_j hh894 (by decide)).trans ((pNR hh889 (pN_n hh889 z888 e892)).trans (pR_e hh883)))))))))
    have e958 : Tg h884 n875 = 125100 := ((pRT hh883).trans (pN_T hh878))
    have e959 : Tg h895 n875 = 125100 := ((pRT hh894).trans ((pNT hh889 (pN_n hh889 z888 e958)).trans e958))
    have e960 : Tg h906 n875 = 125100 := ((pRT hh905).trans ((pNT hh900 (pN_n hh900 z899 e959)).trans e959))
    have e961 : Tg h919 n875 = 125100 := ((pRT hh918).trans ((pNT hh913 (pN_n hh913 z912 e960)).trans e960))
    have e962 : Tg h930 n875 = 125100 := ((pRT hh929).trans ((pNT hh924 (pN_n hh924 z923 e961)).trans e961))
    have e963 : Rv h930 a0 26 = n886 := ((pR_j hh929 (by decide)).trans ((pNR hh924 (pN_n hh924 z923 e927)).trans ((pR_j hh918 (by decide)).trans ((pNR hh913 (pN_n hh913 z912 e916)).trans ((pR_j hh905 (by decide)).trans ((pNR hh900 (pN_n hh900 z899 e903)).trans (pR_e hh894)))))))
    have e964 : Tg h895 n886 = 126100 := ((pRT hh894).trans (pN_T hh889))
    have e965 : Tg h906 n886 = 126100 := ((pRT hh905).trans ((pNT hh900 (pN_n hh900 z899 e964)).trans e964))
    have e966 : Tg h919 n886 = 126100 := ((pRT hh918).trans ((pNT hh913 (pN_n hh913 z912 e965)).trans e965))
    have e967 : Tg h930 n886 = 126100 := ((pRT hh929).trans ((pNT hh924 (pN_n hh924 z923 e966)).trans e966))
    have e968 : Rv h930 a0 27 = n897 := ((pR_j hh929 (by decide)).trans ((pNR hh924 (pN_n hh924 z923 e927)).trans ((pR_j hh918 (by decide)).trans ((pNR hh913 (pN_n hh913 z912 e916)).trans (pR_e hh905)))))
    have e969 : Tg h919 n897 = 127100 := ((pRT hh918).trans ((pNT hh913 (pN_n hh913 z912 e909)).trans e909))
    have e970 : Tg h930 n897 = 127100 := ((pRT hh929).trans ((pNT hh924 (pN_n hh924 z923 e969)).trans e969))
    have e971 : Rv h930 a0 29 = n910 := ((pR_j hh929 (by decide)).trans ((pNR hh924 (pN_n hh924 z923 e927)).trans (pR_e hh918)))
    have e972 : Tg h919 n910 = 129100 := ((pRT hh918).trans (pN_T hh913))
    have e973 : Tg h930 n910 = 129100 := ((pRT hh929).trans ((pNT hh924 (pN_n hh924 z923 e972)).trans e972))
    have e974 : Tg h930 n921 = 130100 := ((pRT hh929).trans (pN_T hh924))
    have p975 := (LZR_fx ((Fx.rf (wr := [202430]) (h := h925)).pR e928 hh929 rfl) e928 rfl (LZR_fx ((Fx.rf (wr := [1000130100]) (h := h919)).pN z923 hh924 rfl) e927 rfl (LZR_fx ((Fx.rf (wr := [202429]) (h := h914)).pR e917 hh918 rfl) e917 rfl (LZR_fx ((Fx.rf (wr := [1000129100]) (h := h906)).pN z912 hh913 rfl) e916 rfl p908))))
    exact J696 _ O931 ((((((((((((((((((Fx.rf (wr := [202401, 202404, 202405, 202406, 202409, 202411, 202412, 202413, 202414, 202415, 202416, 202417, 202418, 202419, 202420, 202421, 202422, 202423, 202424, 202425, 202426, 202427, 202429, 202430, 202431, 202432, 202434, 202435, 202436, 202437, 202438, 202439, 202441, 202442, 202443, 202444, 202445, 202446, 202447, 202448, 202449, 202450, 202451, 202452, 202453, 202454, 202455, 202456, 202458, 202459, 202460, 202461, 202463, 202464, 202465, 202466, 202467, 202468, 202470, 202471, 202472, 202473, 202474, 202475, 202476, 202481, 202482, 202484, 202485, 202486, 21820400, 27220000, 27420200, 27820000, 1000101100, 1000104100, 1000105100, 1000106102, 1000109102, 1000111100, 1000112100, 1000113102, 1000114100, 1000115100, 1000116101, 1000117101, 1000118101, 1000119100, 1000120101, 1000121100, 1000122100, 1000123100, 1000124100, 1000125100, 1000126100, 1000127100, 1000129100, 1000130100, 1000131100, 1000132100, 1000136100, 1000137101, 1000138101, 1000139100, 1000141100, 1000142100, 1000143100, 1000144100, 1000145100, 1000146100, 1000147100, 1000148100, 1000149100, 1000150100, 1000151100, 1000152101, 1000153101, 1000154100, 1000155100, 1000156100, 1000158101, 1000159100, 1000160100, 1000161100, 1000163100, 1000164100, 1000165100, 1000166100, 1000167100, 1000168100, 1000170101, 1000171100, 1000172102, 1000173101, 1000174101, 1000175100, 1000176100, 1000181100, 1000182101, 1000184100, 1000185100, 1000186100]) (h := h)).call F838 rfl).pN z844 hh845 rfl).pR e849 hh850 rfl).pN z855 hh856 rfl).pR e860 hh861 rfl).pN z866 hh867 rfl).pR e871 hh872 rfl).pN z877 hh878 rfl).pR e882 hh883 rfl).pN z888 hh889 rfl).pR e893 hh894 rfl).pN z899 hh900 rfl).pR e904 hh905 rfl).pN z912 hh913 rfl).pR e917 hh918 rfl).pN z923 hh924 rfl).pR e928 hh929 rfl) (NZ_cons (by rw [(pR_e hh929)]; exact nz_of O931 e974) (NZ_cons (by rw [e971]; exact nz_of O931 e973) (NZ_cons (by rw [e968]; exact nz_of O931 e970) (NZ_cons (by rw [e963]; exact nz_of O931 e967) (NZ_cons (by rw [e957]; exact nz_of O931 e962) (NZ_cons (by rw [e950]; exact nz_of O931 e956) (NZ_cons (by rw [e942]; exact nz_of O931 e949) (NZ_cons (by rw [e933]; exact nz_of O931 e941) p932)))))))) p975
  have J977 : ∀ (h976 : Hp), Okh h976 → Fx [202401, 202404, 202405, 202406, 202409, 202411, 202412, 202413, 202414, 202415, 202416, 202417, 202418, 202419, 202420, 202421, 202422, 202423, 202424, 202425, 202426, 202427, 202429, 202430, 202431, 202432, 202434, 202435, 202436, 202437, 202438, 202439, 202441, 202442, 202443, 202444, 202445, 202446, 202447, 202448, 202449, 202450, 202451, 202452, 202453, 202454, 202455, 202456, 202458, 202459, 202460, 202461, 202463, 202464, 202465, 202466, 202467, 202468, 202470, 202471, 202472, 202473, 202474, 202475, 202476, 202481, 202482, 202484, 202485, 202486, 21820400, 27220000, 27420200, 27820000, 1000101100, 1000104100, 1000105100, 1000106102, 1000109102, 1000111100, 1000112100, 1000113102, 1000114100, 1000115100, 1000116101, 1000117101, 1000118101, 1000119100, 1000120101, 1000121100, 1000122100, 1000123100, 1000124100, 1000125100, 1000126100, 1000127100, 1000129100, 1000130100, 1000131100, 1000132100, 1000136100, 1000137101, 1000138101, 1000139100, 1000141100, 1000142100, 1000143100, 1000144100, 1000145100, 1000146100, 1000147100, 1000148100, 1000149100, 1000150100, 1000151100, 1000152101, 1000153101, 1000154100, 1000155100, 1000156100, 1000158101, 1000159100, 1000160100, 1000161100, 1000163100, 1000164100, 1000165100, 1000166100, 1000167100, 1000168100, 1000170101, 1000171100, 1000172102, 1000173101, 1000174101, 1000175100, 1000176100, 1000181100, 1000182101, 1000184100, 1000185100, 1000186100] h h976 → NZ h976 a0 [13, 12, 11, 9, 6, 5, 4, 1] → GW p l e (rmm 1 24 68 46508) s m (List.map toV [.inr (.inr a0)]).toArray below meth c D cy z0 2 (MQ below (QV D cy z0 (fun h1 => Okh h1 ∧ Fx wr_k3_X12_init h h1 ∧ (¬ Rv h1 a0 1 = 0) ∧ (¬ Rv h1 a0 4 = 0) ∧ (¬ Rv h1 a0 5 = 0) ∧ (¬ Rv h1 a0 6 = 0) ∧ (¬ Rv h1 a0 9 = 0) ∧ (¬ Rv h1 a0 11 = 0) ∧ (¬ Rv h1 a0 12 = 0) ∧ (¬ Rv h1 a0 13 = 0) ∧ (¬ Rv h1 a0 14 = 0) ∧ (¬ Rv h1 a0 15 = 0) ∧ (¬ Rv h1 a0 16 = 0) ∧ (¬ Rv h1 a0 17 = 0) ∧ (¬ Rv h1 a0 18 = 0) ∧ (¬ Rv h1 a0 19 = 0) ∧ (¬ Rv h1 a0 20 = 0) ∧ (¬ Rv h1 a0 21 = 0) ∧ (¬ Rv h1 a0 22 = 0) ∧ (¬ Rv h1 a0 23 = 0) ∧ (¬ Rv h1 a0 24 = 0) ∧ (¬ Rv h1 a0 25 = 0) ∧ (¬ Rv h1 a0 26 = 0) ∧ (¬ Rv h1 a0 27 = 0) ∧ (¬ Rv h1 a0 29 = 0) ∧ (¬ Rv h1 a0 30 = 0) ∧ (¬ Rv h1 a0 31 = 0) ∧ (¬ Rv h1 a0 32 = 0) ∧ (¬ Rv h1 a0 36 = 0) ∧ (¬ Rv h1 a0 37 = 0) ∧ (¬ Rv h1 a0 38 = 0) ∧ (¬ Rv h1 a0 39 = 0) ∧ (¬ Rv h1 a0 41 = 0) ∧ (¬ Rv h1 a0 42 = 0) ∧ (¬ Rv h1 a0 43 = 0) ∧ (¬ Rv h1 a0 44 = 0) ∧ (¬ Rv h1 a0 45 = 0) ∧ (¬ Rv h1 a0 46 = 0) ∧ (¬ Rv h1 a0 47 = 0) ∧ (¬ Rv h1 a0 48 = 0) ∧ (¬ Rv h1 a0 49 = 0) ∧ (¬ Rv h1 a0 50 = 0) ∧ (¬ Rv h1 a0 51 = 0) ∧ (¬ Rv h1 a0 52 = 0) ∧ (¬ Rv h1 a0 53 = 0) ∧ (¬ Rv h1 a0 54 = 0) ∧ (¬ Rv h1 a0 55 = 0) ∧ (¬ Rv h1 a0 56 = 0) ∧ (¬ Rv h1 a0 58 = 0) ∧ (¬ Rv h1 a0 59 = 0) ∧ (¬ Rv h1 a0 60 = 0) ∧ (¬ Rv h1 a0 61 = 0) ∧ (¬ Rv h1 a0 63 = 0) ∧ (¬ Rv h1 a0 64 = 0) ∧ (¬ Rv h1 a0 65 = 0) ∧ (¬ Rv h1 a0 66 = 0) ∧ (¬ Rv h1 a0 67 = 0) ∧ (¬ Rv h1 a0 68 = 0) ∧ (¬ Rv h1 a0 70 = 0) ∧ (¬ Rv h1 a0 71 = 0) ∧ (¬ Rv h1 a0 72 = 0) ∧ (¬ Rv h1 a0 73 = 0) ∧ (¬ Rv h1 a0 74 = 0) ∧ (¬ Rv h1 a0 75 = 0) ∧ (¬ Rv h1 a0 76 = 0) ∧ (¬ Rv h1 a0 81 = 0) ∧ (¬ Rv h1 a0 82 = 0) ∧ (¬ Rv h1 a0 84 = 0) ∧ (¬ Rv h1 a0 85 = 0) ∧ (¬ Rv h1 a0 86 = 0) ∧ (MInv h1 a0) ∧ (Qm 82 h1 a0 = zer1))) (List.map toV [.inr (.inr a0)]).toArray s 68 46508 (Aof z0)) 276 [(0, .inr (.inr a0))] [] h976 8 6144 := by
    intro h976 O978 F979 p980
    refine g_aload_n C rfl 0 rfl dX12_init_276 ?_
    refine g_bipush C (by decide) dX12_init_277 ?_
    refine g_newa (atype := .int) (t := 0) (ty := .int) (N := 90) C 114100 rfl (iw (il 90) (by decide) (by decide)) (by decide) rfl kw_224 rfl (fun _ => rfl) (by decide) (by decide) (by decide) (by decide) dX12_init_279 (fun n983 z984 z985 h987 hh986 => ?_)
    have O988 := O978.pN z984 z985 hh986 (by decide) nn_114100
    have e989 : Tg h976 a0 = 1012 := (fxT F979 ta0)
    have e990 : Tg h987 a0 = 1012 := ((pNT hh986 (pN_n hh986 z985 e989)).trans e989)
    refine gp_RF C fk_LandSurveyModel_106 pk_LandSurveyModel_14 rfl e990 hn rfl (nf_a _ _) dX12_init_281 (fun h992 hh991 => ?_)
    have O993 := O988.pR e990 hh991 (okR_l rE_1012_14 (pN_T hh986) (pN_L hh986))
    refine g_aload_n C rfl 0 rfl dX12_init_284 ?_
    refine g_bipush C (by decide) dX12_init_285 ?_
    refine g_newa (atype := .int) (t := 0) (ty := .int) (N := 90) C 115100 rfl (iw (il 90) (by decide) (by decide)) (by decide) rfl kw_224 rfl (fun _ => rfl) (by decide) (by decide) (by decide) (by decide) dX12_init_287 (fun n994 z995 z996 h998 hh997 => ?_)
    have O999 := O993.pN z995 z996 hh997 (by decide) nn_115100
    have e1000 : Tg h992 a0 = 1012 := ((pRT hh991).trans e990)
    have e1001 : Tg h998 a0 = 1012 := ((pNT hh997 (pN_n hh997 z996 e1000)).trans e1000)
    refine gp_RF C fk_LandSurveyModel_109 pk_LandSurveyModel_15 rfl e1001 hn rfl (nf_a _ _) dX12_init_289 (fun h1003 hh1002 => ?_)
    have O1004 := O999.pR e1001 hh1002 (okR_l rE_1012_15 (pN_T hh997) (pN_L hh997))
    refine g_aload_n C rfl 0 rfl dX12_init_292 ?_
    refine g_bipush C (by decide) dX12_init_293 ?_
    refine g_newa (atype := .boolean) (t := 1) (ty := .boolean) (N := 90) C 116101 rfl (iw (il 90) (by decide) (by decide)) (by decide) rfl kw_225 rfl (fun _ => rfl) (by decide) (by decide) (by decide) (by decide) dX12_init_295 (fun n1005 z1006 z1007 h1009 hh1008 => ?_)
    have O1010 := O1004.pN z1006 z1007 hh1008 (by decide) nn_116101
    have e1011 : Tg h1003 a0 = 1012 := ((pRT hh1002).trans e1001)
    have e1012 : Tg h1009 a0 = 1012 := ((pNT hh1008 (pN_n hh1008 z1007 e1011)).trans e1011)
    refine gp_RF C fk_LandSurveyModel_112 pk_LandSurveyModel_16 rfl e1012 hn rfl (nf_a _ _) dX12_init_297 (fun h1014 hh1013 => ?_)
    have O1015 := O1010.pR e1012 hh1013 (okR_l rE_1012_16 (pN_T hh1008) (pN_L hh1008))
    refine g_aload_n C rfl 0 rfl dX12_init_300 ?_
    refine g_bipush C (by decide) dX12_init_301 ?_
    refine g_newa (atype := .boolean) (t := 1) (ty := .boolean) (N := 90) C 117101 rfl (iw (il 90) (by decide) (by decide)) (by decide) rfl kw_225 rfl (fun _ => rfl) (by decide) (by decide) (by decide) (by decide) dX12_init_303 (fun n1016 z1017 z1018 h1020 hh1019 => ?_)
    have O1021 := O1015.pN z1017 z1018 hh1019 (by decide) nn_117101
    have e1022 : Tg h1014 a0 = 1012 := ((pRT hh1013).trans e1012)
    have e1023 : Tg h1020 a0 = 1012 := ((pNT hh1019 (pN_n hh1019 z1018 e1022)).trans e1022)
    refine gp_RF C fk_LandSurveyModel_116 pk_LandSurveyModel_17 rfl e1023 hn rfl (nf_a _ _) dX12_init_305 (fun h1025 hh1024 => ?_)
    have O1026 := O1021.pR e1023 hh1024 (okR_l rE_1012_17 (pN_T hh1019) (pN_L hh1019))
    refine g_aload_n C rfl 0 rfl dX12_init_308 ?_
    refine g_bipush C (by decide) dX12_init_309 ?_
    refine g_newa (atype := .boolean) (t := 1) (ty := .boolean) (N := 9) C 118101 rfl (iw (il 9) (by decide) (by decide)) (by decide) rfl kw_225 rfl (fun _ => rfl) (by decide) (by decide) (by decide) (by decide) dX12_init_311 (fun n1027 z1028 z1029 h1031 hh1030 => ?_)
    have O1032 := O1026.pN z1028 z1029 hh1030 (by decide) nn_118101
    have e1033 : Tg h1025 a0 = 1012 := ((pRT hh1024).trans e1023)
    have e1034 : Tg h1031 a0 = 1012 := ((pNT hh1030 (pN_n hh1030 z1029 e1033)).trans e1033)
    refine gp_RF C fk_LandSurveyModel_119 pk_LandSurveyModel_18 rfl e1034 hn rfl (nf_a _ _) dX12_init_313 (fun h1036 hh1035 => ?_)
    have O1037 := O1032.pR e1034 hh1035 (okR_l rE_1012_18 (pN_T hh1030) (pN_L hh1030))
    refine g_aload_n C rfl 0 rfl dX12_init_316 ?_
    refine g_bipush C (by decide) dX12_init_317 ?_
    refine g_newa (atype := .int) (t := 0) (ty := .int) (N := 9) C 119100 rfl (iw (il 9) (by decide) (by decide)) (by decide) rfl kw_224 rfl (fun _ => rfl) (by decide) (by decide) (by decide) (by decide) dX12_init_319 (fun n1038 z1039 z1040 h1042 hh1041 => ?_)
    have O1043 := O1037.pN z1039 z1040 hh1041 (by decide) nn_119100
    have e1044 : Tg h1036 a0 = 1012 := ((pRT hh1035).trans e1034)
    have e1045 : Tg h1042 a0 = 1012 := ((pNT hh1041 (pN_n hh1041 z1040 e1044)).trans e1044)
    refine gp_RF C fk_LandSurveyModel_122 pk_LandSurveyModel_19 rfl e1045 hn rfl (nf_a _ _) dX12_init_321 (fun h1047 hh1046 => ?_)
    have O1048 := O1043.pR e1045 hh1046 (okR_l rE_1012_19 (pN_T hh1041) (pN_L hh1041))
    refine g_aload_n C rfl 0 rfl dX12_init_324 ?_
    refine g_bipush C (by decide) dX12_init_325 ?_
    refine g_newa (atype := .boolean) (t := 1) (ty := .boolean) (N := 9) C 120101 rfl (iw (il 9) (by decide) (by decide)) (by decide) rfl kw_225 rfl (fun _ => rfl) (by decide) (by decide) (by decide) (by decide) dX12_init_327 (fun n1049 z1050 z1051 h1053 hh1052 => ?_)
    have O1054 := O1048.pN z1050 z1051 hh1052 (by decide) nn_120101
    have e1055 : Tg h1047 a0 = 1012 := ((pRT hh1046).trans e1045)
    have e1056 : Tg h1053 a0 = 1012 := ((pNT hh1052 (pN_n hh1052 z1051 e1055)).trans e1055)
    refine gp_RF C fk_LandSurveyModel_125 pk_LandSurveyModel_20 rfl e1056 hn rfl (nf_a _ _) dX12_init_329 (fun h1058 hh1057 => ?_)
    have O1059 := O1054.pR e1056 hh1057 (okR_l rE_1012_20 (pN_T hh1052) (pN_L hh1052))
    refine g_aload_n C rfl 0 rfl dX12_init_332 ?_
    refine g_bipush C (by decide) dX12_init_333 ?_
    refine g_newa (atype := .int) (t := 0) (ty := .int) (N := 9) C 121100 rfl (iw (il 9) (by decide) (by decide)) (by decide) rfl kw_224 rfl (fun _ => rfl) (by decide) (by decide) (by decide) (by decide) dX12_init_335 (fun n1060 z1061 z1062 h1064 hh1063 => ?_)
    have O1065 := O1059.pN z1061 z1062 hh1063 (by decide) nn_121100
    have e1066 : Tg h1058 a0 = 1012 := ((pRT hh1057).trans e1056)
    have e1067 : Tg h1064 a0 = 1012 := ((pNT hh1063 (pN_n hh1063 z1062 e1066)).trans e1066)
    refine gp_RF C fk_LandSurveyModel_128 pk_LandSurveyModel_21 rfl e1067 hn rfl (nf_a _ _) dX12_init_337 (fun h1069 hh1068 => ?_)
    have O1070 := O1065.pR e1067 hh1068 (okR_l rE_1012_21 (pN_T hh1063) (pN_L hh1063))
    refine GW.sub [0] rfl ?_
    have p1071 := (NZ_fx ((Fx.rf (wr := [202421]) (h := h1064)).pR e1067 hh1068 rfl) e1067 (by decide) (NZ_fx ((Fx.rf (wr := [1000121100]) (h := h1058)).pN z1062 hh1063 rfl) e1066 (by decide) (NZ_fx ((Fx.rf (wr := [202420]) (h := h1053)).pR e1056 hh1057 rfl) e1056 (by decide) (NZ_fx ((Fx.rf (wr := [1000120101]) (h := h1047)).pN z1051 hh1052 rfl) e1055 (by decide) (NZ_fx ((Fx.rf (wr := [202419]) (h := h1042)).pR e1045 hh1046 rfl) e1045 (by decide) (NZ_fx ((Fx.rf (wr := [1000119100]) (h := h1036)).pN z1040 hh1041 rfl) e1044 (by decide) (NZ_fx ((Fx.rf (wr := [202418]) (h := h1031)).pR e1034 hh1035 rfl) e1034 (by decide) (NZ_fx ((Fx.rf (wr := [1000118101]) (h := h1025)).pN z1029 hh1030 rfl) e1033 (by decide) (NZ_fx ((Fx.rf (wr := [202417]) (h := h1020)).pR e1023 hh1024 rfl) e1023 (by decide) (NZ_fx ((Fx.rf (wr := [1000117101]) (h := h1014)).pN z1018 hh1019 rfl) e1022 (by decide) (NZ_fx ((Fx.rf (wr := [202416]) (h := h1009)).pR e1012 hh1013 rfl) e1012 (by decide) (NZ_fx ((Fx.rf (wr := [1000116101]) (h := h1003)).pN z1007 hh1008 rfl) e1011 (by decide) (NZ_fx ((Fx.rf (wr := [202415]) (h := h998)).pR e1001 hh1002 rfl) e1001 (by decide) (NZ_fx ((Fx.rf (wr := [1000115100]) (h := h992)).pN z996 hh997 rfl) e1000 (by decide) (NZ_fx ((Fx.rf (wr := [202414]) (h := h987)).pR e990 hh991 rfl) e990 (by decide) (NZ_fx ((Fx.rf (wr := [1000114100]) (h := h976)).pN z985 hh986 rfl) e989 (by decide) p980))))))))))))))))
    have e1072 : Rv h1069 a0 14 = n983 := ((pR_j hh1068 (by decide)).trans ((pNR hh1063 (pN_n hh1063 z1062 e1066)).trans ((pR_j hh1057 (by decide)).trans ((pNR hh1052 (pN_n hh1052 z1051 e1055)).trans ((pR_j hh1046 (by decide)).trans ((pNR hh1041 (pN_n hh1041 z1040 e1044)).trans ((pR_j hh1035 (by decide)).trans ((pNR hh1030 (pN_n hh1030 z1029 e1033)).trans ((pR_j hh1024 (by decide)).trans ((pNR hh1019 (pN_n hh1019 z1018 e1022)).trans ((pR_j hh1013 (by decide)).trans ((pNR hh1008 (pN_n hh1008 z1007 e1011)).trans ((pR_j hh1002 (by decide)).trans ((pNR hh997 (pN_n hh997 z996 e1000)).trans (pR_e hh991)))))))))))))))
    have e1073 : Tg h992 n983 = 114100 := ((pRT hh991).trans (pN_T hh986))
    have e1074 : Tg h1003 n983 = 114100 := ((pRT hh1002).trans ((pNT hh997 (pN_n hh997 z996 e1073)).trans e1073))
    have e1075 : Tg h1014 n983 = 114100 := ((pRT hh1013).trans ((pNT hh1008 (pN_n hh1008 z1007 e1074)).trans e1074))
    have e1076 : Tg h1025 n983 = 114100 := ((pRT hh1024).trans ((pNT hh1019 (pN_n hh1019 z1018 e1075)).trans e1075))
    have e1077 : Tg h1036 n983 = 114100 := ((pRT hh1035).trans ((pNT hh1030 (pN_n hh1030 z1029 e1076)).trans e1076))
    have e1078 : Tg h1047 n983 = 114100 := ((pRT hh1046).trans ((pNT hh1041 (pN_n hh1041 z1040 e1077)).trans e1077))
    have e1079 : Tg h1058 n983 = 114100 := ((pRT hh1057).trans ((pNT hh1052 (pN_n hh1052 z1051 e1078)).trans e1078))
    have e1080 : Tg h1069 n983 = 114100 := ((pRT hh1068).trans ((pNT hh1063 (pN_n hh1063 z1062 e1079)).trans e1079))
    have e1081 : Rv h1069 a0 15 = n994 := ((pR_j hh1068 (by decide)).trans ((pNR hh1063 (pN_n hh1063 z1062 e1066)).trans ((pR_j hh1057 (by decide)).trans ((pNR hh1052 (pN_n hh1052 z1051 e1055)).trans ((pR_j hh1046 (by decide)).trans ((pNR hh1041 (pN_n hh1041 z1040 e1044)).trans ((pR_j hh1035 (by decide)).trans ((pNR hh1030 (pN_n hh1030 z1029 e1033)).trans ((pR_j hh1024 (by decide)).trans ((pNR hh1019 (pN_n hh1019 z1018 e1022)).trans ((pR_j hh1013 (by decide)).trans ((pNR hh1008 (pN_n hh1008 z1007 e1011)).trans (pR_e hh1002)))))))))))))
    have e1082 : Tg h1003 n994 = 115100 := ((pRT hh1002).trans (pN_T hh997))
    have e1083 : Tg h1014 n994 = 115100 := ((pRT hh1013).trans ((pNT hh1008 (pN_n hh1008 z1007 e1082)).trans e1082))
    have e1084 : Tg h1025 n994 = 115100 := ((pRT hh1024).trans ((pNT hh1019 (pN_n hh1019 z1018 e1083)).trans e1083))
    have e1085 : Tg h1036 n994 = 115100 := ((pRT hh1035).trans ((pNT hh1030 (pN_n hh1030 z1029 e1084)).trans e1084))
    have e1086 : Tg h1047 n994 = 115100 := ((pRT hh1046).trans ((pNT hh1041 (pN_n hh1041 z1040 e1085)).trans e1085))
    have e1087 : Tg h1058 n994 = 115100 := ((pRT hh1057).trans ((pNT hh1052 (pN_n hh1052 z1051 e1086)).trans e1086))
    have e1088 : Tg h1069 n994 = 115100 := ((pRT hh1068).trans ((pNT hh1063 (pN_n hh1063 z1062 e1087)).trans e1087))
    have e1089 : Rv h1069 a0 16 = n1005 := ((pR_j hh1068 (by decide)).trans ((pNR hh1063 (pN_n hh1063 z1062 e1066)).trans ((pR_j hh1057 (by decide)).trans ((pNR hh1052 (pN_n hh1052 z1051 e1055)).trans ((pR_j hh1046 (by decide)).trans ((pNR hh1041 (pN_n hh1041 z1040 e1044)).trans ((pR_j hh1035 (by decide)).trans ((pNR hh1030 (pN_n hh1030 z1029 e1033)).trans ((pR_j hh1024 (by decide)).trans ((pNR hh1019 (pN_n hh1019 z1018 e1022)).trans (pR_e hh1013)))))))))))
    have e1090 : Tg h1014 n1005 = 116101 := ((pRT hh1013).trans (pN_T hh1008))
    have e1091 : Tg h1025 n1005 = 116101 := ((pRT hh1024).trans ((pNT hh1019 (pN_n hh1019 z1018 e1090)).trans e1090))
    have e1092 : Tg h1036 n1005 = 116101 := ((pRT hh1035).trans ((pNT hh1030 (pN_n hh1030 z1029 e1091)).trans e1091))
    have e1093 : Tg h1047 n1005 = 116101 := ((pRT hh1046).trans ((pNT hh1041 (pN_n hh1041 z1040 e1092)).trans e1092))
    have e1094 : Tg h1058 n1005 = 116101 := ((pRT hh1057).trans ((pNT hh1052 (pN_n hh1052 z1051 e1093)).trans e1093))
    have e1095 : Tg h1069 n1005 = 116101 := ((pRT hh1068).trans ((pNT hh1063 (pN_n hh1063 z1062 e1094)).trans e1094))
    have e1096 : Rv h1069 a0 17 = n1016 := ((pR_j hh1068 (by decide)).trans ((pNR hh1063 (pN_n hh1063 z1062 e1066)).trans ((pR_j hh1057 (by decide)).trans ((pNR hh1052 (pN_n hh1052 z1051 e1055)).trans ((pR_j hh1046 (by decide)).trans ((pNR hh1041 (pN_n hh1041 z1040 e1044)).trans ((pR_j hh1035 (by decide)).trans ((pNR hh1030 (pN_n hh1030 z1029 e1033)).trans (pR_e hh1024)))))))))
    have e1097 : Tg h1025 n1016 = 117101 := ((pRT hh1024).trans (pN_T hh1019))
    have e1098 : Tg h1036 n1016 = 117101 := ((pRT hh1035).trans ((pNT hh1030 (pN_n hh1030 z1029 e1097)).trans e1097))
    have e1099 : Tg h1047 n1016 = 117101 := ((pRT hh1046).trans ((pNT hh1041 (pN_n hh1041 z1040 e1098)).trans e1098))
    have e1100 : Tg h1058 n1016 = 117101 := ((pRT hh1057).trans ((pNT hh1052 (pN_n hh1052 z1051 e1099)).trans e1099))
    have e1101 : Tg h1069 n1016 = 117101 := ((pRT hh1068).trans ((pNT hh1063 (pN_n hh1063 z1062 e1100)).trans e1100))
    have e1102 : Rv h1069 a0 18 = n1027 := ((pR_j hh1068 (by decide)).trans ((pNR hh1063 (pN_n hh1063 z1062 e1066)).trans ((pR_j hh1057 (by decide)).trans ((pNR hh1052 (pN_n hh1052 z1051 e1055)).trans ((pR_j hh1046 (by decide)).trans ((pNR hh1041 (pN_n hh1041 z1040 e1044)).trans (pR_e hh1035)))))))
    have e1103 : Tg h1036 n1027 = 118101 := ((pRT hh1035).trans (pN_T hh1030))
    have e1104 : Tg h1047 n1027 = 118101 := ((pRT hh1046).trans ((pNT hh1041 (pN_n hh1041 z1040 e1103)).trans e1103))
    have e1105 : Tg h1058 n1027 = 118101 := ((pRT hh1057).trans ((pNT hh1052 (pN_n hh1052 z1051 e1104)).trans e1104))
    have e1106 : Tg h1069 n1027 = 118101 := ((pRT hh1068).trans ((pNT hh1063 (pN_n hh1063 z1062 e1105)).trans e1105))
    have e1107 : Rv h1069 a0 19 = n1038 := ((pR_j hh1068 (by decide)).trans ((pNR hh1063 (pN_n hh1063 z1062 e1066)).trans ((pR_j hh1057 (by decide)).trans ((pNR hh1052 (pN_n hh1052 z1051 e1055)).trans (pR_e hh1046)))))
    have e1108 : Tg h1047 n1038 = 119100 := ((pRT hh1046).trans (pN_T hh1041))
    have e1109 : Tg h1058 n1038 = 119100 := ((pRT hh1057).trans ((pNT hh1052 (pN_n hh1052 z1051 e1108)).trans e1108))
    have e1110 : Tg h1069 n1038 = 119100 := ((pRT hh1068).trans ((pNT hh1063 (pN_n hh1063 z1062 e1109)).trans e1109))
    have e1111 : Rv h1069 a0 20 = n1049 := ((pR_j hh1068 (by decide)).trans ((pNR hh1063 (pN_n hh1063 z1062 e1066)).trans (pR_e hh1057)))
    have e1112 : Tg h1058 n1049 = 120101 := ((pRT hh1057).trans (pN_T hh1052))
    have e1113 : Tg h1069 n1049 = 120101 := ((pRT hh1068).trans ((pNT hh1063 (pN_n hh1063 z1062 e1112)).trans e1112))
    have e1114 : Tg h1069 n1060 = 121100 := ((pRT hh1068).trans (pN_T hh1063))
    exact J836 _ O1070 ((((((((((((((((((Fx.rf (wr := [202401, 202404, 202405, 202406, 202409, 202411, 202412, 202413, 202414, 202415, 202416, 202417, 202418, 202419, 202420, 202421, 202422, 202423, 202424, 202425, 202426, 202427, 202429, 202430, 202431, 202432, 202434, 202435, 202436, 202437, 202438, 202439, 202441, 202442, 202443, 202444, 202445, 202446, 202447, 202448, 202449, 202450, 202451, 202452, 202453, 202454, 202455, 202456, 202458, 202459, 202460, 202461, 202463, 202464, 202465, 202466, 202467, 202468, 202470, 202471, 202472, 202473, 202474, 202475, 202476, 202481, 202482, 202484, 202485, 202486, 21820400, 27220000, 27420200, 27820000, 1000101100, 1000104100, 1000105100, 1000106102, 1000109102, 1000111100, 1000112100, 1000113102, 1000114100, 1000115100, 1000116101, 1000117101, 1000118101, 1000119100, 1000120101, 1000121100, 1000122100, 1000123100, 1000124100, 1000125100, 1000126100, 1000127100, 1000129100, 1000130100, 1000131100, 1000132100, 1000136100, 1000137101, 1000138101, 1000139100, 1000141100, 1000142100, 1000143100, 1000144100, 1000145100, 1000146100, 1000147100, 1000148100, 1000149100, 1000150100, 1000151100, 1000152101, 1000153101, 1000154100, 1000155100, 1000156100, 1000158101, 1000159100, 1000160100, 1000161100, 1000163100, 1000164100, 1000165100, 1000166100, 1000167100, 1000168100, 1000170101, 1000171100, 1000172102, 1000173101, 1000174101, 1000175100, 1000176100, 1000181100, 1000182101, 1000184100, 1000185100, 1000186100]) (h := h)).call F979 rfl).pN z985 hh986 rfl).pR e990 hh991 rfl).pN z996 hh997 rfl).pR e1001 hh1002 rfl).pN z1007 hh1008 rfl).pR e1012 hh1013 rfl).pN z1018 hh1019 rfl).pR e1023 hh1024 rfl).pN z1029 hh1030 rfl).pR e1034 hh1035 rfl).pN z1040 hh1041 rfl).pR e1045 hh1046 rfl).pN z1051 hh1052 rfl).pR e1056 hh1057 rfl).pN z1062 hh1063 rfl).pR e1067 hh1068 rfl) (NZ_cons (by rw [(pR_e hh1068)]; exact nz_of O1070 e1114) (NZ_cons (by rw [e1111]; exact nz_of O1070 e1113) (NZ_cons (by rw [e1107]; exact nz_of O1070 e1110) (NZ_cons (by rw [e1102]; exact nz_of O1070 e1106) (NZ_cons (by rw [e1096]; exact nz_of O1070 e1101) (NZ_cons (by rw [e1089]; exact nz_of O1070 e1095) (NZ_cons (by rw [e1081]; exact nz_of O1070 e1088) (NZ_cons (by rw [e1072]; exact nz_of O1070 e1080) p1071))))))))
  refine g_aload_n C rfl 0 rfl dX12_init_0 ?_
  refine g_oinit C (tg_nz ta0) kw_1475 kw_178 (by decide) (Nat.le_of_ble_eq_true rfl) dX12_init_1 ?_
  refine g_aload_n C rfl 0 rfl dX12_init_4 ?_
  refine g_sipush C (by decide) dX12_init_5 ?_
  refine g_newa (atype := .int) (t := 0) (ty := .int) (N := 1500) C 101100 rfl (iw (il 1500) (by decide) (by decide)) (by decide) rfl kw_224 rfl (fun _ => rfl) (by decide) (by decide) (by decide) (by decide) dX12_init_8 (fun n1115 z1116 z1117 h1119 hh1118 => ?_)
  have O1120 := O.pN z1116 z1117 hh1118 (by decide) nn_101100
  have e1121 : Tg h1119 a0 = 1012 := ((pNT hh1118 (pN_n hh1118 z1117 ta0)).trans ta0)
  refine gp_RF C fk_LandSurveyModel_14 pk_LandSurveyModel_1 rfl e1121 hn rfl (nf_a _ _) dX12_init_10 (fun h1123 hh1122 => ?_)
  have O1124 := O1120.pR e1121 hh1122 (okR_l rE_1012_1 (pN_T hh1118) (pN_L hh1118))
  refine g_aload_n C rfl 0 rfl dX12_init_13 ?_
  refine g_sipush C (by decide) dX12_init_14 ?_
  refine g_newa (atype := .int) (t := 0) (ty := .int) (N := 1502) C 104100 rfl (iw (il 1502) (by decide) (by decide)) (by decide) rfl kw_224 rfl (fun _ => rfl) (by decide) (by decide) (by decide) (by decide) dX12_init_17 (fun n1125 z1126 z1127 h1129 hh1128 => ?_)
  have O1130 := O1124.pN z1126 z1127 hh1128 (by decide) nn_104100
  have e1131 : Tg h1123 a0 = 1012 := ((pRT hh1122).trans e1121)
  have e1132 : Tg h1129 a0 = 1012 := ((pNT hh1128 (pN_n hh1128 z1127 e1131)).trans e1131)
  refine gp_RF C fk_LandSurveyModel_24 pk_LandSurveyModel_4 rfl e1132 hn rfl (nf_a _ _) dX12_init_19 (fun h1134 hh1133 => ?_)
  have O1135 := O1130.pR e1132 hh1133 (okR_l rE_1012_4 (pN_T hh1128) (pN_L hh1128))
  refine g_aload_n C rfl 0 rfl dX12_init_22 ?_
  refine g_sipush C (by decide) dX12_init_23 ?_
  refine g_newa (atype := .int) (t := 0) (ty := .int) (N := 1502) C 105100 rfl (iw (il 1502) (by decide) (by decide)) (by decide) rfl kw_224 rfl (fun _ => rfl) (by decide) (by decide) (by decide) (by decide) dX12_init_26 (fun n1136 z1137 z1138 h1140 hh1139 => ?_)
  have O1141 := O1135.pN z1137 z1138 hh1139 (by decide) nn_105100
  have e1142 : Tg h1134 a0 = 1012 := ((pRT hh1133).trans e1132)
  have e1143 : Tg h1140 a0 = 1012 := ((pNT hh1139 (pN_n hh1139 z1138 e1142)).trans e1142)
  refine gp_RF C fk_LandSurveyModel_27 pk_LandSurveyModel_5 rfl e1143 hn rfl (nf_a _ _) dX12_init_28 (fun h1145 hh1144 => ?_)
  have O1146 := O1141.pR e1143 hh1144 (okR_l rE_1012_5 (pN_T hh1139) (pN_L hh1139))
  refine g_aload_n C rfl 0 rfl dX12_init_31 ?_
  refine g_sipush C (by decide) dX12_init_32 ?_
  refine g_newa (atype := .long) (t := 2) (ty := .long) (N := 1502) C 106102 rfl (iw (il 1502) (by decide) (by decide)) (by decide) rfl kw_376 rfl (fun _ => rfl) (by decide) (by decide) (by decide) (by decide) dX12_init_35 (fun n1147 z1148 z1149 h1151 hh1150 => ?_)
  have O1152 := O1146.pN z1148 z1149 hh1150 (by decide) nn_106102
  have e1153 : Tg h1145 a0 = 1012 := ((pRT hh1144).trans e1143)
  have e1154 : Tg h1151 a0 = 1012 := ((pNT hh1150 (pN_n hh1150 z1149 e1153)).trans e1153)
  refine gp_RF C fk_LandSurveyModel_30 pk_LandSurveyModel_6 rfl e1154 hn rfl (nf_a _ _) dX12_init_37 (fun h1156 hh1155 => ?_)
  have O1157 := O1152.pR e1154 hh1155 (okR_l rE_1012_6 (pN_T hh1150) (pN_L hh1150))
  refine g_aload_n C rfl 0 rfl dX12_init_40 ?_
  refine g_bipush C (by decide) dX12_init_41 ?_
  refine g_newa (atype := .long) (t := 2) (ty := .long) (N := 30) C 109102 rfl (iw (il 30) (by decide) (by decide)) (by decide) rfl kw_376 rfl (fun _ => rfl) (by decide) (by decide) (by decide) (by decide) dX12_init_43 (fun n1158 z1159 z1160 h1162 hh1161 => ?_)
  have O1163 := O1157.pN z1159 z1160 hh1161 (by decide) nn_109102
  refine g_dup C rfl dX12_init_45 ?_
  refine g_iconst C dX12_init_46 ?_
  refine g_ldc2 (z := 932411) C kw_1476 (by decide) dX12_init_47 ?_
  refine g_last C (pN_T hh1161) rfl (pN_L hh1161) (ix (il 0) (by decide) (by decide)) (iw (il 932411) (by decide) (by decide)) dX12_init_50 (fun h1165 hh1164 => ?_)
  have O1166 := O1163.pJ hh1164 (iw (il 932411) (by decide) (by decide))
  refine g_dup C rfl dX12_init_51 ?_
  refine g_iconst C dX12_init_52 ?_
  refine g_ldc2 (z := 710997) C kw_1477 (by decide) dX12_init_53 ?_
  have e1167 : Tg h1165 n1158 = 109102 := ((pJT hh1164).trans (pN_T hh1161))
  have e1168 : Ln h1165 n1158 = 30 := ((pJL hh1164).trans (pN_L hh1161))
  refine g_last C e1167 rfl e1168 (ix (il 1) (by decide) (by decide)) (iw (il 710997) (by decide) (by decide)) dX12_init_56 (fun h1170 hh1169 => ?_)
  have O1171 := O1166.pJ hh1169 (iw (il 710997) (by decide) (by decide))
  refine g_dup C rfl dX12_init_57 ?_
  refine g_iconst C dX12_init_58 ?_
  refine g_ldc2 (z := 913652) C kw_1478 (by decide) dX12_init_59 ?_
  have e1172 : Tg h1170 n1158 = 109102 := ((pJT hh1169).trans e1167)
  have e1173 : Ln h1170 n1158 = 30 := ((pJL hh1169).trans e1168)
  refine g_last C e1172 rfl e1173 (ix (il 2) (by decide) (by decide)) (iw (il 913652) (by decide) (by decide)) dX12_init_62 (fun h1175 hh1174 => ?_)
  have O1176 := O1171.pJ hh1174 (iw (il 913652) (by decide) (by decide))
  refine g_dup C rfl dX12_init_63 ?_
  refine g_iconst C dX12_init_64 ?_
  refine g_ldc2 (z := 227314) C kw_1479 (by decide) dX12_init_65 ?_
  have e1177 : Tg h1175 n1158 = 109102 := ((pJT hh1174).trans e1172)
  have e1178 : Ln h1175 n1158 = 30 := ((pJL hh1174).trans e1173)
  refine g_last C e1177 rfl e1178 (ix (il 3) (by decide) (by decide)) (iw (il 227314) (by decide) (by decide)) dX12_init_68 (fun h1180 hh1179 => ?_)
  have O1181 := O1176.pJ hh1179 (iw (il 227314) (by decide) (by decide))
  refine g_dup C rfl dX12_init_69 ?_
  refine g_iconst C dX12_init_70 ?_
  refine g_ldc2 (z := 36629165) C kw_1480 (by decide) dX12_init_71 ?_
  have e1182 : Tg h1180 n1158 = 109102 := ((pJT hh1179).trans e1177)
  have e1183 : Ln h1180 n1158 = 30 := ((pJL hh1179).trans e1178)
  refine g_last C e1182 rfl e1183 (ix (il 4) (by decide) (by decide)) (iw (il 36629165) (by decide) (by decide)) dX12_init_74 (fun h1185 hh1184 => ?_)
  have O1186 := O1181.pJ hh1184 (iw (il 36629165) (by decide) (by decide))
  refine g_dup C rfl dX12_init_75 ?_
  refine g_iconst C dX12_init_76 ?_
  refine g_ldc2 (z := 8420961) C kw_1481 (by decide) dX12_init_77 ?_
  have e1187 : Tg h1185 n1158 = 109102 := ((pJT hh1184).trans e1182)
  have e1188 : Ln h1185 n1158 = 30 := ((pJL hh1184).trans e1183)
  refine g_last C e1187 rfl e1188 (ix (il 5) (by decide) (by decide)) (iw (il 8420961) (by decide) (by decide)) dX12_init_80 (fun h1190 hh1189 => ?_)
  have O1191 := O1186.pJ hh1189 (iw (il 8420961) (by decide) (by decide))
  refine g_dup C rfl dX12_init_81 ?_
  refine g_bipush C (by decide) dX12_init_82 ?_
  refine g_ldc2 (z := 15769678) C kw_1482 (by decide) dX12_init_84 ?_
  have e1192 : Tg h1190 n1158 = 109102 := ((pJT hh1189).trans e1187)
  have e1193 : Ln h1190 n1158 = 30 := ((pJL hh1189).trans e1188)
  refine g_last C e1192 rfl e1193 (ix (il 6) (by decide) (by decide)) (iw (il 15769678) (by decide) (by decide)) dX12_init_87 (fun h1195 hh1194 => ?_)
  have O1196 := O1191.pJ hh1194 (iw (il 15769678) (by decide) (by decide))
  refine g_dup C rfl dX12_init_88 ?_
  refine g_bipush C (by decide) dX12_init_89 ?_
  refine g_ldc2 (z := 37948996) C kw_1483 (by decide) dX12_init_91 ?_
  have e1197 : Tg h1195 n1158 = 109102 := ((pJT hh1194).trans e1192)
  have e1198 : Ln h1195 n1158 = 30 := ((pJL hh1194).trans e1193)
  refine g_last C e1197 rfl e1198 (ix (il 7) (by decide) (by decide)) (iw (il 37948996) (by decide) (by decide)) dX12_init_94 (fun h1200 hh1199 => ?_)
  have O1201 := O1196.pJ hh1199 (iw (il 37948996) (by decide) (by decide))
  refine g_dup C rfl dX12_init_95 ?_
  refine g_bipush C (by decide) dX12_init_96 ?_
  refine g_ldc2 (z := 1258222236) C kw_1484 (by decide) dX12_init_98 ?_
  have e1202 : Tg h1200 n1158 = 109102 := ((pJT hh1199).trans e1197)
  have e1203 : Ln h1200 n1158 = 30 := ((pJL hh1199).trans e1198)
  refine g_last C e1202 rfl e1203 (ix (il 8) (by decide) (by decide)) (iw (il 1258222236) (by decide) (by decide)) dX12_init_101 (fun h1205 hh1204 => ?_)
  have O1206 := O1201.pJ hh1204 (iw (il 1258222236) (by decide) (by decide))
  refine g_dup C rfl dX12_init_102 ?_
  refine g_bipush C (by decide) dX12_init_103 ?_
  refine g_ldc2 (z := 755) C kw_1485 (by decide) dX12_init_105 ?_
  have e1207 : Tg h1205 n1158 = 109102 := ((pJT hh1204).trans e1202)
  have e1208 : Ln h1205 n1158 = 30 := ((pJL hh1204).trans e1203)
  refine g_last C e1207 rfl e1208 (ix (il 9) (by decide) (by decide)) (iw (il 755) (by decide) (by decide)) dX12_init_108 (fun h1210 hh1209 => ?_)
  have O1211 := O1206.pJ hh1209 (iw (il 755) (by decide) (by decide))
  refine g_dup C rfl dX12_init_109 ?_
  refine g_bipush C (by decide) dX12_init_110 ?_
  refine g_ldc2 (z := 329128) C kw_1486 (by decide) dX12_init_112 ?_
  have e1212 : Tg h1210 n1158 = 109102 := ((pJT hh1209).trans e1207)
  have e1213 : Ln h1210 n1158 = 30 := ((pJL hh1209).trans e1208)
  refine g_last C e1212 rfl e1213 (ix (il 10) (by decide) (by decide)) (iw (il 329128) (by decide) (by decide)) dX12_init_115 (fun h1215 hh1214 => ?_)
  have O1216 := O1211.pJ hh1214 (iw (il 329128) (by decide) (by decide))
  refine g_dup C rfl dX12_init_116 ?_
  refine g_bipush C (by decide) dX12_init_117 ?_
  refine g_ldc2 (z := 1176170) C kw_1487 (by decide) dX12_init_119 ?_
  have e1217 : Tg h1215 n1158 = 109102 := ((pJT hh1214).trans e1212)
  have e1218 : Ln h1215 n1158 = 30 := ((pJL hh1214).trans e1213)
  refine g_last C e1217 rfl e1218 (ix (il 11) (by decide) (by decide)) (iw (il 1176170) (by decide) (by decide)) dX12_init_122 (fun h1220 hh1219 => ?_)
  have O1221 := O1216.pJ hh1219 (iw (il 1176170) (by decide) (by decide))
  refine g_dup C rfl dX12_init_123 ?_
  refine g_bipush C (by decide) dX12_init_124 ?_
  refine g_ldc2 (z := 333123) C kw_1488 (by decide) dX12_init_126 ?_
  have e1222 : Tg h1220 n1158 = 109102 := ((pJT hh1219).trans e1217)
  have e1223 : Ln h1220 n1158 = 30 := ((pJL hh1219).trans e1218)
  refine g_last C e1222 rfl e1223 (ix (il 12) (by decide) (by decide)) (iw (il 333123) (by decide) (by decide)) dX12_init_129 (fun h1225 hh1224 => ?_)
  have O1226 := O1221.pJ hh1224 (iw (il 333123) (by decide) (by decide))
  refine g_dup C rfl dX12_init_130 ?_
  refine g_bipush C (by decide) dX12_init_131 ?_
  refine g_ldc2 (z := 173197865) C kw_1489 (by decide) dX12_init_133 ?_
  have e1227 : Tg h1225 n1158 = 109102 := ((pJT hh1224).trans e1222)
  have e1228 : Ln h1225 n1158 = 30 := ((pJL hh1224).trans e1223)
  refine g_last C e1227 rfl e1228 (ix (il 13) (by decide) (by decide)) (iw (il 173197865) (by decide) (by decide)) dX12_init_136 (fun h1230 hh1229 => ?_)
  have O1231 := O1226.pJ hh1229 (iw (il 173197865) (by decide) (by decide))
  refine g_dup C rfl dX12_init_137 ?_
  refine g_bipush C (by decide) dX12_init_138 ?_
  refine g_ldc2 (z := 306528872) C kw_1490 (by decide) dX12_init_140 ?_
  have e1232 : Tg h1230 n1158 = 109102 := ((pJT hh1229).trans e1227)
  have e1233 : Ln h1230 n1158 = 30 := ((pJL hh1229).trans e1228)
  refine g_last C e1232 rfl e1233 (ix (il 14) (by decide) (by decide)) (iw (il 306528872) (by decide) (by decide)) dX12_init_143 (fun h1235 hh1234 => ?_)
  have O1236 := O1231.pJ hh1234 (iw (il 306528872) (by decide) (by decide))
  refine g_dup C rfl dX12_init_144 ?_
  refine g_bipush C (by decide) dX12_init_145 ?_
  refine g_ldc2 (z := 1891) C kw_1491 (by decide) dX12_init_147 ?_
  have e1237 : Tg h1235 n1158 = 109102 := ((pJT hh1234).trans e1232)
  have e1238 : Ln h1235 n1158 = 30 := ((pJL hh1234).trans e1233)
  refine g_last C e1237 rfl e1238 (ix (il 15) (by decide) (by decide)) (iw (il 1891) (by decide) (by decide)) dX12_init_150 (fun h1240 hh1239 => ?_)
  have O1241 := O1236.pJ hh1239 (iw (il 1891) (by decide) (by decide))
  refine g_dup C rfl dX12_init_151 ?_
  refine g_bipush C (by decide) dX12_init_152 ?_
  refine g_ldc2 (z := 573) C kw_1492 (by decide) dX12_init_154 ?_
  have e1242 : Tg h1240 n1158 = 109102 := ((pJT hh1239).trans e1237)
  have e1243 : Ln h1240 n1158 = 30 := ((pJL hh1239).trans e1238)
  refine g_last C e1242 rfl e1243 (ix (il 16) (by decide) (by decide)) (iw (il 573) (by decide) (by decide)) dX12_init_157 (fun h1245 hh1244 => ?_)
  have O1246 := O1241.pJ hh1244 (iw (il 573) (by decide) (by decide))
  refine g_dup C rfl dX12_init_158 ?_
  refine g_bipush C (by decide) dX12_init_159 ?_
  refine g_ldc2 (z := 19741) C kw_1493 (by decide) dX12_init_161 ?_
  have e1247 : Tg h1245 n1158 = 109102 := ((pJT hh1244).trans e1242)
  have e1248 : Ln h1245 n1158 = 30 := ((pJL hh1244).trans e1243)
  refine g_last C e1247 rfl e1248 (ix (il 17) (by decide) (by decide)) (iw (il 19741) (by decide) (by decide)) dX12_init_164 (fun h1250 hh1249 => ?_)
  have O1251 := O1246.pJ hh1249 (iw (il 19741) (by decide) (by decide))
  refine g_dup C rfl dX12_init_165 ?_
  refine g_bipush C (by decide) dX12_init_166 ?_
  refine g_ldc2 (z := 236773452) C kw_1494 (by decide) dX12_init_168 ?_
  have e1252 : Tg h1250 n1158 = 109102 := ((pJT hh1249).trans e1247)
  have e1253 : Ln h1250 n1158 = 30 := ((pJL hh1249).trans e1248)
  refine g_last C e1252 rfl e1253 (ix (il 18) (by decide) (by decide)) (iw (il 236773452) (by decide) (by decide)) dX12_init_171 (fun h1255 hh1254 => ?_)
  have O1256 := O1251.pJ hh1254 (iw (il 236773452) (by decide) (by decide))
  refine g_dup C rfl dX12_init_172 ?_
  refine g_bipush C (by decide) dX12_init_173 ?_
  refine g_ldc2 (z := 14032597) C kw_1495 (by decide) dX12_init_175 ?_
  have e1257 : Tg h1255 n1158 = 109102 := ((pJT hh1254).trans e1252)
  have e1258 : Ln h1255 n1158 = 30 := ((pJL hh1254).trans e1253)
  refine g_last C e1257 rfl e1258 (ix (il 19) (by decide) (by decide)) (iw (il 14032597) (by decide) (by decide)) dX12_init_178 (fun h1260 hh1259 => ?_)
  have O1261 := O1256.pJ hh1259 (iw (il 14032597) (by decide) (by decide))
  refine g_dup C rfl dX12_init_179 ?_
  refine g_bipush C (by decide) dX12_init_180 ?_
  refine g_ldc2 (z := 407263) C kw_1496 (by decide) dX12_init_182 ?_
  have e1262 : Tg h1260 n1158 = 109102 := ((pJT hh1259).trans e1257)
  have e1263 : Ln h1260 n1158 = 30 := ((pJL hh1259).trans e1258)
  refine g_last C e1262 rfl e1263 (ix (il 20) (by decide) (by decide)) (iw (il 407263) (by decide) (by decide)) dX12_init_185 (fun h1265 hh1264 => ?_)
  have O1266 := O1261.pJ hh1264 (iw (il 407263) (by decide) (by decide))
  refine g_dup C rfl dX12_init_186 ?_
  refine g_bipush C (by decide) dX12_init_187 ?_
  refine g_ldc2 (z := 317227) C kw_1497 (by decide) dX12_init_189 ?_
  have e1267 : Tg h1265 n1158 = 109102 := ((pJT hh1264).trans e1262)
  have e1268 : Ln h1265 n1158 = 30 := ((pJL hh1264).trans e1263)
  refine g_last C e1267 rfl e1268 (ix (il 21) (by decide) (by decide)) (iw (il 317227) (by decide) (by decide)) dX12_init_192 (fun h1270 hh1269 => ?_)
  have O1271 := O1266.pJ hh1269 (iw (il 317227) (by decide) (by decide))
  refine g_dup C rfl dX12_init_193 ?_
  refine g_bipush C (by decide) dX12_init_194 ?_
  refine g_ldc2 (z := 570026) C kw_1498 (by decide) dX12_init_196 ?_
  have e1272 : Tg h1270 n1158 = 109102 := ((pJT hh1269).trans e1267)
  have e1273 : Ln h1270 n1158 = 30 := ((pJL hh1269).trans e1268)
  refine g_last C e1272 rfl e1273 (ix (il 22) (by decide) (by decide)) (iw (il 570026) (by decide) (by decide)) dX12_init_199 (fun h1275 hh1274 => ?_)
  have O1276 := O1271.pJ hh1274 (iw (il 570026) (by decide) (by decide))
  refine g_dup C rfl dX12_init_200 ?_
  refine g_bipush C (by decide) dX12_init_201 ?_
  refine g_ldc2 (z := 407115) C kw_1499 (by decide) dX12_init_203 ?_
  have e1277 : Tg h1275 n1158 = 109102 := ((pJT hh1274).trans e1272)
  have e1278 : Ln h1275 n1158 = 30 := ((pJL hh1274).trans e1273)
  refine g_last C e1277 rfl e1278 (ix (il 23) (by decide) (by decide)) (iw (il 407115) (by decide) (by decide)) dX12_init_206 (fun h1280 hh1279 => ?_)
  have O1281 := O1276.pJ hh1279 (iw (il 407115) (by decide) (by decide))
  refine g_dup C rfl dX12_init_207 ?_
  refine g_bipush C (by decide) dX12_init_208 ?_
  refine g_ldc2 (z := 7772561) C kw_1500 (by decide) dX12_init_210 ?_
  have e1282 : Tg h1280 n1158 = 109102 := ((pJT hh1279).trans e1277)
  have e1283 : Ln h1280 n1158 = 30 := ((pJL hh1279).trans e1278)
  refine g_last C e1282 rfl e1283 (ix (il 24) (by decide) (by decide)) (iw (il 7772561) (by decide) (by decide)) dX12_init_213 (fun h1285 hh1284 => ?_)
  have O1286 := O1281.pJ hh1284 (iw (il 7772561) (by decide) (by decide))
  refine g_dup C rfl dX12_init_214 ?_
  refine g_bipush C (by decide) dX12_init_215 ?_
  refine g_ldc2 (z := 564588237) C kw_1501 (by decide) dX12_init_217 ?_
  have e1287 : Tg h1285 n1158 = 109102 := ((pJT hh1284).trans e1282)
  have e1288 : Ln h1285 n1158 = 30 := ((pJL hh1284).trans e1283)
  refine g_last C e1287 rfl e1288 (ix (il 25) (by decide) (by decide)) (iw (il 564588237) (by decide) (by decide)) dX12_init_220 (fun h1290 hh1289 => ?_)
  have O1291 := O1286.pJ hh1289 (iw (il 564588237) (by decide) (by decide))
  refine g_dup C rfl dX12_init_221 ?_
  refine g_bipush C (by decide) dX12_init_222 ?_
  refine g_ldc2 (z := 2253564) C kw_1502 (by decide) dX12_init_224 ?_
  have e1292 : Tg h1290 n1158 = 109102 := ((pJT hh1289).trans e1287)
  have e1293 : Ln h1290 n1158 = 30 := ((pJL hh1289).trans e1288)
  refine g_last C e1292 rfl e1293 (ix (il 26) (by decide) (by decide)) (iw (il 2253564) (by decide) (by decide)) dX12_init_227 (fun h1295 hh1294 => ?_)
  have O1296 := O1291.pJ hh1294 (iw (il 2253564) (by decide) (by decide))
  refine g_dup C rfl dX12_init_228 ?_
  refine g_bipush C (by decide) dX12_init_229 ?_
  refine g_ldc2 (z := 2686664) C kw_1503 (by decide) dX12_init_231 ?_
  have e1297 : Tg h1295 n1158 = 109102 := ((pJT hh1294).trans e1292)
  have e1298 : Ln h1295 n1158 = 30 := ((pJL hh1294).trans e1293)
  refine g_last C e1297 rfl e1298 (ix (il 27) (by decide) (by decide)) (iw (il 2686664) (by decide) (by decide)) dX12_init_234 (fun h1300 hh1299 => ?_)
  have O1301 := O1296.pJ hh1299 (iw (il 2686664) (by decide) (by decide))
  refine g_dup C rfl dX12_init_235 ?_
  refine g_bipush C (by decide) dX12_init_236 ?_
  refine g_ldc2 (z := 964262) C kw_1504 (by decide) dX12_init_238 ?_
  have e1302 : Tg h1300 n1158 = 109102 := ((pJT hh1299).trans e1297)
  have e1303 : Ln h1300 n1158 = 30 := ((pJL hh1299).trans e1298)
  refine g_last C e1302 rfl e1303 (ix (il 28) (by decide) (by decide)) (iw (il 964262) (by decide) (by decide)) dX12_init_241 (fun h1305 hh1304 => ?_)
  have O1306 := O1301.pJ hh1304 (iw (il 964262) (by decide) (by decide))
  refine g_dup C rfl dX12_init_242 ?_
  refine g_bipush C (by decide) dX12_init_243 ?_
  refine g_ldc2 (z := 564640) C kw_1505 (by decide) dX12_init_245 ?_
  have e1307 : Tg h1305 n1158 = 109102 := ((pJT hh1304).trans e1302)
  have e1308 : Ln h1305 n1158 = 30 := ((pJL hh1304).trans e1303)
  refine g_last C e1307 rfl e1308 (ix (il 29) (by decide) (by decide)) (iw (il 564640) (by decide) (by decide)) dX12_init_248 (fun h1310 hh1309 => ?_)
  have O1311 := O1306.pJ hh1309 (iw (il 564640) (by decide) (by decide))
  have e1312 : Tg h1156 a0 = 1012 := ((pRT hh1155).trans e1154)
  have e1313 : Tg h1310 a0 = 1012 := ((pJT hh1309).trans ((pJT hh1304).trans ((pJT hh1299).trans ((pJT hh1294).trans ((pJT hh1289).trans ((pJT hh1284).trans ((pJT hh1279).trans ((pJT hh1274).trans ((pJT hh1269).trans ((pJT hh1264).trans ((pJT hh1259).trans ((pJT hh1254).trans ((pJT hh1249).trans ((pJT hh1244).trans ((pJT hh1239).trans ((pJT hh1234).trans ((pJT hh1229).trans ((pJT hh1224).trans ((pJT hh1219).trans ((pJT hh1214).trans ((pJT hh1209).trans ((pJT hh1204).trans ((pJT hh1199).trans ((pJT hh1194).trans ((pJT hh1189).trans ((pJT hh1184).trans ((pJT hh1179).trans ((pJT hh1174).trans ((pJT hh1169).trans ((pJT hh1164).trans ((pNT hh1161 (pN_n hh1161 z1160 e1312)).trans e1312)))))))))))))))))))))))))))))))
  refine gp_RF C fk_LandSurveyModel_94 pk_LandSurveyModel_9 rfl e1313 hn rfl (nf_a _ _) dX12_init_249 (fun h1315 hh1314 => ?_)
  have e1317 : Tg h1310 n1158 = 109102 := ((pJT hh1309).trans e1307)
  have e1318 : Ln h1310 n1158 = 30 := ((pJL hh1309).trans e1308)
  have O1316 := O1311.pR e1313 hh1314 (okR_l rE_1012_9 e1317 e1318)
  refine g_aload_n C rfl 0 rfl dX12_init_252 ?_
  refine g_bipush C (by decide) dX12_init_253 ?_
  refine g_newa (atype := .int) (t := 0) (ty := .int) (N := 9) C 111100 rfl (iw (il 9) (by decide) (by decide)) (by decide) rfl kw_224 rfl (fun _ => rfl) (by decide) (by decide) (by decide) (by decide) dX12_init_255 (fun n1319 z1320 z1321 h1323 hh1322 => ?_)
  have O1324 := O1316.pN z1320 z1321 hh1322 (by decide) nn_111100
  have e1325 : Tg h1315 a0 = 1012 := ((pRT hh1314).trans e1313)
  have e1326 : Tg h1323 a0 = 1012 := ((pNT hh1322 (pN_n hh1322 z1321 e1325)).trans e1325)
  refine gp_RF C fk_LandSurveyModel_97 pk_LandSurveyModel_11 rfl e1326 hn rfl (nf_a _ _) dX12_init_257 (fun h1328 hh1327 => ?_)
  have O1329 := O1324.pR e1326 hh1327 (okR_l rE_1012_11 (pN_T hh1322) (pN_L hh1322))
  refine g_aload_n C rfl 0 rfl dX12_init_260 ?_
  refine g_bipush C (by decide) dX12_init_261 ?_
  refine g_newa (atype := .int) (t := 0) (ty := .int) (N := 9) C 112100 rfl (iw (il 9) (by decide) (by decide)) (by decide) rfl kw_224 rfl (fun _ => rfl) (by decide) (by decide) (by decide) (by decide) dX12_init_263 (fun n1330 z1331 z1332 h1334 hh1333 => ?_)
  have O1335 := O1329.pN z1331 z1332 hh1333 (by decide) nn_112100
  have e1336 : Tg h1328 a0 = 1012 := ((pRT hh1327).trans e1326)
  have e1337 : Tg h1334 a0 = 1012 := ((pNT hh1333 (pN_n hh1333 z1332 e1336)).trans e1336)
  refine gp_RF C fk_LandSurveyModel_100 pk_LandSurveyModel_12 rfl e1337 hn rfl (nf_a _ _) dX12_init_265 (fun h1339 hh1338 => ?_)
  have O1340 := O1335.pR e1337 hh1338 (okR_l rE_1012_12 (pN_T hh1333) (pN_L hh1333))
  refine g_aload_n C rfl 0 rfl dX12_init_268 ?_
  refine g_bipush C (by decide) dX12_init_269 ?_
  refine g_newa (atype := .long) (t := 2) (ty := .long) (N := 90) C 113102 rfl (iw (il 90) (by decide) (by decide)) (by decide) rfl kw_376 rfl (fun _ => rfl) (by decide) (by decide) (by decide) (by decide) dX12_init_271 (fun n1341 z1342 z1343 h1345 hh1344 => ?_)
  have O1346 := O1340.pN z1342 z1343 hh1344 (by decide) nn_113102
  have e1347 : Tg h1339 a0 = 1012 := ((pRT hh1338).trans e1337)
  have e1348 : Tg h1345 a0 = 1012 := ((pNT hh1344 (pN_n hh1344 z1343 e1347)).trans e1347)
  refine gp_RF C fk_LandSurveyModel_103 pk_LandSurveyModel_13 rfl e1348 hn rfl (nf_a _ _) dX12_init_273 (fun h1350 hh1349 => ?_)
  have O1351 := O1346.pR e1348 hh1349 (okR_l rE_1012_13 (pN_T hh1344) (pN_L hh1344))
  refine GW.sub [0] rfl ?_
  have e1352 : Rv h1350 a0 1 = n1115 := ((pR_j hh1349 (by decide)).trans ((pNR hh1344 (pN_n hh1344 z1343 e1347)).trans ((pR_j hh1338 (by decide)).trans ((pNR hh1333 (pN_n hh1333 z1332 e1336)).trans ((pR_j hh1327 (by decide)).trans ((pNR hh1322 (pN_n hh1322 z1321 e1325)).trans ((pR_j hh1314 (by decide)).trans ((pJR hh1309).trans ((pJR hh1304).trans ((pJR hh1299).trans ((pJR hh1294).trans ((pJR hh1289).trans ((pJR hh1284).trans ((pJR hh1279).trans ((pJR hh1274).trans ((pJR hh1269).trans ((pJR hh1264).trans ((pJR hh1259).trans ((pJR hh1254).trans ((pJR hh1249).trans ((pJR hh1244).trans ((pJR hh1239).trans ((pJR hh1234).trans ((pJR hh1229).trans ((pJR hh1224).trans ((pJR hh1219).trans ((pJR hh1214).trans ((pJR hh1209).trans ((pJR hh1204).trans ((pJR hh1199).trans ((pJR hh1194).trans ((pJR hh1189).trans ((pJR hh1184).trans ((pJR hh1179).trans ((pJR hh1174).trans ((pJR hh1169).trans ((pJR hh1164).trans ((pNR hh1161 (pN_n hh1161 z1160 e1312)).trans ((pR_j hh1155 (by decide)).trans ((pNR hh1150 (pN_n hh1150 z1149 e1153)).trans ((pR_j hh1144 (by decide)).trans ((pNR hh1139 (pN_n hh1139 z1138 e1142)).trans ((pR_j hh1133 (by decide)).trans ((pNR hh1128 (pN_n hh1128 z1127 e1131)).trans (pR_e hh1122)))))))))))))))))))))))))))))))))))))))))))))
  have e1353 : Tg h1123 n1115 = 101100 := ((pRT hh1122).trans (pN_T hh1118))
  have e1354 : Tg h1134 n1115 = 101100 := ((pRT hh1133).trans ((pNT hh1128 (pN_n hh1128 z1127 e1353)).trans e1353))
  have e1355 : Tg h1145 n1115 = 101100 := ((pRT hh1144).trans ((pNT hh1139 (pN_n hh1139 z1138 e1354)).trans e1354))
  have e1356 : Tg h1156 n1115 = 101100 := ((pRT hh1155).trans ((pNT hh1150 (pN_n hh1150 z1149 e1355)).trans e1355))
  have e1357 : Tg h1315 n1115 = 101100 := ((pRT hh1314).trans ((pJT hh1309).trans ((pJT hh1304).trans ((pJT hh1299).trans ((pJT hh1294).trans ((pJT hh1289).trans ((pJT hh1284).trans ((pJT hh1279).trans ((pJT hh1274).trans ((pJT hh1269).trans ((pJT hh1264).trans ((pJT hh1259).trans ((pJT hh1254).trans ((pJT hh1249).trans ((pJT hh1244).trans ((pJT hh1239).trans ((pJT hh1234).trans ((pJT hh1229).trans ((pJT hh1224).trans ((pJT hh1219).trans ((pJT hh1214).trans ((pJT hh1209).trans ((pJT hh1204).trans ((pJT hh1199).trans ((pJT hh1194).trans ((pJT hh1189).trans ((pJT hh1184).trans ((pJT hh1179).trans ((pJT hh1174).trans ((pJT hh1169).trans ((pJT hh1164).trans ((pNT hh1161 (pN_n hh1161 z1160 e1356)).trans e1356))))))))))))))))))))))))))))))))
  have e1358 : Tg h1328 n1115 = 101100 := ((pRT hh1327).trans ((pNT hh1322 (pN_n hh1322 z1321 e1357)).trans e1357))
  have e1359 : Tg h1339 n1115 = 101100 := ((pRT hh1338).trans ((pNT hh1333 (pN_n hh1333 z1332 e1358)).trans e1358))
  have e1360 : Tg h1350 n1115 = 101100 := ((pRT hh1349).trans ((pNT hh1344 (pN_n hh1344 z1343 e1359)).trans e1359))
  have e1361 : Rv h1350 a0 4 = n1125 := ((pR_j hh1349 (by decide)).trans ((pNR hh1344 (pN_n hh1344 z1343 e1347)).trans ((pR_j hh1338 (by decide)).trans ((pNR hh1333 (pN_n hh1333 z1332 e1336)).trans ((pR_j hh1327 (by decide)).trans ((pNR hh1322 (pN_n hh1322 z1321 e1325)).trans ((pR_j hh1314 (by decide)).trans ((pJR hh1309).trans ((pJR hh1304).trans ((pJR hh1299).trans ((pJR hh1294).trans ((pJR hh1289).trans ((pJR hh1284).trans ((pJR hh1279).trans ((pJR hh1274).trans ((pJR hh1269).trans ((pJR hh1264).trans ((pJR hh1259).trans ((pJR hh1254).trans ((pJR hh1249).trans ((pJR hh1244).trans ((pJR hh1239).trans ((pJR hh1234).trans ((pJR hh1229).trans ((pJR hh1224).trans ((pJR hh1219).trans ((pJR hh1214).trans ((pJR hh1209).trans ((pJR hh1204).trans ((pJR hh1199).trans ((pJR hh1194).trans ((pJR hh1189).trans ((pJR hh1184).trans ((pJR hh1179).trans ((pJR hh1174).trans ((pJR hh1169).trans ((pJR hh1164).trans ((pNR hh1161 (pN_n hh1161 z1160 e1312)).trans ((pR_j hh1155 (by decide)).trans ((pNR hh1150 (pN_n hh1150 z1149 e1153)).trans ((pR_j hh1144 (by decide)).trans ((pNR hh1139 (pN_n hh1139 z1138 e1142)).trans (pR_e hh1133)))))))))))))))))))))))))))))))))))))))))))
  have e1362 : Tg h1134 n1125 = 104100 := ((pRT hh1133).trans (pN_T hh1128))
  have e1363 : Tg h1145 n1125 = 104100 := ((pRT hh1144).trans ((pNT hh1139 (pN_n hh1139 z1138 e1362)).trans e1362))
  have e1364 : Tg h1156 n1125 = 104100 := ((pRT hh1155).trans ((pNT hh1150 (pN_n hh1150 z1149 e1363)).trans e1363))
  have e1365 : Tg h1315 n1125 = 104100 := ((pRT hh1314).trans ((pJT hh1309).trans ((pJT hh1304).trans ((pJT hh1299).trans ((pJT hh1294).trans ((pJT hh1289).trans ((pJT hh1284).trans ((pJT hh1279).trans ((pJT hh1274).trans ((pJT hh1269).trans ((pJT hh1264).trans ((pJT hh1259).trans ((pJT hh1254).trans ((pJT hh1249).trans ((pJT hh1244).trans ((pJT hh1239).trans ((pJT hh1234).trans ((pJT hh1229).trans ((pJT hh1224).trans ((pJT hh1219).trans ((pJT hh1214).trans ((pJT hh1209).trans ((pJT hh1204).trans ((pJT hh1199).trans ((pJT hh1194).trans ((pJT hh1189).trans ((pJT hh1184).trans ((pJT hh1179).trans ((pJT hh1174).trans ((pJT hh1169).trans ((pJT hh1164).trans ((pNT hh1161 (pN_n hh1161 z1160 e1364)).trans e1364))))))))))))))))))))))))))))))))
  have e1366 : Tg h1328 n1125 = 104100 := ((pRT hh1327).trans ((pNT hh1322 (pN_n hh1322 z1321 e1365)).trans e1365))
  have e1367 : Tg h1339 n1125 = 104100 := ((pRT hh1338).trans ((pNT hh1333 (pN_n hh1333 z1332 e1366)).trans e1366))
  have e1368 : Tg h1350 n1125 = 104100 := ((pRT hh1349).trans ((pNT hh1344 (pN_n hh1344 z1343 e1367)).trans e1367))
  have e1369 : Rv h1350 a0 5 = n1136 := ((pR_j hh1349 (by decide)).trans ((pNR hh1344 (pN_n hh1344 z1343 e1347)).trans ((pR_j hh1338 (by decide)).trans ((pNR hh1333 (pN_n hh1333 z1332 e1336)).trans ((pR_j hh1327 (by decide)).trans ((pNR hh1322 (pN_n hh1322 z1321 e1325)).trans ((pR_j hh1314 (by decide)).trans ((pJR hh1309).trans ((pJR hh1304).trans ((pJR hh1299).trans ((pJR hh1294).trans ((pJR hh1289).trans ((pJR hh1284).trans ((pJR hh1279).trans ((pJR hh1274).trans ((pJR hh1269).trans ((pJR hh1264).trans ((pJR hh1259).trans ((pJR hh1254).trans ((pJR hh1249).trans ((pJR hh1244).trans ((pJR hh1239).trans ((pJR hh1234).trans ((pJR hh1229).trans ((pJR hh1224).trans ((pJR hh1219).trans ((pJR hh1214).trans ((pJR hh1209).trans ((pJR hh1204).trans ((pJR hh1199).trans ((pJR hh1194).trans ((pJR hh1189).trans ((pJR hh1184).trans ((pJR hh1179).trans ((pJR hh1174).trans ((pJR hh1169).trans ((pJR hh1164).trans ((pNR hh1161 (pN_n hh1161 z1160 e1312)).trans ((pR_j hh1155 (by decide)).trans ((pNR hh1150 (pN_n hh1150 z1149 e1153)).trans (pR_e hh1144)))))))))))))))))))))))))))))))))))))))))
  have e1370 : Tg h1145 n1136 = 105100 := ((pRT hh1144).trans (pN_T hh1139))
  have e1371 : Tg h1156 n1136 = 105100 := ((pRT hh1155).trans ((pNT hh1150 (pN_n hh1150 z1149 e1370)).trans e1370))
  have e1372 : Tg h1315 n1136 = 105100 := ((pRT hh1314).trans ((pJT hh1309).trans ((pJT hh1304).trans ((pJT hh1299).trans ((pJT hh1294).trans ((pJT hh1289).trans ((pJT hh1284).trans ((pJT hh1279).trans ((pJT hh1274).trans ((pJT hh1269).trans ((pJT hh1264).trans ((pJT hh1259).trans ((pJT hh1254).trans ((pJT hh1249).trans ((pJT hh1244).trans ((pJT hh1239).trans ((pJT hh1234).trans ((pJT hh1229).trans ((pJT hh1224).trans ((pJT hh1219).trans ((pJT hh1214).trans ((pJT hh1209).trans ((pJT hh1204).trans ((pJT hh1199).trans ((pJT hh1194).trans ((pJT hh1189).trans ((pJT hh1184).trans ((pJT hh1179).trans ((pJT hh1174).trans ((pJT hh1169).trans ((pJT hh1164).trans ((pNT hh1161 (pN_n hh1161 z1160 e1371)).trans e1371))))))))))))))))))))))))))))))))
  have e1373 : Tg h1328 n1136 = 105100 := ((pRT hh1327).trans ((pNT hh1322 (pN_n hh1322 z1321 e1372)).trans e1372))
  have e1374 : Tg h1339 n1136 = 105100 := ((pRT hh1338).trans ((pNT hh1333 (pN_n hh1333 z1332 e1373)).trans e1373))
  have e1375 : Tg h1350 n1136 = 105100 := ((pRT hh1349).trans ((pNT hh1344 (pN_n hh1344 z1343 e1374)).trans e1374))
  have e1376 : Rv h1350 a0 6 = n1147 := ((pR_j hh1349 (by decide)).trans ((pNR hh1344 (pN_n hh1344 z1343 e1347)).trans ((pR_j hh1338 (by decide)).trans ((pNR hh1333 (pN_n hh1333 z1332 e1336)).trans ((pR_j hh1327 (by decide)).trans ((pNR hh1322 (pN_n hh1322 z1321 e1325)).trans ((pR_j hh1314 (by decide)).trans ((pJR hh1309).trans ((pJR hh1304).trans ((pJR hh1299).trans ((pJR hh1294).trans ((pJR hh1289).trans ((pJR hh1284).trans ((pJR hh1279).trans ((pJR hh1274).trans ((pJR hh1269).trans ((pJR hh1264).trans ((pJR hh1259).trans ((pJR hh1254).trans ((pJR hh1249).trans ((pJR hh1244).trans ((pJR hh1239).trans ((pJR hh1234).trans ((pJR hh1229).trans ((pJR hh1224).trans ((pJR hh1219).trans ((pJR hh1214).trans ((pJR hh1209).trans ((pJR hh1204).trans ((pJR hh1199).trans ((pJR hh1194).trans ((pJR hh1189).trans ((pJR hh1184).trans ((pJR hh1179).trans ((pJR hh1174).trans ((pJR hh1169).trans ((pJR hh1164).trans ((pNR hh1161 (pN_n hh1161 z1160 e1312)).trans (pR_e hh1155)))))))))))))))))))))))))))))))))))))))
  have e1377 : Tg h1156 n1147 = 106102 := ((pRT hh1155).trans (pN_T hh1150))
  have e1378 : Tg h1315 n1147 = 106102 := ((pRT hh1314).trans ((pJT hh1309).trans ((pJT hh1304).trans ((pJT hh1299).trans ((pJT hh1294).trans ((pJT hh1289).trans ((pJT hh1284).trans ((pJT hh1279).trans ((pJT hh1274).trans ((pJT hh1269).trans ((pJT hh1264).trans ((pJT hh1259).trans ((pJT hh1254).trans ((pJT hh1249).trans ((pJT hh1244).trans ((pJT hh1239).trans ((pJT hh1234).trans ((pJT hh1229).trans ((pJT hh1224).trans ((pJT hh1219).trans ((pJT hh1214).trans ((pJT hh1209).trans ((pJT hh1204).trans ((pJT hh1199).trans ((pJT hh1194).trans ((pJT hh1189).trans ((pJT hh1184).trans ((pJT hh1179).trans ((pJT hh1174).trans ((pJT hh1169).trans ((pJT hh1164).trans ((pNT hh1161 (pN_n hh1161 z1160 e1377)).trans e1377))))))))))))))))))))))))))))))))
  have e1379 : Tg h1328 n1147 = 106102 := ((pRT hh1327).trans ((pNT hh1322 (pN_n hh1322 z1321 e1378)).trans e1378))
  have e1380 : Tg h1339 n1147 = 106102 := ((pRT hh1338).trans ((pNT hh1333 (pN_n hh1333 z1332 e1379)).trans e1379))
  have e1381 : Tg h1350 n1147 = 106102 := ((pRT hh1349).trans ((pNT hh1344 (pN_n hh1344 z1343 e1380)).trans e1380))
  have e1382 : Rv h1350 a0 9 = n1158 := ((pR_j hh1349 (by decide)).trans ((pNR hh1344 (pN_n hh1344 z1343 e1347)).trans ((pR_j hh1338 (by decide)).trans ((pNR hh1333 (pN_n hh1333 z1332 e1336)).trans ((pR_j hh1327 (by decide)).trans ((pNR hh1322 (pN_n hh1322 z1321 e1325)).trans (pR_e hh1314)))))))
  have e1383 : Tg h1315 n1158 = 109102 := ((pRT hh1314).trans e1317)
  have e1384 : Tg h1328 n1158 = 109102 := ((pRT hh1327).trans ((pNT hh1322 (pN_n hh1322 z1321 e1383)).trans e1383))
  have e1385 : Tg h1339 n1158 = 109102 := ((pRT hh1338).trans ((pNT hh1333 (pN_n hh1333 z1332 e1384)).trans e1384))
  have e1386 : Tg h1350 n1158 = 109102 := ((pRT hh1349).trans ((pNT hh1344 (pN_n hh1344 z1343 e1385)).trans e1385))
  have e1387 : Rv h1350 a0 11 = n1319 := ((pR_j hh1349 (by decide)).trans ((pNR hh1344 (pN_n hh1344 z1343 e1347)).trans ((pR_j hh1338 (by decide)).trans ((pNR hh1333 (pN_n hh1333 z1332 e1336)).trans (pR_e hh1327)))))
  have e1388 : Tg h1328 n1319 = 111100 := ((pRT hh1327).trans (pN_T hh1322))
  have e1389 : Tg h1339 n1319 = 111100 := ((pRT hh1338).trans ((pNT hh1333 (pN_n hh1333 z1332 e1388)).trans e1388))
  have e1390 : Tg h1350 n1319 = 111100 := ((pRT hh1349).trans ((pNT hh1344 (pN_n hh1344 z1343 e1389)).trans e1389))
  have e1391 : Rv h1350 a0 12 = n1330 := ((pR_j hh1349 (by decide)).trans ((pNR hh1344 (pN_n hh1344 z1343 e1347)).trans (pR_e hh1338)))
  have e1392 : Tg h1339 n1330 = 112100 := ((pRT hh1338).trans (pN_T hh1333))
  have e1393 : Tg h1350 n1330 = 112100 := ((pRT hh1349).trans ((pNT hh1344 (pN_n hh1344 z1343 e1392)).trans e1392))
  have e1394 : Tg h1350 n1341 = 113102 := ((pRT hh1349).trans (pN_T hh1344))
  exact J977 _ O1351 (((((((((((((((((((((((((((((((((((((((((((((((Fx.rf (wr := [202401, 202404, 202405, 202406, 202409, 202411, 202412, 202413, 202414, 202415, 202416, 202417, 202418, 202419, 202420, 202421, 202422, 202423, 202424, 202425, 202426, 202427, 202429, 202430, 202431, 202432, 202434, 202435, 202436, 202437, 202438, 202439, 202441, 202442, 202443, 202444, 202445, 202446, 202447, 202448, 202449, 202450, 202451, 202452, 202453, 202454, 202455, 202456, 202458, 202459, 202460, 202461, 202463, 202464, 202465, 202466, 202467, 202468, 202470, 202471, 202472, 202473, 202474, 202475, 202476, 202481, 202482, 202484, 202485, 202486, 21820400, 27220000, 27420200, 27820000, 1000101100, 1000104100, 1000105100, 1000106102, 1000109102, 1000111100, 1000112100, 1000113102, 1000114100, 1000115100, 1000116101, 1000117101, 1000118101, 1000119100, 1000120101, 1000121100, 1000122100, 1000123100, 1000124100, 1000125100, 1000126100, 1000127100, 1000129100, 1000130100, 1000131100, 1000132100, 1000136100, 1000137101, 1000138101, 1000139100, 1000141100, 1000142100, 1000143100, 1000144100, 1000145100, 1000146100, 1000147100, 1000148100, 1000149100, 1000150100, 1000151100, 1000152101, 1000153101, 1000154100, 1000155100, 1000156100, 1000158101, 1000159100, 1000160100, 1000161100, 1000163100, 1000164100, 1000165100, 1000166100, 1000167100, 1000168100, 1000170101, 1000171100, 1000172102, 1000173101, 1000174101, 1000175100, 1000176100, 1000181100, 1000182101, 1000184100, 1000185100, 1000186100]) (h := h)).pN z1117 hh1118 rfl).pR e1121 hh1122 rfl).pN z1127 hh1128 rfl).pR e1132 hh1133 rfl).pN z1138 hh1139 rfl).pR e1143 hh1144 rfl).pN z1149 hh1150 rfl).pR e1154 hh1155 rfl).pN z1160 hh1161 rfl).pJa (pN_T hh1161) ar_109102 hh1164 rfl).pJa e1167 ar_109102 hh1169 rfl).pJa e1172 ar_109102 hh1174 rfl).pJa e1177 ar_109102 hh1179 rfl).pJa e1182 ar_109102 hh1184 rfl).pJa e1187 ar_109102 hh1189 rfl).pJa e1192 ar_109102 hh1194 rfl).pJa e1197 ar_109102 hh1199 rfl).pJa e1202 ar_109102 hh1204 rfl).pJa e1207 ar_109102 hh1209 rfl).pJa e1212 ar_109102 hh1214 rfl).pJa e1217 ar_109102 hh1219 rfl).pJa e1222 ar_109102 hh1224 rfl).pJa e1227 ar_109102 hh1229 rfl).pJa e1232 ar_109102 hh1234 rfl).pJa e1237 ar_109102 hh1239 rfl).pJa e1242 ar_109102 hh1244 rfl).pJa e1247 ar_109102 hh1249 rfl).pJa e1252 ar_109102 hh1254 rfl).pJa e1257 ar_109102 hh1259 rfl).pJa e1262 ar_109102 hh1264 rfl).pJa e1267 ar_109102 hh1269 rfl).pJa e1272 ar_109102 hh1274 rfl).pJa e1277 ar_109102 hh1279 rfl).pJa e1282 ar_109102 hh1284 rfl).pJa e1287 ar_109102 hh1289 rfl).pJa e1292 ar_109102 hh1294 rfl).pJa e1297 ar_109102 hh1299 rfl).pJa e1302 ar_109102 hh1304 rfl).pJa e1307 ar_109102 hh1309 rfl).pR e1313 hh1314 rfl).pN z1321 hh1322 rfl).pR e1326 hh1327 rfl).pN z1332 hh1333 rfl).pR e1337 hh1338 rfl).pN z1343 hh1344 rfl).pR e1348 hh1349 rfl) (NZ_cons (by rw [(pR_e hh1349)]; exact nz_of O1351 e1394) (NZ_cons (by rw [e1391]; exact nz_of O1351 e1393) (NZ_cons (by rw [e1387]; exact nz_of O1351 e1390) (NZ_cons (by rw [e1382]; exact nz_of O1351 e1386) (NZ_cons (by rw [e1376]; exact nz_of O1351 e1381) (NZ_cons (by rw [e1369]; exact nz_of O1351 e1375) (NZ_cons (by rw [e1361]; exact nz_of O1351 e1368) (NZ_cons (by rw [e1352]; exact nz_of O1351 e1360) NZ_nil))))))))
