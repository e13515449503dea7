def wr_k2_X11_cellAt : List Nat := []
set_option maxRecDepth 100000 in
set_option maxHeartbeats 4000000 in
theorem k2_X11_cellAt (l : Launch) (D : va_G) (cy : Nat → ClassId) (w : Nat → Nat) (z0 : Nat) {h : Hp} {a0 : Int} {a1 : Int}  (O : Okh h) (fa0 : (-2147483648) ≤ a0 ∧ a0 ≤ 2147483647) (fa1 : (-2147483648) ≤ a1 ∧ a1 ≤ 2147483647) : MI l D cy w z0 yX11_cellAt cX11_cellAt 2 (some .int) 0 0 0 0 [.inl a0, .inl a1] h (fun v h1 => Okh h1 ∧ Fx wr_k2_X11_cellAt h h1 ∧ ((-1) ≤ v ∧ v ≤ 95) ∧ ((v = -1 ∧ (a0 < 0 ∨ 11 < a0 ∨ a1 < 0 ∨ 7 < a1)) ∨ (0 ≤ a0 ∧ a0 ≤ 11 ∧ 0 ≤ a1 ∧ a1 ≤ 7 ∧ v = 12 * a1 + a0))) := by
  refine hm_go (by decide +kernel) (Nat.le_of_ble_eq_true rfl) (fun p e s m below meth c C hr hn => ?_)
  refine g_iload_n C rfl 0 rfl dX11_cellAt_0 ?_
  refine g_if_lt C fa0 20 (by decide) dX11_cellAt_1 (fun q1 => ?_) (fun q2 => ?_)
  · have f3 : (-2147483648 : Int) ≤ a0 ∧ a0 ≤ (-1 : Int) := r_lt fa0 (il 0) q1 (by decide) (by decide)
    refine g_iconst C dX11_cellAt_20 ?_
    exact g_iret C hr rfl (iw (il (-1)) (by decide) (by decide)) ⟨O, Fx.rf, (iw (il (-1)) (by decide) (by decide)), (by omega)⟩ (by decide) (by decide) dX11_cellAt_21
  · have f4 : (0 : Int) ≤ a0 ∧ a0 ≤ (2147483647 : Int) := r_ge fa0 (il 0) q2 (by decide) (by decide)
    refine g_iload_n C rfl 0 rfl dX11_cellAt_4 ?_
    refine g_bipush C (by decide) dX11_cellAt_5 ?_
    refine g_icmp_ge C (iw f4 (by decide) (by decide)) (iw (il 12) (by decide) (by decide)) 20 (by decide) dX11_cellAt_7 (fun q5 => ?_) (fun q6 => ?_)
    · have f7 : (12 : Int) ≤ a0 ∧ a0 ≤ (2147483647 : Int) := r_ge f4 (il 12) q5 (by decide) (by decide)
      refine g_iconst C dX11_cellAt_20 ?_
      exact g_iret C hr rfl (iw (il (-1)) (by decide) (by decide)) ⟨O, Fx.rf, (iw (il (-1)) (by decide) (by decide)), (by omega)⟩ (by decide) (by decide) dX11_cellAt_21
    · have f8 : (0 : Int) ≤ a0 ∧ a0 ≤ (11 : Int) := r_lt f4 (il 12) q6 (by decide) (by decide)
      refine g_iload_n C rfl 1 rfl dX11_cellAt_10 ?_
      refine g_if_lt C fa1 20 (by decide) dX11_cellAt_11 (fun q9 => ?_) (fun q10 => ?_)
      · have f11 : (-2147483648 : Int) ≤ a1 ∧ a1 ≤ (-1 : Int) := r_lt fa1 (il 0) q9 (by decide) (by decide)
        refine g_iconst C dX11_cellAt_20 ?_
        exact g_iret C hr rfl (iw (il (-1)) (by decide) (by decide)) ⟨O, Fx.rf, (iw (il (-1)) (by decide) (by decide)), (by omega)⟩ (by decide) (by decide) dX11_cellAt_21
      · have f12 : (0 : Int) ≤ a1 ∧ a1 ≤ (2147483647 : Int) := r_ge fa1 (il 0) q10 (by decide) (by decide)
        refine g_iload_n C rfl 1 rfl dX11_cellAt_14 ?_
        refine g_bipush C (by decide) dX11_cellAt_15 ?_
        refine g_icmp_lt C (iw f12 (by decide) (by decide)) (iw (il 8) (by decide) (by decide)) 22 (by decide) dX11_cellAt_17 (fun q13 => ?_) (fun q14 => ?_)
        · have f15 : (0 : Int) ≤ a1 ∧ a1 ≤ (7 : Int) := r_lt f12 (il 8) q13 (by decide) (by decide)
          refine g_bipush C (by decide) dX11_cellAt_22 ?_
          refine g_iload_n C rfl 1 rfl dX11_cellAt_24 ?_
          have f16 : (0 : Int) ≤ (12 * a1) ∧ (12 * a1) ≤ (84 : Int) := ia_mul (by decide) f15 (by decide) (by decide)
          refine g_imul C dX11_cellAt_25 ?_
          refine g_iload_n C rfl 0 rfl dX11_cellAt_26 ?_
          have f17 : (0 : Int) ≤ ((12 * a1) + a0) ∧ ((12 * a1) + a0) ≤ (95 : Int) := ia_add f16 f8 (by decide) (by decide)
          refine g_iadd C dX11_cellAt_27 ?_
          exact g_iret C hr rfl (iw f17 (by decide) (by decide)) ⟨O, Fx.rf, (iw f17 (by decide) (by decide)), (by omega)⟩ (by decide) (by decide) dX11_cellAt_28
        · have f18 : (8 : Int) ≤ a1 ∧ a1 ≤ (2147483647 : Int) := r_ge f12 (il 8) q14 (by decide) (by decide)
          refine g_iconst C dX11_cellAt_20 ?_
          exact g_iret C hr rfl (iw (il (-1)) (by decide) (by decide)) ⟨O, Fx.rf, (iw (il (-1)) (by decide) (by decide)), (by omega)⟩ (by decide) (by decide) dX11_cellAt_21
def wr_k3_X11_place : List Nat := [608, 3420000, 3620000]
set_option maxRecDepth 100000 in
set_option maxHeartbeats 4000000 in
theorem k3_X11_place (l : Launch) (D : va_G) (cy : Nat → ClassId) (w : Nat → Nat) (z0 : Nat) {h : Hp} {a0 : Nat} {a1 : Int} {a2 : Int} {a3 : Int}  (O : Okh h) (ta0 : Tg h a0 = 11) (fa1 : (-2147483648) ≤ a1 ∧ a1 ≤ 2147483647) (fa2 : (-2147483648) ≤ a2 ∧ a2 ≤ 2147483647) (fa3 : (-2147483648) ≤ a3 ∧ a3 ≤ 2147483647) (P_XInv : XInv h a0) : MI l D cy w z0 yX11_place cX11_place 5 (some .int) 1 21 0 0 [.inr (.inr a0), .inl a1, .inl a2, .inl a3] h (fun v h1 => Okh h1 ∧ Fx wr_k3_X11_place h h1 ∧ ((-2147483648) ≤ v ∧ v ≤ 2147483647) ∧ (XInv h1 a0) ∧ (v = plF a1 a2 a3 (Qplc h a0)) ∧ (Qplc h1 a0 = plN a1 a2 a3 (Qplc h a0))) := by
  obtain ⟨v1, e2⟩ : ∃ z, Rv h a0 3 = z := ⟨_, rfl⟩
  have t3 := ok_R O ta0 rE_11_3 e2
  have l4 := ok_L O ta0 rE_11_3 e2
  obtain ⟨v5, e6⟩ : ∃ z, Iv h a0 4 = z := ⟨_, rfl⟩
  have f7 := ok_I O ta0 rI_11_4 e6
  obtain ⟨v8, e9⟩ : ∃ z, Rv h a0 8 = z := ⟨_, rfl⟩
  have t10 := ok_R O ta0 rE_11_8 e9
  have l11 := ok_L O ta0 rE_11_8 e9
  obtain ⟨v12, e13⟩ : ∃ z, Iv h a0 9 = z := ⟨_, rfl⟩
  have f14 := ok_I O ta0 rI_11_9 e13
  obtain ⟨v15, e16⟩ : ∃ z, Rv h a0 11 = z := ⟨_, rfl⟩
  have t17 := ok_R O ta0 rE_11_11 e16
  have l18 := ok_L O ta0 rE_11_11 e16
  obtain ⟨v19, e20⟩ : ∃ z, Iv h a0 12 = z := ⟨_, rfl⟩
  have f21 := ok_I O ta0 rI_11_12 e20
  obtain ⟨v22, e23⟩ : ∃ z, Iv h a0 15 = z := ⟨_, rfl⟩
  have f24 := ok_I O ta0 rI_11_15 e23
  obtain ⟨v25, e26⟩ : ∃ z, Rv h a0 14 = z := ⟨_, rfl⟩
  have t27 := ok_R O ta0 rE_11_14 e26
  have l28 := ok_L O ta0 rE_11_14 e26
  obtain ⟨v29, e30⟩ : ∃ z, Rv h a0 13 = z := ⟨_, rfl⟩
  have t31 := ok_R O ta0 rE_11_13 e30
  obtain ⟨v32, e33⟩ : ∃ z, Rv h a0 6 = z := ⟨_, rfl⟩
  have t34 := ok_R O ta0 rE_11_6 e33
  obtain ⟨v35, e36⟩ : ∃ z, Rv h a0 7 = z := ⟨_, rfl⟩
  have t37 := ok_R O ta0 rE_11_7 e36
  have p49 := P_XInv
  unfold XInv at p49
  rw [e2, e6, e9, e13, e16, e20, e23, e26, e30, e33, e36] at p49
  obtain ⟨p38, p39, p40, p41, p42, p43, p44, p45, p46, p47, p48⟩ := p49
  obtain ⟨v50, e51⟩ : ∃ z, Iv h v29 3 = z := ⟨_, rfl⟩
  have f52 := ok_I O t31 rI_7_3 e51
  obtain ⟨v53, e54⟩ : ∃ z, Iv h v29 4 = z := ⟨_, rfl⟩
  have f55 := ok_I O t31 rI_7_4 e54
  rw [e51] at p44
  rw [e54] at p45
  refine hm_go (by decide +kernel) (Nat.le_of_ble_eq_true rfl) (fun p e s m below meth c C hr hn => ?_)
  obtain ⟨v56, e57⟩ : ∃ z, Rv h a0 2 = z := ⟨_, rfl⟩
  have t58 := ok_R O ta0 rE_11_2 e57
  obtain ⟨v59, e60⟩ : ∃ z, Iv h v56 8 = z := ⟨_, rfl⟩
  have f61 := ok_I O t58 rI_3_8 e60
  have q62 : Qplc h a0 = v59 := by unfold Qplc; rw [e57, e60]
  refine g_iload_n C rfl 1 rfl dX11_place_0 ?_
  refine g_iload_n C rfl 2 rfl dX11_place_1 ?_
  refine g_callI (st := []) (gc_S C lk_LandSurvey_85 (k2_X11_cellAt l D cy w z0 O fa1 fa2) rfl ⟨by decide, by decide⟩ (Nat.le_of_ble_eq_true rfl) dX11_place_2 ⟨(by decide), (by decide)⟩) (fun r63 h64 f66 K65 => ?_)
  obtain ⟨O67, F68, f69, p70⟩ := K65
  refine g_istore C [(4, .inl r63), (0, .inr (.inr a0)), (1, .inl a1), (2, .inl a2), (3, .inl a3)] (by decide) rfl dX11_place_5 ?_
  refine g_iload C 0 rfl dX11_place_7 ?_
  refine g_iconst C dX11_place_9 ?_
  refine g_icmp_eq C (iw f69 (by decide) (by decide)) (iw (il (-1)) (by decide) (by decide)) 36 (by decide) dX11_place_10 (fun q71 => ?_) (fun q72 => ?_)
  · have f73 : (-1 : Int) ≤ r63 ∧ r63 ≤ (-1 : Int) := ii f69 (r_eq (il (-1)) q71) (by decide) (by decide)
    refine g_iconst C dX11_place_36 ?_
    have p74 := (XInv_fx O F68 ta0 rfl P_XInv)
    have e75 : Qplc h64 a0 = v59 := Eq.trans (show Qplc h64 a0 = Qplc h a0 from (Qplc_fx O F68 ta0 rfl)) q62
    exact g_iret C hr rfl (iw (il (-1)) (by decide) (by decide)) ⟨O67, ((Fx.rf (wr := wr_k3_X11_place)).call F68 rfl), (iw (il (-1)) (by decide) (by decide)), p74, (by unfold plF; rw [q62]; split <;> omega), (Eq.trans e75 (by unfold plN; rw [q62]; split <;> first | rfl | omega | exact upE_cg (by omega) (by omega) | exact upE_id (by omega)))⟩ (by decide) (by decide) dX11_place_37
  · have f76 : (0 : Int) ≤ r63 ∧ r63 ≤ (95 : Int) := r_nl f69 q72
    refine g_iload_n C rfl 4 rfl dX11_place_13 ?_
    refine g_iconst C dX11_place_14 ?_
    refine g_icmp_lt C fa3 (iw (il 1) (by decide) (by decide)) 36 (by decide) dX11_place_15 (fun q77 => ?_) (fun q78 => ?_)
    · have f79 : (-2147483648 : Int) ≤ a3 ∧ a3 ≤ (0 : Int) := r_lt fa3 (il 1) q77 (by decide) (by decide)
      refine g_iconst C dX11_place_36 ?_
      have p80 := (XInv_fx O F68 ta0 rfl P_XInv)
      have e81 : Qplc h64 a0 = v59 := Eq.trans (show Qplc h64 a0 = Qplc h a0 from (Qplc_fx O F68 ta0 rfl)) q62
      exact g_iret C hr rfl (iw (il (-1)) (by decide) (by decide)) ⟨O67, ((Fx.rf (wr := wr_k3_X11_place)).call F68 rfl), (iw (il (-1)) (by decide) (by decide)), p80, (by unfold plF; rw [q62]; split <;> omega), (Eq.trans e81 (by unfold plN; rw [q62]; split <;> first | rfl | omega | exact upE_cg (by omega) (by omega) | exact upE_id (by omega)))⟩ (by decide) (by decide) dX11_place_37
    · have f82 : (1 : Int) ≤ a3 ∧ a3 ≤ (2147483647 : Int) := r_ge fa3 (il 1) q78 (by decide) (by decide)
      refine g_iload_n C rfl 4 rfl dX11_place_18 ?_
      refine g_bipush C (by decide) dX11_place_19 ?_
      refine g_icmp_gt C (iw f82 (by decide) (by decide)) (iw (il 99) (by decide) (by decide)) 36 (by decide) dX11_place_21 (fun q83 => ?_) (fun q84 => ?_)
      · have f85 : (100 : Int) ≤ a3 ∧ a3 ≤ (2147483647 : Int) := r_gt f82 (il 99) q83 (by decide) (by decide)
        refine g_iconst C dX11_place_36 ?_
        have p86 := (XInv_fx O F68 ta0 rfl P_XInv)
        have e87 : Qplc h64 a0 = v59 := Eq.trans (show Qplc h64 a0 = Qplc h a0 from (Qplc_fx O F68 ta0 rfl)) q62
        exact g_iret C hr rfl (iw (il (-1)) (by decide) (by decide)) ⟨O67, ((Fx.rf (wr := wr_k3_X11_place)).call F68 rfl), (iw (il (-1)) (by decide) (by decide)), p86, (by unfold plF; rw [q62]; split <;> omega), (Eq.trans e87 (by unfold plN; rw [q62]; split <;> first | rfl | omega | exact upE_cg (by omega) (by omega) | exact upE_id (by omega)))⟩ (by decide) (by decide) dX11_place_37
      · have f88 : (1 : Int) ≤ a3 ∧ a3 ≤ (99 : Int) := r_le f82 (il 99) q84 (by decide) (by decide)
        refine g_aload_n C rfl 1 rfl dX11_place_24 ?_
        have e89 : Tg h64 a0 = 11 := (fxT F68 ta0)
        have e90 : Rv h64 a0 2 = v56 := ((fxR F68 ta0 rfl).trans e57)
        refine gf_R C fk_LandSurvey_16 rfl e89 e90 dX11_place_25 ?_
        have e91 : Tg h64 v56 = 3 := (fxT F68 t58)
        have e92 : Iv h64 v56 8 = v59 := ((fxI F68 t58 rfl).trans e60)
        refine gf_I C fk_LandSurvey_337 rfl e91 e92 dX11_place_28 ?_
        refine g_bipush C (by decide) dX11_place_31 ?_
        refine g_icmp_lt C (iw f61 (by decide) (by decide)) (iw (il 8) (by decide) (by decide)) 38 (by decide) dX11_place_33 (fun q93 => ?_) (fun q94 => ?_)
        · have f95 : (0 : Int) ≤ v59 ∧ v59 ≤ (7 : Int) := r_lt f61 (il 8) q93 (by decide) (by decide)
          refine g_aload_n C rfl 1 rfl dX11_place_38 ?_
          refine gf_R C fk_LandSurvey_16 rfl e89 e90 dX11_place_39 ?_
          obtain ⟨v96, e97⟩ : ∃ z, Rv h64 v56 6 = z := ⟨_, rfl⟩
          have t98 := ok_R O67 e91 rE_3_6 e97
          have l99 := ok_L O67 e91 rE_3_6 e97
          refine gf_R C fk_LandSurvey_340 rfl e91 e97 dX11_place_42 ?_
          refine g_aload_n C rfl 1 rfl dX11_place_45 ?_
          refine gf_R C fk_LandSurvey_16 rfl e89 e90 dX11_place_46 ?_
          refine gf_I C fk_LandSurvey_337 rfl e91 e92 dX11_place_49 ?_
          refine g_iload C 0 rfl dX11_place_52 ?_
          refine g_iast C t98 rfl l99 (ix f95 (by decide) (by decide)) (iw f76 (by decide) (by decide)) dX11_place_54 (fun h101 hh100 => ?_)
          have O102 := O67.pIa t98 ar_17100 hh100 rI_17100_0 f76 nofun
          refine g_aload_n C rfl 1 rfl dX11_place_55 ?_
          have e103 : Tg h101 a0 = 11 := ((pIT hh100).trans e89)
          have e104 : Rv h101 a0 2 = v56 := ((pIR hh100).trans e90)
          refine gf_R C fk_LandSurvey_16 rfl e103 e104 dX11_place_56 ?_
          have e105 : Tg h101 v56 = 3 := ((pIT hh100).trans e91)
          obtain ⟨v106, e107⟩ : ∃ z, Rv h101 v56 7 = z := ⟨_, rfl⟩
          have t108 := ok_R O102 e105 rE_3_7 e107
          have l109 := ok_L O102 e105 rE_3_7 e107
          refine gf_R C fk_LandSurvey_343 rfl e105 e107 dX11_place_59 ?_
          refine g_aload_n C rfl 1 rfl dX11_place_62 ?_
          refine gf_R C fk_LandSurvey_16 rfl e103 e104 dX11_place_63 ?_
          have e110 : Iv h101 v56 8 = v59 := ((pI_n hh100 (ne_tag e91 t98 (by decide))).trans e92)
          refine gf_I C fk_LandSurvey_337 rfl e105 e110 dX11_place_66 ?_
          refine g_iload_n C rfl 4 rfl dX11_place_69 ?_
          refine g_iast C t108 rfl l109 (ix f95 (by decide) (by decide)) (iw f88 (by decide) (by decide)) dX11_place_70 (fun h112 hh111 => ?_)
          have O113 := O102.pIa t108 ar_18100 hh111 rI_18100_0 (iw f88 (by decide) (by decide)) nofun
          refine g_aload_n C rfl 1 rfl dX11_place_71 ?_
          have e114 : Tg h112 a0 = 11 := ((pIT hh111).trans e103)
          have e115 : Rv h112 a0 2 = v56 := ((pIR hh111).trans e104)
          refine gf_R C fk_LandSurvey_16 rfl e114 e115 dX11_place_72 ?_
          refine g_dup C rfl dX11_place_75 ?_
          have e116 : Tg h112 v56 = 3 := ((pIT hh111).trans e105)
          have e117 : Iv h112 v56 8 = v59 := ((pI_n hh111 (ne_tag e105 t108 (by decide))).trans e110)
          refine gf_I C fk_LandSurvey_337 rfl e116 e117 dX11_place_76 ?_
          refine g_dup_x1 C rfl rfl dX11_place_79 ?_
          refine g_iconst C dX11_place_80 ?_
          have f118 : (1 : Int) ≤ (v59 + 1) ∧ (v59 + 1) ≤ (8 : Int) := ia_add f95 (il 1) (by decide) (by decide)
          refine g_iadd C dX11_place_81 ?_
          refine gp_I C fk_LandSurvey_337 pk_LandSurvey_Land_8 rfl e116 (iw f118 (by decide) (by decide)) (nf_i _) dX11_place_82 (fun h120 hh119 => ?_)
          have O121 := O113.pI e116 hh119 rI_3_8 (iw f118 (by decide) (by decide)) nofun
          have p122 := (XInv_fx O113 ((Fx.rf (wr := [608]) (h := h112)).pI e116 hh119 rfl) e114 rfl (XInv_fx O102 ((Fx.rf (wr := [3620000]) (h := h101)).pIa t108 ar_18100 hh111 rfl) e103 rfl (XInv_fx O67 ((Fx.rf (wr := [3420000]) (h := h64)).pIa t98 ar_17100 hh100 rfl) e89 rfl (XInv_fx O F68 ta0 rfl P_XInv))))
          have e123 : Qplc h64 a0 = v59 := Eq.trans (show Qplc h64 a0 = Qplc h a0 from (Qplc_fx O F68 ta0 rfl)) q62
          have e124 : Qplc h101 a0 = v59 := Eq.trans (show Qplc h101 a0 = Qplc h64 a0 from (Qplc_fx O67 ((Fx.rf (wr := [3420000]) (h := h64)).pIa t98 ar_17100 hh100 rfl) e89 rfl)) e123
          have e125 : Qplc h112 a0 = v59 := Eq.trans (show Qplc h112 a0 = Qplc h101 a0 from (Qplc_fx O102 ((Fx.rf (wr := [3620000]) (h := h101)).pIa t108 ar_18100 hh111 rfl) e103 rfl)) e124
          have e126 : Qplc h120 a0 = (v59 + 1) := (Qplc_w e115 hh119)
          exact g_iret C hr rfl (iw f95 (by decide) (by decide)) ⟨O121, (((((Fx.rf (wr := wr_k3_X11_place)).call F68 rfl).pIa t98 ar_17100 hh100 rfl).pIa t108 ar_18100 hh111 rfl).pI e116 hh119 rfl), (iw f95 (by decide) (by decide)), p122, (by unfold plF; rw [q62]; split <;> omega), (Eq.trans e126 (by unfold plN; rw [q62]; split <;> first | rfl | omega | exact upE_cg (by omega) (by omega) | exact upE_id (by omega)))⟩ (by decide) (by decide) dX11_place_85
        · have f127 : (8 : Int) ≤ v59 ∧ v59 ≤ (8 : Int) := r_ge f61 (il 8) q94 (by decide) (by decide)
          refine g_iconst C dX11_place_36 ?_
          have p128 := (XInv_fx O F68 ta0 rfl P_XInv)
          have e129 : Qplc h64 a0 = v59 := Eq.trans (show Qplc h64 a0 = Qplc h a0 from (Qplc_fx O F68 ta0 rfl)) q62
          exact g_iret C hr rfl (iw (il (-1)) (by decide) (by decide)) ⟨O67, ((Fx.rf (wr := wr_k3_X11_place)).call F68 rfl), (iw (il (-1)) (by decide) (by decide)), p128, (by unfold plF; rw [q62]; split <;> omega), (Eq.trans e129 (by unfold plN; rw [q62]; split <;> first | rfl | omega | exact upE_cg (by omega) (by omega) | exact upE_id (by omega)))⟩ (by decide) (by decide) dX11_place_37
def wr_k3_X12_place : List Nat := [2400, 2483, 36820000, 37020000]
set_option maxRecDepth 100000 in
set_option maxHeartbeats 4000000 in
theorem k3_X12_place (l : Launch) (D : va_G) (cy : Nat → ClassId) (w : Nat → Nat) (z0 : Nat) {h : Hp} {a0 : Nat} {a1 : Int} {a2 : Int} {a3 : Int}  (O : Okh h) (ta0 : Tg h a0 = 12) (fa1 : (-2147483648) ≤ a1 ∧ a1 ≤ 2147483647) (fa2 : (-2147483648) ≤ a2 ∧ a2 ≤ 2147483647) (fa3 : (-2147483648) ≤ a3 ∧ a3 ≤ 2147483647) : MI l D cy w z0 yX12_place cX12_place 4 (some .int) 2 43 0 0 [.inr (.inr a0), .inl a1, .inl a2, .inl a3] h (fun v h1 => Okh h1 ∧ Fx wr_k3_X12_place h h1 ∧ ((-2147483648) ≤ v ∧ v ≤ 2147483647) ∧ (v = plF a1 a2 a3 (Iv h a0 83)) ∧ (Iv h1 a0 83 = plN a1 a2 a3 (Iv h a0 83))) := by
  refine hm_go (by decide +kernel) (Nat.le_of_ble_eq_true rfl) (fun p e s m below meth c C hr hn => ?_)
  obtain ⟨v1, e2⟩ : ∃ z, Iv h a0 83 = z := ⟨_, rfl⟩
  have f3 := ok_I O ta0 rI_12_83 e2
  refine g_aload_n C rfl 0 rfl dX12_place_0 ?_
  refine g_iconst C dX12_place_1 ?_
  refine gp_I C fk_LandSurveyModel_1 pk_LandSurveyModel_0 rfl ta0 (iw (il 0) (by decide) (by decide)) (nf_i _) dX12_place_2 (fun h5 hh4 => ?_)
  have O6 := O.pI ta0 hh4 rI_12_0 (iw (il 0) (by decide) (by decide)) nofun
  refine g_iload_n C rfl 1 rfl dX12_place_5 ?_
  refine g_iload_n C rfl 2 rfl dX12_place_6 ?_
  refine g_callI (st := []) (gc_S C lk_LandSurveyModel_419 (k_X12_isCell l D cy w z0 O6 fa1 fa2) rfl ⟨by decide, by decide⟩ (Nat.le_of_ble_eq_true rfl) dX12_place_7 ⟨(by decide), (by decide)⟩) (fun r7 h8 f10 K9 => ?_)
  obtain ⟨O11, F12, f13, p14⟩ := K9
  refine g_if_eq C (iw f13 (by decide) (by decide)) 32 (by decide) dX12_place_10 (fun q15 => ?_) (fun q16 => ?_)
  · have f17 : (0 : Int) ≤ r7 ∧ r7 ≤ (0 : Int) := ii f13 (r_eq (il 0) q15) (by decide) (by decide)
    refine g_iconst C dX12_place_32 ?_
    have e18 : Tg h5 a0 = 12 := ((pIT hh4).trans ta0)
    have e19 : Iv h8 a0 83 = v1 := ((fxI F12 e18 rfl).trans ((pI_j hh4 (by decide)).trans e2))
    exact g_iret C hr rfl (iw (il (-1)) (by decide) (by decide)) ⟨O11, (((Fx.rf (wr := wr_k3_X12_place)).pI ta0 hh4 rfl).call F12 rfl), (iw (il (-1)) (by decide) (by decide)), (by unfold plF; rw [e2]; split <;> omega), (Eq.trans e19 (by unfold plN; rw [e2]; split <;> omega))⟩ (by decide) (by decide) dX12_place_33
  · have f20 : (1 : Int) ≤ r7 ∧ r7 ≤ (1 : Int) := r_nl f13 q16
    have f21 : (0 : Int) ≤ a1 ∧ a1 ≤ (11 : Int) := by omega
    have f22 : (0 : Int) ≤ a2 ∧ a2 ≤ (7 : Int) := by omega
    refine g_iload_n C rfl 3 rfl dX12_place_13 ?_
    refine g_iconst C dX12_place_14 ?_
    refine g_bipush C (by decide) dX12_place_15 ?_
    refine g_callI (st := []) (gc_S C lk_LandSurveyModel_415 (k_X12_within l D cy w z0 O11 fa3 (iw (il 1) (by decide) (by decide)) (iw (il 99) (by decide) (by decide))) rfl ⟨by decide, by decide⟩ (Nat.le_of_ble_eq_true rfl) dX12_place_17 ⟨(by decide), (by decide)⟩) (fun r23 h24 f26 K25 => ?_)
    obtain ⟨O27, F28, f29, p30⟩ := K25
    refine g_if_eq C (iw f29 (by decide) (by decide)) 32 (by decide) dX12_place_20 (fun q31 => ?_) (fun q32 => ?_)
    · have f33 : (0 : Int) ≤ r23 ∧ r23 ≤ (0 : Int) := ii f29 (r_eq (il 0) q31) (by decide) (by decide)
      refine g_iconst C dX12_place_32 ?_
      have e34 : Tg h5 a0 = 12 := ((pIT hh4).trans ta0)
      have e35 : Tg h8 a0 = 12 := (fxT F12 e34)
      have e36 : Iv h24 a0 83 = v1 := ((fxI F28 e35 rfl).trans ((fxI F12 e34 rfl).trans ((pI_j hh4 (by decide)).trans e2)))
      exact g_iret C hr rfl (iw (il (-1)) (by decide) (by decide)) ⟨O27, ((((Fx.rf (wr := wr_k3_X12_place)).pI ta0 hh4 rfl).call F12 rfl).call F28 rfl), (iw (il (-1)) (by decide) (by decide)), (by unfold plF; rw [e2]; split <;> omega), (Eq.trans e36 (by unfold plN; rw [e2]; split <;> omega))⟩ (by decide) (by decide) dX12_place_33
    · have f37 : (1 : Int) ≤ r23 ∧ r23 ≤ (1 : Int) := r_nl f29 q32
      have f38 : (1 : Int) ≤ a3 ∧ a3 ≤ (99 : Int) := by omega
      refine g_aload_n C rfl 0 rfl dX12_place_23 ?_
      have e39 : Tg h24 a0 = 12 := (fxT F28 (fxT F12 ((pIT hh4).trans ta0)))
      have e40 : Tg h5 a0 = 12 := ((pIT hh4).trans ta0)
      have e41 : Tg h8 a0 = 12 := (fxT F12 e40)
      have e42 : Iv h24 a0 83 = v1 := ((fxI F28 e41 rfl).trans ((fxI F12 e40 rfl).trans ((pI_j hh4 (by decide)).trans e2)))
      refine gf_I C fk_LandSurveyModel_615 rfl e39 e42 dX12_place_24 ?_
      refine g_bipush C (by decide) dX12_place_27 ?_
      refine g_icmp_ne C (iw f3 (by decide) (by decide)) (iw (il 8) (by decide) (by decide)) 34 (by decide) dX12_place_29 (fun q43 => ?_) (fun q44 => ?_)
      · have f45 : (0 : Int) ≤ v1 ∧ v1 ≤ (7 : Int) := r_nh f3 q43
        refine g_aload_n C rfl 0 rfl dX12_place_34 ?_
        obtain ⟨v46, e47⟩ : ∃ z, Rv h24 a0 84 = z := ⟨_, rfl⟩
        have t48 := ok_R O27 e39 rE_12_84 e47
        have l49 := ok_L O27 e39 rE_12_84 e47
        refine gf_R C fk_LandSurveyModel_278 rfl e39 e47 dX12_place_35 ?_
        refine g_aload_n C rfl 0 rfl dX12_place_38 ?_
        refine gf_I C fk_LandSurveyModel_615 rfl e39 e42 dX12_place_39 ?_
        refine g_bipush C (by decide) dX12_place_42 ?_
        refine g_iload_n C rfl 2 rfl dX12_place_44 ?_
        have f50 : (0 : Int) ≤ (12 * a2) ∧ (12 * a2) ≤ (84 : Int) := ia_mul (by decide) f22 (by decide) (by decide)
        refine g_imul C dX12_place_45 ?_
        refine g_iload_n C rfl 1 rfl dX12_place_46 ?_
        have f51 : (0 : Int) ≤ ((12 * a2) + a1) ∧ ((12 * a2) + a1) ≤ (95 : Int) := ia_add f50 f21 (by decide) (by decide)
        refine g_iadd C dX12_place_47 ?_
        refine g_iast C t48 rfl l49 (ix f45 (by decide) (by decide)) (iw f51 (by decide) (by decide)) dX12_place_48 (fun h53 hh52 => ?_)
        have O54 := O27.pIa t48 ar_184100 hh52 rI_184100_0 f51 nofun
        refine g_aload_n C rfl 0 rfl dX12_place_49 ?_
        have e55 : Tg h53 a0 = 12 := ((pIT hh52).trans e39)
        obtain ⟨v56, e57⟩ : ∃ z, Rv h53 a0 85 = z := ⟨_, rfl⟩
        have t58 := ok_R O54 e55 rE_12_85 e57
        have l59 := ok_L O54 e55 rE_12_85 e57
        refine gf_R C fk_LandSurveyModel_281 rfl e55 e57 dX12_place_50 ?_
        refine g_aload_n C rfl 0 rfl dX12_place_53 ?_
        have e60 : Iv h53 a0 83 = v1 := ((pI_n hh52 (ne_tag e39 t48 (by decide))).trans e42)
        refine gf_I C fk_LandSurveyModel_615 rfl e55 e60 dX12_place_54 ?_
        refine g_iload_n C rfl 3 rfl dX12_place_57 ?_
        refine g_iast C t58 rfl l59 (ix f45 (by decide) (by decide)) (iw f38 (by decide) (by decide)) dX12_place_58 (fun h62 hh61 => ?_)
        have O63 := O54.pIa t58 ar_185100 hh61 rI_185100_0 (iw f38 (by decide) (by decide)) nofun
        refine g_aload_n C rfl 0 rfl dX12_place_59 ?_
        refine g_dup C rfl dX12_place_60 ?_
        have e64 : Tg h62 a0 = 12 := ((pIT hh61).trans e55)
        have e65 : Iv h62 a0 83 = v1 := ((pI_n hh61 (ne_tag e55 t58 (by decide))).trans e60)
        refine gf_I C fk_LandSurveyModel_615 rfl e64 e65 dX12_place_61 ?_
        refine g_iconst C dX12_place_64 ?_
        have f66 : (1 : Int) ≤ (v1 + 1) ∧ (v1 + 1) ≤ (8 : Int) := ia_add f45 (il 1) (by decide) (by decide)
        refine g_iadd C dX12_place_65 ?_
        refine gp_I C fk_LandSurveyModel_615 pk_LandSurveyModel_83 rfl e64 (iw f66 (by decide) (by decide)) (nf_i _) dX12_place_66 (fun h68 hh67 => ?_)
        have O69 := O63.pI e64 hh67 rI_12_83 (iw f66 (by decide) (by decide)) nofun
        refine g_aload_n C rfl 0 rfl dX12_place_69 ?_
        have e70 : Tg h68 a0 = 12 := ((pIT hh67).trans e64)
        refine gf_I C fk_LandSurveyModel_615 rfl e70 (pI_e hh67) dX12_place_70 ?_
        refine g_iconst C dX12_place_73 ?_
        have f71 : (0 : Int) ≤ ((v1 + 1) - 1) ∧ ((v1 + 1) - 1) ≤ (7 : Int) := ia_sub f66 (il 1) (by decide) (by decide)
        refine g_isub C dX12_place_74 ?_
        exact g_iret C hr rfl (iw f71 (by decide) (by decide)) ⟨O69, (((((((Fx.rf (wr := wr_k3_X12_place)).pI ta0 hh4 rfl).call F12 rfl).call F28 rfl).pIa t48 ar_184100 hh52 rfl).pIa t58 ar_185100 hh61 rfl).pI e64 hh67 rfl), (iw f71 (by decide) (by decide)), (by unfold plF; rw [e2]; split <;> omega), (Eq.trans (pI_e hh67) (by unfold plN; rw [e2]; split <;> omega))⟩ (by decide) (by decide) dX12_place_75
      · have f72 : (8 : Int) ≤ v1 ∧ v1 ≤ (8 : Int) := ii f3 (r_eq (il 8) q44) (by decide) (by decide)
        refine g_iconst C dX12_place_32 ?_
        exact g_iret C hr rfl (iw (il (-1)) (by decide) (by decide)) ⟨O27, ((((Fx.rf (wr := wr_k3_X12_place)).pI ta0 hh4 rfl).call F12 rfl).call F28 rfl), (iw (il (-1)) (by decide) (by decide)), (by unfold plF; rw [e2]; split <;> omega), (Eq.trans e42 (by unfold plN; rw [e2]; split <;> omega))⟩ (by decide) (by decide) dX12_place_33
