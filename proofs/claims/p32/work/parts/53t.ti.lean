def wr_k2_X11_cellAt : List Nat := []
set_option maxRecDepth 100000 in
set_option maxHeartbeats 4000000 in
theorem k2_X11_cellAt (l : Launch) (D : va_G) (cy : Nat → ClassId) (w : Nat → Nat) (z0 : Nat)  {h : Hp} {a0 : Int} {a1 : Int}  (O : Okh h) (fa0 : (-2147483648) ≤ a0 ∧ a0 ≤ 2147483647) (fa1 : (-2147483648) ≤ a1 ∧ a1 ≤ 2147483647) : MI l D cy w z0 yX11_cellAt cX11_cellAt 2 (some .int) 0 0 0 0 [.inl a0, .inl a1] h (fun v h1 => Okh h1 ∧ Fx wr_k2_X11_cellAt h h1 ∧ ((-1) ≤ v ∧ v ≤ 95) ∧ ((v = -1 ∧ (a0 < 0 ∨ 11 < a0 ∨ a1 < 0 ∨ 7 < a1)) ∨ (0 ≤ a0 ∧ a0 ≤ 11 ∧ 0 ≤ a1 ∧ a1 ≤ 7 ∧ v = 12 * a1 + a0))) := by
  refine hm_go (by decide +kernel) (Nat.le_of_ble_eq_true rfl) (fun p e s m below meth c C hr hn => ?_)
  refine g_iload_n C rfl 0 rfl dX11_cellAt_0 ?_
  refine g_if_lt C fa0 20 (by decide) dX11_cellAt_1 (fun q1 => ?_) (fun q2 => ?_)
  · have f3 : (-2147483648 : Int) ≤ a0 ∧ a0 ≤ (-1 : Int) := r_lt fa0 (il 0) q1 (by decide) (by decide)
    refine g_iconst C dX11_cellAt_20 ?_
    exact g_iret C hr rfl (iw (il (-1)) (by decide) (by decide)) ⟨O, Fx.rf, (iw (il (-1)) (by decide) (by decide)), (by omega)⟩ (by decide) (by decide) dX11_cellAt_21
  · have f4 : (0 : Int) ≤ a0 ∧ a0 ≤ (2147483647 : Int) := r_ge fa0 (il 0) q2 (by decide) (by decide)
    refine g_iload_n C rfl 0 rfl dX11_cellAt_4 ?_
    refine g_bipush C (by decide) dX11_cellAt_5 ?_
    refine g_icmp_ge C (iw f4 (by decide) (by decide)) (iw (il 12) (by decide) (by decide)) 20 (by decide) dX11_cellAt_7 (fun q5 => ?_) (fun q6 => ?_)
    · have f7 : (12 : Int) ≤ a0 ∧ a0 ≤ (2147483647 : Int) := r_ge f4 (il 12) q5 (by decide) (by decide)
      refine g_iconst C dX11_cellAt_20 ?_
      exact g_iret C hr rfl (iw (il (-1)) (by decide) (by decide)) ⟨O, Fx.rf, (iw (il (-1)) (by decide) (by decide)), (by omega)⟩ (by decide) (by decide) dX11_cellAt_21
    · have f8 : (0 : Int) ≤ a0 ∧ a0 ≤ (11 : Int) := r_lt f4 (il 12) q6 (by decide) (by decide)
      refine g_iload_n C rfl 1 rfl dX11_cellAt_10 ?_
      refine g_if_lt C fa1 20 (by decide) dX11_cellAt_11 (fun q9 => ?_) (fun q10 => ?_)
      · have f11 : (-2147483648 : Int) ≤ a1 ∧ a1 ≤ (-1 : Int) := r_lt fa1 (il 0) q9 (by decide) (by decide)
        refine g_iconst C dX11_cellAt_20 ?_
        exact g_iret C hr rfl (iw (il (-1)) (by decide) (by decide)) ⟨O, Fx.rf, (iw (il (-1)) (by decide) (by decide)), (by omega)⟩ (by decide) (by decide) dX11_cellAt_21
      · have f12 : (0 : Int) ≤ a1 ∧ a1 ≤ (2147483647 : Int) := r_ge fa1 (il 0) q10 (by decide) (by decide)
        refine g_iload_n C rfl 1 rfl dX11_cellAt_14 ?_
        refine g_bipush C (by decide) dX11_cellAt_15 ?_
        refine g_icmp_lt C (iw f12 (by decide) (by decide)) (iw (il 8) (by decide) (by decide)) 22 (by decide) dX11_cellAt_17 (fun q13 => ?_) (fun q14 => ?_)
        · have f15 : (0 : Int) ≤ a1 ∧ a1 ≤ (7 : Int) := r_lt f12 (il 8) q13 (by decide) (by decide)
          refine g_bipush C (by decide) dX11_cellAt_22 ?_
          refine g_iload_n C rfl 1 rfl dX11_cellAt_24 ?_
          have f16 : (0 : Int) ≤ (12 * a1) ∧ (12 * a1) ≤ (84 : Int) := ia_mul (by decide) f15 (by decide) (by decide)
          refine g_imul C dX11_cellAt_25 ?_
          refine g_iload_n C rfl 0 rfl dX11_cellAt_26 ?_
          have f17 : (0 : Int) ≤ ((12 * a1) + a0) ∧ ((12 * a1) + a0) ≤ (95 : Int) := ia_add f16 f8 (by decide) (by decide)
          refine g_iadd C dX11_cellAt_27 ?_
          exact g_iret C hr rfl (iw f17 (by decide) (by decide)) ⟨O, Fx.rf, (iw f17 (by decide) (by decide)), (by omega)⟩ (by decide) (by decide) dX11_cellAt_28
        · have f18 : (8 : Int) ≤ a1 ∧ a1 ≤ (2147483647 : Int) := r_ge f12 (il 8) q14 (by decide) (by decide)
          refine g_iconst C dX11_cellAt_20 ?_
          exact g_iret C hr rfl (iw (il (-1)) (by decide) (by decide)) ⟨O, Fx.rf, (iw (il (-1)) (by decide) (by decide)), (by omega)⟩ (by decide) (by decide) dX11_cellAt_21
def wr_k3_X11_question : List Nat := [605, 3220200]
set_option maxRecDepth 100000 in
set_option maxHeartbeats 4000000 in
theorem k3_X11_question (l : Launch) (D : va_G) (cy : Nat → ClassId) (w : Nat → Nat) (z0 : Nat)  {h : Hp} {a0 : Nat} {a1 : Int} {a2 : Int} {a3 : Int}  (O : Okh h) (ta0 : Tg h a0 = 11) (fa1 : (-2147483648) ≤ a1 ∧ a1 ≤ 2147483647) (fa2 : (-2147483648) ≤ a2 ∧ a2 ≤ 2147483647) (fa3 : 0 ≤ a3 ∧ a3 ≤ 1) (P_XInv : XInv h a0) (P_ASK : ASK h a0) : MI l D cy w z0 yX11_question cX11_question 5 (some .boolean) 1 21 0 0 [.inr (.inr a0), .inl a1, .inl a2, .inl a3] h (fun v h1 => Okh h1 ∧ Fx wr_k3_X11_question h h1 ∧ (0 ≤ v ∧ v ≤ 1) ∧ (XInv h1 a0) ∧ (ASK h1 a0) ∧ (v = quF a1 a2 a3 (Qask h a0)) ∧ (Qask h1 a0 = quU a1 a2 a3 (Qask h a0))) := by
  obtain ⟨v1, e2⟩ : ∃ z, Rv h a0 3 = z := ⟨_, rfl⟩
  have t3 := ok_R O ta0 rE_11_3 e2
  have l4 := ok_L O ta0 rE_11_3 e2
  obtain ⟨v5, e6⟩ : ∃ z, Iv h a0 4 = z := ⟨_, rfl⟩
  have f7 := ok_I O ta0 rI_11_4 e6
  obtain ⟨v8, e9⟩ : ∃ z, Rv h a0 8 = z := ⟨_, rfl⟩
  have t10 := ok_R O ta0 rE_11_8 e9
  have l11 := ok_L O ta0 rE_11_8 e9
  obtain ⟨v12, e13⟩ : ∃ z, Iv h a0 9 = z := ⟨_, rfl⟩
  have f14 := ok_I O ta0 rI_11_9 e13
  obtain ⟨v15, e16⟩ : ∃ z, Rv h a0 11 = z := ⟨_, rfl⟩
  have t17 := ok_R O ta0 rE_11_11 e16
  have l18 := ok_L O ta0 rE_11_11 e16
  obtain ⟨v19, e20⟩ : ∃ z, Iv h a0 12 = z := ⟨_, rfl⟩
  have f21 := ok_I O ta0 rI_11_12 e20
  obtain ⟨v22, e23⟩ : ∃ z, Iv h a0 15 = z := ⟨_, rfl⟩
  have f24 := ok_I O ta0 rI_11_15 e23
  obtain ⟨v25, e26⟩ : ∃ z, Rv h a0 14 = z := ⟨_, rfl⟩
  have t27 := ok_R O ta0 rE_11_14 e26
  have l28 := ok_L O ta0 rE_11_14 e26
  obtain ⟨v29, e30⟩ : ∃ z, Rv h a0 13 = z := ⟨_, rfl⟩
  have t31 := ok_R O ta0 rE_11_13 e30
  obtain ⟨v32, e33⟩ : ∃ z, Rv h a0 6 = z := ⟨_, rfl⟩
  have t34 := ok_R O ta0 rE_11_6 e33
  obtain ⟨v35, e36⟩ : ∃ z, Rv h a0 7 = z := ⟨_, rfl⟩
  have t37 := ok_R O ta0 rE_11_7 e36
  have p49 := P_XInv
  unfold XInv at p49
  rw [e2, e6, e9, e13, e16, e20, e23, e26, e30, e33, e36] at p49
  obtain ⟨p38, p39, p40, p41, p42, p43, p44, p45, p46, p47, p48⟩ := p49
  obtain ⟨v50, e51⟩ : ∃ z, Iv h v29 3 = z := ⟨_, rfl⟩
  have f52 := ok_I O t31 rI_7_3 e51
  obtain ⟨v53, e54⟩ : ∃ z, Iv h v29 4 = z := ⟨_, rfl⟩
  have f55 := ok_I O t31 rI_7_4 e54
  rw [e51] at p44
  rw [e54] at p45
  refine hm_go (by decide +kernel) (Nat.le_of_ble_eq_true rfl) (fun p e s m below meth c C hr hn => ?_)
  obtain ⟨v56, e57⟩ : ∃ z, Rv h a0 2 = z := ⟨_, rfl⟩
  have t58 := ok_R O ta0 rE_11_2 e57
  obtain ⟨v59, e60⟩ : ∃ z, Iv h v56 5 = z := ⟨_, rfl⟩
  have f61 := ok_I O t58 rI_3_5 e60
  have q62 : Qasc h a0 = v59 := by unfold Qasc; rw [e57, e60]
  have q63 := P_ASK.1
  rw [q62] at q63
  have q64 := P_ASK.2
  have q65 := ask_nn O ta0
  have f66 : (0 : Int) ≤ v59 ∧ v59 ≤ (8 : Int) := ⟨by omega, by omega⟩
  refine g_iload_n C rfl 1 rfl dX11_question_0 ?_
  refine g_iload_n C rfl 2 rfl dX11_question_1 ?_
  refine g_callI (st := []) (gc_S C lk_LandSurvey_85 (k2_X11_cellAt l D cy w z0 O fa1 fa2) rfl ⟨by decide, by decide⟩ (Nat.le_of_ble_eq_true rfl) dX11_question_2 ⟨(by decide), (by decide)⟩) (fun r67 h68 f70 K69 => ?_)
  obtain ⟨O71, F72, f73, p74⟩ := K69
  refine g_istore C [(4, .inl r67), (0, .inr (.inr a0)), (1, .inl a1), (2, .inl a2), (3, .inl a3)] (by decide) rfl dX11_question_5 ?_
  refine g_iload C 0 rfl dX11_question_7 ?_
  refine g_iconst C dX11_question_9 ?_
  refine g_icmp_ne C (iw f73 (by decide) (by decide)) (iw (il (-1)) (by decide) (by decide)) 15 (by decide) dX11_question_10 (fun q75 => ?_) (fun q76 => ?_)
  · have f77 : (0 : Int) ≤ r67 ∧ r67 ≤ (95 : Int) := r_nl f73 q75
    refine g_aload_n C rfl 1 rfl dX11_question_15 ?_
    have e78 : Tg h68 a0 = 11 := (fxT F72 ta0)
    have e79 : Rv h68 a0 2 = v56 := ((fxR F72 ta0 rfl).trans e57)
    refine gf_R C fk_LandSurvey_16 rfl e78 e79 dX11_question_16 ?_
    have e80 : Tg h68 v56 = 3 := (fxT F72 t58)
    obtain ⟨v81, e82⟩ : ∃ z, Rv h68 v56 4 = z := ⟨_, rfl⟩
    have t83 := ok_R O71 e80 rE_3_4 e82
    have l84 := ok_L O71 e80 rE_3_4 e82
    refine gf_R C fk_LandSurvey_331 rfl e80 e82 dX11_question_19 ?_
    refine g_iload C 0 rfl dX11_question_22 ?_
    obtain ⟨v85, e86⟩ : ∃ z, Iv h68 v81 r67.toNat = z := ⟨_, rfl⟩
    have f87 := ok_Ia O71 t83 ar_16101 rI_16101_0 e86
    refine g_zald C t83 rfl l84 (ix f77 (by decide) (by decide)) e86 dX11_question_24 ?_
    have e88 : Qask h68 a0 = (Qask h a0) := Eq.trans (show Qask h68 a0 = Qask h a0 from (Qask_fx O F72 ta0 rfl)) (Eq.refl (Qask h a0))
    have q89 : (Qask h a0) ((12 * a2 + a1).toNat) = v85 := Eq.trans (congrArg (Qask h a0) (show (12 * a2 + a1).toNat = r67.toNat by omega)) (Eq.trans (congrFun e88 r67.toNat).symm (Qask_get e79 e82 e86))
    have q90 : (Qask h a0) r67.toNat = v85 := Eq.trans (congrArg (Qask h a0) (show r67.toNat = r67.toNat by omega)) (Eq.trans (congrFun e88 r67.toNat).symm (Qask_get e79 e82 e86))
    refine g_iload_n C rfl 4 rfl dX11_question_25 ?_
    refine g_icmp_ne C (iw f87 (by decide) (by decide)) (iw fa3 (by decide) (by decide)) 31 (by decide) dX11_question_26 (fun q91 => ?_) (fun q92 => ?_)
    · refine g_iload_n C rfl 4 rfl dX11_question_31 ?_
      refine g_if_eq C (iw fa3 (by decide) (by decide)) 49 (by decide) dX11_question_32 (fun q93 => ?_) (fun q94 => ?_)
      · have f95 : (0 : Int) ≤ a3 ∧ a3 ≤ (0 : Int) := ii fa3 (r_eq (il 0) q93) (by decide) (by decide)
        refine g_aload_n C rfl 1 rfl dX11_question_49 ?_
        refine gf_R C fk_LandSurvey_16 rfl e78 e79 dX11_question_50 ?_
        refine gf_R C fk_LandSurvey_331 rfl e80 e82 dX11_question_53 ?_
        refine g_iload C 0 rfl dX11_question_56 ?_
        refine g_iload_n C rfl 4 rfl dX11_question_58 ?_
        refine g_zast C t83 rfl l84 (ix f77 (by decide) (by decide)) (iw f95 (by decide) (by decide)) dX11_question_59 (fun h97 hh96 => ?_)
        have O98 := O71.pIa t83 ar_16101 hh96 rI_16101_0 (iw f95 (by decide) (by decide)) nofun
        refine g_aload_n C rfl 1 rfl dX11_question_60 ?_
        have e99 : Tg h97 a0 = 11 := ((pIT hh96).trans e78)
        have e100 : Rv h97 a0 2 = v56 := ((pIR hh96).trans e79)
        refine gf_R C fk_LandSurvey_16 rfl e99 e100 dX11_question_61 ?_
        refine g_dup C rfl dX11_question_64 ?_
        have e101 : Tg h97 v56 = 3 := ((pIT hh96).trans e80)
        have e102 : Iv h97 v56 5 = v59 := ((pI_n hh96 (ne_tag e80 t83 (by decide))).trans ((fxI F72 t58 rfl).trans e60))
        refine gf_I C fk_LandSurvey_334 rfl e101 e102 dX11_question_65 ?_
        refine g_iload_n C rfl 4 rfl dX11_question_68 ?_
        refine g_if_eq C (iw f95 (by decide) (by decide)) 76 (by decide) dX11_question_69 (fun q103 => ?_) (fun q104 => ?_)
        · refine g_iconst C dX11_question_76 ?_
          have f105 : (-1 : Int) ≤ (v59 + (-1)) ∧ (v59 + (-1)) ≤ (7 : Int) := ia_add f66 (il (-1)) (by decide) (by decide)
          refine g_iadd C dX11_question_77 ?_
          refine gp_I C fk_LandSurvey_334 pk_LandSurvey_Land_5 rfl e101 (iw f105 (by decide) (by decide)) (nf_i _) dX11_question_78 (fun h107 hh106 => ?_)
          have O108 := O98.pI e101 hh106 rI_3_5 (iw f105 (by decide) (by decide)) nofun
          refine g_iconst C dX11_question_81 ?_
          have p109 := (XInv_fx O98 ((Fx.rf (wr := [605]) (h := h97)).pI e101 hh106 rfl) e99 rfl (XInv_fx O71 ((Fx.rf (wr := [3220200]) (h := h68)).pIa t83 ar_16101 hh96 rfl) e78 rfl (XInv_fx O F72 ta0 rfl P_XInv)))
          have e110 : Qask h97 a0 = (upE (Qask h a0) r67.toNat a3) := (Eq.trans (Qask_w e79 e82 hh96) (congrArg (fun f => upE f r67.toNat a3) e88))
          have e111 : Qask h107 a0 = (upE (Qask h a0) r67.toNat a3) := Eq.trans (show Qask h107 a0 = Qask h97 a0 from (Qask_fx O98 ((Fx.rf (wr := [605]) (h := h97)).pI e101 hh106 rfl) e99 rfl)) e110
          have e112 : Qasc h68 a0 = v59 := Eq.trans (show Qasc h68 a0 = Qasc h a0 from (Qasc_fx O F72 ta0 rfl)) q62
          have e113 : Qasc h97 a0 = v59 := Eq.trans (show Qasc h97 a0 = Qasc h68 a0 from (Qasc_fx O71 ((Fx.rf (wr := [3220200]) (h := h68)).pIa t83 ar_16101 hh96 rfl) e78 rfl)) e112
          have e114 : Qasc h107 a0 = (v59 + (-1)) := (Qasc_w e100 hh106)
          have e116 : Tg h107 a0 = 11 := ((pIT hh106).trans e99)
          have q115 := ask_nn O108 e116
          rw [e111, cntE_up 96 (by omega)] at q115
          exact g_iret C hr (nar_z2 (iw (il 1) (by decide) (by decide))).1 (iw (il 1) (by decide) (by decide)) ⟨O108, ((((Fx.rf (wr := wr_k3_X11_question)).call F72 rfl).pIa t83 ar_16101 hh96 rfl).pI e101 hh106 rfl), (iw (il 1) (by decide) (by decide)), p109, (by unfold ASK; rw [e114, e111, cntE_up 96 (by omega)]; exact ⟨by omega, by omega⟩), (by unfold quF; split <;> omega), (Eq.trans e111 (by unfold quU; split <;> first | rfl | omega | exact upE_cg (by omega) (by omega) | exact upE_id (by omega)))⟩ (by decide) (by decide) dX11_question_82
        · exact (no_ne f95 (il 0) q104 (by decide)).elim
      · have f117 : (1 : Int) ≤ a3 ∧ a3 ≤ (1 : Int) := r_nl fa3 q94
        refine g_aload_n C rfl 1 rfl dX11_question_35 ?_
        refine gf_R C fk_LandSurvey_16 rfl e78 e79 dX11_question_36 ?_
        have e118 : Iv h68 v56 5 = v59 := ((fxI F72 t58 rfl).trans e60)
        refine gf_I C fk_LandSurvey_334 rfl e80 e118 dX11_question_39 ?_
        refine g_bipush C (by decide) dX11_question_42 ?_
        refine g_icmp_lt C (iw f66 (by decide) (by decide)) (iw (il 8) (by decide) (by decide)) 49 (by decide) dX11_question_44 (fun q119 => ?_) (fun q120 => ?_)
        · have f121 : (0 : Int) ≤ v59 ∧ v59 ≤ (7 : Int) := r_lt f66 (il 8) q119 (by decide) (by decide)
          refine g_aload_n C rfl 1 rfl dX11_question_49 ?_
          refine gf_R C fk_LandSurvey_16 rfl e78 e79 dX11_question_50 ?_
          refine gf_R C fk_LandSurvey_331 rfl e80 e82 dX11_question_53 ?_
          refine g_iload C 0 rfl dX11_question_56 ?_
          refine g_iload_n C rfl 4 rfl dX11_question_58 ?_
          refine g_zast C t83 rfl l84 (ix f77 (by decide) (by decide)) (iw f117 (by decide) (by decide)) dX11_question_59 (fun h123 hh122 => ?_)
          have O124 := O71.pIa t83 ar_16101 hh122 rI_16101_0 (iw f117 (by decide) (by decide)) nofun
          refine g_aload_n C rfl 1 rfl dX11_question_60 ?_
          have e125 : Tg h123 a0 = 11 := ((pIT hh122).trans e78)
          have e126 : Rv h123 a0 2 = v56 := ((pIR hh122).trans e79)
          refine gf_R C fk_LandSurvey_16 rfl e125 e126 dX11_question_61 ?_
          refine g_dup C rfl dX11_question_64 ?_
          have e127 : Tg h123 v56 = 3 := ((pIT hh122).trans e80)
          have e128 : Iv h123 v56 5 = v59 := ((pI_n hh122 (ne_tag e80 t83 (by decide))).trans e118)
          refine gf_I C fk_LandSurvey_334 rfl e127 e128 dX11_question_65 ?_
          refine g_iload_n C rfl 4 rfl dX11_question_68 ?_
          refine g_if_eq C (iw f117 (by decide) (by decide)) 76 (by decide) dX11_question_69 (fun q129 => ?_) (fun q130 => ?_)
          · exact (no_eq f117 (il 0) q129 (by decide)).elim
          · refine g_iconst C dX11_question_72 ?_
            refine g_goto C 77 (by decide) dX11_question_73 ?_
            have f131 : (1 : Int) ≤ (v59 + 1) ∧ (v59 + 1) ≤ (8 : Int) := ia_add f121 (il 1) (by decide) (by decide)
            refine g_iadd C dX11_question_77 ?_
            refine gp_I C fk_LandSurvey_334 pk_LandSurvey_Land_5 rfl e127 (iw f131 (by decide) (by decide)) (nf_i _) dX11_question_78 (fun h133 hh132 => ?_)
            have O134 := O124.pI e127 hh132 rI_3_5 (iw f131 (by decide) (by decide)) nofun
            refine g_iconst C dX11_question_81 ?_
            have p135 := (XInv_fx O124 ((Fx.rf (wr := [605]) (h := h123)).pI e127 hh132 rfl) e125 rfl (XInv_fx O71 ((Fx.rf (wr := [3220200]) (h := h68)).pIa t83 ar_16101 hh122 rfl) e78 rfl (XInv_fx O F72 ta0 rfl P_XInv)))
            have e136 : Qask h123 a0 = (upE (Qask h a0) r67.toNat a3) := (Eq.trans (Qask_w e79 e82 hh122) (congrArg (fun f => upE f r67.toNat a3) e88))
            have e137 : Qask h133 a0 = (upE (Qask h a0) r67.toNat a3) := Eq.trans (show Qask h133 a0 = Qask h123 a0 from (Qask_fx O124 ((Fx.rf (wr := [605]) (h := h123)).pI e127 hh132 rfl) e125 rfl)) e136
            have e138 : Qasc h68 a0 = v59 := Eq.trans (show Qasc h68 a0 = Qasc h a0 from (Qasc_fx O F72 ta0 rfl)) q62
            have e139 : Qasc h123 a0 = v59 := Eq.trans (show Qasc h123 a0 = Qasc h68 a0 from (Qasc_fx O71 ((Fx.rf (wr := [3220200]) (h := h68)).pIa t83 ar_16101 hh122 rfl) e78 rfl)) e138
            have e140 : Qasc h133 a0 = (v59 + 1) := (Qasc_w e126 hh132)
            have e142 : Tg h133 a0 = 11 := ((pIT hh132).trans e125)
            have q141 := ask_nn O134 e142
            rw [e137, cntE_up 96 (by omega)] at q141
            exact g_iret C hr (nar_z2 (iw (il 1) (by decide) (by decide))).1 (iw (il 1) (by decide) (by decide)) ⟨O134, ((((Fx.rf (wr := wr_k3_X11_question)).call F72 rfl).pIa t83 ar_16101 hh122 rfl).pI e127 hh132 rfl), (iw (il 1) (by decide) (by decide)), p135, (by unfold ASK; rw [e140, e137, cntE_up 96 (by omega)]; exact ⟨by omega, by omega⟩), (by unfold quF; split <;> omega), (Eq.trans e137 (by unfold quU; split <;> first | rfl | omega | exact upE_cg (by omega) (by omega) | exact upE_id (by omega)))⟩ (by decide) (by decide) dX11_question_82
        · have f143 : (8 : Int) ≤ v59 ∧ v59 ≤ (8 : Int) := r_ge f66 (il 8) q120 (by decide) (by decide)
          refine g_iconst C dX11_question_47 ?_
          have p144 := (XInv_fx O F72 ta0 rfl P_XInv)
          have p145 := (ASK_fx O F72 ta0 rfl P_ASK)
          exact g_iret C hr (nar_z2 (iw (il 0) (by decide) (by decide))).1 (iw (il 0) (by decide) (by decide)) ⟨O71, ((Fx.rf (wr := wr_k3_X11_question)).call F72 rfl), (iw (il 0) (by decide) (by decide)), p144, p145, (by unfold quF; split <;> omega), (Eq.trans e88 (by unfold quU; split <;> first | rfl | omega | exact upE_cg (by omega) (by omega) | exact upE_id (by omega)))⟩ (by decide) (by decide) dX11_question_48
    · refine g_iconst C dX11_question_29 ?_
      have p146 := (XInv_fx O F72 ta0 rfl P_XInv)
      have p147 := (ASK_fx O F72 ta0 rfl P_ASK)
      exact g_iret C hr (nar_z2 (iw (il 1) (by decide) (by decide))).1 (iw (il 1) (by decide) (by decide)) ⟨O71, ((Fx.rf (wr := wr_k3_X11_question)).call F72 rfl), (iw (il 1) (by decide) (by decide)), p146, p147, (by unfold quF; split <;> omega), (Eq.trans e88 (by unfold quU; split <;> first | rfl | omega | exact upE_cg (by omega) (by omega) | exact upE_id (by omega)))⟩ (by decide) (by decide) dX11_question_30
  · have f148 : (-1 : Int) ≤ r67 ∧ r67 ≤ (-1 : Int) := ii f73 (r_eq (il (-1)) q76) (by decide) (by decide)
    refine g_iconst C dX11_question_13 ?_
    have p149 := (XInv_fx O F72 ta0 rfl P_XInv)
    have p150 := (ASK_fx O F72 ta0 rfl P_ASK)
    have e151 : Qask h68 a0 = (Qask h a0) := Eq.trans (show Qask h68 a0 = Qask h a0 from (Qask_fx O F72 ta0 rfl)) (Eq.refl (Qask h a0))
    exact g_iret C hr (nar_z2 (iw (il 0) (by decide) (by decide))).1 (iw (il 0) (by decide) (by decide)) ⟨O71, ((Fx.rf (wr := wr_k3_X11_question)).call F72 rfl), (iw (il 0) (by decide) (by decide)), p149, p150, (by unfold quF; split <;> omega), (Eq.trans e151 (by unfold quU; split <;> first | rfl | omega | exact upE_cg (by omega) (by omega) | exact upE_id (by omega)))⟩ (by decide) (by decide) dX11_question_14
def wr_k3_X12_asked : List Nat := []
set_option maxRecDepth 100000 in
set_option maxHeartbeats 4000000 in
theorem k3_X12_asked (l : Launch) (D : va_G) (cy : Nat → ClassId) (w : Nat → Nat) (z0 : Nat)  {h : Hp} {a0 : Nat}  (O : Okh h) (ta0 : Tg h a0 = 12) : MI l D cy w z0 yX12_asked cX12_asked 3 (some .int) 0 0 0 0 [.inr (.inr a0)] h (fun v h1 => Okh h1 ∧ Fx wr_k3_X12_asked h h1 ∧ (0 ≤ v ∧ v ≤ 96) ∧ (v = cntE (Qm 82 h a0) 96)) := by
  refine hm_go (by decide +kernel) (Nat.le_of_ble_eq_true rfl) (fun p e s m below meth c C hr hn => ?_)
  obtain ⟨v1, e2⟩ : ∃ z, Rv h a0 82 = z := ⟨_, rfl⟩
  have t3 := ok_R O ta0 rE_12_82 e2
  have l4 := ok_L O ta0 rE_12_82 e2
  refine g_iconst C dX12_asked_0 ?_
  refine g_istore_n C [(1, .inl 0), (0, .inr (.inr a0))] rfl (by decide) rfl dX12_asked_1 ?_
  refine g_iconst C dX12_asked_2 ?_
  refine g_istore_n C [(2, .inl 0), (1, .inl 0), (0, .inr (.inr a0))] rfl (by decide) rfl dX12_asked_3 ?_
  refine GW.sub [2, 1, 0] rfl ?_
  -- loop at 4
  have L7 : ∀ (μ : Nat) (x5 : Int) (x6 : Int), (96 - x6).toNat = μ → ((0 : Int) ≤ x5 ∧ x5 ≤ (96 : Int)) → ((0 : Int) ≤ x6 ∧ x6 ≤ (96 : Int)) → (x5 ≤ x6) → (x5 = cntE (Iv h v1) x6.toNat) → GW p l e (rmm 0 0 0 0) s m (List.map toV [.inr (.inr a0)]).toArray below meth c D cy z0 3 (MQ below (QI D cy z0 (fun v h1 => Okh h1 ∧ Fx wr_k3_X12_asked h h1 ∧ (0 ≤ v ∧ v ≤ 96) ∧ (v = cntE (Qm 82 h a0) 96))) (List.map toV [.inr (.inr a0)]).toArray s 0 0 (Aof z0)) 4 [(0, .inr (.inr a0)), (1, .inl x5), (2, .inl x6)] [] h 0 0 := by
    intro μ
    induction μ using Nat.strongRecOn with
    | ind μ ih8 =>
      intro x5 x6 hm9 f10 f11 p12 p13
      refine g_iload_n C rfl 2 rfl dX12_asked_4 ?_
      refine g_bipush C (by decide) dX12_asked_5 ?_
      refine g_icmp_ge C (iw f11 (by decide) (by decide)) (iw (il 96) (by decide) (by decide)) 33 (by decide) dX12_asked_7 (fun q14 => ?_) (fun q15 => ?_)
      · have f16 : (96 : Int) ≤ x6 ∧ x6 ≤ (96 : Int) := r_ge f11 (il 96) q14 (by decide) (by decide)
        refine g_iload_n C rfl 1 rfl dX12_asked_33 ?_
        exact g_iret C hr rfl (iw f10 (by decide) (by decide)) ⟨O, Fx.rf, f10, (by show _ = cntE (Iv h (Rv h a0 82)) 96; rw [e2]; have z := p13; rw [show x6.toNat = 96 by omega] at z; exact z)⟩ (by decide) (by decide) dX12_asked_34
      · have f17 : (0 : Int) ≤ x6 ∧ x6 ≤ (95 : Int) := r_lt f11 (il 96) q15 (by decide) (by decide)
        refine g_iload_n C rfl 1 rfl dX12_asked_10 ?_
        refine g_aload_n C rfl 0 rfl dX12_asked_11 ?_
        refine gf_R C fk_LandSurveyModel_275 rfl ta0 e2 dX12_asked_12 ?_
        refine g_iload_n C rfl 2 rfl dX12_asked_15 ?_
        obtain ⟨v18, e19⟩ : ∃ z, Iv h v1 x6.toNat = z := ⟨_, rfl⟩
        have f20 := ok_Ia O t3 ar_182101 rI_182101_0 e19
        refine g_zald C t3 rfl l4 (ix f17 (by decide) (by decide)) e19 dX12_asked_16 ?_
        refine g_if_eq C (iw f20 (by decide) (by decide)) 24 (by decide) dX12_asked_17 (fun q21 => ?_) (fun q22 => ?_)
        · have f23 : (0 : Int) ≤ v18 ∧ v18 ≤ (0 : Int) := ii f20 (r_eq (il 0) q21) (by decide) (by decide)
          refine g_iconst C dX12_asked_24 ?_
          have f24 : (0 : Int) ≤ (x5 + 0) ∧ (x5 + 0) ≤ (96 : Int) := ia_add f10 (il 0) (by decide) (by decide)
          refine g_iadd C dX12_asked_25 ?_
          refine g_istore_n C [(1, .inl (x5 + 0)), (0, .inr (.inr a0)), (2, .inl x6)] rfl (by decide) rfl dX12_asked_26 ?_
          have f25 : (1 : Int) ≤ (x6 + 1) ∧ (x6 + 1) ≤ (96 : Int) := ia_add f17 (il 1) (by decide) (by decide)
          refine g_iinc C [(2, .inl (x6 + 1)), (1, .inl (x5 + 0)), (0, .inr (.inr a0))] 2 rfl (by decide) rfl dX12_asked_27 ?_
          refine g_goto C 4 (by decide) dX12_asked_30 ?_
          refine GW.sub [2, 1, 0] rfl ?_
          exact ih8 _ (by omega) (x5 + 0) (x6 + 1) rfl f24 (iw f25 (by decide) (by decide)) (by omega) (by rw [cntE_s (by omega)]; omega)
        · have f26 : (1 : Int) ≤ v18 ∧ v18 ≤ (1 : Int) := r_nl f20 q22
          refine g_iconst C dX12_asked_20 ?_
          refine g_goto C 25 (by decide) dX12_asked_21 ?_
          have f27 : (1 : Int) ≤ (x5 + 1) ∧ (x5 + 1) ≤ (97 : Int) := ia_add f10 (il 1) (by decide) (by decide)
          refine g_iadd C dX12_asked_25 ?_
          refine g_istore_n C [(1, .inl (x5 + 1)), (0, .inr (.inr a0)), (2, .inl x6)] rfl (by decide) rfl dX12_asked_26 ?_
          have f28 : (1 : Int) ≤ (x6 + 1) ∧ (x6 + 1) ≤ (96 : Int) := ia_add f17 (il 1) (by decide) (by decide)
          refine g_iinc C [(2, .inl (x6 + 1)), (1, .inl (x5 + 1)), (0, .inr (.inr a0))] 2 rfl (by decide) rfl dX12_asked_27 ?_
          refine g_goto C 4 (by decide) dX12_asked_30 ?_
          refine GW.sub [2, 1, 0] rfl ?_
          exact ih8 _ (by omega) (x5 + 1) (x6 + 1) rfl (by omega) (iw f28 (by decide) (by decide)) (by omega) (by rw [cntE_s (by omega)]; omega)
  exact L7 _ 0 0 rfl (iw (il 0) (by decide) (by decide)) (iw (il 0) (by decide) (by decide)) (by omega) (by rfl)
def wr_k3_X12_question : List Nat := [2400, 36420200]
set_option maxRecDepth 100000 in
set_option maxHeartbeats 4000000 in
theorem k3_X12_question (l : Launch) (D : va_G) (cy : Nat → ClassId) (w : Nat → Nat) (z0 : Nat)  {h : Hp} {a0 : Nat} {a1 : Int} {a2 : Int} {a3 : Int}  (O : Okh h) (ta0 : Tg h a0 = 12) (fa1 : (-2147483648) ≤ a1 ∧ a1 ≤ 2147483647) (fa2 : (-2147483648) ≤ a2 ∧ a2 ≤ 2147483647) (fa3 : 0 ≤ a3 ∧ a3 ≤ 1) : MI l D cy w z0 yX12_question cX12_question 4 (some .boolean) 2 43 0 0 [.inr (.inr a0), .inl a1, .inl a2, .inl a3] h (fun v h1 => Okh h1 ∧ Fx wr_k3_X12_question h h1 ∧ (0 ≤ v ∧ v ≤ 1) ∧ (v = quF a1 a2 a3 (Qm 82 h a0)) ∧ (Qm 82 h1 a0 = quU a1 a2 a3 (Qm 82 h a0))) := by
  refine hm_go (by decide +kernel) (Nat.le_of_ble_eq_true rfl) (fun p e s m below meth c C hr hn => ?_)
  obtain ⟨v1, e2⟩ : ∃ z, Rv h a0 82 = z := ⟨_, rfl⟩
  have t3 := ok_R O ta0 rE_12_82 e2
  have l4 := ok_L O ta0 rE_12_82 e2
  refine g_aload_n C rfl 0 rfl dX12_question_0 ?_
  refine g_iconst C dX12_question_1 ?_
  refine gp_I C fk_LandSurveyModel_1 pk_LandSurveyModel_0 rfl ta0 (iw (il 0) (by decide) (by decide)) (nf_i _) dX12_question_2 (fun h6 hh5 => ?_)
  have O7 := O.pI ta0 hh5 rI_12_0 (iw (il 0) (by decide) (by decide)) nofun
  refine g_iload_n C rfl 1 rfl dX12_question_5 ?_
  refine g_iload_n C rfl 2 rfl dX12_question_6 ?_
  refine g_callI (st := []) (gc_S C lk_LandSurveyModel_419 (k_X12_isCell l D cy w z0 O7 fa1 fa2) rfl ⟨by decide, by decide⟩ (Nat.le_of_ble_eq_true rfl) dX12_question_7 ⟨(by decide), (by decide)⟩) (fun r8 h9 f11 K10 => ?_)
  obtain ⟨O12, F13, f14, p15⟩ := K10
  refine g_if_eq C (iw f14 (by decide) (by decide)) 40 (by decide) dX12_question_10 (fun q16 => ?_) (fun q17 => ?_)
  · have f18 : (0 : Int) ≤ r8 ∧ r8 ≤ (0 : Int) := ii f14 (r_eq (il 0) q16) (by decide) (by decide)
    refine g_iconst C dX12_question_40 ?_
    have e19 : Qm 82 h6 a0 = (Qm 82 h a0) := Eq.trans (show Qm 82 h6 a0 = Qm 82 h a0 from (mAI (j := 82) O ((Fx.rf (wr := [2400]) (h := h)).pI ta0 hh5 rfl) ta0 rE_12_82 ar_182101 rfl rfl)) (Eq.refl (Qm 82 h a0))
    have e21 : Tg h6 a0 = 12 := ((pIT hh5).trans ta0)
    have e20 : Qm 82 h9 a0 = (Qm 82 h a0) := Eq.trans (show Qm 82 h9 a0 = Qm 82 h6 a0 from (mAI (j := 82) O7 F13 e21 rE_12_82 ar_182101 rfl rfl)) e19
    exact g_iret C hr (nar_z2 (iw (il 0) (by decide) (by decide))).1 (iw (il 0) (by decide) (by decide)) ⟨O12, (((Fx.rf (wr := wr_k3_X12_question)).pI ta0 hh5 rfl).call F13 rfl), (iw (il 0) (by decide) (by decide)), (by unfold quF; split <;> omega), (Eq.trans e20 (by unfold quU; split <;> first | rfl | omega | exact upE_cg (by omega) (by omega) | exact upE_id (by omega)))⟩ (by decide) (by decide) dX12_question_41
  · have f22 : (1 : Int) ≤ r8 ∧ r8 ≤ (1 : Int) := r_nl f14 q17
    have f23 : (0 : Int) ≤ a1 ∧ a1 ≤ (11 : Int) := by omega
    have f24 : (0 : Int) ≤ a2 ∧ a2 ≤ (7 : Int) := by omega
    refine g_iload_n C rfl 3 rfl dX12_question_13 ?_
    refine g_if_eq C (iw fa3 (by decide) (by decide)) 42 (by decide) dX12_question_14 (fun q25 => ?_) (fun q26 => ?_)
    · have f27 : (0 : Int) ≤ a3 ∧ a3 ≤ (0 : Int) := ii fa3 (r_eq (il 0) q25) (by decide) (by decide)
      refine g_aload_n C rfl 0 rfl dX12_question_42 ?_
      have e28 : Tg h9 a0 = 12 := (fxT F13 ((pIT hh5).trans ta0))
      have e29 : Tg h6 a0 = 12 := ((pIT hh5).trans ta0)
      have e30 : Rv h9 a0 82 = v1 := ((fxR F13 e29 rfl).trans ((pIR hh5).trans e2))
      refine gf_R C fk_LandSurveyModel_275 rfl e28 e30 dX12_question_43 ?_
      refine g_bipush C (by decide) dX12_question_46 ?_
      refine g_iload_n C rfl 2 rfl dX12_question_48 ?_
      have f31 : (0 : Int) ≤ (12 * a2) ∧ (12 * a2) ≤ (84 : Int) := ia_mul (by decide) f24 (by decide) (by decide)
      refine g_imul C dX12_question_49 ?_
      refine g_iload_n C rfl 1 rfl dX12_question_50 ?_
      have f32 : (0 : Int) ≤ ((12 * a2) + a1) ∧ ((12 * a2) + a1) ≤ (95 : Int) := ia_add f31 f23 (by decide) (by decide)
      refine g_iadd C dX12_question_51 ?_
      refine g_iload_n C rfl 3 rfl dX12_question_52 ?_
      have e33 : Tg h9 v1 = 182101 := (fxT F13 ((pIT hh5).trans t3))
      have e34 : Tg h6 v1 = 182101 := ((pIT hh5).trans t3)
      have e35 : Ln h9 v1 = 96 := ((fxL F13 e34).trans ((pIL hh5).trans l4))
      refine g_zast C e33 rfl e35 (ix f32 (by decide) (by decide)) (iw f27 (by decide) (by decide)) dX12_question_53 (fun h37 hh36 => ?_)
      have O38 := O12.pIa e33 ar_182101 hh36 rI_182101_0 (iw f27 (by decide) (by decide)) nofun
      refine g_iconst C dX12_question_54 ?_
      have e39 : Qm 82 h6 a0 = (Qm 82 h a0) := Eq.trans (show Qm 82 h6 a0 = Qm 82 h a0 from (mAI (j := 82) O ((Fx.rf (wr := [2400]) (h := h)).pI ta0 hh5 rfl) ta0 rE_12_82 ar_182101 rfl rfl)) (Eq.refl (Qm 82 h a0))
      have e40 : Qm 82 h9 a0 = (Qm 82 h a0) := Eq.trans (show Qm 82 h9 a0 = Qm 82 h6 a0 from (mAI (j := 82) O7 F13 e29 rE_12_82 ar_182101 rfl rfl)) e39
      have e41 : Qm 82 h37 a0 = (upE (Qm 82 h a0) (((12 * a2) + a1).toNat) a3) := (Eq.trans (Qm_w e30 hh36) (congrArg (fun f => upE f (((12 * a2) + a1).toNat) a3) e40))
      exact g_iret C hr (nar_z2 (iw (il 1) (by decide) (by decide))).1 (iw (il 1) (by decide) (by decide)) ⟨O38, ((((Fx.rf (wr := wr_k3_X12_question)).pI ta0 hh5 rfl).call F13 rfl).pIa e33 ar_182101 hh36 rfl), (iw (il 1) (by decide) (by decide)), (by unfold quF; split <;> omega), (Eq.trans e41 (by unfold quU; split <;> first | rfl | omega | exact upE_cg (by omega) (by omega) | exact upE_id (by omega)))⟩ (by decide) (by decide) dX12_question_55
    · have f42 : (1 : Int) ≤ a3 ∧ a3 ≤ (1 : Int) := r_nl fa3 q26
      refine g_aload_n C rfl 0 rfl dX12_question_17 ?_
      have e43 : Tg h9 a0 = 12 := (fxT F13 ((pIT hh5).trans ta0))
      have e44 : Tg h6 a0 = 12 := ((pIT hh5).trans ta0)
      have e45 : Rv h9 a0 82 = v1 := ((fxR F13 e44 rfl).trans ((pIR hh5).trans e2))
      refine gf_R C fk_LandSurveyModel_275 rfl e43 e45 dX12_question_18 ?_
      refine g_bipush C (by decide) dX12_question_21 ?_
      refine g_iload_n C rfl 2 rfl dX12_question_23 ?_
      have f46 : (0 : Int) ≤ (12 * a2) ∧ (12 * a2) ≤ (84 : Int) := ia_mul (by decide) f24 (by decide) (by decide)
      refine g_imul C dX12_question_24 ?_
      refine g_iload_n C rfl 1 rfl dX12_question_25 ?_
      have f47 : (0 : Int) ≤ ((12 * a2) + a1) ∧ ((12 * a2) + a1) ≤ (95 : Int) := ia_add f46 f23 (by decide) (by decide)
      refine g_iadd C dX12_question_26 ?_
      have e48 : Tg h9 v1 = 182101 := (fxT F13 ((pIT hh5).trans t3))
      have e49 : Tg h6 v1 = 182101 := ((pIT hh5).trans t3)
      have e50 : Ln h9 v1 = 96 := ((fxL F13 e49).trans ((pIL hh5).trans l4))
      obtain ⟨v51, e52⟩ : ∃ z, Iv h9 v1 (((12 * a2) + a1).toNat) = z := ⟨_, rfl⟩
      have f53 := ok_Ia O12 e48 ar_182101 rI_182101_0 e52
      refine g_zald C e48 rfl e50 (ix f47 (by decide) (by decide)) e52 dX12_question_27 ?_
      have e54 : Qm 82 h6 a0 = (Qm 82 h a0) := Eq.trans (show Qm 82 h6 a0 = Qm 82 h a0 from (mAI (j := 82) O ((Fx.rf (wr := [2400]) (h := h)).pI ta0 hh5 rfl) ta0 rE_12_82 ar_182101 rfl rfl)) (Eq.refl (Qm 82 h a0))
      have e55 : Qm 82 h9 a0 = (Qm 82 h a0) := Eq.trans (show Qm 82 h9 a0 = Qm 82 h6 a0 from (mAI (j := 82) O7 F13 e44 rE_12_82 ar_182101 rfl rfl)) e54
      have q56 : (Qm 82 h a0) ((12 * a2 + a1).toNat) = v51 := Eq.trans (congrArg (Qm 82 h a0) (show (12 * a2 + a1).toNat = ((12 * a2) + a1).toNat by omega)) (Eq.trans (congrFun e55 (((12 * a2) + a1).toNat)).symm (Qm_get e45 e52))
      refine g_if_ne C (iw f53 (by decide) (by decide)) 42 (by decide) dX12_question_28 (fun q57 => ?_) (fun q58 => ?_)
      · have f59 : (1 : Int) ≤ v51 ∧ v51 ≤ (1 : Int) := r_nl f53 q57
        refine g_aload_n C rfl 0 rfl dX12_question_42 ?_
        refine gf_R C fk_LandSurveyModel_275 rfl e43 e45 dX12_question_43 ?_
        refine g_bipush C (by decide) dX12_question_46 ?_
        refine g_iload_n C rfl 2 rfl dX12_question_48 ?_
        refine g_imul C dX12_question_49 ?_
        refine g_iload_n C rfl 1 rfl dX12_question_50 ?_
        refine g_iadd C dX12_question_51 ?_
        refine g_iload_n C rfl 3 rfl dX12_question_52 ?_
        refine g_zast C e48 rfl e50 (ix f47 (by decide) (by decide)) (iw f42 (by decide) (by decide)) dX12_question_53 (fun h61 hh60 => ?_)
        have O62 := O12.pIa e48 ar_182101 hh60 rI_182101_0 (iw f42 (by decide) (by decide)) nofun
        refine g_iconst C dX12_question_54 ?_
        have e63 : Qm 82 h61 a0 = (upE (Qm 82 h a0) (((12 * a2) + a1).toNat) a3) := (Eq.trans (Qm_w e45 hh60) (congrArg (fun f => upE f (((12 * a2) + a1).toNat) a3) e55))
        exact g_iret C hr (nar_z2 (iw (il 1) (by decide) (by decide))).1 (iw (il 1) (by decide) (by decide)) ⟨O62, ((((Fx.rf (wr := wr_k3_X12_question)).pI ta0 hh5 rfl).call F13 rfl).pIa e48 ar_182101 hh60 rfl), (iw (il 1) (by decide) (by decide)), (by unfold quF; split <;> omega), (Eq.trans e63 (by unfold quU; split <;> first | rfl | omega | exact upE_cg (by omega) (by omega) | exact upE_id (by omega)))⟩ (by decide) (by decide) dX12_question_55
      · have f64 : (0 : Int) ≤ v51 ∧ v51 ≤ (0 : Int) := ii f53 (r_eq (il 0) q58) (by decide) (by decide)
        refine g_aload_n C rfl 0 rfl dX12_question_31 ?_
        refine g_callI (st := []) (gc_V C lk_LandSurveyModel_612 (k3_X12_asked l D cy w z0 O12 e43) e43 rfl rfl rfl ⟨by decide, by decide⟩ (Nat.le_of_ble_eq_true rfl) dX12_question_32 ⟨(by decide), (by decide)⟩) (fun r65 h66 f68 K67 => ?_)
        obtain ⟨O69, F70, f71, p72⟩ := K67
        try rw [e55] at p72
        refine g_bipush C (by decide) dX12_question_35 ?_
        refine g_icmp_ne C (iw f71 (by decide) (by decide)) (iw (il 8) (by decide) (by decide)) 42 (by decide) dX12_question_37 (fun q73 => ?_) (fun q74 => ?_)
        · refine g_aload_n C rfl 0 rfl dX12_question_42 ?_
          have e75 : Tg h66 a0 = 12 := (fxT F70 e43)
          have e76 : Rv h66 a0 82 = v1 := ((fxR F70 e43 rfl).trans e45)
          refine gf_R C fk_LandSurveyModel_275 rfl e75 e76 dX12_question_43 ?_
          refine g_bipush C (by decide) dX12_question_46 ?_
          refine g_iload_n C rfl 2 rfl dX12_question_48 ?_
          refine g_imul C dX12_question_49 ?_
          refine g_iload_n C rfl 1 rfl dX12_question_50 ?_
          refine g_iadd C dX12_question_51 ?_
          refine g_iload_n C rfl 3 rfl dX12_question_52 ?_
          have e77 : Tg h66 v1 = 182101 := (fxT F70 e48)
          have e78 : Ln h66 v1 = 96 := ((fxL F70 e48).trans e50)
          refine g_zast C e77 rfl e78 (ix f47 (by decide) (by decide)) (iw f42 (by decide) (by decide)) dX12_question_53 (fun h80 hh79 => ?_)
          have O81 := O69.pIa e77 ar_182101 hh79 rI_182101_0 (iw f42 (by decide) (by decide)) nofun
          refine g_iconst C dX12_question_54 ?_
          have e82 : Qm 82 h66 a0 = (Qm 82 h a0) := Eq.trans (show Qm 82 h66 a0 = Qm 82 h9 a0 from (mAI (j := 82) O12 F70 e43 rE_12_82 ar_182101 rfl rfl)) e55
          have e83 : Qm 82 h80 a0 = (upE (Qm 82 h a0) (((12 * a2) + a1).toNat) a3) := (Eq.trans (Qm_w e76 hh79) (congrArg (fun f => upE f (((12 * a2) + a1).toNat) a3) e82))
          exact g_iret C hr (nar_z2 (iw (il 1) (by decide) (by decide))).1 (iw (il 1) (by decide) (by decide)) ⟨O81, (((((Fx.rf (wr := wr_k3_X12_question)).pI ta0 hh5 rfl).call F13 rfl).call F70 rfl).pIa e77 ar_182101 hh79 rfl), (iw (il 1) (by decide) (by decide)), (by unfold quF; split <;> omega), (Eq.trans e83 (by unfold quU; split <;> first | rfl | omega | exact upE_cg (by omega) (by omega) | exact upE_id (by omega)))⟩ (by decide) (by decide) dX12_question_55
        · have f84 : (8 : Int) ≤ r65 ∧ r65 ≤ (8 : Int) := ii f71 (r_eq (il 8) q74) (by decide) (by decide)
          refine g_iconst C dX12_question_40 ?_
          have e85 : Qm 82 h66 a0 = (Qm 82 h a0) := Eq.trans (show Qm 82 h66 a0 = Qm 82 h9 a0 from (mAI (j := 82) O12 F70 e43 rE_12_82 ar_182101 rfl rfl)) e55
          exact g_iret C hr (nar_z2 (iw (il 0) (by decide) (by decide))).1 (iw (il 0) (by decide) (by decide)) ⟨O69, ((((Fx.rf (wr := wr_k3_X12_question)).pI ta0 hh5 rfl).call F13 rfl).call F70 rfl), (iw (il 0) (by decide) (by decide)), (by unfold quF; split <;> omega), (Eq.trans e85 (by unfold quU; split <;> first | rfl | omega | exact upE_cg (by omega) (by omega) | exact upE_id (by omega)))⟩ (by decide) (by decide) dX12_question_41
