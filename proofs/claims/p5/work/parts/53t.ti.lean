/-! TI: answers told exactly -/
def vwF (d now : Int) : Int := if 0 ≤ d ∧ d ≤ now then 1 else 0
def ceF (x y h : Int) : Int := if 0 ≤ x ∧ x ≤ 11 ∧ 0 ≤ y ∧ y ≤ 7 ∧ 0 ≤ h ∧ h ≤ 999 then 1 else 0
def foF (x y : Int) : Int := if 0 ≤ x ∧ x ≤ 11 ∧ 0 ≤ y ∧ y ≤ 7 then 1 else 0
def owF (x y o : Int) : Int := if 0 ≤ x ∧ x ≤ 11 ∧ 0 ≤ y ∧ y ≤ 7 ∧ -1 ≤ o ∧ o ≤ 3 then 1 else 0
def riF (n : Int) : Int := if 0 ≤ n ∧ n ≤ 999 then 1 else 0
abbrev faG (x y dn many fr to co n : Int) : Prop := 0 ≤ x ∧ x ≤ 11 ∧ 0 ≤ y ∧ y ≤ 7 ∧ 1 ≤ many ∧ many ≤ 12 ∧ -300 ≤ fr ∧ fr ≤ to ∧ to ≤ 300 ∧ 1 ≤ co ∧ co ≤ 99 ∧ n ≤ 3 ∧ ((dn = 0 ∧ y ≤ 6 ∧ x + many ≤ 12) ∨ (¬ dn = 0 ∧ x ≤ 10 ∧ y + many ≤ 8))
def faF (x y dn many fr to co n : Int) : Int := if faG x y dn many fr to co n then n else -1
def fnF (x y dn many fr to co n : Int) : Int := if faG x y dn many fr to co n then n + 1 else n
def wr_k2_X11_cellAt : List Nat := []
set_option maxRecDepth 100000 in
set_option maxHeartbeats 4000000 in
theorem k2_X11_cellAt (l : Launch) (D : va_G) (cy : Nat → ClassId) (w : Nat → Nat) (z0 : Nat)  {h : Hp} {a0 : Int} {a1 : Int}  (O : Okh h) (fa0 : (-2147483648) ≤ a0 ∧ a0 ≤ 2147483647) (fa1 : (-2147483648) ≤ a1 ∧ a1 ≤ 2147483647) : MI l D cy w z0 yX11_cellAt cX11_cellAt 2 (some .int) 0 0 0 0 [.inl a0, .inl a1] h (fun v h1 => Okh h1 ∧ Fx wr_k2_X11_cellAt h h1 ∧ ((-1) ≤ v ∧ v ≤ 95) ∧ ((v = -1 ∧ (a0 < 0 ∨ 11 < a0 ∨ a1 < 0 ∨ 7 < a1)) ∨ (0 ≤ a0 ∧ a0 ≤ 11 ∧ 0 ≤ a1 ∧ a1 ≤ 7 ∧ v = 12 * a1 + a0))) := by
  refine hm_go (by decide +kernel) (Nat.le_of_ble_eq_true rfl) (fun p e s m below meth c C hr hn => ?_)
  refine g_iload_n C rfl 0 rfl dX11_cellAt_0 ?_
  refine g_if_lt C fa0 20 (by decide) dX11_cellAt_1 (fun q1 => ?_) (fun q2 => ?_)
  · have f3 : (-2147483648 : Int) ≤ a0 ∧ a0 ≤ (-1 : Int) := r_lt fa0 (il 0) q1 (by decide) (by decide)
    refine g_iconst C dX11_cellAt_20 ?_
    exact g_iret C hr rfl (iw (il (-1)) (by decide) (by decide)) ⟨O, Fx.rf, (iw (il (-1)) (by decide) (by decide)), (by omega)⟩ (by decide) (by decide) dX11_cellAt_21
  · have f4 : (0 : Int) ≤ a0 ∧ a0 ≤ (2147483647 : Int) := r_ge fa0 (il 0) q2 (by decide) (by decide)
    refine g_iload_n C rfl 0 rfl dX11_cellAt_4 ?_
    refine g_bipush C (by decide) dX11_cellAt_5 ?_
    refine g_icmp_ge C (iw f4 (by decide) (by decide)) (iw (il 12) (by decide) (by decide)) 20 (by decide) dX11_cellAt_7 (fun q5 => ?_) (fun q6 => ?_)
    · have f7 : (12 : Int) ≤ a0 ∧ a0 ≤ (2147483647 : Int) := r_ge f4 (il 12) q5 (by decide) (by decide)
      refine g_iconst C dX11_cellAt_20 ?_
      exact g_iret C hr rfl (iw (il (-1)) (by decide) (by decide)) ⟨O, Fx.rf, (iw (il (-1)) (by decide) (by decide)), (by omega)⟩ (by decide) (by decide) dX11_cellAt_21
    · have f8 : (0 : Int) ≤ a0 ∧ a0 ≤ (11 : Int) := r_lt f4 (il 12) q6 (by decide) (by decide)
      refine g_iload_n C rfl 1 rfl dX11_cellAt_10 ?_
      refine g_if_lt C fa1 20 (by decide) dX11_cellAt_11 (fun q9 => ?_) (fun q10 => ?_)
      · have f11 : (-2147483648 : Int) ≤ a1 ∧ a1 ≤ (-1 : Int) := r_lt fa1 (il 0) q9 (by decide) (by decide)
        refine g_iconst C dX11_cellAt_20 ?_
        exact g_iret C hr rfl (iw (il (-1)) (by decide) (by decide)) ⟨O, Fx.rf, (iw (il (-1)) (by decide) (by decide)), (by omega)⟩ (by decide) (by decide) dX11_cellAt_21
      · have f12 : (0 : Int) ≤ a1 ∧ a1 ≤ (2147483647 : Int) := r_ge fa1 (il 0) q10 (by decide) (by decide)
        refine g_iload_n C rfl 1 rfl dX11_cellAt_14 ?_
        refine g_bipush C (by decide) dX11_cellAt_15 ?_
        refine g_icmp_lt C (iw f12 (by decide) (by decide)) (iw (il 8) (by decide) (by decide)) 22 (by decide) dX11_cellAt_17 (fun q13 => ?_) (fun q14 => ?_)
        · have f15 : (0 : Int) ≤ a1 ∧ a1 ≤ (7 : Int) := r_lt f12 (il 8) q13 (by decide) (by decide)
          refine g_bipush C (by decide) dX11_cellAt_22 ?_
          refine g_iload_n C rfl 1 rfl dX11_cellAt_24 ?_
          have f16 : (0 : Int) ≤ (12 * a1) ∧ (12 * a1) ≤ (84 : Int) := ia_mul (by decide) f15 (by decide) (by decide)
          refine g_imul C dX11_cellAt_25 ?_
          refine g_iload_n C rfl 0 rfl dX11_cellAt_26 ?_
          have f17 : (0 : Int) ≤ ((12 * a1) + a0) ∧ ((12 * a1) + a0) ≤ (95 : Int) := ia_add f16 f8 (by decide) (by decide)
          refine g_iadd C dX11_cellAt_27 ?_
          exact g_iret C hr rfl (iw f17 (by decide) (by decide)) ⟨O, Fx.rf, (iw f17 (by decide) (by decide)), (by omega)⟩ (by decide) (by decide) dX11_cellAt_28
        · have f18 : (8 : Int) ≤ a1 ∧ a1 ≤ (2147483647 : Int) := r_ge f12 (il 8) q14 (by decide) (by decide)
          refine g_iconst C dX11_cellAt_20 ?_
          exact g_iret C hr rfl (iw (il (-1)) (by decide) (by decide)) ⟨O, Fx.rf, (iw (il (-1)) (by decide) (by decide)), (by omega)⟩ (by decide) (by decide) dX11_cellAt_21
def wr_k3_X11_fold : List Nat := [2215, 2820200]
set_option maxRecDepth 100000 in
set_option maxHeartbeats 4000000 in
theorem k3_X11_fold (l : Launch) (D : va_G) (cy : Nat → ClassId) (w : Nat → Nat) (z0 : Nat)  {h : Hp} {a0 : Nat} {a1 : Int} {a2 : Int} {a3 : Int}  (O : Okh h) (ta0 : Tg h a0 = 11) (fa1 : (-2147483648) ≤ a1 ∧ a1 ≤ 2147483647) (fa2 : (-2147483648) ≤ a2 ∧ a2 ≤ 2147483647) (fa3 : 0 ≤ a3 ∧ a3 ≤ 1) (P_XInv : XInv h a0) : MI l D cy w z0 yX11_fold cX11_fold 5 (some .boolean) 1 21 0 0 [.inr (.inr a0), .inl a1, .inl a2, .inl a3] h (fun v h1 => Okh h1 ∧ Fx wr_k3_X11_fold h h1 ∧ (0 ≤ v ∧ v ≤ 1) ∧ (XInv h1 a0) ∧ (v = foF a1 a2)) := by
  obtain ⟨v1, e2⟩ : ∃ z, Rv h a0 3 = z := ⟨_, rfl⟩
  have t3 := ok_R O ta0 rE_11_3 e2
  have l4 := ok_L O ta0 rE_11_3 e2
  obtain ⟨v5, e6⟩ : ∃ z, Iv h a0 4 = z := ⟨_, rfl⟩
  have f7 := ok_I O ta0 rI_11_4 e6
  obtain ⟨v8, e9⟩ : ∃ z, Rv h a0 8 = z := ⟨_, rfl⟩
  have t10 := ok_R O ta0 rE_11_8 e9
  have l11 := ok_L O ta0 rE_11_8 e9
  obtain ⟨v12, e13⟩ : ∃ z, Iv h a0 9 = z := ⟨_, rfl⟩
  have f14 := ok_I O ta0 rI_11_9 e13
  obtain ⟨v15, e16⟩ : ∃ z, Rv h a0 11 = z := ⟨_, rfl⟩
  have t17 := ok_R O ta0 rE_11_11 e16
  have l18 := ok_L O ta0 rE_11_11 e16
  obtain ⟨v19, e20⟩ : ∃ z, Iv h a0 12 = z := ⟨_, rfl⟩
  have f21 := ok_I O ta0 rI_11_12 e20
  obtain ⟨v22, e23⟩ : ∃ z, Iv h a0 15 = z := ⟨_, rfl⟩
  have f24 := ok_I O ta0 rI_11_15 e23
  obtain ⟨v25, e26⟩ : ∃ z, Rv h a0 14 = z := ⟨_, rfl⟩
  have t27 := ok_R O ta0 rE_11_14 e26
  have l28 := ok_L O ta0 rE_11_14 e26
  obtain ⟨v29, e30⟩ : ∃ z, Rv h a0 13 = z := ⟨_, rfl⟩
  have t31 := ok_R O ta0 rE_11_13 e30
  obtain ⟨v32, e33⟩ : ∃ z, Rv h a0 6 = z := ⟨_, rfl⟩
  have t34 := ok_R O ta0 rE_11_6 e33
  obtain ⟨v35, e36⟩ : ∃ z, Rv h a0 7 = z := ⟨_, rfl⟩
  have t37 := ok_R O ta0 rE_11_7 e36
  have p49 := P_XInv
  unfold XInv at p49
  rw [e2, e6, e9, e13, e16, e20, e23, e26, e30, e33, e36] at p49
  obtain ⟨p38, p39, p40, p41, p42, p43, p44, p45, p46, p47, p48⟩ := p49
  obtain ⟨v50, e51⟩ : ∃ z, Iv h v29 3 = z := ⟨_, rfl⟩
  have f52 := ok_I O t31 rI_7_3 e51
  obtain ⟨v53, e54⟩ : ∃ z, Iv h v29 4 = z := ⟨_, rfl⟩
  have f55 := ok_I O t31 rI_7_4 e54
  rw [e51] at p44
  rw [e54] at p45
  refine hm_go (by decide +kernel) (Nat.le_of_ble_eq_true rfl) (fun p e s m below meth c C hr hn => ?_)
  refine g_iload_n C rfl 1 rfl dX11_fold_0 ?_
  refine g_iload_n C rfl 2 rfl dX11_fold_1 ?_
  refine g_callI (st := []) (gc_S C lk_LandSurvey_85 (k2_X11_cellAt l D cy w z0 O fa1 fa2) rfl ⟨by decide, by decide⟩ (Nat.le_of_ble_eq_true rfl) dX11_fold_2 ⟨(by decide), (by decide)⟩) (fun r56 h57 f59 K58 => ?_)
  obtain ⟨O60, F61, f62, p63⟩ := K58
  refine g_istore C [(4, .inl r56), (0, .inr (.inr a0)), (1, .inl a1), (2, .inl a2), (3, .inl a3)] (by decide) rfl dX11_fold_5 ?_
  refine g_iload C 0 rfl dX11_fold_7 ?_
  refine g_iconst C dX11_fold_9 ?_
  refine g_icmp_ne C (iw f62 (by decide) (by decide)) (iw (il (-1)) (by decide) (by decide)) 15 (by decide) dX11_fold_10 (fun q64 => ?_) (fun q65 => ?_)
  · have f66 : (0 : Int) ≤ r56 ∧ r56 ≤ (95 : Int) := r_nl f62 q64
    refine g_aload_n C rfl 1 rfl dX11_fold_15 ?_
    have e67 : Tg h57 a0 = 11 := (fxT F61 ta0)
    obtain ⟨v68, e69⟩ : ∃ z, Rv h57 a0 2 = z := ⟨_, rfl⟩
    have t70 := ok_R O60 e67 rE_11_2 e69
    refine gf_R C fk_LandSurvey_16 rfl e67 e69 dX11_fold_16 ?_
    obtain ⟨v71, e72⟩ : ∃ z, Rv h57 v68 2 = z := ⟨_, rfl⟩
    have t73 := ok_R O60 t70 rE_3_2 e72
    have l74 := ok_L O60 t70 rE_3_2 e72
    refine gf_R C fk_LandSurvey_96 rfl t70 e72 dX11_fold_19 ?_
    refine g_iload C 0 rfl dX11_fold_22 ?_
    refine g_iload_n C rfl 4 rfl dX11_fold_24 ?_
    refine g_zast C t73 rfl l74 (ix f66 (by decide) (by decide)) fa3 dX11_fold_25 (fun h76 hh75 => ?_)
    have O77 := O60.pIa t73 ar_14101 hh75 rI_14101_0 fa3 nofun
    refine g_aload_n C rfl 1 rfl dX11_fold_26 ?_
    refine g_iconst C dX11_fold_27 ?_
    have e78 : Tg h76 a0 = 11 := ((pIT hh75).trans e67)
    refine gp_I C fk_LandSurvey_81 pk_LandSurvey_15 rfl e78 (iw (il 0) (by decide) (by decide)) (nar_z2 (iw (il 0) (by decide) (by decide))) dX11_fold_28 (fun h80 hh79 => ?_)
    have O81 := O77.pI e78 hh79 rI_11_15 (iw (il 0) (by decide) (by decide)) nofun
    refine g_iconst C dX11_fold_31 ?_
    have e82 : Rv h80 a0 3 = v1 := ((pIR hh79).trans ((pIR hh75).trans ((fxR F61 ta0 rfl).trans e2)))
    have e83 : Iv h80 a0 4 = v5 := ((pI_j hh79 (by decide)).trans ((pI_n hh75 (ne_tag e67 t73 (by decide))).trans ((fxI F61 ta0 rfl).trans e6)))
    have e84 : Rv h80 a0 8 = v8 := ((pIR hh79).trans ((pIR hh75).trans ((fxR F61 ta0 rfl).trans e9)))
    have e85 : Iv h80 a0 9 = v12 := ((pI_j hh79 (by decide)).trans ((pI_n hh75 (ne_tag e67 t73 (by decide))).trans ((fxI F61 ta0 rfl).trans e13)))
    have e86 : Rv h80 a0 11 = v15 := ((pIR hh79).trans ((pIR hh75).trans ((fxR F61 ta0 rfl).trans e16)))
    have e87 : Iv h80 a0 12 = v19 := ((pI_j hh79 (by decide)).trans ((pI_n hh75 (ne_tag e67 t73 (by decide))).trans ((fxI F61 ta0 rfl).trans e20)))
    have e88 : Rv h80 a0 14 = v25 := ((pIR hh79).trans ((pIR hh75).trans ((fxR F61 ta0 rfl).trans e26)))
    have e89 : Rv h80 a0 13 = v29 := ((pIR hh79).trans ((pIR hh75).trans ((fxR F61 ta0 rfl).trans e30)))
    have e90 : Rv h80 a0 6 = v32 := ((pIR hh79).trans ((pIR hh75).trans ((fxR F61 ta0 rfl).trans e33)))
    have e91 : Rv h80 a0 7 = v35 := ((pIR hh79).trans ((pIR hh75).trans ((fxR F61 ta0 rfl).trans e36)))
    have e92 : Rv h80 v29 1 = v1 := ((pIR hh79).trans ((pIR hh75).trans ((fxR F61 t31 rfl).trans p42)))
    have e93 : Rv h80 v29 2 = v8 := ((pIR hh79).trans ((pIR hh75).trans ((fxR F61 t31 rfl).trans p43)))
    have e94 : Tg h57 v29 = 7 := (fxT F61 t31)
    have e95 : Tg h76 v29 = 7 := ((pIT hh75).trans e94)
    have e96 : Iv h80 v29 3 = v50 := ((pI_n hh79 (ne_tag e95 e78 (by decide))).trans ((pI_n hh75 (ne_tag e94 t73 (by decide))).trans ((fxI F61 t31 rfl).trans e51)))
    have e97 : Iv h80 v29 4 = v53 := ((pI_n hh79 (ne_tag e95 e78 (by decide))).trans ((pI_n hh75 (ne_tag e94 t73 (by decide))).trans ((fxI F61 t31 rfl).trans e54)))
    have e98 : Tg h57 v1 = 38104 := (fxT F61 t3)
    have e99 : Tg h76 v1 = 38104 := ((pIT hh75).trans e98)
    have p100 := (SOK_fx O77 ((Fx.rf (wr := [2215]) (h := h76)).pI e78 hh79 rfl) e99 rfl rfl rfl (SOK_fx O60 ((Fx.rf (wr := [2820200]) (h := h57)).pIa t73 ar_14101 hh75 rfl) e98 rfl rfl rfl (SOK_fx O F61 t3 rfl rfl rfl p38)))
    have e101 : Tg h57 v8 = 39105 := (fxT F61 t10)
    have e102 : Tg h76 v8 = 39105 := ((pIT hh75).trans e101)
    have p103 := (BOK_fx O77 ((Fx.rf (wr := [2215]) (h := h76)).pI e78 hh79 rfl) e102 rfl rfl rfl rfl (BOK_fx O60 ((Fx.rf (wr := [2820200]) (h := h57)).pIa t73 ar_14101 hh75 rfl) e101 rfl rfl rfl rfl (BOK_fx O F61 t10 rfl rfl rfl rfl p39)))
    have e104 : Tg h57 v15 = 48106 := (fxT F61 t17)
    have e105 : Tg h76 v15 = 48106 := ((pIT hh75).trans e104)
    have p106 := (NN_fx ((Fx.rf (wr := [2215]) (h := h76)).pI e78 hh79 rfl) e105 ar_48106 rfl (NN_fx ((Fx.rf (wr := [2820200]) (h := h57)).pIa t73 ar_14101 hh75 rfl) e104 ar_48106 rfl (NN_fx F61 t17 ar_48106 rfl p40)))
    have e107 : Tg h57 v32 = 5 := (fxT F61 t34)
    have e108 : Tg h76 v32 = 5 := ((pIT hh75).trans e107)
    have p109 := (BkOk_fx O77 ((Fx.rf (wr := [2215]) (h := h76)).pI e78 hh79 rfl) e108 rfl rfl (BkOk_fx O60 ((Fx.rf (wr := [2820200]) (h := h57)).pIa t73 ar_14101 hh75 rfl) e107 rfl rfl (BkOk_fx O F61 t34 rfl rfl p46)))
    have e110 : Tg h57 v35 = 6 := (fxT F61 t37)
    have e111 : Tg h76 v35 = 6 := ((pIT hh75).trans e110)
    have p112 := (RulesOk_fx O77 ((Fx.rf (wr := [2215]) (h := h76)).pI e78 hh79 rfl) e111 rfl (RulesOk_fx O60 ((Fx.rf (wr := [2820200]) (h := h57)).pIa t73 ar_14101 hh75 rfl) e110 rfl (RulesOk_fx O F61 t37 rfl p47)))
    have p113 := (ND_fx ((Fx.rf (wr := [2215]) (h := h76)).pI e78 hh79 rfl) rfl rfl (ND_fx ((Fx.rf (wr := [2820200]) (h := h57)).pIa t73 ar_14101 hh75 rfl) rfl rfl (ND_fx F61 rfl rfl p48)))
    exact g_iret C hr (nar_z2 (iw (il 1) (by decide) (by decide))).1 (iw (il 1) (by decide) (by decide)) ⟨O81, ((((Fx.rf (wr := wr_k3_X11_fold)).call F61 rfl).pIa t73 ar_14101 hh75 rfl).pI e78 hh79 rfl), (iw (il 1) (by decide) (by decide)), (by unfold XInv; rw [e82, e83, e84, e85, e86, e87, (pI_e hh79), e88, e89, e90, e91, e92, e93, e96, e97]; exact ⟨p100, p103, p106, (fun z => absurd z (by decide)), rfl, rfl, (by omega), (by omega), p109, p112, p113⟩), (by unfold foF; split <;> omega)⟩ (by decide) (by decide) dX11_fold_32
  · have f114 : (-1 : Int) ≤ r56 ∧ r56 ≤ (-1 : Int) := ii f62 (r_eq (il (-1)) q65) (by decide) (by decide)
    refine g_iconst C dX11_fold_13 ?_
    have p115 := (XInv_fx O F61 ta0 rfl P_XInv)
    exact g_iret C hr (nar_z2 (iw (il 0) (by decide) (by decide))).1 (iw (il 0) (by decide) (by decide)) ⟨O60, ((Fx.rf (wr := wr_k3_X11_fold)).call F61 rfl), (iw (il 0) (by decide) (by decide)), p115, (by unfold foF; split <;> omega)⟩ (by decide) (by decide) dX11_fold_14
def wr_k3_X12_fold : List Nat := [2400, 2435, 27620200]
set_option maxRecDepth 100000 in
set_option maxHeartbeats 4000000 in
theorem k3_X12_fold (l : Launch) (D : va_G) (cy : Nat → ClassId) (w : Nat → Nat) (z0 : Nat)  {h : Hp} {a0 : Nat} {a1 : Int} {a2 : Int} {a3 : Int}  (O : Okh h) (ta0 : Tg h a0 = 12) (fa1 : (-2147483648) ≤ a1 ∧ a1 ≤ 2147483647) (fa2 : (-2147483648) ≤ a2 ∧ a2 ≤ 2147483647) (fa3 : 0 ≤ a3 ∧ a3 ≤ 1) : MI l D cy w z0 yX12_fold cX12_fold 4 (some .boolean) 2 43 0 0 [.inr (.inr a0), .inl a1, .inl a2, .inl a3] h (fun v h1 => Okh h1 ∧ Fx wr_k3_X12_fold h h1 ∧ (0 ≤ v ∧ v ≤ 1) ∧ (v = foF a1 a2)) := by
  refine hm_go (by decide +kernel) (Nat.le_of_ble_eq_true rfl) (fun p e s m below meth c C hr hn => ?_)
  refine g_aload_n C rfl 0 rfl dX12_fold_0 ?_
  refine g_iconst C dX12_fold_1 ?_
  refine gp_I C fk_LandSurveyModel_1 pk_LandSurveyModel_0 rfl ta0 (iw (il 0) (by decide) (by decide)) (nf_i _) dX12_fold_2 (fun h2 hh1 => ?_)
  have O3 := O.pI ta0 hh1 rI_12_0 (iw (il 0) (by decide) (by decide)) nofun
  refine g_iload_n C rfl 1 rfl dX12_fold_5 ?_
  refine g_iload_n C rfl 2 rfl dX12_fold_6 ?_
  refine g_callI (st := []) (gc_S C lk_LandSurveyModel_419 (k_X12_isCell l D cy w z0 O3 fa1 fa2) rfl ⟨by decide, by decide⟩ (Nat.le_of_ble_eq_true rfl) dX12_fold_7 ⟨(by decide), (by decide)⟩) (fun r4 h5 f7 K6 => ?_)
  obtain ⟨O8, F9, f10, p11⟩ := K6
  refine g_if_ne C (iw f10 (by decide) (by decide)) 15 (by decide) dX12_fold_10 (fun q12 => ?_) (fun q13 => ?_)
  · have f14 : (1 : Int) ≤ r4 ∧ r4 ≤ (1 : Int) := r_nl f10 q12
    have f15 : (0 : Int) ≤ a1 ∧ a1 ≤ (11 : Int) := by omega
    have f16 : (0 : Int) ≤ a2 ∧ a2 ≤ (7 : Int) := by omega
    refine g_aload_n C rfl 0 rfl dX12_fold_15 ?_
    have e17 : Tg h5 a0 = 12 := (fxT F9 ((pIT hh1).trans ta0))
    obtain ⟨v18, e19⟩ : ∃ z, Rv h5 a0 38 = z := ⟨_, rfl⟩
    have t20 := ok_R O8 e17 rE_12_38 e19
    have l21 := ok_L O8 e17 rE_12_38 e19
    refine gf_R C fk_LandSurveyModel_167 rfl e17 e19 dX12_fold_16 ?_
    refine g_bipush C (by decide) dX12_fold_19 ?_
    refine g_iload_n C rfl 2 rfl dX12_fold_21 ?_
    have f22 : (0 : Int) ≤ (12 * a2) ∧ (12 * a2) ≤ (84 : Int) := ia_mul (by decide) f16 (by decide) (by decide)
    refine g_imul C dX12_fold_22 ?_
    refine g_iload_n C rfl 1 rfl dX12_fold_23 ?_
    have f23 : (0 : Int) ≤ ((12 * a2) + a1) ∧ ((12 * a2) + a1) ≤ (95 : Int) := ia_add f22 f15 (by decide) (by decide)
    refine g_iadd C dX12_fold_24 ?_
    refine g_iload_n C rfl 3 rfl dX12_fold_25 ?_
    refine g_zast C t20 rfl l21 (ix f23 (by decide) (by decide)) fa3 dX12_fold_26 (fun h25 hh24 => ?_)
    have O26 := O8.pIa t20 ar_138101 hh24 rI_138101_0 fa3 nofun
    refine g_aload_n C rfl 0 rfl dX12_fold_27 ?_
    refine g_iconst C dX12_fold_28 ?_
    have e27 : Tg h25 a0 = 12 := ((pIT hh24).trans e17)
    refine gp_I C fk_LandSurveyModel_290 pk_LandSurveyModel_35 rfl e27 (iw (il 1) (by decide) (by decide)) (nar_z2 (iw (il 1) (by decide) (by decide))) dX12_fold_29 (fun h29 hh28 => ?_)
    have O30 := O26.pI e27 hh28 rI_12_35 (iw (il 1) (by decide) (by decide)) nofun
    refine g_iconst C dX12_fold_32 ?_
    exact g_iret C hr (nar_z2 (iw (il 1) (by decide) (by decide))).1 (iw (il 1) (by decide) (by decide)) ⟨O30, (((((Fx.rf (wr := wr_k3_X12_fold)).pI ta0 hh1 rfl).call F9 rfl).pIa t20 ar_138101 hh24 rfl).pI e27 hh28 rfl), (iw (il 1) (by decide) (by decide)), (by unfold foF; split <;> omega)⟩ (by decide) (by decide) dX12_fold_33
  · have f31 : (0 : Int) ≤ r4 ∧ r4 ≤ (0 : Int) := ii f10 (r_eq (il 0) q13) (by decide) (by decide)
    refine g_iconst C dX12_fold_13 ?_
    exact g_iret C hr (nar_z2 (iw (il 0) (by decide) (by decide))).1 (iw (il 0) (by decide) (by decide)) ⟨O8, (((Fx.rf (wr := wr_k3_X12_fold)).pI ta0 hh1 rfl).call F9 rfl), (iw (il 0) (by decide) (by decide)), (by unfold foF; split <;> omega)⟩ (by decide) (by decide) dX12_fold_14
