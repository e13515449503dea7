/-! TI: answers told exactly -/
def vwF (d now : Int) : Int := if 0 ≤ d ∧ d ≤ now then 1 else 0
def ceF (x y h : Int) : Int := if 0 ≤ x ∧ x ≤ 11 ∧ 0 ≤ y ∧ y ≤ 7 ∧ 0 ≤ h ∧ h ≤ 999 then 1 else 0
def foF (x y : Int) : Int := if 0 ≤ x ∧ x ≤ 11 ∧ 0 ≤ y ∧ y ≤ 7 then 1 else 0
def owF (x y o : Int) : Int := if 0 ≤ x ∧ x ≤ 11 ∧ 0 ≤ y ∧ y ≤ 7 ∧ -1 ≤ o ∧ o ≤ 3 then 1 else 0
def riF (n : Int) : Int := if 0 ≤ n ∧ n ≤ 999 then 1 else 0
abbrev faG (x y dn many fr to co n : Int) : Prop := 0 ≤ x ∧ x ≤ 11 ∧ 0 ≤ y ∧ y ≤ 7 ∧ 1 ≤ many ∧ many ≤ 12 ∧ -300 ≤ fr ∧ fr ≤ to ∧ to ≤ 300 ∧ 1 ≤ co ∧ co ≤ 99 ∧ n ≤ 3 ∧ ((dn = 0 ∧ y ≤ 6 ∧ x + many ≤ 12) ∨ (¬ dn = 0 ∧ x ≤ 10 ∧ y + many ≤ 8))
def faF (x y dn many fr to co n : Int) : Int := if faG x y dn many fr to co n then n else -1
def fnF (x y dn many fr to co n : Int) : Int := if faG x y dn many fr to co n then n + 1 else n
def wr_k2_X11_cellAt : List Nat := []
set_option maxRecDepth 100000 in
set_option maxHeartbeats 4000000 in
theorem k2_X11_cellAt (l : Launch) (D : va_G) (cy : Nat → ClassId) (w : Nat → Nat) (z0 : Nat) {h : Hp} {a0 : Int} {a1 : Int}  (O : Okh h) (fa0 : (-2147483648) ≤ a0 ∧ a0 ≤ 2147483647) (fa1 : (-2147483648) ≤ a1 ∧ a1 ≤ 2147483647) : MI l D cy w z0 yX11_cellAt cX11_cellAt 2 (some .int) 0 0 0 0 [.inl a0, .inl a1] h (fun v h1 => Okh h1 ∧ Fx wr_k2_X11_cellAt h h1 ∧ ((-1) ≤ v ∧ v ≤ 95) ∧ ((v = -1 ∧ (a0 < 0 ∨ 11 < a0 ∨ a1 < 0 ∨ 7 < a1)) ∨ (0 ≤ a0 ∧ a0 ≤ 11 ∧ 0 ≤ a1 ∧ a1 ≤ 7 ∧ v = 12 * a1 + a0))) := by
  refine hm_go (by decide +kernel) (Nat.le_of_ble_eq_true rfl) (fun p e s m below meth c C hr hn => ?_)
  refine g_iload_n C rfl 0 rfl dX11_cellAt_0 ?_
  refine g_if_lt C fa0 20 (by decide) dX11_cellAt_1 (fun q1 => ?_) (fun q2 => ?_)
  · have f3 : (-2147483648 : Int) ≤ a0 ∧ a0 ≤ (-1 : Int) := r_lt fa0 (il 0) q1 (by decide) (by decide)
    refine g_iconst C dX11_cellAt_20 ?_
    exact g_iret C hr rfl (iw (il (-1)) (by decide) (by decide)) ⟨O, Fx.rf, (iw (il (-1)) (by decide) (by decide)), (by omega)⟩ (by decide) (by decide) dX11_cellAt_21
  · have f4 : (0 : Int) ≤ a0 ∧ a0 ≤ (2147483647 : Int) := r_ge fa0 (il 0) q2 (by decide) (by decide)
    refine g_iload_n C rfl 0 rfl dX11_cellAt_4 ?_
    refine g_bipush C (by decide) dX11_cellAt_5 ?_
    refine g_icmp_ge C (iw f4 (by decide) (by decide)) (iw (il 12) (by decide) (by decide)) 20 (by decide) dX11_cellAt_7 (fun q5 => ?_) (fun q6 => ?_)
    · have f7 : (12 : Int) ≤ a0 ∧ a0 ≤ (2147483647 : Int) := r_ge f4 (il 12) q5 (by decide) (by decide)
      refine g_iconst C dX11_cellAt_20 ?_
      exact g_iret C hr rfl (iw (il (-1)) (by decide) (by decide)) ⟨O, Fx.rf, (iw (il (-1)) (by decide) (by decide)), (by omega)⟩ (by decide) (by decide) dX11_cellAt_21
    · have f8 : (0 : Int) ≤ a0 ∧ a0 ≤ (11 : Int) := r_lt f4 (il 12) q6 (by decide) (by decide)
      refine g_iload_n C rfl 1 rfl dX11_cellAt_10 ?_
      refine g_if_lt C fa1 20 (by decide) dX11_cellAt_11 (fun q9 => ?_) (fun q10 => ?_)
      · have f11 : (-2147483648 : Int) ≤ a1 ∧ a1 ≤ (-1 : Int) := r_lt fa1 (il 0) q9 (by decide) (by decide)
        refine g_iconst C dX11_cellAt_20 ?_
        exact g_iret C hr rfl (iw (il (-1)) (by decide) (by decide)) ⟨O, Fx.rf, (iw (il (-1)) (by decide) (by decide)), (by omega)⟩ (by decide) (by decide) dX11_cellAt_21
      · have f12 : (0 : Int) ≤ a1 ∧ a1 ≤ (2147483647 : Int) := r_ge fa1 (il 0) q10 (by decide) (by decide)
        refine g_iload_n C rfl 1 rfl dX11_cellAt_14 ?_
        refine g_bipush C (by decide) dX11_cellAt_15 ?_
        refine g_icmp_lt C (iw f12 (by decide) (by decide)) (iw (il 8) (by decide) (by decide)) 22 (by decide) dX11_cellAt_17 (fun q13 => ?_) (fun q14 => ?_)
        · have f15 : (0 : Int) ≤ a1 ∧ a1 ≤ (7 : Int) := r_lt f12 (il 8) q13 (by decide) (by decide)
          refine g_bipush C (by decide) dX11_cellAt_22 ?_
          refine g_iload_n C rfl 1 rfl dX11_cellAt_24 ?_
          have f16 : (0 : Int) ≤ (12 * a1) ∧ (12 * a1) ≤ (84 : Int) := ia_mul (by decide) f15 (by decide) (by decide)
          refine g_imul C dX11_cellAt_25 ?_
          refine g_iload_n C rfl 0 rfl dX11_cellAt_26 ?_
          have f17 : (0 : Int) ≤ ((12 * a1) + a0) ∧ ((12 * a1) + a0) ≤ (95 : Int) := ia_add f16 f8 (by decide) (by decide)
          refine g_iadd C dX11_cellAt_27 ?_
          exact g_iret C hr rfl (iw f17 (by decide) (by decide)) ⟨O, Fx.rf, (iw f17 (by decide) (by decide)), (by omega)⟩ (by decide) (by decide) dX11_cellAt_28
        · have f18 : (8 : Int) ≤ a1 ∧ a1 ≤ (2147483647 : Int) := r_ge f12 (il 8) q14 (by decide) (by decide)
          refine g_iconst C dX11_cellAt_20 ?_
          exact g_iret C hr rfl (iw (il (-1)) (by decide) (by decide)) ⟨O, Fx.rf, (iw (il (-1)) (by decide) (by decide)), (by omega)⟩ (by decide) (by decide) dX11_cellAt_21
def wr_k3_X11_cell : List Nat := [2215, 2420000, 2620200]
set_option maxRecDepth 100000 in
set_option maxHeartbeats 4000000 in
theorem k3_X11_cell (l : Launch) (D : va_G) (cy : Nat → ClassId) (w : Nat → Nat) (z0 : Nat) {h : Hp} {a0 : Nat} {a1 : Int} {a2 : Int} {a3 : Int} {a4 : Int}  (O : Okh h) (ta0 : Tg h a0 = 11) (fa1 : (-2147483648) ≤ a1 ∧ a1 ≤ 2147483647) (fa2 : (-2147483648) ≤ a2 ∧ a2 ≤ 2147483647) (fa3 : (-2147483648) ≤ a3 ∧ a3 ≤ 2147483647) (fa4 : 0 ≤ a4 ∧ a4 ≤ 1) (P_XInv : XInv h a0) : MI l D cy w z0 yX11_cell cX11_cell 6 (some .boolean) 1 21 0 0 [.inr (.inr a0), .inl a1, .inl a2, .inl a3, .inl a4] h (fun v h1 => Okh h1 ∧ Fx wr_k3_X11_cell h h1 ∧ (0 ≤ v ∧ v ≤ 1) ∧ (XInv h1 a0) ∧ (v = ceF a1 a2 a3)) := by
  obtain ⟨v1, e2⟩ : ∃ z, Rv h a0 3 = z := ⟨_, rfl⟩
  have t3 := ok_R O ta0 rE_11_3 e2
  have l4 := ok_L O ta0 rE_11_3 e2
  obtain ⟨v5, e6⟩ : ∃ z, Iv h a0 4 = z := ⟨_, rfl⟩
  have f7 := ok_I O ta0 rI_11_4 e6
  obtain ⟨v8, e9⟩ : ∃ z, Rv h a0 8 = z := ⟨_, rfl⟩
  have t10 := ok_R O ta0 rE_11_8 e9
  have l11 := ok_L O ta0 rE_11_8 e9
  obtain ⟨v12, e13⟩ : ∃ z, Iv h a0 9 = z := ⟨_, rfl⟩
  have f14 := ok_I O ta0 rI_11_9 e13
  obtain ⟨v15, e16⟩ : ∃ z, Rv h a0 11 = z := ⟨_, rfl⟩
  have t17 := ok_R O ta0 rE_11_11 e16
  have l18 := ok_L O ta0 rE_11_11 e16
  obtain ⟨v19, e20⟩ : ∃ z, Iv h a0 12 = z := ⟨_, rfl⟩
  have f21 := ok_I O ta0 rI_11_12 e20
  obtain ⟨v22, e23⟩ : ∃ z, Iv h a0 15 = z := ⟨_, rfl⟩
  have f24 := ok_I O ta0 rI_11_15 e23
  obtain ⟨v25, e26⟩ : ∃ z, Rv h a0 14 = z := ⟨_, rfl⟩
  have t27 := ok_R O ta0 rE_11_14 e26
  have l28 := ok_L O ta0 rE_11_14 e26
  obtain ⟨v29, e30⟩ : ∃ z, Rv h a0 13 = z := ⟨_, rfl⟩
  have t31 := ok_R O ta0 rE_11_13 e30
  obtain ⟨v32, e33⟩ : ∃ z, Rv h a0 6 = z := ⟨_, rfl⟩
  have t34 := ok_R O ta0 rE_11_6 e33
  obtain ⟨v35, e36⟩ : ∃ z, Rv h a0 7 = z := ⟨_, rfl⟩
  have t37 := ok_R O ta0 rE_11_7 e36
  have p49 := P_XInv
  unfold XInv at p49
  rw [e2, e6, e9, e13, e16, e20, e23, e26, e30, e33, e36] at p49
  obtain ⟨p38, p39, p40, p41, p42, p43, p44, p45, p46, p47, p48⟩ := p49
  obtain ⟨v50, e51⟩ : ∃ z, Iv h v29 3 = z := ⟨_, rfl⟩
  have f52 := ok_I O t31 rI_7_3 e51
  obtain ⟨v53, e54⟩ : ∃ z, Iv h v29 4 = z := ⟨_, rfl⟩
  have f55 := ok_I O t31 rI_7_4 e54
  rw [e51] at p44
  rw [e54] at p45
  refine hm_go (by decide +kernel) (Nat.le_of_ble_eq_true rfl) (fun p e s m below meth c C hr hn => ?_)
  refine g_iload_n C rfl 1 rfl dX11_cell_0 ?_
  refine g_iload_n C rfl 2 rfl dX11_cell_1 ?_
  refine g_callI (st := []) (gc_S C lk_LandSurvey_85 (k2_X11_cellAt l D cy w z0 O fa1 fa2) rfl ⟨by decide, by decide⟩ (Nat.le_of_ble_eq_true rfl) dX11_cell_2 ⟨(by decide), (by decide)⟩) (fun r56 h57 f59 K58 => ?_)
  obtain ⟨O60, F61, f62, p63⟩ := K58
  refine g_istore C [(5, .inl r56), (0, .inr (.inr a0)), (1, .inl a1), (2, .inl a2), (3, .inl a3), (4, .inl a4)] (by decide) rfl dX11_cell_5 ?_
  refine g_iload C 0 rfl dX11_cell_7 ?_
  refine g_iconst C dX11_cell_9 ?_
  refine g_icmp_eq C (iw f62 (by decide) (by decide)) (iw (il (-1)) (by decide) (by decide)) 24 (by decide) dX11_cell_10 (fun q64 => ?_) (fun q65 => ?_)
  · have f66 : (-1 : Int) ≤ r56 ∧ r56 ≤ (-1 : Int) := ii f62 (r_eq (il (-1)) q64) (by decide) (by decide)
    refine g_iconst C dX11_cell_24 ?_
    have p67 := (XInv_fx O F61 ta0 rfl P_XInv)
    exact g_iret C hr (nar_z2 (iw (il 0) (by decide) (by decide))).1 (iw (il 0) (by decide) (by decide)) ⟨O60, ((Fx.rf (wr := wr_k3_X11_cell)).call F61 rfl), (iw (il 0) (by decide) (by decide)), p67, (by unfold ceF; split <;> omega)⟩ (by decide) (by decide) dX11_cell_25
  · have f68 : (0 : Int) ≤ r56 ∧ r56 ≤ (95 : Int) := r_nl f62 q65
    refine g_iload_n C rfl 4 rfl dX11_cell_13 ?_
    refine g_if_lt C fa3 24 (by decide) dX11_cell_14 (fun q69 => ?_) (fun q70 => ?_)
    · have f71 : (-2147483648 : Int) ≤ a3 ∧ a3 ≤ (-1 : Int) := r_lt fa3 (il 0) q69 (by decide) (by decide)
      refine g_iconst C dX11_cell_24 ?_
      have p72 := (XInv_fx O F61 ta0 rfl P_XInv)
      exact g_iret C hr (nar_z2 (iw (il 0) (by decide) (by decide))).1 (iw (il 0) (by decide) (by decide)) ⟨O60, ((Fx.rf (wr := wr_k3_X11_cell)).call F61 rfl), (iw (il 0) (by decide) (by decide)), p72, (by unfold ceF; split <;> omega)⟩ (by decide) (by decide) dX11_cell_25
    · have f73 : (0 : Int) ≤ a3 ∧ a3 ≤ (2147483647 : Int) := r_ge fa3 (il 0) q70 (by decide) (by decide)
      refine g_iload_n C rfl 4 rfl dX11_cell_17 ?_
      refine g_sipush C (by decide) dX11_cell_18 ?_
      refine g_icmp_le C (iw f73 (by decide) (by decide)) (iw (il 999) (by decide) (by decide)) 26 (by decide) dX11_cell_21 (fun q74 => ?_) (fun q75 => ?_)
      · have f76 : (0 : Int) ≤ a3 ∧ a3 ≤ (999 : Int) := r_le f73 (il 999) q74 (by decide) (by decide)
        refine g_aload_n C rfl 1 rfl dX11_cell_26 ?_
        have e77 : Tg h57 a0 = 11 := (fxT F61 ta0)
        obtain ⟨v78, e79⟩ : ∃ z, Rv h57 a0 2 = z := ⟨_, rfl⟩
        have t80 := ok_R O60 e77 rE_11_2 e79
        refine gf_R C fk_LandSurvey_16 rfl e77 e79 dX11_cell_27 ?_
        obtain ⟨v81, e82⟩ : ∃ z, Rv h57 v78 0 = z := ⟨_, rfl⟩
        have t83 := ok_R O60 t80 rE_3_0 e82
        have l84 := ok_L O60 t80 rE_3_0 e82
        refine gf_R C fk_LandSurvey_89 rfl t80 e82 dX11_cell_30 ?_
        refine g_iload C 0 rfl dX11_cell_33 ?_
        refine g_iload_n C rfl 4 rfl dX11_cell_35 ?_
        refine g_iast C t83 rfl l84 (ix f68 (by decide) (by decide)) (iw f76 (by decide) (by decide)) dX11_cell_36 (fun h86 hh85 => ?_)
        have O87 := O60.pIa t83 ar_12100 hh85 rI_12100_0 f76 nofun
        refine g_aload_n C rfl 1 rfl dX11_cell_37 ?_
        have e88 : Tg h86 a0 = 11 := ((pIT hh85).trans e77)
        have e89 : Rv h86 a0 2 = v78 := ((pIR hh85).trans e79)
        refine gf_R C fk_LandSurvey_16 rfl e88 e89 dX11_cell_38 ?_
        have e90 : Tg h86 v78 = 3 := ((pIT hh85).trans t80)
        obtain ⟨v91, e92⟩ : ∃ z, Rv h86 v78 1 = z := ⟨_, rfl⟩
        have t93 := ok_R O87 e90 rE_3_1 e92
        have l94 := ok_L O87 e90 rE_3_1 e92
        refine gf_R C fk_LandSurvey_92 rfl e90 e92 dX11_cell_41 ?_
        refine g_iload C 0 rfl dX11_cell_44 ?_
        refine g_iload C 5 rfl dX11_cell_46 ?_
        refine g_if_ne C (iw fa4 (by decide) (by decide)) 55 (by decide) dX11_cell_48 (fun q95 => ?_) (fun q96 => ?_)
        · have f97 : (1 : Int) ≤ a4 ∧ a4 ≤ (1 : Int) := r_nl fa4 q95
          refine g_iconst C dX11_cell_55 ?_
          refine g_zast C t93 rfl l94 (ix f68 (by decide) (by decide)) (iw (il 0) (by decide) (by decide)) dX11_cell_56 (fun h99 hh98 => ?_)
          have O100 := O87.pIa t93 ar_13101 hh98 rI_13101_0 (iw (il 0) (by decide) (by decide)) nofun
          refine g_aload_n C rfl 1 rfl dX11_cell_57 ?_
          refine g_iconst C dX11_cell_58 ?_
          have e101 : Tg h99 a0 = 11 := ((pIT hh98).trans e88)
          refine gp_I C fk_LandSurvey_81 pk_LandSurvey_15 rfl e101 (iw (il 0) (by decide) (by decide)) (nar_z2 (iw (il 0) (by decide) (by decide))) dX11_cell_59 (fun h103 hh102 => ?_)
          have O104 := O100.pI e101 hh102 rI_11_15 (iw (il 0) (by decide) (by decide)) nofun
          refine g_iconst C dX11_cell_62 ?_
          have e105 : Rv h103 a0 3 = v1 := ((pIR hh102).trans ((pIR hh98).trans ((pIR hh85).trans ((fxR F61 ta0 rfl).trans e2))))
          have e106 : Iv h103 a0 4 = v5 := ((pI_j hh102 (by decide)).trans ((pI_n hh98 (ne_tag e88 t93 (by decide))).trans ((pI_n hh85 (ne_tag e77 t83 (by decide))).trans ((fxI F61 ta0 rfl).trans e6))))
          have e107 : Rv h103 a0 8 = v8 := ((pIR hh102).trans ((pIR hh98).trans ((pIR hh85).trans ((fxR F61 ta0 rfl).trans e9))))
          have e108 : Iv h103 a0 9 = v12 := ((pI_j hh102 (by decide)).trans ((pI_n hh98 (ne_tag e88 t93 (by decide))).trans ((pI_n hh85 (ne_tag e77 t83 (by decide))).trans ((fxI F61 ta0 rfl).trans e13))))
          have e109 : Rv h103 a0 11 = v15 := ((pIR hh102).trans ((pIR hh98).trans ((pIR hh85).trans ((fxR F61 ta0 rfl).trans e16))))
          have e110 : Iv h103 a0 12 = v19 := ((pI_j hh102 (by decide)).trans ((pI_n hh98 (ne_tag e88 t93 (by decide))).trans ((pI_n hh85 (ne_tag e77 t83 (by decide))).trans ((fxI F61 ta0 rfl).trans e20))))
          have e111 : Rv h103 a0 14 = v25 := ((pIR hh102).trans ((pIR hh98).trans ((pIR hh85).trans ((fxR F61 ta0 rfl).trans e26))))
          have e112 : Rv h103 a0 13 = v29 := ((pIR hh102).trans ((pIR hh98).trans ((pIR hh85).trans ((fxR F61 ta0 rfl).trans e30))))
          have e113 : Rv h103 a0 6 = v32 := ((pIR hh102).trans ((pIR hh98).trans ((pIR hh85).trans ((fxR F61 ta0 rfl).trans e33))))
          have e114 : Rv h103 a0 7 = v35 := ((pIR hh102).trans ((pIR hh98).trans ((pIR hh85).trans ((fxR F61 ta0 rfl).trans e36))))
          have e115 : Rv h103 v29 1 = v1 := ((pIR hh102).trans ((pIR hh98).trans ((pIR hh85).trans ((fxR F61 t31 rfl).trans p42))))
          have e116 : Rv h103 v29 2 = v8 := ((pIR hh102).trans ((pIR hh98).trans ((pIR hh85).trans ((fxR F61 t31 rfl).trans p43))))
          have e117 : Tg h57 v29 = 7 := (fxT F61 t31)
          have e118 : Tg h86 v29 = 7 := ((pIT hh85).trans e117)
          have e119 : Tg h99 v29 = 7 := ((pIT hh98).trans e118)
          have e120 : Iv h103 v29 3 = v50 := ((pI_n hh102 (ne_tag e119 e101 (by decide))).trans ((pI_n hh98 (ne_tag e118 t93 (by decide))).trans ((pI_n hh85 (ne_tag e117 t83 (by decide))).trans ((fxI F61 t31 rfl).trans e51))))
          have e121 : Iv h103 v29 4 = v53 := ((pI_n hh102 (ne_tag e119 e101 (by decide))).trans ((pI_n hh98 (ne_tag e118 t93 (by decide))).trans ((pI_n hh85 (ne_tag e117 t83 (by decide))).trans ((fxI F61 t31 rfl).trans e54))))
          have e122 : Tg h57 v1 = 38104 := (fxT F61 t3)
          have e123 : Tg h86 v1 = 38104 := ((pIT hh85).trans e122)
          have e124 : Tg h99 v1 = 38104 := ((pIT hh98).trans e123)
          have p125 := (SOK_fx O100 ((Fx.rf (wr := [2215]) (h := h99)).pI e101 hh102 rfl) e124 rfl rfl rfl (SOK_fx O87 ((Fx.rf (wr := [2620200]) (h := h86)).pIa t93 ar_13101 hh98 rfl) e123 rfl rfl rfl (SOK_fx O60 ((Fx.rf (wr := [2420000]) (h := h57)).pIa t83 ar_12100 hh85 rfl) e122 rfl rfl rfl (SOK_fx O F61 t3 rfl rfl rfl p38))))
          have e126 : Tg h57 v8 = 39105 := (fxT F61 t10)
          have e127 : Tg h86 v8 = 39105 := ((pIT hh85).trans e126)
          have e128 : Tg h99 v8 = 39105 := ((pIT hh98).trans e127)
          have p129 := (BOK_fx O100 ((Fx.rf (wr := [2215]) (h := h99)).pI e101 hh102 rfl) e128 rfl rfl rfl rfl (BOK_fx O87 ((Fx.rf (wr := [2620200]) (h := h86)).pIa t93 ar_13101 hh98 rfl) e127 rfl rfl rfl rfl (BOK_fx O60 ((Fx.rf (wr := [2420000]) (h := h57)).pIa t83 ar_12100 hh85 rfl) e126 rfl rfl rfl rfl (BOK_fx O F61 t10 rfl rfl rfl rfl p39))))
          have e130 : Tg h57 v15 = 48106 := (fxT F61 t17)
          have e131 : Tg h86 v15 = 48106 := ((pIT hh85).trans e130)
          have e132 : Tg h99 v15 = 48106 := ((pIT hh98).trans e131)
          have p133 := (NN_fx ((Fx.rf (wr := [2215]) (h := h99)).pI e101 hh102 rfl) e132 ar_48106 rfl (NN_fx ((Fx.rf (wr := [2620200]) (h := h86)).pIa t93 ar_13101 hh98 rfl) e131 ar_48106 rfl (NN_fx ((Fx.rf (wr := [2420000]) (h := h57)).pIa t83 ar_12100 hh85 rfl) e130 ar_48106 rfl (NN_fx F61 t17 ar_48106 rfl p40))))
          have e134 : Tg h57 v32 = 5 := (fxT F61 t34)
          have e135 : Tg h86 v32 = 5 := ((pIT hh85).trans e134)
          have e136 : Tg h99 v32 = 5 := ((pIT hh98).trans e135)
          have p137 := (BkOk_fx O100 ((Fx.rf (wr := [2215]) (h := h99)).pI e101 hh102 rfl) e136 rfl rfl (BkOk_fx O87 ((Fx.rf (wr := [2620200]) (h := h86)).pIa t93 ar_13101 hh98 rfl) e135 rfl rfl (BkOk_fx O60 ((Fx.rf (wr := [2420000]) (h := h57)).pIa t83 ar_12100 hh85 rfl) e134 rfl rfl (BkOk_fx O F61 t34 rfl rfl p46))))
          have e138 : Tg h57 v35 = 6 := (fxT F61 t37)
          have e139 : Tg h86 v35 = 6 := ((pIT hh85).trans e138)
          have e140 : Tg h99 v35 = 6 := ((pIT hh98).trans e139)
          have p141 := (RulesOk_fx O100 ((Fx.rf (wr := [2215]) (h := h99)).pI e101 hh102 rfl) e140 rfl (RulesOk_fx O87 ((Fx.rf (wr := [2620200]) (h := h86)).pIa t93 ar_13101 hh98 rfl) e139 rfl (RulesOk_fx O60 ((Fx.rf (wr := [2420000]) (h := h57)).pIa t83 ar_12100 hh85 rfl) e138 rfl (RulesOk_fx O F61 t37 rfl p47))))
          have p142 := (ND_fx ((Fx.rf (wr := [2215]) (h := h99)).pI e101 hh102 rfl) rfl rfl (ND_fx ((Fx.rf (wr := [2620200]) (h := h86)).pIa t93 ar_13101 hh98 rfl) rfl rfl (ND_fx ((Fx.rf (wr := [2420000]) (h := h57)).pIa t83 ar_12100 hh85 rfl) rfl rfl (ND_fx F61 rfl rfl p48))))
          exact g_iret C hr (nar_z2 (iw (il 1) (by decide) (by decide))).1 (iw (il 1) (by decide) (by decide)) ⟨O104, (((((Fx.rf (wr := wr_k3_X11_cell)).call F61 rfl).pIa t83 ar_12100 hh85 rfl).pIa t93 ar_13101 hh98 rfl).pI e101 hh102 rfl), (iw (il 1) (by decide) (by decide)), (by unfold XInv; rw [e105, e106, e107, e108, e109, e110, (pI_e hh102), e111, e112, e113, e114, e115, e116, e120, e121]; exact ⟨p125, p129, p133, (fun z => absurd z (by decide)), rfl, rfl, (by omega), (by omega), p137, p141, p142⟩), (by unfold ceF; split <;> omega)⟩ (by decide) (by decide) dX11_cell_63
        · have f143 : (0 : Int) ≤ a4 ∧ a4 ≤ (0 : Int) := ii fa4 (r_eq (il 0) q96) (by decide) (by decide)
          refine g_iconst C dX11_cell_51 ?_
          refine g_goto C 56 (by decide) dX11_cell_52 ?_
          refine g_zast C t93 rfl l94 (ix f68 (by decide) (by decide)) (iw (il 1) (by decide) (by decide)) dX11_cell_56 (fun h145 hh144 => ?_)
          have O146 := O87.pIa t93 ar_13101 hh144 rI_13101_0 (iw (il 1) (by decide) (by decide)) nofun
          refine g_aload_n C rfl 1 rfl dX11_cell_57 ?_
          refine g_iconst C dX11_cell_58 ?_
          have e147 : Tg h145 a0 = 11 := ((pIT hh144).trans e88)
          refine gp_I C fk_LandSurvey_81 pk_LandSurvey_15 rfl e147 (iw (il 0) (by decide) (by decide)) (nar_z2 (iw (il 0) (by decide) (by decide))) dX11_cell_59 (fun h149 hh148 => ?_)
          have O150 := O146.pI e147 hh148 rI_11_15 (iw (il 0) (by decide) (by decide)) nofun
          refine g_iconst C dX11_cell_62 ?_
          have e151 : Rv h149 a0 3 = v1 := ((pIR hh148).trans ((pIR hh144).trans ((pIR hh85).trans ((fxR F61 ta0 rfl).trans e2))))
          have e152 : Iv h149 a0 4 = v5 := ((pI_j hh148 (by decide)).trans ((pI_n hh144 (ne_tag e88 t93 (by decide))).trans ((pI_n hh85 (ne_tag e77 t83 (by decide))).trans ((fxI F61 ta0 rfl).trans e6))))
          have e153 : Rv h149 a0 8 = v8 := ((pIR hh148).trans ((pIR hh144).trans ((pIR hh85).trans ((fxR F61 ta0 rfl).trans e9))))
          have e154 : Iv h149 a0 9 = v12 := ((pI_j hh148 (by decide)).trans ((pI_n hh144 (ne_tag e88 t93 (by decide))).trans ((pI_n hh85 (ne_tag e77 t83 (by decide))).trans ((fxI F61 ta0 rfl).trans e13))))
          have e155 : Rv h149 a0 11 = v15 := ((pIR hh148).trans ((pIR hh144).trans ((pIR hh85).trans ((fxR F61 ta0 rfl).trans e16))))
          have e156 : Iv h149 a0 12 = v19 := ((pI_j hh148 (by decide)).trans ((pI_n hh144 (ne_tag e88 t93 (by decide))).trans ((pI_n hh85 (ne_tag e77 t83 (by decide))).trans ((fxI F61 ta0 rfl).trans e20))))
          have e157 : Rv h149 a0 14 = v25 := ((pIR hh148).trans ((pIR hh144).trans ((pIR hh85).trans ((fxR F61 ta0 rfl).trans e26))))
          have e158 : Rv h149 a0 13 = v29 := ((pIR hh148).trans ((pIR hh144).trans ((pIR hh85).trans ((fxR F61 ta0 rfl).trans e30))))
          have e159 : Rv h149 a0 6 = v32 := ((pIR hh148).trans ((pIR hh144).trans ((pIR hh85).trans ((fxR F61 ta0 rfl).trans e33))))
          have e160 : Rv h149 a0 7 = v35 := ((pIR hh148).trans ((pIR hh144).trans ((pIR hh85).trans ((fxR F61 ta0 rfl).trans e36))))
          have e161 : Rv h149 v29 1 = v1 := ((pIR hh148).trans ((pIR hh144).trans ((pIR hh85).trans ((fxR F61 t31 rfl).trans p42))))
          have e162 : Rv h149 v29 2 = v8 := ((pIR hh148).trans ((pIR hh144).trans ((pIR hh85).trans ((fxR F61 t31 rfl).trans p43))))
          have e163 : Tg h57 v29 = 7 := (fxT F61 t31)
          have e164 : Tg h86 v29 = 7 := ((pIT hh85).trans e163)
          have e165 : Tg h145 v29 = 7 := ((pIT hh144).trans e164)
          have e166 : Iv h149 v29 3 = v50 := ((pI_n hh148 (ne_tag e165 e147 (by decide))).trans ((pI_n hh144 (ne_tag e164 t93 (by decide))).trans ((pI_n hh85 (ne_tag e163 t83 (by decide))).trans ((fxI F61 t31 rfl).trans e51))))
          have e167 : Iv h149 v29 4 = v53 := ((pI_n hh148 (ne_tag e165 e147 (by decide))).trans ((pI_n hh144 (ne_tag e164 t93 (by decide))).trans ((pI_n hh85 (ne_tag e163 t83 (by decide))).trans ((fxI F61 t31 rfl).trans e54))))
          have e168 : Tg h57 v1 = 38104 := (fxT F61 t3)
          have e169 : Tg h86 v1 = 38104 := ((pIT hh85).trans e168)
          have e170 : Tg h145 v1 = 38104 := ((pIT hh144).trans e169)
          have p171 := (SOK_fx O146 ((Fx.rf (wr := [2215]) (h := h145)).pI e147 hh148 rfl) e170 rfl rfl rfl (SOK_fx O87 ((Fx.rf (wr := [2620200]) (h := h86)).pIa t93 ar_13101 hh144 rfl) e169 rfl rfl rfl (SOK_fx O60 ((Fx.rf (wr := [2420000]) (h := h57)).pIa t83 ar_12100 hh85 rfl) e168 rfl rfl rfl (SOK_fx O F61 t3 rfl rfl rfl p38))))
          have e172 : Tg h57 v8 = 39105 := (fxT F61 t10)
          have e173 : Tg h86 v8 = 39105 := ((pIT hh85).trans e172)
          have e174 : Tg h145 v8 = 39105 := ((pIT hh144).trans e173)
          have p175 := (BOK_fx O146 ((Fx.rf (wr := [2215]) (h := h145)).pI e147 hh148 rfl) e174 rfl rfl rfl rfl (BOK_fx O87 ((Fx.rf (wr := [2620200]) (h := h86)).pIa t93 ar_13101 hh144 rfl) e173 rfl rfl rfl rfl (BOK_fx O60 ((Fx.rf (wr := [2420000]) (h := h57)).pIa t83 ar_12100 hh85 rfl) e172 rfl rfl rfl rfl (BOK_fx O F61 t10 rfl rfl rfl rfl p39))))
          have e176 : Tg h57 v15 = 48106 := (fxT F61 t17)
          have e177 : Tg h86 v15 = 48106 := ((pIT hh85).trans e176)
          have e178 : Tg h145 v15 = 48106 := ((pIT hh144).trans e177)
          have p179 := (NN_fx ((Fx.rf (wr := [2215]) (h := h145)).pI e147 hh148 rfl) e178 ar_48106 rfl (NN_fx ((Fx.rf (wr := [2620200]) (h := h86)).pIa t93 ar_13101 hh144 rfl) e177 ar_48106 rfl (NN_fx ((Fx.rf (wr := [2420000]) (h := h57)).pIa t83 ar_12100 hh85 rfl) e176 ar_48106 rfl (NN_fx F61 t17 ar_48106 rfl p40))))
          have e180 : Tg h57 v32 = 5 := (fxT F61 t34)
          have e181 : Tg h86 v32 = 5 := ((pIT hh85).trans e180)
          have e182 : Tg h145 v32 = 5 := ((pIT hh144).trans e181)
          have p183 := (BkOk_fx O146 ((Fx.rf (wr := [2215]) (h := h145)).pI e147 hh148 rfl) e182 rfl rfl (BkOk_fx O87 ((Fx.rf (wr := [2620200]) (h := h86)).pIa t93 ar_13101 hh144 rfl) e181 rfl rfl (BkOk_fx O60 ((Fx.rf (wr := [2420000]) (h := h57)).pIa t83 ar_12100 hh85 rfl) e180 rfl rfl (BkOk_fx O F61 t34 rfl rfl p46))))
          have e184 : Tg h57 v35 = 6 := (fxT F61 t37)
          have e185 : Tg h86 v35 = 6 := ((pIT hh85).trans e184)
          have e186 : Tg h145 v35 = 6 := ((pIT hh144).trans e185)
          have p187 := (RulesOk_fx O146 ((Fx.rf (wr := [2215]) (h := h145)).pI e147 hh148 rfl) e186 rfl (RulesOk_fx O87 ((Fx.rf (wr := [2620200]) (h := h86)).pIa t93 ar_13101 hh144 rfl) e185 rfl (RulesOk_fx O60 ((Fx.rf (wr := [2420000]) (h := h57)).pIa t83 ar_12100 hh85 rfl) e184 rfl (RulesOk_fx O F61 t37 rfl p47))))
          have p188 := (ND_fx ((Fx.rf (wr := [2215]) (h := h145)).pI e147 hh148 rfl) rfl rfl (ND_fx ((Fx.rf (wr := [2620200]) (h := h86)).pIa t93 ar_13101 hh144 rfl) rfl rfl (ND_fx ((Fx.rf (wr := [2420000]) (h := h57)).pIa t83 ar_12100 hh85 rfl) rfl rfl (ND_fx F61 rfl rfl p48))))
          exact g_iret C hr (nar_z2 (iw (il 1) (by decide) (by decide))).1 (iw (il 1) (by decide) (by decide)) ⟨O150, (((((Fx.rf (wr := wr_k3_X11_cell)).call F61 rfl).pIa t83 ar_12100 hh85 rfl).pIa t93 ar_13101 hh144 rfl).pI e147 hh148 rfl), (iw (il 1) (by decide) (by decide)), (by unfold XInv; rw [e151, e152, e153, e154, e155, e156, (pI_e hh148), e157, e158, e159, e160, e161, e162, e166, e167]; exact ⟨p171, p175, p179, (fun z => absurd z (by decide)), rfl, rfl, (by omega), (by omega), p183, p187, p188⟩), (by unfold ceF; split <;> omega)⟩ (by decide) (by decide) dX11_cell_63
      · have f189 : (1000 : Int) ≤ a3 ∧ a3 ≤ (2147483647 : Int) := r_gt f73 (il 999) q75 (by decide) (by decide)
        refine g_iconst C dX11_cell_24 ?_
        have p190 := (XInv_fx O F61 ta0 rfl P_XInv)
        exact g_iret C hr (nar_z2 (iw (il 0) (by decide) (by decide))).1 (iw (il 0) (by decide) (by decide)) ⟨O60, ((Fx.rf (wr := wr_k3_X11_cell)).call F61 rfl), (iw (il 0) (by decide) (by decide)), p190, (by unfold ceF; split <;> omega)⟩ (by decide) (by decide) dX11_cell_25
def wr_k3_X12_cell : List Nat := [2400, 2435, 27220000, 27420200]
set_option maxRecDepth 100000 in
set_option maxHeartbeats 4000000 in
theorem k3_X12_cell (l : Launch) (D : va_G) (cy : Nat → ClassId) (w : Nat → Nat) (z0 : Nat) {h : Hp} {a0 : Nat} {a1 : Int} {a2 : Int} {a3 : Int} {a4 : Int}  (O : Okh h) (ta0 : Tg h a0 = 12) (fa1 : (-2147483648) ≤ a1 ∧ a1 ≤ 2147483647) (fa2 : (-2147483648) ≤ a2 ∧ a2 ≤ 2147483647) (fa3 : (-2147483648) ≤ a3 ∧ a3 ≤ 2147483647) (fa4 : 0 ≤ a4 ∧ a4 ≤ 1) : MI l D cy w z0 yX12_cell cX12_cell 5 (some .boolean) 2 43 0 0 [.inr (.inr a0), .inl a1, .inl a2, .inl a3, .inl a4] h (fun v h1 => Okh h1 ∧ Fx wr_k3_X12_cell h h1 ∧ (0 ≤ v ∧ v ≤ 1) ∧ (v = ceF a1 a2 a3)) := by
  refine hm_go (by decide +kernel) (Nat.le_of_ble_eq_true rfl) (fun p e s m below meth c C hr hn => ?_)
  refine g_aload_n C rfl 0 rfl dX12_cell_0 ?_
  refine g_iconst C dX12_cell_1 ?_
  refine gp_I C fk_LandSurveyModel_1 pk_LandSurveyModel_0 rfl ta0 (iw (il 0) (by decide) (by decide)) (nf_i _) dX12_cell_2 (fun h2 hh1 => ?_)
  have O3 := O.pI ta0 hh1 rI_12_0 (iw (il 0) (by decide) (by decide)) nofun
  refine g_iload_n C rfl 1 rfl dX12_cell_5 ?_
  refine g_iload_n C rfl 2 rfl dX12_cell_6 ?_
  refine g_callI (st := []) (gc_S C lk_LandSurveyModel_419 (k_X12_isCell l D cy w z0 O3 fa1 fa2) rfl ⟨by decide, by decide⟩ (Nat.le_of_ble_eq_true rfl) dX12_cell_7 ⟨(by decide), (by decide)⟩) (fun r4 h5 f7 K6 => ?_)
  obtain ⟨O8, F9, f10, p11⟩ := K6
  refine g_if_eq C (iw f10 (by decide) (by decide)) 24 (by decide) dX12_cell_10 (fun q12 => ?_) (fun q13 => ?_)
  · have f14 : (0 : Int) ≤ r4 ∧ r4 ≤ (0 : Int) := ii f10 (r_eq (il 0) q12) (by decide) (by decide)
    refine g_iconst C dX12_cell_24 ?_
    exact g_iret C hr (nar_z2 (iw (il 0) (by decide) (by decide))).1 (iw (il 0) (by decide) (by decide)) ⟨O8, (((Fx.rf (wr := wr_k3_X12_cell)).pI ta0 hh1 rfl).call F9 rfl), (iw (il 0) (by decide) (by decide)), (by unfold ceF; split <;> omega)⟩ (by decide) (by decide) dX12_cell_25
  · have f15 : (1 : Int) ≤ r4 ∧ r4 ≤ (1 : Int) := r_nl f10 q13
    have f16 : (0 : Int) ≤ a1 ∧ a1 ≤ (11 : Int) := by omega
    have f17 : (0 : Int) ≤ a2 ∧ a2 ≤ (7 : Int) := by omega
    refine g_iload_n C rfl 3 rfl dX12_cell_13 ?_
    refine g_iconst C dX12_cell_14 ?_
    refine g_sipush C (by decide) dX12_cell_15 ?_
    refine g_callI (st := []) (gc_S C lk_LandSurveyModel_415 (k_X12_within l D cy w z0 O8 fa3 (iw (il 0) (by decide) (by decide)) (iw (il 999) (by decide) (by decide))) rfl ⟨by decide, by decide⟩ (Nat.le_of_ble_eq_true rfl) dX12_cell_18 ⟨(by decide), (by decide)⟩) (fun r18 h19 f21 K20 => ?_)
    obtain ⟨O22, F23, f24, p25⟩ := K20
    refine g_if_ne C (iw f24 (by decide) (by decide)) 26 (by decide) dX12_cell_21 (fun q26 => ?_) (fun q27 => ?_)
    · have f28 : (1 : Int) ≤ r18 ∧ r18 ≤ (1 : Int) := r_nl f24 q26
      have f29 : (0 : Int) ≤ a3 ∧ a3 ≤ (999 : Int) := by omega
      refine g_aload_n C rfl 0 rfl dX12_cell_26 ?_
      have e30 : Tg h19 a0 = 12 := (fxT F23 (fxT F9 ((pIT hh1).trans ta0)))
      obtain ⟨v31, e32⟩ : ∃ z, Rv h19 a0 36 = z := ⟨_, rfl⟩
      have t33 := ok_R O22 e30 rE_12_36 e32
      have l34 := ok_L O22 e30 rE_12_36 e32
      refine gf_R C fk_LandSurveyModel_161 rfl e30 e32 dX12_cell_27 ?_
      refine g_bipush C (by decide) dX12_cell_30 ?_
      refine g_iload_n C rfl 2 rfl dX12_cell_32 ?_
      have f35 : (0 : Int) ≤ (12 * a2) ∧ (12 * a2) ≤ (84 : Int) := ia_mul (by decide) f17 (by decide) (by decide)
      refine g_imul C dX12_cell_33 ?_
      refine g_iload_n C rfl 1 rfl dX12_cell_34 ?_
      have f36 : (0 : Int) ≤ ((12 * a2) + a1) ∧ ((12 * a2) + a1) ≤ (95 : Int) := ia_add f35 f16 (by decide) (by decide)
      refine g_iadd C dX12_cell_35 ?_
      refine g_iload_n C rfl 3 rfl dX12_cell_36 ?_
      refine g_iast C t33 rfl l34 (ix f36 (by decide) (by decide)) (iw f29 (by decide) (by decide)) dX12_cell_37 (fun h38 hh37 => ?_)
      have O39 := O22.pIa t33 ar_136100 hh37 rI_136100_0 f29 nofun
      refine g_aload_n C rfl 0 rfl dX12_cell_38 ?_
      have e40 : Tg h38 a0 = 12 := ((pIT hh37).trans e30)
      obtain ⟨v41, e42⟩ : ∃ z, Rv h38 a0 37 = z := ⟨_, rfl⟩
      have t43 := ok_R O39 e40 rE_12_37 e42
      have l44 := ok_L O39 e40 rE_12_37 e42
      refine gf_R C fk_LandSurveyModel_164 rfl e40 e42 dX12_cell_39 ?_
      refine g_bipush C (by decide) dX12_cell_42 ?_
      refine g_iload_n C rfl 2 rfl dX12_cell_44 ?_
      refine g_imul C dX12_cell_45 ?_
      refine g_iload_n C rfl 1 rfl dX12_cell_46 ?_
      refine g_iadd C dX12_cell_47 ?_
      refine g_iload C 4 rfl dX12_cell_48 ?_
      refine g_zast C t43 rfl l44 (ix f36 (by decide) (by decide)) fa4 dX12_cell_50 (fun h46 hh45 => ?_)
      have O47 := O39.pIa t43 ar_137101 hh45 rI_137101_0 fa4 nofun
      refine g_aload_n C rfl 0 rfl dX12_cell_51 ?_
      refine g_iconst C dX12_cell_52 ?_
      have e48 : Tg h46 a0 = 12 := ((pIT hh45).trans e40)
      refine gp_I C fk_LandSurveyModel_290 pk_LandSurveyModel_35 rfl e48 (iw (il 1) (by decide) (by decide)) (nar_z2 (iw (il 1) (by decide) (by decide))) dX12_cell_53 (fun h50 hh49 => ?_)
      have O51 := O47.pI e48 hh49 rI_12_35 (iw (il 1) (by decide) (by decide)) nofun
      refine g_iconst C dX12_cell_56 ?_
      exact g_iret C hr (nar_z2 (iw (il 1) (by decide) (by decide))).1 (iw (il 1) (by decide) (by decide)) ⟨O51, (((((((Fx.rf (wr := wr_k3_X12_cell)).pI ta0 hh1 rfl).call F9 rfl).call F23 rfl).pIa t33 ar_136100 hh37 rfl).pIa t43 ar_137101 hh45 rfl).pI e48 hh49 rfl), (iw (il 1) (by decide) (by decide)), (by unfold ceF; split <;> omega)⟩ (by decide) (by decide) dX12_cell_57
    · have f52 : (0 : Int) ≤ r18 ∧ r18 ≤ (0 : Int) := ii f24 (r_eq (il 0) q27) (by decide) (by decide)
      refine g_iconst C dX12_cell_24 ?_
      exact g_iret C hr (nar_z2 (iw (il 0) (by decide) (by decide))).1 (iw (il 0) (by decide) (by decide)) ⟨O22, ((((Fx.rf (wr := wr_k3_X12_cell)).pI ta0 hh1 rfl).call F9 rfl).call F23 rfl), (iw (il 0) (by decide) (by decide)), (by unfold ceF; split <;> omega)⟩ (by decide) (by decide) dX12_cell_25
