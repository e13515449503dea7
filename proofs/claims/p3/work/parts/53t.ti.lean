/-! TI: answers told exactly -/
def vwF (d now : Int) : Int := if 0 ≤ d ∧ d ≤ now then 1 else 0
def ceF (x y h : Int) : Int := if 0 ≤ x ∧ x ≤ 11 ∧ 0 ≤ y ∧ y ≤ 7 ∧ 0 ≤ h ∧ h ≤ 999 then 1 else 0
def foF (x y : Int) : Int := if 0 ≤ x ∧ x ≤ 11 ∧ 0 ≤ y ∧ y ≤ 7 then 1 else 0
def owF (x y o : Int) : Int := if 0 ≤ x ∧ x ≤ 11 ∧ 0 ≤ y ∧ y ≤ 7 ∧ -1 ≤ o ∧ o ≤ 3 then 1 else 0
def riF (n : Int) : Int := if 0 ≤ n ∧ n ≤ 999 then 1 else 0
def wr_k2_X11_cellAt : List Nat := []
set_option maxRecDepth 100000 in
set_option maxHeartbeats 4000000 in
theorem k2_X11_cellAt (l : Launch) (D : va_G) (cy : Nat → ClassId) (w : Nat → Nat) (z0 : Nat) {h : Hp} {a0 : Int} {a1 : Int}  (O : Okh h) (fa0 : (-2147483648) ≤ a0 ∧ a0 ≤ 2147483647) (fa1 : (-2147483648) ≤ a1 ∧ a1 ≤ 2147483647) : MI l D cy w z0 yX11_cellAt cX11_cellAt 2 (some .int) 0 0 0 0 [.inl a0, .inl a1] h (fun v h1 => Okh h1 ∧ Fx wr_k2_X11_cellAt h h1 ∧ ((-1) ≤ v ∧ v ≤ 95) ∧ ((v = -1 ∧ (a0 < 0 ∨ 11 < a0 ∨ a1 < 0 ∨ 7 < a1)) ∨ (0 ≤ a0 ∧ a0 ≤ 11 ∧ 0 ≤ a1 ∧ a1 ≤ 7 ∧ v = 12 * a1 + a0))) := by
  refine hm_go (by decide +kernel) (Nat.le_of_ble_eq_true rfl) (fun p e s m below meth c C hr hn => ?_)
  refine g_iload_n C rfl 0 rfl dX11_cellAt_0 ?_
  refine g_if_lt C fa0 20 (by decide) dX11_cellAt_1 (fun q1 => ?_) (fun q2 => ?_)
  · have f3 : (-2147483648 : Int) ≤ a0 ∧ a0 ≤ (-1 : Int) := r_lt fa0 (il 0) q1 (by decide) (by decide)
    refine g_iconst C dX11_cellAt_20 ?_
    exact g_iret C hr rfl (iw (il (-1)) (by decide) (by decide)) ⟨O, Fx.rf, (iw (il (-1)) (by decide) (by decide)), (by omega)⟩ (by decide) (by decide) dX11_cellAt_21
  · have f4 : (0 : Int) ≤ a0 ∧ a0 ≤ (2147483647 : Int) := r_ge fa0 (il 0) q2 (by decide) (by decide)
    refine g_iload_n C rfl 0 rfl dX11_cellAt_4 ?_
    refine g_bipush C (by decide) dX11_cellAt_5 ?_
    refine g_icmp_ge C (iw f4 (by decide) (by decide)) (iw (il 12) (by decide) (by decide)) 20 (by decide) dX11_cellAt_7 (fun q5 => ?_) (fun q6 => ?_)
    · have f7 : (12 : Int) ≤ a0 ∧ a0 ≤ (2147483647 : Int) := r_ge f4 (il 12) q5 (by decide) (by decide)
      refine g_iconst C dX11_cellAt_20 ?_
      exact g_iret C hr rfl (iw (il (-1)) (by decide) (by decide)) ⟨O, Fx.rf, (iw (il (-1)) (by decide) (by decide)), (by omega)⟩ (by decide) (by decide) dX11_cellAt_21
    · have f8 : (0 : Int) ≤ a0 ∧ a0 ≤ (11 : Int) := r_lt f4 (il 12) q6 (by decide) (by decide)
      refine g_iload_n C rfl 1 rfl dX11_cellAt_10 ?_
      refine g_if_lt C fa1 20 (by decide) dX11_cellAt_11 (fun q9 => ?_) (fun q10 => ?_)
      · have f11 : (-2147483648 : Int) ≤ a1 ∧ a1 ≤ (-1 : Int) := r_lt fa1 (il 0) q9 (by decide) (by decide)
        refine g_iconst C dX11_cellAt_20 ?_
        exact g_iret C hr rfl (iw (il (-1)) (by decide) (by decide)) ⟨O, Fx.rf, (iw (il (-1)) (by decide) (by decide)), (by omega)⟩ (by decide) (by decide) dX11_cellAt_21
      · have f12 : (0 : Int) ≤ a1 ∧ a1 ≤ (2147483647 : Int) := r_ge fa1 (il 0) q10 (by decide) (by decide)
        refine g_iload_n C rfl 1 rfl dX11_cellAt_14 ?_
        refine g_bipush C (by decide) dX11_cellAt_15 ?_
        refine g_icmp_lt C (iw f12 (by decide) (by decide)) (iw (il 8) (by decide) (by decide)) 22 (by decide) dX11_cellAt_17 (fun q13 => ?_) (fun q14 => ?_)
        · have f15 : (0 : Int) ≤ a1 ∧ a1 ≤ (7 : Int) := r_lt f12 (il 8) q13 (by decide) (by decide)
          refine g_bipush C (by decide) dX11_cellAt_22 ?_
          refine g_iload_n C rfl 1 rfl dX11_cellAt_24 ?_
          have f16 : (0 : Int) ≤ (12 * a1) ∧ (12 * a1) ≤ (84 : Int) := ia_mul (by decide) f15 (by decide) (by decide)
          refine g_imul C dX11_cellAt_25 ?_
          refine g_iload_n C rfl 0 rfl dX11_cellAt_26 ?_
          have f17 : (0 : Int) ≤ ((12 * a1) + a0) ∧ ((12 * a1) + a0) ≤ (95 : Int) := ia_add f16 f8 (by decide) (by decide)
          refine g_iadd C dX11_cellAt_27 ?_
          exact g_iret C hr rfl (iw f17 (by decide) (by decide)) ⟨O, Fx.rf, (iw f17 (by decide) (by decide)), (by omega)⟩ (by decide) (by decide) dX11_cellAt_28
        · have f18 : (8 : Int) ≤ a1 ∧ a1 ≤ (2147483647 : Int) := r_ge f12 (il 8) q14 (by decide) (by decide)
          refine g_iconst C dX11_cellAt_20 ?_
          exact g_iret C hr rfl (iw (il (-1)) (by decide) (by decide)) ⟨O, Fx.rf, (iw (il (-1)) (by decide) (by decide)), (by omega)⟩ (by decide) (by decide) dX11_cellAt_21
def wr_k3_X11_view : List Nat := [2201, 2215]
set_option maxRecDepth 100000 in
set_option maxHeartbeats 4000000 in
theorem k3_X11_view (l : Launch) (D : va_G) (cy : Nat → ClassId) (w : Nat → Nat) (z0 : Nat) {h : Hp} {a0 : Nat} {a1 : Int}  (O : Okh h) (ta0 : Tg h a0 = 11) (fa1 : (-2147483648) ≤ a1 ∧ a1 ≤ 2147483647) (P_XInv : XInv h a0) : MI l D cy w z0 yX11_view cX11_view 2 (some .boolean) 0 0 0 0 [.inr (.inr a0), .inl a1] h (fun v h1 => Okh h1 ∧ Fx wr_k3_X11_view h h1 ∧ (0 ≤ v ∧ v ≤ 1) ∧ (XInv h1 a0) ∧ (v = vwF a1 (Iv h a0 0))) := by
  obtain ⟨v1, e2⟩ : ∃ z, Rv h a0 3 = z := ⟨_, rfl⟩
  have t3 := ok_R O ta0 rE_11_3 e2
  have l4 := ok_L O ta0 rE_11_3 e2
  obtain ⟨v5, e6⟩ : ∃ z, Iv h a0 4 = z := ⟨_, rfl⟩
  have f7 := ok_I O ta0 rI_11_4 e6
  obtain ⟨v8, e9⟩ : ∃ z, Rv h a0 8 = z := ⟨_, rfl⟩
  have t10 := ok_R O ta0 rE_11_8 e9
  have l11 := ok_L O ta0 rE_11_8 e9
  obtain ⟨v12, e13⟩ : ∃ z, Iv h a0 9 = z := ⟨_, rfl⟩
  have f14 := ok_I O ta0 rI_11_9 e13
  obtain ⟨v15, e16⟩ : ∃ z, Rv h a0 11 = z := ⟨_, rfl⟩
  have t17 := ok_R O ta0 rE_11_11 e16
  have l18 := ok_L O ta0 rE_11_11 e16
  obtain ⟨v19, e20⟩ : ∃ z, Iv h a0 12 = z := ⟨_, rfl⟩
  have f21 := ok_I O ta0 rI_11_12 e20
  obtain ⟨v22, e23⟩ : ∃ z, Iv h a0 15 = z := ⟨_, rfl⟩
  have f24 := ok_I O ta0 rI_11_15 e23
  obtain ⟨v25, e26⟩ : ∃ z, Rv h a0 14 = z := ⟨_, rfl⟩
  have t27 := ok_R O ta0 rE_11_14 e26
  have l28 := ok_L O ta0 rE_11_14 e26
  obtain ⟨v29, e30⟩ : ∃ z, Rv h a0 13 = z := ⟨_, rfl⟩
  have t31 := ok_R O ta0 rE_11_13 e30
  obtain ⟨v32, e33⟩ : ∃ z, Rv h a0 6 = z := ⟨_, rfl⟩
  have t34 := ok_R O ta0 rE_11_6 e33
  obtain ⟨v35, e36⟩ : ∃ z, Rv h a0 7 = z := ⟨_, rfl⟩
  have t37 := ok_R O ta0 rE_11_7 e36
  have p49 := P_XInv
  unfold XInv at p49
  rw [e2, e6, e9, e13, e16, e20, e23, e26, e30, e33, e36] at p49
  obtain ⟨p38, p39, p40, p41, p42, p43, p44, p45, p46, p47, p48⟩ := p49
  obtain ⟨v50, e51⟩ : ∃ z, Iv h v29 3 = z := ⟨_, rfl⟩
  have f52 := ok_I O t31 rI_7_3 e51
  obtain ⟨v53, e54⟩ : ∃ z, Iv h v29 4 = z := ⟨_, rfl⟩
  have f55 := ok_I O t31 rI_7_4 e54
  rw [e51] at p44
  rw [e54] at p45
  refine hm_go (by decide +kernel) (Nat.le_of_ble_eq_true rfl) (fun p e s m below meth c C hr hn => ?_)
  obtain ⟨v56, e57⟩ : ∃ z, Iv h a0 0 = z := ⟨_, rfl⟩
  have f58 := ok_I O ta0 rI_11_0 e57
  refine g_iload_n C rfl 1 rfl dX11_view_0 ?_
  refine g_if_lt C fa1 12 (by decide) dX11_view_1 (fun q59 => ?_) (fun q60 => ?_)
  · have f61 : (-2147483648 : Int) ≤ a1 ∧ a1 ≤ (-1 : Int) := r_lt fa1 (il 0) q59 (by decide) (by decide)
    refine g_iconst C dX11_view_12 ?_
    exact g_iret C hr (nar_z2 (iw (il 0) (by decide) (by decide))).1 (iw (il 0) (by decide) (by decide)) ⟨O, Fx.rf, (iw (il 0) (by decide) (by decide)), P_XInv, (by unfold vwF; rw [e57]; split <;> omega)⟩ (by decide) (by decide) dX11_view_13
  · have f62 : (0 : Int) ≤ a1 ∧ a1 ≤ (2147483647 : Int) := r_ge fa1 (il 0) q60 (by decide) (by decide)
    refine g_iload_n C rfl 1 rfl dX11_view_4 ?_
    refine g_aload_n C rfl 0 rfl dX11_view_5 ?_
    refine gf_I C fk_LandSurvey_78 rfl ta0 e57 dX11_view_6 ?_
    refine g_icmp_le C (iw f62 (by decide) (by decide)) (iw f58 (by decide) (by decide)) 14 (by decide) dX11_view_9 (fun q63 => ?_) (fun q64 => ?_)
    · have f65 : (0 : Int) ≤ a1 ∧ a1 ≤ (9999 : Int) := r_le f62 f58 q63 (by decide) (by decide)
      refine g_aload_n C rfl 0 rfl dX11_view_14 ?_
      refine g_iload_n C rfl 1 rfl dX11_view_15 ?_
      refine g_aload_n C rfl 0 rfl dX11_view_16 ?_
      refine gf_I C fk_LandSurvey_78 rfl ta0 e57 dX11_view_17 ?_
      refine g_icmp_ne C (iw f65 (by decide) (by decide)) (iw f58 (by decide) (by decide)) 27 (by decide) dX11_view_20 (fun q66 => ?_) (fun q67 => ?_)
      · refine g_iload_n C rfl 1 rfl dX11_view_27 ?_
        refine gp_I C fk_LandSurvey_9 pk_LandSurvey_1 rfl ta0 (iw f65 (by decide) (by decide)) (nf_i _) dX11_view_28 (fun h69 hh68 => ?_)
        have O70 := O.pI ta0 hh68 rI_11_1 (iw f65 (by decide) (by decide)) nofun
        refine g_aload_n C rfl 0 rfl dX11_view_31 ?_
        refine g_iconst C dX11_view_32 ?_
        have e71 : Tg h69 a0 = 11 := ((pIT hh68).trans ta0)
        refine gp_I C fk_LandSurvey_81 pk_LandSurvey_15 rfl e71 (iw (il 0) (by decide) (by decide)) (nar_z2 (iw (il 0) (by decide) (by decide))) dX11_view_33 (fun h73 hh72 => ?_)
        have O74 := O70.pI e71 hh72 rI_11_15 (iw (il 0) (by decide) (by decide)) nofun
        refine g_iconst C dX11_view_36 ?_
        have e75 : Rv h73 a0 3 = v1 := ((pIR hh72).trans ((pIR hh68).trans e2))
        have e76 : Iv h73 a0 4 = v5 := ((pI_j hh72 (by decide)).trans ((pI_j hh68 (by decide)).trans e6))
        have e77 : Rv h73 a0 8 = v8 := ((pIR hh72).trans ((pIR hh68).trans e9))
        have e78 : Iv h73 a0 9 = v12 := ((pI_j hh72 (by decide)).trans ((pI_j hh68 (by decide)).trans e13))
        have e79 : Rv h73 a0 11 = v15 := ((pIR hh72).trans ((pIR hh68).trans e16))
        have e80 : Iv h73 a0 12 = v19 := ((pI_j hh72 (by decide)).trans ((pI_j hh68 (by decide)).trans e20))
        have e81 : Rv h73 a0 14 = v25 := ((pIR hh72).trans ((pIR hh68).trans e26))
        have e82 : Rv h73 a0 13 = v29 := ((pIR hh72).trans ((pIR hh68).trans e30))
        have e83 : Rv h73 a0 6 = v32 := ((pIR hh72).trans ((pIR hh68).trans e33))
        have e84 : Rv h73 a0 7 = v35 := ((pIR hh72).trans ((pIR hh68).trans e36))
        have e85 : Rv h73 v29 1 = v1 := ((pIR hh72).trans ((pIR hh68).trans p42))
        have e86 : Rv h73 v29 2 = v8 := ((pIR hh72).trans ((pIR hh68).trans p43))
        have e87 : Tg h69 v29 = 7 := ((pIT hh68).trans t31)
        have e88 : Iv h73 v29 3 = v50 := ((pI_n hh72 (ne_tag e87 e71 (by decide))).trans ((pI_n hh68 (ne_tag t31 ta0 (by decide))).trans e51))
        have e89 : Iv h73 v29 4 = v53 := ((pI_n hh72 (ne_tag e87 e71 (by decide))).trans ((pI_n hh68 (ne_tag t31 ta0 (by decide))).trans e54))
        have e90 : Tg h69 v1 = 38104 := ((pIT hh68).trans t3)
        have p91 := (SOK_fx O70 ((Fx.rf (wr := [2215]) (h := h69)).pI e71 hh72 rfl) e90 rfl rfl rfl (SOK_fx O ((Fx.rf (wr := [2201]) (h := h)).pI ta0 hh68 rfl) t3 rfl rfl rfl p38))
        have e92 : Tg h69 v8 = 39105 := ((pIT hh68).trans t10)
        have p93 := (BOK_fx O70 ((Fx.rf (wr := [2215]) (h := h69)).pI e71 hh72 rfl) e92 rfl rfl rfl rfl (BOK_fx O ((Fx.rf (wr := [2201]) (h := h)).pI ta0 hh68 rfl) t10 rfl rfl rfl rfl p39))
        have e94 : Tg h69 v15 = 48106 := ((pIT hh68).trans t17)
        have p95 := (NN_fx ((Fx.rf (wr := [2215]) (h := h69)).pI e71 hh72 rfl) e94 ar_48106 rfl (NN_fx ((Fx.rf (wr := [2201]) (h := h)).pI ta0 hh68 rfl) t17 ar_48106 rfl p40))
        have e96 : Tg h69 v32 = 5 := ((pIT hh68).trans t34)
        have p97 := (BkOk_fx O70 ((Fx.rf (wr := [2215]) (h := h69)).pI e71 hh72 rfl) e96 rfl rfl (BkOk_fx O ((Fx.rf (wr := [2201]) (h := h)).pI ta0 hh68 rfl) t34 rfl rfl p46))
        have e98 : Tg h69 v35 = 6 := ((pIT hh68).trans t37)
        have p99 := (RulesOk_fx O70 ((Fx.rf (wr := [2215]) (h := h69)).pI e71 hh72 rfl) e98 rfl (RulesOk_fx O ((Fx.rf (wr := [2201]) (h := h)).pI ta0 hh68 rfl) t37 rfl p47))
        have p100 := (ND_fx ((Fx.rf (wr := [2215]) (h := h69)).pI e71 hh72 rfl) rfl rfl (ND_fx ((Fx.rf (wr := [2201]) (h := h)).pI ta0 hh68 rfl) rfl rfl p48))
        exact g_iret C hr (nar_z2 (iw (il 1) (by decide) (by decide))).1 (iw (il 1) (by decide) (by decide)) ⟨O74, (((Fx.rf (wr := wr_k3_X11_view)).pI ta0 hh68 rfl).pI e71 hh72 rfl), (iw (il 1) (by decide) (by decide)), (by unfold XInv; rw [e75, e76, e77, e78, e79, e80, (pI_e hh72), e81, e82, e83, e84, e85, e86, e88, e89]; exact ⟨p91, p93, p95, (fun z => absurd z (by decide)), rfl, rfl, (by omega), (by omega), p97, p99, p100⟩), (by unfold vwF; rw [e57]; split <;> omega)⟩ (by decide) (by decide) dX11_view_37
      · refine g_iconst C dX11_view_23 ?_
        refine g_goto C 28 (by decide) dX11_view_24 ?_
        refine gp_I C fk_LandSurvey_9 pk_LandSurvey_1 rfl ta0 (iw (il (-1)) (by decide) (by decide)) (nf_i _) dX11_view_28 (fun h102 hh101 => ?_)
        have O103 := O.pI ta0 hh101 rI_11_1 (iw (il (-1)) (by decide) (by decide)) nofun
        refine g_aload_n C rfl 0 rfl dX11_view_31 ?_
        refine g_iconst C dX11_view_32 ?_
        have e104 : Tg h102 a0 = 11 := ((pIT hh101).trans ta0)
        refine gp_I C fk_LandSurvey_81 pk_LandSurvey_15 rfl e104 (iw (il 0) (by decide) (by decide)) (nar_z2 (iw (il 0) (by decide) (by decide))) dX11_view_33 (fun h106 hh105 => ?_)
        have O107 := O103.pI e104 hh105 rI_11_15 (iw (il 0) (by decide) (by decide)) nofun
        refine g_iconst C dX11_view_36 ?_
        have e108 : Rv h106 a0 3 = v1 := ((pIR hh105).trans ((pIR hh101).trans e2))
        have e109 : Iv h106 a0 4 = v5 := ((pI_j hh105 (by decide)).trans ((pI_j hh101 (by decide)).trans e6))
        have e110 : Rv h106 a0 8 = v8 := ((pIR hh105).trans ((pIR hh101).trans e9))
        have e111 : Iv h106 a0 9 = v12 := ((pI_j hh105 (by decide)).trans ((pI_j hh101 (by decide)).trans e13))
        have e112 : Rv h106 a0 11 = v15 := ((pIR hh105).trans ((pIR hh101).trans e16))
        have e113 : Iv h106 a0 12 = v19 := ((pI_j hh105 (by decide)).trans ((pI_j hh101 (by decide)).trans e20))
        have e114 : Rv h106 a0 14 = v25 := ((pIR hh105).trans ((pIR hh101).trans e26))
        have e115 : Rv h106 a0 13 = v29 := ((pIR hh105).trans ((pIR hh101).trans e30))
        have e116 : Rv h106 a0 6 = v32 := ((pIR hh105).trans ((pIR hh101).trans e33))
        have e117 : Rv h106 a0 7 = v35 := ((pIR hh105).trans ((pIR hh101).trans e36))
        have e118 : Rv h106 v29 1 = v1 := ((pIR hh105).trans ((pIR hh101).trans p42))
        have e119 : Rv h106 v29 2 = v8 := ((pIR hh105).trans ((pIR hh101).trans p43))
        have e120 : Tg h102 v29 = 7 := ((pIT hh101).trans t31)
        have e121 : Iv h106 v29 3 = v50 := ((pI_n hh105 (ne_tag e120 e104 (by decide))).trans ((pI_n hh101 (ne_tag t31 ta0 (by decide))).trans e51))
        have e122 : Iv h106 v29 4 = v53 := ((pI_n hh105 (ne_tag e120 e104 (by decide))).trans ((pI_n hh101 (ne_tag t31 ta0 (by decide))).trans e54))
        have e123 : Tg h102 v1 = 38104 := ((pIT hh101).trans t3)
        have p124 := (SOK_fx O103 ((Fx.rf (wr := [2215]) (h := h102)).pI e104 hh105 rfl) e123 rfl rfl rfl (SOK_fx O ((Fx.rf (wr := [2201]) (h := h)).pI ta0 hh101 rfl) t3 rfl rfl rfl p38))
        have e125 : Tg h102 v8 = 39105 := ((pIT hh101).trans t10)
        have p126 := (BOK_fx O103 ((Fx.rf (wr := [2215]) (h := h102)).pI e104 hh105 rfl) e125 rfl rfl rfl rfl (BOK_fx O ((Fx.rf (wr := [2201]) (h := h)).pI ta0 hh101 rfl) t10 rfl rfl rfl rfl p39))
        have e127 : Tg h102 v15 = 48106 := ((pIT hh101).trans t17)
        have p128 := (NN_fx ((Fx.rf (wr := [2215]) (h := h102)).pI e104 hh105 rfl) e127 ar_48106 rfl (NN_fx ((Fx.rf (wr := [2201]) (h := h)).pI ta0 hh101 rfl) t17 ar_48106 rfl p40))
        have e129 : Tg h102 v32 = 5 := ((pIT hh101).trans t34)
        have p130 := (BkOk_fx O103 ((Fx.rf (wr := [2215]) (h := h102)).pI e104 hh105 rfl) e129 rfl rfl (BkOk_fx O ((Fx.rf (wr := [2201]) (h := h)).pI ta0 hh101 rfl) t34 rfl rfl p46))
        have e131 : Tg h102 v35 = 6 := ((pIT hh101).trans t37)
        have p132 := (RulesOk_fx O103 ((Fx.rf (wr := [2215]) (h := h102)).pI e104 hh105 rfl) e131 rfl (RulesOk_fx O ((Fx.rf (wr := [2201]) (h := h)).pI ta0 hh101 rfl) t37 rfl p47))
        have p133 := (ND_fx ((Fx.rf (wr := [2215]) (h := h102)).pI e104 hh105 rfl) rfl rfl (ND_fx ((Fx.rf (wr := [2201]) (h := h)).pI ta0 hh101 rfl) rfl rfl p48))
        exact g_iret C hr (nar_z2 (iw (il 1) (by decide) (by decide))).1 (iw (il 1) (by decide) (by decide)) ⟨O107, (((Fx.rf (wr := wr_k3_X11_view)).pI ta0 hh101 rfl).pI e104 hh105 rfl), (iw (il 1) (by decide) (by decide)), (by unfold XInv; rw [e108, e109, e110, e111, e112, e113, (pI_e hh105), e114, e115, e116, e117, e118, e119, e121, e122]; exact ⟨p124, p126, p128, (fun z => absurd z (by decide)), rfl, rfl, (by omega), (by omega), p130, p132, p133⟩), (by unfold vwF; rw [e57]; split <;> omega)⟩ (by decide) (by decide) dX11_view_37
    · have f134 : (1 : Int) ≤ a1 ∧ a1 ≤ (2147483647 : Int) := r_gt f62 f58 q64 (by decide) (by decide)
      refine g_iconst C dX11_view_12 ?_
      exact g_iret C hr (nar_z2 (iw (il 0) (by decide) (by decide))).1 (iw (il 0) (by decide) (by decide)) ⟨O, Fx.rf, (iw (il 0) (by decide) (by decide)), P_XInv, (by unfold vwF; rw [e57]; split <;> omega)⟩ (by decide) (by decide) dX11_view_13
def wr_k3_X11_cell : List Nat := [2215, 2420000, 2620200]
set_option maxRecDepth 100000 in
set_option maxHeartbeats 4000000 in
theorem k3_X11_cell (l : Launch) (D : va_G) (cy : Nat → ClassId) (w : Nat → Nat) (z0 : Nat) {h : Hp} {a0 : Nat} {a1 : Int} {a2 : Int} {a3 : Int} {a4 : Int}  (O : Okh h) (ta0 : Tg h a0 = 11) (fa1 : (-2147483648) ≤ a1 ∧ a1 ≤ 2147483647) (fa2 : (-2147483648) ≤ a2 ∧ a2 ≤ 2147483647) (fa3 : (-2147483648) ≤ a3 ∧ a3 ≤ 2147483647) (fa4 : 0 ≤ a4 ∧ a4 ≤ 1) (P_XInv : XInv h a0) : MI l D cy w z0 yX11_cell cX11_cell 6 (some .boolean) 1 21 0 0 [.inr (.inr a0), .inl a1, .inl a2, .inl a3, .inl a4] h (fun v h1 => Okh h1 ∧ Fx wr_k3_X11_cell h h1 ∧ (0 ≤ v ∧ v ≤ 1) ∧ (XInv h1 a0) ∧ (v = ceF a1 a2 a3)) := by
  obtain ⟨v1, e2⟩ : ∃ z, Rv h a0 3 = z := ⟨_, rfl⟩
  have t3 := ok_R O ta0 rE_11_3 e2
  have l4 := ok_L O ta0 rE_11_3 e2
  obtain ⟨v5, e6⟩ : ∃ z, Iv h a0 4 = z := ⟨_, rfl⟩
  have f7 := ok_I O ta0 rI_11_4 e6
  obtain ⟨v8, e9⟩ : ∃ z, Rv h a0 8 = z := ⟨_, rfl⟩
  have t10 := ok_R O ta0 rE_11_8 e9
  have l11 := ok_L O ta0 rE_11_8 e9
  obtain ⟨v12, e13⟩ : ∃ z, Iv h a0 9 = z := ⟨_, rfl⟩
  have f14 := ok_I O ta0 rI_11_9 e13
  obtain ⟨v15, e16⟩ : ∃ z, Rv h a0 11 = z := ⟨_, rfl⟩
  have t17 := ok_R O ta0 rE_11_11 e16
  have l18 := ok_L O ta0 rE_11_11 e16
  obtain ⟨v19, e20⟩ : ∃ z, Iv h a0 12 = z := ⟨_, rfl⟩
  have f21 := ok_I O ta0 rI_11_12 e20
  obtain ⟨v22, e23⟩ : ∃ z, Iv h a0 15 = z := ⟨_, rfl⟩
  have f24 := ok_I O ta0 rI_11_15 e23
  obtain ⟨v25, e26⟩ : ∃ z, Rv h a0 14 = z := ⟨_, rfl⟩
  have t27 := ok_R O ta0 rE_11_14 e26
  have l28 := ok_L O ta0 rE_11_14 e26
  obtain ⟨v29, e30⟩ : ∃ z, Rv h a0 13 = z := ⟨_, rfl⟩
  have t31 := ok_R O ta0 rE_11_13 e30
  obtain ⟨v32, e33⟩ : ∃ z, Rv h a0 6 = z := ⟨_, rfl⟩
  have t34 := ok_R O ta0 rE_11_6 e33
  obtain ⟨v35, e36⟩ : ∃ z, Rv h a0 7 = z := ⟨_, rfl⟩
  have t37 := ok_R O ta0 rE_11_7 e36
  have p49 := P_XInv
  unfold XInv at p49
  rw [e2, e6, e9, e13, e16, e20, e23, e26, e30, e33, e36] at p49
  obtain ⟨p38, p39, p40, p41, p42, p43, p44, p45, p46, p47, p48⟩ := p49
  obtain ⟨v50, e51⟩ : ∃ z, Iv h v29 3 = z := ⟨_, rfl⟩
  have f52 := ok_I O t31 rI_7_3 e51
  obtain ⟨v53, e54⟩ : ∃ z, Iv h v29 4 = z := ⟨_, rfl⟩
  have f55 := ok_I O t31 rI_7_4 e54
  rw [e51] at p44
  rw [e54] at p45
  refine hm_go (by decide +kernel) (Nat.le_of_ble_eq_true rfl) (fun p e s m below meth c C hr hn => ?_)
  refine g_iload_n C rfl 1 rfl dX11_cell_0 ?_
  refine g_iload_n C rfl 2 rfl dX11_cell_1 ?_
  refine g_callI (st := []) (gc_S C lk_LandSurvey_85 (k2_X11_cellAt l D cy w z0 O fa1 fa2) rfl ⟨by decide, by decide⟩ (Nat.le_of_ble_eq_true rfl) dX11_cell_2 ⟨(by decide), (by decide)⟩) (fun r56 h57 f59 K58 => ?_)
  obtain ⟨O60, F61, f62, p63⟩ := K58
  refine g_istore C [(5, .inl r56), (0, .inr (.inr a0)), (1, .inl a1), (2, .inl a2), (3, .inl a3), (4, .inl a4)] (by decide) rfl dX11_cell_5 ?_
  refine g_iload C 0 rfl dX11_cell_7 ?_
  refine g_iconst C dX11_cell_9 ?_
  refine g_icmp_eq C (iw f62 (by decide) (by decide)) (iw (il (-1)) (by decide) (by decide)) 24 (by decide) dX11_cell_10 (fun q64 => ?_) (fun q65 => ?_)
  · have f66 : (-1 : Int) ≤ r56 ∧ r56 ≤ (-1 : Int) := ii f62 (r_eq (il (-1)) q64) (by decide) (by decide)
    refine g_iconst C dX11_cell_24 ?_
    have p67 := (XInv_fx O F61 ta0 rfl P_XInv)
    exact g_iret C hr (nar_z2 (iw (il 0) (by decide) (by decide))).1 (iw (il 0) (by decide) (by decide)) ⟨O60, ((Fx.rf (wr := wr_k3_X11_cell)).call F61 rfl), (iw (il 0) (by decide) (by decide)), p67, (by unfold ceF; split <;> omega)⟩ (by decide) (by decide) dX11_cell_25
  · have f68 : (0 : Int) ≤ r56 ∧ r56 ≤ (95 : Int) := r_nl f62 q65
    refine g_iload_n C rfl 4 rfl dX11_cell_13 ?_
    refine g_if_lt C fa3 24 (by decide) dX11_cell_14 (fun q69 => ?_) (fun q70 => ?_)
    · have f71 : (-2147483648 : Int) ≤ a3 ∧ a3 ≤ (-1 : Int) := r_lt fa3 (il 0) q69 (by decide) (by decide)
      refine g_iconst C dX11_cell_24 ?_
      have p72 := (XInv_fx O F61 ta0 rfl P_XInv)
      exact g_iret C hr (nar_z2 (iw (il 0) (by decide) (by decide))).1 (iw (il 0) (by decide) (by decide)) ⟨O60, ((Fx.rf (wr := wr_k3_X11_cell)).call F61 rfl), (iw (il 0) (by decide) (by decide)), p72, (by unfold ceF; split <;> omega)⟩ (by decide) (by decide) dX11_cell_25
    · have f73 : (0 : Int) ≤ a3 ∧ a3 ≤ (2147483647 : Int) := r_ge fa3 (il 0) q70 (by decide) (by decide)
      refine g_iload_n C rfl 4 rfl dX11_cell_17 ?_
      refine g_sipush C (by decide) dX11_cell_18 ?_
      refine g_icmp_le C (iw f73 (by decide) (by decide)) (iw (il 999) (by decide) (by decide)) 26 (by decide) dX11_cell_21 (fun q74 => ?_) (fun q75 => ?_)
      · have f76 : (0 : Int) ≤ a3 ∧ a3 ≤ (999 : Int) := r_le f73 (il 999) q74 (by decide) (by decide)
        refine g_aload_n C rfl 1 rfl dX11_cell_26 ?_
        have e77 : Tg h57 a0 = 11 := (fxT F61 ta0)
        obtain ⟨v78, e79⟩ : ∃ z, Rv h57 a0 2 = z := ⟨_, rfl⟩
        have t80 := ok_R O60 e77 rE_11_2 e79
        refine gf_R C fk_LandSurvey_16 rfl e77 e79 dX11_cell_27 ?_
        obtain ⟨v81, e82⟩ : ∃ z, Rv h57 v78 0 = z := ⟨_, rfl⟩
        have t83 := ok_R O60 t80 rE_3_0 e82
        have l84 := ok_L O60 t80 rE_3_0 e82
        refine gf_R C fk_LandSurvey_89 rfl t80 e82 dX11_cell_30 ?_
        refine g_iload C 0 rfl dX11_cell_33 ?_
        refine g_iload_n C rfl 4 rfl dX11_cell_35 ?_
        refine g_iast C t83 rfl l84 (ix f68 (by decide) (by decide)) (iw f76 (by decide) (by decide)) dX11_cell_36 (fun h86 hh85 => ?_)
        have O87 := O60.pIa t83 ar_12100 hh85 rI_12100_0 f76 nofun
        refine g_aload_n C rfl 1 rfl dX11_cell_37 ?_
        have e88 : Tg h86 a0 = 11 := ((pIT hh85).trans e77)
        have e89 : Rv h86 a0 2 = v78 := ((pIR hh85).trans e79)
        refine gf_R C fk_LandSurvey_16 rfl e88 e89 dX11_cell_38 ?_
        have e90 : Tg h86 v78 = 3 := ((pIT hh85).trans t80)
        obtain ⟨v91, e92⟩ : ∃ z, Rv h86 v78 1 = z := ⟨_, rfl⟩
        have t93 := ok_R O87 e90 rE_3_1 e92
        have l94 := ok_L O87 e90 rE_3_1 e92
        refine gf_R C fk_LandSurvey_92 rfl e90 e92 dX11_cell_41 ?_
        refine g_iload C 0 rfl dX11_cell_44 ?_
        refine g_iload C 5 rfl dX11_cell_46 ?_
        refine g_if_ne C (iw fa4 (by decide) (by decide)) 55 (by decide) dX11_cell_48 (fun q95 => ?_) (fun q96 => ?_)
        · have f97 : (1 : Int) ≤ a4 ∧ a4 ≤ (1 : Int) := r_nl fa4 q95
          refine g_iconst C dX11_cell_55 ?_
          refine g_zast C t93 rfl l94 (ix f68 (by decide) (by decide)) (iw (il 0) (by decide) (by decide)) dX11_cell_56 (fun h99 hh98 => ?_)
          have O100 := O87.pIa t93 ar_13101 hh98 rI_13101_0 (iw (il 0) (by decide) (by decide)) nofun
          refine g_aload_n C rfl 1 rfl dX11_cell_57 ?_
          refine g_iconst C dX11_cell_58 ?_
          have e101 : Tg h99 a0 = 11 := ((pIT hh98).trans e88)
          refine gp_I C fk_LandSurvey_81 pk_LandSurvey_15 rfl e101 (iw (il 0) (by decide) (by decide)) (nar_z2 (iw (il 0) (by decide) (by decide))) dX11_cell_59 (fun h103 hh102 => ?_)
          have O104 := O100.pI e101 hh102 rI_11_15 (iw (il 0) (by decide) (by decide)) nofun
          refine g_iconst C dX11_cell_62 ?_
          have e105 : Rv h103 a0 3 = v1 := ((pIR hh102).trans ((pIR hh98).trans ((pIR hh85).trans ((fxR F61 ta0 rfl).trans e2))))
          have e106 : Iv h103 a0 4 = v5 := ((pI_j hh102 (by decide)).trans ((pI_n hh98 (ne_tag e88 t93 (by decide))).trans ((pI_n hh85 (ne_tag e77 t83 (by decide))).trans ((fxI F61 ta0 rfl).trans e6))))
          have e107 : Rv h103 a0 8 = v8 := ((pIR hh102).trans ((pIR hh98).trans ((pIR hh85).trans ((fxR F61 ta0 rfl).trans e9))))
          have e108 : Iv h103 a0 9 = v12 := ((pI_j hh102 (by decide)).trans ((pI_n hh98 (ne_tag e88 t93 (by decide))).trans ((pI_n hh85 (ne_tag e77 t83 (by decide))).trans ((fxI F61 ta0 rfl).trans e13))))
          have e109 : Rv h103 a0 11 = v15 := ((pIR hh102).trans ((pIR hh98).trans ((pIR hh85).trans ((fxR F61 ta0 rfl).trans e16))))
          have e110 : Iv h103 a0 12 = v19 := ((pI_j hh102 (by decide)).trans ((pI_n hh98 (ne_tag e88 t93 (by decide))).trans ((pI_n hh85 (ne_tag e77 t83 (by decide))).trans ((fxI F61 ta0 rfl).trans e20))))
          have e111 : Rv h103 a0 14 = v25 := ((pIR hh102).trans ((pIR hh98).trans ((pIR hh85).trans ((fxR F61 ta0 rfl).trans e26))))
          have e112 : Rv h103 a0 13 = v29 := ((pIR hh102).trans ((pIR hh98).trans ((pIR hh85).trans ((fxR F61 ta0 rfl).trans e30))))
          have e113 : Rv h103 a0 6 = v32 := ((pIR hh102).trans ((pIR hh98).trans ((pIR hh85).trans ((fxR F61 ta0 rfl).trans e33))))
          have e114 : Rv h103 a0 7 = v35 := ((pIR hh102).trans ((pIR hh98).trans ((pIR hh85).trans ((fxR F61 ta0 rfl).trans e36))))
          have e115 : Rv h103 v29 1 = v1 := ((pIR hh102).trans ((pIR hh98).trans ((pIR hh85).trans ((fxR F61 t31 rfl).trans p42))))
          have e116 : Rv h103 v29 2 = v8 := ((pIR hh102).trans ((pIR hh98).trans ((pIR hh85).trans ((fxR F61 t31 rfl).trans p43))))
          have e117 : Tg h57 v29 = 7 := (fxT F61 t31)
          have e118 : Tg h86 v29 = 7 := ((pIT hh85).trans e117)
          have e119 : Tg h99 v29 = 7 := ((pIT hh98).trans e118)
          have e120 : Iv h103 v29 3 = v50 := ((pI_n hh102 (ne_tag e119 e101 (by decide))).trans ((pI_n hh98 (ne_tag e118 t93 (by decide))).trans ((pI_n hh85 (ne_tag e117 t83 (by decide))).trans ((fxI F61 t31 rfl).trans e51))))
          have e121 : Iv h103 v29 4 = v53 := ((pI_n hh102 (ne_tag e119 e101 (by decide))).trans ((pI_n hh98 (ne_tag e118 t93 (by decide))).trans ((pI_n hh85 (ne_tag e117 t83 (by decide))).trans ((fxI F61 t31 rfl).trans e54))))
          have e122 : Tg h57 v1 = 38104 := (fxT F61 t3)
          have e123 : Tg h86 v1 = 38104 := ((pIT hh85).trans e122)
          have e124 : Tg h99 v1 = 38104 := ((pIT hh98).trans e123)
          have p125 := (SOK_fx O100 ((Fx.rf (wr := [2215]) (h := h99)).pI e101 hh102 rfl) e124 rfl rfl rfl (SOK_fx O87 ((Fx.rf (wr := [2620200]) (h := h86)).pIa t93 ar_13101 hh98 rfl) e123 rfl rfl rfl (SOK_fx O60 ((Fx.rf (wr := [2420000]) (h := h57)).pIa t83 ar_12100 hh85 rfl) e122 rfl rfl rfl (SOK_fx O F61 t3 rfl rfl rfl p38))))
          have e126 : Tg h57 v8 = 39105 := (fxT F61 t10)
          have e127 : Tg h86 v8 = 39105 := ((pIT hh85).trans e126)
          have e128 : Tg h99 v8 = 39105 := ((pIT hh98).trans e127)
          have p129 := (BOK_fx O100 ((Fx.rf (wr := [2215]) (h := h99)).pI e101 hh102 rfl) e128 rfl rfl rfl rfl (BOK_fx O87 ((Fx.rf (wr := [2620200]) (h := h86)).pIa t93 ar_13101 hh98 rfl) e127 rfl rfl rfl rfl (BOK_fx O60 ((Fx.rf (wr := [2420000]) (h := h57)).pIa t83 ar_12100 hh85 rfl) e126 rfl rfl rfl rfl (BOK_fx O F61 t10 rfl rfl rfl rfl p39))))
          have e130 : Tg h57 v15 = 48106 := (fxT F61 t17)
          have e131 : Tg h86 v15 = 48106 := ((pIT hh85).trans e130)
          have e132 : Tg h99 v15 = 48106 := ((pIT hh98).trans e131)
          have p133 := (NN_fx ((Fx.rf (wr := [2215]) (h := h99)).pI e101 hh102 rfl) e132 ar_48106 rfl (NN_fx ((Fx.rf (wr := [2620200]) (h := h86)).pIa t93 ar_13101 hh98 rfl) e131 ar_48106 rfl (NN_fx ((Fx.rf (wr := [2420000]) (h := h57)).pIa t83 ar_12100 hh85 rfl) e130 ar_48106 rfl (NN_fx F61 t17 ar_48106 rfl p40))))
          have e134 : Tg h57 v32 = 5 := (fxT F61 t34)
          have e135 : Tg h86 v32 = 5 := ((pIT hh85).trans e134)
          have e136 : Tg h99 v32 = 5 := ((pIT hh98).trans e135)
          have p137 := (BkOk_fx O100 ((Fx.rf (wr := [2215]) (h := h99)).pI e101 hh102 rfl) e136 rfl rfl (BkOk_fx O87 ((Fx.rf (wr := [2620200]) (h := h86)).pIa t93 ar_13101 hh98 rfl) e135 rfl rfl (BkOk_fx O60 ((Fx.rf (wr := [2420000]) (h := h57)).pIa t83 ar_12100 hh85 rfl) e134 rfl rfl (BkOk_fx O F61 t34 rfl rfl p46))))
          have e138 : Tg h57 v35 = 6 := (fxT F61 t37)
          have e139 : Tg h86 v35 = 6 := ((pIT hh85).trans e138)
          have e140 : Tg h99 v35 = 6 := ((pIT hh98).trans e139)
          have p141 := (RulesOk_fx O100 ((Fx.rf (wr := [2215]) (h := h99)).pI e101 hh102 rfl) e140 rfl (RulesOk_fx O87 ((Fx.rf (wr := [2620200]) (h := h86)).pIa t93 ar_13101 hh98 rfl) e139 rfl (RulesOk_fx O60 ((Fx.rf (wr := [2420000]) (h := h57)).pIa t83 ar_12100 hh85 rfl) e138 rfl (RulesOk_fx O F61 t37 rfl p47))))
          have p142 := (ND_fx ((Fx.rf (wr := [2215]) (h := h99)).pI e101 hh102 rfl) rfl rfl (ND_fx ((Fx.rf (wr := [2620200]) (h := h86)).pIa t93 ar_13101 hh98 rfl) rfl rfl (ND_fx ((Fx.rf (wr := [2420000]) (h := h57)).pIa t83 ar_12100 hh85 rfl) rfl rfl (ND_fx F61 rfl rfl p48))))
          exact g_iret C hr (nar_z2 (iw (il 1) (by decide) (by decide))).1 (iw (il 1) (by decide) (by decide)) ⟨O104, (((((Fx.rf (wr := wr_k3_X11_cell)).call F61 rfl).pIa t83 ar_12100 hh85 rfl).pIa t93 ar_13101 hh98 rfl).pI e101 hh102 rfl), (iw (il 1) (by decide) (by decide)), (by unfold XInv; rw [e105, e106, e107, e108, e109, e110, (pI_e hh102), e111, e112, e113, e114, e115, e116, e120, e121]; exact ⟨p125, p129, p133, (fun z => absurd z (by decide)), rfl, rfl, (by omega), (by omega), p137, p141, p142⟩), (by unfold ceF; split <;> omega)⟩ (by decide) (by decide) dX11_cell_63
        · have f143 : (0 : Int) ≤ a4 ∧ a4 ≤ (0 : Int) := ii fa4 (r_eq (il 0) q96) (by decide) (by decide)
          refine g_iconst C dX11_cell_51 ?_
          refine g_goto C 56 (by decide) dX11_cell_52 ?_
          refine g_zast C t93 rfl l94 (ix f68 (by decide) (by decide)) (iw (il 1) (by decide) (by decide)) dX11_cell_56 (fun h145 hh144 => ?_)
          have O146 := O87.pIa t93 ar_13101 hh144 rI_13101_0 (iw (il 1) (by decide) (by decide)) nofun
          refine g_aload_n C rfl 1 rfl dX11_cell_57 ?_
          refine g_iconst C dX11_cell_58 ?_
          have e147 : Tg h145 a0 = 11 := ((pIT hh144).trans e88)
          refine gp_I C fk_LandSurvey_81 pk_LandSurvey_15 rfl e147 (iw (il 0) (by decide) (by decide)) (nar_z2 (iw (il 0) (by decide) (by decide))) dX11_cell_59 (fun h149 hh148 => ?_)
          have O150 := O146.pI e147 hh148 rI_11_15 (iw (il 0) (by decide) (by decide)) nofun
          refine g_iconst C dX11_cell_62 ?_
          have e151 : Rv h149 a0 3 = v1 := ((pIR hh148).trans ((pIR hh144).trans ((pIR hh85).trans ((fxR F61 ta0 rfl).trans e2))))
          have e152 : Iv h149 a0 4 = v5 := ((pI_j hh148 (by decide)).trans ((pI_n hh144 (ne_tag e88 t93 (by decide))).trans ((pI_n hh85 (ne_tag e77 t83 (by decide))).trans ((fxI F61 ta0 rfl).trans e6))))
          have e153 : Rv h149 a0 8 = v8 := ((pIR hh148).trans ((pIR hh144).trans ((pIR hh85).trans ((fxR F61 ta0 rfl).trans e9))))
          have e154 : Iv h149 a0 9 = v12 := ((pI_j hh148 (by decide)).trans ((pI_n hh144 (ne_tag e88 t93 (by decide))).trans ((pI_n hh85 (ne_tag e77 t83 (by decide))).trans ((fxI F61 ta0 rfl).trans e13))))
          have e155 : Rv h149 a0 11 = v15 := ((pIR hh148).trans ((pIR hh144).trans ((pIR hh85).trans ((fxR F61 ta0 rfl).trans e16))))
          have e156 : Iv h149 a0 12 = v19 := ((pI_j hh148 (by decide)).trans ((pI_n hh144 (ne_tag e88 t93 (by decide))).trans ((pI_n hh85 (ne_tag e77 t83 (by decide))).trans ((fxI F61 ta0 rfl).trans e20))))
          have e157 : Rv h149 a0 14 = v25 := ((pIR hh148).trans ((pIR hh144).trans ((pIR hh85).trans ((fxR F61 ta0 rfl).trans e26))))
          have e158 : Rv h149 a0 13 = v29 := ((pIR hh148).trans ((pIR hh144).trans ((pIR hh85).trans ((fxR F61 ta0 rfl).trans e30))))
          have e159 : Rv h149 a0 6 = v32 := ((pIR hh148).trans ((pIR hh144).trans ((pIR hh85).trans ((fxR F61 ta0 rfl).trans e33))))
          have e160 : Rv h149 a0 7 = v35 := ((pIR hh148).trans ((pIR hh144).trans ((pIR hh85).trans ((fxR F61 ta0 rfl).trans e36))))
          have e161 : Rv h149 v29 1 = v1 := ((pIR hh148).trans ((pIR hh144).trans ((pIR hh85).trans ((fxR F61 t31 rfl).trans p42))))
          have e162 : Rv h149 v29 2 = v8 := ((pIR hh148).trans ((pIR hh144).trans ((pIR hh85).trans ((fxR F61 t31 rfl).trans p43))))
          have e163 : Tg h57 v29 = 7 := (fxT F61 t31)
          have e164 : Tg h86 v29 = 7 := ((pIT hh85).trans e163)
          have e165 : Tg h145 v29 = 7 := ((pIT hh144).trans e164)
          have e166 : Iv h149 v29 3 = v50 := ((pI_n hh148 (ne_tag e165 e147 (by decide))).trans ((pI_n hh144 (ne_tag e164 t93 (by decide))).trans ((pI_n hh85 (ne_tag e163 t83 (by decide))).trans ((fxI F61 t31 rfl).trans e51))))
          have e167 : Iv h149 v29 4 = v53 := ((pI_n hh148 (ne_tag e165 e147 (by decide))).trans ((pI_n hh144 (ne_tag e164 t93 (by decide))).trans ((pI_n hh85 (ne_tag e163 t83 (by decide))).trans ((fxI F61 t31 rfl).trans e54))))
          have e168 : Tg h57 v1 = 38104 := (fxT F61 t3)
          have e169 : Tg h86 v1 = 38104 := ((pIT hh85).trans e168)
          have e170 : Tg h145 v1 = 38104 := ((pIT hh144).trans e169)
          have p171 := (SOK_fx O146 ((Fx.rf (wr := [2215]) (h := h145)).pI e147 hh148 rfl) e170 rfl rfl rfl (SOK_fx O87 ((Fx.rf (wr := [2620200]) (h := h86)).pIa t93 ar_13101 hh144 rfl) e169 rfl rfl rfl (SOK_fx O60 ((Fx.rf (wr := [2420000]) (h := h57)).pIa t83 ar_12100 hh85 rfl) e168 rfl rfl rfl (SOK_fx O F61 t3 rfl rfl rfl p38))))
          have e172 : Tg h57 v8 = 39105 := (fxT F61 t10)
          have e173 : Tg h86 v8 = 39105 := ((pIT hh85).trans e172)
          have e174 : Tg h145 v8 = 39105 := ((pIT hh144).trans e173)
          have p175 := (BOK_fx O146 ((Fx.rf (wr := [2215]) (h := h145)).pI e147 hh148 rfl) e174 rfl rfl rfl rfl (BOK_fx O87 ((Fx.rf (wr := [2620200]) (h := h86)).pIa t93 ar_13101 hh144 rfl) e173 rfl rfl rfl rfl (BOK_fx O60 ((Fx.rf (wr := [2420000]) (h := h57)).pIa t83 ar_12100 hh85 rfl) e172 rfl rfl rfl rfl (BOK_fx O F61 t10 rfl rfl rfl rfl p39))))
          have e176 : Tg h57 v15 = 48106 := (fxT F61 t17)
          have e177 : Tg h86 v15 = 48106 := ((pIT hh85).trans e176)
          have e178 : Tg h145 v15 = 48106 := ((pIT hh144).trans e177)
          have p179 := (NN_fx ((Fx.rf (wr := [2215]) (h := h145)).pI e147 hh148 rfl) e178 ar_48106 rfl (NN_fx ((Fx.rf (wr := [2620200]) (h := h86)).pIa t93 ar_13101 hh144 rfl) e177 ar_48106 rfl (NN_fx ((Fx.rf (wr := [2420000]) (h := h57)).pIa t83 ar_12100 hh85 rfl) e176 ar_48106 rfl (NN_fx F61 t17 ar_48106 rfl p40))))
          have e180 : Tg h57 v32 = 5 := (fxT F61 t34)
          have e181 : Tg h86 v32 = 5 := ((pIT hh85).trans e180)
          have e182 : Tg h145 v32 = 5 := ((pIT hh144).trans e181)
          have p183 := (BkOk_fx O146 ((Fx.rf (wr := [2215]) (h := h145)).pI e147 hh148 rfl) e182 rfl rfl (BkOk_fx O87 ((Fx.rf (wr := [2620200]) (h := h86)).pIa t93 ar_13101 hh144 rfl) e181 rfl rfl (BkOk_fx O60 ((Fx.rf (wr := [2420000]) (h := h57)).pIa t83 ar_12100 hh85 rfl) e180 rfl rfl (BkOk_fx O F61 t34 rfl rfl p46))))
          have e184 : Tg h57 v35 = 6 := (fxT F61 t37)
          have e185 : Tg h86 v35 = 6 := ((pIT hh85).trans e184)
          have e186 : Tg h145 v35 = 6 := ((pIT hh144).trans e185)
          have p187 := (RulesOk_fx O146 ((Fx.rf (wr := [2215]) (h := h145)).pI e147 hh148 rfl) e186 rfl (RulesOk_fx O87 ((Fx.rf (wr := [2620200]) (h := h86)).pIa t93 ar_13101 hh144 rfl) e185 rfl (RulesOk_fx O60 ((Fx.rf (wr := [2420000]) (h := h57)).pIa t83 ar_12100 hh85 rfl) e184 rfl (RulesOk_fx O F61 t37 rfl p47))))
          have p188 := (ND_fx ((Fx.rf (wr := [2215]) (h := h145)).pI e147 hh148 rfl) rfl rfl (ND_fx ((Fx.rf (wr := [2620200]) (h := h86)).pIa t93 ar_13101 hh144 rfl) rfl rfl (ND_fx ((Fx.rf (wr := [2420000]) (h := h57)).pIa t83 ar_12100 hh85 rfl) rfl rfl (ND_fx F61 rfl rfl p48))))
          exact g_iret C hr (nar_z2 (iw (il 1) (by decide) (by decide))).1 (iw (il 1) (by decide) (by decide)) ⟨O150, (((((Fx.rf (wr := wr_k3_X11_cell)).call F61 rfl).pIa t83 ar_12100 hh85 rfl).pIa t93 ar_13101 hh144 rfl).pI e147 hh148 rfl), (iw (il 1) (by decide) (by decide)), (by unfold XInv; rw [e151, e152, e153, e154, e155, e156, (pI_e hh148), e157, e158, e159, e160, e161, e162, e166, e167]; exact ⟨p171, p175, p179, (fun z => absurd z (by decide)), rfl, rfl, (by omega), (by omega), p183, p187, p188⟩), (by unfold ceF; split <;> omega)⟩ (by decide) (by decide) dX11_cell_63
      · have f189 : (1000 : Int) ≤ a3 ∧ a3 ≤ (2147483647 : Int) := r_gt f73 (il 999) q75 (by decide) (by decide)
        refine g_iconst C dX11_cell_24 ?_
        have p190 := (XInv_fx O F61 ta0 rfl P_XInv)
        exact g_iret C hr (nar_z2 (iw (il 0) (by decide) (by decide))).1 (iw (il 0) (by decide) (by decide)) ⟨O60, ((Fx.rf (wr := wr_k3_X11_cell)).call F61 rfl), (iw (il 0) (by decide) (by decide)), p190, (by unfold ceF; split <;> omega)⟩ (by decide) (by decide) dX11_cell_25
def wr_k3_X11_fold : List Nat := [2215, 2820200]
set_option maxRecDepth 100000 in
set_option maxHeartbeats 4000000 in
theorem k3_X11_fold (l : Launch) (D : va_G) (cy : Nat → ClassId) (w : Nat → Nat) (z0 : Nat) {h : Hp} {a0 : Nat} {a1 : Int} {a2 : Int} {a3 : Int}  (O : Okh h) (ta0 : Tg h a0 = 11) (fa1 : (-2147483648) ≤ a1 ∧ a1 ≤ 2147483647) (fa2 : (-2147483648) ≤ a2 ∧ a2 ≤ 2147483647) (fa3 : 0 ≤ a3 ∧ a3 ≤ 1) (P_XInv : XInv h a0) : MI l D cy w z0 yX11_fold cX11_fold 5 (some .boolean) 1 21 0 0 [.inr (.inr a0), .inl a1, .inl a2, .inl a3] h (fun v h1 => Okh h1 ∧ Fx wr_k3_X11_fold h h1 ∧ (0 ≤ v ∧ v ≤ 1) ∧ (XInv h1 a0) ∧ (v = foF a1 a2)) := by
  obtain ⟨v1, e2⟩ : ∃ z, Rv h a0 3 = z := ⟨_, rfl⟩
  have t3 := ok_R O ta0 rE_11_3 e2
  have l4 := ok_L O ta0 rE_11_3 e2
  obtain ⟨v5, e6⟩ : ∃ z, Iv h a0 4 = z := ⟨_, rfl⟩
  have f7 := ok_I O ta0 rI_11_4 e6
  obtain ⟨v8, e9⟩ : ∃ z, Rv h a0 8 = z := ⟨_, rfl⟩
  have t10 := ok_R O ta0 rE_11_8 e9
  have l11 := ok_L O ta0 rE_11_8 e9
  obtain ⟨v12, e13⟩ : ∃ z, Iv h a0 9 = z := ⟨_, rfl⟩
  have f14 := ok_I O ta0 rI_11_9 e13
  obtain ⟨v15, e16⟩ : ∃ z, Rv h a0 11 = z := ⟨_, rfl⟩
  have t17 := ok_R O ta0 rE_11_11 e16
  have l18 := ok_L O ta0 rE_11_11 e16
  obtain ⟨v19, e20⟩ : ∃ z, Iv h a0 12 = z := ⟨_, rfl⟩
  have f21 := ok_I O ta0 rI_11_12 e20
  obtain ⟨v22, e23⟩ : ∃ z, Iv h a0 15 = z := ⟨_, rfl⟩
  have f24 := ok_I O ta0 rI_11_15 e23
  obtain ⟨v25, e26⟩ : ∃ z, Rv h a0 14 = z := ⟨_, rfl⟩
  have t27 := ok_R O ta0 rE_11_14 e26
  have l28 := ok_L O ta0 rE_11_14 e26
  obtain ⟨v29, e30⟩ : ∃ z, Rv h a0 13 = z := ⟨_, rfl⟩
  have t31 := ok_R O ta0 rE_11_13 e30
  obtain ⟨v32, e33⟩ : ∃ z, Rv h a0 6 = z := ⟨_, rfl⟩
  have t34 := ok_R O ta0 rE_11_6 e33
  obtain ⟨v35, e36⟩ : ∃ z, Rv h a0 7 = z := ⟨_, rfl⟩
  have t37 := ok_R O ta0 rE_11_7 e36
  have p49 := P_XInv
  unfold XInv at p49
  rw [e2, e6, e9, e13, e16, e20, e23, e26, e30, e33, e36] at p49
  obtain ⟨p38, p39, p40, p41, p42, p43, p44, p45, p46, p47, p48⟩ := p49
  obtain ⟨v50, e51⟩ : ∃ z, Iv h v29 3 = z := ⟨_, rfl⟩
  have f52 := ok_I O t31 rI_7_3 e51
  obtain ⟨v53, e54⟩ : ∃ z, Iv h v29 4 = z := ⟨_, rfl⟩
  have f55 := ok_I O t31 rI_7_4 e54
  rw [e51] at p44
  rw [e54] at p45
  refine hm_go (by decide +kernel) (Nat.le_of_ble_eq_true rfl) (fun p e s m below meth c C hr hn => ?_)
  refine g_iload_n C rfl 1 rfl dX11_fold_0 ?_
  refine g_iload_n C rfl 2 rfl dX11_fold_1 ?_
  refine g_callI (st := []) (gc_S C lk_LandSurvey_85 (k2_X11_cellAt l D cy w z0 O fa1 fa2) rfl ⟨by decide, by decide⟩ (Nat.le_of_ble_eq_true rfl) dX11_fold_2 ⟨(by decide), (by decide)⟩) (fun r56 h57 f59 K58 => ?_)
  obtain ⟨O60, F61, f62, p63⟩ := K58
  refine g_istore C [(4, .inl r56), (0, .inr (.inr a0)), (1, .inl a1), (2, .inl a2), (3, .inl a3)] (by decide) rfl dX11_fold_5 ?_
  refine g_iload C 0 rfl dX11_fold_7 ?_
  refine g_iconst C dX11_fold_9 ?_
  refine g_icmp_ne C (iw f62 (by decide) (by decide)) (iw (il (-1)) (by decide) (by decide)) 15 (by decide) dX11_fold_10 (fun q64 => ?_) (fun q65 => ?_)
  · have f66 : (0 : Int) ≤ r56 ∧ r56 ≤ (95 : Int) := r_nl f62 q64
    refine g_aload_n C rfl 1 rfl dX11_fold_15 ?_
    have e67 : Tg h57 a0 = 11 := (fxT F61 ta0)
    obtain ⟨v68, e69⟩ : ∃ z, Rv h57 a0 2 = z := ⟨_, rfl⟩
    have t70 := ok_R O60 e67 rE_11_2 e69
    refine gf_R C fk_LandSurvey_16 rfl e67 e69 dX11_fold_16 ?_
    obtain ⟨v71, e72⟩ : ∃ z, Rv h57 v68 2 = z := ⟨_, rfl⟩
    have t73 := ok_R O60 t70 rE_3_2 e72
    have l74 := ok_L O60 t70 rE_3_2 e72
    refine gf_R C fk_LandSurvey_96 rfl t70 e72 dX11_fold_19 ?_
    refine g_iload C 0 rfl dX11_fold_22 ?_
    refine g_iload_n C rfl 4 rfl dX11_fold_24 ?_
    refine g_zast C t73 rfl l74 (ix f66 (by decide) (by decide)) fa3 dX11_fold_25 (fun h76 hh75 => ?_)
    have O77 := O60.pIa t73 ar_14101 hh75 rI_14101_0 fa3 nofun
    refine g_aload_n C rfl 1 rfl dX11_fold_26 ?_
    refine g_iconst C dX11_fold_27 ?_
    have e78 : Tg h76 a0 = 11 := ((pIT hh75).trans e67)
    refine gp_I C fk_LandSurvey_81 pk_LandSurvey_15 rfl e78 (iw (il 0) (by decide) (by decide)) (nar_z2 (iw (il 0) (by decide) (by decide))) dX11_fold_28 (fun h80 hh79 => ?_)
    have O81 := O77.pI e78 hh79 rI_11_15 (iw (il 0) (by decide) (by decide)) nofun
    refine g_iconst C dX11_fold_31 ?_
    have e82 : Rv h80 a0 3 = v1 := ((pIR hh79).trans ((pIR hh75).trans ((fxR F61 ta0 rfl).trans e2)))
    have e83 : Iv h80 a0 4 = v5 := ((pI_j hh79 (by decide)).trans ((pI_n hh75 (ne_tag e67 t73 (by decide))).trans ((fxI F61 ta0 rfl).trans e6)))
    have e84 : Rv h80 a0 8 = v8 := ((pIR hh79).trans ((pIR hh75).trans ((fxR F61 ta0 rfl).trans e9)))
    have e85 : Iv h80 a0 9 = v12 := ((pI_j hh79 (by decide)).trans ((pI_n hh75 (ne_tag e67 t73 (by decide))).trans ((fxI F61 ta0 rfl).trans e13)))
    have e86 : Rv h80 a0 11 = v15 := ((pIR hh79).trans ((pIR hh75).trans ((fxR F61 ta0 rfl).trans e16)))
    have e87 : Iv h80 a0 12 = v19 := ((pI_j hh79 (by decide)).trans ((pI_n hh75 (ne_tag e67 t73 (by decide))).trans ((fxI F61 ta0 rfl).trans e20)))
    have e88 : Rv h80 a0 14 = v25 := ((pIR hh79).trans ((pIR hh75).trans ((fxR F61 ta0 rfl).trans e26)))
    have e89 : Rv h80 a0 13 = v29 := ((pIR hh79).trans ((pIR hh75).trans ((fxR F61 ta0 rfl).trans e30)))
    have e90 : Rv h80 a0 6 = v32 := ((pIR hh79).trans ((pIR hh75).trans ((fxR F61 ta0 rfl).trans e33)))
    have e91 : Rv h80 a0 7 = v35 := ((pIR hh79).trans ((pIR hh75).trans ((fxR F61 ta0 rfl).trans e36)))
    have e92 : Rv h80 v29 1 = v1 := ((pIR hh79).trans ((pIR hh75).trans ((fxR F61 t31 rfl).trans p42)))
    have e93 : Rv h80 v29 2 = v8 := ((pIR hh79).trans ((pIR hh75).trans ((fxR F61 t31 rfl).trans p43)))
    have e94 : Tg h57 v29 = 7 := (fxT F61 t31)
    have e95 : Tg h76 v29 = 7 := ((pIT hh75).trans e94)
    have e96 : Iv h80 v29 3 = v50 := ((pI_n hh79 (ne_tag e95 e78 (by decide))).trans ((pI_n hh75 (ne_tag e94 t73 (by decide))).trans ((fxI F61 t31 rfl).trans e51)))
    have e97 : Iv h80 v29 4 = v53 := ((pI_n hh79 (ne_tag e95 e78 (by decide))).trans ((pI_n hh75 (ne_tag e94 t73 (by decide))).trans ((fxI F61 t31 rfl).trans e54)))
    have e98 : Tg h57 v1 = 38104 := (fxT F61 t3)
    have e99 : Tg h76 v1 = 38104 := ((pIT hh75).trans e98)
    have p100 := (SOK_fx O77 ((Fx.rf (wr := [2215]) (h := h76)).pI e78 hh79 rfl) e99 rfl rfl rfl (SOK_fx O60 ((Fx.rf (wr := [2820200]) (h := h57)).pIa t73 ar_14101 hh75 rfl) e98 rfl rfl rfl (SOK_fx O F61 t3 rfl rfl rfl p38)))
    have e101 : Tg h57 v8 = 39105 := (fxT F61 t10)
    have e102 : Tg h76 v8 = 39105 := ((pIT hh75).trans e101)
    have p103 := (BOK_fx O77 ((Fx.rf (wr := [2215]) (h := h76)).pI e78 hh79 rfl) e102 rfl rfl rfl rfl (BOK_fx O60 ((Fx.rf (wr := [2820200]) (h := h57)).pIa t73 ar_14101 hh75 rfl) e101 rfl rfl rfl rfl (BOK_fx O F61 t10 rfl rfl rfl rfl p39)))
    have e104 : Tg h57 v15 = 48106 := (fxT F61 t17)
    have e105 : Tg h76 v15 = 48106 := ((pIT hh75).trans e104)
    have p106 := (NN_fx ((Fx.rf (wr := [2215]) (h := h76)).pI e78 hh79 rfl) e105 ar_48106 rfl (NN_fx ((Fx.rf (wr := [2820200]) (h := h57)).pIa t73 ar_14101 hh75 rfl) e104 ar_48106 rfl (NN_fx F61 t17 ar_48106 rfl p40)))
    have e107 : Tg h57 v32 = 5 := (fxT F61 t34)
    have e108 : Tg h76 v32 = 5 := ((pIT hh75).trans e107)
    have p109 := (BkOk_fx O77 ((Fx.rf (wr := [2215]) (h := h76)).pI e78 hh79 rfl) e108 rfl rfl (BkOk_fx O60 ((Fx.rf (wr := [2820200]) (h := h57)).pIa t73 ar_14101 hh75 rfl) e107 rfl rfl (BkOk_fx O F61 t34 rfl rfl p46)))
    have e110 : Tg h57 v35 = 6 := (fxT F61 t37)
    have e111 : Tg h76 v35 = 6 := ((pIT hh75).trans e110)
    have p112 := (RulesOk_fx O77 ((Fx.rf (wr := [2215]) (h := h76)).pI e78 hh79 rfl) e111 rfl (RulesOk_fx O60 ((Fx.rf (wr := [2820200]) (h := h57)).pIa t73 ar_14101 hh75 rfl) e110 rfl (RulesOk_fx O F61 t37 rfl p47)))
    have p113 := (ND_fx ((Fx.rf (wr := [2215]) (h := h76)).pI e78 hh79 rfl) rfl rfl (ND_fx ((Fx.rf (wr := [2820200]) (h := h57)).pIa t73 ar_14101 hh75 rfl) rfl rfl (ND_fx F61 rfl rfl p48)))
    exact g_iret C hr (nar_z2 (iw (il 1) (by decide) (by decide))).1 (iw (il 1) (by decide) (by decide)) ⟨O81, ((((Fx.rf (wr := wr_k3_X11_fold)).call F61 rfl).pIa t73 ar_14101 hh75 rfl).pI e78 hh79 rfl), (iw (il 1) (by decide) (by decide)), (by unfold XInv; rw [e82, e83, e84, e85, e86, e87, (pI_e hh79), e88, e89, e90, e91, e92, e93, e96, e97]; exact ⟨p100, p103, p106, (fun z => absurd z (by decide)), rfl, rfl, (by omega), (by omega), p109, p112, p113⟩), (by unfold foF; split <;> omega)⟩ (by decide) (by decide) dX11_fold_32
  · have f114 : (-1 : Int) ≤ r56 ∧ r56 ≤ (-1 : Int) := ii f62 (r_eq (il (-1)) q65) (by decide) (by decide)
    refine g_iconst C dX11_fold_13 ?_
    have p115 := (XInv_fx O F61 ta0 rfl P_XInv)
    exact g_iret C hr (nar_z2 (iw (il 0) (by decide) (by decide))).1 (iw (il 0) (by decide) (by decide)) ⟨O60, ((Fx.rf (wr := wr_k3_X11_fold)).call F61 rfl), (iw (il 0) (by decide) (by decide)), p115, (by unfold foF; split <;> omega)⟩ (by decide) (by decide) dX11_fold_14
def wr_k3_X11_own : List Nat := [3020000]
set_option maxRecDepth 100000 in
set_option maxHeartbeats 4000000 in
theorem k3_X11_own (l : Launch) (D : va_G) (cy : Nat → ClassId) (w : Nat → Nat) (z0 : Nat) {h : Hp} {a0 : Nat} {a1 : Int} {a2 : Int} {a3 : Int}  (O : Okh h) (ta0 : Tg h a0 = 11) (fa1 : (-2147483648) ≤ a1 ∧ a1 ≤ 2147483647) (fa2 : (-2147483648) ≤ a2 ∧ a2 ≤ 2147483647) (fa3 : (-2147483648) ≤ a3 ∧ a3 ≤ 2147483647) : MI l D cy w z0 yX11_own cX11_own 5 (some .boolean) 1 21 0 0 [.inr (.inr a0), .inl a1, .inl a2, .inl a3] h (fun v h1 => Okh h1 ∧ Fx wr_k3_X11_own h h1 ∧ (0 ≤ v ∧ v ≤ 1) ∧ (v = owF a1 a2 a3)) := by
  refine hm_go (by decide +kernel) (Nat.le_of_ble_eq_true rfl) (fun p e s m below meth c C hr hn => ?_)
  refine g_iload_n C rfl 1 rfl dX11_own_0 ?_
  refine g_iload_n C rfl 2 rfl dX11_own_1 ?_
  refine g_callI (st := []) (gc_S C lk_LandSurvey_85 (k2_X11_cellAt l D cy w z0 O fa1 fa2) rfl ⟨by decide, by decide⟩ (Nat.le_of_ble_eq_true rfl) dX11_own_2 ⟨(by decide), (by decide)⟩) (fun r1 h2 f4 K3 => ?_)
  obtain ⟨O5, F6, f7, p8⟩ := K3
  refine g_istore C [(4, .inl r1), (0, .inr (.inr a0)), (1, .inl a1), (2, .inl a2), (3, .inl a3)] (by decide) rfl dX11_own_5 ?_
  refine g_iload C 0 rfl dX11_own_7 ?_
  refine g_iconst C dX11_own_9 ?_
  refine g_icmp_eq C (iw f7 (by decide) (by decide)) (iw (il (-1)) (by decide) (by decide)) 23 (by decide) dX11_own_10 (fun q9 => ?_) (fun q10 => ?_)
  · have f11 : (-1 : Int) ≤ r1 ∧ r1 ≤ (-1 : Int) := ii f7 (r_eq (il (-1)) q9) (by decide) (by decide)
    refine g_iconst C dX11_own_23 ?_
    exact g_iret C hr (nar_z2 (iw (il 0) (by decide) (by decide))).1 (iw (il 0) (by decide) (by decide)) ⟨O5, ((Fx.rf (wr := wr_k3_X11_own)).call F6 rfl), (iw (il 0) (by decide) (by decide)), (by unfold owF; split <;> omega)⟩ (by decide) (by decide) dX11_own_24
  · have f12 : (0 : Int) ≤ r1 ∧ r1 ≤ (95 : Int) := r_nl f7 q10
    refine g_iload_n C rfl 4 rfl dX11_own_13 ?_
    refine g_iconst C dX11_own_14 ?_
    refine g_icmp_lt C fa3 (iw (il (-1)) (by decide) (by decide)) 23 (by decide) dX11_own_15 (fun q13 => ?_) (fun q14 => ?_)
    · have f15 : (-2147483648 : Int) ≤ a3 ∧ a3 ≤ (-2 : Int) := r_lt fa3 (il (-1)) q13 (by decide) (by decide)
      refine g_iconst C dX11_own_23 ?_
      exact g_iret C hr (nar_z2 (iw (il 0) (by decide) (by decide))).1 (iw (il 0) (by decide) (by decide)) ⟨O5, ((Fx.rf (wr := wr_k3_X11_own)).call F6 rfl), (iw (il 0) (by decide) (by decide)), (by unfold owF; split <;> omega)⟩ (by decide) (by decide) dX11_own_24
    · have f16 : (-1 : Int) ≤ a3 ∧ a3 ≤ (2147483647 : Int) := r_ge fa3 (il (-1)) q14 (by decide) (by decide)
      refine g_iload_n C rfl 4 rfl dX11_own_18 ?_
      refine g_iconst C dX11_own_19 ?_
      refine g_icmp_lt C (iw f16 (by decide) (by decide)) (iw (il 4) (by decide) (by decide)) 25 (by decide) dX11_own_20 (fun q17 => ?_) (fun q18 => ?_)
      · have f19 : (-1 : Int) ≤ a3 ∧ a3 ≤ (3 : Int) := r_lt f16 (il 4) q17 (by decide) (by decide)
        refine g_aload_n C rfl 1 rfl dX11_own_25 ?_
        have e20 : Tg h2 a0 = 11 := (fxT F6 ta0)
        obtain ⟨v21, e22⟩ : ∃ z, Rv h2 a0 2 = z := ⟨_, rfl⟩
        have t23 := ok_R O5 e20 rE_11_2 e22
        refine gf_R C fk_LandSurvey_16 rfl e20 e22 dX11_own_26 ?_
        obtain ⟨v24, e25⟩ : ∃ z, Rv h2 v21 3 = z := ⟨_, rfl⟩
        have t26 := ok_R O5 t23 rE_3_3 e25
        have l27 := ok_L O5 t23 rE_3_3 e25
        refine gf_R C fk_LandSurvey_99 rfl t23 e25 dX11_own_29 ?_
        refine g_iload C 0 rfl dX11_own_32 ?_
        refine g_iload_n C rfl 4 rfl dX11_own_34 ?_
        refine g_iast C t26 rfl l27 (ix f12 (by decide) (by decide)) (iw f19 (by decide) (by decide)) dX11_own_35 (fun h29 hh28 => ?_)
        have O30 := O5.pIa t26 ar_15100 hh28 rI_15100_0 f19 nofun
        refine g_iconst C dX11_own_36 ?_
        exact g_iret C hr (nar_z2 (iw (il 1) (by decide) (by decide))).1 (iw (il 1) (by decide) (by decide)) ⟨O30, (((Fx.rf (wr := wr_k3_X11_own)).call F6 rfl).pIa t26 ar_15100 hh28 rfl), (iw (il 1) (by decide) (by decide)), (by unfold owF; split <;> omega)⟩ (by decide) (by decide) dX11_own_37
      · have f31 : (4 : Int) ≤ a3 ∧ a3 ≤ (2147483647 : Int) := r_ge f16 (il 4) q18 (by decide) (by decide)
        refine g_iconst C dX11_own_23 ?_
        exact g_iret C hr (nar_z2 (iw (il 0) (by decide) (by decide))).1 (iw (il 0) (by decide) (by decide)) ⟨O5, ((Fx.rf (wr := wr_k3_X11_own)).call F6 rfl), (iw (il 0) (by decide) (by decide)), (by unfold owF; split <;> omega)⟩ (by decide) (by decide) dX11_own_24
def wr_k3_X11_rivalry : List Nat := [2210]
set_option maxRecDepth 100000 in
set_option maxHeartbeats 4000000 in
theorem k3_X11_rivalry (l : Launch) (D : va_G) (cy : Nat → ClassId) (w : Nat → Nat) (z0 : Nat) {h : Hp} {a0 : Nat} {a1 : Int}  (O : Okh h) (ta0 : Tg h a0 = 11) (fa1 : (-2147483648) ≤ a1 ∧ a1 ≤ 2147483647) : MI l D cy w z0 yX11_rivalry cX11_rivalry 2 (some .boolean) 0 0 0 0 [.inr (.inr a0), .inl a1] h (fun v h1 => Okh h1 ∧ Fx wr_k3_X11_rivalry h h1 ∧ (0 ≤ v ∧ v ≤ 1) ∧ (v = riF a1)) := by
  refine hm_go (by decide +kernel) (Nat.le_of_ble_eq_true rfl) (fun p e s m below meth c C hr hn => ?_)
  refine g_iload_n C rfl 1 rfl dX11_rivalry_0 ?_
  refine g_if_lt C fa1 11 (by decide) dX11_rivalry_1 (fun q1 => ?_) (fun q2 => ?_)
  · have f3 : (-2147483648 : Int) ≤ a1 ∧ a1 ≤ (-1 : Int) := r_lt fa1 (il 0) q1 (by decide) (by decide)
    refine g_iconst C dX11_rivalry_11 ?_
    exact g_iret C hr (nar_z2 (iw (il 0) (by decide) (by decide))).1 (iw (il 0) (by decide) (by decide)) ⟨O, Fx.rf, (iw (il 0) (by decide) (by decide)), (by unfold riF; split <;> omega)⟩ (by decide) (by decide) dX11_rivalry_12
  · have f4 : (0 : Int) ≤ a1 ∧ a1 ≤ (2147483647 : Int) := r_ge fa1 (il 0) q2 (by decide) (by decide)
    refine g_iload_n C rfl 1 rfl dX11_rivalry_4 ?_
    refine g_sipush C (by decide) dX11_rivalry_5 ?_
    refine g_icmp_le C (iw f4 (by decide) (by decide)) (iw (il 999) (by decide) (by decide)) 13 (by decide) dX11_rivalry_8 (fun q5 => ?_) (fun q6 => ?_)
    · have f7 : (0 : Int) ≤ a1 ∧ a1 ≤ (999 : Int) := r_le f4 (il 999) q5 (by decide) (by decide)
      refine g_aload_n C rfl 0 rfl dX11_rivalry_13 ?_
      refine g_iload_n C rfl 1 rfl dX11_rivalry_14 ?_
      refine gp_I C fk_LandSurvey_163 pk_LandSurvey_10 rfl ta0 (iw f7 (by decide) (by decide)) (nf_i _) dX11_rivalry_15 (fun h9 hh8 => ?_)
      have O10 := O.pI ta0 hh8 rI_11_10 f7 nofun
      refine g_iconst C dX11_rivalry_18 ?_
      exact g_iret C hr (nar_z2 (iw (il 1) (by decide) (by decide))).1 (iw (il 1) (by decide) (by decide)) ⟨O10, ((Fx.rf (wr := wr_k3_X11_rivalry)).pI ta0 hh8 rfl), (iw (il 1) (by decide) (by decide)), (by unfold riF; split <;> omega)⟩ (by decide) (by decide) dX11_rivalry_19
    · have f11 : (1000 : Int) ≤ a1 ∧ a1 ≤ (2147483647 : Int) := r_gt f4 (il 999) q6 (by decide) (by decide)
      refine g_iconst C dX11_rivalry_11 ?_
      exact g_iret C hr (nar_z2 (iw (il 0) (by decide) (by decide))).1 (iw (il 0) (by decide) (by decide)) ⟨O, Fx.rf, (iw (il 0) (by decide) (by decide)), (by unfold riF; split <;> omega)⟩ (by decide) (by decide) dX11_rivalry_12
def wr_k3_X12_view : List Nat := [2400, 2434, 2435]
set_option maxRecDepth 100000 in
set_option maxHeartbeats 4000000 in
theorem k3_X12_view (l : Launch) (D : va_G) (cy : Nat → ClassId) (w : Nat → Nat) (z0 : Nat) {h : Hp} {a0 : Nat} {a1 : Int}  (O : Okh h) (ta0 : Tg h a0 = 12) (fa1 : (-2147483648) ≤ a1 ∧ a1 ≤ 2147483647) : MI l D cy w z0 yX12_view cX12_view 2 (some .boolean) 1 22 0 0 [.inr (.inr a0), .inl a1] h (fun v h1 => Okh h1 ∧ Fx wr_k3_X12_view h h1 ∧ (0 ≤ v ∧ v ≤ 1) ∧ (v = vwF a1 (Iv h a0 33))) := by
  refine hm_go (by decide +kernel) (Nat.le_of_ble_eq_true rfl) (fun p e s m below meth c C hr hn => ?_)
  obtain ⟨v1, e2⟩ : ∃ z, Iv h a0 33 = z := ⟨_, rfl⟩
  have f3 := ok_I O ta0 rI_12_33 e2
  refine g_aload_n C rfl 0 rfl dX12_view_0 ?_
  refine g_iconst C dX12_view_1 ?_
  refine gp_I C fk_LandSurveyModel_1 pk_LandSurveyModel_0 rfl ta0 (iw (il 0) (by decide) (by decide)) (nf_i _) dX12_view_2 (fun h5 hh4 => ?_)
  have O6 := O.pI ta0 hh4 rI_12_0 (iw (il 0) (by decide) (by decide)) nofun
  refine g_iload_n C rfl 1 rfl dX12_view_5 ?_
  refine g_iconst C dX12_view_6 ?_
  refine g_aload_n C rfl 0 rfl dX12_view_7 ?_
  have e7 : Tg h5 a0 = 12 := ((pIT hh4).trans ta0)
  have e8 : Iv h5 a0 33 = v1 := ((pI_j hh4 (by decide)).trans e2)
  refine gf_I C fk_LandSurveyModel_342 rfl e7 e8 dX12_view_8 ?_
  refine g_callI (st := []) (gc_S C lk_LandSurveyModel_415 (k_X12_within l D cy w z0 O6 fa1 (iw (il 0) (by decide) (by decide)) (iw f3 (by decide) (by decide))) rfl ⟨by decide, by decide⟩ (Nat.le_of_ble_eq_true rfl) dX12_view_11 ⟨(by decide), (by decide)⟩) (fun r9 h10 f12 K11 => ?_)
  obtain ⟨O13, F14, f15, p16⟩ := K11
  refine g_if_ne C (iw f15 (by decide) (by decide)) 19 (by decide) dX12_view_14 (fun q17 => ?_) (fun q18 => ?_)
  · have f19 : (1 : Int) ≤ r9 ∧ r9 ≤ (1 : Int) := r_nl f15 q17
    have f20 : (0 : Int) ≤ a1 ∧ a1 ≤ (9999 : Int) := by omega
    refine g_aload_n C rfl 0 rfl dX12_view_19 ?_
    refine g_iload_n C rfl 1 rfl dX12_view_20 ?_
    refine g_aload_n C rfl 0 rfl dX12_view_21 ?_
    have e21 : Tg h10 a0 = 12 := (fxT F14 e7)
    have e22 : Iv h10 a0 33 = v1 := ((fxI F14 e7 rfl).trans e8)
    refine gf_I C fk_LandSurveyModel_342 rfl e21 e22 dX12_view_22 ?_
    refine g_icmp_ne C (iw f20 (by decide) (by decide)) (iw f3 (by decide) (by decide)) 32 (by decide) dX12_view_25 (fun q23 => ?_) (fun q24 => ?_)
    · refine g_iload_n C rfl 1 rfl dX12_view_32 ?_
      refine gp_I C fk_LandSurveyModel_287 pk_LandSurveyModel_34 rfl e21 (iw f20 (by decide) (by decide)) (nf_i _) dX12_view_33 (fun h26 hh25 => ?_)
      have O27 := O13.pI e21 hh25 rI_12_34 (iw f20 (by decide) (by decide)) nofun
      refine g_aload_n C rfl 0 rfl dX12_view_36 ?_
      refine g_iconst C dX12_view_37 ?_
      have e28 : Tg h26 a0 = 12 := ((pIT hh25).trans e21)
      refine gp_I C fk_LandSurveyModel_290 pk_LandSurveyModel_35 rfl e28 (iw (il 1) (by decide) (by decide)) (nar_z2 (iw (il 1) (by decide) (by decide))) dX12_view_38 (fun h30 hh29 => ?_)
      have O31 := O27.pI e28 hh29 rI_12_35 (iw (il 1) (by decide) (by decide)) nofun
      refine g_iconst C dX12_view_41 ?_
      exact g_iret C hr (nar_z2 (iw (il 1) (by decide) (by decide))).1 (iw (il 1) (by decide) (by decide)) ⟨O31, (((((Fx.rf (wr := wr_k3_X12_view)).pI ta0 hh4 rfl).call F14 rfl).pI e21 hh25 rfl).pI e28 hh29 rfl), (iw (il 1) (by decide) (by decide)), (by unfold vwF; rw [e2]; split <;> omega)⟩ (by decide) (by decide) dX12_view_42
    · refine g_iconst C dX12_view_28 ?_
      refine g_goto C 33 (by decide) dX12_view_29 ?_
      refine gp_I C fk_LandSurveyModel_287 pk_LandSurveyModel_34 rfl e21 (iw (il (-1)) (by decide) (by decide)) (nf_i _) dX12_view_33 (fun h33 hh32 => ?_)
      have O34 := O13.pI e21 hh32 rI_12_34 (iw (il (-1)) (by decide) (by decide)) nofun
      refine g_aload_n C rfl 0 rfl dX12_view_36 ?_
      refine g_iconst C dX12_view_37 ?_
      have e35 : Tg h33 a0 = 12 := ((pIT hh32).trans e21)
      refine gp_I C fk_LandSurveyModel_290 pk_LandSurveyModel_35 rfl e35 (iw (il 1) (by decide) (by decide)) (nar_z2 (iw (il 1) (by decide) (by decide))) dX12_view_38 (fun h37 hh36 => ?_)
      have O38 := O34.pI e35 hh36 rI_12_35 (iw (il 1) (by decide) (by decide)) nofun
      refine g_iconst C dX12_view_41 ?_
      exact g_iret C hr (nar_z2 (iw (il 1) (by decide) (by decide))).1 (iw (il 1) (by decide) (by decide)) ⟨O38, (((((Fx.rf (wr := wr_k3_X12_view)).pI ta0 hh4 rfl).call F14 rfl).pI e21 hh32 rfl).pI e35 hh36 rfl), (iw (il 1) (by decide) (by decide)), (by unfold vwF; rw [e2]; split <;> omega)⟩ (by decide) (by decide) dX12_view_42
  · have f39 : (0 : Int) ≤ r9 ∧ r9 ≤ (0 : Int) := ii f15 (r_eq (il 0) q18) (by decide) (by decide)
    refine g_iconst C dX12_view_17 ?_
    exact g_iret C hr (nar_z2 (iw (il 0) (by decide) (by decide))).1 (iw (il 0) (by decide) (by decide)) ⟨O13, (((Fx.rf (wr := wr_k3_X12_view)).pI ta0 hh4 rfl).call F14 rfl), (iw (il 0) (by decide) (by decide)), (by unfold vwF; rw [e2]; split <;> omega)⟩ (by decide) (by decide) dX12_view_18
def wr_k3_X12_cell : List Nat := [2400, 2435, 27220000, 27420200]
set_option maxRecDepth 100000 in
set_option maxHeartbeats 4000000 in
theorem k3_X12_cell (l : Launch) (D : va_G) (cy : Nat → ClassId) (w : Nat → Nat) (z0 : Nat) {h : Hp} {a0 : Nat} {a1 : Int} {a2 : Int} {a3 : Int} {a4 : Int}  (O : Okh h) (ta0 : Tg h a0 = 12) (fa1 : (-2147483648) ≤ a1 ∧ a1 ≤ 2147483647) (fa2 : (-2147483648) ≤ a2 ∧ a2 ≤ 2147483647) (fa3 : (-2147483648) ≤ a3 ∧ a3 ≤ 2147483647) (fa4 : 0 ≤ a4 ∧ a4 ≤ 1) : MI l D cy w z0 yX12_cell cX12_cell 5 (some .boolean) 2 43 0 0 [.inr (.inr a0), .inl a1, .inl a2, .inl a3, .inl a4] h (fun v h1 => Okh h1 ∧ Fx wr_k3_X12_cell h h1 ∧ (0 ≤ v ∧ v ≤ 1) ∧ (v = ceF a1 a2 a3)) := by
  refine hm_go (by decide +kernel) (Nat.le_of_ble_eq_true rfl) (fun p e s m below meth c C hr hn => ?_)
  refine g_aload_n C rfl 0 rfl dX12_cell_0 ?_
  refine g_iconst C dX12_cell_1 ?_
  refine gp_I C fk_LandSurveyModel_1 pk_LandSurveyModel_0 rfl ta0 (iw (il 0) (by decide) (by decide)) (nf_i _) dX12_cell_2 (fun h2 hh1 => ?_)
  have O3 := O.pI ta0 hh1 rI_12_0 (iw (il 0) (by decide) (by decide)) nofun
  refine g_iload_n C rfl 1 rfl dX12_cell_5 ?_
  refine g_iload_n C rfl 2 rfl dX12_cell_6 ?_
  refine g_callI (st := []) (gc_S C lk_LandSurveyModel_419 (k_X12_isCell l D cy w z0 O3 fa1 fa2) rfl ⟨by decide, by decide⟩ (Nat.le_of_ble_eq_true rfl) dX12_cell_7 ⟨(by decide), (by decide)⟩) (fun r4 h5 f7 K6 => ?_)
  obtain ⟨O8, F9, f10, p11⟩ := K6
  refine g_if_eq C (iw f10 (by decide) (by decide)) 24 (by decide) dX12_cell_10 (fun q12 => ?_) (fun q13 => ?_)
  · have f14 : (0 : Int) ≤ r4 ∧ r4 ≤ (0 : Int) := ii f10 (r_eq (il 0) q12) (by decide) (by decide)
    refine g_iconst C dX12_cell_24 ?_
    exact g_iret C hr (nar_z2 (iw (il 0) (by decide) (by decide))).1 (iw (il 0) (by decide) (by decide)) ⟨O8, (((Fx.rf (wr := wr_k3_X12_cell)).pI ta0 hh1 rfl).call F9 rfl), (iw (il 0) (by decide) (by decide)), (by unfold ceF; split <;> omega)⟩ (by decide) (by decide) dX12_cell_25
  · have f15 : (1 : Int) ≤ r4 ∧ r4 ≤ (1 : Int) := r_nl f10 q13
    have f16 : (0 : Int) ≤ a1 ∧ a1 ≤ (11 : Int) := by omega
    have f17 : (0 : Int) ≤ a2 ∧ a2 ≤ (7 : Int) := by omega
    refine g_iload_n C rfl 3 rfl dX12_cell_13 ?_
    refine g_iconst C dX12_cell_14 ?_
    refine g_sipush C (by decide) dX12_cell_15 ?_
    refine g_callI (st := []) (gc_S C lk_LandSurveyModel_415 (k_X12_within l D cy w z0 O8 fa3 (iw (il 0) (by decide) (by decide)) (iw (il 999) (by decide) (by decide))) rfl ⟨by decide, by decide⟩ (Nat.le_of_ble_eq_true rfl) dX12_cell_18 ⟨(by decide), (by decide)⟩) (fun r18 h19 f21 K20 => ?_)
    obtain ⟨O22, F23, f24, p25⟩ := K20
    refine g_if_ne C (iw f24 (by decide) (by decide)) 26 (by decide) dX12_cell_21 (fun q26 => ?_) (fun q27 => ?_)
    · have f28 : (1 : Int) ≤ r18 ∧ r18 ≤ (1 : Int) := r_nl f24 q26
      have f29 : (0 : Int) ≤ a3 ∧ a3 ≤ (999 : Int) := by omega
      refine g_aload_n C rfl 0 rfl dX12_cell_26 ?_
      have e30 : Tg h19 a0 = 12 := (fxT F23 (fxT F9 ((pIT hh1).trans ta0)))
      obtain ⟨v31, e32⟩ : ∃ z, Rv h19 a0 36 = z := ⟨_, rfl⟩
      have t33 := ok_R O22 e30 rE_12_36 e32
      have l34 := ok_L O22 e30 rE_12_36 e32
      refine gf_R C fk_LandSurveyModel_161 rfl e30 e32 dX12_cell_27 ?_
      refine g_bipush C (by decide) dX12_cell_30 ?_
      refine g_iload_n C rfl 2 rfl dX12_cell_32 ?_
      have f35 : (0 : Int) ≤ (12 * a2) ∧ (12 * a2) ≤ (84 : Int) := ia_mul (by decide) f17 (by decide) (by decide)
      refine g_imul C dX12_cell_33 ?_
      refine g_iload_n C rfl 1 rfl dX12_cell_34 ?_
      have f36 : (0 : Int) ≤ ((12 * a2) + a1) ∧ ((12 * a2) + a1) ≤ (95 : Int) := ia_add f35 f16 (by decide) (by decide)
      refine g_iadd C dX12_cell_35 ?_
      refine g_iload_n C rfl 3 rfl dX12_cell_36 ?_
      refine g_iast C t33 rfl l34 (ix f36 (by decide) (by decide)) (iw f29 (by decide) (by decide)) dX12_cell_37 (fun h38 hh37 => ?_)
      have O39 := O22.pIa t33 ar_136100 hh37 rI_136100_0 f29 nofun
      refine g_aload_n C rfl 0 rfl dX12_cell_38 ?_
      have e40 : Tg h38 a0 = 12 := ((pIT hh37).trans e30)
      obtain ⟨v41, e42⟩ : ∃ z, Rv h38 a0 37 = z := ⟨_, rfl⟩
      have t43 := ok_R O39 e40 rE_12_37 e42
      have l44 := ok_L O39 e40 rE_12_37 e42
      refine gf_R C fk_LandSurveyModel_164 rfl e40 e42 dX12_cell_39 ?_
      refine g_bipush C (by decide) dX12_cell_42 ?_
      refine g_iload_n C rfl 2 rfl dX12_cell_44 ?_
      refine g_imul C dX12_cell_45 ?_
      refine g_iload_n C rfl 1 rfl dX12_cell_46 ?_
      refine g_iadd C dX12_cell_47 ?_
      refine g_iload C 4 rfl dX12_cell_48 ?_
      refine g_zast C t43 rfl l44 (ix f36 (by decide) (by decide)) fa4 dX12_cell_50 (fun h46 hh45 => ?_)
      have O47 := O39.pIa t43 ar_137101 hh45 rI_137101_0 fa4 nofun
      refine g_aload_n C rfl 0 rfl dX12_cell_51 ?_
      refine g_iconst C dX12_cell_52 ?_
      have e48 : Tg h46 a0 = 12 := ((pIT hh45).trans e40)
      refine gp_I C fk_LandSurveyModel_290 pk_LandSurveyModel_35 rfl e48 (iw (il 1) (by decide) (by decide)) (nar_z2 (iw (il 1) (by decide) (by decide))) dX12_cell_53 (fun h50 hh49 => ?_)
      have O51 := O47.pI e48 hh49 rI_12_35 (iw (il 1) (by decide) (by decide)) nofun
      refine g_iconst C dX12_cell_56 ?_
      exact g_iret C hr (nar_z2 (iw (il 1) (by decide) (by decide))).1 (iw (il 1) (by decide) (by decide)) ⟨O51, (((((((Fx.rf (wr := wr_k3_X12_cell)).pI ta0 hh1 rfl).call F9 rfl).call F23 rfl).pIa t33 ar_136100 hh37 rfl).pIa t43 ar_137101 hh45 rfl).pI e48 hh49 rfl), (iw (il 1) (by decide) (by decide)), (by unfold ceF; split <;> omega)⟩ (by decide) (by decide) dX12_cell_57
    · have f52 : (0 : Int) ≤ r18 ∧ r18 ≤ (0 : Int) := ii f24 (r_eq (il 0) q27) (by decide) (by decide)
      refine g_iconst C dX12_cell_24 ?_
      exact g_iret C hr (nar_z2 (iw (il 0) (by decide) (by decide))).1 (iw (il 0) (by decide) (by decide)) ⟨O22, ((((Fx.rf (wr := wr_k3_X12_cell)).pI ta0 hh1 rfl).call F9 rfl).call F23 rfl), (iw (il 0) (by decide) (by decide)), (by unfold ceF; split <;> omega)⟩ (by decide) (by decide) dX12_cell_25
def wr_k3_X12_fold : List Nat := [2400, 2435, 27620200]
set_option maxRecDepth 100000 in
set_option maxHeartbeats 4000000 in
theorem k3_X12_fold (l : Launch) (D : va_G) (cy : Nat → ClassId) (w : Nat → Nat) (z0 : Nat) {h : Hp} {a0 : Nat} {a1 : Int} {a2 : Int} {a3 : Int}  (O : Okh h) (ta0 : Tg h a0 = 12) (fa1 : (-2147483648) ≤ a1 ∧ a1 ≤ 2147483647) (fa2 : (-2147483648) ≤ a2 ∧ a2 ≤ 2147483647) (fa3 : 0 ≤ a3 ∧ a3 ≤ 1) : MI l D cy w z0 yX12_fold cX12_fold 4 (some .boolean) 2 43 0 0 [.inr (.inr a0), .inl a1, .inl a2, .inl a3] h (fun v h1 => Okh h1 ∧ Fx wr_k3_X12_fold h h1 ∧ (0 ≤ v ∧ v ≤ 1) ∧ (v = foF a1 a2)) := by
  refine hm_go (by decide +kernel) (Nat.le_of_ble_eq_true rfl) (fun p e s m below meth c C hr hn => ?_)
  refine g_aload_n C rfl 0 rfl dX12_fold_0 ?_
  refine g_iconst C dX12_fold_1 ?_
  refine gp_I C fk_LandSurveyModel_1 pk_LandSurveyModel_0 rfl ta0 (iw (il 0) (by decide) (by decide)) (nf_i _) dX12_fold_2 (fun h2 hh1 => ?_)
  have O3 := O.pI ta0 hh1 rI_12_0 (iw (il 0) (by decide) (by decide)) nofun
  refine g_iload_n C rfl 1 rfl dX12_fold_5 ?_
  refine g_iload_n C rfl 2 rfl dX12_fold_6 ?_
  refine g_callI (st := []) (gc_S C lk_LandSurveyModel_419 (k_X12_isCell l D cy w z0 O3 fa1 fa2) rfl ⟨by decide, by decide⟩ (Nat.le_of_ble_eq_true rfl) dX12_fold_7 ⟨(by decide), (by decide)⟩) (fun r4 h5 f7 K6 => ?_)
  obtain ⟨O8, F9, f10, p11⟩ := K6
  refine g_if_ne C (iw f10 (by decide) (by decide)) 15 (by decide) dX12_fold_10 (fun q12 => ?_) (fun q13 => ?_)
  · have f14 : (1 : Int) ≤ r4 ∧ r4 ≤ (1 : Int) := r_nl f10 q12
    have f15 : (0 : Int) ≤ a1 ∧ a1 ≤ (11 : Int) := by omega
    have f16 : (0 : Int) ≤ a2 ∧ a2 ≤ (7 : Int) := by omega
    refine g_aload_n C rfl 0 rfl dX12_fold_15 ?_
    have e17 : Tg h5 a0 = 12 := (fxT F9 ((pIT hh1).trans ta0))
    obtain ⟨v18, e19⟩ : ∃ z, Rv h5 a0 38 = z := ⟨_, rfl⟩
    have t20 := ok_R O8 e17 rE_12_38 e19
    have l21 := ok_L O8 e17 rE_12_38 e19
    refine gf_R C fk_LandSurveyModel_167 rfl e17 e19 dX12_fold_16 ?_
    refine g_bipush C (by decide) dX12_fold_19 ?_
    refine g_iload_n C rfl 2 rfl dX12_fold_21 ?_
    have f22 : (0 : Int) ≤ (12 * a2) ∧ (12 * a2) ≤ (84 : Int) := ia_mul (by decide) f16 (by decide) (by decide)
    refine g_imul C dX12_fold_22 ?_
    refine g_iload_n C rfl 1 rfl dX12_fold_23 ?_
    have f23 : (0 : Int) ≤ ((12 * a2) + a1) ∧ ((12 * a2) + a1) ≤ (95 : Int) := ia_add f22 f15 (by decide) (by decide)
    refine g_iadd C dX12_fold_24 ?_
    refine g_iload_n C rfl 3 rfl dX12_fold_25 ?_
    refine g_zast C t20 rfl l21 (ix f23 (by decide) (by decide)) fa3 dX12_fold_26 (fun h25 hh24 => ?_)
    have O26 := O8.pIa t20 ar_138101 hh24 rI_138101_0 fa3 nofun
    refine g_aload_n C rfl 0 rfl dX12_fold_27 ?_
    refine g_iconst C dX12_fold_28 ?_
    have e27 : Tg h25 a0 = 12 := ((pIT hh24).trans e17)
    refine gp_I C fk_LandSurveyModel_290 pk_LandSurveyModel_35 rfl e27 (iw (il 1) (by decide) (by decide)) (nar_z2 (iw (il 1) (by decide) (by decide))) dX12_fold_29 (fun h29 hh28 => ?_)
    have O30 := O26.pI e27 hh28 rI_12_35 (iw (il 1) (by decide) (by decide)) nofun
    refine g_iconst C dX12_fold_32 ?_
    exact g_iret C hr (nar_z2 (iw (il 1) (by decide) (by decide))).1 (iw (il 1) (by decide) (by decide)) ⟨O30, (((((Fx.rf (wr := wr_k3_X12_fold)).pI ta0 hh1 rfl).call F9 rfl).pIa t20 ar_138101 hh24 rfl).pI e27 hh28 rfl), (iw (il 1) (by decide) (by decide)), (by unfold foF; split <;> omega)⟩ (by decide) (by decide) dX12_fold_33
  · have f31 : (0 : Int) ≤ r4 ∧ r4 ≤ (0 : Int) := ii f10 (r_eq (il 0) q13) (by decide) (by decide)
    refine g_iconst C dX12_fold_13 ?_
    exact g_iret C hr (nar_z2 (iw (il 0) (by decide) (by decide))).1 (iw (il 0) (by decide) (by decide)) ⟨O8, (((Fx.rf (wr := wr_k3_X12_fold)).pI ta0 hh1 rfl).call F9 rfl), (iw (il 0) (by decide) (by decide)), (by unfold foF; split <;> omega)⟩ (by decide) (by decide) dX12_fold_14
def wr_k3_X12_own : List Nat := [2400, 27820000]
set_option maxRecDepth 100000 in
set_option maxHeartbeats 4000000 in
theorem k3_X12_own (l : Launch) (D : va_G) (cy : Nat → ClassId) (w : Nat → Nat) (z0 : Nat) {h : Hp} {a0 : Nat} {a1 : Int} {a2 : Int} {a3 : Int}  (O : Okh h) (ta0 : Tg h a0 = 12) (fa1 : (-2147483648) ≤ a1 ∧ a1 ≤ 2147483647) (fa2 : (-2147483648) ≤ a2 ∧ a2 ≤ 2147483647) (fa3 : (-2147483648) ≤ a3 ∧ a3 ≤ 2147483647) : MI l D cy w z0 yX12_own cX12_own 4 (some .boolean) 2 43 0 0 [.inr (.inr a0), .inl a1, .inl a2, .inl a3] h (fun v h1 => Okh h1 ∧ Fx wr_k3_X12_own h h1 ∧ (0 ≤ v ∧ v ≤ 1) ∧ (v = owF a1 a2 a3)) := by
  refine hm_go (by decide +kernel) (Nat.le_of_ble_eq_true rfl) (fun p e s m below meth c C hr hn => ?_)
  refine g_aload_n C rfl 0 rfl dX12_own_0 ?_
  refine g_iconst C dX12_own_1 ?_
  refine gp_I C fk_LandSurveyModel_1 pk_LandSurveyModel_0 rfl ta0 (iw (il 0) (by decide) (by decide)) (nf_i _) dX12_own_2 (fun h2 hh1 => ?_)
  have O3 := O.pI ta0 hh1 rI_12_0 (iw (il 0) (by decide) (by decide)) nofun
  refine g_iload_n C rfl 1 rfl dX12_own_5 ?_
  refine g_iload_n C rfl 2 rfl dX12_own_6 ?_
  refine g_callI (st := []) (gc_S C lk_LandSurveyModel_419 (k_X12_isCell l D cy w z0 O3 fa1 fa2) rfl ⟨by decide, by decide⟩ (Nat.le_of_ble_eq_true rfl) dX12_own_7 ⟨(by decide), (by decide)⟩) (fun r4 h5 f7 K6 => ?_)
  obtain ⟨O8, F9, f10, p11⟩ := K6
  refine g_if_eq C (iw f10 (by decide) (by decide)) 22 (by decide) dX12_own_10 (fun q12 => ?_) (fun q13 => ?_)
  · have f14 : (0 : Int) ≤ r4 ∧ r4 ≤ (0 : Int) := ii f10 (r_eq (il 0) q12) (by decide) (by decide)
    refine g_iconst C dX12_own_22 ?_
    exact g_iret C hr (nar_z2 (iw (il 0) (by decide) (by decide))).1 (iw (il 0) (by decide) (by decide)) ⟨O8, (((Fx.rf (wr := wr_k3_X12_own)).pI ta0 hh1 rfl).call F9 rfl), (iw (il 0) (by decide) (by decide)), (by unfold owF; split <;> omega)⟩ (by decide) (by decide) dX12_own_23
  · have f15 : (1 : Int) ≤ r4 ∧ r4 ≤ (1 : Int) := r_nl f10 q13
    have f16 : (0 : Int) ≤ a1 ∧ a1 ≤ (11 : Int) := by omega
    have f17 : (0 : Int) ≤ a2 ∧ a2 ≤ (7 : Int) := by omega
    refine g_iload_n C rfl 3 rfl dX12_own_13 ?_
    refine g_iconst C dX12_own_14 ?_
    refine g_iconst C dX12_own_15 ?_
    refine g_callI (st := []) (gc_S C lk_LandSurveyModel_415 (k_X12_within l D cy w z0 O8 fa3 (iw (il (-1)) (by decide) (by decide)) (iw (il 3) (by decide) (by decide))) rfl ⟨by decide, by decide⟩ (Nat.le_of_ble_eq_true rfl) dX12_own_16 ⟨(by decide), (by decide)⟩) (fun r18 h19 f21 K20 => ?_)
    obtain ⟨O22, F23, f24, p25⟩ := K20
    refine g_if_ne C (iw f24 (by decide) (by decide)) 24 (by decide) dX12_own_19 (fun q26 => ?_) (fun q27 => ?_)
    · have f28 : (1 : Int) ≤ r18 ∧ r18 ≤ (1 : Int) := r_nl f24 q26
      have f29 : (-1 : Int) ≤ a3 ∧ a3 ≤ (3 : Int) := by omega
      refine g_aload_n C rfl 0 rfl dX12_own_24 ?_
      have e30 : Tg h19 a0 = 12 := (fxT F23 (fxT F9 ((pIT hh1).trans ta0)))
      obtain ⟨v31, e32⟩ : ∃ z, Rv h19 a0 39 = z := ⟨_, rfl⟩
      have t33 := ok_R O22 e30 rE_12_39 e32
      have l34 := ok_L O22 e30 rE_12_39 e32
      refine gf_R C fk_LandSurveyModel_170 rfl e30 e32 dX12_own_25 ?_
      refine g_bipush C (by decide) dX12_own_28 ?_
      refine g_iload_n C rfl 2 rfl dX12_own_30 ?_
      have f35 : (0 : Int) ≤ (12 * a2) ∧ (12 * a2) ≤ (84 : Int) := ia_mul (by decide) f17 (by decide) (by decide)
      refine g_imul C dX12_own_31 ?_
      refine g_iload_n C rfl 1 rfl dX12_own_32 ?_
      have f36 : (0 : Int) ≤ ((12 * a2) + a1) ∧ ((12 * a2) + a1) ≤ (95 : Int) := ia_add f35 f16 (by decide) (by decide)
      refine g_iadd C dX12_own_33 ?_
      refine g_iload_n C rfl 3 rfl dX12_own_34 ?_
      refine g_iast C t33 rfl l34 (ix f36 (by decide) (by decide)) (iw f29 (by decide) (by decide)) dX12_own_35 (fun h38 hh37 => ?_)
      have O39 := O22.pIa t33 ar_139100 hh37 rI_139100_0 f29 nofun
      refine g_iconst C dX12_own_36 ?_
      exact g_iret C hr (nar_z2 (iw (il 1) (by decide) (by decide))).1 (iw (il 1) (by decide) (by decide)) ⟨O39, (((((Fx.rf (wr := wr_k3_X12_own)).pI ta0 hh1 rfl).call F9 rfl).call F23 rfl).pIa t33 ar_139100 hh37 rfl), (iw (il 1) (by decide) (by decide)), (by unfold owF; split <;> omega)⟩ (by decide) (by decide) dX12_own_37
    · have f40 : (0 : Int) ≤ r18 ∧ r18 ≤ (0 : Int) := ii f24 (r_eq (il 0) q27) (by decide) (by decide)
      refine g_iconst C dX12_own_22 ?_
      exact g_iret C hr (nar_z2 (iw (il 0) (by decide) (by decide))).1 (iw (il 0) (by decide) (by decide)) ⟨O22, ((((Fx.rf (wr := wr_k3_X12_own)).pI ta0 hh1 rfl).call F9 rfl).call F23 rfl), (iw (il 0) (by decide) (by decide)), (by unfold owF; split <;> omega)⟩ (by decide) (by decide) dX12_own_23
def wr_k3_X12_rivalry : List Nat := [2400, 2435, 2479]
set_option maxRecDepth 100000 in
set_option maxHeartbeats 4000000 in
theorem k3_X12_rivalry (l : Launch) (D : va_G) (cy : Nat → ClassId) (w : Nat → Nat) (z0 : Nat) {h : Hp} {a0 : Nat} {a1 : Int}  (O : Okh h) (ta0 : Tg h a0 = 12) (fa1 : (-2147483648) ≤ a1 ∧ a1 ≤ 2147483647) : MI l D cy w z0 yX12_rivalry cX12_rivalry 2 (some .boolean) 1 22 0 0 [.inr (.inr a0), .inl a1] h (fun v h1 => Okh h1 ∧ Fx wr_k3_X12_rivalry h h1 ∧ (0 ≤ v ∧ v ≤ 1) ∧ (v = riF a1)) := by
  refine hm_go (by decide +kernel) (Nat.le_of_ble_eq_true rfl) (fun p e s m below meth c C hr hn => ?_)
  refine g_aload_n C rfl 0 rfl dX12_rivalry_0 ?_
  refine g_iconst C dX12_rivalry_1 ?_
  refine gp_I C fk_LandSurveyModel_1 pk_LandSurveyModel_0 rfl ta0 (iw (il 0) (by decide) (by decide)) (nf_i _) dX12_rivalry_2 (fun h2 hh1 => ?_)
  have O3 := O.pI ta0 hh1 rI_12_0 (iw (il 0) (by decide) (by decide)) nofun
  refine g_iload_n C rfl 1 rfl dX12_rivalry_5 ?_
  refine g_iconst C dX12_rivalry_6 ?_
  refine g_sipush C (by decide) dX12_rivalry_7 ?_
  refine g_callI (st := []) (gc_S C lk_LandSurveyModel_415 (k_X12_within l D cy w z0 O3 fa1 (iw (il 0) (by decide) (by decide)) (iw (il 999) (by decide) (by decide))) rfl ⟨by decide, by decide⟩ (Nat.le_of_ble_eq_true rfl) dX12_rivalry_10 ⟨(by decide), (by decide)⟩) (fun r4 h5 f7 K6 => ?_)
  obtain ⟨O8, F9, f10, p11⟩ := K6
  refine g_if_ne C (iw f10 (by decide) (by decide)) 18 (by decide) dX12_rivalry_13 (fun q12 => ?_) (fun q13 => ?_)
  · have f14 : (1 : Int) ≤ r4 ∧ r4 ≤ (1 : Int) := r_nl f10 q12
    have f15 : (0 : Int) ≤ a1 ∧ a1 ≤ (999 : Int) := by omega
    refine g_aload_n C rfl 0 rfl dX12_rivalry_18 ?_
    refine g_iload_n C rfl 1 rfl dX12_rivalry_19 ?_
    have e16 : Tg h5 a0 = 12 := (fxT F9 ((pIT hh1).trans ta0))
    refine gp_I C fk_LandSurveyModel_549 pk_LandSurveyModel_79 rfl e16 (iw f15 (by decide) (by decide)) (nf_i _) dX12_rivalry_20 (fun h18 hh17 => ?_)
    have O19 := O8.pI e16 hh17 rI_12_79 f15 nofun
    refine g_aload_n C rfl 0 rfl dX12_rivalry_23 ?_
    refine g_iconst C dX12_rivalry_24 ?_
    have e20 : Tg h18 a0 = 12 := ((pIT hh17).trans e16)
    refine gp_I C fk_LandSurveyModel_290 pk_LandSurveyModel_35 rfl e20 (iw (il 1) (by decide) (by decide)) (nar_z2 (iw (il 1) (by decide) (by decide))) dX12_rivalry_25 (fun h22 hh21 => ?_)
    have O23 := O19.pI e20 hh21 rI_12_35 (iw (il 1) (by decide) (by decide)) nofun
    refine g_iconst C dX12_rivalry_28 ?_
    exact g_iret C hr (nar_z2 (iw (il 1) (by decide) (by decide))).1 (iw (il 1) (by decide) (by decide)) ⟨O23, (((((Fx.rf (wr := wr_k3_X12_rivalry)).pI ta0 hh1 rfl).call F9 rfl).pI e16 hh17 rfl).pI e20 hh21 rfl), (iw (il 1) (by decide) (by decide)), (by unfold riF; split <;> omega)⟩ (by decide) (by decide) dX12_rivalry_29
  · have f24 : (0 : Int) ≤ r4 ∧ r4 ≤ (0 : Int) := ii f10 (r_eq (il 0) q13) (by decide) (by decide)
    refine g_iconst C dX12_rivalry_16 ?_
    exact g_iret C hr (nar_z2 (iw (il 0) (by decide) (by decide))).1 (iw (il 0) (by decide) (by decide)) ⟨O8, (((Fx.rf (wr := wr_k3_X12_rivalry)).pI ta0 hh1 rfl).call F9 rfl), (iw (il 0) (by decide) (by decide)), (by unfold riF; split <;> omega)⟩ (by decide) (by decide) dX12_rivalry_17
