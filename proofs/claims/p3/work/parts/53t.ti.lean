/-! TI: answers told exactly -/
def vwF (d now : Int) : Int := if 0 ≤ d ∧ d ≤ now then 1 else 0
def ceF (x y h : Int) : Int := if 0 ≤ x ∧ x ≤ 11 ∧ 0 ≤ y ∧ y ≤ 7 ∧ 0 ≤ h ∧ h ≤ 999 then 1 else 0
def foF (x y : Int) : Int := if 0 ≤ x ∧ x ≤ 11 ∧ 0 ≤ y ∧ y ≤ 7 then 1 else 0
def owF (x y o : Int) : Int := if 0 ≤ x ∧ x ≤ 11 ∧ 0 ≤ y ∧ y ≤ 7 ∧ -1 ≤ o ∧ o ≤ 3 then 1 else 0
def riF (n : Int) : Int := if 0 ≤ n ∧ n ≤ 999 then 1 else 0
abbrev faG (x y dn many fr to co n : Int) : Prop := 0 ≤ x ∧ x ≤ 11 ∧ 0 ≤ y ∧ y ≤ 7 ∧ 1 ≤ many ∧ many ≤ 12 ∧ -300 ≤ fr ∧ fr ≤ to ∧ to ≤ 300 ∧ 1 ≤ co ∧ co ≤ 99 ∧ n ≤ 3 ∧ ((dn = 0 ∧ y ≤ 6 ∧ x + many ≤ 12) ∨ (¬ dn = 0 ∧ x ≤ 10 ∧ y + many ≤ 8))
def faF (x y dn many fr to co n : Int) : Int := if faG x y dn many fr to co n then n else -1
def fnF (x y dn many fr to co n : Int) : Int := if faG x y dn many fr to co n then n + 1 else n
def wr_k3_X11_view : List Nat := [2201, 2215]
set_option maxRecDepth 100000 in
set_option maxHeartbeats 4000000 in
theorem k3_X11_view (l : Launch) (D : va_G) (cy : Nat → ClassId) (w : Nat → Nat) (z0 : Nat) {h : Hp} {a0 : Nat} {a1 : Int}  (O : Okh h) (ta0 : Tg h a0 = 11) (fa1 : (-2147483648) ≤ a1 ∧ a1 ≤ 2147483647) (P_XInv : XInv h a0) : MI l D cy w z0 yX11_view cX11_view 2 (some .boolean) 0 0 0 0 [.inr (.inr a0), .inl a1] h (fun v h1 => Okh h1 ∧ Fx wr_k3_X11_view h h1 ∧ (0 ≤ v ∧ v ≤ 1) ∧ (XInv h1 a0) ∧ (v = vwF a1 (Iv h a0 0))) := by
  obtain ⟨v1, e2⟩ : ∃ z, Rv h a0 3 = z := ⟨_, rfl⟩
  have t3 := ok_R O ta0 rE_11_3 e2
  have l4 := ok_L O ta0 rE_11_3 e2
  obtain ⟨v5, e6⟩ : ∃ z, Iv h a0 4 = z := ⟨_, rfl⟩
  have f7 := ok_I O ta0 rI_11_4 e6
  obtain ⟨v8, e9⟩ : ∃ z, Rv h a0 8 = z := ⟨_, rfl⟩
  have t10 := ok_R O ta0 rE_11_8 e9
  have l11 := ok_L O ta0 rE_11_8 e9
  obtain ⟨v12, e13⟩ : ∃ z, Iv h a0 9 = z := ⟨_, rfl⟩
  have f14 := ok_I O ta0 rI_11_9 e13
  obtain ⟨v15, e16⟩ : ∃ z, Rv h a0 11 = z := ⟨_, rfl⟩
  have t17 := ok_R O ta0 rE_11_11 e16
  have l18 := ok_L O ta0 rE_11_11 e16
  obtain ⟨v19, e20⟩ : ∃ z, Iv h a0 12 = z := ⟨_, rfl⟩
  have f21 := ok_I O ta0 rI_11_12 e20
  obtain ⟨v22, e23⟩ : ∃ z, Iv h a0 15 = z := ⟨_, rfl⟩
  have f24 := ok_I O ta0 rI_11_15 e23
  obtain ⟨v25, e26⟩ : ∃ z, Rv h a0 14 = z := ⟨_, rfl⟩
  have t27 := ok_R O ta0 rE_11_14 e26
  have l28 := ok_L O ta0 rE_11_14 e26
  obtain ⟨v29, e30⟩ : ∃ z, Rv h a0 13 = z := ⟨_, rfl⟩
  have t31 := ok_R O ta0 rE_11_13 e30
  obtain ⟨v32, e33⟩ : ∃ z, Rv h a0 6 = z := ⟨_, rfl⟩
  have t34 := ok_R O ta0 rE_11_6 e33
  obtain ⟨v35, e36⟩ : ∃ z, Rv h a0 7 = z := ⟨_, rfl⟩
  have t37 := ok_R O ta0 rE_11_7 e36
  have p49 := P_XInv
  unfold XInv at p49
  rw [e2, e6, e9, e13, e16, e20, e23, e26, e30, e33, e36] at p49
  obtain ⟨p38, p39, p40, p41, p42, p43, p44, p45, p46, p47, p48⟩ := p49
  obtain ⟨v50, e51⟩ : ∃ z, Iv h v29 3 = z := ⟨_, rfl⟩
  have f52 := ok_I O t31 rI_7_3 e51
  obtain ⟨v53, e54⟩ : ∃ z, Iv h v29 4 = z := ⟨_, rfl⟩
  have f55 := ok_I O t31 rI_7_4 e54
  rw [e51] at p44
  rw [e54] at p45
  refine hm_go (by decide +kernel) (Nat.le_of_ble_eq_true rfl) (fun p e s m below meth c C hr hn => ?_)
  obtain ⟨v56, e57⟩ : ∃ z, Iv h a0 0 = z := ⟨_, rfl⟩
  have f58 := ok_I O ta0 rI_11_0 e57
  refine g_iload_n C rfl 1 rfl dX11_view_0 ?_
  refine g_if_lt C fa1 12 (by decide) dX11_view_1 (fun q59 => ?_) (fun q60 => ?_)
  · have f61 : (-2147483648 : Int) ≤ a1 ∧ a1 ≤ (-1 : Int) := r_lt fa1 (il 0) q59 (by decide) (by decide)
    refine g_iconst C dX11_view_12 ?_
    exact g_iret C hr (nar_z2 (iw (il 0) (by decide) (by decide))).1 (iw (il 0) (by decide) (by decide)) ⟨O, Fx.rf, (iw (il 0) (by decide) (by decide)), P_XInv, (by unfold vwF; rw [e57]; split <;> omega)⟩ (by decide) (by decide) dX11_view_13
  · have f62 : (0 : Int) ≤ a1 ∧ a1 ≤ (2147483647 : Int) := r_ge fa1 (il 0) q60 (by decide) (by decide)
    refine g_iload_n C rfl 1 rfl dX11_view_4 ?_
    refine g_aload_n C rfl 0 rfl dX11_view_5 ?_
    refine gf_I C fk_LandSurvey_78 rfl ta0 e57 dX11_view_6 ?_
    refine g_icmp_le C (iw f62 (by decide) (by decide)) (iw f58 (by decide) (by decide)) 14 (by decide) dX11_view_9 (fun q63 => ?_) (fun q64 => ?_)
    · have f65 : (0 : Int) ≤ a1 ∧ a1 ≤ (9999 : Int) := r_le f62 f58 q63 (by decide) (by decide)
      refine g_aload_n C rfl 0 rfl dX11_view_14 ?_
      refine g_iload_n C rfl 1 rfl dX11_view_15 ?_
      refine g_aload_n C rfl 0 rfl dX11_view_16 ?_
      refine gf_I C fk_LandSurvey_78 rfl ta0 e57 dX11_view_17 ?_
      refine g_icmp_ne C (iw f65 (by decide) (by decide)) (iw f58 (by decide) (by decide)) 27 (by decide) dX11_view_20 (fun q66 => ?_) (fun q67 => ?_)
      · refine g_iload_n C rfl 1 rfl dX11_view_27 ?_
        refine gp_I C fk_LandSurvey_9 pk_LandSurvey_1 rfl ta0 (iw f65 (by decide) (by decide)) (nf_i _) dX11_view_28 (fun h69 hh68 => ?_)
        have O70 := O.pI ta0 hh68 rI_11_1 (iw f65 (by decide) (by decide)) nofun
        refine g_aload_n C rfl 0 rfl dX11_view_31 ?_
        refine g_iconst C dX11_view_32 ?_
        have e71 : Tg h69 a0 = 11 := ((pIT hh68).trans ta0)
        refine gp_I C fk_LandSurvey_81 pk_LandSurvey_15 rfl e71 (iw (il 0) (by decide) (by decide)) (nar_z2 (iw (il 0) (by decide) (by decide))) dX11_view_33 (fun h73 hh72 => ?_)
        have O74 := O70.pI e71 hh72 rI_11_15 (iw (il 0) (by decide) (by decide)) nofun
        refine g_iconst C dX11_view_36 ?_
        have e75 : Rv h73 a0 3 = v1 := ((pIR hh72).trans ((pIR hh68).trans e2))
        have e76 : Iv h73 a0 4 = v5 := ((pI_j hh72 (by decide)).trans ((pI_j hh68 (by decide)).trans e6))
        have e77 : Rv h73 a0 8 = v8 := ((pIR hh72).trans ((pIR hh68).trans e9))
        have e78 : Iv h73 a0 9 = v12 := ((pI_j hh72 (by decide)).trans ((pI_j hh68 (by decide)).trans e13))
        have e79 : Rv h73 a0 11 = v15 := ((pIR hh72).trans ((pIR hh68).trans e16))
        have e80 : Iv h73 a0 12 = v19 := ((pI_j hh72 (by decide)).trans ((pI_j hh68 (by decide)).trans e20))
        have e81 : Rv h73 a0 14 = v25 := ((pIR hh72).trans ((pIR hh68).trans e26))
        have e82 : Rv h73 a0 13 = v29 := ((pIR hh72).trans ((pIR hh68).trans e30))
        have e83 : Rv h73 a0 6 = v32 := ((pIR hh72).trans ((pIR hh68).trans e33))
        have e84 : Rv h73 a0 7 = v35 := ((pIR hh72).trans ((pIR hh68).trans e36))
        have e85 : Rv h73 v29 1 = v1 := ((pIR hh72).trans ((pIR hh68).trans p42))
        have e86 : Rv h73 v29 2 = v8 := ((pIR hh72).trans ((pIR hh68).trans p43))
        have e87 : Tg h69 v29 = 7 := ((pIT hh68).trans t31)
        have e88 : Iv h73 v29 3 = v50 := ((pI_n hh72 (ne_tag e87 e71 (by decide))).trans ((pI_n hh68 (ne_tag t31 ta0 (by decide))).trans e51))
        have e89 : Iv h73 v29 4 = v53 := ((pI_n hh72 (ne_tag e87 e71 (by decide))).trans ((pI_n hh68 (ne_tag t31 ta0 (by decide))).trans e54))
        have e90 : Tg h69 v1 = 38104 := ((pIT hh68).trans t3)
        have p91 := (SOK_fx O70 ((Fx.rf (wr := [2215]) (h := h69)).pI e71 hh72 rfl) e90 rfl rfl rfl (SOK_fx O ((Fx.rf (wr := [2201]) (h := h)).pI ta0 hh68 rfl) t3 rfl rfl rfl p38))
        have e92 : Tg h69 v8 = 39105 := ((pIT hh68).trans t10)
        have p93 := (BOK_fx O70 ((Fx.rf (wr := [2215]) (h := h69)).pI e71 hh72 rfl) e92 rfl rfl rfl rfl (BOK_fx O ((Fx.rf (wr := [2201]) (h := h)).pI ta0 hh68 rfl) t10 rfl rfl rfl rfl p39))
        have e94 : Tg h69 v15 = 48106 := ((pIT hh68).trans t17)
        have p95 := (NN_fx ((Fx.rf (wr := [2215]) (h := h69)).pI e71 hh72 rfl) e94 ar_48106 rfl (NN_fx ((Fx.rf (wr := [2201]) (h := h)).pI ta0 hh68 rfl) t17 ar_48106 rfl p40))
        have e96 : Tg h69 v32 = 5 := ((pIT hh68).trans t34)
        have p97 := (BkOk_fx O70 ((Fx.rf (wr := [2215]) (h := h69)).pI e71 hh72 rfl) e96 rfl rfl (BkOk_fx O ((Fx.rf (wr := [2201]) (h := h)).pI ta0 hh68 rfl) t34 rfl rfl p46))
        have e98 : Tg h69 v35 = 6 := ((pIT hh68).trans t37)
        have p99 := (RulesOk_fx O70 ((Fx.rf (wr := [2215]) (h := h69)).pI e71 hh72 rfl) e98 rfl (RulesOk_fx O ((Fx.rf (wr := [2201]) (h := h)).pI ta0 hh68 rfl) t37 rfl p47))
        have p100 := (ND_fx ((Fx.rf (wr := [2215]) (h := h69)).pI e71 hh72 rfl) rfl rfl (ND_fx ((Fx.rf (wr := [2201]) (h := h)).pI ta0 hh68 rfl) rfl rfl p48))
        exact g_iret C hr (nar_z2 (iw (il 1) (by decide) (by decide))).1 (iw (il 1) (by decide) (by decide)) ⟨O74, (((Fx.rf (wr := wr_k3_X11_view)).pI ta0 hh68 rfl).pI e71 hh72 rfl), (iw (il 1) (by decide) (by decide)), (by unfold XInv; rw [e75, e76, e77, e78, e79, e80, (pI_e hh72), e81, e82, e83, e84, e85, e86, e88, e89]; exact ⟨p91, p93, p95, (fun z => absurd z (by decide)), rfl, rfl, (by omega), (by omega), p97, p99, p100⟩), (by unfold vwF; rw [e57]; split <;> omega)⟩ (by decide) (by decide) dX11_view_37
      · refine g_iconst C dX11_view_23 ?_
        refine g_goto C 28 (by decide) dX11_view_24 ?_
        refine gp_I C fk_LandSurvey_9 pk_LandSurvey_1 rfl ta0 (iw (il (-1)) (by decide) (by decide)) (nf_i _) dX11_view_28 (fun h102 hh101 => ?_)
        have O103 := O.pI ta0 hh101 rI_11_1 (iw (il (-1)) (by decide) (by decide)) nofun
        refine g_aload_n C rfl 0 rfl dX11_view_31 ?_
        refine g_iconst C dX11_view_32 ?_
        have e104 : Tg h102 a0 = 11 := ((pIT hh101).trans ta0)
        refine gp_I C fk_LandSurvey_81 pk_LandSurvey_15 rfl e104 (iw (il 0) (by decide) (by decide)) (nar_z2 (iw (il 0) (by decide) (by decide))) dX11_view_33 (fun h106 hh105 => ?_)
        have O107 := O103.pI e104 hh105 rI_11_15 (iw (il 0) (by decide) (by decide)) nofun
        refine g_iconst C dX11_view_36 ?_
        have e108 : Rv h106 a0 3 = v1 := ((pIR hh105).trans ((pIR hh101).trans e2))
        have e109 : Iv h106 a0 4 = v5 := ((pI_j hh105 (by decide)).trans ((pI_j hh101 (by decide)).trans e6))
        have e110 : Rv h106 a0 8 = v8 := ((pIR hh105).trans ((pIR hh101).trans e9))
        have e111 : Iv h106 a0 9 = v12 := ((pI_j hh105 (by decide)).trans ((pI_j hh101 (by decide)).trans e13))
        have e112 : Rv h106 a0 11 = v15 := ((pIR hh105).trans ((pIR hh101).trans e16))
        have e113 : Iv h106 a0 12 = v19 := ((pI_j hh105 (by decide)).trans ((pI_j hh101 (by decide)).trans e20))
        have e114 : Rv h106 a0 14 = v25 := ((pIR hh105).trans ((pIR hh101).trans e26))
        have e115 : Rv h106 a0 13 = v29 := ((pIR hh105).trans ((pIR hh101).trans e30))
        have e116 : Rv h106 a0 6 = v32 := ((pIR hh105).trans ((pIR hh101).trans e33))
        have e117 : Rv h106 a0 7 = v35 := ((pIR hh105).trans ((pIR hh101).trans e36))
        have e118 : Rv h106 v29 1 = v1 := ((pIR hh105).trans ((pIR hh101).trans p42))
        have e119 : Rv h106 v29 2 = v8 := ((pIR hh105).trans ((pIR hh101).trans p43))
        have e120 : Tg h102 v29 = 7 := ((pIT hh101).trans t31)
        have e121 : Iv h106 v29 3 = v50 := ((pI_n hh105 (ne_tag e120 e104 (by decide))).trans ((pI_n hh101 (ne_tag t31 ta0 (by decide))).trans e51))
        have e122 : Iv h106 v29 4 = v53 := ((pI_n hh105 (ne_tag e120 e104 (by decide))).trans ((pI_n hh101 (ne_tag t31 ta0 (by decide))).trans e54))
        have e123 : Tg h102 v1 = 38104 := ((pIT hh101).trans t3)
        have p124 := (SOK_fx O103 ((Fx.rf (wr := [2215]) (h := h102)).pI e104 hh105 rfl) e123 rfl rfl rfl (SOK_fx O ((Fx.rf (wr := [2201]) (h := h)).pI ta0 hh101 rfl) t3 rfl rfl rfl p38))
        have e125 : Tg h102 v8 = 39105 := ((pIT hh101).trans t10)
        have p126 := (BOK_fx O103 ((Fx.rf (wr := [2215]) (h := h102)).pI e104 hh105 rfl) e125 rfl rfl rfl rfl (BOK_fx O ((Fx.rf (wr := [2201]) (h := h)).pI ta0 hh101 rfl) t10 rfl rfl rfl rfl p39))
        have e127 : Tg h102 v15 = 48106 := ((pIT hh101).trans t17)
        have p128 := (NN_fx ((Fx.rf (wr := [2215]) (h := h102)).pI e104 hh105 rfl) e127 ar_48106 rfl (NN_fx ((Fx.rf (wr := [2201]) (h := h)).pI ta0 hh101 rfl) t17 ar_48106 rfl p40))
        have e129 : Tg h102 v32 = 5 := ((pIT hh101).trans t34)
        have p130 := (BkOk_fx O103 ((Fx.rf (wr := [2215]) (h := h102)).pI e104 hh105 rfl) e129 rfl rfl (BkOk_fx O ((Fx.rf (wr := [2201]) (h := h)).pI ta0 hh101 rfl) t34 rfl rfl p46))
        have e131 : Tg h102 v35 = 6 := ((pIT hh101).trans t37)
        have p132 := (RulesOk_fx O103 ((Fx.rf (wr := [2215]) (h := h102)).pI e104 hh105 rfl) e131 rfl (RulesOk_fx O ((Fx.rf (wr := [2201]) (h := h)).pI ta0 hh101 rfl) t37 rfl p47))
        have p133 := (ND_fx ((Fx.rf (wr := [2215]) (h := h102)).pI e104 hh105 rfl) rfl rfl (ND_fx ((Fx.rf (wr := [2201]) (h := h)).pI ta0 hh101 rfl) rfl rfl p48))
        exact g_iret C hr (nar_z2 (iw (il 1) (by decide) (by decide))).1 (iw (il 1) (by decide) (by decide)) ⟨O107, (((Fx.rf (wr := wr_k3_X11_view)).pI ta0 hh101 rfl).pI e104 hh105 rfl), (iw (il 1) (by decide) (by decide)), (by unfold XInv; rw [e108, e109, e110, e111, e112, e113, (pI_e hh105), e114, e115, e116, e117, e118, e119, e121, e122]; exact ⟨p124, p126, p128, (fun z => absurd z (by decide)), rfl, rfl, (by omega), (by omega), p130, p132, p133⟩), (by unfold vwF; rw [e57]; split <;> omega)⟩ (by decide) (by decide) dX11_view_37
    · have f134 : (1 : Int) ≤ a1 ∧ a1 ≤ (2147483647 : Int) := r_gt f62 f58 q64 (by decide) (by decide)
      refine g_iconst C dX11_view_12 ?_
      exact g_iret C hr (nar_z2 (iw (il 0) (by decide) (by decide))).1 (iw (il 0) (by decide) (by decide)) ⟨O, Fx.rf, (iw (il 0) (by decide) (by decide)), P_XInv, (by unfold vwF; rw [e57]; split <;> omega)⟩ (by decide) (by decide) dX11_view_13
def wr_k3_X12_view : List Nat := [2400, 2434, 2435]
set_option maxRecDepth 100000 in
set_option maxHeartbeats 4000000 in
theorem k3_X12_view (l : Launch) (D : va_G) (cy : Nat → ClassId) (w : Nat → Nat) (z0 : Nat) {h : Hp} {a0 : Nat} {a1 : Int}  (O : Okh h) (ta0 : Tg h a0 = 12) (fa1 : (-2147483648) ≤ a1 ∧ a1 ≤ 2147483647) : MI l D cy w z0 yX12_view cX12_view 2 (some .boolean) 1 22 0 0 [.inr (.inr a0), .inl a1] h (fun v h1 => Okh h1 ∧ Fx wr_k3_X12_view h h1 ∧ (0 ≤ v ∧ v ≤ 1) ∧ (v = vwF a1 (Iv h a0 33))) := by
  refine hm_go (by decide +kernel) (Nat.le_of_ble_eq_true rfl) (fun p e s m below meth c C hr hn => ?_)
  obtain ⟨v1, e2⟩ : ∃ z, Iv h a0 33 = z := ⟨_, rfl⟩
  have f3 := ok_I O ta0 rI_12_33 e2
  refine g_aload_n C rfl 0 rfl dX12_view_0 ?_
  refine g_iconst C dX12_view_1 ?_
  refine gp_I C fk_LandSurveyModel_1 pk_LandSurveyModel_0 rfl ta0 (iw (il 0) (by decide) (by decide)) (nf_i _) dX12_view_2 (fun h5 hh4 => ?_)
  have O6 := O.pI ta0 hh4 rI_12_0 (iw (il 0) (by decide) (by decide)) nofun
  refine g_iload_n C rfl 1 rfl dX12_view_5 ?_
  refine g_iconst C dX12_view_6 ?_
  refine g_aload_n C rfl 0 rfl dX12_view_7 ?_
  have e7 : Tg h5 a0 = 12 := ((pIT hh4).trans ta0)
  have e8 : Iv h5 a0 33 = v1 := ((pI_j hh4 (by decide)).trans e2)
  refine gf_I C fk_LandSurveyModel_342 rfl e7 e8 dX12_view_8 ?_
  refine g_callI (st := []) (gc_S C lk_LandSurveyModel_415 (k_X12_within l D cy w z0 O6 fa1 (iw (il 0) (by decide) (by decide)) (iw f3 (by decide) (by decide))) rfl ⟨by decide, by decide⟩ (Nat.le_of_ble_eq_true rfl) dX12_view_11 ⟨(by decide), (by decide)⟩) (fun r9 h10 f12 K11 => ?_)
  obtain ⟨O13, F14, f15, p16⟩ := K11
  refine g_if_ne C (iw f15 (by decide) (by decide)) 19 (by decide) dX12_view_14 (fun q17 => ?_) (fun q18 => ?_)
  · have f19 : (1 : Int) ≤ r9 ∧ r9 ≤ (1 : Int) := r_nl f15 q17
    have f20 : (0 : Int) ≤ a1 ∧ a1 ≤ (9999 : Int) := by omega
    refine g_aload_n C rfl 0 rfl dX12_view_19 ?_
    refine g_iload_n C rfl 1 rfl dX12_view_20 ?_
    refine g_aload_n C rfl 0 rfl dX12_view_21 ?_
    have e21 : Tg h10 a0 = 12 := (fxT F14 e7)
    have e22 : Iv h10 a0 33 = v1 := ((fxI F14 e7 rfl).trans e8)
    refine gf_I C fk_LandSurveyModel_342 rfl e21 e22 dX12_view_22 ?_
    refine g_icmp_ne C (iw f20 (by decide) (by decide)) (iw f3 (by decide) (by decide)) 32 (by decide) dX12_view_25 (fun q23 => ?_) (fun q24 => ?_)
    · refine g_iload_n C rfl 1 rfl dX12_view_32 ?_
      refine gp_I C fk_LandSurveyModel_287 pk_LandSurveyModel_34 rfl e21 (iw f20 (by decide) (by decide)) (nf_i _) dX12_view_33 (fun h26 hh25 => ?_)
      have O27 := O13.pI e21 hh25 rI_12_34 (iw f20 (by decide) (by decide)) nofun
      refine g_aload_n C rfl 0 rfl dX12_view_36 ?_
      refine g_iconst C dX12_view_37 ?_
      have e28 : Tg h26 a0 = 12 := ((pIT hh25).trans e21)
      refine gp_I C fk_LandSurveyModel_290 pk_LandSurveyModel_35 rfl e28 (iw (il 1) (by decide) (by decide)) (nar_z2 (iw (il 1) (by decide) (by decide))) dX12_view_38 (fun h30 hh29 => ?_)
      have O31 := O27.pI e28 hh29 rI_12_35 (iw (il 1) (by decide) (by decide)) nofun
      refine g_iconst C dX12_view_41 ?_
      exact g_iret C hr (nar_z2 (iw (il 1) (by decide) (by decide))).1 (iw (il 1) (by decide) (by decide)) ⟨O31, (((((Fx.rf (wr := wr_k3_X12_view)).pI ta0 hh4 rfl).call F14 rfl).pI e21 hh25 rfl).pI e28 hh29 rfl), (iw (il 1) (by decide) (by decide)), (by unfold vwF; rw [e2]; split <;> omega)⟩ (by decide) (by decide) dX12_view_42
    · refine g_iconst C dX12_view_28 ?_
      refine g_goto C 33 (by decide) dX12_view_29 ?_
      refine gp_I C fk_LandSurveyModel_287 pk_LandSurveyModel_34 rfl e21 (iw (il (-1)) (by decide) (by decide)) (nf_i _) dX12_view_33 (fun h33 hh32 => ?_)
      have O34 := O13.pI e21 hh32 rI_12_34 (iw (il (-1)) (by decide) (by decide)) nofun
      refine g_aload_n C rfl 0 rfl dX12_view_36 ?_
      refine g_iconst C dX12_view_37 ?_
      have e35 : Tg h33 a0 = 12 := ((pIT hh32).trans e21)
      refine gp_I C fk_LandSurveyModel_290 pk_LandSurveyModel_35 rfl e35 (iw (il 1) (by decide) (by decide)) (nar_z2 (iw (il 1) (by decide) (by decide))) dX12_view_38 (fun h37 hh36 => ?_)
      have O38 := O34.pI e35 hh36 rI_12_35 (iw (il 1) (by decide) (by decide)) nofun
      refine g_iconst C dX12_view_41 ?_
      exact g_iret C hr (nar_z2 (iw (il 1) (by decide) (by decide))).1 (iw (il 1) (by decide) (by decide)) ⟨O38, (((((Fx.rf (wr := wr_k3_X12_view)).pI ta0 hh4 rfl).call F14 rfl).pI e21 hh32 rfl).pI e35 hh36 rfl), (iw (il 1) (by decide) (by decide)), (by unfold vwF; rw [e2]; split <;> omega)⟩ (by decide) (by decide) dX12_view_42
  · have f39 : (0 : Int) ≤ r9 ∧ r9 ≤ (0 : Int) := ii f15 (r_eq (il 0) q18) (by decide) (by decide)
    refine g_iconst C dX12_view_17 ?_
    exact g_iret C hr (nar_z2 (iw (il 0) (by decide) (by decide))).1 (iw (il 0) (by decide) (by decide)) ⟨O13, (((Fx.rf (wr := wr_k3_X12_view)).pI ta0 hh4 rfl).call F14 rfl), (iw (il 0) (by decide) (by decide)), (by unfold vwF; rw [e2]; split <;> omega)⟩ (by decide) (by decide) dX12_view_18
