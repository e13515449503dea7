/-! TI: answers told exactly -/
def vwF (d now : Int) : Int := if 0 ≤ d ∧ d ≤ now then 1 else 0
def ceF (x y h : Int) : Int := if 0 ≤ x ∧ x ≤ 11 ∧ 0 ≤ y ∧ y ≤ 7 ∧ 0 ≤ h ∧ h ≤ 999 then 1 else 0
def foF (x y : Int) : Int := if 0 ≤ x ∧ x ≤ 11 ∧ 0 ≤ y ∧ y ≤ 7 then 1 else 0
def owF (x y o : Int) : Int := if 0 ≤ x ∧ x ≤ 11 ∧ 0 ≤ y ∧ y ≤ 7 ∧ -1 ≤ o ∧ o ≤ 3 then 1 else 0
def riF (n : Int) : Int := if 0 ≤ n ∧ n ≤ 999 then 1 else 0
abbrev faG (x y dn many fr to co n : Int) : Prop := 0 ≤ x ∧ x ≤ 11 ∧ 0 ≤ y ∧ y ≤ 7 ∧ 1 ≤ many ∧ many ≤ 12 ∧ -300 ≤ fr ∧ fr ≤ to ∧ to ≤ 300 ∧ 1 ≤ co ∧ co ≤ 99 ∧ n ≤ 3 ∧ ((dn = 0 ∧ y ≤ 6 ∧ x + many ≤ 12) ∨ (¬ dn = 0 ∧ x ≤ 10 ∧ y + many ≤ 8))
def faF (x y dn many fr to co n : Int) : Int := if faG x y dn many fr to co n then n else -1
def fnF (x y dn many fr to co n : Int) : Int := if faG x y dn many fr to co n then n + 1 else n
def wr_k2_X11_cellAt : List Nat := []
set_option maxRecDepth 100000 in
set_option maxHeartbeats 4000000 in
theorem k2_X11_cellAt (l : Launch) (D : va_G) (cy : Nat → ClassId) (w : Nat → Nat) (z0 : Nat)  {h : Hp} {a0 : Int} {a1 : Int}  (O : Okh h) (fa0 : (-2147483648) ≤ a0 ∧ a0 ≤ 2147483647) (fa1 : (-2147483648) ≤ a1 ∧ a1 ≤ 2147483647) : MI l D cy w z0 yX11_cellAt cX11_cellAt 2 (some .int) 0 0 0 0 [.inl a0, .inl a1] h (fun v h1 => Okh h1 ∧ Fx wr_k2_X11_cellAt h h1 ∧ ((-1) ≤ v ∧ v ≤ 95) ∧ ((v = -1 ∧ (a0 < 0 ∨ 11 < a0 ∨ a1 < 0 ∨ 7 < a1)) ∨ (0 ≤ a0 ∧ a0 ≤ 11 ∧ 0 ≤ a1 ∧ a1 ≤ 7 ∧ v = 12 * a1 + a0))) := by
  refine hm_go (by decide +kernel) (Nat.le_of_ble_eq_true rfl) (fun p e s m below meth c C hr hn => ?_)
  refine g_iload_n C rfl 0 rfl dX11_cellAt_0 ?_
  refine g_if_lt C fa0 20 (by decide) dX11_cellAt_1 (fun q1 => ?_) (fun q2 => ?_)
  · have f3 : (-2147483648 : Int) ≤ a0 ∧ a0 ≤ (-1 : Int) := r_lt fa0 (il 0) q1 (by decide) (by decide)
    refine g_iconst C dX11_cellAt_20 ?_
    exact g_iret C hr rfl (iw (il (-1)) (by decide) (by decide)) ⟨O, Fx.rf, (iw (il (-1)) (by decide) (by decide)), (by omega)⟩ (by decide) (by decide) dX11_cellAt_21
  · have f4 : (0 : Int) ≤ a0 ∧ a0 ≤ (2147483647 : Int) := r_ge fa0 (il 0) q2 (by decide) (by decide)
    refine g_iload_n C rfl 0 rfl dX11_cellAt_4 ?_
    refine g_bipush C (by decide) dX11_cellAt_5 ?_
    refine g_icmp_ge C (iw f4 (by decide) (by decide)) (iw (il 12) (by decide) (by decide)) 20 (by decide) dX11_cellAt_7 (fun q5 => ?_) (fun q6 => ?_)
    · have f7 : (12 : Int) ≤ a0 ∧ a0 ≤ (2147483647 : Int) := r_ge f4 (il 12) q5 (by decide) (by decide)
      refine g_iconst C dX11_cellAt_20 ?_
      exact g_iret C hr rfl (iw (il (-1)) (by decide) (by decide)) ⟨O, Fx.rf, (iw (il (-1)) (by decide) (by decide)), (by omega)⟩ (by decide) (by decide) dX11_cellAt_21
    · have f8 : (0 : Int) ≤ a0 ∧ a0 ≤ (11 : Int) := r_lt f4 (il 12) q6 (by decide) (by decide)
      refine g_iload_n C rfl 1 rfl dX11_cellAt_10 ?_
      refine g_if_lt C fa1 20 (by decide) dX11_cellAt_11 (fun q9 => ?_) (fun q10 => ?_)
      · have f11 : (-2147483648 : Int) ≤ a1 ∧ a1 ≤ (-1 : Int) := r_lt fa1 (il 0) q9 (by decide) (by decide)
        refine g_iconst C dX11_cellAt_20 ?_
        exact g_iret C hr rfl (iw (il (-1)) (by decide) (by decide)) ⟨O, Fx.rf, (iw (il (-1)) (by decide) (by decide)), (by omega)⟩ (by decide) (by decide) dX11_cellAt_21
      · have f12 : (0 : Int) ≤ a1 ∧ a1 ≤ (2147483647 : Int) := r_ge fa1 (il 0) q10 (by decide) (by decide)
        refine g_iload_n C rfl 1 rfl dX11_cellAt_14 ?_
        refine g_bipush C (by decide) dX11_cellAt_15 ?_
        refine g_icmp_lt C (iw f12 (by decide) (by decide)) (iw (il 8) (by decide) (by decide)) 22 (by decide) dX11_cellAt_17 (fun q13 => ?_) (fun q14 => ?_)
        · have f15 : (0 : Int) ≤ a1 ∧ a1 ≤ (7 : Int) := r_lt f12 (il 8) q13 (by decide) (by decide)
          refine g_bipush C (by decide) dX11_cellAt_22 ?_
          refine g_iload_n C rfl 1 rfl dX11_cellAt_24 ?_
          have f16 : (0 : Int) ≤ (12 * a1) ∧ (12 * a1) ≤ (84 : Int) := ia_mul (by decide) f15 (by decide) (by decide)
          refine g_imul C dX11_cellAt_25 ?_
          refine g_iload_n C rfl 0 rfl dX11_cellAt_26 ?_
          have f17 : (0 : Int) ≤ ((12 * a1) + a0) ∧ ((12 * a1) + a0) ≤ (95 : Int) := ia_add f16 f8 (by decide) (by decide)
          refine g_iadd C dX11_cellAt_27 ?_
          exact g_iret C hr rfl (iw f17 (by decide) (by decide)) ⟨O, Fx.rf, (iw f17 (by decide) (by decide)), (by omega)⟩ (by decide) (by decide) dX11_cellAt_28
        · have f18 : (8 : Int) ≤ a1 ∧ a1 ≤ (2147483647 : Int) := r_ge f12 (il 8) q14 (by decide) (by decide)
          refine g_iconst C dX11_cellAt_20 ?_
          exact g_iret C hr rfl (iw (il (-1)) (by decide) (by decide)) ⟨O, Fx.rf, (iw (il (-1)) (by decide) (by decide)), (by omega)⟩ (by decide) (by decide) dX11_cellAt_21
def wr_k3_X11_own : List Nat := [3020000]
set_option maxRecDepth 100000 in
set_option maxHeartbeats 4000000 in
theorem k3_X11_own (l : Launch) (D : va_G) (cy : Nat → ClassId) (w : Nat → Nat) (z0 : Nat)  {h : Hp} {a0 : Nat} {a1 : Int} {a2 : Int} {a3 : Int}  (O : Okh h) (ta0 : Tg h a0 = 11) (fa1 : (-2147483648) ≤ a1 ∧ a1 ≤ 2147483647) (fa2 : (-2147483648) ≤ a2 ∧ a2 ≤ 2147483647) (fa3 : (-2147483648) ≤ a3 ∧ a3 ≤ 2147483647) : MI l D cy w z0 yX11_own cX11_own 5 (some .boolean) 1 21 0 0 [.inr (.inr a0), .inl a1, .inl a2, .inl a3] h (fun v h1 => Okh h1 ∧ Fx wr_k3_X11_own h h1 ∧ (0 ≤ v ∧ v ≤ 1) ∧ (v = owF a1 a2 a3)) := by
  refine hm_go (by decide +kernel) (Nat.le_of_ble_eq_true rfl) (fun p e s m below meth c C hr hn => ?_)
  refine g_iload_n C rfl 1 rfl dX11_own_0 ?_
  refine g_iload_n C rfl 2 rfl dX11_own_1 ?_
  refine g_callI (st := []) (gc_S C lk_LandSurvey_85 (k2_X11_cellAt l D cy w z0 O fa1 fa2) rfl ⟨by decide, by decide⟩ (Nat.le_of_ble_eq_true rfl) dX11_own_2 ⟨(by decide), (by decide)⟩) (fun r1 h2 f4 K3 => ?_)
  obtain ⟨O5, F6, f7, p8⟩ := K3
  refine g_istore C [(4, .inl r1), (0, .inr (.inr a0)), (1, .inl a1), (2, .inl a2), (3, .inl a3)] (by decide) rfl dX11_own_5 ?_
  refine g_iload C 0 rfl dX11_own_7 ?_
  refine g_iconst C dX11_own_9 ?_
  refine g_icmp_eq C (iw f7 (by decide) (by decide)) (iw (il (-1)) (by decide) (by decide)) 23 (by decide) dX11_own_10 (fun q9 => ?_) (fun q10 => ?_)
  · have f11 : (-1 : Int) ≤ r1 ∧ r1 ≤ (-1 : Int) := ii f7 (r_eq (il (-1)) q9) (by decide) (by decide)
    refine g_iconst C dX11_own_23 ?_
    exact g_iret C hr (nar_z2 (iw (il 0) (by decide) (by decide))).1 (iw (il 0) (by decide) (by decide)) ⟨O5, ((Fx.rf (wr := wr_k3_X11_own)).call F6 rfl), (iw (il 0) (by decide) (by decide)), (by unfold owF; split <;> omega)⟩ (by decide) (by decide) dX11_own_24
  · have f12 : (0 : Int) ≤ r1 ∧ r1 ≤ (95 : Int) := r_nl f7 q10
    refine g_iload_n C rfl 4 rfl dX11_own_13 ?_
    refine g_iconst C dX11_own_14 ?_
    refine g_icmp_lt C fa3 (iw (il (-1)) (by decide) (by decide)) 23 (by decide) dX11_own_15 (fun q13 => ?_) (fun q14 => ?_)
    · have f15 : (-2147483648 : Int) ≤ a3 ∧ a3 ≤ (-2 : Int) := r_lt fa3 (il (-1)) q13 (by decide) (by decide)
      refine g_iconst C dX11_own_23 ?_
      exact g_iret C hr (nar_z2 (iw (il 0) (by decide) (by decide))).1 (iw (il 0) (by decide) (by decide)) ⟨O5, ((Fx.rf (wr := wr_k3_X11_own)).call F6 rfl), (iw (il 0) (by decide) (by decide)), (by unfold owF; split <;> omega)⟩ (by decide) (by decide) dX11_own_24
    · have f16 : (-1 : Int) ≤ a3 ∧ a3 ≤ (2147483647 : Int) := r_ge fa3 (il (-1)) q14 (by decide) (by decide)
      refine g_iload_n C rfl 4 rfl dX11_own_18 ?_
      refine g_iconst C dX11_own_19 ?_
      refine g_icmp_lt C (iw f16 (by decide) (by decide)) (iw (il 4) (by decide) (by decide)) 25 (by decide) dX11_own_20 (fun q17 => ?_) (fun q18 => ?_)
      · have f19 : (-1 : Int) ≤ a3 ∧ a3 ≤ (3 : Int) := r_lt f16 (il 4) q17 (by decide) (by decide)
        refine g_aload_n C rfl 1 rfl dX11_own_25 ?_
        have e20 : Tg h2 a0 = 11 := (fxT F6 ta0)
        obtain ⟨v21, e22⟩ : ∃ z, Rv h2 a0 2 = z := ⟨_, rfl⟩
        have t23 := ok_R O5 e20 rE_11_2 e22
        refine gf_R C fk_LandSurvey_16 rfl e20 e22 dX11_own_26 ?_
        obtain ⟨v24, e25⟩ : ∃ z, Rv h2 v21 3 = z := ⟨_, rfl⟩
        have t26 := ok_R O5 t23 rE_3_3 e25
        have l27 := ok_L O5 t23 rE_3_3 e25
        refine gf_R C fk_LandSurvey_99 rfl t23 e25 dX11_own_29 ?_
        refine g_iload C 0 rfl dX11_own_32 ?_
        refine g_iload_n C rfl 4 rfl dX11_own_34 ?_
        refine g_iast C t26 rfl l27 (ix f12 (by decide) (by decide)) (iw f19 (by decide) (by decide)) dX11_own_35 (fun h29 hh28 => ?_)
        have O30 := O5.pIa t26 ar_15100 hh28 rI_15100_0 f19 nofun
        refine g_iconst C dX11_own_36 ?_
        exact g_iret C hr (nar_z2 (iw (il 1) (by decide) (by decide))).1 (iw (il 1) (by decide) (by decide)) ⟨O30, (((Fx.rf (wr := wr_k3_X11_own)).call F6 rfl).pIa t26 ar_15100 hh28 rfl), (iw (il 1) (by decide) (by decide)), (by unfold owF; split <;> omega)⟩ (by decide) (by decide) dX11_own_37
      · have f31 : (4 : Int) ≤ a3 ∧ a3 ≤ (2147483647 : Int) := r_ge f16 (il 4) q18 (by decide) (by decide)
        refine g_iconst C dX11_own_23 ?_
        exact g_iret C hr (nar_z2 (iw (il 0) (by decide) (by decide))).1 (iw (il 0) (by decide) (by decide)) ⟨O5, ((Fx.rf (wr := wr_k3_X11_own)).call F6 rfl), (iw (il 0) (by decide) (by decide)), (by unfold owF; split <;> omega)⟩ (by decide) (by decide) dX11_own_24
def wr_k3_X12_own : List Nat := [2400, 27820000]
set_option maxRecDepth 100000 in
set_option maxHeartbeats 4000000 in
theorem k3_X12_own (l : Launch) (D : va_G) (cy : Nat → ClassId) (w : Nat → Nat) (z0 : Nat)  {h : Hp} {a0 : Nat} {a1 : Int} {a2 : Int} {a3 : Int}  (O : Okh h) (ta0 : Tg h a0 = 12) (fa1 : (-2147483648) ≤ a1 ∧ a1 ≤ 2147483647) (fa2 : (-2147483648) ≤ a2 ∧ a2 ≤ 2147483647) (fa3 : (-2147483648) ≤ a3 ∧ a3 ≤ 2147483647) : MI l D cy w z0 yX12_own cX12_own 4 (some .boolean) 2 43 0 0 [.inr (.inr a0), .inl a1, .inl a2, .inl a3] h (fun v h1 => Okh h1 ∧ Fx wr_k3_X12_own h h1 ∧ (0 ≤ v ∧ v ≤ 1) ∧ (v = owF a1 a2 a3)) := by
  refine hm_go (by decide +kernel) (Nat.le_of_ble_eq_true rfl) (fun p e s m below meth c C hr hn => ?_)
  refine g_aload_n C rfl 0 rfl dX12_own_0 ?_
  refine g_iconst C dX12_own_1 ?_
  refine gp_I C fk_LandSurveyModel_1 pk_LandSurveyModel_0 rfl ta0 (iw (il 0) (by decide) (by decide)) (nf_i _) dX12_own_2 (fun h2 hh1 => ?_)
  have O3 := O.pI ta0 hh1 rI_12_0 (iw (il 0) (by decide) (by decide)) nofun
  refine g_iload_n C rfl 1 rfl dX12_own_5 ?_
  refine g_iload_n C rfl 2 rfl dX12_own_6 ?_
  refine g_callI (st := []) (gc_S C lk_LandSurveyModel_419 (k_X12_isCell l D cy w z0 O3 fa1 fa2) rfl ⟨by decide, by decide⟩ (Nat.le_of_ble_eq_true rfl) dX12_own_7 ⟨(by decide), (by decide)⟩) (fun r4 h5 f7 K6 => ?_)
  obtain ⟨O8, F9, f10, p11⟩ := K6
  refine g_if_eq C (iw f10 (by decide) (by decide)) 22 (by decide) dX12_own_10 (fun q12 => ?_) (fun q13 => ?_)
  · have f14 : (0 : Int) ≤ r4 ∧ r4 ≤ (0 : Int) := ii f10 (r_eq (il 0) q12) (by decide) (by decide)
    refine g_iconst C dX12_own_22 ?_
    exact g_iret C hr (nar_z2 (iw (il 0) (by decide) (by decide))).1 (iw (il 0) (by decide) (by decide)) ⟨O8, (((Fx.rf (wr := wr_k3_X12_own)).pI ta0 hh1 rfl).call F9 rfl), (iw (il 0) (by decide) (by decide)), (by unfold owF; split <;> omega)⟩ (by decide) (by decide) dX12_own_23
  · have f15 : (1 : Int) ≤ r4 ∧ r4 ≤ (1 : Int) := r_nl f10 q13
    have f16 : (0 : Int) ≤ a1 ∧ a1 ≤ (11 : Int) := by omega
    have f17 : (0 : Int) ≤ a2 ∧ a2 ≤ (7 : Int) := by omega
    refine g_iload_n C rfl 3 rfl dX12_own_13 ?_
    refine g_iconst C dX12_own_14 ?_
    refine g_iconst C dX12_own_15 ?_
    refine g_callI (st := []) (gc_S C lk_LandSurveyModel_415 (k_X12_within l D cy w z0 O8 fa3 (iw (il (-1)) (by decide) (by decide)) (iw (il 3) (by decide) (by decide))) rfl ⟨by decide, by decide⟩ (Nat.le_of_ble_eq_true rfl) dX12_own_16 ⟨(by decide), (by decide)⟩) (fun r18 h19 f21 K20 => ?_)
    obtain ⟨O22, F23, f24, p25⟩ := K20
    refine g_if_ne C (iw f24 (by decide) (by decide)) 24 (by decide) dX12_own_19 (fun q26 => ?_) (fun q27 => ?_)
    · have f28 : (1 : Int) ≤ r18 ∧ r18 ≤ (1 : Int) := r_nl f24 q26
      have f29 : (-1 : Int) ≤ a3 ∧ a3 ≤ (3 : Int) := by omega
      refine g_aload_n C rfl 0 rfl dX12_own_24 ?_
      have e30 : Tg h19 a0 = 12 := (fxT F23 (fxT F9 ((pIT hh1).trans ta0)))
      obtain ⟨v31, e32⟩ : ∃ z, Rv h19 a0 39 = z := ⟨_, rfl⟩
      have t33 := ok_R O22 e30 rE_12_39 e32
      have l34 := ok_L O22 e30 rE_12_39 e32
      refine gf_R C fk_LandSurveyModel_170 rfl e30 e32 dX12_own_25 ?_
      refine g_bipush C (by decide) dX12_own_28 ?_
      refine g_iload_n C rfl 2 rfl dX12_own_30 ?_
      have f35 : (0 : Int) ≤ (12 * a2) ∧ (12 * a2) ≤ (84 : Int) := ia_mul (by decide) f17 (by decide) (by decide)
      refine g_imul C dX12_own_31 ?_
      refine g_iload_n C rfl 1 rfl dX12_own_32 ?_
      have f36 : (0 : Int) ≤ ((12 * a2) + a1) ∧ ((12 * a2) + a1) ≤ (95 : Int) := ia_add f35 f16 (by decide) (by decide)
      refine g_iadd C dX12_own_33 ?_
      refine g_iload_n C rfl 3 rfl dX12_own_34 ?_
      refine g_iast C t33 rfl l34 (ix f36 (by decide) (by decide)) (iw f29 (by decide) (by decide)) dX12_own_35 (fun h38 hh37 => ?_)
      have O39 := O22.pIa t33 ar_139100 hh37 rI_139100_0 f29 nofun
      refine g_iconst C dX12_own_36 ?_
      exact g_iret C hr (nar_z2 (iw (il 1) (by decide) (by decide))).1 (iw (il 1) (by decide) (by decide)) ⟨O39, (((((Fx.rf (wr := wr_k3_X12_own)).pI ta0 hh1 rfl).call F9 rfl).call F23 rfl).pIa t33 ar_139100 hh37 rfl), (iw (il 1) (by decide) (by decide)), (by unfold owF; split <;> omega)⟩ (by decide) (by decide) dX12_own_37
    · have f40 : (0 : Int) ≤ r18 ∧ r18 ≤ (0 : Int) := ii f24 (r_eq (il 0) q27) (by decide) (by decide)
      refine g_iconst C dX12_own_22 ?_
      exact g_iret C hr (nar_z2 (iw (il 0) (by decide) (by decide))).1 (iw (il 0) (by decide) (by decide)) ⟨O22, ((((Fx.rf (wr := wr_k3_X12_own)).pI ta0 hh1 rfl).call F9 rfl).call F23 rfl), (iw (il 0) (by decide) (by decide)), (by unfold owF; split <;> omega)⟩ (by decide) (by decide) dX12_own_23
