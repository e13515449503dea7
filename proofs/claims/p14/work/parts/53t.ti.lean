/-! TI: answers told exactly -/
def vwF (d now : Int) : Int := if 0 ≤ d ∧ d ≤ now then 1 else 0
def ceF (x y h : Int) : Int := if 0 ≤ x ∧ x ≤ 11 ∧ 0 ≤ y ∧ y ≤ 7 ∧ 0 ≤ h ∧ h ≤ 999 then 1 else 0
def foF (x y : Int) : Int := if 0 ≤ x ∧ x ≤ 11 ∧ 0 ≤ y ∧ y ≤ 7 then 1 else 0
def owF (x y o : Int) : Int := if 0 ≤ x ∧ x ≤ 11 ∧ 0 ≤ y ∧ y ≤ 7 ∧ -1 ≤ o ∧ o ≤ 3 then 1 else 0
def riF (n : Int) : Int := if 0 ≤ n ∧ n ≤ 999 then 1 else 0
abbrev faG (x y dn many fr to co n : Int) : Prop := 0 ≤ x ∧ x ≤ 11 ∧ 0 ≤ y ∧ y ≤ 7 ∧ 1 ≤ many ∧ many ≤ 12 ∧ -300 ≤ fr ∧ fr ≤ to ∧ to ≤ 300 ∧ 1 ≤ co ∧ co ≤ 99 ∧ n ≤ 3 ∧ ((dn = 0 ∧ y ≤ 6 ∧ x + many ≤ 12) ∨ (¬ dn = 0 ∧ x ≤ 10 ∧ y + many ≤ 8))
def faF (x y dn many fr to co n : Int) : Int := if faG x y dn many fr to co n then n else -1
def fnF (x y dn many fr to co n : Int) : Int := if faG x y dn many fr to co n then n + 1 else n
def wr_k3_X11_rivalry : List Nat := [2210]
set_option maxRecDepth 100000 in
set_option maxHeartbeats 4000000 in
theorem k3_X11_rivalry (l : Launch) (D : va_G) (cy : Nat → ClassId) (w : Nat → Nat) (z0 : Nat)  {h : Hp} {a0 : Nat} {a1 : Int}  (O : Okh h) (ta0 : Tg h a0 = 11) (fa1 : (-2147483648) ≤ a1 ∧ a1 ≤ 2147483647) : MI l D cy w z0 yX11_rivalry cX11_rivalry 2 (some .boolean) 0 0 0 0 [.inr (.inr a0), .inl a1] h (fun v h1 => Okh h1 ∧ Fx wr_k3_X11_rivalry h h1 ∧ (0 ≤ v ∧ v ≤ 1) ∧ (v = riF a1)) := by
  refine hm_go (by decide +kernel) (Nat.le_of_ble_eq_true rfl) (fun p e s m below meth c C hr hn => ?_)
  refine g_iload_n C rfl 1 rfl dX11_rivalry_0 ?_
  refine g_if_lt C fa1 11 (by decide) dX11_rivalry_1 (fun q1 => ?_) (fun q2 => ?_)
  · have f3 : (-2147483648 : Int) ≤ a1 ∧ a1 ≤ (-1 : Int) := r_lt fa1 (il 0) q1 (by decide) (by decide)
    refine g_iconst C dX11_rivalry_11 ?_
    exact g_iret C hr (nar_z2 (iw (il 0) (by decide) (by decide))).1 (iw (il 0) (by decide) (by decide)) ⟨O, Fx.rf, (iw (il 0) (by decide) (by decide)), (by unfold riF; split <;> omega)⟩ (by decide) (by decide) dX11_rivalry_12
  · have f4 : (0 : Int) ≤ a1 ∧ a1 ≤ (2147483647 : Int) := r_ge fa1 (il 0) q2 (by decide) (by decide)
    refine g_iload_n C rfl 1 rfl dX11_rivalry_4 ?_
    refine g_sipush C (by decide) dX11_rivalry_5 ?_
    refine g_icmp_le C (iw f4 (by decide) (by decide)) (iw (il 999) (by decide) (by decide)) 13 (by decide) dX11_rivalry_8 (fun q5 => ?_) (fun q6 => ?_)
    · have f7 : (0 : Int) ≤ a1 ∧ a1 ≤ (999 : Int) := r_le f4 (il 999) q5 (by decide) (by decide)
      refine g_aload_n C rfl 0 rfl dX11_rivalry_13 ?_
      refine g_iload_n C rfl 1 rfl dX11_rivalry_14 ?_
      refine gp_I C fk_LandSurvey_163 pk_LandSurvey_10 rfl ta0 (iw f7 (by decide) (by decide)) (nf_i _) dX11_rivalry_15 (fun h9 hh8 => ?_)
      have O10 := O.pI ta0 hh8 rI_11_10 f7 nofun
      refine g_iconst C dX11_rivalry_18 ?_
      exact g_iret C hr (nar_z2 (iw (il 1) (by decide) (by decide))).1 (iw (il 1) (by decide) (by decide)) ⟨O10, ((Fx.rf (wr := wr_k3_X11_rivalry)).pI ta0 hh8 rfl), (iw (il 1) (by decide) (by decide)), (by unfold riF; split <;> omega)⟩ (by decide) (by decide) dX11_rivalry_19
    · have f11 : (1000 : Int) ≤ a1 ∧ a1 ≤ (2147483647 : Int) := r_gt f4 (il 999) q6 (by decide) (by decide)
      refine g_iconst C dX11_rivalry_11 ?_
      exact g_iret C hr (nar_z2 (iw (il 0) (by decide) (by decide))).1 (iw (il 0) (by decide) (by decide)) ⟨O, Fx.rf, (iw (il 0) (by decide) (by decide)), (by unfold riF; split <;> omega)⟩ (by decide) (by decide) dX11_rivalry_12
def wr_k3_X12_rivalry : List Nat := [2400, 2435, 2479]
set_option maxRecDepth 100000 in
set_option maxHeartbeats 4000000 in
theorem k3_X12_rivalry (l : Launch) (D : va_G) (cy : Nat → ClassId) (w : Nat → Nat) (z0 : Nat)  {h : Hp} {a0 : Nat} {a1 : Int}  (O : Okh h) (ta0 : Tg h a0 = 12) (fa1 : (-2147483648) ≤ a1 ∧ a1 ≤ 2147483647) : MI l D cy w z0 yX12_rivalry cX12_rivalry 2 (some .boolean) 1 22 0 0 [.inr (.inr a0), .inl a1] h (fun v h1 => Okh h1 ∧ Fx wr_k3_X12_rivalry h h1 ∧ (0 ≤ v ∧ v ≤ 1) ∧ (v = riF a1)) := by
  refine hm_go (by decide +kernel) (Nat.le_of_ble_eq_true rfl) (fun p e s m below meth c C hr hn => ?_)
  refine g_aload_n C rfl 0 rfl dX12_rivalry_0 ?_
  refine g_iconst C dX12_rivalry_1 ?_
  refine gp_I C fk_LandSurveyModel_1 pk_LandSurveyModel_0 rfl ta0 (iw (il 0) (by decide) (by decide)) (nf_i _) dX12_rivalry_2 (fun h2 hh1 => ?_)
  have O3 := O.pI ta0 hh1 rI_12_0 (iw (il 0) (by decide) (by decide)) nofun
  refine g_iload_n C rfl 1 rfl dX12_rivalry_5 ?_
  refine g_iconst C dX12_rivalry_6 ?_
  refine g_sipush C (by decide) dX12_rivalry_7 ?_
  refine g_callI (st := []) (gc_S C lk_LandSurveyModel_415 (k_X12_within l D cy w z0 O3 fa1 (iw (il 0) (by decide) (by decide)) (iw (il 999) (by decide) (by decide))) rfl ⟨by decide, by decide⟩ (Nat.le_of_ble_eq_true rfl) dX12_rivalry_10 ⟨(by decide), (by decide)⟩) (fun r4 h5 f7 K6 => ?_)
  obtain ⟨O8, F9, f10, p11⟩ := K6
  refine g_if_ne C (iw f10 (by decide) (by decide)) 18 (by decide) dX12_rivalry_13 (fun q12 => ?_) (fun q13 => ?_)
  · have f14 : (1 : Int) ≤ r4 ∧ r4 ≤ (1 : Int) := r_nl f10 q12
    have f15 : (0 : Int) ≤ a1 ∧ a1 ≤ (999 : Int) := by omega
    refine g_aload_n C rfl 0 rfl dX12_rivalry_18 ?_
    refine g_iload_n C rfl 1 rfl dX12_rivalry_19 ?_
    have e16 : Tg h5 a0 = 12 := (fxT F9 ((pIT hh1).trans ta0))
    refine gp_I C fk_LandSurveyModel_549 pk_LandSurveyModel_79 rfl e16 (iw f15 (by decide) (by decide)) (nf_i _) dX12_rivalry_20 (fun h18 hh17 => ?_)
    have O19 := O8.pI e16 hh17 rI_12_79 f15 nofun
    refine g_aload_n C rfl 0 rfl dX12_rivalry_23 ?_
    refine g_iconst C dX12_rivalry_24 ?_
    have e20 : Tg h18 a0 = 12 := ((pIT hh17).trans e16)
    refine gp_I C fk_LandSurveyModel_290 pk_LandSurveyModel_35 rfl e20 (iw (il 1) (by decide) (by decide)) (nar_z2 (iw (il 1) (by decide) (by decide))) dX12_rivalry_25 (fun h22 hh21 => ?_)
    have O23 := O19.pI e20 hh21 rI_12_35 (iw (il 1) (by decide) (by decide)) nofun
    refine g_iconst C dX12_rivalry_28 ?_
    exact g_iret C hr (nar_z2 (iw (il 1) (by decide) (by decide))).1 (iw (il 1) (by decide) (by decide)) ⟨O23, (((((Fx.rf (wr := wr_k3_X12_rivalry)).pI ta0 hh1 rfl).call F9 rfl).pI e16 hh17 rfl).pI e20 hh21 rfl), (iw (il 1) (by decide) (by decide)), (by unfold riF; split <;> omega)⟩ (by decide) (by decide) dX12_rivalry_29
  · have f24 : (0 : Int) ≤ r4 ∧ r4 ≤ (0 : Int) := ii f10 (r_eq (il 0) q13) (by decide) (by decide)
    refine g_iconst C dX12_rivalry_16 ?_
    exact g_iret C hr (nar_z2 (iw (il 0) (by decide) (by decide))).1 (iw (il 0) (by decide) (by decide)) ⟨O8, (((Fx.rf (wr := wr_k3_X12_rivalry)).pI ta0 hh1 rfl).call F9 rfl), (iw (il 0) (by decide) (by decide)), (by unfold riF; split <;> omega)⟩ (by decide) (by decide) dX12_rivalry_17
