abbrev cX4_enact : ByteArray := prog_6_method_3_code
def yX4_enact : MethodName := ⟨RX4, "enact", "(ILLandSurvey$Rules;)Z"⟩
theorem okX4_enact : yok yX4_enact 2 := by decide +kernel
theorem dX4_enact_0 : decode cX4_enact 0 = .ok (.aload_n 0, 1) := by decide +kernel
theorem dX4_enact_1 : decode cX4_enact 1 = .ok (.getfield 26, 3) := by decide +kernel
theorem dX4_enact_4 : decode cX4_enact 4 = .ok (.ifCond .le 22, 3) := by decide +kernel
theorem dX4_enact_26 : decode cX4_enact 26 = .ok (.iconst 0, 1) := by decide +kernel
theorem dX4_enact_27 : decode cX4_enact 27 = .ok (.istore_n 3, 1) := by decide +kernel
theorem dX4_enact_28 : decode cX4_enact 28 = .ok (.iload_n 3, 1) := by decide +kernel
theorem dX4_enact_29 : decode cX4_enact 29 = .ok (.ifCond .ne 24, 3) := by decide +kernel
theorem dX4_enact_32 : decode cX4_enact 32 = .ok (.aload_n 0, 1) := by decide +kernel
theorem dX4_enact_33 : decode cX4_enact 33 = .ok (.getfield 26, 3) := by decide +kernel
theorem dX4_enact_36 : decode cX4_enact 36 = .ok (.bipush 8, 2) := by decide +kernel
theorem dX4_enact_38 : decode cX4_enact 38 = .ok (.if_icmp .lt 5, 3) := by decide +kernel
theorem dX4_enact_43 : decode cX4_enact 43 = .ok (.aload_n 0, 1) := by decide +kernel
theorem dX4_enact_44 : decode cX4_enact 44 = .ok (.dup, 1) := by decide +kernel
theorem dX4_enact_45 : decode cX4_enact 45 = .ok (.getfield 26, 3) := by decide +kernel
theorem dX4_enact_48 : decode cX4_enact 48 = .ok (.iconst 1, 1) := by decide +kernel
theorem dX4_enact_49 : decode cX4_enact 49 = .ok (.iadd, 1) := by decide +kernel
theorem dX4_enact_50 : decode cX4_enact 50 = .ok (.putfield 26, 3) := by decide +kernel
theorem pk_LandSurvey_RuleBook_2 : pk RX4 TX4 4 2 tyX4 false := ⟨tyX4_ok, nmX4, rfl⟩
theorem dX4_enact_53 : decode cX4_enact 53 = .ok (.aload_n 0, 1) := by decide +kernel
theorem dX4_enact_54 : decode cX4_enact 54 = .ok (.getfield 9, 3) := by decide +kernel
theorem dX4_enact_57 : decode cX4_enact 57 = .ok (.aload_n 0, 1) := by decide +kernel
theorem dX4_enact_58 : decode cX4_enact 58 = .ok (.getfield 26, 3) := by decide +kernel
theorem dX4_enact_61 : decode cX4_enact 61 = .ok (.iconst 1, 1) := by decide +kernel
theorem dX4_enact_62 : decode cX4_enact 62 = .ok (.isub, 1) := by decide +kernel
theorem dX4_enact_63 : decode cX4_enact 63 = .ok (.iload_n 1, 1) := by decide +kernel
theorem dX4_enact_64 : decode cX4_enact 64 = .ok (.iastore, 1) := by decide +kernel
theorem dX4_enact_65 : decode cX4_enact 65 = .ok (.aload_n 0, 1) := by decide +kernel
theorem dX4_enact_66 : decode cX4_enact 66 = .ok (.getfield 17, 3) := by decide +kernel
theorem dX4_enact_69 : decode cX4_enact 69 = .ok (.aload_n 0, 1) := by decide +kernel
theorem dX4_enact_70 : decode cX4_enact 70 = .ok (.getfield 26, 3) := by decide +kernel
theorem dX4_enact_73 : decode cX4_enact 73 = .ok (.iconst 1, 1) := by decide +kernel
theorem dX4_enact_74 : decode cX4_enact 74 = .ok (.isub, 1) := by decide +kernel
theorem dX4_enact_75 : decode cX4_enact 75 = .ok (.aload_n 2, 1) := by decide +kernel
theorem dX4_enact_76 : decode cX4_enact 76 = .ok (.aastore, 1) := by decide +kernel
theorem dX4_enact_77 : decode cX4_enact 77 = .ok (.iconst 1, 1) := by decide +kernel
theorem dX4_enact_78 : decode cX4_enact 78 = .ok (.ireturn, 1) := by decide +kernel
theorem dX4_enact_7 : decode cX4_enact 7 = .ok (.aload_n 0, 1) := by decide +kernel
theorem dX4_enact_8 : decode cX4_enact 8 = .ok (.getfield 9, 3) := by decide +kernel
theorem dX4_enact_11 : decode cX4_enact 11 = .ok (.aload_n 0, 1) := by decide +kernel
theorem dX4_enact_12 : decode cX4_enact 12 = .ok (.getfield 26, 3) := by decide +kernel
theorem dX4_enact_15 : decode cX4_enact 15 = .ok (.iconst 1, 1) := by decide +kernel
theorem dX4_enact_16 : decode cX4_enact 16 = .ok (.isub, 1) := by decide +kernel
theorem dX4_enact_17 : decode cX4_enact 17 = .ok (.iaload, 1) := by decide +kernel
theorem dX4_enact_18 : decode cX4_enact 18 = .ok (.iload_n 1, 1) := by decide +kernel
theorem dX4_enact_19 : decode cX4_enact 19 = .ok (.if_icmp .ne 7, 3) := by decide +kernel
theorem dX4_enact_41 : decode cX4_enact 41 = .ok (.iconst 0, 1) := by decide +kernel
theorem dX4_enact_42 : decode cX4_enact 42 = .ok (.ireturn, 1) := by decide +kernel
theorem dX4_enact_22 : decode cX4_enact 22 = .ok (.iconst 1, 1) := by decide +kernel
theorem dX4_enact_23 : decode cX4_enact 23 = .ok (.goto 4, 3) := by decide +kernel
abbrev cX11_rules : ByteArray := prog_1_method_12_code
def yX11_rules : MethodName := ⟨RX11, "rules", "()I"⟩
theorem okX11_rules : yok yX11_rules 0 := by decide +kernel
theorem dX11_rules_0 : decode cX11_rules 0 = .ok (.aload_n 0, 1) := by decide +kernel
theorem dX11_rules_1 : decode cX11_rules 1 = .ok (.getfield 29, 3) := by decide +kernel
theorem dX11_rules_4 : decode cX11_rules 4 = .ok (.invokevirtual 146, 3) := by decide +kernel
theorem kw_670 : Cond.code yX3_readTape prog_5_method_3_code 2 (some .int) ∈ uu := uu_in (i := 670) (by decide +kernel) (by decide +kernel)
theorem kw_667 : Cond.methodLink "LandSurvey" 146 yX3_readTape ∈ uu := uu_in (i := 667) (by decide +kernel) (by decide +kernel)
theorem kw_668 : Cond.instanceMethod yX3_readTape ∈ uu := uu_in (i := 668) (by decide +kernel) (by decide +kernel)
theorem kw_669 : Cond.selects "LandSurvey$Reader" yX3_readTape yX3_readTape ∈ uu := uu_in (i := 669) (by decide +kernel) (by decide +kernel)
theorem lk_LandSurvey_146 : lkV "LandSurvey" 146 yX3_readTape cX3_readTape 2 (some .int) 0 := ⟨kw_667, kw_668, kw_669, kw_147, kw_670, okX3_readTape⟩
theorem dX11_rules_7 : decode cX11_rules 7 = .ok (.istore_n 1, 1) := by decide +kernel
theorem dX11_rules_8 : decode cX11_rules 8 = .ok (.iload_n 1, 1) := by decide +kernel
theorem dX11_rules_9 : decode cX11_rules 9 = .ok (.ifCond .eq 5, 3) := by decide +kernel
theorem dX11_rules_14 : decode cX11_rules 14 = .ok (.aload_n 0, 1) := by decide +kernel
theorem dX11_rules_15 : decode cX11_rules 15 = .ok (.getfield 36, 3) := by decide +kernel
theorem dX11_rules_18 : decode cX11_rules 18 = .ok (.aload_n 0, 1) := by decide +kernel
theorem dX11_rules_19 : decode cX11_rules 19 = .ok (.getfield 78, 3) := by decide +kernel
theorem dX11_rules_22 : decode cX11_rules 22 = .ok (.aload_n 0, 1) := by decide +kernel
theorem dX11_rules_23 : decode cX11_rules 23 = .ok (.getfield 29, 3) := by decide +kernel
theorem dX11_rules_26 : decode cX11_rules 26 = .ok (.getfield 150, 3) := by decide +kernel
theorem kw_249 : Cond.fieldLink "LandSurvey" 150 "LandSurvey$Reader" "made" "LLandSurvey$Rules;" ∈ uu := uu_in (i := 249) (by decide +kernel) (by decide +kernel)
theorem fk_LandSurvey_150 : fkR "LandSurvey" 150 3 13 RX3 TX3 14 := ⟨rfl, rfl, inX3, by decide, kw_249, by decide⟩
theorem dX11_rules_29 : decode cX11_rules 29 = .ok (.invokevirtual 153, 3) := by decide +kernel
theorem kw_908 : Cond.code yX4_enact prog_6_method_3_code 4 (some .boolean) ∈ uu := uu_in (i := 908) (by decide +kernel) (by decide +kernel)
theorem kw_905 : Cond.methodLink "LandSurvey" 153 yX4_enact ∈ uu := uu_in (i := 905) (by decide +kernel) (by decide +kernel)
theorem kw_906 : Cond.instanceMethod yX4_enact ∈ uu := uu_in (i := 906) (by decide +kernel) (by decide +kernel)
theorem kw_907 : Cond.selects "LandSurvey$RuleBook" yX4_enact yX4_enact ∈ uu := uu_in (i := 907) (by decide +kernel) (by decide +kernel)
theorem lk_LandSurvey_153 : lkV "LandSurvey" 153 yX4_enact cX4_enact 4 (some .boolean) 2 := ⟨kw_905, kw_906, kw_907, kw_148, kw_908, okX4_enact⟩
theorem dX11_rules_32 : decode cX11_rules 32 = .ok (.ifCond .ne 5, 3) := by decide +kernel
theorem dX11_rules_37 : decode cX11_rules 37 = .ok (.aload_n 0, 1) := by decide +kernel
theorem dX11_rules_38 : decode cX11_rules 38 = .ok (.iconst 0, 1) := by decide +kernel
theorem dX11_rules_39 : decode cX11_rules 39 = .ok (.putfield 81, 3) := by decide +kernel
theorem dX11_rules_42 : decode cX11_rules 42 = .ok (.iconst 0, 1) := by decide +kernel
theorem dX11_rules_43 : decode cX11_rules 43 = .ok (.ireturn, 1) := by decide +kernel
theorem dX11_rules_35 : decode cX11_rules 35 = .ok (.iconst (-1), 1) := by decide +kernel
theorem dX11_rules_36 : decode cX11_rules 36 = .ok (.ireturn, 1) := by decide +kernel
theorem dX11_rules_12 : decode cX11_rules 12 = .ok (.iload_n 1, 1) := by decide +kernel
theorem dX11_rules_13 : decode cX11_rules 13 = .ok (.ireturn, 1) := by decide +kernel
def wr_k_X4_enact : List Nat := [1002, 4220000, 4421600]
set_option maxRecDepth 100000 in
set_option maxHeartbeats 4000000 in
theorem k_X4_enact (l : Launch) (D : va_G) (cy : Nat → ClassId) (w : Nat → Nat) (z0 : Nat)  {h : Hp} {a0 : Nat} {a1 : Int} {a2 : Nat}  (O : Okh h) (ta0 : Tg h a0 = 5) (fa1 : 0 ≤ a1 ∧ a1 ≤ 9999) (ta2 : Tg h a2 = 6) (P_BkOk : BkOk h a0) (P_RO2 : RulesOk h a2) : MI l D cy w z0 yX4_enact cX4_enact 4 (some .boolean) 0 0 0 0 [.inr (.inr a0), .inl a1, .inr (.inr a2)] h (fun v h1 => Okh h1 ∧ Fx wr_k_X4_enact h h1 ∧ (0 ≤ v ∧ v ≤ 1) ∧ (BkOk h1 a0)) := by
  refine hm_go (by decide +kernel) (Nat.le_of_ble_eq_true rfl) (fun p e s m below meth c C hr hn => ?_)
  obtain ⟨v1, e2⟩ : ∃ z, Rv h a0 1 = z := ⟨_, rfl⟩
  have t3 := ok_R O ta0 rE_5_1 e2
  have l4 := ok_L O ta0 rE_5_1 e2
  obtain ⟨v5, e6⟩ : ∃ z, Iv h a0 2 = z := ⟨_, rfl⟩
  have f7 := ok_I O ta0 rI_5_2 e6
  refine g_aload_n C rfl 0 rfl dX4_enact_0 ?_
  refine gf_I C fk_LandSurvey_RuleBook_26 rfl ta0 e6 dX4_enact_1 ?_
  refine g_if_le C (iw f7 (by decide) (by decide)) 26 (by decide) dX4_enact_4 (fun q8 => ?_) (fun q9 => ?_)
  · have f10 : (0 : Int) ≤ v5 ∧ v5 ≤ (0 : Int) := r_le f7 (il 0) q8 (by decide) (by decide)
    refine g_iconst C dX4_enact_26 ?_
    refine g_istore_n C [(3, .inl 0), (0, .inr (.inr a0)), (1, .inl a1), (2, .inr (.inr a2))] rfl (by decide) rfl dX4_enact_27 ?_
    refine g_iload_n C rfl 0 rfl dX4_enact_28 ?_
    refine g_if_ne C (iw (il 0) (by decide) (by decide)) 53 (by decide) dX4_enact_29 (fun q11 => ?_) (fun q12 => ?_)
    · exact (no_ne (il 0) (il 0) q11 (by decide)).elim
    · refine g_aload_n C rfl 1 rfl dX4_enact_32 ?_
      refine gf_I C fk_LandSurvey_RuleBook_26 rfl ta0 e6 dX4_enact_33 ?_
      refine g_bipush C (by decide) dX4_enact_36 ?_
      refine g_icmp_lt C (iw f10 (by decide) (by decide)) (iw (il 8) (by decide) (by decide)) 43 (by decide) dX4_enact_38 (fun q13 => ?_) (fun q14 => ?_)
      · refine g_aload_n C rfl 1 rfl dX4_enact_43 ?_
        refine g_dup C rfl dX4_enact_44 ?_
        refine gf_I C fk_LandSurvey_RuleBook_26 rfl ta0 e6 dX4_enact_45 ?_
        refine g_iconst C dX4_enact_48 ?_
        have f15 : (1 : Int) ≤ (v5 + 1) ∧ (v5 + 1) ≤ (1 : Int) := ia_add f10 (il 1) (by decide) (by decide)
        refine g_iadd C dX4_enact_49 ?_
        refine gp_I C fk_LandSurvey_RuleBook_26 pk_LandSurvey_RuleBook_2 rfl ta0 (iw f15 (by decide) (by decide)) (nf_i _) dX4_enact_50 (fun h17 hh16 => ?_)
        have O18 := O.pI ta0 hh16 rI_5_2 (iw f15 (by decide) (by decide)) nofun
        refine g_aload_n C rfl 1 rfl dX4_enact_53 ?_
        have e19 : Tg h17 a0 = 5 := ((pIT hh16).trans ta0)
        obtain ⟨v20, e21⟩ : ∃ z, Rv h17 a0 0 = z := ⟨_, rfl⟩
        have t22 := ok_R O18 e19 rE_5_0 e21
        have l23 := ok_L O18 e19 rE_5_0 e21
        refine gf_R C fk_LandSurvey_RuleBook_9 rfl e19 e21 dX4_enact_54 ?_
        refine g_aload_n C rfl 1 rfl dX4_enact_57 ?_
        refine gf_I C fk_LandSurvey_RuleBook_26 rfl e19 (pI_e hh16) dX4_enact_58 ?_
        refine g_iconst C dX4_enact_61 ?_
        have f24 : (0 : Int) ≤ ((v5 + 1) - 1) ∧ ((v5 + 1) - 1) ≤ (0 : Int) := ia_sub f15 (il 1) (by decide) (by decide)
        refine g_isub C dX4_enact_62 ?_
        refine g_iload_n C rfl 2 rfl dX4_enact_63 ?_
        refine g_iast C t22 rfl l23 (ix f24 (by decide) (by decide)) (iw fa1 (by decide) (by decide)) dX4_enact_64 (fun h26 hh25 => ?_)
        have O27 := O18.pIa t22 ar_21100 hh25 rI_21100_0 fa1 nofun
        refine g_aload_n C rfl 1 rfl dX4_enact_65 ?_
        have e28 : Tg h26 a0 = 5 := ((pIT hh25).trans e19)
        have e29 : Rv h26 a0 1 = v1 := ((pIR hh25).trans ((pIR hh16).trans e2))
        refine gf_R C fk_LandSurvey_RuleBook_17 rfl e28 e29 dX4_enact_66 ?_
        refine g_aload_n C rfl 1 rfl dX4_enact_69 ?_
        have e30 : Iv h26 a0 2 = (v5 + 1) := ((pI_n hh25 (ne_tag e19 t22 (by decide))).trans (pI_e hh16))
        refine gf_I C fk_LandSurvey_RuleBook_26 rfl e28 e30 dX4_enact_70 ?_
        refine g_iconst C dX4_enact_73 ?_
        refine g_isub C dX4_enact_74 ?_
        refine g_aload_n C rfl 3 rfl dX4_enact_75 ?_
        have e31 : Tg h26 v1 = 22108 := ((pIT hh25).trans ((pIT hh16).trans t3))
        have e32 : Ln h26 v1 = 8 := ((pIL hh25).trans ((pIL hh16).trans l4))
        have e36 : Tg h26 a2 = 6 := ((pIT hh25).trans ((pIT hh16).trans ta2))
        refine g_aast (t := 8) C e31 rfl (by decide) rfl e36 rfl rfl e32 (ix f24 (by decide) (by decide)) dX4_enact_76 (fun h34 hh33 => ?_)
        have O35 := O27.pR e31 hh33 (okR_o ((rE_arr ar_22108 _).trans rE_22108_0) e36)
        have e37 : Tg h17 a2 = 6 := ((pIT hh16).trans ta2)
        have p38 := (RulesOk_fx O18 ((Fx.rf (wr := [4220000]) (h := h17)).pIa t22 ar_21100 hh25 rfl) e37 rfl (RulesOk_fx O ((Fx.rf (wr := [1002]) (h := h)).pI ta0 hh16 rfl) ta2 rfl P_RO2))
        refine g_iconst C dX4_enact_77 ?_
        exact g_iret C hr (nar_z2 (iw (il 1) (by decide) (by decide))).1 (iw (il 1) (by decide) (by decide)) ⟨O35, ((((Fx.rf (wr := wr_k_X4_enact)).pI ta0 hh16 rfl).pIa t22 ar_21100 hh25 rfl).pRa e31 ar_22108 hh33 rfl), (iw (il 1) (by decide) (by decide)), (Bk_put O (((Fx.rf (wr := [1002, 4220000]) (h := h)).pI ta0 hh16 rfl).pIa t22 ar_21100 hh25 rfl) ta0 P_BkOk e2 e6 e30 (by omega) (by omega) hh33 (nz_of O ta2) O27 e36 p38)⟩ (by decide) (by decide) dX4_enact_78
      · exact (no_le (il 8) f10 q14 (by decide)).elim
  · have f39 : (1 : Int) ≤ v5 ∧ v5 ≤ (8 : Int) := r_gt f7 (il 0) q9 (by decide) (by decide)
    refine g_aload_n C rfl 0 rfl dX4_enact_7 ?_
    obtain ⟨v40, e41⟩ : ∃ z, Rv h a0 0 = z := ⟨_, rfl⟩
    have t42 := ok_R O ta0 rE_5_0 e41
    have l43 := ok_L O ta0 rE_5_0 e41
    refine gf_R C fk_LandSurvey_RuleBook_9 rfl ta0 e41 dX4_enact_8 ?_
    refine g_aload_n C rfl 0 rfl dX4_enact_11 ?_
    refine gf_I C fk_LandSurvey_RuleBook_26 rfl ta0 e6 dX4_enact_12 ?_
    refine g_iconst C dX4_enact_15 ?_
    have f44 : (0 : Int) ≤ (v5 - 1) ∧ (v5 - 1) ≤ (7 : Int) := ia_sub f39 (il 1) (by decide) (by decide)
    refine g_isub C dX4_enact_16 ?_
    obtain ⟨v45, e46⟩ : ∃ z, Iv h v40 ((v5 - 1).toNat) = z := ⟨_, rfl⟩
    have f47 := ok_Ia O t42 ar_21100 rI_21100_0 e46
    refine g_iald C t42 rfl l43 (ix f44 (by decide) (by decide)) e46 dX4_enact_17 ?_
    refine g_iload_n C rfl 1 rfl dX4_enact_18 ?_
    refine g_icmp_ne C (iw f47 (by decide) (by decide)) (iw fa1 (by decide) (by decide)) 26 (by decide) dX4_enact_19 (fun q48 => ?_) (fun q49 => ?_)
    · refine g_iconst C dX4_enact_26 ?_
      refine g_istore_n C [(3, .inl 0), (0, .inr (.inr a0)), (1, .inl a1), (2, .inr (.inr a2))] rfl (by decide) rfl dX4_enact_27 ?_
      refine g_iload_n C rfl 0 rfl dX4_enact_28 ?_
      refine g_if_ne C (iw (il 0) (by decide) (by decide)) 53 (by decide) dX4_enact_29 (fun q50 => ?_) (fun q51 => ?_)
      · exact (no_ne (il 0) (il 0) q50 (by decide)).elim
      · refine g_aload_n C rfl 1 rfl dX4_enact_32 ?_
        refine gf_I C fk_LandSurvey_RuleBook_26 rfl ta0 e6 dX4_enact_33 ?_
        refine g_bipush C (by decide) dX4_enact_36 ?_
        refine g_icmp_lt C (iw f39 (by decide) (by decide)) (iw (il 8) (by decide) (by decide)) 43 (by decide) dX4_enact_38 (fun q52 => ?_) (fun q53 => ?_)
        · have f54 : (1 : Int) ≤ v5 ∧ v5 ≤ (7 : Int) := r_lt f39 (il 8) q52 (by decide) (by decide)
          refine g_aload_n C rfl 1 rfl dX4_enact_43 ?_
          refine g_dup C rfl dX4_enact_44 ?_
          refine gf_I C fk_LandSurvey_RuleBook_26 rfl ta0 e6 dX4_enact_45 ?_
          refine g_iconst C dX4_enact_48 ?_
          have f55 : (2 : Int) ≤ (v5 + 1) ∧ (v5 + 1) ≤ (8 : Int) := ia_add f54 (il 1) (by decide) (by decide)
          refine g_iadd C dX4_enact_49 ?_
          refine gp_I C fk_LandSurvey_RuleBook_26 pk_LandSurvey_RuleBook_2 rfl ta0 (iw f55 (by decide) (by decide)) (nf_i _) dX4_enact_50 (fun h57 hh56 => ?_)
          have O58 := O.pI ta0 hh56 rI_5_2 (iw f55 (by decide) (by decide)) nofun
          refine g_aload_n C rfl 1 rfl dX4_enact_53 ?_
          have e59 : Tg h57 a0 = 5 := ((pIT hh56).trans ta0)
          have e60 : Rv h57 a0 0 = v40 := ((pIR hh56).trans e41)
          refine gf_R C fk_LandSurvey_RuleBook_9 rfl e59 e60 dX4_enact_54 ?_
          refine g_aload_n C rfl 1 rfl dX4_enact_57 ?_
          refine gf_I C fk_LandSurvey_RuleBook_26 rfl e59 (pI_e hh56) dX4_enact_58 ?_
          refine g_iconst C dX4_enact_61 ?_
          have f61 : (1 : Int) ≤ ((v5 + 1) - 1) ∧ ((v5 + 1) - 1) ≤ (7 : Int) := ia_sub f55 (il 1) (by decide) (by decide)
          refine g_isub C dX4_enact_62 ?_
          refine g_iload_n C rfl 2 rfl dX4_enact_63 ?_
          have e62 : Tg h57 v40 = 21100 := ((pIT hh56).trans t42)
          have e63 : Ln h57 v40 = 8 := ((pIL hh56).trans l43)
          refine g_iast C e62 rfl e63 (ix f61 (by decide) (by decide)) (iw fa1 (by decide) (by decide)) dX4_enact_64 (fun h65 hh64 => ?_)
          have O66 := O58.pIa e62 ar_21100 hh64 rI_21100_0 fa1 nofun
          refine g_aload_n C rfl 1 rfl dX4_enact_65 ?_
          have e67 : Tg h65 a0 = 5 := ((pIT hh64).trans e59)
          have e68 : Rv h65 a0 1 = v1 := ((pIR hh64).trans ((pIR hh56).trans e2))
          refine gf_R C fk_LandSurvey_RuleBook_17 rfl e67 e68 dX4_enact_66 ?_
          refine g_aload_n C rfl 1 rfl dX4_enact_69 ?_
          have e69 : Iv h65 a0 2 = (v5 + 1) := ((pI_n hh64 (ne_tag e59 e62 (by decide))).trans (pI_e hh56))
          refine gf_I C fk_LandSurvey_RuleBook_26 rfl e67 e69 dX4_enact_70 ?_
          refine g_iconst C dX4_enact_73 ?_
          refine g_isub C dX4_enact_74 ?_
          refine g_aload_n C rfl 3 rfl dX4_enact_75 ?_
          have e70 : Tg h65 v1 = 22108 := ((pIT hh64).trans ((pIT hh56).trans t3))
          have e71 : Ln h65 v1 = 8 := ((pIL hh64).trans ((pIL hh56).trans l4))
          have e75 : Tg h65 a2 = 6 := ((pIT hh64).trans ((pIT hh56).trans ta2))
          refine g_aast (t := 8) C e70 rfl (by decide) rfl e75 rfl rfl e71 (ix f61 (by decide) (by decide)) dX4_enact_76 (fun h73 hh72 => ?_)
          have O74 := O66.pR e70 hh72 (okR_o ((rE_arr ar_22108 _).trans rE_22108_0) e75)
          have e76 : Tg h57 a2 = 6 := ((pIT hh56).trans ta2)
          have p77 := (RulesOk_fx O58 ((Fx.rf (wr := [4220000]) (h := h57)).pIa e62 ar_21100 hh64 rfl) e76 rfl (RulesOk_fx O ((Fx.rf (wr := [1002]) (h := h)).pI ta0 hh56 rfl) ta2 rfl P_RO2))
          refine g_iconst C dX4_enact_77 ?_
          exact g_iret C hr (nar_z2 (iw (il 1) (by decide) (by decide))).1 (iw (il 1) (by decide) (by decide)) ⟨O74, ((((Fx.rf (wr := wr_k_X4_enact)).pI ta0 hh56 rfl).pIa e62 ar_21100 hh64 rfl).pRa e70 ar_22108 hh72 rfl), (iw (il 1) (by decide) (by decide)), (Bk_put O (((Fx.rf (wr := [1002, 4220000]) (h := h)).pI ta0 hh56 rfl).pIa e62 ar_21100 hh64 rfl) ta0 P_BkOk e2 e6 e69 (by omega) (by omega) hh72 (nz_of O ta2) O66 e75 p77)⟩ (by decide) (by decide) dX4_enact_78
        · have f78 : (8 : Int) ≤ v5 ∧ v5 ≤ (8 : Int) := r_ge f39 (il 8) q53 (by decide) (by decide)
          refine g_iconst C dX4_enact_41 ?_
          exact g_iret C hr (nar_z2 (iw (il 0) (by decide) (by decide))).1 (iw (il 0) (by decide) (by decide)) ⟨O, Fx.rf, (iw (il 0) (by decide) (by decide)), P_BkOk⟩ (by decide) (by decide) dX4_enact_42
    · refine g_iconst C dX4_enact_22 ?_
      refine g_goto C 27 (by decide) dX4_enact_23 ?_
      refine g_istore_n C [(3, .inl 1), (0, .inr (.inr a0)), (1, .inl a1), (2, .inr (.inr a2))] rfl (by decide) rfl dX4_enact_27 ?_
      refine g_iload_n C rfl 0 rfl dX4_enact_28 ?_
      refine g_if_ne C (iw (il 1) (by decide) (by decide)) 53 (by decide) dX4_enact_29 (fun q79 => ?_) (fun q80 => ?_)
      · refine g_aload_n C rfl 1 rfl dX4_enact_53 ?_
        refine gf_R C fk_LandSurvey_RuleBook_9 rfl ta0 e41 dX4_enact_54 ?_
        refine g_aload_n C rfl 1 rfl dX4_enact_57 ?_
        refine gf_I C fk_LandSurvey_RuleBook_26 rfl ta0 e6 dX4_enact_58 ?_
        refine g_iconst C dX4_enact_61 ?_
        refine g_isub C dX4_enact_62 ?_
        refine g_iload_n C rfl 2 rfl dX4_enact_63 ?_
        refine g_iast C t42 rfl l43 (ix f44 (by decide) (by decide)) (iw fa1 (by decide) (by decide)) dX4_enact_64 (fun h82 hh81 => ?_)
        have O83 := O.pIa t42 ar_21100 hh81 rI_21100_0 fa1 nofun
        refine g_aload_n C rfl 1 rfl dX4_enact_65 ?_
        have e84 : Tg h82 a0 = 5 := ((pIT hh81).trans ta0)
        have e85 : Rv h82 a0 1 = v1 := ((pIR hh81).trans e2)
        refine gf_R C fk_LandSurvey_RuleBook_17 rfl e84 e85 dX4_enact_66 ?_
        refine g_aload_n C rfl 1 rfl dX4_enact_69 ?_
        have e86 : Iv h82 a0 2 = v5 := ((pI_n hh81 (ne_tag ta0 t42 (by decide))).trans e6)
        refine gf_I C fk_LandSurvey_RuleBook_26 rfl e84 e86 dX4_enact_70 ?_
        refine g_iconst C dX4_enact_73 ?_
        refine g_isub C dX4_enact_74 ?_
        refine g_aload_n C rfl 3 rfl dX4_enact_75 ?_
        have e87 : Tg h82 v1 = 22108 := ((pIT hh81).trans t3)
        have e88 : Ln h82 v1 = 8 := ((pIL hh81).trans l4)
        have e92 : Tg h82 a2 = 6 := ((pIT hh81).trans ta2)
        refine g_aast (t := 8) C e87 rfl (by decide) rfl e92 rfl rfl e88 (ix f44 (by decide) (by decide)) dX4_enact_76 (fun h90 hh89 => ?_)
        have O91 := O83.pR e87 hh89 (okR_o ((rE_arr ar_22108 _).trans rE_22108_0) e92)
        have p93 := (RulesOk_fx O ((Fx.rf (wr := [4220000]) (h := h)).pIa t42 ar_21100 hh81 rfl) ta2 rfl P_RO2)
        refine g_iconst C dX4_enact_77 ?_
        exact g_iret C hr (nar_z2 (iw (il 1) (by decide) (by decide))).1 (iw (il 1) (by decide) (by decide)) ⟨O91, (((Fx.rf (wr := wr_k_X4_enact)).pIa t42 ar_21100 hh81 rfl).pRa e87 ar_22108 hh89 rfl), (iw (il 1) (by decide) (by decide)), (Bk_put O ((Fx.rf (wr := [1002, 4220000]) (h := h)).pIa t42 ar_21100 hh81 rfl) ta0 P_BkOk e2 e6 e86 (by omega) (by omega) hh89 (nz_of O ta2) O83 e92 p93)⟩ (by decide) (by decide) dX4_enact_78
      · exact (no_eq (il 1) (il 0) q80 (by decide)).elim
def wr_k_X11_rules : List Nat := [801, 802, 803, 804, 805, 806, 807, 808, 809, 810, 812, 813, 1002, 2215, 201201, 201202, 201203, 201204, 201205, 201207, 201208, 201211, 201212, 201214, 201215, 201216, 201217, 201218, 401200, 401206, 401207, 401208, 401209, 401210, 401213, 401217, 4020000, 4220000, 4421600, 4620400, 4820000, 5020000, 5220000, 5420000, 5620000, 5820000, 6220000, 6620000, 7020000, 7220000, 1000000006, 1000001006, 1000002006, 1000003006, 1000023102, 1000024100, 1000025100, 1000026100, 1000027100, 1000028100, 1000029100, 1000030100, 1000031100, 1000032100, 1000033100, 1000034100, 1000035100, 1000036100, 1000037100]
set_option maxRecDepth 100000 in
set_option maxHeartbeats 4000000 in
theorem k_X11_rules (l : Launch) (D : va_G) (cy : Nat → ClassId) (w : Nat → Nat) (z0 : Nat)  {h : Hp} {a0 : Nat}  (O : Okh h) (ta0 : Tg h a0 = 11) (P_XInv : XInv h a0) : MI l D cy w z0 yX11_rules cX11_rules 2 (some .int) 29 651 14 1713 [.inr (.inr a0)] h (fun v h1 => Okh h1 ∧ Fx wr_k_X11_rules h h1 ∧ ((-2147483648) ≤ v ∧ v ≤ 2147483647) ∧ (XInv h1 a0)) := by
  obtain ⟨v1, e2⟩ : ∃ z, Rv h a0 3 = z := ⟨_, rfl⟩
  have t3 := ok_R O ta0 rE_11_3 e2
  have l4 := ok_L O ta0 rE_11_3 e2
  obtain ⟨v5, e6⟩ : ∃ z, Iv h a0 4 = z := ⟨_, rfl⟩
  have f7 := ok_I O ta0 rI_11_4 e6
  obtain ⟨v8, e9⟩ : ∃ z, Rv h a0 8 = z := ⟨_, rfl⟩
  have t10 := ok_R O ta0 rE_11_8 e9
  have l11 := ok_L O ta0 rE_11_8 e9
  obtain ⟨v12, e13⟩ : ∃ z, Iv h a0 9 = z := ⟨_, rfl⟩
  have f14 := ok_I O ta0 rI_11_9 e13
  obtain ⟨v15, e16⟩ : ∃ z, Rv h a0 11 = z := ⟨_, rfl⟩
  have t17 := ok_R O ta0 rE_11_11 e16
  have l18 := ok_L O ta0 rE_11_11 e16
  obtain ⟨v19, e20⟩ : ∃ z, Iv h a0 12 = z := ⟨_, rfl⟩
  have f21 := ok_I O ta0 rI_11_12 e20
  obtain ⟨v22, e23⟩ : ∃ z, Iv h a0 15 = z := ⟨_, rfl⟩
  have f24 := ok_I O ta0 rI_11_15 e23
  obtain ⟨v25, e26⟩ : ∃ z, Rv h a0 14 = z := ⟨_, rfl⟩
  have t27 := ok_R O ta0 rE_11_14 e26
  have l28 := ok_L O ta0 rE_11_14 e26
  obtain ⟨v29, e30⟩ : ∃ z, Rv h a0 13 = z := ⟨_, rfl⟩
  have t31 := ok_R O ta0 rE_11_13 e30
  obtain ⟨v32, e33⟩ : ∃ z, Rv h a0 6 = z := ⟨_, rfl⟩
  have t34 := ok_R O ta0 rE_11_6 e33
  obtain ⟨v35, e36⟩ : ∃ z, Rv h a0 7 = z := ⟨_, rfl⟩
  have t37 := ok_R O ta0 rE_11_7 e36
  have p49 := P_XInv
  unfold XInv at p49
  rw [e2, e6, e9, e13, e16, e20, e23, e26, e30, e33, e36] at p49
  obtain ⟨p38, p39, p40, p41, p42, p43, p44, p45, p46, p47, p48⟩ := p49
  obtain ⟨v50, e51⟩ : ∃ z, Iv h v29 3 = z := ⟨_, rfl⟩
  have f52 := ok_I O t31 rI_7_3 e51
  obtain ⟨v53, e54⟩ : ∃ z, Iv h v29 4 = z := ⟨_, rfl⟩
  have f55 := ok_I O t31 rI_7_4 e54
  rw [e51] at p44
  rw [e54] at p45
  refine hm_go (by decide +kernel) (Nat.le_of_ble_eq_true rfl) (fun p e s m below meth c C hr hn => ?_)
  refine g_aload_n C rfl 0 rfl dX11_rules_0 ?_
  obtain ⟨v56, e57⟩ : ∃ z, Rv h a0 5 = z := ⟨_, rfl⟩
  have t58 := ok_R O ta0 rE_11_5 e57
  refine gf_R C fk_LandSurvey_29 rfl ta0 e57 dX11_rules_1 ?_
  refine g_callI (st := []) (gc_V C lk_LandSurvey_146 (k_X3_readTape l D cy w z0 O t58 p48) t58 rfl rfl rfl ⟨by decide, by decide⟩ (Nat.le_of_ble_eq_true rfl) dX11_rules_4 ⟨(by decide), (by decide)⟩) (fun r59 h60 f62 K61 => ?_)
  obtain ⟨O63, F64, f65, p66, p67⟩ := K61
  refine g_istore_n C [(1, .inl r59), (0, .inr (.inr a0))] rfl (by decide) rfl dX11_rules_7 ?_
  refine g_iload_n C rfl 0 rfl dX11_rules_8 ?_
  refine g_if_eq C f65 14 (by decide) dX11_rules_9 (fun q68 => ?_) (fun q69 => ?_)
  · have f70 : (0 : Int) ≤ r59 ∧ r59 ≤ (0 : Int) := ii f65 (r_eq (il 0) q68) (by decide) (by decide)
    obtain ⟨v71, e72⟩ : ∃ z, Rv h60 v56 13 = z := ⟨_, rfl⟩
    have e73 : Tg h60 v56 = 4 := (fxT F64 t58)
    have z74 := p67 (by omega)
    rw [e72] at z74
    refine g_aload_n C rfl 1 rfl dX11_rules_14 ?_
    have e75 : Tg h60 a0 = 11 := (fxT F64 ta0)
    have e76 : Rv h60 a0 6 = v32 := ((fxR F64 ta0 rfl).trans e33)
    refine gf_R C fk_LandSurvey_36 rfl e75 e76 dX11_rules_15 ?_
    refine g_aload_n C rfl 1 rfl dX11_rules_18 ?_
    obtain ⟨v77, e78⟩ : ∃ z, Iv h60 a0 0 = z := ⟨_, rfl⟩
    have f79 := ok_I O63 e75 rI_11_0 e78
    refine gf_I C fk_LandSurvey_78 rfl e75 e78 dX11_rules_19 ?_
    refine g_aload_n C rfl 1 rfl dX11_rules_22 ?_
    have e80 : Rv h60 a0 5 = v56 := ((fxR F64 ta0 rfl).trans e57)
    refine gf_R C fk_LandSurvey_29 rfl e75 e80 dX11_rules_23 ?_
    refine gf_R C fk_LandSurvey_150 rfl e73 e72 dX11_rules_26 ?_
    have e81 : Tg h60 v32 = 5 := (fxT F64 t34)
    have p82 := (BkOk_fx O F64 t34 rfl rfl p46)
    refine g_callI (st := []) (gc_V C lk_LandSurvey_153 (k_X4_enact l D cy w z0 O63 e81 f79 z74.1 p82 z74.2) e81 rfl rfl rfl ⟨by decide, by decide⟩ (Nat.le_of_ble_eq_true rfl) dX11_rules_29 ⟨(by decide), (by decide)⟩) (fun r83 h84 f86 K85 => ?_)
    obtain ⟨O87, F88, f89, p90⟩ := K85
    refine g_if_ne C (iw f89 (by decide) (by decide)) 37 (by decide) dX11_rules_32 (fun q91 => ?_) (fun q92 => ?_)
    · have f93 : (1 : Int) ≤ r83 ∧ r83 ≤ (1 : Int) := r_nl f89 q91
      refine g_aload_n C rfl 1 rfl dX11_rules_37 ?_
      refine g_iconst C dX11_rules_38 ?_
      have e94 : Tg h84 a0 = 11 := (fxT F88 e75)
      refine gp_I C fk_LandSurvey_81 pk_LandSurvey_15 rfl e94 (iw (il 0) (by decide) (by decide)) (nar_z2 (iw (il 0) (by decide) (by decide))) dX11_rules_39 (fun h96 hh95 => ?_)
      have O97 := O87.pI e94 hh95 rI_11_15 (iw (il 0) (by decide) (by decide)) nofun
      refine g_iconst C dX11_rules_42 ?_
      have e98 : Rv h96 a0 3 = v1 := ((pIR hh95).trans ((fxR F88 e75 rfl).trans ((fxR F64 ta0 rfl).trans e2)))
      have e99 : Iv h96 a0 4 = v5 := ((pI_j hh95 (by decide)).trans ((fxI F88 e75 rfl).trans ((fxI F64 ta0 rfl).trans e6)))
      have e100 : Rv h96 a0 8 = v8 := ((pIR hh95).trans ((fxR F88 e75 rfl).trans ((fxR F64 ta0 rfl).trans e9)))
      have e101 : Iv h96 a0 9 = v12 := ((pI_j hh95 (by decide)).trans ((fxI F88 e75 rfl).trans ((fxI F64 ta0 rfl).trans e13)))
      have e102 : Rv h96 a0 11 = v15 := ((pIR hh95).trans ((fxR F88 e75 rfl).trans ((fxR F64 ta0 rfl).trans e16)))
      have e103 : Iv h96 a0 12 = v19 := ((pI_j hh95 (by decide)).trans ((fxI F88 e75 rfl).trans ((fxI F64 ta0 rfl).trans e20)))
      have e104 : Rv h96 a0 14 = v25 := ((pIR hh95).trans ((fxR F88 e75 rfl).trans ((fxR F64 ta0 rfl).trans e26)))
      have e105 : Rv h96 a0 13 = v29 := ((pIR hh95).trans ((fxR F88 e75 rfl).trans ((fxR F64 ta0 rfl).trans e30)))
      have e106 : Rv h96 a0 6 = v32 := ((pIR hh95).trans ((fxR F88 e75 rfl).trans e76))
      have e107 : Rv h96 a0 7 = v35 := ((pIR hh95).trans ((fxR F88 e75 rfl).trans ((fxR F64 ta0 rfl).trans e36)))
      have e108 : Tg h60 v29 = 7 := (fxT F64 t31)
      have e109 : Rv h96 v29 1 = v1 := ((pIR hh95).trans ((fxR F88 e108 rfl).trans ((fxR F64 t31 rfl).trans p42)))
      have e110 : Rv h96 v29 2 = v8 := ((pIR hh95).trans ((fxR F88 e108 rfl).trans ((fxR F64 t31 rfl).trans p43)))
      have e111 : Tg h84 v29 = 7 := (fxT F88 e108)
      have e112 : Iv h96 v29 3 = v50 := ((pI_n hh95 (ne_tag e111 e94 (by decide))).trans ((fxI F88 e108 rfl).trans ((fxI F64 t31 rfl).trans e51)))
      have e113 : Iv h96 v29 4 = v53 := ((pI_n hh95 (ne_tag e111 e94 (by decide))).trans ((fxI F88 e108 rfl).trans ((fxI F64 t31 rfl).trans e54)))
      have e114 : Tg h60 v1 = 38104 := (fxT F64 t3)
      have e115 : Tg h84 v1 = 38104 := (fxT F88 e114)
      have p116 := (SOK_fx O87 ((Fx.rf (wr := [2215]) (h := h84)).pI e94 hh95 rfl) e115 rfl rfl rfl (SOK_fx O63 F88 e114 rfl rfl rfl (SOK_fx O F64 t3 rfl rfl rfl p38)))
      have e117 : Tg h60 v8 = 39105 := (fxT F64 t10)
      have e118 : Tg h84 v8 = 39105 := (fxT F88 e117)
      have p119 := (BOK_fx O87 ((Fx.rf (wr := [2215]) (h := h84)).pI e94 hh95 rfl) e118 rfl rfl rfl rfl (BOK_fx O63 F88 e117 rfl rfl rfl rfl (BOK_fx O F64 t10 rfl rfl rfl rfl p39)))
      have e120 : Tg h60 v15 = 48106 := (fxT F64 t17)
      have e121 : Tg h84 v15 = 48106 := (fxT F88 e120)
      have p122 := (NN_fx ((Fx.rf (wr := [2215]) (h := h84)).pI e94 hh95 rfl) e121 ar_48106 rfl (NN_fx F88 e120 ar_48106 rfl (NN_fx F64 t17 ar_48106 rfl p40)))
      have e123 : Tg h84 v32 = 5 := (fxT F88 e81)
      have p124 := (BkOk_fx O87 ((Fx.rf (wr := [2215]) (h := h84)).pI e94 hh95 rfl) e123 rfl rfl p90)
      have e125 : Tg h60 v35 = 6 := (fxT F64 t37)
      have e126 : Tg h84 v35 = 6 := (fxT F88 e125)
      have p127 := (RulesOk_fx O87 ((Fx.rf (wr := [2215]) (h := h84)).pI e94 hh95 rfl) e126 rfl (RulesOk_fx O63 F88 e125 rfl (RulesOk_fx O F64 t37 rfl p47)))
      have p128 := (ND_fx ((Fx.rf (wr := [2215]) (h := h84)).pI e94 hh95 rfl) rfl rfl (ND_fx F88 rfl rfl p66))
      exact g_iret C hr rfl (iw (il 0) (by decide) (by decide)) ⟨O97, ((((Fx.rf (wr := wr_k_X11_rules)).call F64 rfl).call F88 rfl).pI e94 hh95 rfl), (iw (il 0) (by decide) (by decide)), (by unfold XInv; rw [e98, e99, e100, e101, e102, e103, (pI_e hh95), e104, e105, e106, e107, e109, e110, e112, e113]; exact ⟨p116, p119, p122, (fun z => absurd z (by decide)), rfl, rfl, (by omega), (by omega), p124, p127, p128⟩)⟩ (by decide) (by decide) dX11_rules_43
    · have f129 : (0 : Int) ≤ r83 ∧ r83 ≤ (0 : Int) := ii f89 (r_eq (il 0) q92) (by decide) (by decide)
      refine g_iconst C dX11_rules_35 ?_
      have e130 : Rv h84 a0 3 = v1 := ((fxR F88 e75 rfl).trans ((fxR F64 ta0 rfl).trans e2))
      have e131 : Iv h84 a0 4 = v5 := ((fxI F88 e75 rfl).trans ((fxI F64 ta0 rfl).trans e6))
      have e132 : Rv h84 a0 8 = v8 := ((fxR F88 e75 rfl).trans ((fxR F64 ta0 rfl).trans e9))
      have e133 : Iv h84 a0 9 = v12 := ((fxI F88 e75 rfl).trans ((fxI F64 ta0 rfl).trans e13))
      have e134 : Rv h84 a0 11 = v15 := ((fxR F88 e75 rfl).trans ((fxR F64 ta0 rfl).trans e16))
      have e135 : Iv h84 a0 12 = v19 := ((fxI F88 e75 rfl).trans ((fxI F64 ta0 rfl).trans e20))
      have e136 : Rv h84 a0 14 = v25 := ((fxR F88 e75 rfl).trans ((fxR F64 ta0 rfl).trans e26))
      have e137 : Iv h84 a0 15 = v22 := ((fxI F88 e75 rfl).trans ((fxI F64 ta0 rfl).trans e23))
      have e138 : Rv h84 a0 13 = v29 := ((fxR F88 e75 rfl).trans ((fxR F64 ta0 rfl).trans e30))
      have e139 : Rv h84 a0 6 = v32 := ((fxR F88 e75 rfl).trans e76)
      have e140 : Rv h84 a0 7 = v35 := ((fxR F88 e75 rfl).trans ((fxR F64 ta0 rfl).trans e36))
      have e141 : Tg h60 v25 = 49107 := (fxT F64 t27)
      have p142 := (gr_fx F88 e141 rfl (gr_fx F64 t27 rfl p41))
      have e143 : Tg h60 v29 = 7 := (fxT F64 t31)
      have e144 : Rv h84 v29 1 = v1 := ((fxR F88 e143 rfl).trans ((fxR F64 t31 rfl).trans p42))
      have e145 : Rv h84 v29 2 = v8 := ((fxR F88 e143 rfl).trans ((fxR F64 t31 rfl).trans p43))
      have e146 : Iv h84 v29 3 = v50 := ((fxI F88 e143 rfl).trans ((fxI F64 t31 rfl).trans e51))
      have e147 : Iv h84 v29 4 = v53 := ((fxI F88 e143 rfl).trans ((fxI F64 t31 rfl).trans e54))
      have e148 : Tg h60 v1 = 38104 := (fxT F64 t3)
      have p149 := (SOK_fx O63 F88 e148 rfl rfl rfl (SOK_fx O F64 t3 rfl rfl rfl p38))
      have e150 : Tg h60 v8 = 39105 := (fxT F64 t10)
      have p151 := (BOK_fx O63 F88 e150 rfl rfl rfl rfl (BOK_fx O F64 t10 rfl rfl rfl rfl p39))
      have e152 : Tg h60 v15 = 48106 := (fxT F64 t17)
      have p153 := (NN_fx F88 e152 ar_48106 rfl (NN_fx F64 t17 ar_48106 rfl p40))
      have e154 : Tg h60 v35 = 6 := (fxT F64 t37)
      have p155 := (RulesOk_fx O63 F88 e154 rfl (RulesOk_fx O F64 t37 rfl p47))
      have p156 := (ND_fx F88 rfl rfl p66)
      exact g_iret C hr rfl (iw (il (-1)) (by decide) (by decide)) ⟨O87, (((Fx.rf (wr := wr_k_X11_rules)).call F64 rfl).call F88 rfl), (iw (il (-1)) (by decide) (by decide)), (by unfold XInv; rw [e130, e131, e132, e133, e134, e135, e137, e136, e138, e139, e140, e144, e145, e146, e147]; exact ⟨p149, p151, p153, p142, rfl, rfl, (by omega), (by omega), p90, p155, p156⟩)⟩ (by decide) (by decide) dX11_rules_36
  · refine g_iload_n C rfl 0 rfl dX11_rules_12 ?_
    have e157 : Rv h60 a0 3 = v1 := ((fxR F64 ta0 rfl).trans e2)
    have e158 : Iv h60 a0 4 = v5 := ((fxI F64 ta0 rfl).trans e6)
    have e159 : Rv h60 a0 8 = v8 := ((fxR F64 ta0 rfl).trans e9)
    have e160 : Iv h60 a0 9 = v12 := ((fxI F64 ta0 rfl).trans e13)
    have e161 : Rv h60 a0 11 = v15 := ((fxR F64 ta0 rfl).trans e16)
    have e162 : Iv h60 a0 12 = v19 := ((fxI F64 ta0 rfl).trans e20)
    have e163 : Rv h60 a0 14 = v25 := ((fxR F64 ta0 rfl).trans e26)
    have e164 : Iv h60 a0 15 = v22 := ((fxI F64 ta0 rfl).trans e23)
    have e165 : Rv h60 a0 13 = v29 := ((fxR F64 ta0 rfl).trans e30)
    have e166 : Rv h60 a0 6 = v32 := ((fxR F64 ta0 rfl).trans e33)
    have e167 : Rv h60 a0 7 = v35 := ((fxR F64 ta0 rfl).trans e36)
    have p168 := (gr_fx F64 t27 rfl p41)
    have e169 : Rv h60 v29 1 = v1 := ((fxR F64 t31 rfl).trans p42)
    have e170 : Rv h60 v29 2 = v8 := ((fxR F64 t31 rfl).trans p43)
    have e171 : Iv h60 v29 3 = v50 := ((fxI F64 t31 rfl).trans e51)
    have e172 : Iv h60 v29 4 = v53 := ((fxI F64 t31 rfl).trans e54)
    have p173 := (SOK_fx O F64 t3 rfl rfl rfl p38)
    have p174 := (BOK_fx O F64 t10 rfl rfl rfl rfl p39)
    have p175 := (NN_fx F64 t17 ar_48106 rfl p40)
    have p176 := (BkOk_fx O F64 t34 rfl rfl p46)
    have p177 := (RulesOk_fx O F64 t37 rfl p47)
    exact g_iret C hr rfl f65 ⟨O63, ((Fx.rf (wr := wr_k_X11_rules)).call F64 rfl), f65, (by unfold XInv; rw [e157, e158, e159, e160, e161, e162, e164, e163, e165, e166, e167, e169, e170, e171, e172]; exact ⟨p173, p174, p175, p168, rfl, rfl, (by omega), (by omega), p176, p177, p66⟩)⟩ (by decide) (by decide) dX11_rules_13
