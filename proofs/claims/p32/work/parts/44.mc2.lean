def wr_k_takeFact_0 : List Nat := [2407, 2408, 2428, 25820000, 26020000]
set_option maxRecDepth 100000 in
set_option maxHeartbeats 4000000 in
theorem k_takeFact_0 (l : Launch) (D : va_G) (cy : Nat → ClassId) (w : Nat → Nat) (z0 : Nat)  {h : Hp} {a0 : Nat} {a1 : Int}  (O : Okh h) (ta0 : Tg h a0 = 12) (fa1 : 0 ≤ a1 ∧ a1 ≤ 0) (P_RD : RD h a0) : MV l D cy w z0 yX12_takeFact cX12_takeFact 4 none 18 399 0 0 [.inr (.inr a0), .inl a1] h (fun h1 => Okh h1 ∧ Fx wr_k_takeFact_0 h h1 ∧ (RD h1 a0) ∧ (ST h h1 a0) ∧ (CF h h1 a0) ∧ (PUf h1 a0 (Iv h a0 28))) := by
  obtain ⟨v1, e2⟩ : ∃ z, Iv h a0 7 = z := ⟨_, rfl⟩
  have f3 := ok_I O ta0 rI_12_7 e2
  obtain ⟨v4, e5⟩ : ∃ z, Iv h a0 8 = z := ⟨_, rfl⟩
  have f6 := ok_I O ta0 rI_12_8 e5
  obtain ⟨v7, e8⟩ : ∃ z, Iv h a0 28 = z := ⟨_, rfl⟩
  have f9 := ok_I O ta0 rI_12_28 e8
  obtain ⟨p10, p11, p12, p13⟩ := P_RD
  obtain ⟨v14, e15⟩ : ∃ z, NT h a0 = z := ⟨_, rfl⟩
  have f16 : (0 : Int) ≤ v14 ∧ v14 ≤ (1500 : Int) := NT_rng p10 e15
  rw [e2, e15] at p11
  rw [e5, e2, e15] at p12
  rw [e8, e2] at p13
  refine hm_go (by decide +kernel) (Nat.le_of_ble_eq_true rfl) (fun p e s m below meth c C hr hn => ?_)
  refine g_aload_n C rfl 0 rfl dX12_takeFact_0 ?_
  refine gf_I C fk_LandSurveyModel_320 rfl ta0 e5 dX12_takeFact_1 ?_
  refine g_if_le C (iw f6 (by decide) (by decide)) 8 (by decide) dX12_takeFact_4 (fun q17 => ?_) (fun q18 => ?_)
  · have f19 : (0 : Int) ≤ v4 ∧ v4 ≤ (0 : Int) := r_le f6 (il 0) q17 (by decide) (by decide)
    refine g_iconst C dX12_takeFact_8 ?_
    refine g_istore_n C [(2, .inl (-1)), (0, .inr (.inr a0)), (1, .inl a1)] rfl (by decide) rfl dX12_takeFact_9 ?_
    refine g_bipush C (by decide) dX12_takeFact_10 ?_
    refine g_istore_n C [(3, .inl 18), (2, .inl (-1)), (0, .inr (.inr a0)), (1, .inl a1)] rfl (by decide) rfl dX12_takeFact_12 ?_
    refine GW.sub [2, 3, 1, 0] rfl ?_
    -- loop at 13
    have L23 : ∀ (μ : Nat) (x20 : Int) (x21 : Int) (h22 : Hp), (30 - x21).toNat = μ → Okh h22 → Fx [] h h22 → ((-1 : Int) ≤ x20 ∧ x20 ≤ (11 : Int)) → ((18 : Int) ≤ x21 ∧ x21 ≤ (30 : Int)) → (0 ≤ x20 → Iv h a0 8 = 0 ∧ Iv h a0 7 < NT h a0) → GW p l e (rmm 18 399 0 0) s m (List.map toV [.inr (.inr a0), .inl a1]).toArray below meth c D cy z0 4 (MQ below (QV D cy z0 (fun h1 => Okh h1 ∧ Fx wr_k_takeFact_0 h h1 ∧ (RD h1 a0) ∧ (ST h h1 a0) ∧ (CF h h1 a0) ∧ (PUf h1 a0 (Iv h a0 28)))) (List.map toV [.inr (.inr a0), .inl a1]).toArray s 0 0 (Aof z0)) 13 [(0, .inr (.inr a0)), (1, .inl a1), (2, .inl x20), (3, .inl x21)] [] h22 0 0 := by
      intro μ
      induction μ using Nat.strongRecOn with
      | ind μ ih24 =>
        intro x20 x21 h22 hm25 O26 F27 f28 f29 p30
        rw [e5, e2, e15] at p30
        refine g_iload_n C rfl 3 rfl dX12_takeFact_13 ?_
        refine g_bipush C (by decide) dX12_takeFact_14 ?_
        refine g_icmp_ge C (iw f29 (by decide) (by decide)) (iw (il 30) (by decide) (by decide)) 42 (by decide) dX12_takeFact_16 (fun q31 => ?_) (fun q32 => ?_)
        · have f33 : (30 : Int) ≤ x21 ∧ x21 ≤ (30 : Int) := r_ge f29 (il 30) q31 (by decide) (by decide)
          refine g_aload_n C rfl 0 rfl dX12_takeFact_42 ?_
          have e34 : Tg h22 a0 = 12 := (fxT F27 ta0)
          obtain ⟨v35, e36⟩ : ∃ z, Rv h22 a0 4 = z := ⟨_, rfl⟩
          have t37 := ok_R O26 e34 rE_12_4 e36
          have l38 := ok_L O26 e34 rE_12_4 e36
          refine gf_R C fk_LandSurveyModel_24 rfl e34 e36 dX12_takeFact_43 ?_
          refine g_aload_n C rfl 0 rfl dX12_takeFact_46 ?_
          have e39 : Iv h22 a0 7 = v1 := ((fxI F27 ta0 rfl).trans e2)
          refine gf_I C fk_LandSurveyModel_317 rfl e34 e39 dX12_takeFact_47 ?_
          obtain ⟨v40, e41⟩ : ∃ z, Iv h22 v35 v1.toNat = z := ⟨_, rfl⟩
          have f42 := ok_Ia O26 t37 ar_104100 rI_104100_0 e41
          refine g_iald C t37 rfl l38 (ix f3 (by decide) (by decide)) e41 dX12_takeFact_50 ?_
          refine g_iconst C dX12_takeFact_51 ?_
          refine g_icmp_ne C (iw f42 (by decide) (by decide)) (iw (il 2) (by decide) (by decide)) 59 (by decide) dX12_takeFact_52 (fun q43 => ?_) (fun q44 => ?_)
          · refine g_iconst C dX12_takeFact_59 ?_
            refine g_istore_n C [(3, .inl 0), (0, .inr (.inr a0)), (1, .inl a1), (2, .inl x20)] rfl (by decide) rfl dX12_takeFact_60 ?_
            refine g_iload_n C rfl 3 rfl dX12_takeFact_61 ?_
            refine g_if_ge C (iw f28 (by decide) (by decide)) 95 (by decide) dX12_takeFact_62 (fun q45 => ?_) (fun q46 => ?_)
            · have f47 : (0 : Int) ≤ x20 ∧ x20 ≤ (11 : Int) := r_ge f28 (il 0) q45 (by decide) (by decide)
              refine g_iload_n C rfl 2 rfl dX12_takeFact_95 ?_
              refine g_iconst C dX12_takeFact_96 ?_
              refine g_icmp_ne C (iw fa1 (by decide) (by decide)) (iw (il 4) (by decide) (by decide)) 105 (by decide) dX12_takeFact_97 (fun q48 => ?_) (fun q49 => ?_)
              · refine g_aload_n C rfl 1 rfl dX12_takeFact_105 ?_
                have e50 : Iv h22 a0 8 = v4 := ((fxI F27 ta0 rfl).trans e5)
                refine gf_I C fk_LandSurveyModel_320 rfl e34 e50 dX12_takeFact_106 ?_
                refine g_if_le C (iw f19 (by decide) (by decide)) 113 (by decide) dX12_takeFact_109 (fun q51 => ?_) (fun q52 => ?_)
                · have p53 := (TK_fx O F27 ta0 rfl p10)
                  have p54 := ((NT_fx O F27 ta0 rfl).trans e15)
                  have z55 : ¬ v40 = 0 → v1 < v14 := fun hs => NT_lt p53 p54 (a := v1) (by omega) (by omega) (by rw [e36, e41]; exact hs)
                  refine g_aload_n C rfl 1 rfl dX12_takeFact_113 ?_
                  refine g_bipush C (by decide) dX12_takeFact_114 ?_
                  have e56 : Iv h22 a0 28 = v7 := ((fxI F27 ta0 rfl).trans e8)
                  refine g_callI (st := []) (gc_V C lk_LandSurveyModel_333 (k_X12_hasWord l D cy w z0 O26 e34 (iw (il 17) (by decide) (by decide)) ⟨p53, by rw [e39, p54]; omega, by rw [e50, e39, p54]; omega, by rw [e56, e39]; omega⟩) e34 rfl rfl rfl ⟨by decide, by decide⟩ (Nat.le_of_ble_eq_true rfl) dX12_takeFact_116 ⟨(by decide), (by decide)⟩) (fun r57 h58 f60 K59 => ?_)
                  obtain ⟨O61, F62, f63, p64, p65, p66⟩ := K59
                  rw [e50, e39, p54] at p64
                  obtain ⟨v67, e68⟩ : ∃ z, Rv h22 a0 6 = z := ⟨_, rfl⟩
                  have t69 := ok_R O26 e34 rE_12_6 e68
                  have l70 := ok_L O26 e34 rE_12_6 e68
                  obtain ⟨v71, e72⟩ : ∃ z, Jv h22 v67 v1.toNat = z := ⟨_, rfl⟩
                  have f73 := inL_J O26 e72
                  obtain ⟨v74, e75⟩ : ∃ z, Rv h22 a0 9 = z := ⟨_, rfl⟩
                  have t76 := ok_R O26 e34 rE_12_9 e75
                  have l77 := ok_L O26 e34 rE_12_9 e75
                  obtain ⟨v78, e79⟩ : ∃ z, Jv h22 v74 ((17 : Int).toNat) = z := ⟨_, rfl⟩
                  have f80 := inL_J O26 e79
                  rw [e50, e36, e39, e41, e68, e72, e75, e79] at p65
                  obtain ⟨v81, e82⟩ : ∃ z, Iv h58 a0 7 = z := ⟨_, rfl⟩
                  have e83 : Tg h58 a0 = 12 := (fxT F62 e34)
                  have f84 := ok_I O61 e83 rI_12_7 e82
                  rw [e82, e39] at p66
                  refine g_if_eq C (iw f63 (by decide) (by decide)) 138 (by decide) dX12_takeFact_119 (fun q85 => ?_) (fun q86 => ?_)
                  · have f87 : (0 : Int) ≤ r57 ∧ r57 ≤ (0 : Int) := ii f63 (r_eq (il 0) q85) (by decide) (by decide)
                    have e88 : Iv h58 a0 7 = v1 := by rw [e82]; omega
                    refine g_aload_n C rfl 1 rfl dX12_takeFact_138 ?_
                    refine g_bipush C (by decide) dX12_takeFact_139 ?_
                    have e89 : Iv h58 a0 8 = v4 := ((fxI F62 e34 rfl).trans e50)
                    have e90 : Iv h58 a0 28 = v7 := ((fxI F62 e34 rfl).trans e56)
                    have p91 := (TK_fx O26 F62 e34 rfl p53)
                    have p92 := ((NT_fx O26 F62 e34 rfl).trans p54)
                    refine g_callI (st := []) (gc_V C lk_LandSurveyModel_405 (k_X12_hasSign l D cy w z0 O61 e83 (iw (il 40) (by decide) (by decide)) ⟨p91, by rw [e88, p92]; omega, by rw [e89, e88, p92]; omega, by rw [e90, e88]; omega⟩) e83 rfl rfl rfl ⟨by decide, by decide⟩ (Nat.le_of_ble_eq_true rfl) dX12_takeFact_141 ⟨(by decide), (by decide)⟩) (fun r93 h94 f96 K95 => ?_)
                    obtain ⟨O97, F98, f99, p100, p101, p102⟩ := K95
                    rw [e89, e88, p92] at p100
                    have e103 : Rv h58 a0 4 = v35 := ((fxR F62 e34 rfl).trans e36)
                    have e104 : Iv h58 v35 v1.toNat = v40 := ((fxIa F62 t37 ar_104100 rfl).trans e41)
                    have e105 : Rv h58 a0 6 = v67 := ((fxR F62 e34 rfl).trans e68)
                    have e106 : Jv h58 v67 v1.toNat = v71 := ((fxJa F62 t69 ar_106102 rfl).trans e72)
                    rw [e89, e103, e88, e104, e105, e106] at p101
                    obtain ⟨v107, e108⟩ : ∃ z, Iv h94 a0 7 = z := ⟨_, rfl⟩
                    have e109 : Tg h94 a0 = 12 := (fxT F98 e83)
                    have f110 := ok_I O97 e109 rI_12_7 e108
                    rw [e108, e88] at p102
                    refine g_if_eq C (iw f99 (by decide) (by decide)) 163 (by decide) dX12_takeFact_144 (fun q111 => ?_) (fun q112 => ?_)
                    · have f113 : (0 : Int) ≤ r93 ∧ r93 ≤ (0 : Int) := ii f99 (r_eq (il 0) q111) (by decide) (by decide)
                      have e114 : Iv h94 a0 7 = v1 := by rw [e108]; omega
                      refine g_aload_n C rfl 1 rfl dX12_takeFact_163 ?_
                      refine g_iload_n C rfl 0 rfl dX12_takeFact_164 ?_
                      refine g_if_eq C (iw (il 0) (by decide) (by decide)) 172 (by decide) dX12_takeFact_165 (fun q115 => ?_) (fun q116 => ?_)
                      · refine g_iconst C dX12_takeFact_172 ?_
                        refine g_iload_n C rfl 0 rfl dX12_takeFact_173 ?_
                        refine g_if_eq C (iw (il 0) (by decide) (by decide)) 190 (by decide) dX12_takeFact_174 (fun q117 => ?_) (fun q118 => ?_)
                        · refine g_iload_n C rfl 3 rfl dX12_takeFact_190 ?_
                          have e119 : Iv h94 a0 28 = v7 := ((fxI F98 e83 rfl).trans e90)
                          refine g_callV (st := []) (gc_V C lk_LandSurveyModel_395 (k_X12_emit l D cy w z0 O97 e109 (iw (il 2) (by decide) (by decide)) (iw f47 (by decide) (by decide)) (by rw [e119]; omega)) e109 rfl rfl rfl ⟨by decide, by decide⟩ (Nat.le_of_ble_eq_true rfl) dX12_takeFact_191 ⟨(by decide), (by decide)⟩) (fun h121 K122 => ?_)
                          obtain ⟨O124, F125, p126⟩ := K122
                          have e127 : Iv h121 a0 28 = v7 + 1 := by rw [p126.1, e119]
                          obtain ⟨v128, e129⟩ : ∃ z, Iv h121 a0 28 = z := ⟨_, rfl⟩
                          have e130 : Tg h121 a0 = 12 := (fxT F125 e109)
                          have f131 := ok_I O124 e130 rI_12_28 e129
                          rw [e129] at e127
                          have p132 : PUf h121 a0 (Iv h a0 28) := fun _ => PU_one p126 (e119.trans e8.symm) (by rw [e8]; omega) (by omega)
                          refine g_aload_n C rfl 1 rfl dX12_takeFact_194 ?_
                          refine g_dup C rfl dX12_takeFact_195 ?_
                          have e133 : Iv h121 a0 7 = v1 := ((fxI F125 e109 rfl).trans e114)
                          refine gf_I C fk_LandSurveyModel_317 rfl e130 e133 dX12_takeFact_196 ?_
                          refine g_iconst C dX12_takeFact_199 ?_
                          have f134 : (1 : Int) ≤ (v1 + 1) ∧ (v1 + 1) ≤ (1502 : Int) := ia_add f3 (il 1) (by decide) (by decide)
                          refine g_iadd C dX12_takeFact_200 ?_
                          refine gp_I C fk_LandSurveyModel_317 pk_LandSurveyModel_7 rfl e130 (iw f134 (by decide) (by decide)) (nf_i _) dX12_takeFact_201 (fun h136 hh135 => ?_)
                          have O137 := O124.pI e130 hh135 rI_12_7 (by omega) nofun
                          have e138 : Iv h136 a0 8 = v4 := ((pI_j hh135 (by decide)).trans ((fxI F125 e109 rfl).trans ((fxI F98 e83 rfl).trans e89)))
                          have e139 : Iv h136 a0 28 = v128 := ((pI_j hh135 (by decide)).trans e129)
                          have p140 := (TK_fx O124 ((Fx.rf (wr := [2407]) (h := h121)).pI e130 hh135 rfl) e130 rfl (TK_fx O97 F125 e109 rfl (TK_fx O61 F98 e83 rfl p91)))
                          have p141 := ((NT_fx O124 ((Fx.rf (wr := [2407]) (h := h121)).pI e130 hh135 rfl) e130 rfl).trans ((NT_fx O97 F125 e109 rfl).trans ((NT_fx O61 F98 e83 rfl).trans p92)))
                          have p142 := (CF.trans (CF.trans (CF.trans (CF.trans (CF.trans (CF.rf (h := h) (m := a0)) (CF_fx O F27 ta0 rfl)) (CF_fx O26 F62 e34 rfl)) (CF_fx O61 F98 e83 rfl)) (EM.cf p126)) (CF_fx O124 ((Fx.rf (wr := [2407]) (h := h121)).pI e130 hh135 rfl) e130 rfl))
                          have p143 := (PUf_fx O124 ((Fx.rf (wr := [2407]) (h := h121)).pI e130 hh135 rfl) e130 rfl p132)
                          exact g_vret C hr ⟨O137, ((((((Fx.rf (wr := wr_k_takeFact_0)).call F27 rfl).call F62 rfl).call F98 rfl).call F125 rfl).pI e130 hh135 rfl), ⟨p140, by rw [(pI_e hh135), p141]; omega, by rw [e138, (pI_e hh135), p141]; omega, by rw [e139, (pI_e hh135)]; omega⟩, (by unfold ST; rw [e2, (pI_e hh135), e8, e139, e5, e138]; omega), p142, p143⟩ (by decide) (by decide) dX12_takeFact_204
                        · exact (no_ne (il 0) (il 0) q118 (by decide)).elim
                      · exact (no_ne (il 0) (il 0) q116 (by decide)).elim
                    · have f144 : (1 : Int) ≤ r93 ∧ r93 ≤ (1 : Int) := r_nl f99 q112
                      refine g_aload_n C rfl 1 rfl dX12_takeFact_147 ?_
                      refine g_iload_n C rfl 2 rfl dX12_takeFact_148 ?_
                      refine g_iconst C dX12_takeFact_149 ?_
                      have f145 : (1 : Int) ≤ (a1 + 1) ∧ (a1 + 1) ≤ (1 : Int) := ia_add fa1 (il 1) (by decide) (by decide)
                      refine g_iadd C dX12_takeFact_150 ?_
                      have e146 : Iv h94 a0 8 = v4 := ((fxI F98 e83 rfl).trans e89)
                      have e147 : Iv h94 a0 28 = v7 := ((fxI F98 e83 rfl).trans e90)
                      have p148 := (TK_fx O61 F98 e83 rfl p91)
                      have p149 := ((NT_fx O61 F98 e83 rfl).trans p92)
                      refine g_callV (st := []) (gc_V C lk_LandSurveyModel_392 (k_all_1 l D cy w z0 O97 e109 f145 ⟨p148, by rw [e108, p149]; omega, by rw [e146, e108, p149]; omega, by rw [e147, e108]; omega⟩) e109 rfl rfl rfl ⟨by decide, by decide⟩ (Nat.le_of_ble_eq_true rfl) dX12_takeFact_151 ⟨(by decide), (by decide)⟩) (fun h151 K152 => ?_)
                      obtain ⟨O154, F155, p156, p157, p158, p159⟩ := K152
                      obtain ⟨v160, e161⟩ : ∃ z, Iv h151 a0 7 = z := ⟨_, rfl⟩
                      have e162 : Tg h151 a0 = 12 := (fxT F155 e109)
                      have f163 := ok_I O154 e162 rI_12_7 e161
                      obtain ⟨v164, e165⟩ : ∃ z, Iv h151 a0 8 = z := ⟨_, rfl⟩
                      have f166 := ok_I O154 e162 rI_12_8 e165
                      obtain ⟨v167, e168⟩ : ∃ z, Iv h151 a0 28 = z := ⟨_, rfl⟩
                      have f169 := ok_I O154 e162 rI_12_28 e168
                      obtain ⟨p170, p171, p172, p173⟩ := p156
                      have p174 := ((NT_fx O97 F155 e109 rfl).trans p149)
                      rw [e161, p174] at p171
                      rw [e165, e161, p174] at p172
                      rw [e168, e161] at p173
                      have p175 := p157
                      unfold ST at p175
                      rw [e108, e161, e147, e168, e146, e165] at p175
                      refine g_aload_n C rfl 1 rfl dX12_takeFact_154 ?_
                      refine g_bipush C (by decide) dX12_takeFact_155 ?_
                      refine g_callV (st := []) (gc_V C lk_LandSurveyModel_380 (k_X12_takeSign l D cy w z0 O154 e162 (iw (il 41) (by decide) (by decide)) ⟨p170, by rw [e161, p174]; omega, by rw [e165, e161, p174]; omega, by rw [e168, e161]; omega⟩) e162 rfl rfl rfl ⟨by decide, by decide⟩ (Nat.le_of_ble_eq_true rfl) dX12_takeFact_157 ⟨(by decide), (by decide)⟩) (fun h177 K178 => ?_)
                      obtain ⟨O180, F181, p182, p183, p184⟩ := K178
                      obtain ⟨v185, e186⟩ : ∃ z, Iv h177 a0 7 = z := ⟨_, rfl⟩
                      have e187 : Tg h177 a0 = 12 := (fxT F181 e162)
                      have f188 := ok_I O180 e187 rI_12_7 e186
                      obtain ⟨v189, e190⟩ : ∃ z, Iv h177 a0 8 = z := ⟨_, rfl⟩
                      have f191 := ok_I O180 e187 rI_12_8 e190
                      have e192 : Iv h177 a0 28 = v167 := ((fxI F181 e162 rfl).trans e168)
                      obtain ⟨p193, p194, p195, p196⟩ := p182
                      have p197 := ((NT_fx O154 F181 e162 rfl).trans p174)
                      rw [e186, p197] at p194
                      rw [e190, e186, p197] at p195
                      rw [e192, e186] at p196
                      have p198 := p183
                      unfold ST at p198
                      rw [e161, e186, e168, e192, e165, e190] at p198
                      rw [e190, e186, e161] at p184
                      have p199 := (PUf_mono O154 F181 e162 rfl p183.2.2 p159)
                      have p200 : PUf h177 a0 (Iv h a0 28) := by rw [show Iv h a0 28 = Iv h94 a0 28 from e8.trans e147.symm]; exact p199
                      refine g_goto C 204 (by decide) dX12_takeFact_160 ?_
                      have p201 := (CF.trans (CF.trans (CF.trans (CF.trans (CF.trans (CF.rf (h := h) (m := a0)) (CF_fx O F27 ta0 rfl)) (CF_fx O26 F62 e34 rfl)) (CF_fx O61 F98 e83 rfl)) p158) (CF_fx O154 F181 e162 rfl))
                      exact g_vret C hr ⟨O180, ((((((Fx.rf (wr := wr_k_takeFact_0)).call F27 rfl).call F62 rfl).call F98 rfl).call F155 rfl).call F181 rfl), ⟨p193, by rw [e186, p197]; omega, by rw [e190, e186, p197]; omega, by rw [e192, e186]; omega⟩, (by unfold ST; rw [e2, e186, e8, e192, e5, e190]; omega), p201, p200⟩ (by decide) (by decide) dX12_takeFact_204
                  · have f202 : (1 : Int) ≤ r57 ∧ r57 ≤ (1 : Int) := r_nl f63 q86
                    refine g_aload_n C rfl 1 rfl dX12_takeFact_122 ?_
                    refine g_iload_n C rfl 2 rfl dX12_takeFact_123 ?_
                    refine g_iconst C dX12_takeFact_124 ?_
                    have f203 : (1 : Int) ≤ (a1 + 1) ∧ (a1 + 1) ≤ (1 : Int) := ia_add fa1 (il 1) (by decide) (by decide)
                    refine g_iadd C dX12_takeFact_125 ?_
                    have e204 : Iv h58 a0 8 = v4 := ((fxI F62 e34 rfl).trans e50)
                    have e205 : Iv h58 a0 28 = v7 := ((fxI F62 e34 rfl).trans e56)
                    have p206 := (TK_fx O26 F62 e34 rfl p53)
                    have p207 := ((NT_fx O26 F62 e34 rfl).trans p54)
                    refine g_callV (st := []) (gc_V C lk_LandSurveyModel_408 (k_takeFact_1 l D cy w z0 O61 e83 f203 ⟨p206, by rw [e82, p207]; omega, by rw [e204, e82, p207]; omega, by rw [e205, e82]; omega⟩) e83 rfl rfl rfl ⟨by decide, by decide⟩ (Nat.le_of_ble_eq_true rfl) dX12_takeFact_126 ⟨(by decide), (by decide)⟩) (fun h209 K210 => ?_)
                    obtain ⟨O212, F213, p214, p215, p216, p217⟩ := K210
                    obtain ⟨v218, e219⟩ : ∃ z, Iv h209 a0 7 = z := ⟨_, rfl⟩
                    have e220 : Tg h209 a0 = 12 := (fxT F213 e83)
                    have f221 := ok_I O212 e220 rI_12_7 e219
                    obtain ⟨v222, e223⟩ : ∃ z, Iv h209 a0 8 = z := ⟨_, rfl⟩
                    have f224 := ok_I O212 e220 rI_12_8 e223
                    obtain ⟨v225, e226⟩ : ∃ z, Iv h209 a0 28 = z := ⟨_, rfl⟩
                    have f227 := ok_I O212 e220 rI_12_28 e226
                    obtain ⟨p228, p229, p230, p231⟩ := p214
                    have p232 := ((NT_fx O61 F213 e83 rfl).trans p207)
                    rw [e219, p232] at p229
                    rw [e223, e219, p232] at p230
                    rw [e226, e219] at p231
                    have p233 := p215
                    unfold ST at p233
                    rw [e82, e219, e205, e226, e204, e223] at p233
                    refine g_aload_n C rfl 1 rfl dX12_takeFact_129 ?_
                    refine g_iconst C dX12_takeFact_130 ?_
                    refine g_iconst C dX12_takeFact_131 ?_
                    refine g_callV (st := []) (gc_V C lk_LandSurveyModel_395 (k_X12_emit l D cy w z0 O212 e220 (iw (il 3) (by decide) (by decide)) (iw (il 0) (by decide) (by decide)) (by rw [e226]; omega)) e220 rfl rfl rfl ⟨by decide, by decide⟩ (Nat.le_of_ble_eq_true rfl) dX12_takeFact_132 ⟨(by decide), (by decide)⟩) (fun h235 K236 => ?_)
                    obtain ⟨O238, F239, p240⟩ := K236
                    have e241 : Iv h235 a0 28 = v225 + 1 := by rw [p240.1, e226]
                    obtain ⟨v242, e243⟩ : ∃ z, Iv h235 a0 28 = z := ⟨_, rfl⟩
                    have e244 : Tg h235 a0 = 12 := (fxT F239 e220)
                    have f245 := ok_I O238 e244 rI_12_28 e243
                    rw [e243] at e241
                    have p246 : PUf h235 a0 (Iv h a0 28) := PUf_neg p217 p240 (mIv (j := 8) F239 e220 rfl) (e205.trans e8.symm)
                    refine g_goto C 204 (by decide) dX12_takeFact_135 ?_
                    have e247 : Iv h235 a0 7 = v218 := ((fxI F239 e220 rfl).trans e219)
                    have e248 : Iv h235 a0 8 = v222 := ((fxI F239 e220 rfl).trans e223)
                    have p249 := (TK_fx O212 F239 e220 rfl p228)
                    have p250 := ((NT_fx O212 F239 e220 rfl).trans p232)
                    have p251 := (CF.trans (CF.trans (CF.trans (CF.trans (CF.rf (h := h) (m := a0)) (CF_fx O F27 ta0 rfl)) (CF_fx O26 F62 e34 rfl)) p216) (EM.cf p240))
                    exact g_vret C hr ⟨O238, (((((Fx.rf (wr := wr_k_takeFact_0)).call F27 rfl).call F62 rfl).call F213 rfl).call F239 rfl), ⟨p249, by rw [e247, p250]; omega, by rw [e248, e247, p250]; omega, by rw [e243, e247]; omega⟩, (by unfold ST; rw [e2, e247, e8, e243, e5, e248]; omega), p251, p246⟩ (by decide) (by decide) dX12_takeFact_204
                · exact (no_lt (il 0) f19 q52 (by decide)).elim
              · exact (no_eq fa1 (il 4) q49 (by decide)).elim
            · have f252 : (-1 : Int) ≤ x20 ∧ x20 ≤ (-1 : Int) := r_lt f28 (il 0) q46 (by decide) (by decide)
              refine g_iload_n C rfl 0 rfl dX12_takeFact_65 ?_
              refine g_if_ne C (iw (il 0) (by decide) (by decide)) 95 (by decide) dX12_takeFact_66 (fun q253 => ?_) (fun q254 => ?_)
              · exact (no_ne (il 0) (il 0) q253 (by decide)).elim
              · refine g_aload_n C rfl 1 rfl dX12_takeFact_69 ?_
                refine g_bipush C (by decide) dX12_takeFact_70 ?_
                have e255 : Iv h22 a0 8 = v4 := ((fxI F27 ta0 rfl).trans e5)
                have e256 : Iv h22 a0 28 = v7 := ((fxI F27 ta0 rfl).trans e8)
                have p257 := (TK_fx O F27 ta0 rfl p10)
                have p258 := ((NT_fx O F27 ta0 rfl).trans e15)
                refine g_callI (st := []) (gc_V C lk_LandSurveyModel_323 (k_X12_isSign l D cy w z0 O26 e34 (iw (il 40) (by decide) (by decide)) ⟨p257, by rw [e39, p258]; omega, by rw [e255, e39, p258]; omega, by rw [e256, e39]; omega⟩) e34 rfl rfl rfl ⟨by decide, by decide⟩ (Nat.le_of_ble_eq_true rfl) dX12_takeFact_72 ⟨(by decide), (by decide)⟩) (fun r259 h260 f262 K261 => ?_)
                obtain ⟨O263, F264, f265, p266, p267⟩ := K261
                rw [e255, e39, p258] at p266
                obtain ⟨v268, e269⟩ : ∃ z, Rv h22 a0 6 = z := ⟨_, rfl⟩
                have t270 := ok_R O26 e34 rE_12_6 e269
                have l271 := ok_L O26 e34 rE_12_6 e269
                obtain ⟨v272, e273⟩ : ∃ z, Jv h22 v268 v1.toNat = z := ⟨_, rfl⟩
                have f274 := inL_J O26 e273
                rw [e255, e36, e39, e41, e269, e273] at p267
                refine g_if_ne C (iw f265 (by decide) (by decide)) 95 (by decide) dX12_takeFact_75 (fun q275 => ?_) (fun q276 => ?_)
                · have f277 : (1 : Int) ≤ r259 ∧ r259 ≤ (1 : Int) := r_nl f265 q275
                  refine g_iload_n C rfl 2 rfl dX12_takeFact_95 ?_
                  refine g_iconst C dX12_takeFact_96 ?_
                  refine g_icmp_ne C (iw fa1 (by decide) (by decide)) (iw (il 4) (by decide) (by decide)) 105 (by decide) dX12_takeFact_97 (fun q278 => ?_) (fun q279 => ?_)
                  · refine g_aload_n C rfl 1 rfl dX12_takeFact_105 ?_
                    have e280 : Tg h260 a0 = 12 := (fxT F264 e34)
                    have e281 : Iv h260 a0 8 = v4 := ((fxI F264 e34 rfl).trans e255)
                    refine gf_I C fk_LandSurveyModel_320 rfl e280 e281 dX12_takeFact_106 ?_
                    refine g_if_le C (iw f19 (by decide) (by decide)) 113 (by decide) dX12_takeFact_109 (fun q282 => ?_) (fun q283 => ?_)
                    · have e284 : Iv h260 a0 7 = v1 := ((fxI F264 e34 rfl).trans e39)
                      have e285 : Rv h260 a0 4 = v35 := ((fxR F264 e34 rfl).trans e36)
                      have e286 : Iv h260 v35 v1.toNat = v40 := ((fxIa F264 t37 ar_104100 rfl).trans e41)
                      have p287 := (TK_fx O26 F264 e34 rfl p257)
                      have p288 := ((NT_fx O26 F264 e34 rfl).trans p258)
                      have z289 : ¬ v40 = 0 → v1 < v14 := fun hs => NT_lt p287 p288 (a := v1) (by omega) (by omega) (by rw [e285, e286]; exact hs)
                      refine g_aload_n C rfl 1 rfl dX12_takeFact_113 ?_
                      refine g_bipush C (by decide) dX12_takeFact_114 ?_
                      have e290 : Iv h260 a0 28 = v7 := ((fxI F264 e34 rfl).trans e256)
                      refine g_callI (st := []) (gc_V C lk_LandSurveyModel_333 (k_X12_hasWord l D cy w z0 O263 e280 (iw (il 17) (by decide) (by decide)) ⟨p287, by rw [e284, p288]; omega, by rw [e281, e284, p288]; omega, by rw [e290, e284]; omega⟩) e280 rfl rfl rfl ⟨by decide, by decide⟩ (Nat.le_of_ble_eq_true rfl) dX12_takeFact_116 ⟨(by decide), (by decide)⟩) (fun r291 h292 f294 K293 => ?_)
                      obtain ⟨O295, F296, f297, p298, p299, p300⟩ := K293
                      rw [e281, e284, p288] at p298
                      have e301 : Rv h260 a0 6 = v268 := ((fxR F264 e34 rfl).trans e269)
                      have e302 : Jv h260 v268 v1.toNat = v272 := ((fxJa F264 t270 ar_106102 rfl).trans e273)
                      obtain ⟨v303, e304⟩ : ∃ z, Rv h260 a0 9 = z := ⟨_, rfl⟩
                      have t305 := ok_R O263 e280 rE_12_9 e304
                      have l306 := ok_L O263 e280 rE_12_9 e304
                      obtain ⟨v307, e308⟩ : ∃ z, Jv h260 v303 ((17 : Int).toNat) = z := ⟨_, rfl⟩
                      have f309 := inL_J O263 e308
                      rw [e281, e285, e284, e286, e301, e302, e304, e308] at p299
                      obtain ⟨v310, e311⟩ : ∃ z, Iv h292 a0 7 = z := ⟨_, rfl⟩
                      have e312 : Tg h292 a0 = 12 := (fxT F296 e280)
                      have f313 := ok_I O295 e312 rI_12_7 e311
                      rw [e311, e284] at p300
                      refine g_if_eq C (iw f297 (by decide) (by decide)) 138 (by decide) dX12_takeFact_119 (fun q314 => ?_) (fun q315 => ?_)
                      · have f316 : (0 : Int) ≤ r291 ∧ r291 ≤ (0 : Int) := ii f297 (r_eq (il 0) q314) (by decide) (by decide)
                        have e317 : Iv h292 a0 7 = v1 := by rw [e311]; omega
                        refine g_aload_n C rfl 1 rfl dX12_takeFact_138 ?_
                        refine g_bipush C (by decide) dX12_takeFact_139 ?_
                        have e318 : Iv h292 a0 8 = v4 := ((fxI F296 e280 rfl).trans e281)
                        have e319 : Iv h292 a0 28 = v7 := ((fxI F296 e280 rfl).trans e290)
                        have p320 := (TK_fx O263 F296 e280 rfl p287)
                        have p321 := ((NT_fx O263 F296 e280 rfl).trans p288)
                        refine g_callI (st := []) (gc_V C lk_LandSurveyModel_405 (k_X12_hasSign l D cy w z0 O295 e312 (iw (il 40) (by decide) (by decide)) ⟨p320, by rw [e317, p321]; omega, by rw [e318, e317, p321]; omega, by rw [e319, e317]; omega⟩) e312 rfl rfl rfl ⟨by decide, by decide⟩ (Nat.le_of_ble_eq_true rfl) dX12_takeFact_141 ⟨(by decide), (by decide)⟩) (fun r322 h323 f325 K324 => ?_)
                        obtain ⟨O326, F327, f328, p329, p330, p331⟩ := K324
                        rw [e318, e317, p321] at p329
                        have e332 : Rv h292 a0 4 = v35 := ((fxR F296 e280 rfl).trans e285)
                        have e333 : Tg h260 v35 = 104100 := (fxT F264 t37)
                        have e334 : Iv h292 v35 v1.toNat = v40 := ((fxIa F296 e333 ar_104100 rfl).trans e286)
                        have e335 : Rv h292 a0 6 = v268 := ((fxR F296 e280 rfl).trans e301)
                        have e336 : Tg h260 v268 = 106102 := (fxT F264 t270)
                        have e337 : Jv h292 v268 v1.toNat = v272 := ((fxJa F296 e336 ar_106102 rfl).trans e302)
                        rw [e318, e332, e317, e334, e335, e337] at p330
                        obtain ⟨v338, e339⟩ : ∃ z, Iv h323 a0 7 = z := ⟨_, rfl⟩
                        have e340 : Tg h323 a0 = 12 := (fxT F327 e312)
                        have f341 := ok_I O326 e340 rI_12_7 e339
                        rw [e339, e317] at p331
                        refine g_if_eq C (iw f328 (by decide) (by decide)) 163 (by decide) dX12_takeFact_144 (fun q342 => ?_) (fun q343 => ?_)
                        · have f344 : (0 : Int) ≤ r322 ∧ r322 ≤ (0 : Int) := ii f328 (r_eq (il 0) q342) (by decide) (by decide)
                          have e345 : Iv h323 a0 7 = v1 := by rw [e339]; omega
                          refine g_aload_n C rfl 1 rfl dX12_takeFact_163 ?_
                          refine g_iload_n C rfl 0 rfl dX12_takeFact_164 ?_
                          refine g_if_eq C (iw (il 0) (by decide) (by decide)) 172 (by decide) dX12_takeFact_165 (fun q346 => ?_) (fun q347 => ?_)
                          · refine g_iconst C dX12_takeFact_172 ?_
                            refine g_iload_n C rfl 0 rfl dX12_takeFact_173 ?_
                            refine g_if_eq C (iw (il 0) (by decide) (by decide)) 190 (by decide) dX12_takeFact_174 (fun q348 => ?_) (fun q349 => ?_)
                            · refine g_iload_n C rfl 3 rfl dX12_takeFact_190 ?_
                              have e350 : Iv h323 a0 28 = v7 := ((fxI F327 e312 rfl).trans e319)
                              refine g_callV (st := []) (gc_V C lk_LandSurveyModel_395 (k_X12_emit l D cy w z0 O326 e340 (iw (il 2) (by decide) (by decide)) (iw f252 (by decide) (by decide)) (by rw [e350]; omega)) e340 rfl rfl rfl ⟨by decide, by decide⟩ (Nat.le_of_ble_eq_true rfl) dX12_takeFact_191 ⟨(by decide), (by decide)⟩) (fun h352 K353 => ?_)
                              obtain ⟨O355, F356, p357⟩ := K353
                              have e358 : Iv h352 a0 28 = v7 + 1 := by rw [p357.1, e350]
                              obtain ⟨v359, e360⟩ : ∃ z, Iv h352 a0 28 = z := ⟨_, rfl⟩
                              have e361 : Tg h352 a0 = 12 := (fxT F356 e340)
                              have f362 := ok_I O355 e361 rI_12_28 e360
                              rw [e360] at e358
                              have p363 : PUf h352 a0 (Iv h a0 28) := fun _ => PU_one p357 (e350.trans e8.symm) (by rw [e8]; omega) (by omega)
                              refine g_aload_n C rfl 1 rfl dX12_takeFact_194 ?_
                              refine g_dup C rfl dX12_takeFact_195 ?_
                              have e364 : Iv h352 a0 7 = v1 := ((fxI F356 e340 rfl).trans e345)
                              refine gf_I C fk_LandSurveyModel_317 rfl e361 e364 dX12_takeFact_196 ?_
                              refine g_iconst C dX12_takeFact_199 ?_
                              have f365 : (1 : Int) ≤ (v1 + 1) ∧ (v1 + 1) ≤ (1502 : Int) := ia_add f3 (il 1) (by decide) (by decide)
                              refine g_iadd C dX12_takeFact_200 ?_
                              refine gp_I C fk_LandSurveyModel_317 pk_LandSurveyModel_7 rfl e361 (iw f365 (by decide) (by decide)) (nf_i _) dX12_takeFact_201 (fun h367 hh366 => ?_)
                              have O368 := O355.pI e361 hh366 rI_12_7 (by omega) nofun
                              have e369 : Iv h367 a0 8 = v4 := ((pI_j hh366 (by decide)).trans ((fxI F356 e340 rfl).trans ((fxI F327 e312 rfl).trans e318)))
                              have e370 : Iv h367 a0 28 = v359 := ((pI_j hh366 (by decide)).trans e360)
                              have p371 := (TK_fx O355 ((Fx.rf (wr := [2407]) (h := h352)).pI e361 hh366 rfl) e361 rfl (TK_fx O326 F356 e340 rfl (TK_fx O295 F327 e312 rfl p320)))
                              have p372 := ((NT_fx O355 ((Fx.rf (wr := [2407]) (h := h352)).pI e361 hh366 rfl) e361 rfl).trans ((NT_fx O326 F356 e340 rfl).trans ((NT_fx O295 F327 e312 rfl).trans p321)))
                              have p373 := (CF.trans (CF.trans (CF.trans (CF.trans (CF.trans (CF.trans (CF.rf (h := h) (m := a0)) (CF_fx O F27 ta0 rfl)) (CF_fx O26 F264 e34 rfl)) (CF_fx O263 F296 e280 rfl)) (CF_fx O295 F327 e312 rfl)) (EM.cf p357)) (CF_fx O355 ((Fx.rf (wr := [2407]) (h := h352)).pI e361 hh366 rfl) e361 rfl))
                              have p374 := (PUf_fx O355 ((Fx.rf (wr := [2407]) (h := h352)).pI e361 hh366 rfl) e361 rfl p363)
                              exact g_vret C hr ⟨O368, (((((((Fx.rf (wr := wr_k_takeFact_0)).call F27 rfl).call F264 rfl).call F296 rfl).call F327 rfl).call F356 rfl).pI e361 hh366 rfl), ⟨p371, by rw [(pI_e hh366), p372]; omega, by rw [e369, (pI_e hh366), p372]; omega, by rw [e370, (pI_e hh366)]; omega⟩, (by unfold ST; rw [e2, (pI_e hh366), e8, e370, e5, e369]; omega), p373, p374⟩ (by decide) (by decide) dX12_takeFact_204
                            · exact (no_ne (il 0) (il 0) q349 (by decide)).elim
                          · exact (no_ne (il 0) (il 0) q347 (by decide)).elim
                        · have f375 : (1 : Int) ≤ r322 ∧ r322 ≤ (1 : Int) := r_nl f328 q343
                          refine g_aload_n C rfl 1 rfl dX12_takeFact_147 ?_
                          refine g_iload_n C rfl 2 rfl dX12_takeFact_148 ?_
                          refine g_iconst C dX12_takeFact_149 ?_
                          have f376 : (1 : Int) ≤ (a1 + 1) ∧ (a1 + 1) ≤ (1 : Int) := ia_add fa1 (il 1) (by decide) (by decide)
                          refine g_iadd C dX12_takeFact_150 ?_
                          have e377 : Iv h323 a0 8 = v4 := ((fxI F327 e312 rfl).trans e318)
                          have e378 : Iv h323 a0 28 = v7 := ((fxI F327 e312 rfl).trans e319)
                          have p379 := (TK_fx O295 F327 e312 rfl p320)
                          have p380 := ((NT_fx O295 F327 e312 rfl).trans p321)
                          refine g_callV (st := []) (gc_V C lk_LandSurveyModel_392 (k_all_1 l D cy w z0 O326 e340 f376 ⟨p379, by rw [e339, p380]; omega, by rw [e377, e339, p380]; omega, by rw [e378, e339]; omega⟩) e340 rfl rfl rfl ⟨by decide, by decide⟩ (Nat.le_of_ble_eq_true rfl) dX12_takeFact_151 ⟨(by decide), (by decide)⟩) (fun h382 K383 => ?_)
                          obtain ⟨O385, F386, p387, p388, p389, p390⟩ := K383
                          obtain ⟨v391, e392⟩ : ∃ z, Iv h382 a0 7 = z := ⟨_, rfl⟩
                          have e393 : Tg h382 a0 = 12 := (fxT F386 e340)
                          have f394 := ok_I O385 e393 rI_12_7 e392
                          obtain ⟨v395, e396⟩ : ∃ z, Iv h382 a0 8 = z := ⟨_, rfl⟩
                          have f397 := ok_I O385 e393 rI_12_8 e396
                          obtain ⟨v398, e399⟩ : ∃ z, Iv h382 a0 28 = z := ⟨_, rfl⟩
                          have f400 := ok_I O385 e393 rI_12_28 e399
                          obtain ⟨p401, p402, p403, p404⟩ := p387
                          have p405 := ((NT_fx O326 F386 e340 rfl).trans p380)
                          rw [e392, p405] at p402
                          rw [e396, e392, p405] at p403
                          rw [e399, e392] at p404
                          have p406 := p388
                          unfold ST at p406
                          rw [e339, e392, e378, e399, e377, e396] at p406
                          refine g_aload_n C rfl 1 rfl dX12_takeFact_154 ?_
                          refine g_bipush C (by decide) dX12_takeFact_155 ?_
                          refine g_callV (st := []) (gc_V C lk_LandSurveyModel_380 (k_X12_takeSign l D cy w z0 O385 e393 (iw (il 41) (by decide) (by decide)) ⟨p401, by rw [e392, p405]; omega, by rw [e396, e392, p405]; omega, by rw [e399, e392]; omega⟩) e393 rfl rfl rfl ⟨by decide, by decide⟩ (Nat.le_of_ble_eq_true rfl) dX12_takeFact_157 ⟨(by decide), (by decide)⟩) (fun h408 K409 => ?_)
                          obtain ⟨O411, F412, p413, p414, p415⟩ := K409
                          obtain ⟨v416, e417⟩ : ∃ z, Iv h408 a0 7 = z := ⟨_, rfl⟩
                          have e418 : Tg h408 a0 = 12 := (fxT F412 e393)
                          have f419 := ok_I O411 e418 rI_12_7 e417
                          obtain ⟨v420, e421⟩ : ∃ z, Iv h408 a0 8 = z := ⟨_, rfl⟩
                          have f422 := ok_I O411 e418 rI_12_8 e421
                          have e423 : Iv h408 a0 28 = v398 := ((fxI F412 e393 rfl).trans e399)
                          obtain ⟨p424, p425, p426, p427⟩ := p413
                          have p428 := ((NT_fx O385 F412 e393 rfl).trans p405)
                          rw [e417, p428] at p425
                          rw [e421, e417, p428] at p426
                          rw [e423, e417] at p427
                          have p429 := p414
                          unfold ST at p429
                          rw [e392, e417, e399, e423, e396, e421] at p429
                          rw [e421, e417, e392] at p415
                          have p430 := (PUf_mono O385 F412 e393 rfl p414.2.2 p390)
                          have p431 : PUf h408 a0 (Iv h a0 28) := by rw [show Iv h a0 28 = Iv h323 a0 28 from e8.trans e378.symm]; exact p430
                          refine g_goto C 204 (by decide) dX12_takeFact_160 ?_
                          have p432 := (CF.trans (CF.trans (CF.trans (CF.trans (CF.trans (CF.trans (CF.rf (h := h) (m := a0)) (CF_fx O F27 ta0 rfl)) (CF_fx O26 F264 e34 rfl)) (CF_fx O263 F296 e280 rfl)) (CF_fx O295 F327 e312 rfl)) p389) (CF_fx O385 F412 e393 rfl))
                          exact g_vret C hr ⟨O411, (((((((Fx.rf (wr := wr_k_takeFact_0)).call F27 rfl).call F264 rfl).call F296 rfl).call F327 rfl).call F386 rfl).call F412 rfl), ⟨p424, by rw [e417, p428]; omega, by rw [e421, e417, p428]; omega, by rw [e423, e417]; omega⟩, (by unfold ST; rw [e2, e417, e8, e423, e5, e421]; omega), p432, p431⟩ (by decide) (by decide) dX12_takeFact_204
                      · have f433 : (1 : Int) ≤ r291 ∧ r291 ≤ (1 : Int) := r_nl f297 q315
                        refine g_aload_n C rfl 1 rfl dX12_takeFact_122 ?_
                        refine g_iload_n C rfl 2 rfl dX12_takeFact_123 ?_
                        refine g_iconst C dX12_takeFact_124 ?_
                        have f434 : (1 : Int) ≤ (a1 + 1) ∧ (a1 + 1) ≤ (1 : Int) := ia_add fa1 (il 1) (by decide) (by decide)
                        refine g_iadd C dX12_takeFact_125 ?_
                        have e435 : Iv h292 a0 8 = v4 := ((fxI F296 e280 rfl).trans e281)
                        have e436 : Iv h292 a0 28 = v7 := ((fxI F296 e280 rfl).trans e290)
                        have p437 := (TK_fx O263 F296 e280 rfl p287)
                        have p438 := ((NT_fx O263 F296 e280 rfl).trans p288)
                        refine g_callV (st := []) (gc_V C lk_LandSurveyModel_408 (k_takeFact_1 l D cy w z0 O295 e312 f434 ⟨p437, by rw [e311, p438]; omega, by rw [e435, e311, p438]; omega, by rw [e436, e311]; omega⟩) e312 rfl rfl rfl ⟨by decide, by decide⟩ (Nat.le_of_ble_eq_true rfl) dX12_takeFact_126 ⟨(by decide), (by decide)⟩) (fun h440 K441 => ?_)
                        obtain ⟨O443, F444, p445, p446, p447, p448⟩ := K441
                        obtain ⟨v449, e450⟩ : ∃ z, Iv h440 a0 7 = z := ⟨_, rfl⟩
                        have e451 : Tg h440 a0 = 12 := (fxT F444 e312)
                        have f452 := ok_I O443 e451 rI_12_7 e450
                        obtain ⟨v453, e454⟩ : ∃ z, Iv h440 a0 8 = z := ⟨_, rfl⟩
                        have f455 := ok_I O443 e451 rI_12_8 e454
                        obtain ⟨v456, e457⟩ : ∃ z, Iv h440 a0 28 = z := ⟨_, rfl⟩
                        have f458 := ok_I O443 e451 rI_12_28 e457
                        obtain ⟨p459, p460, p461, p462⟩ := p445
                        have p463 := ((NT_fx O295 F444 e312 rfl).trans p438)
                        rw [e450, p463] at p460
                        rw [e454, e450, p463] at p461
                        rw [e457, e450] at p462
                        have p464 := p446
                        unfold ST at p464
                        rw [e311, e450, e436, e457, e435, e454] at p464
                        refine g_aload_n C rfl 1 rfl dX12_takeFact_129 ?_
                        refine g_iconst C dX12_takeFact_130 ?_
                        refine g_iconst C dX12_takeFact_131 ?_
                        refine g_callV (st := []) (gc_V C lk_LandSurveyModel_395 (k_X12_emit l D cy w z0 O443 e451 (iw (il 3) (by decide) (by decide)) (iw (il 0) (by decide) (by decide)) (by rw [e457]; omega)) e451 rfl rfl rfl ⟨by decide, by decide⟩ (Nat.le_of_ble_eq_true rfl) dX12_takeFact_132 ⟨(by decide), (by decide)⟩) (fun h466 K467 => ?_)
                        obtain ⟨O469, F470, p471⟩ := K467
                        have e472 : Iv h466 a0 28 = v456 + 1 := by rw [p471.1, e457]
                        obtain ⟨v473, e474⟩ : ∃ z, Iv h466 a0 28 = z := ⟨_, rfl⟩
                        have e475 : Tg h466 a0 = 12 := (fxT F470 e451)
                        have f476 := ok_I O469 e475 rI_12_28 e474
                        rw [e474] at e472
                        have p477 : PUf h466 a0 (Iv h a0 28) := PUf_neg p448 p471 (mIv (j := 8) F470 e451 rfl) (e436.trans e8.symm)
                        refine g_goto C 204 (by decide) dX12_takeFact_135 ?_
                        have e478 : Iv h466 a0 7 = v449 := ((fxI F470 e451 rfl).trans e450)
                        have e479 : Iv h466 a0 8 = v453 := ((fxI F470 e451 rfl).trans e454)
                        have p480 := (TK_fx O443 F470 e451 rfl p459)
                        have p481 := ((NT_fx O443 F470 e451 rfl).trans p463)
                        have p482 := (CF.trans (CF.trans (CF.trans (CF.trans (CF.trans (CF.rf (h := h) (m := a0)) (CF_fx O F27 ta0 rfl)) (CF_fx O26 F264 e34 rfl)) (CF_fx O263 F296 e280 rfl)) p447) (EM.cf p471))
                        exact g_vret C hr ⟨O469, ((((((Fx.rf (wr := wr_k_takeFact_0)).call F27 rfl).call F264 rfl).call F296 rfl).call F444 rfl).call F470 rfl), ⟨p480, by rw [e478, p481]; omega, by rw [e479, e478, p481]; omega, by rw [e474, e478]; omega⟩, (by unfold ST; rw [e2, e478, e8, e474, e5, e479]; omega), p482, p477⟩ (by decide) (by decide) dX12_takeFact_204
                    · exact (no_lt (il 0) f19 q283 (by decide)).elim
                  · exact (no_eq fa1 (il 4) q279 (by decide)).elim
                · have f483 : (0 : Int) ≤ r259 ∧ r259 ≤ (0 : Int) := ii f265 (r_eq (il 0) q276) (by decide) (by decide)
                  refine g_aload_n C rfl 1 rfl dX12_takeFact_78 ?_
                  refine g_bipush C (by decide) dX12_takeFact_79 ?_
                  have e484 : Tg h260 a0 = 12 := (fxT F264 e34)
                  have e485 : Iv h260 a0 7 = v1 := ((fxI F264 e34 rfl).trans e39)
                  have e486 : Iv h260 a0 8 = v4 := ((fxI F264 e34 rfl).trans e255)
                  have e487 : Iv h260 a0 28 = v7 := ((fxI F264 e34 rfl).trans e256)
                  have p488 := (TK_fx O26 F264 e34 rfl p257)
                  have p489 := ((NT_fx O26 F264 e34 rfl).trans p258)
                  refine g_callI (st := []) (gc_V C lk_LandSurveyModel_330 (k_X12_isWord l D cy w z0 O263 e484 (iw (il 17) (by decide) (by decide)) ⟨p488, by rw [e485, p489]; omega, by rw [e486, e485, p489]; omega, by rw [e487, e485]; omega⟩) e484 rfl rfl rfl ⟨by decide, by decide⟩ (Nat.le_of_ble_eq_true rfl) dX12_takeFact_81 ⟨(by decide), (by decide)⟩) (fun r490 h491 f493 K492 => ?_)
                  obtain ⟨O494, F495, f496, p497, p498⟩ := K492
                  rw [e486, e485, p489] at p497
                  have e499 : Rv h260 a0 4 = v35 := ((fxR F264 e34 rfl).trans e36)
                  have e500 : Iv h260 v35 v1.toNat = v40 := ((fxIa F264 t37 ar_104100 rfl).trans e41)
                  have e501 : Rv h260 a0 6 = v268 := ((fxR F264 e34 rfl).trans e269)
                  have e502 : Jv h260 v268 v1.toNat = v272 := ((fxJa F264 t270 ar_106102 rfl).trans e273)
                  obtain ⟨v503, e504⟩ : ∃ z, Rv h260 a0 9 = z := ⟨_, rfl⟩
                  have t505 := ok_R O263 e484 rE_12_9 e504
                  have l506 := ok_L O263 e484 rE_12_9 e504
                  obtain ⟨v507, e508⟩ : ∃ z, Jv h260 v503 ((17 : Int).toNat) = z := ⟨_, rfl⟩
                  have f509 := inL_J O263 e508
                  rw [e486, e499, e485, e500, e501, e502, e504, e508] at p498
                  refine g_if_ne C (iw f496 (by decide) (by decide)) 95 (by decide) dX12_takeFact_84 (fun q510 => ?_) (fun q511 => ?_)
                  · have f512 : (1 : Int) ≤ r490 ∧ r490 ≤ (1 : Int) := r_nl f496 q510
                    refine g_iload_n C rfl 2 rfl dX12_takeFact_95 ?_
                    refine g_iconst C dX12_takeFact_96 ?_
                    refine g_icmp_ne C (iw fa1 (by decide) (by decide)) (iw (il 4) (by decide) (by decide)) 105 (by decide) dX12_takeFact_97 (fun q513 => ?_) (fun q514 => ?_)
                    · refine g_aload_n C rfl 1 rfl dX12_takeFact_105 ?_
                      have e515 : Tg h491 a0 = 12 := (fxT F495 e484)
                      have e516 : Iv h491 a0 8 = v4 := ((fxI F495 e484 rfl).trans e486)
                      refine gf_I C fk_LandSurveyModel_320 rfl e515 e516 dX12_takeFact_106 ?_
                      refine g_if_le C (iw f19 (by decide) (by decide)) 113 (by decide) dX12_takeFact_109 (fun q517 => ?_) (fun q518 => ?_)
                      · have e519 : Iv h491 a0 7 = v1 := ((fxI F495 e484 rfl).trans e485)
                        have e520 : Rv h491 a0 4 = v35 := ((fxR F495 e484 rfl).trans e499)
                        have e521 : Tg h260 v35 = 104100 := (fxT F264 t37)
                        have e522 : Iv h491 v35 v1.toNat = v40 := ((fxIa F495 e521 ar_104100 rfl).trans e500)
                        have p523 := (TK_fx O263 F495 e484 rfl p488)
                        have p524 := ((NT_fx O263 F495 e484 rfl).trans p489)
                        have z525 : ¬ v40 = 0 → v1 < v14 := fun hs => NT_lt p523 p524 (a := v1) (by omega) (by omega) (by rw [e520, e522]; exact hs)
                        refine g_aload_n C rfl 1 rfl dX12_takeFact_113 ?_
                        refine g_bipush C (by decide) dX12_takeFact_114 ?_
                        have e526 : Iv h491 a0 28 = v7 := ((fxI F495 e484 rfl).trans e487)
                        refine g_callI (st := []) (gc_V C lk_LandSurveyModel_333 (k_X12_hasWord l D cy w z0 O494 e515 (iw (il 17) (by decide) (by decide)) ⟨p523, by rw [e519, p524]; omega, by rw [e516, e519, p524]; omega, by rw [e526, e519]; omega⟩) e515 rfl rfl rfl ⟨by decide, by decide⟩ (Nat.le_of_ble_eq_true rfl) dX12_takeFact_116 ⟨(by decide), (by decide)⟩) (fun r527 h528 f530 K529 => ?_)
                        obtain ⟨O531, F532, f533, p534, p535, p536⟩ := K529
                        rw [e516, e519, p524] at p534
                        have e537 : Rv h491 a0 6 = v268 := ((fxR F495 e484 rfl).trans e501)
                        have e538 : Tg h260 v268 = 106102 := (fxT F264 t270)
                        have e539 : Jv h491 v268 v1.toNat = v272 := ((fxJa F495 e538 ar_106102 rfl).trans e502)
                        have e540 : Rv h491 a0 9 = v503 := ((fxR F495 e484 rfl).trans e504)
                        have e541 : Jv h491 v503 ((17 : Int).toNat) = v507 := ((fxJa F495 t505 ar_109102 rfl).trans e508)
                        rw [e516, e520, e519, e522, e537, e539, e540, e541] at p535
                        obtain ⟨v542, e543⟩ : ∃ z, Iv h528 a0 7 = z := ⟨_, rfl⟩
                        have e544 : Tg h528 a0 = 12 := (fxT F532 e515)
                        have f545 := ok_I O531 e544 rI_12_7 e543
                        rw [e543, e519] at p536
                        refine g_if_eq C (iw f533 (by decide) (by decide)) 138 (by decide) dX12_takeFact_119 (fun q546 => ?_) (fun q547 => ?_)
                        · have f548 : (0 : Int) ≤ r527 ∧ r527 ≤ (0 : Int) := ii f533 (r_eq (il 0) q546) (by decide) (by decide)
                          have e549 : Iv h528 a0 7 = v1 := by rw [e543]; omega
                          refine g_aload_n C rfl 1 rfl dX12_takeFact_138 ?_
                          refine g_bipush C (by decide) dX12_takeFact_139 ?_
                          have e550 : Iv h528 a0 8 = v4 := ((fxI F532 e515 rfl).trans e516)
                          have e551 : Iv h528 a0 28 = v7 := ((fxI F532 e515 rfl).trans e526)
                          have p552 := (TK_fx O494 F532 e515 rfl p523)
                          have p553 := ((NT_fx O494 F532 e515 rfl).trans p524)
                          refine g_callI (st := []) (gc_V C lk_LandSurveyModel_405 (k_X12_hasSign l D cy w z0 O531 e544 (iw (il 40) (by decide) (by decide)) ⟨p552, by rw [e549, p553]; omega, by rw [e550, e549, p553]; omega, by rw [e551, e549]; omega⟩) e544 rfl rfl rfl ⟨by decide, by decide⟩ (Nat.le_of_ble_eq_true rfl) dX12_takeFact_141 ⟨(by decide), (by decide)⟩) (fun r554 h555 f557 K556 => ?_)
                          obtain ⟨O558, F559, f560, p561, p562, p563⟩ := K556
                          rw [e550, e549, p553] at p561
                          have e564 : Rv h528 a0 4 = v35 := ((fxR F532 e515 rfl).trans e520)
                          have e565 : Tg h491 v35 = 104100 := (fxT F495 e521)
                          have e566 : Iv h528 v35 v1.toNat = v40 := ((fxIa F532 e565 ar_104100 rfl).trans e522)
                          have e567 : Rv h528 a0 6 = v268 := ((fxR F532 e515 rfl).trans e537)
                          have e568 : Tg h491 v268 = 106102 := (fxT F495 e538)
                          have e569 : Jv h528 v268 v1.toNat = v272 := ((fxJa F532 e568 ar_106102 rfl).trans e539)
                          rw [e550, e564, e549, e566, e567, e569] at p562
                          obtain ⟨v570, e571⟩ : ∃ z, Iv h555 a0 7 = z := ⟨_, rfl⟩
                          have e572 : Tg h555 a0 = 12 := (fxT F559 e544)
                          have f573 := ok_I O558 e572 rI_12_7 e571
                          rw [e571, e549] at p563
                          refine g_if_eq C (iw f560 (by decide) (by decide)) 163 (by decide) dX12_takeFact_144 (fun q574 => ?_) (fun q575 => ?_)
                          · have f576 : (0 : Int) ≤ r554 ∧ r554 ≤ (0 : Int) := ii f560 (r_eq (il 0) q574) (by decide) (by decide)
                            have e577 : Iv h555 a0 7 = v1 := by rw [e571]; omega
                            refine g_aload_n C rfl 1 rfl dX12_takeFact_163 ?_
                            refine g_iload_n C rfl 0 rfl dX12_takeFact_164 ?_
                            refine g_if_eq C (iw (il 0) (by decide) (by decide)) 172 (by decide) dX12_takeFact_165 (fun q578 => ?_) (fun q579 => ?_)
                            · refine g_iconst C dX12_takeFact_172 ?_
                              refine g_iload_n C rfl 0 rfl dX12_takeFact_173 ?_
                              refine g_if_eq C (iw (il 0) (by decide) (by decide)) 190 (by decide) dX12_takeFact_174 (fun q580 => ?_) (fun q581 => ?_)
                              · refine g_iload_n C rfl 3 rfl dX12_takeFact_190 ?_
                                have e582 : Iv h555 a0 28 = v7 := ((fxI F559 e544 rfl).trans e551)
                                refine g_callV (st := []) (gc_V C lk_LandSurveyModel_395 (k_X12_emit l D cy w z0 O558 e572 (iw (il 2) (by decide) (by decide)) (iw f252 (by decide) (by decide)) (by rw [e582]; omega)) e572 rfl rfl rfl ⟨by decide, by decide⟩ (Nat.le_of_ble_eq_true rfl) dX12_takeFact_191 ⟨(by decide), (by decide)⟩) (fun h584 K585 => ?_)
                                obtain ⟨O587, F588, p589⟩ := K585
                                have e590 : Iv h584 a0 28 = v7 + 1 := by rw [p589.1, e582]
                                obtain ⟨v591, e592⟩ : ∃ z, Iv h584 a0 28 = z := ⟨_, rfl⟩
                                have e593 : Tg h584 a0 = 12 := (fxT F588 e572)
                                have f594 := ok_I O587 e593 rI_12_28 e592
                                rw [e592] at e590
                                have p595 : PUf h584 a0 (Iv h a0 28) := fun _ => PU_one p589 (e582.trans e8.symm) (by rw [e8]; omega) (by omega)
                                refine g_aload_n C rfl 1 rfl dX12_takeFact_194 ?_
                                refine g_dup C rfl dX12_takeFact_195 ?_
                                have e596 : Iv h584 a0 7 = v1 := ((fxI F588 e572 rfl).trans e577)
                                refine gf_I C fk_LandSurveyModel_317 rfl e593 e596 dX12_takeFact_196 ?_
                                refine g_iconst C dX12_takeFact_199 ?_
                                have f597 : (1 : Int) ≤ (v1 + 1) ∧ (v1 + 1) ≤ (1502 : Int) := ia_add f3 (il 1) (by decide) (by decide)
                                refine g_iadd C dX12_takeFact_200 ?_
                                refine gp_I C fk_LandSurveyModel_317 pk_LandSurveyModel_7 rfl e593 (iw f597 (by decide) (by decide)) (nf_i _) dX12_takeFact_201 (fun h599 hh598 => ?_)
                                have O600 := O587.pI e593 hh598 rI_12_7 (by omega) nofun
                                have e601 : Iv h599 a0 8 = v4 := ((pI_j hh598 (by decide)).trans ((fxI F588 e572 rfl).trans ((fxI F559 e544 rfl).trans e550)))
                                have e602 : Iv h599 a0 28 = v591 := ((pI_j hh598 (by decide)).trans e592)
                                have p603 := (TK_fx O587 ((Fx.rf (wr := [2407]) (h := h584)).pI e593 hh598 rfl) e593 rfl (TK_fx O558 F588 e572 rfl (TK_fx O531 F559 e544 rfl p552)))
                                have p604 := ((NT_fx O587 ((Fx.rf (wr := [2407]) (h := h584)).pI e593 hh598 rfl) e593 rfl).trans ((NT_fx O558 F588 e572 rfl).trans ((NT_fx O531 F559 e544 rfl).trans p553)))
                                have p605 := (CF.trans (CF.trans (CF.trans (CF.trans (CF.trans (CF.trans (CF.trans (CF.rf (h := h) (m := a0)) (CF_fx O F27 ta0 rfl)) (CF_fx O26 F264 e34 rfl)) (CF_fx O263 F495 e484 rfl)) (CF_fx O494 F532 e515 rfl)) (CF_fx O531 F559 e544 rfl)) (EM.cf p589)) (CF_fx O587 ((Fx.rf (wr := [2407]) (h := h584)).pI e593 hh598 rfl) e593 rfl))
                                have p606 := (PUf_fx O587 ((Fx.rf (wr := [2407]) (h := h584)).pI e593 hh598 rfl) e593 rfl p595)
                                exact g_vret C hr ⟨O600, ((((((((Fx.rf (wr := wr_k_takeFact_0)).call F27 rfl).call F264 rfl).call F495 rfl).call F532 rfl).call F559 rfl).call F588 rfl).pI e593 hh598 rfl), ⟨p603, by rw [(pI_e hh598), p604]; omega, by rw [e601, (pI_e hh598), p604]; omega, by rw [e602, (pI_e hh598)]; omega⟩, (by unfold ST; rw [e2, (pI_e hh598), e8, e602, e5, e601]; omega), p605, p606⟩ (by decide) (by decide) dX12_takeFact_204
                              · exact (no_ne (il 0) (il 0) q581 (by decide)).elim
                            · exact (no_ne (il 0) (il 0) q579 (by decide)).elim
                          · have f607 : (1 : Int) ≤ r554 ∧ r554 ≤ (1 : Int) := r_nl f560 q575
                            refine g_aload_n C rfl 1 rfl dX12_takeFact_147 ?_
                            refine g_iload_n C rfl 2 rfl dX12_takeFact_148 ?_
                            refine g_iconst C dX12_takeFact_149 ?_
                            have f608 : (1 : Int) ≤ (a1 + 1) ∧ (a1 + 1) ≤ (1 : Int) := ia_add fa1 (il 1) (by decide) (by decide)
                            refine g_iadd C dX12_takeFact_150 ?_
                            have e609 : Iv h555 a0 8 = v4 := ((fxI F559 e544 rfl).trans e550)
                            have e610 : Iv h555 a0 28 = v7 := ((fxI F559 e544 rfl).trans e551)
                            have p611 := (TK_fx O531 F559 e544 rfl p552)
                            have p612 := ((NT_fx O531 F559 e544 rfl).trans p553)
                            refine g_callV (st := []) (gc_V C lk_LandSurveyModel_392 (k_all_1 l D cy w z0 O558 e572 f608 ⟨p611, by rw [e571, p612]; omega, by rw [e609, e571, p612]; omega, by rw [e610, e571]; omega⟩) e572 rfl rfl rfl ⟨by decide, by decide⟩ (Nat.le_of_ble_eq_true rfl) dX12_takeFact_151 ⟨(by decide), (by decide)⟩) (fun h614 K615 => ?_)
                            obtain ⟨O617, F618, p619, p620, p621, p622⟩ := K615
                            obtain ⟨v623, e624⟩ : ∃ z, Iv h614 a0 7 = z := ⟨_, rfl⟩
                            have e625 : Tg h614 a0 = 12 := (fxT F618 e572)
                            have f626 := ok_I O617 e625 rI_12_7 e624
                            obtain ⟨v627, e628⟩ : ∃ z, Iv h614 a0 8 = z := ⟨_, rfl⟩
                            have f629 := ok_I O617 e625 rI_12_8 e628
                            obtain ⟨v630, e631⟩ : ∃ z, Iv h614 a0 28 = z := ⟨_, rfl⟩
                            have f632 := ok_I O617 e625 rI_12_28 e631
                            obtain ⟨p633, p634, p635, p636⟩ := p619
                            have p637 := ((NT_fx O558 F618 e572 rfl).trans p612)
                            rw [e624, p637] at p634
                            rw [e628, e624, p637] at p635
                            rw [e631, e624] at p636
                            have p638 := p620
                            unfold ST at p638
                            rw [e571, e624, e610, e631, e609, e628] at p638
                            refine g_aload_n C rfl 1 rfl dX12_takeFact_154 ?_
                            refine g_bipush C (by decide) dX12_takeFact_155 ?_
                            refine g_callV (st := []) (gc_V C lk_LandSurveyModel_380 (k_X12_takeSign l D cy w z0 O617 e625 (iw (il 41) (by decide) (by decide)) ⟨p633, by rw [e624, p637]; omega, by rw [e628, e624, p637]; omega, by rw [e631, e624]; omega⟩) e625 rfl rfl rfl ⟨by decide, by decide⟩ (Nat.le_of_ble_eq_true rfl) dX12_takeFact_157 ⟨(by decide), (by decide)⟩) (fun h640 K641 => ?_)
                            obtain ⟨O643, F644, p645, p646, p647⟩ := K641
                            obtain ⟨v648, e649⟩ : ∃ z, Iv h640 a0 7 = z := ⟨_, rfl⟩
                            have e650 : Tg h640 a0 = 12 := (fxT F644 e625)
                            have f651 := ok_I O643 e650 rI_12_7 e649
                            obtain ⟨v652, e653⟩ : ∃ z, Iv h640 a0 8 = z := ⟨_, rfl⟩
                            have f654 := ok_I O643 e650 rI_12_8 e653
                            have e655 : Iv h640 a0 28 = v630 := ((fxI F644 e625 rfl).trans e631)
                            obtain ⟨p656, p657, p658, p659⟩ := p645
                            have p660 := ((NT_fx O617 F644 e625 rfl).trans p637)
                            rw [e649, p660] at p657
                            rw [e653, e649, p660] at p658
                            rw [e655, e649] at p659
                            have p661 := p646
                            unfold ST at p661
                            rw [e624, e649, e631, e655, e628, e653] at p661
                            rw [e653, e649, e624] at p647
                            have p662 := (PUf_mono O617 F644 e625 rfl p646.2.2 p622)
                            have p663 : PUf h640 a0 (Iv h a0 28) := by rw [show Iv h a0 28 = Iv h555 a0 28 from e8.trans e610.symm]; exact p662
                            refine g_goto C 204 (by decide) dX12_takeFact_160 ?_
                            have p664 := (CF.trans (CF.trans (CF.trans (CF.trans (CF.trans (CF.trans (CF.trans (CF.rf (h := h) (m := a0)) (CF_fx O F27 ta0 rfl)) (CF_fx O26 F264 e34 rfl)) (CF_fx O263 F495 e484 rfl)) (CF_fx O494 F532 e515 rfl)) (CF_fx O531 F559 e544 rfl)) p621) (CF_fx O617 F644 e625 rfl))
                            exact g_vret C hr ⟨O643, ((((((((Fx.rf (wr := wr_k_takeFact_0)).call F27 rfl).call F264 rfl).call F495 rfl).call F532 rfl).call F559 rfl).call F618 rfl).call F644 rfl), ⟨p656, by rw [e649, p660]; omega, by rw [e653, e649, p660]; omega, by rw [e655, e649]; omega⟩, (by unfold ST; rw [e2, e649, e8, e655, e5, e653]; omega), p664, p663⟩ (by decide) (by decide) dX12_takeFact_204
                        · have f665 : (1 : Int) ≤ r527 ∧ r527 ≤ (1 : Int) := r_nl f533 q547
                          refine g_aload_n C rfl 1 rfl dX12_takeFact_122 ?_
                          refine g_iload_n C rfl 2 rfl dX12_takeFact_123 ?_
                          refine g_iconst C dX12_takeFact_124 ?_
                          have f666 : (1 : Int) ≤ (a1 + 1) ∧ (a1 + 1) ≤ (1 : Int) := ia_add fa1 (il 1) (by decide) (by decide)
                          refine g_iadd C dX12_takeFact_125 ?_
                          have e667 : Iv h528 a0 8 = v4 := ((fxI F532 e515 rfl).trans e516)
                          have e668 : Iv h528 a0 28 = v7 := ((fxI F532 e515 rfl).trans e526)
                          have p669 := (TK_fx O494 F532 e515 rfl p523)
                          have p670 := ((NT_fx O494 F532 e515 rfl).trans p524)
                          refine g_callV (st := []) (gc_V C lk_LandSurveyModel_408 (k_takeFact_1 l D cy w z0 O531 e544 f666 ⟨p669, by rw [e543, p670]; omega, by rw [e667, e543, p670]; omega, by rw [e668, e543]; omega⟩) e544 rfl rfl rfl ⟨by decide, by decide⟩ (Nat.le_of_ble_eq_true rfl) dX12_takeFact_126 ⟨(by decide), (by decide)⟩) (fun h672 K673 => ?_)
                          obtain ⟨O675, F676, p677, p678, p679, p680⟩ := K673
                          obtain ⟨v681, e682⟩ : ∃ z, Iv h672 a0 7 = z := ⟨_, rfl⟩
                          have e683 : Tg h672 a0 = 12 := (fxT F676 e544)
                          have f684 := ok_I O675 e683 rI_12_7 e682
                          obtain ⟨v685, e686⟩ : ∃ z, Iv h672 a0 8 = z := ⟨_, rfl⟩
                          have f687 := ok_I O675 e683 rI_12_8 e686
                          obtain ⟨v688, e689⟩ : ∃ z, Iv h672 a0 28 = z := ⟨_, rfl⟩
                          have f690 := ok_I O675 e683 rI_12_28 e689
                          obtain ⟨p691, p692, p693, p694⟩ := p677
                          have p695 := ((NT_fx O531 F676 e544 rfl).trans p670)
                          rw [e682, p695] at p692
                          rw [e686, e682, p695] at p693
                          rw [e689, e682] at p694
                          have p696 := p678
                          unfold ST at p696
                          rw [e543, e682, e668, e689, e667, e686] at p696
                          refine g_aload_n C rfl 1 rfl dX12_takeFact_129 ?_
                          refine g_iconst C dX12_takeFact_130 ?_
                          refine g_iconst C dX12_takeFact_131 ?_
                          refine g_callV (st := []) (gc_V C lk_LandSurveyModel_395 (k_X12_emit l D cy w z0 O675 e683 (iw (il 3) (by decide) (by decide)) (iw (il 0) (by decide) (by decide)) (by rw [e689]; omega)) e683 rfl rfl rfl ⟨by decide, by decide⟩ (Nat.le_of_ble_eq_true rfl) dX12_takeFact_132 ⟨(by decide), (by decide)⟩) (fun h698 K699 => ?_)
                          obtain ⟨O701, F702, p703⟩ := K699
                          have e704 : Iv h698 a0 28 = v688 + 1 := by rw [p703.1, e689]
                          obtain ⟨v705, e706⟩ : ∃ z, Iv h698 a0 28 = z := ⟨_, rfl⟩
                          have e707 : Tg h698 a0 = 12 := (fxT F702 e683)
                          have f708 := ok_I O701 e707 rI_12_28 e706
                          rw [e706] at e704
                          have p709 : PUf h698 a0 (Iv h a0 28) := PUf_neg p680 p703 (mIv (j := 8) F702 e683 rfl) (e668.trans e8.symm)
                          refine g_goto C 204 (by decide) dX12_takeFact_135 ?_
                          have e710 : Iv h698 a0 7 = v681 := ((fxI F702 e683 rfl).trans e682)
                          have e711 : Iv h698 a0 8 = v685 := ((fxI F702 e683 rfl).trans e686)
                          have p712 := (TK_fx O675 F702 e683 rfl p691)
                          have p713 := ((NT_fx O675 F702 e683 rfl).trans p695)
                          have p714 := (CF.trans (CF.trans (CF.trans (CF.trans (CF.trans (CF.trans (CF.rf (h := h) (m := a0)) (CF_fx O F27 ta0 rfl)) (CF_fx O26 F264 e34 rfl)) (CF_fx O263 F495 e484 rfl)) (CF_fx O494 F532 e515 rfl)) p679) (EM.cf p703))
                          exact g_vret C hr ⟨O701, (((((((Fx.rf (wr := wr_k_takeFact_0)).call F27 rfl).call F264 rfl).call F495 rfl).call F532 rfl).call F676 rfl).call F702 rfl), ⟨p712, by rw [e710, p713]; omega, by rw [e711, e710, p713]; omega, by rw [e706, e710]; omega⟩, (by unfold ST; rw [e2, e710, e8, e706, e5, e711]; omega), p714, p709⟩ (by decide) (by decide) dX12_takeFact_204
                      · exact (no_lt (il 0) f19 q518 (by decide)).elim
                    · exact (no_eq fa1 (il 4) q514 (by decide)).elim
                  · have f715 : (0 : Int) ≤ r490 ∧ r490 ≤ (0 : Int) := ii f496 (r_eq (il 0) q511) (by decide) (by decide)
                    refine g_aload_n C rfl 1 rfl dX12_takeFact_87 ?_
                    refine g_iconst C dX12_takeFact_88 ?_
                    have e716 : Tg h491 a0 = 12 := (fxT F495 e484)
                    refine g_callV (st := []) (gc_V C lk_LandSurveyModel_326 (k_X12_wrong l D cy w z0 O494 e716 (iw (il 1) (by decide) (by decide))) e716 rfl rfl rfl ⟨by decide, by decide⟩ (Nat.le_of_ble_eq_true rfl) dX12_takeFact_89 ⟨(by decide), (by decide)⟩) (fun h718 K719 => ?_)
                    obtain ⟨O721, F722, p723⟩ := K719
                    obtain ⟨v724, e725⟩ : ∃ z, Iv h718 a0 8 = z := ⟨_, rfl⟩
                    have e726 : Tg h718 a0 = 12 := (fxT F722 e716)
                    have f727 := ok_I O721 e726 rI_12_8 e725
                    rw [e725] at p723
                    have f728 : (1 : Int) ≤ v724 ∧ v724 ≤ (24005 : Int) := by omega
                    refine g_goto C 105 (by decide) dX12_takeFact_92 ?_
                    refine g_aload_n C rfl 1 rfl dX12_takeFact_105 ?_
                    refine gf_I C fk_LandSurveyModel_320 rfl e726 e725 dX12_takeFact_106 ?_
                    refine g_if_le C (iw f728 (by decide) (by decide)) 113 (by decide) dX12_takeFact_109 (fun q729 => ?_) (fun q730 => ?_)
                    · exact (no_le f728 (il 0) q729 (by decide)).elim
                    · have e731 : Iv h718 a0 7 = v1 := ((fxI F722 e716 rfl).trans ((fxI F495 e484 rfl).trans e485))
                      have e732 : Iv h718 a0 28 = v7 := ((fxI F722 e716 rfl).trans ((fxI F495 e484 rfl).trans e487))
                      have p733 := (TK_fx O494 F722 e716 rfl (TK_fx O263 F495 e484 rfl p488))
                      have p734 := ((NT_fx O494 F722 e716 rfl).trans ((NT_fx O263 F495 e484 rfl).trans p489))
                      have p735 := (CF.trans (CF.trans (CF.trans (CF.trans (CF.rf (h := h) (m := a0)) (CF_fx O F27 ta0 rfl)) (CF_fx O26 F264 e34 rfl)) (CF_fx O263 F495 e484 rfl)) (CF_fx O494 F722 e716 rfl))
                      exact g_vret C hr ⟨O721, (((((Fx.rf (wr := wr_k_takeFact_0)).call F27 rfl).call F264 rfl).call F495 rfl).call F722 rfl), ⟨p733, by rw [e731, p734]; omega, by rw [e725, e731, p734]; omega, by rw [e732, e731]; omega⟩, (by unfold ST; rw [e2, e731, e8, e732, e5, e725]; omega), p735, (fun z => by rw [e725] at z; omega)⟩ (by decide) (by decide) dX12_takeFact_112
          · have f736 : (2 : Int) ≤ v40 ∧ v40 ≤ (2 : Int) := ii f42 (r_eq (il 2) q44) (by decide) (by decide)
            refine g_iconst C dX12_takeFact_55 ?_
            refine g_goto C 60 (by decide) dX12_takeFact_56 ?_
            refine g_istore_n C [(3, .inl 1), (0, .inr (.inr a0)), (1, .inl a1), (2, .inl x20)] rfl (by decide) rfl dX12_takeFact_60 ?_
            refine g_iload_n C rfl 3 rfl dX12_takeFact_61 ?_
            refine g_if_ge C (iw f28 (by decide) (by decide)) 95 (by decide) dX12_takeFact_62 (fun q737 => ?_) (fun q738 => ?_)
            · have f739 : (0 : Int) ≤ x20 ∧ x20 ≤ (11 : Int) := r_ge f28 (il 0) q737 (by decide) (by decide)
              refine g_iload_n C rfl 2 rfl dX12_takeFact_95 ?_
              refine g_iconst C dX12_takeFact_96 ?_
              refine g_icmp_ne C (iw fa1 (by decide) (by decide)) (iw (il 4) (by decide) (by decide)) 105 (by decide) dX12_takeFact_97 (fun q740 => ?_) (fun q741 => ?_)
              · refine g_aload_n C rfl 1 rfl dX12_takeFact_105 ?_
                have e742 : Iv h22 a0 8 = v4 := ((fxI F27 ta0 rfl).trans e5)
                refine gf_I C fk_LandSurveyModel_320 rfl e34 e742 dX12_takeFact_106 ?_
                refine g_if_le C (iw f19 (by decide) (by decide)) 113 (by decide) dX12_takeFact_109 (fun q743 => ?_) (fun q744 => ?_)
                · have p745 := (TK_fx O F27 ta0 rfl p10)
                  have p746 := ((NT_fx O F27 ta0 rfl).trans e15)
                  have z747 : ¬ v40 = 0 → v1 < v14 := fun hs => NT_lt p745 p746 (a := v1) (by omega) (by omega) (by rw [e36, e41]; exact hs)
                  refine g_aload_n C rfl 1 rfl dX12_takeFact_113 ?_
                  refine g_bipush C (by decide) dX12_takeFact_114 ?_
                  have e748 : Iv h22 a0 28 = v7 := ((fxI F27 ta0 rfl).trans e8)
                  refine g_callI (st := []) (gc_V C lk_LandSurveyModel_333 (k_X12_hasWord l D cy w z0 O26 e34 (iw (il 17) (by decide) (by decide)) ⟨p745, by rw [e39, p746]; omega, by rw [e742, e39, p746]; omega, by rw [e748, e39]; omega⟩) e34 rfl rfl rfl ⟨by decide, by decide⟩ (Nat.le_of_ble_eq_true rfl) dX12_takeFact_116 ⟨(by decide), (by decide)⟩) (fun r749 h750 f752 K751 => ?_)
                  obtain ⟨O753, F754, f755, p756, p757, p758⟩ := K751
                  rw [e742, e39, p746] at p756
                  obtain ⟨v759, e760⟩ : ∃ z, Rv h22 a0 6 = z := ⟨_, rfl⟩
                  have t761 := ok_R O26 e34 rE_12_6 e760
                  have l762 := ok_L O26 e34 rE_12_6 e760
                  obtain ⟨v763, e764⟩ : ∃ z, Jv h22 v759 v1.toNat = z := ⟨_, rfl⟩
                  have f765 := inL_J O26 e764
                  obtain ⟨v766, e767⟩ : ∃ z, Rv h22 a0 9 = z := ⟨_, rfl⟩
                  have t768 := ok_R O26 e34 rE_12_9 e767
                  have l769 := ok_L O26 e34 rE_12_9 e767
                  obtain ⟨v770, e771⟩ : ∃ z, Jv h22 v766 ((17 : Int).toNat) = z := ⟨_, rfl⟩
                  have f772 := inL_J O26 e771
                  rw [e742, e36, e39, e41, e760, e764, e767, e771] at p757
                  obtain ⟨v773, e774⟩ : ∃ z, Iv h750 a0 7 = z := ⟨_, rfl⟩
                  have e775 : Tg h750 a0 = 12 := (fxT F754 e34)
                  have f776 := ok_I O753 e775 rI_12_7 e774
                  rw [e774, e39] at p758
                  refine g_if_eq C (iw f755 (by decide) (by decide)) 138 (by decide) dX12_takeFact_119 (fun q777 => ?_) (fun q778 => ?_)
                  · have f779 : (0 : Int) ≤ r749 ∧ r749 ≤ (0 : Int) := ii f755 (r_eq (il 0) q777) (by decide) (by decide)
                    have e780 : Iv h750 a0 7 = v1 := by rw [e774]; omega
                    refine g_aload_n C rfl 1 rfl dX12_takeFact_138 ?_
                    refine g_bipush C (by decide) dX12_takeFact_139 ?_
                    have e781 : Iv h750 a0 8 = v4 := ((fxI F754 e34 rfl).trans e742)
                    have e782 : Iv h750 a0 28 = v7 := ((fxI F754 e34 rfl).trans e748)
                    have p783 := (TK_fx O26 F754 e34 rfl p745)
                    have p784 := ((NT_fx O26 F754 e34 rfl).trans p746)
                    refine g_callI (st := []) (gc_V C lk_LandSurveyModel_405 (k_X12_hasSign l D cy w z0 O753 e775 (iw (il 40) (by decide) (by decide)) ⟨p783, by rw [e780, p784]; omega, by rw [e781, e780, p784]; omega, by rw [e782, e780]; omega⟩) e775 rfl rfl rfl ⟨by decide, by decide⟩ (Nat.le_of_ble_eq_true rfl) dX12_takeFact_141 ⟨(by decide), (by decide)⟩) (fun r785 h786 f788 K787 => ?_)
                    obtain ⟨O789, F790, f791, p792, p793, p794⟩ := K787
                    rw [e781, e780, p784] at p792
                    have e795 : Rv h750 a0 4 = v35 := ((fxR F754 e34 rfl).trans e36)
                    have e796 : Iv h750 v35 v1.toNat = v40 := ((fxIa F754 t37 ar_104100 rfl).trans e41)
                    have e797 : Rv h750 a0 6 = v759 := ((fxR F754 e34 rfl).trans e760)
                    have e798 : Jv h750 v759 v1.toNat = v763 := ((fxJa F754 t761 ar_106102 rfl).trans e764)
                    rw [e781, e795, e780, e796, e797, e798] at p793
                    obtain ⟨v799, e800⟩ : ∃ z, Iv h786 a0 7 = z := ⟨_, rfl⟩
                    have e801 : Tg h786 a0 = 12 := (fxT F790 e775)
                    have f802 := ok_I O789 e801 rI_12_7 e800
                    rw [e800, e780] at p794
                    refine g_if_eq C (iw f791 (by decide) (by decide)) 163 (by decide) dX12_takeFact_144 (fun q803 => ?_) (fun q804 => ?_)
                    · have f805 : (0 : Int) ≤ r785 ∧ r785 ≤ (0 : Int) := ii f791 (r_eq (il 0) q803) (by decide) (by decide)
                      have e806 : Iv h786 a0 7 = v1 := by rw [e800]; omega
                      refine g_aload_n C rfl 1 rfl dX12_takeFact_163 ?_
                      refine g_iload_n C rfl 0 rfl dX12_takeFact_164 ?_
                      refine g_if_eq C (iw (il 1) (by decide) (by decide)) 172 (by decide) dX12_takeFact_165 (fun q807 => ?_) (fun q808 => ?_)
                      · exact (no_eq (il 1) (il 0) q807 (by decide)).elim
                      · refine g_iconst C dX12_takeFact_168 ?_
                        refine g_goto C 173 (by decide) dX12_takeFact_169 ?_
                        refine g_iload_n C rfl 0 rfl dX12_takeFact_173 ?_
                        refine g_if_eq C (iw (il 1) (by decide) (by decide)) 190 (by decide) dX12_takeFact_174 (fun q809 => ?_) (fun q810 => ?_)
                        · exact (no_eq (il 1) (il 0) q809 (by decide)).elim
                        · refine g_aload_n C rfl 1 rfl dX12_takeFact_177 ?_
                          have e811 : Rv h786 a0 6 = v759 := ((fxR F790 e775 rfl).trans e797)
                          refine gf_R C fk_LandSurveyModel_30 rfl e801 e811 dX12_takeFact_178 ?_
                          refine g_aload_n C rfl 1 rfl dX12_takeFact_181 ?_
                          refine gf_I C fk_LandSurveyModel_317 rfl e801 e806 dX12_takeFact_182 ?_
                          have e812 : Tg h786 v759 = 106102 := (fxT F790 (fxT F754 t761))
                          have e813 : Tg h750 v759 = 106102 := (fxT F754 t761)
                          have e814 : Ln h786 v759 = 1502 := ((fxL F790 e813).trans ((fxL F754 t761).trans l762))
                          have e815 : Jv h786 v759 v1.toNat = v763 := ((fxJa F790 e813 ar_106102 rfl).trans e798)
                          refine g_lald C e812 rfl e814 (ix f3 (by decide) (by decide)) e815 dX12_takeFact_185 ?_
                          refine g_l2i C dX12_takeFact_186 ?_
                          have f816 : (-2147483648 : Int) ≤ (l2w v763) ∧ (l2w v763) ≤ (2147483647 : Int) := inR_of _
                          refine g_goto C 191 (by decide) dX12_takeFact_187 ?_
                          have e817 : Iv h786 a0 28 = v7 := ((fxI F790 e775 rfl).trans e782)
                          refine g_callV (st := []) (gc_V C lk_LandSurveyModel_395 (k_X12_emit l D cy w z0 O789 e801 (iw (il 1) (by decide) (by decide)) f816 (by rw [e817]; omega)) e801 rfl rfl rfl ⟨by decide, by decide⟩ (Nat.le_of_ble_eq_true rfl) dX12_takeFact_191 ⟨(by decide), (by decide)⟩) (fun h819 K820 => ?_)
                          obtain ⟨O822, F823, p824⟩ := K820
                          have e825 : Iv h819 a0 28 = v7 + 1 := by rw [p824.1, e817]
                          obtain ⟨v826, e827⟩ : ∃ z, Iv h819 a0 28 = z := ⟨_, rfl⟩
                          have e828 : Tg h819 a0 = 12 := (fxT F823 e801)
                          have f829 := ok_I O822 e828 rI_12_28 e827
                          rw [e827] at e825
                          have p830 : PUf h819 a0 (Iv h a0 28) := fun _ => PU_one p824 (e817.trans e8.symm) (by rw [e8]; omega) (by omega)
                          refine g_aload_n C rfl 1 rfl dX12_takeFact_194 ?_
                          refine g_dup C rfl dX12_takeFact_195 ?_
                          have e831 : Iv h819 a0 7 = v1 := ((fxI F823 e801 rfl).trans e806)
                          refine gf_I C fk_LandSurveyModel_317 rfl e828 e831 dX12_takeFact_196 ?_
                          refine g_iconst C dX12_takeFact_199 ?_
                          have f832 : (1 : Int) ≤ (v1 + 1) ∧ (v1 + 1) ≤ (1502 : Int) := ia_add f3 (il 1) (by decide) (by decide)
                          refine g_iadd C dX12_takeFact_200 ?_
                          refine gp_I C fk_LandSurveyModel_317 pk_LandSurveyModel_7 rfl e828 (iw f832 (by decide) (by decide)) (nf_i _) dX12_takeFact_201 (fun h834 hh833 => ?_)
                          have O835 := O822.pI e828 hh833 rI_12_7 (by omega) nofun
                          have e836 : Iv h834 a0 8 = v4 := ((pI_j hh833 (by decide)).trans ((fxI F823 e801 rfl).trans ((fxI F790 e775 rfl).trans e781)))
                          have e837 : Iv h834 a0 28 = v826 := ((pI_j hh833 (by decide)).trans e827)
                          have p838 := (TK_fx O822 ((Fx.rf (wr := [2407]) (h := h819)).pI e828 hh833 rfl) e828 rfl (TK_fx O789 F823 e801 rfl (TK_fx O753 F790 e775 rfl p783)))
                          have p839 := ((NT_fx O822 ((Fx.rf (wr := [2407]) (h := h819)).pI e828 hh833 rfl) e828 rfl).trans ((NT_fx O789 F823 e801 rfl).trans ((NT_fx O753 F790 e775 rfl).trans p784)))
                          have p840 := (CF.trans (CF.trans (CF.trans (CF.trans (CF.trans (CF.rf (h := h) (m := a0)) (CF_fx O F27 ta0 rfl)) (CF_fx O26 F754 e34 rfl)) (CF_fx O753 F790 e775 rfl)) (EM.cf p824)) (CF_fx O822 ((Fx.rf (wr := [2407]) (h := h819)).pI e828 hh833 rfl) e828 rfl))
                          have p841 := (PUf_fx O822 ((Fx.rf (wr := [2407]) (h := h819)).pI e828 hh833 rfl) e828 rfl p830)
                          exact g_vret C hr ⟨O835, ((((((Fx.rf (wr := wr_k_takeFact_0)).call F27 rfl).call F754 rfl).call F790 rfl).call F823 rfl).pI e828 hh833 rfl), ⟨p838, by rw [(pI_e hh833), p839]; omega, by rw [e836, (pI_e hh833), p839]; omega, by rw [e837, (pI_e hh833)]; omega⟩, (by unfold ST; rw [e2, (pI_e hh833), e8, e837, e5, e836]; omega), p840, p841⟩ (by decide) (by decide) dX12_takeFact_204
                    · have f842 : (1 : Int) ≤ r785 ∧ r785 ≤ (1 : Int) := r_nl f791 q804
                      refine g_aload_n C rfl 1 rfl dX12_takeFact_147 ?_
                      refine g_iload_n C rfl 2 rfl dX12_takeFact_148 ?_
                      refine g_iconst C dX12_takeFact_149 ?_
                      have f843 : (1 : Int) ≤ (a1 + 1) ∧ (a1 + 1) ≤ (1 : Int) := ia_add fa1 (il 1) (by decide) (by decide)
                      refine g_iadd C dX12_takeFact_150 ?_
                      have e844 : Iv h786 a0 8 = v4 := ((fxI F790 e775 rfl).trans e781)
                      have e845 : Iv h786 a0 28 = v7 := ((fxI F790 e775 rfl).trans e782)
                      have p846 := (TK_fx O753 F790 e775 rfl p783)
                      have p847 := ((NT_fx O753 F790 e775 rfl).trans p784)
                      refine g_callV (st := []) (gc_V C lk_LandSurveyModel_392 (k_all_1 l D cy w z0 O789 e801 f843 ⟨p846, by rw [e800, p847]; omega, by rw [e844, e800, p847]; omega, by rw [e845, e800]; omega⟩) e801 rfl rfl rfl ⟨by decide, by decide⟩ (Nat.le_of_ble_eq_true rfl) dX12_takeFact_151 ⟨(by decide), (by decide)⟩) (fun h849 K850 => ?_)
                      obtain ⟨O852, F853, p854, p855, p856, p857⟩ := K850
                      obtain ⟨v858, e859⟩ : ∃ z, Iv h849 a0 7 = z := ⟨_, rfl⟩
                      have e860 : Tg h849 a0 = 12 := (fxT F853 e801)
                      have f861 := ok_I O852 e860 rI_12_7 e859
                      obtain ⟨v862, e863⟩ : ∃ z, Iv h849 a0 8 = z := ⟨_, rfl⟩
                      have f864 := ok_I O852 e860 rI_12_8 e863
                      obtain ⟨v865, e866⟩ : ∃ z, Iv h849 a0 28 = z := ⟨_, rfl⟩
                      have f867 := ok_I O852 e860 rI_12_28 e866
                      obtain ⟨p868, p869, p870, p871⟩ := p854
                      have p872 := ((NT_fx O789 F853 e801 rfl).trans p847)
                      rw [e859, p872] at p869
                      rw [e863, e859, p872] at p870
                      rw [e866, e859] at p871
                      have p873 := p855
                      unfold ST at p873
                      rw [e800, e859, e845, e866, e844, e863] at p873
                      refine g_aload_n C rfl 1 rfl dX12_takeFact_154 ?_
                      refine g_bipush C (by decide) dX12_takeFact_155 ?_
                      refine g_callV (st := []) (gc_V C lk_LandSurveyModel_380 (k_X12_takeSign l D cy w z0 O852 e860 (iw (il 41) (by decide) (by decide)) ⟨p868, by rw [e859, p872]; omega, by rw [e863, e859, p872]; omega, by rw [e866, e859]; omega⟩) e860 rfl rfl rfl ⟨by decide, by decide⟩ (Nat.le_of_ble_eq_true rfl) dX12_takeFact_157 ⟨(by decide), (by decide)⟩) (fun h875 K876 => ?_)
                      obtain ⟨O878, F879, p880, p881, p882⟩ := K876
                      obtain ⟨v883, e884⟩ : ∃ z, Iv h875 a0 7 = z := ⟨_, rfl⟩
                      have e885 : Tg h875 a0 = 12 := (fxT F879 e860)
                      have f886 := ok_I O878 e885 rI_12_7 e884
                      obtain ⟨v887, e888⟩ : ∃ z, Iv h875 a0 8 = z := ⟨_, rfl⟩
                      have f889 := ok_I O878 e885 rI_12_8 e888
                      have e890 : Iv h875 a0 28 = v865 := ((fxI F879 e860 rfl).trans e866)
                      obtain ⟨p891, p892, p893, p894⟩ := p880
                      have p895 := ((NT_fx O852 F879 e860 rfl).trans p872)
                      rw [e884, p895] at p892
                      rw [e888, e884, p895] at p893
                      rw [e890, e884] at p894
                      have p896 := p881
                      unfold ST at p896
                      rw [e859, e884, e866, e890, e863, e888] at p896
                      rw [e888, e884, e859] at p882
                      have p897 := (PUf_mono O852 F879 e860 rfl p881.2.2 p857)
                      have p898 : PUf h875 a0 (Iv h a0 28) := by rw [show Iv h a0 28 = Iv h786 a0 28 from e8.trans e845.symm]; exact p897
                      refine g_goto C 204 (by decide) dX12_takeFact_160 ?_
                      have p899 := (CF.trans (CF.trans (CF.trans (CF.trans (CF.trans (CF.rf (h := h) (m := a0)) (CF_fx O F27 ta0 rfl)) (CF_fx O26 F754 e34 rfl)) (CF_fx O753 F790 e775 rfl)) p856) (CF_fx O852 F879 e860 rfl))
                      exact g_vret C hr ⟨O878, ((((((Fx.rf (wr := wr_k_takeFact_0)).call F27 rfl).call F754 rfl).call F790 rfl).call F853 rfl).call F879 rfl), ⟨p891, by rw [e884, p895]; omega, by rw [e888, e884, p895]; omega, by rw [e890, e884]; omega⟩, (by unfold ST; rw [e2, e884, e8, e890, e5, e888]; omega), p899, p898⟩ (by decide) (by decide) dX12_takeFact_204
                  · have f900 : (1 : Int) ≤ r749 ∧ r749 ≤ (1 : Int) := r_nl f755 q778
                    refine g_aload_n C rfl 1 rfl dX12_takeFact_122 ?_
                    refine g_iload_n C rfl 2 rfl dX12_takeFact_123 ?_
                    refine g_iconst C dX12_takeFact_124 ?_
                    have f901 : (1 : Int) ≤ (a1 + 1) ∧ (a1 + 1) ≤ (1 : Int) := ia_add fa1 (il 1) (by decide) (by decide)
                    refine g_iadd C dX12_takeFact_125 ?_
                    have e902 : Iv h750 a0 8 = v4 := ((fxI F754 e34 rfl).trans e742)
                    have e903 : Iv h750 a0 28 = v7 := ((fxI F754 e34 rfl).trans e748)
                    have p904 := (TK_fx O26 F754 e34 rfl p745)
                    have p905 := ((NT_fx O26 F754 e34 rfl).trans p746)
                    refine g_callV (st := []) (gc_V C lk_LandSurveyModel_408 (k_takeFact_1 l D cy w z0 O753 e775 f901 ⟨p904, by rw [e774, p905]; omega, by rw [e902, e774, p905]; omega, by rw [e903, e774]; omega⟩) e775 rfl rfl rfl ⟨by decide, by decide⟩ (Nat.le_of_ble_eq_true rfl) dX12_takeFact_126 ⟨(by decide), (by decide)⟩) (fun h907 K908 => ?_)
                    obtain ⟨O910, F911, p912, p913, p914, p915⟩ := K908
                    obtain ⟨v916, e917⟩ : ∃ z, Iv h907 a0 7 = z := ⟨_, rfl⟩
                    have e918 : Tg h907 a0 = 12 := (fxT F911 e775)
                    have f919 := ok_I O910 e918 rI_12_7 e917
                    obtain ⟨v920, e921⟩ : ∃ z, Iv h907 a0 8 = z := ⟨_, rfl⟩
                    have f922 := ok_I O910 e918 rI_12_8 e921
                    obtain ⟨v923, e924⟩ : ∃ z, Iv h907 a0 28 = z := ⟨_, rfl⟩
                    have f925 := ok_I O910 e918 rI_12_28 e924
                    obtain ⟨p926, p927, p928, p929⟩ := p912
                    have p930 := ((NT_fx O753 F911 e775 rfl).trans p905)
                    rw [e917, p930] at p927
                    rw [e921, e917, p930] at p928
                    rw [e924, e917] at p929
                    have p931 := p913
                    unfold ST at p931
                    rw [e774, e917, e903, e924, e902, e921] at p931
                    refine g_aload_n C rfl 1 rfl dX12_takeFact_129 ?_
                    refine g_iconst C dX12_takeFact_130 ?_
                    refine g_iconst C dX12_takeFact_131 ?_
                    refine g_callV (st := []) (gc_V C lk_LandSurveyModel_395 (k_X12_emit l D cy w z0 O910 e918 (iw (il 3) (by decide) (by decide)) (iw (il 0) (by decide) (by decide)) (by rw [e924]; omega)) e918 rfl rfl rfl ⟨by decide, by decide⟩ (Nat.le_of_ble_eq_true rfl) dX12_takeFact_132 ⟨(by decide), (by decide)⟩) (fun h933 K934 => ?_)
                    obtain ⟨O936, F937, p938⟩ := K934
                    have e939 : Iv h933 a0 28 = v923 + 1 := by rw [p938.1, e924]
                    obtain ⟨v940, e941⟩ : ∃ z, Iv h933 a0 28 = z := ⟨_, rfl⟩
                    have e942 : Tg h933 a0 = 12 := (fxT F937 e918)
                    have f943 := ok_I O936 e942 rI_12_28 e941
                    rw [e941] at e939
                    have p944 : PUf h933 a0 (Iv h a0 28) := PUf_neg p915 p938 (mIv (j := 8) F937 e918 rfl) (e903.trans e8.symm)
                    refine g_goto C 204 (by decide) dX12_takeFact_135 ?_
                    have e945 : Iv h933 a0 7 = v916 := ((fxI F937 e918 rfl).trans e917)
                    have e946 : Iv h933 a0 8 = v920 := ((fxI F937 e918 rfl).trans e921)
                    have p947 := (TK_fx O910 F937 e918 rfl p926)
                    have p948 := ((NT_fx O910 F937 e918 rfl).trans p930)
                    have p949 := (CF.trans (CF.trans (CF.trans (CF.trans (CF.rf (h := h) (m := a0)) (CF_fx O F27 ta0 rfl)) (CF_fx O26 F754 e34 rfl)) p914) (EM.cf p938))
                    exact g_vret C hr ⟨O936, (((((Fx.rf (wr := wr_k_takeFact_0)).call F27 rfl).call F754 rfl).call F911 rfl).call F937 rfl), ⟨p947, by rw [e945, p948]; omega, by rw [e946, e945, p948]; omega, by rw [e941, e945]; omega⟩, (by unfold ST; rw [e2, e945, e8, e941, e5, e946]; omega), p949, p944⟩ (by decide) (by decide) dX12_takeFact_204
                · exact (no_lt (il 0) f19 q744 (by decide)).elim
              · exact (no_eq fa1 (il 4) q741 (by decide)).elim
            · have f950 : (-1 : Int) ≤ x20 ∧ x20 ≤ (-1 : Int) := r_lt f28 (il 0) q738 (by decide) (by decide)
              refine g_iload_n C rfl 0 rfl dX12_takeFact_65 ?_
              refine g_if_ne C (iw (il 1) (by decide) (by decide)) 95 (by decide) dX12_takeFact_66 (fun q951 => ?_) (fun q952 => ?_)
              · refine g_iload_n C rfl 2 rfl dX12_takeFact_95 ?_
                refine g_iconst C dX12_takeFact_96 ?_
                refine g_icmp_ne C (iw fa1 (by decide) (by decide)) (iw (il 4) (by decide) (by decide)) 105 (by decide) dX12_takeFact_97 (fun q953 => ?_) (fun q954 => ?_)
                · refine g_aload_n C rfl 1 rfl dX12_takeFact_105 ?_
                  have e955 : Iv h22 a0 8 = v4 := ((fxI F27 ta0 rfl).trans e5)
                  refine gf_I C fk_LandSurveyModel_320 rfl e34 e955 dX12_takeFact_106 ?_
                  refine g_if_le C (iw f19 (by decide) (by decide)) 113 (by decide) dX12_takeFact_109 (fun q956 => ?_) (fun q957 => ?_)
                  · have p958 := (TK_fx O F27 ta0 rfl p10)
                    have p959 := ((NT_fx O F27 ta0 rfl).trans e15)
                    have z960 : ¬ v40 = 0 → v1 < v14 := fun hs => NT_lt p958 p959 (a := v1) (by omega) (by omega) (by rw [e36, e41]; exact hs)
                    refine g_aload_n C rfl 1 rfl dX12_takeFact_113 ?_
                    refine g_bipush C (by decide) dX12_takeFact_114 ?_
                    have e961 : Iv h22 a0 28 = v7 := ((fxI F27 ta0 rfl).trans e8)
                    refine g_callI (st := []) (gc_V C lk_LandSurveyModel_333 (k_X12_hasWord l D cy w z0 O26 e34 (iw (il 17) (by decide) (by decide)) ⟨p958, by rw [e39, p959]; omega, by rw [e955, e39, p959]; omega, by rw [e961, e39]; omega⟩) e34 rfl rfl rfl ⟨by decide, by decide⟩ (Nat.le_of_ble_eq_true rfl) dX12_takeFact_116 ⟨(by decide), (by decide)⟩) (fun r962 h963 f965 K964 => ?_)
                    obtain ⟨O966, F967, f968, p969, p970, p971⟩ := K964
                    rw [e955, e39, p959] at p969
                    obtain ⟨v972, e973⟩ : ∃ z, Rv h22 a0 6 = z := ⟨_, rfl⟩
                    have t974 := ok_R O26 e34 rE_12_6 e973
                    have l975 := ok_L O26 e34 rE_12_6 e973
                    obtain ⟨v976, e977⟩ : ∃ z, Jv h22 v972 v1.toNat = z := ⟨_, rfl⟩
                    have f978 := inL_J O26 e977
                    obtain ⟨v979, e980⟩ : ∃ z, Rv h22 a0 9 = z := ⟨_, rfl⟩
                    have t981 := ok_R O26 e34 rE_12_9 e980
                    have l982 := ok_L O26 e34 rE_12_9 e980
                    obtain ⟨v983, e984⟩ : ∃ z, Jv h22 v979 ((17 : Int).toNat) = z := ⟨_, rfl⟩
                    have f985 := inL_J O26 e984
                    rw [e955, e36, e39, e41, e973, e977, e980, e984] at p970
                    obtain ⟨v986, e987⟩ : ∃ z, Iv h963 a0 7 = z := ⟨_, rfl⟩
                    have e988 : Tg h963 a0 = 12 := (fxT F967 e34)
                    have f989 := ok_I O966 e988 rI_12_7 e987
                    rw [e987, e39] at p971
                    refine g_if_eq C (iw f968 (by decide) (by decide)) 138 (by decide) dX12_takeFact_119 (fun q990 => ?_) (fun q991 => ?_)
                    · have f992 : (0 : Int) ≤ r962 ∧ r962 ≤ (0 : Int) := ii f968 (r_eq (il 0) q990) (by decide) (by decide)
                      have e993 : Iv h963 a0 7 = v1 := by rw [e987]; omega
                      refine g_aload_n C rfl 1 rfl dX12_takeFact_138 ?_
                      refine g_bipush C (by decide) dX12_takeFact_139 ?_
                      have e994 : Iv h963 a0 8 = v4 := ((fxI F967 e34 rfl).trans e955)
                      have e995 : Iv h963 a0 28 = v7 := ((fxI F967 e34 rfl).trans e961)
                      have p996 := (TK_fx O26 F967 e34 rfl p958)
                      have p997 := ((NT_fx O26 F967 e34 rfl).trans p959)
                      refine g_callI (st := []) (gc_V C lk_LandSurveyModel_405 (k_X12_hasSign l D cy w z0 O966 e988 (iw (il 40) (by decide) (by decide)) ⟨p996, by rw [e993, p997]; omega, by rw [e994, e993, p997]; omega, by rw [e995, e993]; omega⟩) e988 rfl rfl rfl ⟨by decide, by decide⟩ (Nat.le_of_ble_eq_true rfl) dX12_takeFact_141 ⟨(by decide), (by decide)⟩) (fun r998 h999 f1001 K1000 => ?_)
                      obtain ⟨O1002, F1003, f1004, p1005, p1006, p1007⟩ := K1000
                      rw [e994, e993, p997] at p1005
                      have e1008 : Rv h963 a0 4 = v35 := ((fxR F967 e34 rfl).trans e36)
                      have e1009 : Iv h963 v35 v1.toNat = v40 := ((fxIa F967 t37 ar_104100 rfl).trans e41)
                      have e1010 : Rv h963 a0 6 = v972 := ((fxR F967 e34 rfl).trans e973)
                      have e1011 : Jv h963 v972 v1.toNat = v976 := ((fxJa F967 t974 ar_106102 rfl).trans e977)
                      rw [e994, e1008, e993, e1009, e1010, e1011] at p1006
                      obtain ⟨v1012, e1013⟩ : ∃ z, Iv h999 a0 7 = z := ⟨_, rfl⟩
                      have e1014 : Tg h999 a0 = 12 := (fxT F1003 e988)
                      have f1015 := ok_I O1002 e1014 rI_12_7 e1013
                      rw [e1013, e993] at p1007
                      refine g_if_eq C (iw f1004 (by decide) (by decide)) 163 (by decide) dX12_takeFact_144 (fun q1016 => ?_) (fun q1017 => ?_)
                      · have f1018 : (0 : Int) ≤ r998 ∧ r998 ≤ (0 : Int) := ii f1004 (r_eq (il 0) q1016) (by decide) (by decide)
                        have e1019 : Iv h999 a0 7 = v1 := by rw [e1013]; omega
                        refine g_aload_n C rfl 1 rfl dX12_takeFact_163 ?_
                        refine g_iload_n C rfl 0 rfl dX12_takeFact_164 ?_
                        refine g_if_eq C (iw (il 1) (by decide) (by decide)) 172 (by decide) dX12_takeFact_165 (fun q1020 => ?_) (fun q1021 => ?_)
                        · exact (no_eq (il 1) (il 0) q1020 (by decide)).elim
                        · refine g_iconst C dX12_takeFact_168 ?_
                          refine g_goto C 173 (by decide) dX12_takeFact_169 ?_
                          refine g_iload_n C rfl 0 rfl dX12_takeFact_173 ?_
                          refine g_if_eq C (iw (il 1) (by decide) (by decide)) 190 (by decide) dX12_takeFact_174 (fun q1022 => ?_) (fun q1023 => ?_)
                          · exact (no_eq (il 1) (il 0) q1022 (by decide)).elim
                          · refine g_aload_n C rfl 1 rfl dX12_takeFact_177 ?_
                            have e1024 : Rv h999 a0 6 = v972 := ((fxR F1003 e988 rfl).trans e1010)
                            refine gf_R C fk_LandSurveyModel_30 rfl e1014 e1024 dX12_takeFact_178 ?_
                            refine g_aload_n C rfl 1 rfl dX12_takeFact_181 ?_
                            refine gf_I C fk_LandSurveyModel_317 rfl e1014 e1019 dX12_takeFact_182 ?_
                            have e1025 : Tg h999 v972 = 106102 := (fxT F1003 (fxT F967 t974))
                            have e1026 : Tg h963 v972 = 106102 := (fxT F967 t974)
                            have e1027 : Ln h999 v972 = 1502 := ((fxL F1003 e1026).trans ((fxL F967 t974).trans l975))
                            have e1028 : Jv h999 v972 v1.toNat = v976 := ((fxJa F1003 e1026 ar_106102 rfl).trans e1011)
                            refine g_lald C e1025 rfl e1027 (ix f3 (by decide) (by decide)) e1028 dX12_takeFact_185 ?_
                            refine g_l2i C dX12_takeFact_186 ?_
                            have f1029 : (-2147483648 : Int) ≤ (l2w v976) ∧ (l2w v976) ≤ (2147483647 : Int) := inR_of _
                            refine g_goto C 191 (by decide) dX12_takeFact_187 ?_
                            have e1030 : Iv h999 a0 28 = v7 := ((fxI F1003 e988 rfl).trans e995)
                            refine g_callV (st := []) (gc_V C lk_LandSurveyModel_395 (k_X12_emit l D cy w z0 O1002 e1014 (iw (il 1) (by decide) (by decide)) f1029 (by rw [e1030]; omega)) e1014 rfl rfl rfl ⟨by decide, by decide⟩ (Nat.le_of_ble_eq_true rfl) dX12_takeFact_191 ⟨(by decide), (by decide)⟩) (fun h1032 K1033 => ?_)
                            obtain ⟨O1035, F1036, p1037⟩ := K1033
                            have e1038 : Iv h1032 a0 28 = v7 + 1 := by rw [p1037.1, e1030]
                            obtain ⟨v1039, e1040⟩ : ∃ z, Iv h1032 a0 28 = z := ⟨_, rfl⟩
                            have e1041 : Tg h1032 a0 = 12 := (fxT F1036 e1014)
                            have f1042 := ok_I O1035 e1041 rI_12_28 e1040
                            rw [e1040] at e1038
                            have p1043 : PUf h1032 a0 (Iv h a0 28) := fun _ => PU_one p1037 (e1030.trans e8.symm) (by rw [e8]; omega) (by omega)
                            refine g_aload_n C rfl 1 rfl dX12_takeFact_194 ?_
                            refine g_dup C rfl dX12_takeFact_195 ?_
                            have e1044 : Iv h1032 a0 7 = v1 := ((fxI F1036 e1014 rfl).trans e1019)
                            refine gf_I C fk_LandSurveyModel_317 rfl e1041 e1044 dX12_takeFact_196 ?_
                            refine g_iconst C dX12_takeFact_199 ?_
                            have f1045 : (1 : Int) ≤ (v1 + 1) ∧ (v1 + 1) ≤ (1502 : Int) := ia_add f3 (il 1) (by decide) (by decide)
                            refine g_iadd C dX12_takeFact_200 ?_
                            refine gp_I C fk_LandSurveyModel_317 pk_LandSurveyModel_7 rfl e1041 (iw f1045 (by decide) (by decide)) (nf_i _) dX12_takeFact_201 (fun h1047 hh1046 => ?_)
                            have O1048 := O1035.pI e1041 hh1046 rI_12_7 (by omega) nofun
                            have e1049 : Iv h1047 a0 8 = v4 := ((pI_j hh1046 (by decide)).trans ((fxI F1036 e1014 rfl).trans ((fxI F1003 e988 rfl).trans e994)))
                            have e1050 : Iv h1047 a0 28 = v1039 := ((pI_j hh1046 (by decide)).trans e1040)
                            have p1051 := (TK_fx O1035 ((Fx.rf (wr := [2407]) (h := h1032)).pI e1041 hh1046 rfl) e1041 rfl (TK_fx O1002 F1036 e1014 rfl (TK_fx O966 F1003 e988 rfl p996)))
                            have p1052 := ((NT_fx O1035 ((Fx.rf (wr := [2407]) (h := h1032)).pI e1041 hh1046 rfl) e1041 rfl).trans ((NT_fx O1002 F1036 e1014 rfl).trans ((NT_fx O966 F1003 e988 rfl).trans p997)))
                            have p1053 := (CF.trans (CF.trans (CF.trans (CF.trans (CF.trans (CF.rf (h := h) (m := a0)) (CF_fx O F27 ta0 rfl)) (CF_fx O26 F967 e34 rfl)) (CF_fx O966 F1003 e988 rfl)) (EM.cf p1037)) (CF_fx O1035 ((Fx.rf (wr := [2407]) (h := h1032)).pI e1041 hh1046 rfl) e1041 rfl))
                            have p1054 := (PUf_fx O1035 ((Fx.rf (wr := [2407]) (h := h1032)).pI e1041 hh1046 rfl) e1041 rfl p1043)
                            exact g_vret C hr ⟨O1048, ((((((Fx.rf (wr := wr_k_takeFact_0)).call F27 rfl).call F967 rfl).call F1003 rfl).call F1036 rfl).pI e1041 hh1046 rfl), ⟨p1051, by rw [(pI_e hh1046), p1052]; omega, by rw [e1049, (pI_e hh1046), p1052]; omega, by rw [e1050, (pI_e hh1046)]; omega⟩, (by unfold ST; rw [e2, (pI_e hh1046), e8, e1050, e5, e1049]; omega), p1053, p1054⟩ (by decide) (by decide) dX12_takeFact_204
                      · have f1055 : (1 : Int) ≤ r998 ∧ r998 ≤ (1 : Int) := r_nl f1004 q1017
                        refine g_aload_n C rfl 1 rfl dX12_takeFact_147 ?_
                        refine g_iload_n C rfl 2 rfl dX12_takeFact_148 ?_
                        refine g_iconst C dX12_takeFact_149 ?_
                        have f1056 : (1 : Int) ≤ (a1 + 1) ∧ (a1 + 1) ≤ (1 : Int) := ia_add fa1 (il 1) (by decide) (by decide)
                        refine g_iadd C dX12_takeFact_150 ?_
                        have e1057 : Iv h999 a0 8 = v4 := ((fxI F1003 e988 rfl).trans e994)
                        have e1058 : Iv h999 a0 28 = v7 := ((fxI F1003 e988 rfl).trans e995)
                        have p1059 := (TK_fx O966 F1003 e988 rfl p996)
                        have p1060 := ((NT_fx O966 F1003 e988 rfl).trans p997)
                        refine g_callV (st := []) (gc_V C lk_LandSurveyModel_392 (k_all_1 l D cy w z0 O1002 e1014 f1056 ⟨p1059, by rw [e1013, p1060]; omega, by rw [e1057, e1013, p1060]; omega, by rw [e1058, e1013]; omega⟩) e1014 rfl rfl rfl ⟨by decide, by decide⟩ (Nat.le_of_ble_eq_true rfl) dX12_takeFact_151 ⟨(by decide), (by decide)⟩) (fun h1062 K1063 => ?_)
                        obtain ⟨O1065, F1066, p1067, p1068, p1069, p1070⟩ := K1063
                        obtain ⟨v1071, e1072⟩ : ∃ z, Iv h1062 a0 7 = z := ⟨_, rfl⟩
                        have e1073 : Tg h1062 a0 = 12 := (fxT F1066 e1014)
                        have f1074 := ok_I O1065 e1073 rI_12_7 e1072
                        obtain ⟨v1075, e1076⟩ : ∃ z, Iv h1062 a0 8 = z := ⟨_, rfl⟩
                        have f1077 := ok_I O1065 e1073 rI_12_8 e1076
                        obtain ⟨v1078, e1079⟩ : ∃ z, Iv h1062 a0 28 = z := ⟨_, rfl⟩
                        have f1080 := ok_I O1065 e1073 rI_12_28 e1079
                        obtain ⟨p1081, p1082, p1083, p1084⟩ := p1067
                        have p1085 := ((NT_fx O1002 F1066 e1014 rfl).trans p1060)
                        rw [e1072, p1085] at p1082
                        rw [e1076, e1072, p1085] at p1083
                        rw [e1079, e1072] at p1084
                        have p1086 := p1068
                        unfold ST at p1086
                        rw [e1013, e1072, e1058, e1079, e1057, e1076] at p1086
                        refine g_aload_n C rfl 1 rfl dX12_takeFact_154 ?_
                        refine g_bipush C (by decide) dX12_takeFact_155 ?_
                        refine g_callV (st := []) (gc_V C lk_LandSurveyModel_380 (k_X12_takeSign l D cy w z0 O1065 e1073 (iw (il 41) (by decide) (by decide)) ⟨p1081, by rw [e1072, p1085]; omega, by rw [e1076, e1072, p1085]; omega, by rw [e1079, e1072]; omega⟩) e1073 rfl rfl rfl ⟨by decide, by decide⟩ (Nat.le_of_ble_eq_true rfl) dX12_takeFact_157 ⟨(by decide), (by decide)⟩) (fun h1088 K1089 => ?_)
                        obtain ⟨O1091, F1092, p1093, p1094, p1095⟩ := K1089
                        obtain ⟨v1096, e1097⟩ : ∃ z, Iv h1088 a0 7 = z := ⟨_, rfl⟩
                        have e1098 : Tg h1088 a0 = 12 := (fxT F1092 e1073)
                        have f1099 := ok_I O1091 e1098 rI_12_7 e1097
                        obtain ⟨v1100, e1101⟩ : ∃ z, Iv h1088 a0 8 = z := ⟨_, rfl⟩
                        have f1102 := ok_I O1091 e1098 rI_12_8 e1101
                        have e1103 : Iv h1088 a0 28 = v1078 := ((fxI F1092 e1073 rfl).trans e1079)
                        obtain ⟨p1104, p1105, p1106, p1107⟩ := p1093
                        have p1108 := ((NT_fx O1065 F1092 e1073 rfl).trans p1085)
                        rw [e1097, p1108] at p1105
                        rw [e1101, e1097, p1108] at p1106
                        rw [e1103, e1097] at p1107
                        have p1109 := p1094
                        unfold ST at p1109
                        rw [e1072, e1097, e1079, e1103, e1076, e1101] at p1109
                        rw [e1101, e1097, e1072] at p1095
                        have p1110 := (PUf_mono O1065 F1092 e1073 rfl p1094.2.2 p1070)
                        have p1111 : PUf h1088 a0 (Iv h a0 28) := by rw [show Iv h a0 28 = Iv h999 a0 28 from e8.trans e1058.symm]; exact p1110
                        refine g_goto C 204 (by decide) dX12_takeFact_160 ?_
                        have p1112 := (CF.trans (CF.trans (CF.trans (CF.trans (CF.trans (CF.rf (h := h) (m := a0)) (CF_fx O F27 ta0 rfl)) (CF_fx O26 F967 e34 rfl)) (CF_fx O966 F1003 e988 rfl)) p1069) (CF_fx O1065 F1092 e1073 rfl))
                        exact g_vret C hr ⟨O1091, ((((((Fx.rf (wr := wr_k_takeFact_0)).call F27 rfl).call F967 rfl).call F1003 rfl).call F1066 rfl).call F1092 rfl), ⟨p1104, by rw [e1097, p1108]; omega, by rw [e1101, e1097, p1108]; omega, by rw [e1103, e1097]; omega⟩, (by unfold ST; rw [e2, e1097, e8, e1103, e5, e1101]; omega), p1112, p1111⟩ (by decide) (by decide) dX12_takeFact_204
                    · have f1113 : (1 : Int) ≤ r962 ∧ r962 ≤ (1 : Int) := r_nl f968 q991
                      refine g_aload_n C rfl 1 rfl dX12_takeFact_122 ?_
                      refine g_iload_n C rfl 2 rfl dX12_takeFact_123 ?_
                      refine g_iconst C dX12_takeFact_124 ?_
                      have f1114 : (1 : Int) ≤ (a1 + 1) ∧ (a1 + 1) ≤ (1 : Int) := ia_add fa1 (il 1) (by decide) (by decide)
                      refine g_iadd C dX12_takeFact_125 ?_
                      have e1115 : Iv h963 a0 8 = v4 := ((fxI F967 e34 rfl).trans e955)
                      have e1116 : Iv h963 a0 28 = v7 := ((fxI F967 e34 rfl).trans e961)
                      have p1117 := (TK_fx O26 F967 e34 rfl p958)
                      have p1118 := ((NT_fx O26 F967 e34 rfl).trans p959)
                      refine g_callV (st := []) (gc_V C lk_LandSurveyModel_408 (k_takeFact_1 l D cy w z0 O966 e988 f1114 ⟨p1117, by rw [e987, p1118]; omega, by rw [e1115, e987, p1118]; omega, by rw [e1116, e987]; omega⟩) e988 rfl rfl rfl ⟨by decide, by decide⟩ (Nat.le_of_ble_eq_true rfl) dX12_takeFact_126 ⟨(by decide), (by decide)⟩) (fun h1120 K1121 => ?_)
                      obtain ⟨O1123, F1124, p1125, p1126, p1127, p1128⟩ := K1121
                      obtain ⟨v1129, e1130⟩ : ∃ z, Iv h1120 a0 7 = z := ⟨_, rfl⟩
                      have e1131 : Tg h1120 a0 = 12 := (fxT F1124 e988)
                      have f1132 := ok_I O1123 e1131 rI_12_7 e1130
                      obtain ⟨v1133, e1134⟩ : ∃ z, Iv h1120 a0 8 = z := ⟨_, rfl⟩
                      have f1135 := ok_I O1123 e1131 rI_12_8 e1134
                      obtain ⟨v1136, e1137⟩ : ∃ z, Iv h1120 a0 28 = z := ⟨_, rfl⟩
                      have f1138 := ok_I O1123 e1131 rI_12_28 e1137
                      obtain ⟨p1139, p1140, p1141, p1142⟩ := p1125
                      have p1143 := ((NT_fx O966 F1124 e988 rfl).trans p1118)
                      rw [e1130, p1143] at p1140
                      rw [e1134, e1130, p1143] at p1141
                      rw [e1137, e1130] at p1142
                      have p1144 := p1126
                      unfold ST at p1144
                      rw [e987, e1130, e1116, e1137, e1115, e1134] at p1144
                      refine g_aload_n C rfl 1 rfl dX12_takeFact_129 ?_
                      refine g_iconst C dX12_takeFact_130 ?_
                      refine g_iconst C dX12_takeFact_131 ?_
                      refine g_callV (st := []) (gc_V C lk_LandSurveyModel_395 (k_X12_emit l D cy w z0 O1123 e1131 (iw (il 3) (by decide) (by decide)) (iw (il 0) (by decide) (by decide)) (by rw [e1137]; omega)) e1131 rfl rfl rfl ⟨by decide, by decide⟩ (Nat.le_of_ble_eq_true rfl) dX12_takeFact_132 ⟨(by decide), (by decide)⟩) (fun h1146 K1147 => ?_)
                      obtain ⟨O1149, F1150, p1151⟩ := K1147
                      have e1152 : Iv h1146 a0 28 = v1136 + 1 := by rw [p1151.1, e1137]
                      obtain ⟨v1153, e1154⟩ : ∃ z, Iv h1146 a0 28 = z := ⟨_, rfl⟩
                      have e1155 : Tg h1146 a0 = 12 := (fxT F1150 e1131)
                      have f1156 := ok_I O1149 e1155 rI_12_28 e1154
                      rw [e1154] at e1152
                      have p1157 : PUf h1146 a0 (Iv h a0 28) := PUf_neg p1128 p1151 (mIv (j := 8) F1150 e1131 rfl) (e1116.trans e8.symm)
                      refine g_goto C 204 (by decide) dX12_takeFact_135 ?_
                      have e1158 : Iv h1146 a0 7 = v1129 := ((fxI F1150 e1131 rfl).trans e1130)
                      have e1159 : Iv h1146 a0 8 = v1133 := ((fxI F1150 e1131 rfl).trans e1134)
                      have p1160 := (TK_fx O1123 F1150 e1131 rfl p1139)
                      have p1161 := ((NT_fx O1123 F1150 e1131 rfl).trans p1143)
                      have p1162 := (CF.trans (CF.trans (CF.trans (CF.trans (CF.rf (h := h) (m := a0)) (CF_fx O F27 ta0 rfl)) (CF_fx O26 F967 e34 rfl)) p1127) (EM.cf p1151))
                      exact g_vret C hr ⟨O1149, (((((Fx.rf (wr := wr_k_takeFact_0)).call F27 rfl).call F967 rfl).call F1124 rfl).call F1150 rfl), ⟨p1160, by rw [e1158, p1161]; omega, by rw [e1159, e1158, p1161]; omega, by rw [e1154, e1158]; omega⟩, (by unfold ST; rw [e2, e1158, e8, e1154, e5, e1159]; omega), p1162, p1157⟩ (by decide) (by decide) dX12_takeFact_204
                  · exact (no_lt (il 0) f19 q957 (by decide)).elim
                · exact (no_eq fa1 (il 4) q954 (by decide)).elim
              · exact (no_eq (il 1) (il 0) q952 (by decide)).elim
        · have f1163 : (18 : Int) ≤ x21 ∧ x21 ≤ (29 : Int) := r_lt f29 (il 30) q32 (by decide) (by decide)
          refine g_aload_n C rfl 0 rfl dX12_takeFact_19 ?_
          refine g_iload_n C rfl 3 rfl dX12_takeFact_20 ?_
          have e1164 : Tg h22 a0 = 12 := (fxT F27 ta0)
          have e1165 : Iv h22 a0 7 = v1 := ((fxI F27 ta0 rfl).trans e2)
          have e1166 : Iv h22 a0 8 = v4 := ((fxI F27 ta0 rfl).trans e5)
          have e1167 : Iv h22 a0 28 = v7 := ((fxI F27 ta0 rfl).trans e8)
          have p1168 := (TK_fx O F27 ta0 rfl p10)
          have p1169 := ((NT_fx O F27 ta0 rfl).trans e15)
          refine g_callI (st := []) (gc_V C lk_LandSurveyModel_330 (k_X12_isWord l D cy w z0 O26 e1164 (iw f1163 (by decide) (by decide)) ⟨p1168, by rw [e1165, p1169]; omega, by rw [e1166, e1165, p1169]; omega, by rw [e1167, e1165]; omega⟩) e1164 rfl rfl rfl ⟨by decide, by decide⟩ (Nat.le_of_ble_eq_true rfl) dX12_takeFact_21 ⟨(by decide), (by decide)⟩) (fun r1170 h1171 f1173 K1172 => ?_)
          obtain ⟨O1174, F1175, f1176, p1177, p1178⟩ := K1172
          rw [e1166, e1165, p1169] at p1177
          obtain ⟨v1179, e1180⟩ : ∃ z, Rv h22 a0 4 = z := ⟨_, rfl⟩
          have t1181 := ok_R O26 e1164 rE_12_4 e1180
          have l1182 := ok_L O26 e1164 rE_12_4 e1180
          obtain ⟨v1183, e1184⟩ : ∃ z, Iv h22 v1179 v1.toNat = z := ⟨_, rfl⟩
          have f1185 := ok_Ia O26 t1181 ar_104100 rI_104100_0 e1184
          obtain ⟨v1186, e1187⟩ : ∃ z, Rv h22 a0 6 = z := ⟨_, rfl⟩
          have t1188 := ok_R O26 e1164 rE_12_6 e1187
          have l1189 := ok_L O26 e1164 rE_12_6 e1187
          obtain ⟨v1190, e1191⟩ : ∃ z, Jv h22 v1186 v1.toNat = z := ⟨_, rfl⟩
          have f1192 := inL_J O26 e1191
          obtain ⟨v1193, e1194⟩ : ∃ z, Rv h22 a0 9 = z := ⟨_, rfl⟩
          have t1195 := ok_R O26 e1164 rE_12_9 e1194
          have l1196 := ok_L O26 e1164 rE_12_9 e1194
          obtain ⟨v1197, e1198⟩ : ∃ z, Jv h22 v1193 x21.toNat = z := ⟨_, rfl⟩
          have f1199 := inL_J O26 e1198
          rw [e1166, e1180, e1165, e1184, e1187, e1191, e1194, e1198] at p1178
          refine g_if_eq C (iw f1176 (by decide) (by decide)) 34 (by decide) dX12_takeFact_24 (fun q1200 => ?_) (fun q1201 => ?_)
          · have f1202 : (0 : Int) ≤ r1170 ∧ r1170 ≤ (0 : Int) := ii f1176 (r_eq (il 0) q1200) (by decide) (by decide)
            refine g_iload_n C rfl 2 rfl dX12_takeFact_34 ?_
            refine g_istore_n C [(2, .inl x20), (0, .inr (.inr a0)), (1, .inl a1), (3, .inl x21)] rfl (by decide) rfl dX12_takeFact_35 ?_
            have f1203 : (19 : Int) ≤ (x21 + 1) ∧ (x21 + 1) ≤ (30 : Int) := ia_add f1163 (il 1) (by decide) (by decide)
            refine g_iinc C [(3, .inl (x21 + 1)), (2, .inl x20), (0, .inr (.inr a0)), (1, .inl a1)] 3 rfl (by decide) rfl dX12_takeFact_36 ?_
            refine g_goto C 13 (by decide) dX12_takeFact_39 ?_
            refine GW.sub [2, 3, 1, 0] rfl ?_
            exact ih24 _ (by omega) x20 (x21 + 1) h1171 rfl O1174 (F27.call F1175 rfl) f28 (iw f1203 (by decide) (by decide)) (by rw [e5, e2, e15]; omega)
          · have f1204 : (1 : Int) ≤ r1170 ∧ r1170 ≤ (1 : Int) := r_nl f1176 q1201
            refine g_iload_n C rfl 3 rfl dX12_takeFact_27 ?_
            refine g_bipush C (by decide) dX12_takeFact_28 ?_
            have f1205 : (0 : Int) ≤ (x21 - 18) ∧ (x21 - 18) ≤ (11 : Int) := ia_sub f1163 (il 18) (by decide) (by decide)
            refine g_isub C dX12_takeFact_30 ?_
            refine g_goto C 35 (by decide) dX12_takeFact_31 ?_
            refine g_istore_n C [(2, .inl (x21 - 18)), (0, .inr (.inr a0)), (1, .inl a1), (3, .inl x21)] rfl (by decide) rfl dX12_takeFact_35 ?_
            have f1206 : (19 : Int) ≤ (x21 + 1) ∧ (x21 + 1) ≤ (30 : Int) := ia_add f1163 (il 1) (by decide) (by decide)
            refine g_iinc C [(3, .inl (x21 + 1)), (2, .inl (x21 - 18)), (0, .inr (.inr a0)), (1, .inl a1)] 3 rfl (by decide) rfl dX12_takeFact_36 ?_
            refine g_goto C 13 (by decide) dX12_takeFact_39 ?_
            refine GW.sub [2, 3, 1, 0] rfl ?_
            exact ih24 _ (by omega) (x21 - 18) (x21 + 1) h1171 rfl O1174 (F27.call F1175 rfl) (iw f1205 (by decide) (by decide)) (iw f1206 (by decide) (by decide)) (by rw [e5, e2, e15]; omega)
    exact L23 _ (-1) 18 h rfl O Fx.rf (iw (il (-1)) (by decide) (by decide)) (iw (il 18) (by decide) (by decide)) (fun z => absurd z (by decide))
  · have f1207 : (1 : Int) ≤ v4 ∧ v4 ≤ (24005 : Int) := r_gt f6 (il 0) q18 (by decide) (by decide)
    exact g_vret C hr ⟨O, Fx.rf, ⟨p10, by rw [e2, e15]; omega, by rw [e5, e2, e15]; omega, by rw [e8, e2]; omega⟩, ST_rf, CF.rf, (fun z => by rw [e5] at z; omega)⟩ (by decide) (by decide) dX12_takeFact_7
def wr_k_sums_0 : List Nat := [2407, 2408, 2428, 25820000, 26020000]
set_option maxRecDepth 100000 in
set_option maxHeartbeats 4000000 in
theorem k_sums_0 (l : Launch) (D : va_G) (cy : Nat → ClassId) (w : Nat → Nat) (z0 : Nat)  {h : Hp} {a0 : Nat} {a1 : Int}  (O : Okh h) (ta0 : Tg h a0 = 12) (fa1 : 0 ≤ a1 ∧ a1 ≤ 0) (P_RD : RD h a0) : MV l D cy w z0 yX12_sums cX12_sums 3 none 19 422 0 0 [.inr (.inr a0), .inl a1] h (fun h1 => Okh h1 ∧ Fx wr_k_sums_0 h h1 ∧ (RD h1 a0) ∧ (ST h h1 a0) ∧ (CF h h1 a0) ∧ (PUf h1 a0 (Iv h a0 28))) := by
  obtain ⟨v1, e2⟩ : ∃ z, Iv h a0 7 = z := ⟨_, rfl⟩
  have f3 := ok_I O ta0 rI_12_7 e2
  obtain ⟨v4, e5⟩ : ∃ z, Iv h a0 8 = z := ⟨_, rfl⟩
  have f6 := ok_I O ta0 rI_12_8 e5
  obtain ⟨v7, e8⟩ : ∃ z, Iv h a0 28 = z := ⟨_, rfl⟩
  have f9 := ok_I O ta0 rI_12_28 e8
  obtain ⟨p10, p11, p12, p13⟩ := P_RD
  obtain ⟨v14, e15⟩ : ∃ z, NT h a0 = z := ⟨_, rfl⟩
  have f16 : (0 : Int) ≤ v14 ∧ v14 ≤ (1500 : Int) := NT_rng p10 e15
  rw [e2, e15] at p11
  rw [e5, e2, e15] at p12
  rw [e8, e2] at p13
  refine hm_go (by decide +kernel) (Nat.le_of_ble_eq_true rfl) (fun p e s m below meth c C hr hn => ?_)
  refine g_aload_n C rfl 0 rfl dX12_sums_0 ?_
  refine g_iload_n C rfl 1 rfl dX12_sums_1 ?_
  refine g_callV (st := []) (gc_V C lk_LandSurveyModel_408 (k_takeFact_0 l D cy w z0 O ta0 fa1 ⟨p10, by rw [e2, e15]; omega, by rw [e5, e2, e15]; omega, by rw [e8, e2]; omega⟩) ta0 rfl rfl rfl ⟨by decide, by decide⟩ (Nat.le_of_ble_eq_true rfl) dX12_sums_2 ⟨(by decide), (by decide)⟩) (fun h18 K19 => ?_)
  obtain ⟨O21, F22, p23, p24, p25, p26⟩ := K19
  obtain ⟨v27, e28⟩ : ∃ z, Iv h18 a0 7 = z := ⟨_, rfl⟩
  have e29 : Tg h18 a0 = 12 := (fxT F22 ta0)
  have f30 := ok_I O21 e29 rI_12_7 e28
  obtain ⟨v31, e32⟩ : ∃ z, Iv h18 a0 8 = z := ⟨_, rfl⟩
  have f33 := ok_I O21 e29 rI_12_8 e32
  obtain ⟨v34, e35⟩ : ∃ z, Iv h18 a0 28 = z := ⟨_, rfl⟩
  have f36 := ok_I O21 e29 rI_12_28 e35
  obtain ⟨p37, p38, p39, p40⟩ := p23
  have p41 := ((NT_fx O F22 ta0 rfl).trans e15)
  rw [e28, p41] at p38
  rw [e32, e28, p41] at p39
  rw [e35, e28] at p40
  have p42 := p24
  unfold ST at p42
  rw [e2, e28, e8, e35, e5, e32] at p42
  refine GW.sub [0, 1] rfl ?_
  -- loop at 5
  have L44 : ∀ (μ : Nat) (h43 : Hp), (1502 - Iv h43 a0 7).toNat = μ → Okh h43 → Fx [2407, 2408, 2428, 25820000, 26020000] h18 h43 → (RD h43 a0) → (ST h h43 a0) → (CF h h43 a0) → (PUf h43 a0 (Iv h a0 28)) → GW p l e (rmm 19 422 0 0) s m (List.map toV [.inr (.inr a0), .inl a1]).toArray below meth c D cy z0 3 (MQ below (QV D cy z0 (fun h1 => Okh h1 ∧ Fx wr_k_sums_0 h h1 ∧ (RD h1 a0) ∧ (ST h h1 a0) ∧ (CF h h1 a0) ∧ (PUf h1 a0 (Iv h a0 28)))) (List.map toV [.inr (.inr a0), .inl a1]).toArray s 0 0 (Aof z0)) 5 [(0, .inr (.inr a0)), (1, .inl a1)] [] h43 0 0 := by
    intro μ
    induction μ using Nat.strongRecOn with
    | ind μ ih45 =>
      intro h43 hm46 O47 F48 p49 p50 p51 p52
      obtain ⟨v53, e54⟩ : ∃ z, Iv h43 a0 7 = z := ⟨_, rfl⟩
      have e55 : Tg h43 a0 = 12 := (fxT F48 e29)
      have f56 := ok_I O47 e55 rI_12_7 e54
      obtain ⟨v57, e58⟩ : ∃ z, Iv h43 a0 8 = z := ⟨_, rfl⟩
      have f59 := ok_I O47 e55 rI_12_8 e58
      obtain ⟨v60, e61⟩ : ∃ z, Iv h43 a0 28 = z := ⟨_, rfl⟩
      have f62 := ok_I O47 e55 rI_12_28 e61
      obtain ⟨p63, p64, p65, p66⟩ := p49
      have p67 := ((NT_fx O21 F48 e29 rfl).trans p41)
      rw [e54, p67] at p64
      rw [e58, e54, p67] at p65
      rw [e61, e54] at p66
      have p68 := p50
      unfold ST at p68
      rw [e2, e54, e8, e61, e5, e58] at p68
      refine g_aload_n C rfl 0 rfl dX12_sums_5 ?_
      refine g_bipush C (by decide) dX12_sums_6 ?_
      refine g_callI (st := []) (gc_V C lk_LandSurveyModel_323 (k_X12_isSign l D cy w z0 O47 e55 (iw (il 43) (by decide) (by decide)) ⟨p63, by rw [e54, p67]; omega, by rw [e58, e54, p67]; omega, by rw [e61, e54]; omega⟩) e55 rfl rfl rfl ⟨by decide, by decide⟩ (Nat.le_of_ble_eq_true rfl) dX12_sums_8 ⟨(by decide), (by decide)⟩) (fun r69 h70 f72 K71 => ?_)
      obtain ⟨O73, F74, f75, p76, p77⟩ := K71
      rw [e58, e54, p67] at p76
      obtain ⟨v78, e79⟩ : ∃ z, Rv h43 a0 4 = z := ⟨_, rfl⟩
      have t80 := ok_R O47 e55 rE_12_4 e79
      have l81 := ok_L O47 e55 rE_12_4 e79
      obtain ⟨v82, e83⟩ : ∃ z, Iv h43 v78 v53.toNat = z := ⟨_, rfl⟩
      have f84 := ok_Ia O47 t80 ar_104100 rI_104100_0 e83
      obtain ⟨v85, e86⟩ : ∃ z, Rv h43 a0 6 = z := ⟨_, rfl⟩
      have t87 := ok_R O47 e55 rE_12_6 e86
      have l88 := ok_L O47 e55 rE_12_6 e86
      obtain ⟨v89, e90⟩ : ∃ z, Jv h43 v85 v53.toNat = z := ⟨_, rfl⟩
      have f91 := inL_J O47 e90
      rw [e58, e79, e54, e83, e86, e90] at p77
      refine g_if_ne C (iw f75 (by decide) (by decide)) 23 (by decide) dX12_sums_11 (fun q92 => ?_) (fun q93 => ?_)
      · have f94 : (1 : Int) ≤ r69 ∧ r69 ≤ (1 : Int) := r_nl f75 q92
        refine g_aload_n C rfl 0 rfl dX12_sums_23 ?_
        refine g_bipush C (by decide) dX12_sums_24 ?_
        have e95 : Tg h70 a0 = 12 := (fxT F74 e55)
        have e96 : Iv h70 a0 7 = v53 := ((fxI F74 e55 rfl).trans e54)
        have e97 : Iv h70 a0 8 = v57 := ((fxI F74 e55 rfl).trans e58)
        have e98 : Iv h70 a0 28 = v60 := ((fxI F74 e55 rfl).trans e61)
        have p99 := (TK_fx O47 F74 e55 rfl p63)
        have p100 := ((NT_fx O47 F74 e55 rfl).trans p67)
        refine g_callI (st := []) (gc_V C lk_LandSurveyModel_323 (k_X12_isSign l D cy w z0 O73 e95 (iw (il 43) (by decide) (by decide)) ⟨p99, by rw [e96, p100]; omega, by rw [e97, e96, p100]; omega, by rw [e98, e96]; omega⟩) e95 rfl rfl rfl ⟨by decide, by decide⟩ (Nat.le_of_ble_eq_true rfl) dX12_sums_26 ⟨(by decide), (by decide)⟩) (fun r101 h102 f104 K103 => ?_)
        obtain ⟨O105, F106, f107, p108, p109⟩ := K103
        rw [e97, e96, p100] at p108
        have e110 : Rv h70 a0 4 = v78 := ((fxR F74 e55 rfl).trans e79)
        have e111 : Iv h70 v78 v53.toNat = v82 := ((fxIa F74 t80 ar_104100 rfl).trans e83)
        have e112 : Rv h70 a0 6 = v85 := ((fxR F74 e55 rfl).trans e86)
        have e113 : Jv h70 v85 v53.toNat = v89 := ((fxJa F74 t87 ar_106102 rfl).trans e90)
        rw [e97, e110, e96, e111, e112, e113] at p109
        refine g_istore_n C [(2, .inl r101), (0, .inr (.inr a0)), (1, .inl a1)] rfl (by decide) rfl dX12_sums_29 ?_
        refine g_aload_n C rfl 1 rfl dX12_sums_30 ?_
        refine g_dup C rfl dX12_sums_31 ?_
        have e114 : Tg h102 a0 = 12 := (fxT F106 e95)
        have e115 : Iv h102 a0 7 = v53 := ((fxI F106 e95 rfl).trans e96)
        refine gf_I C fk_LandSurveyModel_317 rfl e114 e115 dX12_sums_32 ?_
        refine g_iconst C dX12_sums_35 ?_
        have f116 : (1 : Int) ≤ (v53 + 1) ∧ (v53 + 1) ≤ (1502 : Int) := ia_add f56 (il 1) (by decide) (by decide)
        refine g_iadd C dX12_sums_36 ?_
        refine gp_I C fk_LandSurveyModel_317 pk_LandSurveyModel_7 rfl e114 (iw f116 (by decide) (by decide)) (nf_i _) dX12_sums_37 (fun h118 hh117 => ?_)
        have O119 := O105.pI e114 hh117 rI_12_7 (by omega) nofun
        refine g_aload_n C rfl 1 rfl dX12_sums_40 ?_
        refine g_iload_n C rfl 2 rfl dX12_sums_41 ?_
        have e120 : Tg h118 a0 = 12 := ((pIT hh117).trans e114)
        have e121 : Iv h118 a0 8 = v57 := ((pI_j hh117 (by decide)).trans ((fxI F106 e95 rfl).trans e97))
        have e122 : Iv h118 a0 28 = v60 := ((pI_j hh117 (by decide)).trans ((fxI F106 e95 rfl).trans e98))
        have p123 := (TK_fx O105 ((Fx.rf (wr := [2407]) (h := h102)).pI e114 hh117 rfl) e114 rfl (TK_fx O73 F106 e95 rfl p99))
        have p124 := ((NT_fx O105 ((Fx.rf (wr := [2407]) (h := h102)).pI e114 hh117 rfl) e114 rfl).trans ((NT_fx O73 F106 e95 rfl).trans p100))
        refine g_callV (st := []) (gc_V C lk_LandSurveyModel_408 (k_takeFact_0 l D cy w z0 O119 e120 fa1 ⟨p123, by rw [(pI_e hh117), p124]; omega, by rw [e121, (pI_e hh117), p124]; omega, by rw [e122, (pI_e hh117)]; omega⟩) e120 rfl rfl rfl ⟨by decide, by decide⟩ (Nat.le_of_ble_eq_true rfl) dX12_sums_42 ⟨(by decide), (by decide)⟩) (fun h126 K127 => ?_)
        obtain ⟨O129, F130, p131, p132, p133, p134⟩ := K127
        obtain ⟨v135, e136⟩ : ∃ z, Iv h126 a0 7 = z := ⟨_, rfl⟩
        have e137 : Tg h126 a0 = 12 := (fxT F130 e120)
        have f138 := ok_I O129 e137 rI_12_7 e136
        obtain ⟨v139, e140⟩ : ∃ z, Iv h126 a0 8 = z := ⟨_, rfl⟩
        have f141 := ok_I O129 e137 rI_12_8 e140
        obtain ⟨v142, e143⟩ : ∃ z, Iv h126 a0 28 = z := ⟨_, rfl⟩
        have f144 := ok_I O129 e137 rI_12_28 e143
        obtain ⟨p145, p146, p147, p148⟩ := p131
        have p149 := ((NT_fx O119 F130 e120 rfl).trans p124)
        rw [e136, p149] at p146
        rw [e140, e136, p149] at p147
        rw [e143, e136] at p148
        have p150 := p132
        unfold ST at p150
        rw [(pI_e hh117), e136, e122, e143, e121, e140] at p150
        refine g_aload_n C rfl 1 rfl dX12_sums_45 ?_
        refine g_iload_n C rfl 0 rfl dX12_sums_46 ?_
        refine g_if_eq C (iw f107 (by decide) (by decide)) 54 (by decide) dX12_sums_47 (fun q151 => ?_) (fun q152 => ?_)
        · have f153 : (0 : Int) ≤ r101 ∧ r101 ≤ (0 : Int) := ii f107 (r_eq (il 0) q151) (by decide) (by decide)
          refine g_iconst C dX12_sums_54 ?_
          refine g_iconst C dX12_sums_55 ?_
          refine g_callV (st := []) (gc_V C lk_LandSurveyModel_395 (k_X12_emit l D cy w z0 O129 e137 (iw (il 5) (by decide) (by decide)) (iw (il 0) (by decide) (by decide)) (by rw [e143]; omega)) e137 rfl rfl rfl ⟨by decide, by decide⟩ (Nat.le_of_ble_eq_true rfl) dX12_sums_56 ⟨(by decide), (by decide)⟩) (fun h155 K156 => ?_)
          obtain ⟨O158, F159, p160⟩ := K156
          have e161 : Iv h155 a0 28 = v142 + 1 := by rw [p160.1, e143]
          obtain ⟨v162, e163⟩ : ∃ z, Iv h155 a0 28 = z := ⟨_, rfl⟩
          have e164 : Tg h155 a0 = 12 := (fxT F159 e137)
          have f165 := ok_I O158 e164 rI_12_28 e163
          rw [e163] at e161
          have p166 := (PUf_fx O105 ((Fx.rf (wr := [2407]) (h := h102)).pI e114 hh117 rfl) e114 rfl (PUf_fx O73 F106 e95 rfl (PUf_fx O47 F74 e55 rfl p52)))
          have p167 : PUf h155 a0 (Iv h a0 28) := PUf_bin p166 p133 p132.2.2 p134 p160 (mIv (j := 8) F159 e137 rfl) (by omega)
          refine g_goto C 5 (by decide) dX12_sums_59 ?_
          refine GW.sub [1, 2] rfl ?_
          have e168 : Iv h155 a0 7 = v135 := ((fxI F159 e137 rfl).trans e136)
          have e169 : Iv h155 a0 8 = v139 := ((fxI F159 e137 rfl).trans e140)
          have p170 := (TK_fx O129 F159 e137 rfl p145)
          have p171 := ((NT_fx O129 F159 e137 rfl).trans p149)
          have p172 := (CF.trans (CF.trans (CF.trans (CF.trans (CF.trans p51 (CF_fx O47 F74 e55 rfl)) (CF_fx O73 F106 e95 rfl)) (CF_fx O105 ((Fx.rf (wr := [2407]) (h := h102)).pI e114 hh117 rfl) e114 rfl)) p133) (EM.cf p160))
          exact ih45 _ (by omega) h155 rfl O158 (((((F48.call F74 rfl).call F106 rfl).pI e114 hh117 rfl).call F130 rfl).call F159 rfl) ⟨p170, by rw [e168, p171]; omega, by rw [e169, e168, p171]; omega, by rw [e163, e168]; omega⟩ (by unfold ST; rw [e2, e168, e8, e163, e5, e169]; omega) p172 p167
        · have f173 : (1 : Int) ≤ r101 ∧ r101 ≤ (1 : Int) := r_nl f107 q152
          refine g_iconst C dX12_sums_50 ?_
          refine g_goto C 55 (by decide) dX12_sums_51 ?_
          refine g_iconst C dX12_sums_55 ?_
          refine g_callV (st := []) (gc_V C lk_LandSurveyModel_395 (k_X12_emit l D cy w z0 O129 e137 (iw (il 4) (by decide) (by decide)) (iw (il 0) (by decide) (by decide)) (by rw [e143]; omega)) e137 rfl rfl rfl ⟨by decide, by decide⟩ (Nat.le_of_ble_eq_true rfl) dX12_sums_56 ⟨(by decide), (by decide)⟩) (fun h175 K176 => ?_)
          obtain ⟨O178, F179, p180⟩ := K176
          have e181 : Iv h175 a0 28 = v142 + 1 := by rw [p180.1, e143]
          obtain ⟨v182, e183⟩ : ∃ z, Iv h175 a0 28 = z := ⟨_, rfl⟩
          have e184 : Tg h175 a0 = 12 := (fxT F179 e137)
          have f185 := ok_I O178 e184 rI_12_28 e183
          rw [e183] at e181
          have p186 := (PUf_fx O105 ((Fx.rf (wr := [2407]) (h := h102)).pI e114 hh117 rfl) e114 rfl (PUf_fx O73 F106 e95 rfl (PUf_fx O47 F74 e55 rfl p52)))
          have p187 : PUf h175 a0 (Iv h a0 28) := PUf_bin p186 p133 p132.2.2 p134 p180 (mIv (j := 8) F179 e137 rfl) (by omega)
          refine g_goto C 5 (by decide) dX12_sums_59 ?_
          refine GW.sub [1, 2] rfl ?_
          have e188 : Iv h175 a0 7 = v135 := ((fxI F179 e137 rfl).trans e136)
          have e189 : Iv h175 a0 8 = v139 := ((fxI F179 e137 rfl).trans e140)
          have p190 := (TK_fx O129 F179 e137 rfl p145)
          have p191 := ((NT_fx O129 F179 e137 rfl).trans p149)
          have p192 := (CF.trans (CF.trans (CF.trans (CF.trans (CF.trans p51 (CF_fx O47 F74 e55 rfl)) (CF_fx O73 F106 e95 rfl)) (CF_fx O105 ((Fx.rf (wr := [2407]) (h := h102)).pI e114 hh117 rfl) e114 rfl)) p133) (EM.cf p180))
          exact ih45 _ (by omega) h175 rfl O178 (((((F48.call F74 rfl).call F106 rfl).pI e114 hh117 rfl).call F130 rfl).call F179 rfl) ⟨p190, by rw [e188, p191]; omega, by rw [e189, e188, p191]; omega, by rw [e183, e188]; omega⟩ (by unfold ST; rw [e2, e188, e8, e183, e5, e189]; omega) p192 p187
      · have f193 : (0 : Int) ≤ r69 ∧ r69 ≤ (0 : Int) := ii f75 (r_eq (il 0) q93) (by decide) (by decide)
        refine g_aload_n C rfl 0 rfl dX12_sums_14 ?_
        refine g_bipush C (by decide) dX12_sums_15 ?_
        have e194 : Tg h70 a0 = 12 := (fxT F74 e55)
        have e195 : Iv h70 a0 7 = v53 := ((fxI F74 e55 rfl).trans e54)
        have e196 : Iv h70 a0 8 = v57 := ((fxI F74 e55 rfl).trans e58)
        have e197 : Iv h70 a0 28 = v60 := ((fxI F74 e55 rfl).trans e61)
        have p198 := (TK_fx O47 F74 e55 rfl p63)
        have p199 := ((NT_fx O47 F74 e55 rfl).trans p67)
        refine g_callI (st := []) (gc_V C lk_LandSurveyModel_323 (k_X12_isSign l D cy w z0 O73 e194 (iw (il 45) (by decide) (by decide)) ⟨p198, by rw [e195, p199]; omega, by rw [e196, e195, p199]; omega, by rw [e197, e195]; omega⟩) e194 rfl rfl rfl ⟨by decide, by decide⟩ (Nat.le_of_ble_eq_true rfl) dX12_sums_17 ⟨(by decide), (by decide)⟩) (fun r200 h201 f203 K202 => ?_)
        obtain ⟨O204, F205, f206, p207, p208⟩ := K202
        rw [e196, e195, p199] at p207
        have e209 : Rv h70 a0 4 = v78 := ((fxR F74 e55 rfl).trans e79)
        have e210 : Iv h70 v78 v53.toNat = v82 := ((fxIa F74 t80 ar_104100 rfl).trans e83)
        have e211 : Rv h70 a0 6 = v85 := ((fxR F74 e55 rfl).trans e86)
        have e212 : Jv h70 v85 v53.toNat = v89 := ((fxJa F74 t87 ar_106102 rfl).trans e90)
        rw [e196, e209, e195, e210, e211, e212] at p208
        refine g_if_eq C (iw f206 (by decide) (by decide)) 62 (by decide) dX12_sums_20 (fun q213 => ?_) (fun q214 => ?_)
        · have f215 : (0 : Int) ≤ r200 ∧ r200 ≤ (0 : Int) := ii f206 (r_eq (il 0) q213) (by decide) (by decide)
          have e216 : Iv h201 a0 7 = v53 := ((fxI F205 e194 rfl).trans e195)
          have e217 : Iv h201 a0 8 = v57 := ((fxI F205 e194 rfl).trans e196)
          have e218 : Iv h201 a0 28 = v60 := ((fxI F205 e194 rfl).trans e197)
          have p219 := (TK_fx O73 F205 e194 rfl p198)
          have p220 := ((NT_fx O73 F205 e194 rfl).trans p199)
          have p221 := (CF.trans (CF.trans p51 (CF_fx O47 F74 e55 rfl)) (CF_fx O73 F205 e194 rfl))
          have p222 := (PUf_fx O73 F205 e194 rfl (PUf_fx O47 F74 e55 rfl p52))
          exact g_vret C hr ⟨O204, (((((Fx.rf (wr := wr_k_sums_0)).call F22 rfl).call F48 rfl).call F74 rfl).call F205 rfl), ⟨p219, by rw [e216, p220]; omega, by rw [e217, e216, p220]; omega, by rw [e218, e216]; omega⟩, (by unfold ST; rw [e2, e216, e8, e218, e5, e217]; omega), p221, p222⟩ (by decide) (by decide) dX12_sums_62
        · have f223 : (1 : Int) ≤ r200 ∧ r200 ≤ (1 : Int) := r_nl f206 q214
          refine g_aload_n C rfl 0 rfl dX12_sums_23 ?_
          refine g_bipush C (by decide) dX12_sums_24 ?_
          have e224 : Tg h201 a0 = 12 := (fxT F205 e194)
          have e225 : Iv h201 a0 7 = v53 := ((fxI F205 e194 rfl).trans e195)
          have e226 : Iv h201 a0 8 = v57 := ((fxI F205 e194 rfl).trans e196)
          have e227 : Iv h201 a0 28 = v60 := ((fxI F205 e194 rfl).trans e197)
          have p228 := (TK_fx O73 F205 e194 rfl p198)
          have p229 := ((NT_fx O73 F205 e194 rfl).trans p199)
          refine g_callI (st := []) (gc_V C lk_LandSurveyModel_323 (k_X12_isSign l D cy w z0 O204 e224 (iw (il 43) (by decide) (by decide)) ⟨p228, by rw [e225, p229]; omega, by rw [e226, e225, p229]; omega, by rw [e227, e225]; omega⟩) e224 rfl rfl rfl ⟨by decide, by decide⟩ (Nat.le_of_ble_eq_true rfl) dX12_sums_26 ⟨(by decide), (by decide)⟩) (fun r230 h231 f233 K232 => ?_)
          obtain ⟨O234, F235, f236, p237, p238⟩ := K232
          rw [e226, e225, p229] at p237
          have e239 : Rv h201 a0 4 = v78 := ((fxR F205 e194 rfl).trans e209)
          have e240 : Tg h70 v78 = 104100 := (fxT F74 t80)
          have e241 : Iv h201 v78 v53.toNat = v82 := ((fxIa F205 e240 ar_104100 rfl).trans e210)
          have e242 : Rv h201 a0 6 = v85 := ((fxR F205 e194 rfl).trans e211)
          have e243 : Tg h70 v85 = 106102 := (fxT F74 t87)
          have e244 : Jv h201 v85 v53.toNat = v89 := ((fxJa F205 e243 ar_106102 rfl).trans e212)
          rw [e226, e239, e225, e241, e242, e244] at p238
          refine g_istore_n C [(2, .inl r230), (0, .inr (.inr a0)), (1, .inl a1)] rfl (by decide) rfl dX12_sums_29 ?_
          refine g_aload_n C rfl 1 rfl dX12_sums_30 ?_
          refine g_dup C rfl dX12_sums_31 ?_
          have e245 : Tg h231 a0 = 12 := (fxT F235 e224)
          have e246 : Iv h231 a0 7 = v53 := ((fxI F235 e224 rfl).trans e225)
          refine gf_I C fk_LandSurveyModel_317 rfl e245 e246 dX12_sums_32 ?_
          refine g_iconst C dX12_sums_35 ?_
          have f247 : (1 : Int) ≤ (v53 + 1) ∧ (v53 + 1) ≤ (1502 : Int) := ia_add f56 (il 1) (by decide) (by decide)
          refine g_iadd C dX12_sums_36 ?_
          refine gp_I C fk_LandSurveyModel_317 pk_LandSurveyModel_7 rfl e245 (iw f247 (by decide) (by decide)) (nf_i _) dX12_sums_37 (fun h249 hh248 => ?_)
          have O250 := O234.pI e245 hh248 rI_12_7 (by omega) nofun
          refine g_aload_n C rfl 1 rfl dX12_sums_40 ?_
          refine g_iload_n C rfl 2 rfl dX12_sums_41 ?_
          have e251 : Tg h249 a0 = 12 := ((pIT hh248).trans e245)
          have e252 : Iv h249 a0 8 = v57 := ((pI_j hh248 (by decide)).trans ((fxI F235 e224 rfl).trans e226))
          have e253 : Iv h249 a0 28 = v60 := ((pI_j hh248 (by decide)).trans ((fxI F235 e224 rfl).trans e227))
          have p254 := (TK_fx O234 ((Fx.rf (wr := [2407]) (h := h231)).pI e245 hh248 rfl) e245 rfl (TK_fx O204 F235 e224 rfl p228))
          have p255 := ((NT_fx O234 ((Fx.rf (wr := [2407]) (h := h231)).pI e245 hh248 rfl) e245 rfl).trans ((NT_fx O204 F235 e224 rfl).trans p229))
          refine g_callV (st := []) (gc_V C lk_LandSurveyModel_408 (k_takeFact_0 l D cy w z0 O250 e251 fa1 ⟨p254, by rw [(pI_e hh248), p255]; omega, by rw [e252, (pI_e hh248), p255]; omega, by rw [e253, (pI_e hh248)]; omega⟩) e251 rfl rfl rfl ⟨by decide, by decide⟩ (Nat.le_of_ble_eq_true rfl) dX12_sums_42 ⟨(by decide), (by decide)⟩) (fun h257 K258 => ?_)
          obtain ⟨O260, F261, p262, p263, p264, p265⟩ := K258
          obtain ⟨v266, e267⟩ : ∃ z, Iv h257 a0 7 = z := ⟨_, rfl⟩
          have e268 : Tg h257 a0 = 12 := (fxT F261 e251)
          have f269 := ok_I O260 e268 rI_12_7 e267
          obtain ⟨v270, e271⟩ : ∃ z, Iv h257 a0 8 = z := ⟨_, rfl⟩
          have f272 := ok_I O260 e268 rI_12_8 e271
          obtain ⟨v273, e274⟩ : ∃ z, Iv h257 a0 28 = z := ⟨_, rfl⟩
          have f275 := ok_I O260 e268 rI_12_28 e274
          obtain ⟨p276, p277, p278, p279⟩ := p262
          have p280 := ((NT_fx O250 F261 e251 rfl).trans p255)
          rw [e267, p280] at p277
          rw [e271, e267, p280] at p278
          rw [e274, e267] at p279
          have p281 := p263
          unfold ST at p281
          rw [(pI_e hh248), e267, e253, e274, e252, e271] at p281
          refine g_aload_n C rfl 1 rfl dX12_sums_45 ?_
          refine g_iload_n C rfl 0 rfl dX12_sums_46 ?_
          refine g_if_eq C (iw f236 (by decide) (by decide)) 54 (by decide) dX12_sums_47 (fun q282 => ?_) (fun q283 => ?_)
          · have f284 : (0 : Int) ≤ r230 ∧ r230 ≤ (0 : Int) := ii f236 (r_eq (il 0) q282) (by decide) (by decide)
            refine g_iconst C dX12_sums_54 ?_
            refine g_iconst C dX12_sums_55 ?_
            refine g_callV (st := []) (gc_V C lk_LandSurveyModel_395 (k_X12_emit l D cy w z0 O260 e268 (iw (il 5) (by decide) (by decide)) (iw (il 0) (by decide) (by decide)) (by rw [e274]; omega)) e268 rfl rfl rfl ⟨by decide, by decide⟩ (Nat.le_of_ble_eq_true rfl) dX12_sums_56 ⟨(by decide), (by decide)⟩) (fun h286 K287 => ?_)
            obtain ⟨O289, F290, p291⟩ := K287
            have e292 : Iv h286 a0 28 = v273 + 1 := by rw [p291.1, e274]
            obtain ⟨v293, e294⟩ : ∃ z, Iv h286 a0 28 = z := ⟨_, rfl⟩
            have e295 : Tg h286 a0 = 12 := (fxT F290 e268)
            have f296 := ok_I O289 e295 rI_12_28 e294
            rw [e294] at e292
            have p297 := (PUf_fx O234 ((Fx.rf (wr := [2407]) (h := h231)).pI e245 hh248 rfl) e245 rfl (PUf_fx O204 F235 e224 rfl (PUf_fx O73 F205 e194 rfl (PUf_fx O47 F74 e55 rfl p52))))
            have p298 : PUf h286 a0 (Iv h a0 28) := PUf_bin p297 p264 p263.2.2 p265 p291 (mIv (j := 8) F290 e268 rfl) (by omega)
            refine g_goto C 5 (by decide) dX12_sums_59 ?_
            refine GW.sub [1, 2] rfl ?_
            have e299 : Iv h286 a0 7 = v266 := ((fxI F290 e268 rfl).trans e267)
            have e300 : Iv h286 a0 8 = v270 := ((fxI F290 e268 rfl).trans e271)
            have p301 := (TK_fx O260 F290 e268 rfl p276)
            have p302 := ((NT_fx O260 F290 e268 rfl).trans p280)
            have p303 := (CF.trans (CF.trans (CF.trans (CF.trans (CF.trans (CF.trans p51 (CF_fx O47 F74 e55 rfl)) (CF_fx O73 F205 e194 rfl)) (CF_fx O204 F235 e224 rfl)) (CF_fx O234 ((Fx.rf (wr := [2407]) (h := h231)).pI e245 hh248 rfl) e245 rfl)) p264) (EM.cf p291))
            exact ih45 _ (by omega) h286 rfl O289 ((((((F48.call F74 rfl).call F205 rfl).call F235 rfl).pI e245 hh248 rfl).call F261 rfl).call F290 rfl) ⟨p301, by rw [e299, p302]; omega, by rw [e300, e299, p302]; omega, by rw [e294, e299]; omega⟩ (by unfold ST; rw [e2, e299, e8, e294, e5, e300]; omega) p303 p298
          · have f304 : (1 : Int) ≤ r230 ∧ r230 ≤ (1 : Int) := r_nl f236 q283
            refine g_iconst C dX12_sums_50 ?_
            refine g_goto C 55 (by decide) dX12_sums_51 ?_
            refine g_iconst C dX12_sums_55 ?_
            refine g_callV (st := []) (gc_V C lk_LandSurveyModel_395 (k_X12_emit l D cy w z0 O260 e268 (iw (il 4) (by decide) (by decide)) (iw (il 0) (by decide) (by decide)) (by rw [e274]; omega)) e268 rfl rfl rfl ⟨by decide, by decide⟩ (Nat.le_of_ble_eq_true rfl) dX12_sums_56 ⟨(by decide), (by decide)⟩) (fun h306 K307 => ?_)
            obtain ⟨O309, F310, p311⟩ := K307
            have e312 : Iv h306 a0 28 = v273 + 1 := by rw [p311.1, e274]
            obtain ⟨v313, e314⟩ : ∃ z, Iv h306 a0 28 = z := ⟨_, rfl⟩
            have e315 : Tg h306 a0 = 12 := (fxT F310 e268)
            have f316 := ok_I O309 e315 rI_12_28 e314
            rw [e314] at e312
            have p317 := (PUf_fx O234 ((Fx.rf (wr := [2407]) (h := h231)).pI e245 hh248 rfl) e245 rfl (PUf_fx O204 F235 e224 rfl (PUf_fx O73 F205 e194 rfl (PUf_fx O47 F74 e55 rfl p52))))
            have p318 : PUf h306 a0 (Iv h a0 28) := PUf_bin p317 p264 p263.2.2 p265 p311 (mIv (j := 8) F310 e268 rfl) (by omega)
            refine g_goto C 5 (by decide) dX12_sums_59 ?_
            refine GW.sub [1, 2] rfl ?_
            have e319 : Iv h306 a0 7 = v266 := ((fxI F310 e268 rfl).trans e267)
            have e320 : Iv h306 a0 8 = v270 := ((fxI F310 e268 rfl).trans e271)
            have p321 := (TK_fx O260 F310 e268 rfl p276)
            have p322 := ((NT_fx O260 F310 e268 rfl).trans p280)
            have p323 := (CF.trans (CF.trans (CF.trans (CF.trans (CF.trans (CF.trans p51 (CF_fx O47 F74 e55 rfl)) (CF_fx O73 F205 e194 rfl)) (CF_fx O204 F235 e224 rfl)) (CF_fx O234 ((Fx.rf (wr := [2407]) (h := h231)).pI e245 hh248 rfl) e245 rfl)) p264) (EM.cf p311))
            exact ih45 _ (by omega) h306 rfl O309 ((((((F48.call F74 rfl).call F205 rfl).call F235 rfl).pI e245 hh248 rfl).call F261 rfl).call F310 rfl) ⟨p321, by rw [e319, p322]; omega, by rw [e320, e319, p322]; omega, by rw [e314, e319]; omega⟩ (by unfold ST; rw [e2, e319, e8, e314, e5, e320]; omega) p323 p318
  have p324 := (CF.trans (CF.rf (h := h) (m := a0)) p25)
  exact L44 _ h18 rfl O21 Fx.rf ⟨p37, by rw [e28, p41]; omega, by rw [e32, e28, p41]; omega, by rw [e35, e28]; omega⟩ (by unfold ST; rw [e2, e28, e8, e35, e5, e32]; omega) p324 p26
def wr_k_test_0 : List Nat := [2407, 2408, 2428, 25820000, 26020000]
set_option maxRecDepth 100000 in
set_option maxHeartbeats 4000000 in
theorem k_test_0 (l : Launch) (D : va_G) (cy : Nat → ClassId) (w : Nat → Nat) (z0 : Nat)  {h : Hp} {a0 : Nat} {a1 : Int}  (O : Okh h) (ta0 : Tg h a0 = 12) (fa1 : 0 ≤ a1 ∧ a1 ≤ 0) (P_RD : RD h a0) : MV l D cy w z0 yX12_test cX12_test 3 none 20 444 0 0 [.inr (.inr a0), .inl a1] h (fun h1 => Okh h1 ∧ Fx wr_k_test_0 h h1 ∧ (RD h1 a0) ∧ (ST h h1 a0) ∧ (CF h h1 a0) ∧ (PUf h1 a0 (Iv h a0 28))) := by
  obtain ⟨v1, e2⟩ : ∃ z, Iv h a0 7 = z := ⟨_, rfl⟩
  have f3 := ok_I O ta0 rI_12_7 e2
  obtain ⟨v4, e5⟩ : ∃ z, Iv h a0 8 = z := ⟨_, rfl⟩
  have f6 := ok_I O ta0 rI_12_8 e5
  obtain ⟨v7, e8⟩ : ∃ z, Iv h a0 28 = z := ⟨_, rfl⟩
  have f9 := ok_I O ta0 rI_12_28 e8
  obtain ⟨p10, p11, p12, p13⟩ := P_RD
  obtain ⟨v14, e15⟩ : ∃ z, NT h a0 = z := ⟨_, rfl⟩
  have f16 : (0 : Int) ≤ v14 ∧ v14 ≤ (1500 : Int) := NT_rng p10 e15
  rw [e2, e15] at p11
  rw [e5, e2, e15] at p12
  rw [e8, e2] at p13
  refine hm_go (by decide +kernel) (Nat.le_of_ble_eq_true rfl) (fun p e s m below meth c C hr hn => ?_)
  refine g_aload_n C rfl 0 rfl dX12_test_0 ?_
  refine g_iload_n C rfl 1 rfl dX12_test_1 ?_
  refine g_callV (st := []) (gc_V C lk_LandSurveyModel_402 (k_sums_0 l D cy w z0 O ta0 fa1 ⟨p10, by rw [e2, e15]; omega, by rw [e5, e2, e15]; omega, by rw [e8, e2]; omega⟩) ta0 rfl rfl rfl ⟨by decide, by decide⟩ (Nat.le_of_ble_eq_true rfl) dX12_test_2 ⟨(by decide), (by decide)⟩) (fun h18 K19 => ?_)
  obtain ⟨O21, F22, p23, p24, p25, p26⟩ := K19
  obtain ⟨v27, e28⟩ : ∃ z, Iv h18 a0 7 = z := ⟨_, rfl⟩
  have e29 : Tg h18 a0 = 12 := (fxT F22 ta0)
  have f30 := ok_I O21 e29 rI_12_7 e28
  obtain ⟨v31, e32⟩ : ∃ z, Iv h18 a0 8 = z := ⟨_, rfl⟩
  have f33 := ok_I O21 e29 rI_12_8 e32
  obtain ⟨v34, e35⟩ : ∃ z, Iv h18 a0 28 = z := ⟨_, rfl⟩
  have f36 := ok_I O21 e29 rI_12_28 e35
  obtain ⟨p37, p38, p39, p40⟩ := p23
  have p41 := ((NT_fx O F22 ta0 rfl).trans e15)
  rw [e28, p41] at p38
  rw [e32, e28, p41] at p39
  rw [e35, e28] at p40
  have p42 := p24
  unfold ST at p42
  rw [e2, e28, e8, e35, e5, e32] at p42
  refine g_aload_n C rfl 0 rfl dX12_test_5 ?_
  refine g_bipush C (by decide) dX12_test_6 ?_
  refine g_callI (st := []) (gc_V C lk_LandSurveyModel_323 (k_X12_isSign l D cy w z0 O21 e29 (iw (il 60) (by decide) (by decide)) ⟨p37, by rw [e28, p41]; omega, by rw [e32, e28, p41]; omega, by rw [e35, e28]; omega⟩) e29 rfl rfl rfl ⟨by decide, by decide⟩ (Nat.le_of_ble_eq_true rfl) dX12_test_8 ⟨(by decide), (by decide)⟩) (fun r43 h44 f46 K45 => ?_)
  obtain ⟨O47, F48, f49, p50, p51⟩ := K45
  rw [e32, e28, p41] at p50
  obtain ⟨v52, e53⟩ : ∃ z, Rv h18 a0 4 = z := ⟨_, rfl⟩
  have t54 := ok_R O21 e29 rE_12_4 e53
  have l55 := ok_L O21 e29 rE_12_4 e53
  obtain ⟨v56, e57⟩ : ∃ z, Iv h18 v52 v27.toNat = z := ⟨_, rfl⟩
  have f58 := ok_Ia O21 t54 ar_104100 rI_104100_0 e57
  obtain ⟨v59, e60⟩ : ∃ z, Rv h18 a0 6 = z := ⟨_, rfl⟩
  have t61 := ok_R O21 e29 rE_12_6 e60
  have l62 := ok_L O21 e29 rE_12_6 e60
  obtain ⟨v63, e64⟩ : ∃ z, Jv h18 v59 v27.toNat = z := ⟨_, rfl⟩
  have f65 := inL_J O21 e64
  rw [e32, e53, e28, e57, e60, e64] at p51
  refine g_istore_n C [(2, .inl r43), (0, .inr (.inr a0)), (1, .inl a1)] rfl (by decide) rfl dX12_test_11 ?_
  refine g_aload_n C rfl 1 rfl dX12_test_12 ?_
  refine g_bipush C (by decide) dX12_test_13 ?_
  have e66 : Tg h44 a0 = 12 := (fxT F48 e29)
  have e67 : Iv h44 a0 7 = v27 := ((fxI F48 e29 rfl).trans e28)
  have e68 : Iv h44 a0 8 = v31 := ((fxI F48 e29 rfl).trans e32)
  have e69 : Iv h44 a0 28 = v34 := ((fxI F48 e29 rfl).trans e35)
  have p70 := (TK_fx O21 F48 e29 rfl p37)
  have p71 := ((NT_fx O21 F48 e29 rfl).trans p41)
  refine g_callI (st := []) (gc_V C lk_LandSurveyModel_405 (k_X12_hasSign l D cy w z0 O47 e66 (iw (il 60) (by decide) (by decide)) ⟨p70, by rw [e67, p71]; omega, by rw [e68, e67, p71]; omega, by rw [e69, e67]; omega⟩) e66 rfl rfl rfl ⟨by decide, by decide⟩ (Nat.le_of_ble_eq_true rfl) dX12_test_15 ⟨(by decide), (by decide)⟩) (fun r72 h73 f75 K74 => ?_)
  obtain ⟨O76, F77, f78, p79, p80, p81⟩ := K74
  rw [e68, e67, p71] at p79
  have e82 : Rv h44 a0 4 = v52 := ((fxR F48 e29 rfl).trans e53)
  have e83 : Iv h44 v52 v27.toNat = v56 := ((fxIa F48 t54 ar_104100 rfl).trans e57)
  have e84 : Rv h44 a0 6 = v59 := ((fxR F48 e29 rfl).trans e60)
  have e85 : Jv h44 v59 v27.toNat = v63 := ((fxJa F48 t61 ar_106102 rfl).trans e64)
  rw [e68, e82, e67, e83, e84, e85] at p80
  obtain ⟨v86, e87⟩ : ∃ z, Iv h73 a0 7 = z := ⟨_, rfl⟩
  have e88 : Tg h73 a0 = 12 := (fxT F77 e66)
  have f89 := ok_I O76 e88 rI_12_7 e87
  rw [e87, e67] at p81
  refine g_if_ne C (iw f78 (by decide) (by decide)) 30 (by decide) dX12_test_18 (fun q90 => ?_) (fun q91 => ?_)
  · have f92 : (1 : Int) ≤ r72 ∧ r72 ≤ (1 : Int) := r_nl f78 q90
    refine g_aload_n C rfl 1 rfl dX12_test_30 ?_
    refine g_iload_n C rfl 2 rfl dX12_test_31 ?_
    have e93 : Iv h73 a0 8 = v31 := ((fxI F77 e66 rfl).trans e68)
    have e94 : Iv h73 a0 28 = v34 := ((fxI F77 e66 rfl).trans e69)
    have p95 := (TK_fx O47 F77 e66 rfl p70)
    have p96 := ((NT_fx O47 F77 e66 rfl).trans p71)
    refine g_callV (st := []) (gc_V C lk_LandSurveyModel_402 (k_sums_0 l D cy w z0 O76 e88 fa1 ⟨p95, by rw [e87, p96]; omega, by rw [e93, e87, p96]; omega, by rw [e94, e87]; omega⟩) e88 rfl rfl rfl ⟨by decide, by decide⟩ (Nat.le_of_ble_eq_true rfl) dX12_test_32 ⟨(by decide), (by decide)⟩) (fun h98 K99 => ?_)
    obtain ⟨O101, F102, p103, p104, p105, p106⟩ := K99
    obtain ⟨v107, e108⟩ : ∃ z, Iv h98 a0 7 = z := ⟨_, rfl⟩
    have e109 : Tg h98 a0 = 12 := (fxT F102 e88)
    have f110 := ok_I O101 e109 rI_12_7 e108
    obtain ⟨v111, e112⟩ : ∃ z, Iv h98 a0 8 = z := ⟨_, rfl⟩
    have f113 := ok_I O101 e109 rI_12_8 e112
    obtain ⟨v114, e115⟩ : ∃ z, Iv h98 a0 28 = z := ⟨_, rfl⟩
    have f116 := ok_I O101 e109 rI_12_28 e115
    obtain ⟨p117, p118, p119, p120⟩ := p103
    have p121 := ((NT_fx O76 F102 e88 rfl).trans p96)
    rw [e108, p121] at p118
    rw [e112, e108, p121] at p119
    rw [e115, e108] at p120
    have p122 := p104
    unfold ST at p122
    rw [e87, e108, e94, e115, e93, e112] at p122
    refine g_aload_n C rfl 1 rfl dX12_test_35 ?_
    refine g_iload_n C rfl 0 rfl dX12_test_36 ?_
    refine g_if_eq C (iw f49 (by decide) (by decide)) 45 (by decide) dX12_test_37 (fun q123 => ?_) (fun q124 => ?_)
    · have f125 : (0 : Int) ≤ r43 ∧ r43 ≤ (0 : Int) := ii f49 (r_eq (il 0) q123) (by decide) (by decide)
      refine g_bipush C (by decide) dX12_test_45 ?_
      refine g_iconst C dX12_test_47 ?_
      refine g_callV (st := []) (gc_V C lk_LandSurveyModel_395 (k_X12_emit l D cy w z0 O101 e109 (iw (il 7) (by decide) (by decide)) (iw (il 0) (by decide) (by decide)) (by rw [e115]; omega)) e109 rfl rfl rfl ⟨by decide, by decide⟩ (Nat.le_of_ble_eq_true rfl) dX12_test_48 ⟨(by decide), (by decide)⟩) (fun h127 K128 => ?_)
      obtain ⟨O130, F131, p132⟩ := K128
      have e133 : Iv h127 a0 28 = v114 + 1 := by rw [p132.1, e115]
      obtain ⟨v134, e135⟩ : ∃ z, Iv h127 a0 28 = z := ⟨_, rfl⟩
      have e136 : Tg h127 a0 = 12 := (fxT F131 e109)
      have f137 := ok_I O130 e136 rI_12_28 e135
      rw [e135] at e133
      have p138 := (PUf_fx O47 F77 e66 rfl (PUf_fx O21 F48 e29 rfl p26))
      have p139 : PUf h127 a0 (Iv h a0 28) := PUf_bin p138 p105 p104.2.2 p106 p132 (mIv (j := 8) F131 e109 rfl) (by omega)
      have e140 : Iv h127 a0 7 = v107 := ((fxI F131 e109 rfl).trans e108)
      have e141 : Iv h127 a0 8 = v111 := ((fxI F131 e109 rfl).trans e112)
      have p142 := (TK_fx O101 F131 e109 rfl p117)
      have p143 := ((NT_fx O101 F131 e109 rfl).trans p121)
      have p144 := (CF.trans (CF.trans (CF.trans (CF.trans (CF.trans (CF.rf (h := h) (m := a0)) p25) (CF_fx O21 F48 e29 rfl)) (CF_fx O47 F77 e66 rfl)) p105) (EM.cf p132))
      exact g_vret C hr ⟨O130, ((((((Fx.rf (wr := wr_k_test_0)).call F22 rfl).call F48 rfl).call F77 rfl).call F102 rfl).call F131 rfl), ⟨p142, by rw [e140, p143]; omega, by rw [e141, e140, p143]; omega, by rw [e135, e140]; omega⟩, (by unfold ST; rw [e2, e140, e8, e135, e5, e141]; omega), p144, p139⟩ (by decide) (by decide) dX12_test_51
    · have f145 : (1 : Int) ≤ r43 ∧ r43 ≤ (1 : Int) := r_nl f49 q124
      refine g_bipush C (by decide) dX12_test_40 ?_
      refine g_goto C 47 (by decide) dX12_test_42 ?_
      refine g_iconst C dX12_test_47 ?_
      refine g_callV (st := []) (gc_V C lk_LandSurveyModel_395 (k_X12_emit l D cy w z0 O101 e109 (iw (il 6) (by decide) (by decide)) (iw (il 0) (by decide) (by decide)) (by rw [e115]; omega)) e109 rfl rfl rfl ⟨by decide, by decide⟩ (Nat.le_of_ble_eq_true rfl) dX12_test_48 ⟨(by decide), (by decide)⟩) (fun h147 K148 => ?_)
      obtain ⟨O150, F151, p152⟩ := K148
      have e153 : Iv h147 a0 28 = v114 + 1 := by rw [p152.1, e115]
      obtain ⟨v154, e155⟩ : ∃ z, Iv h147 a0 28 = z := ⟨_, rfl⟩
      have e156 : Tg h147 a0 = 12 := (fxT F151 e109)
      have f157 := ok_I O150 e156 rI_12_28 e155
      rw [e155] at e153
      have p158 := (PUf_fx O47 F77 e66 rfl (PUf_fx O21 F48 e29 rfl p26))
      have p159 : PUf h147 a0 (Iv h a0 28) := PUf_bin p158 p105 p104.2.2 p106 p152 (mIv (j := 8) F151 e109 rfl) (by omega)
      have e160 : Iv h147 a0 7 = v107 := ((fxI F151 e109 rfl).trans e108)
      have e161 : Iv h147 a0 8 = v111 := ((fxI F151 e109 rfl).trans e112)
      have p162 := (TK_fx O101 F151 e109 rfl p117)
      have p163 := ((NT_fx O101 F151 e109 rfl).trans p121)
      have p164 := (CF.trans (CF.trans (CF.trans (CF.trans (CF.trans (CF.rf (h := h) (m := a0)) p25) (CF_fx O21 F48 e29 rfl)) (CF_fx O47 F77 e66 rfl)) p105) (EM.cf p152))
      exact g_vret C hr ⟨O150, ((((((Fx.rf (wr := wr_k_test_0)).call F22 rfl).call F48 rfl).call F77 rfl).call F102 rfl).call F151 rfl), ⟨p162, by rw [e160, p163]; omega, by rw [e161, e160, p163]; omega, by rw [e155, e160]; omega⟩, (by unfold ST; rw [e2, e160, e8, e155, e5, e161]; omega), p164, p159⟩ (by decide) (by decide) dX12_test_51
  · have f165 : (0 : Int) ≤ r72 ∧ r72 ≤ (0 : Int) := ii f78 (r_eq (il 0) q91) (by decide) (by decide)
    refine g_aload_n C rfl 1 rfl dX12_test_21 ?_
    refine g_bipush C (by decide) dX12_test_22 ?_
    have e166 : Iv h73 a0 8 = v31 := ((fxI F77 e66 rfl).trans e68)
    have e167 : Iv h73 a0 28 = v34 := ((fxI F77 e66 rfl).trans e69)
    have p168 := (TK_fx O47 F77 e66 rfl p70)
    have p169 := ((NT_fx O47 F77 e66 rfl).trans p71)
    refine g_callI (st := []) (gc_V C lk_LandSurveyModel_405 (k_X12_hasSign l D cy w z0 O76 e88 (iw (il 61) (by decide) (by decide)) ⟨p168, by rw [e87, p169]; omega, by rw [e166, e87, p169]; omega, by rw [e167, e87]; omega⟩) e88 rfl rfl rfl ⟨by decide, by decide⟩ (Nat.le_of_ble_eq_true rfl) dX12_test_24 ⟨(by decide), (by decide)⟩) (fun r170 h171 f173 K172 => ?_)
    obtain ⟨O174, F175, f176, p177, p178, p179⟩ := K172
    rw [e166, e87, p169] at p177
    have e180 : Rv h73 a0 4 = v52 := ((fxR F77 e66 rfl).trans e82)
    obtain ⟨v181, e182⟩ : ∃ z, Iv h73 v52 v86.toNat = z := ⟨_, rfl⟩
    have e183 : Tg h73 v52 = 104100 := (fxT F77 (fxT F48 t54))
    have f184 := ok_Ia O76 e183 ar_104100 rI_104100_0 e182
    have e185 : Rv h73 a0 6 = v59 := ((fxR F77 e66 rfl).trans e84)
    obtain ⟨v186, e187⟩ : ∃ z, Jv h73 v59 v86.toNat = z := ⟨_, rfl⟩
    have e188 : Tg h73 v59 = 106102 := (fxT F77 (fxT F48 t61))
    have f189 := inL_J O76 e187
    rw [e166, e180, e87, e182, e185, e187] at p178
    obtain ⟨v190, e191⟩ : ∃ z, Iv h171 a0 7 = z := ⟨_, rfl⟩
    have e192 : Tg h171 a0 = 12 := (fxT F175 e88)
    have f193 := ok_I O174 e192 rI_12_7 e191
    rw [e191, e87] at p179
    refine g_if_eq C (iw f176 (by decide) (by decide)) 51 (by decide) dX12_test_27 (fun q194 => ?_) (fun q195 => ?_)
    · have f196 : (0 : Int) ≤ r170 ∧ r170 ≤ (0 : Int) := ii f176 (r_eq (il 0) q194) (by decide) (by decide)
      have e197 : Iv h171 a0 8 = v31 := ((fxI F175 e88 rfl).trans e166)
      have e198 : Iv h171 a0 28 = v34 := ((fxI F175 e88 rfl).trans e167)
      have p199 := (TK_fx O76 F175 e88 rfl p168)
      have p200 := ((NT_fx O76 F175 e88 rfl).trans p169)
      have p201 := (CF.trans (CF.trans (CF.trans (CF.trans (CF.rf (h := h) (m := a0)) p25) (CF_fx O21 F48 e29 rfl)) (CF_fx O47 F77 e66 rfl)) (CF_fx O76 F175 e88 rfl))
      have p202 := (PUf_fx O76 F175 e88 rfl (PUf_fx O47 F77 e66 rfl (PUf_fx O21 F48 e29 rfl p26)))
      exact g_vret C hr ⟨O174, (((((Fx.rf (wr := wr_k_test_0)).call F22 rfl).call F48 rfl).call F77 rfl).call F175 rfl), ⟨p199, by rw [e191, p200]; omega, by rw [e197, e191, p200]; omega, by rw [e198, e191]; omega⟩, (by unfold ST; rw [e2, e191, e8, e198, e5, e197]; omega), p201, p202⟩ (by decide) (by decide) dX12_test_51
    · have f203 : (1 : Int) ≤ r170 ∧ r170 ≤ (1 : Int) := r_nl f176 q195
      refine g_aload_n C rfl 1 rfl dX12_test_30 ?_
      refine g_iload_n C rfl 2 rfl dX12_test_31 ?_
      have e204 : Iv h171 a0 8 = v31 := ((fxI F175 e88 rfl).trans e166)
      have e205 : Iv h171 a0 28 = v34 := ((fxI F175 e88 rfl).trans e167)
      have p206 := (TK_fx O76 F175 e88 rfl p168)
      have p207 := ((NT_fx O76 F175 e88 rfl).trans p169)
      refine g_callV (st := []) (gc_V C lk_LandSurveyModel_402 (k_sums_0 l D cy w z0 O174 e192 fa1 ⟨p206, by rw [e191, p207]; omega, by rw [e204, e191, p207]; omega, by rw [e205, e191]; omega⟩) e192 rfl rfl rfl ⟨by decide, by decide⟩ (Nat.le_of_ble_eq_true rfl) dX12_test_32 ⟨(by decide), (by decide)⟩) (fun h209 K210 => ?_)
      obtain ⟨O212, F213, p214, p215, p216, p217⟩ := K210
      obtain ⟨v218, e219⟩ : ∃ z, Iv h209 a0 7 = z := ⟨_, rfl⟩
      have e220 : Tg h209 a0 = 12 := (fxT F213 e192)
      have f221 := ok_I O212 e220 rI_12_7 e219
      obtain ⟨v222, e223⟩ : ∃ z, Iv h209 a0 8 = z := ⟨_, rfl⟩
      have f224 := ok_I O212 e220 rI_12_8 e223
      obtain ⟨v225, e226⟩ : ∃ z, Iv h209 a0 28 = z := ⟨_, rfl⟩
      have f227 := ok_I O212 e220 rI_12_28 e226
      obtain ⟨p228, p229, p230, p231⟩ := p214
      have p232 := ((NT_fx O174 F213 e192 rfl).trans p207)
      rw [e219, p232] at p229
      rw [e223, e219, p232] at p230
      rw [e226, e219] at p231
      have p233 := p215
      unfold ST at p233
      rw [e191, e219, e205, e226, e204, e223] at p233
      refine g_aload_n C rfl 1 rfl dX12_test_35 ?_
      refine g_iload_n C rfl 0 rfl dX12_test_36 ?_
      refine g_if_eq C (iw f49 (by decide) (by decide)) 45 (by decide) dX12_test_37 (fun q234 => ?_) (fun q235 => ?_)
      · have f236 : (0 : Int) ≤ r43 ∧ r43 ≤ (0 : Int) := ii f49 (r_eq (il 0) q234) (by decide) (by decide)
        refine g_bipush C (by decide) dX12_test_45 ?_
        refine g_iconst C dX12_test_47 ?_
        refine g_callV (st := []) (gc_V C lk_LandSurveyModel_395 (k_X12_emit l D cy w z0 O212 e220 (iw (il 7) (by decide) (by decide)) (iw (il 0) (by decide) (by decide)) (by rw [e226]; omega)) e220 rfl rfl rfl ⟨by decide, by decide⟩ (Nat.le_of_ble_eq_true rfl) dX12_test_48 ⟨(by decide), (by decide)⟩) (fun h238 K239 => ?_)
        obtain ⟨O241, F242, p243⟩ := K239
        have e244 : Iv h238 a0 28 = v225 + 1 := by rw [p243.1, e226]
        obtain ⟨v245, e246⟩ : ∃ z, Iv h238 a0 28 = z := ⟨_, rfl⟩
        have e247 : Tg h238 a0 = 12 := (fxT F242 e220)
        have f248 := ok_I O241 e247 rI_12_28 e246
        rw [e246] at e244
        have p249 := (PUf_fx O76 F175 e88 rfl (PUf_fx O47 F77 e66 rfl (PUf_fx O21 F48 e29 rfl p26)))
        have p250 : PUf h238 a0 (Iv h a0 28) := PUf_bin p249 p216 p215.2.2 p217 p243 (mIv (j := 8) F242 e220 rfl) (by omega)
        have e251 : Iv h238 a0 7 = v218 := ((fxI F242 e220 rfl).trans e219)
        have e252 : Iv h238 a0 8 = v222 := ((fxI F242 e220 rfl).trans e223)
        have p253 := (TK_fx O212 F242 e220 rfl p228)
        have p254 := ((NT_fx O212 F242 e220 rfl).trans p232)
        have p255 := (CF.trans (CF.trans (CF.trans (CF.trans (CF.trans (CF.trans (CF.rf (h := h) (m := a0)) p25) (CF_fx O21 F48 e29 rfl)) (CF_fx O47 F77 e66 rfl)) (CF_fx O76 F175 e88 rfl)) p216) (EM.cf p243))
        exact g_vret C hr ⟨O241, (((((((Fx.rf (wr := wr_k_test_0)).call F22 rfl).call F48 rfl).call F77 rfl).call F175 rfl).call F213 rfl).call F242 rfl), ⟨p253, by rw [e251, p254]; omega, by rw [e252, e251, p254]; omega, by rw [e246, e251]; omega⟩, (by unfold ST; rw [e2, e251, e8, e246, e5, e252]; omega), p255, p250⟩ (by decide) (by decide) dX12_test_51
      · have f256 : (1 : Int) ≤ r43 ∧ r43 ≤ (1 : Int) := r_nl f49 q235
        refine g_bipush C (by decide) dX12_test_40 ?_
        refine g_goto C 47 (by decide) dX12_test_42 ?_
        refine g_iconst C dX12_test_47 ?_
        refine g_callV (st := []) (gc_V C lk_LandSurveyModel_395 (k_X12_emit l D cy w z0 O212 e220 (iw (il 6) (by decide) (by decide)) (iw (il 0) (by decide) (by decide)) (by rw [e226]; omega)) e220 rfl rfl rfl ⟨by decide, by decide⟩ (Nat.le_of_ble_eq_true rfl) dX12_test_48 ⟨(by decide), (by decide)⟩) (fun h258 K259 => ?_)
        obtain ⟨O261, F262, p263⟩ := K259
        have e264 : Iv h258 a0 28 = v225 + 1 := by rw [p263.1, e226]
        obtain ⟨v265, e266⟩ : ∃ z, Iv h258 a0 28 = z := ⟨_, rfl⟩
        have e267 : Tg h258 a0 = 12 := (fxT F262 e220)
        have f268 := ok_I O261 e267 rI_12_28 e266
        rw [e266] at e264
        have p269 := (PUf_fx O76 F175 e88 rfl (PUf_fx O47 F77 e66 rfl (PUf_fx O21 F48 e29 rfl p26)))
        have p270 : PUf h258 a0 (Iv h a0 28) := PUf_bin p269 p216 p215.2.2 p217 p263 (mIv (j := 8) F262 e220 rfl) (by omega)
        have e271 : Iv h258 a0 7 = v218 := ((fxI F262 e220 rfl).trans e219)
        have e272 : Iv h258 a0 8 = v222 := ((fxI F262 e220 rfl).trans e223)
        have p273 := (TK_fx O212 F262 e220 rfl p228)
        have p274 := ((NT_fx O212 F262 e220 rfl).trans p232)
        have p275 := (CF.trans (CF.trans (CF.trans (CF.trans (CF.trans (CF.trans (CF.rf (h := h) (m := a0)) p25) (CF_fx O21 F48 e29 rfl)) (CF_fx O47 F77 e66 rfl)) (CF_fx O76 F175 e88 rfl)) p216) (EM.cf p263))
        exact g_vret C hr ⟨O261, (((((((Fx.rf (wr := wr_k_test_0)).call F22 rfl).call F48 rfl).call F77 rfl).call F175 rfl).call F213 rfl).call F262 rfl), ⟨p273, by rw [e271, p274]; omega, by rw [e272, e271, p274]; omega, by rw [e266, e271]; omega⟩, (by unfold ST; rw [e2, e271, e8, e266, e5, e272]; omega), p275, p270⟩ (by decide) (by decide) dX12_test_51
def wr_k_all_0 : List Nat := [2407, 2408, 2428, 25820000, 26020000]
set_option maxRecDepth 100000 in
set_option maxHeartbeats 4000000 in
theorem k_all_0 (l : Launch) (D : va_G) (cy : Nat → ClassId) (w : Nat → Nat) (z0 : Nat)  {h : Hp} {a0 : Nat} {a1 : Int}  (O : Okh h) (ta0 : Tg h a0 = 12) (fa1 : 0 ≤ a1 ∧ a1 ≤ 0) (P_RD : RD h a0) : MV l D cy w z0 yX12_all cX12_all 3 none 21 466 0 0 [.inr (.inr a0), .inl a1] h (fun h1 => Okh h1 ∧ Fx wr_k_all_0 h h1 ∧ (RD h1 a0) ∧ (ST h h1 a0) ∧ (CF h h1 a0) ∧ (PUf h1 a0 (Iv h a0 28))) := by
  obtain ⟨v1, e2⟩ : ∃ z, Iv h a0 7 = z := ⟨_, rfl⟩
  have f3 := ok_I O ta0 rI_12_7 e2
  obtain ⟨v4, e5⟩ : ∃ z, Iv h a0 8 = z := ⟨_, rfl⟩
  have f6 := ok_I O ta0 rI_12_8 e5
  obtain ⟨v7, e8⟩ : ∃ z, Iv h a0 28 = z := ⟨_, rfl⟩
  have f9 := ok_I O ta0 rI_12_28 e8
  obtain ⟨p10, p11, p12, p13⟩ := P_RD
  obtain ⟨v14, e15⟩ : ∃ z, NT h a0 = z := ⟨_, rfl⟩
  have f16 : (0 : Int) ≤ v14 ∧ v14 ≤ (1500 : Int) := NT_rng p10 e15
  rw [e2, e15] at p11
  rw [e5, e2, e15] at p12
  rw [e8, e2] at p13
  refine hm_go (by decide +kernel) (Nat.le_of_ble_eq_true rfl) (fun p e s m below meth c C hr hn => ?_)
  refine g_aload_n C rfl 0 rfl dX12_all_0 ?_
  refine g_iload_n C rfl 1 rfl dX12_all_1 ?_
  refine g_callV (st := []) (gc_V C lk_LandSurveyModel_399 (k_test_0 l D cy w z0 O ta0 fa1 ⟨p10, by rw [e2, e15]; omega, by rw [e5, e2, e15]; omega, by rw [e8, e2]; omega⟩) ta0 rfl rfl rfl ⟨by decide, by decide⟩ (Nat.le_of_ble_eq_true rfl) dX12_all_2 ⟨(by decide), (by decide)⟩) (fun h18 K19 => ?_)
  obtain ⟨O21, F22, p23, p24, p25, p26⟩ := K19
  obtain ⟨v27, e28⟩ : ∃ z, Iv h18 a0 7 = z := ⟨_, rfl⟩
  have e29 : Tg h18 a0 = 12 := (fxT F22 ta0)
  have f30 := ok_I O21 e29 rI_12_7 e28
  obtain ⟨v31, e32⟩ : ∃ z, Iv h18 a0 8 = z := ⟨_, rfl⟩
  have f33 := ok_I O21 e29 rI_12_8 e32
  obtain ⟨v34, e35⟩ : ∃ z, Iv h18 a0 28 = z := ⟨_, rfl⟩
  have f36 := ok_I O21 e29 rI_12_28 e35
  obtain ⟨p37, p38, p39, p40⟩ := p23
  have p41 := ((NT_fx O F22 ta0 rfl).trans e15)
  rw [e28, p41] at p38
  rw [e32, e28, p41] at p39
  rw [e35, e28] at p40
  have p42 := p24
  unfold ST at p42
  rw [e2, e28, e8, e35, e5, e32] at p42
  refine GW.sub [0, 1] rfl ?_
  -- loop at 5
  have L44 : ∀ (μ : Nat) (h43 : Hp), (1502 - Iv h43 a0 7).toNat = μ → Okh h43 → Fx [2407, 2408, 2428, 25820000, 26020000] h18 h43 → (RD h43 a0) → (ST h h43 a0) → (CF h h43 a0) → (PUf h43 a0 (Iv h a0 28)) → GW p l e (rmm 21 466 0 0) s m (List.map toV [.inr (.inr a0), .inl a1]).toArray below meth c D cy z0 3 (MQ below (QV D cy z0 (fun h1 => Okh h1 ∧ Fx wr_k_all_0 h h1 ∧ (RD h1 a0) ∧ (ST h h1 a0) ∧ (CF h h1 a0) ∧ (PUf h1 a0 (Iv h a0 28)))) (List.map toV [.inr (.inr a0), .inl a1]).toArray s 0 0 (Aof z0)) 5 [(0, .inr (.inr a0)), (1, .inl a1)] [] h43 0 0 := by
    intro μ
    induction μ using Nat.strongRecOn with
    | ind μ ih45 =>
      intro h43 hm46 O47 F48 p49 p50 p51 p52
      obtain ⟨v53, e54⟩ : ∃ z, Iv h43 a0 7 = z := ⟨_, rfl⟩
      have e55 : Tg h43 a0 = 12 := (fxT F48 e29)
      have f56 := ok_I O47 e55 rI_12_7 e54
      obtain ⟨v57, e58⟩ : ∃ z, Iv h43 a0 8 = z := ⟨_, rfl⟩
      have f59 := ok_I O47 e55 rI_12_8 e58
      obtain ⟨v60, e61⟩ : ∃ z, Iv h43 a0 28 = z := ⟨_, rfl⟩
      have f62 := ok_I O47 e55 rI_12_28 e61
      obtain ⟨p63, p64, p65, p66⟩ := p49
      have p67 := ((NT_fx O21 F48 e29 rfl).trans p41)
      rw [e54, p67] at p64
      rw [e58, e54, p67] at p65
      rw [e61, e54] at p66
      have p68 := p50
      unfold ST at p68
      rw [e2, e54, e8, e61, e5, e58] at p68
      refine g_aload_n C rfl 0 rfl dX12_all_5 ?_
      refine g_bipush C (by decide) dX12_all_6 ?_
      refine g_callI (st := []) (gc_V C lk_LandSurveyModel_330 (k_X12_isWord l D cy w z0 O47 e55 (iw (il 15) (by decide) (by decide)) ⟨p63, by rw [e54, p67]; omega, by rw [e58, e54, p67]; omega, by rw [e61, e54]; omega⟩) e55 rfl rfl rfl ⟨by decide, by decide⟩ (Nat.le_of_ble_eq_true rfl) dX12_all_8 ⟨(by decide), (by decide)⟩) (fun r69 h70 f72 K71 => ?_)
      obtain ⟨O73, F74, f75, p76, p77⟩ := K71
      rw [e58, e54, p67] at p76
      obtain ⟨v78, e79⟩ : ∃ z, Rv h43 a0 4 = z := ⟨_, rfl⟩
      have t80 := ok_R O47 e55 rE_12_4 e79
      have l81 := ok_L O47 e55 rE_12_4 e79
      obtain ⟨v82, e83⟩ : ∃ z, Iv h43 v78 v53.toNat = z := ⟨_, rfl⟩
      have f84 := ok_Ia O47 t80 ar_104100 rI_104100_0 e83
      obtain ⟨v85, e86⟩ : ∃ z, Rv h43 a0 6 = z := ⟨_, rfl⟩
      have t87 := ok_R O47 e55 rE_12_6 e86
      have l88 := ok_L O47 e55 rE_12_6 e86
      obtain ⟨v89, e90⟩ : ∃ z, Jv h43 v85 v53.toNat = z := ⟨_, rfl⟩
      have f91 := inL_J O47 e90
      obtain ⟨v92, e93⟩ : ∃ z, Rv h43 a0 9 = z := ⟨_, rfl⟩
      have t94 := ok_R O47 e55 rE_12_9 e93
      have l95 := ok_L O47 e55 rE_12_9 e93
      obtain ⟨v96, e97⟩ : ∃ z, Jv h43 v92 ((15 : Int).toNat) = z := ⟨_, rfl⟩
      have f98 := inL_J O47 e97
      rw [e58, e79, e54, e83, e86, e90, e93, e97] at p77
      refine g_if_ne C (iw f75 (by decide) (by decide)) 23 (by decide) dX12_all_11 (fun q99 => ?_) (fun q100 => ?_)
      · have f101 : (1 : Int) ≤ r69 ∧ r69 ≤ (1 : Int) := r_nl f75 q99
        refine g_aload_n C rfl 0 rfl dX12_all_23 ?_
        refine g_bipush C (by decide) dX12_all_24 ?_
        have e102 : Tg h70 a0 = 12 := (fxT F74 e55)
        have e103 : Iv h70 a0 7 = v53 := ((fxI F74 e55 rfl).trans e54)
        have e104 : Iv h70 a0 8 = v57 := ((fxI F74 e55 rfl).trans e58)
        have e105 : Iv h70 a0 28 = v60 := ((fxI F74 e55 rfl).trans e61)
        have p106 := (TK_fx O47 F74 e55 rfl p63)
        have p107 := ((NT_fx O47 F74 e55 rfl).trans p67)
        refine g_callI (st := []) (gc_V C lk_LandSurveyModel_330 (k_X12_isWord l D cy w z0 O73 e102 (iw (il 15) (by decide) (by decide)) ⟨p106, by rw [e103, p107]; omega, by rw [e104, e103, p107]; omega, by rw [e105, e103]; omega⟩) e102 rfl rfl rfl ⟨by decide, by decide⟩ (Nat.le_of_ble_eq_true rfl) dX12_all_26 ⟨(by decide), (by decide)⟩) (fun r108 h109 f111 K110 => ?_)
        obtain ⟨O112, F113, f114, p115, p116⟩ := K110
        rw [e104, e103, p107] at p115
        have e117 : Rv h70 a0 4 = v78 := ((fxR F74 e55 rfl).trans e79)
        have e118 : Iv h70 v78 v53.toNat = v82 := ((fxIa F74 t80 ar_104100 rfl).trans e83)
        have e119 : Rv h70 a0 6 = v85 := ((fxR F74 e55 rfl).trans e86)
        have e120 : Jv h70 v85 v53.toNat = v89 := ((fxJa F74 t87 ar_106102 rfl).trans e90)
        have e121 : Rv h70 a0 9 = v92 := ((fxR F74 e55 rfl).trans e93)
        have e122 : Jv h70 v92 ((15 : Int).toNat) = v96 := ((fxJa F74 t94 ar_109102 rfl).trans e97)
        rw [e104, e117, e103, e118, e119, e120, e121, e122] at p116
        refine g_istore_n C [(2, .inl r108), (0, .inr (.inr a0)), (1, .inl a1)] rfl (by decide) rfl dX12_all_29 ?_
        refine g_aload_n C rfl 1 rfl dX12_all_30 ?_
        refine g_dup C rfl dX12_all_31 ?_
        have e123 : Tg h109 a0 = 12 := (fxT F113 e102)
        have e124 : Iv h109 a0 7 = v53 := ((fxI F113 e102 rfl).trans e103)
        refine gf_I C fk_LandSurveyModel_317 rfl e123 e124 dX12_all_32 ?_
        refine g_iconst C dX12_all_35 ?_
        have f125 : (1 : Int) ≤ (v53 + 1) ∧ (v53 + 1) ≤ (1502 : Int) := ia_add f56 (il 1) (by decide) (by decide)
        refine g_iadd C dX12_all_36 ?_
        refine gp_I C fk_LandSurveyModel_317 pk_LandSurveyModel_7 rfl e123 (iw f125 (by decide) (by decide)) (nf_i _) dX12_all_37 (fun h127 hh126 => ?_)
        have O128 := O112.pI e123 hh126 rI_12_7 (by omega) nofun
        refine g_aload_n C rfl 1 rfl dX12_all_40 ?_
        refine g_iload_n C rfl 2 rfl dX12_all_41 ?_
        have e129 : Tg h127 a0 = 12 := ((pIT hh126).trans e123)
        have e130 : Iv h127 a0 8 = v57 := ((pI_j hh126 (by decide)).trans ((fxI F113 e102 rfl).trans e104))
        have e131 : Iv h127 a0 28 = v60 := ((pI_j hh126 (by decide)).trans ((fxI F113 e102 rfl).trans e105))
        have p132 := (TK_fx O112 ((Fx.rf (wr := [2407]) (h := h109)).pI e123 hh126 rfl) e123 rfl (TK_fx O73 F113 e102 rfl p106))
        have p133 := ((NT_fx O112 ((Fx.rf (wr := [2407]) (h := h109)).pI e123 hh126 rfl) e123 rfl).trans ((NT_fx O73 F113 e102 rfl).trans p107))
        refine g_callV (st := []) (gc_V C lk_LandSurveyModel_399 (k_test_0 l D cy w z0 O128 e129 fa1 ⟨p132, by rw [(pI_e hh126), p133]; omega, by rw [e130, (pI_e hh126), p133]; omega, by rw [e131, (pI_e hh126)]; omega⟩) e129 rfl rfl rfl ⟨by decide, by decide⟩ (Nat.le_of_ble_eq_true rfl) dX12_all_42 ⟨(by decide), (by decide)⟩) (fun h135 K136 => ?_)
        obtain ⟨O138, F139, p140, p141, p142, p143⟩ := K136
        obtain ⟨v144, e145⟩ : ∃ z, Iv h135 a0 7 = z := ⟨_, rfl⟩
        have e146 : Tg h135 a0 = 12 := (fxT F139 e129)
        have f147 := ok_I O138 e146 rI_12_7 e145
        obtain ⟨v148, e149⟩ : ∃ z, Iv h135 a0 8 = z := ⟨_, rfl⟩
        have f150 := ok_I O138 e146 rI_12_8 e149
        obtain ⟨v151, e152⟩ : ∃ z, Iv h135 a0 28 = z := ⟨_, rfl⟩
        have f153 := ok_I O138 e146 rI_12_28 e152
        obtain ⟨p154, p155, p156, p157⟩ := p140
        have p158 := ((NT_fx O128 F139 e129 rfl).trans p133)
        rw [e145, p158] at p155
        rw [e149, e145, p158] at p156
        rw [e152, e145] at p157
        have p159 := p141
        unfold ST at p159
        rw [(pI_e hh126), e145, e131, e152, e130, e149] at p159
        refine g_aload_n C rfl 1 rfl dX12_all_45 ?_
        refine g_iload_n C rfl 0 rfl dX12_all_46 ?_
        refine g_if_eq C (iw f114 (by decide) (by decide)) 55 (by decide) dX12_all_47 (fun q160 => ?_) (fun q161 => ?_)
        · have f162 : (0 : Int) ≤ r108 ∧ r108 ≤ (0 : Int) := ii f114 (r_eq (il 0) q160) (by decide) (by decide)
          refine g_bipush C (by decide) dX12_all_55 ?_
          refine g_iconst C dX12_all_57 ?_
          refine g_callV (st := []) (gc_V C lk_LandSurveyModel_395 (k_X12_emit l D cy w z0 O138 e146 (iw (il 9) (by decide) (by decide)) (iw (il 0) (by decide) (by decide)) (by rw [e152]; omega)) e146 rfl rfl rfl ⟨by decide, by decide⟩ (Nat.le_of_ble_eq_true rfl) dX12_all_58 ⟨(by decide), (by decide)⟩) (fun h164 K165 => ?_)
          obtain ⟨O167, F168, p169⟩ := K165
          have e170 : Iv h164 a0 28 = v151 + 1 := by rw [p169.1, e152]
          obtain ⟨v171, e172⟩ : ∃ z, Iv h164 a0 28 = z := ⟨_, rfl⟩
          have e173 : Tg h164 a0 = 12 := (fxT F168 e146)
          have f174 := ok_I O167 e173 rI_12_28 e172
          rw [e172] at e170
          have p175 := (PUf_fx O112 ((Fx.rf (wr := [2407]) (h := h109)).pI e123 hh126 rfl) e123 rfl (PUf_fx O73 F113 e102 rfl (PUf_fx O47 F74 e55 rfl p52)))
          have p176 : PUf h164 a0 (Iv h a0 28) := PUf_bin p175 p142 p141.2.2 p143 p169 (mIv (j := 8) F168 e146 rfl) (by omega)
          refine g_goto C 5 (by decide) dX12_all_61 ?_
          refine GW.sub [1, 2] rfl ?_
          have e177 : Iv h164 a0 7 = v144 := ((fxI F168 e146 rfl).trans e145)
          have e178 : Iv h164 a0 8 = v148 := ((fxI F168 e146 rfl).trans e149)
          have p179 := (TK_fx O138 F168 e146 rfl p154)
          have p180 := ((NT_fx O138 F168 e146 rfl).trans p158)
          have p181 := (CF.trans (CF.trans (CF.trans (CF.trans (CF.trans p51 (CF_fx O47 F74 e55 rfl)) (CF_fx O73 F113 e102 rfl)) (CF_fx O112 ((Fx.rf (wr := [2407]) (h := h109)).pI e123 hh126 rfl) e123 rfl)) p142) (EM.cf p169))
          exact ih45 _ (by omega) h164 rfl O167 (((((F48.call F74 rfl).call F113 rfl).pI e123 hh126 rfl).call F139 rfl).call F168 rfl) ⟨p179, by rw [e177, p180]; omega, by rw [e178, e177, p180]; omega, by rw [e172, e177]; omega⟩ (by unfold ST; rw [e2, e177, e8, e172, e5, e178]; omega) p181 p176
        · have f182 : (1 : Int) ≤ r108 ∧ r108 ≤ (1 : Int) := r_nl f114 q161
          refine g_bipush C (by decide) dX12_all_50 ?_
          refine g_goto C 57 (by decide) dX12_all_52 ?_
          refine g_iconst C dX12_all_57 ?_
          refine g_callV (st := []) (gc_V C lk_LandSurveyModel_395 (k_X12_emit l D cy w z0 O138 e146 (iw (il 8) (by decide) (by decide)) (iw (il 0) (by decide) (by decide)) (by rw [e152]; omega)) e146 rfl rfl rfl ⟨by decide, by decide⟩ (Nat.le_of_ble_eq_true rfl) dX12_all_58 ⟨(by decide), (by decide)⟩) (fun h184 K185 => ?_)
          obtain ⟨O187, F188, p189⟩ := K185
          have e190 : Iv h184 a0 28 = v151 + 1 := by rw [p189.1, e152]
          obtain ⟨v191, e192⟩ : ∃ z, Iv h184 a0 28 = z := ⟨_, rfl⟩
          have e193 : Tg h184 a0 = 12 := (fxT F188 e146)
          have f194 := ok_I O187 e193 rI_12_28 e192
          rw [e192] at e190
          have p195 := (PUf_fx O112 ((Fx.rf (wr := [2407]) (h := h109)).pI e123 hh126 rfl) e123 rfl (PUf_fx O73 F113 e102 rfl (PUf_fx O47 F74 e55 rfl p52)))
          have p196 : PUf h184 a0 (Iv h a0 28) := PUf_bin p195 p142 p141.2.2 p143 p189 (mIv (j := 8) F188 e146 rfl) (by omega)
          refine g_goto C 5 (by decide) dX12_all_61 ?_
          refine GW.sub [1, 2] rfl ?_
          have e197 : Iv h184 a0 7 = v144 := ((fxI F188 e146 rfl).trans e145)
          have e198 : Iv h184 a0 8 = v148 := ((fxI F188 e146 rfl).trans e149)
          have p199 := (TK_fx O138 F188 e146 rfl p154)
          have p200 := ((NT_fx O138 F188 e146 rfl).trans p158)
          have p201 := (CF.trans (CF.trans (CF.trans (CF.trans (CF.trans p51 (CF_fx O47 F74 e55 rfl)) (CF_fx O73 F113 e102 rfl)) (CF_fx O112 ((Fx.rf (wr := [2407]) (h := h109)).pI e123 hh126 rfl) e123 rfl)) p142) (EM.cf p189))
          exact ih45 _ (by omega) h184 rfl O187 (((((F48.call F74 rfl).call F113 rfl).pI e123 hh126 rfl).call F139 rfl).call F188 rfl) ⟨p199, by rw [e197, p200]; omega, by rw [e198, e197, p200]; omega, by rw [e192, e197]; omega⟩ (by unfold ST; rw [e2, e197, e8, e192, e5, e198]; omega) p201 p196
      · have f202 : (0 : Int) ≤ r69 ∧ r69 ≤ (0 : Int) := ii f75 (r_eq (il 0) q100) (by decide) (by decide)
        refine g_aload_n C rfl 0 rfl dX12_all_14 ?_
        refine g_bipush C (by decide) dX12_all_15 ?_
        have e203 : Tg h70 a0 = 12 := (fxT F74 e55)
        have e204 : Iv h70 a0 7 = v53 := ((fxI F74 e55 rfl).trans e54)
        have e205 : Iv h70 a0 8 = v57 := ((fxI F74 e55 rfl).trans e58)
        have e206 : Iv h70 a0 28 = v60 := ((fxI F74 e55 rfl).trans e61)
        have p207 := (TK_fx O47 F74 e55 rfl p63)
        have p208 := ((NT_fx O47 F74 e55 rfl).trans p67)
        refine g_callI (st := []) (gc_V C lk_LandSurveyModel_330 (k_X12_isWord l D cy w z0 O73 e203 (iw (il 16) (by decide) (by decide)) ⟨p207, by rw [e204, p208]; omega, by rw [e205, e204, p208]; omega, by rw [e206, e204]; omega⟩) e203 rfl rfl rfl ⟨by decide, by decide⟩ (Nat.le_of_ble_eq_true rfl) dX12_all_17 ⟨(by decide), (by decide)⟩) (fun r209 h210 f212 K211 => ?_)
        obtain ⟨O213, F214, f215, p216, p217⟩ := K211
        rw [e205, e204, p208] at p216
        have e218 : Rv h70 a0 4 = v78 := ((fxR F74 e55 rfl).trans e79)
        have e219 : Iv h70 v78 v53.toNat = v82 := ((fxIa F74 t80 ar_104100 rfl).trans e83)
        have e220 : Rv h70 a0 6 = v85 := ((fxR F74 e55 rfl).trans e86)
        have e221 : Jv h70 v85 v53.toNat = v89 := ((fxJa F74 t87 ar_106102 rfl).trans e90)
        have e222 : Rv h70 a0 9 = v92 := ((fxR F74 e55 rfl).trans e93)
        obtain ⟨v223, e224⟩ : ∃ z, Jv h70 v92 ((16 : Int).toNat) = z := ⟨_, rfl⟩
        have e225 : Tg h70 v92 = 109102 := (fxT F74 t94)
        have f226 := inL_J O73 e224
        rw [e205, e218, e204, e219, e220, e221, e222, e224] at p217
        refine g_if_eq C (iw f215 (by decide) (by decide)) 64 (by decide) dX12_all_20 (fun q227 => ?_) (fun q228 => ?_)
        · have f229 : (0 : Int) ≤ r209 ∧ r209 ≤ (0 : Int) := ii f215 (r_eq (il 0) q227) (by decide) (by decide)
          have e230 : Iv h210 a0 7 = v53 := ((fxI F214 e203 rfl).trans e204)
          have e231 : Iv h210 a0 8 = v57 := ((fxI F214 e203 rfl).trans e205)
          have e232 : Iv h210 a0 28 = v60 := ((fxI F214 e203 rfl).trans e206)
          have p233 := (TK_fx O73 F214 e203 rfl p207)
          have p234 := ((NT_fx O73 F214 e203 rfl).trans p208)
          have p235 := (CF.trans (CF.trans p51 (CF_fx O47 F74 e55 rfl)) (CF_fx O73 F214 e203 rfl))
          have p236 := (PUf_fx O73 F214 e203 rfl (PUf_fx O47 F74 e55 rfl p52))
          exact g_vret C hr ⟨O213, (((((Fx.rf (wr := wr_k_all_0)).call F22 rfl).call F48 rfl).call F74 rfl).call F214 rfl), ⟨p233, by rw [e230, p234]; omega, by rw [e231, e230, p234]; omega, by rw [e232, e230]; omega⟩, (by unfold ST; rw [e2, e230, e8, e232, e5, e231]; omega), p235, p236⟩ (by decide) (by decide) dX12_all_64
        · have f237 : (1 : Int) ≤ r209 ∧ r209 ≤ (1 : Int) := r_nl f215 q228
          refine g_aload_n C rfl 0 rfl dX12_all_23 ?_
          refine g_bipush C (by decide) dX12_all_24 ?_
          have e238 : Tg h210 a0 = 12 := (fxT F214 e203)
          have e239 : Iv h210 a0 7 = v53 := ((fxI F214 e203 rfl).trans e204)
          have e240 : Iv h210 a0 8 = v57 := ((fxI F214 e203 rfl).trans e205)
          have e241 : Iv h210 a0 28 = v60 := ((fxI F214 e203 rfl).trans e206)
          have p242 := (TK_fx O73 F214 e203 rfl p207)
          have p243 := ((NT_fx O73 F214 e203 rfl).trans p208)
          refine g_callI (st := []) (gc_V C lk_LandSurveyModel_330 (k_X12_isWord l D cy w z0 O213 e238 (iw (il 15) (by decide) (by decide)) ⟨p242, by rw [e239, p243]; omega, by rw [e240, e239, p243]; omega, by rw [e241, e239]; omega⟩) e238 rfl rfl rfl ⟨by decide, by decide⟩ (Nat.le_of_ble_eq_true rfl) dX12_all_26 ⟨(by decide), (by decide)⟩) (fun r244 h245 f247 K246 => ?_)
          obtain ⟨O248, F249, f250, p251, p252⟩ := K246
          rw [e240, e239, p243] at p251
          have e253 : Rv h210 a0 4 = v78 := ((fxR F214 e203 rfl).trans e218)
          have e254 : Tg h70 v78 = 104100 := (fxT F74 t80)
          have e255 : Iv h210 v78 v53.toNat = v82 := ((fxIa F214 e254 ar_104100 rfl).trans e219)
          have e256 : Rv h210 a0 6 = v85 := ((fxR F214 e203 rfl).trans e220)
          have e257 : Tg h70 v85 = 106102 := (fxT F74 t87)
          have e258 : Jv h210 v85 v53.toNat = v89 := ((fxJa F214 e257 ar_106102 rfl).trans e221)
          have e259 : Rv h210 a0 9 = v92 := ((fxR F214 e203 rfl).trans e222)
          have e260 : Jv h210 v92 ((15 : Int).toNat) = v96 := ((fxJa F214 e225 ar_109102 rfl).trans ((fxJa F74 t94 ar_109102 rfl).trans e97))
          rw [e240, e253, e239, e255, e256, e258, e259, e260] at p252
          refine g_istore_n C [(2, .inl r244), (0, .inr (.inr a0)), (1, .inl a1)] rfl (by decide) rfl dX12_all_29 ?_
          refine g_aload_n C rfl 1 rfl dX12_all_30 ?_
          refine g_dup C rfl dX12_all_31 ?_
          have e261 : Tg h245 a0 = 12 := (fxT F249 e238)
          have e262 : Iv h245 a0 7 = v53 := ((fxI F249 e238 rfl).trans e239)
          refine gf_I C fk_LandSurveyModel_317 rfl e261 e262 dX12_all_32 ?_
          refine g_iconst C dX12_all_35 ?_
          have f263 : (1 : Int) ≤ (v53 + 1) ∧ (v53 + 1) ≤ (1502 : Int) := ia_add f56 (il 1) (by decide) (by decide)
          refine g_iadd C dX12_all_36 ?_
          refine gp_I C fk_LandSurveyModel_317 pk_LandSurveyModel_7 rfl e261 (iw f263 (by decide) (by decide)) (nf_i _) dX12_all_37 (fun h265 hh264 => ?_)
          have O266 := O248.pI e261 hh264 rI_12_7 (by omega) nofun
          refine g_aload_n C rfl 1 rfl dX12_all_40 ?_
          refine g_iload_n C rfl 2 rfl dX12_all_41 ?_
          have e267 : Tg h265 a0 = 12 := ((pIT hh264).trans e261)
          have e268 : Iv h265 a0 8 = v57 := ((pI_j hh264 (by decide)).trans ((fxI F249 e238 rfl).trans e240))
          have e269 : Iv h265 a0 28 = v60 := ((pI_j hh264 (by decide)).trans ((fxI F249 e238 rfl).trans e241))
          have p270 := (TK_fx O248 ((Fx.rf (wr := [2407]) (h := h245)).pI e261 hh264 rfl) e261 rfl (TK_fx O213 F249 e238 rfl p242))
          have p271 := ((NT_fx O248 ((Fx.rf (wr := [2407]) (h := h245)).pI e261 hh264 rfl) e261 rfl).trans ((NT_fx O213 F249 e238 rfl).trans p243))
          refine g_callV (st := []) (gc_V C lk_LandSurveyModel_399 (k_test_0 l D cy w z0 O266 e267 fa1 ⟨p270, by rw [(pI_e hh264), p271]; omega, by rw [e268, (pI_e hh264), p271]; omega, by rw [e269, (pI_e hh264)]; omega⟩) e267 rfl rfl rfl ⟨by decide, by decide⟩ (Nat.le_of_ble_eq_true rfl) dX12_all_42 ⟨(by decide), (by decide)⟩) (fun h273 K274 => ?_)
          obtain ⟨O276, F277, p278, p279, p280, p281⟩ := K274
          obtain ⟨v282, e283⟩ : ∃ z, Iv h273 a0 7 = z := ⟨_, rfl⟩
          have e284 : Tg h273 a0 = 12 := (fxT F277 e267)
          have f285 := ok_I O276 e284 rI_12_7 e283
          obtain ⟨v286, e287⟩ : ∃ z, Iv h273 a0 8 = z := ⟨_, rfl⟩
          have f288 := ok_I O276 e284 rI_12_8 e287
          obtain ⟨v289, e290⟩ : ∃ z, Iv h273 a0 28 = z := ⟨_, rfl⟩
          have f291 := ok_I O276 e284 rI_12_28 e290
          obtain ⟨p292, p293, p294, p295⟩ := p278
          have p296 := ((NT_fx O266 F277 e267 rfl).trans p271)
          rw [e283, p296] at p293
          rw [e287, e283, p296] at p294
          rw [e290, e283] at p295
          have p297 := p279
          unfold ST at p297
          rw [(pI_e hh264), e283, e269, e290, e268, e287] at p297
          refine g_aload_n C rfl 1 rfl dX12_all_45 ?_
          refine g_iload_n C rfl 0 rfl dX12_all_46 ?_
          refine g_if_eq C (iw f250 (by decide) (by decide)) 55 (by decide) dX12_all_47 (fun q298 => ?_) (fun q299 => ?_)
          · have f300 : (0 : Int) ≤ r244 ∧ r244 ≤ (0 : Int) := ii f250 (r_eq (il 0) q298) (by decide) (by decide)
            refine g_bipush C (by decide) dX12_all_55 ?_
            refine g_iconst C dX12_all_57 ?_
            refine g_callV (st := []) (gc_V C lk_LandSurveyModel_395 (k_X12_emit l D cy w z0 O276 e284 (iw (il 9) (by decide) (by decide)) (iw (il 0) (by decide) (by decide)) (by rw [e290]; omega)) e284 rfl rfl rfl ⟨by decide, by decide⟩ (Nat.le_of_ble_eq_true rfl) dX12_all_58 ⟨(by decide), (by decide)⟩) (fun h302 K303 => ?_)
            obtain ⟨O305, F306, p307⟩ := K303
            have e308 : Iv h302 a0 28 = v289 + 1 := by rw [p307.1, e290]
            obtain ⟨v309, e310⟩ : ∃ z, Iv h302 a0 28 = z := ⟨_, rfl⟩
            have e311 : Tg h302 a0 = 12 := (fxT F306 e284)
            have f312 := ok_I O305 e311 rI_12_28 e310
            rw [e310] at e308
            have p313 := (PUf_fx O248 ((Fx.rf (wr := [2407]) (h := h245)).pI e261 hh264 rfl) e261 rfl (PUf_fx O213 F249 e238 rfl (PUf_fx O73 F214 e203 rfl (PUf_fx O47 F74 e55 rfl p52))))
            have p314 : PUf h302 a0 (Iv h a0 28) := PUf_bin p313 p280 p279.2.2 p281 p307 (mIv (j := 8) F306 e284 rfl) (by omega)
            refine g_goto C 5 (by decide) dX12_all_61 ?_
            refine GW.sub [1, 2] rfl ?_
            have e315 : Iv h302 a0 7 = v282 := ((fxI F306 e284 rfl).trans e283)
            have e316 : Iv h302 a0 8 = v286 := ((fxI F306 e284 rfl).trans e287)
            have p317 := (TK_fx O276 F306 e284 rfl p292)
            have p318 := ((NT_fx O276 F306 e284 rfl).trans p296)
            have p319 := (CF.trans (CF.trans (CF.trans (CF.trans (CF.trans (CF.trans p51 (CF_fx O47 F74 e55 rfl)) (CF_fx O73 F214 e203 rfl)) (CF_fx O213 F249 e238 rfl)) (CF_fx O248 ((Fx.rf (wr := [2407]) (h := h245)).pI e261 hh264 rfl) e261 rfl)) p280) (EM.cf p307))
            exact ih45 _ (by omega) h302 rfl O305 ((((((F48.call F74 rfl).call F214 rfl).call F249 rfl).pI e261 hh264 rfl).call F277 rfl).call F306 rfl) ⟨p317, by rw [e315, p318]; omega, by rw [e316, e315, p318]; omega, by rw [e310, e315]; omega⟩ (by unfold ST; rw [e2, e315, e8, e310, e5, e316]; omega) p319 p314
          · have f320 : (1 : Int) ≤ r244 ∧ r244 ≤ (1 : Int) := r_nl f250 q299
            refine g_bipush C (by decide) dX12_all_50 ?_
            refine g_goto C 57 (by decide) dX12_all_52 ?_
            refine g_iconst C dX12_all_57 ?_
            refine g_callV (st := []) (gc_V C lk_LandSurveyModel_395 (k_X12_emit l D cy w z0 O276 e284 (iw (il 8) (by decide) (by decide)) (iw (il 0) (by decide) (by decide)) (by rw [e290]; omega)) e284 rfl rfl rfl ⟨by decide, by decide⟩ (Nat.le_of_ble_eq_true rfl) dX12_all_58 ⟨(by decide), (by decide)⟩) (fun h322 K323 => ?_)
            obtain ⟨O325, F326, p327⟩ := K323
            have e328 : Iv h322 a0 28 = v289 + 1 := by rw [p327.1, e290]
            obtain ⟨v329, e330⟩ : ∃ z, Iv h322 a0 28 = z := ⟨_, rfl⟩
            have e331 : Tg h322 a0 = 12 := (fxT F326 e284)
            have f332 := ok_I O325 e331 rI_12_28 e330
            rw [e330] at e328
            have p333 := (PUf_fx O248 ((Fx.rf (wr := [2407]) (h := h245)).pI e261 hh264 rfl) e261 rfl (PUf_fx O213 F249 e238 rfl (PUf_fx O73 F214 e203 rfl (PUf_fx O47 F74 e55 rfl p52))))
            have p334 : PUf h322 a0 (Iv h a0 28) := PUf_bin p333 p280 p279.2.2 p281 p327 (mIv (j := 8) F326 e284 rfl) (by omega)
            refine g_goto C 5 (by decide) dX12_all_61 ?_
            refine GW.sub [1, 2] rfl ?_
            have e335 : Iv h322 a0 7 = v282 := ((fxI F326 e284 rfl).trans e283)
            have e336 : Iv h322 a0 8 = v286 := ((fxI F326 e284 rfl).trans e287)
            have p337 := (TK_fx O276 F326 e284 rfl p292)
            have p338 := ((NT_fx O276 F326 e284 rfl).trans p296)
            have p339 := (CF.trans (CF.trans (CF.trans (CF.trans (CF.trans (CF.trans p51 (CF_fx O47 F74 e55 rfl)) (CF_fx O73 F214 e203 rfl)) (CF_fx O213 F249 e238 rfl)) (CF_fx O248 ((Fx.rf (wr := [2407]) (h := h245)).pI e261 hh264 rfl) e261 rfl)) p280) (EM.cf p327))
            exact ih45 _ (by omega) h322 rfl O325 ((((((F48.call F74 rfl).call F214 rfl).call F249 rfl).pI e261 hh264 rfl).call F277 rfl).call F326 rfl) ⟨p337, by rw [e335, p338]; omega, by rw [e336, e335, p338]; omega, by rw [e330, e335]; omega⟩ (by unfold ST; rw [e2, e335, e8, e330, e5, e336]; omega) p339 p334
  have p340 := (CF.trans (CF.rf (h := h) (m := a0)) p25)
  exact L44 _ h18 rfl O21 Fx.rf ⟨p37, by rw [e28, p41]; omega, by rw [e32, e28, p41]; omega, by rw [e35, e28]; omega⟩ (by unfold ST; rw [e2, e28, e8, e35, e5, e32]; omega) p340 p26
