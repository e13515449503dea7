abbrev cX3_readTape : ByteArray := prog_5_method_3_code
def yX3_readTape : MethodName := ⟨RX3, "readTape", "()I"⟩
theorem okX3_readTape : yok yX3_readTape 0 := by decide +kernel
theorem kw_335 : Cond.fieldLink "LandSurvey$Reader" 62 "LandSurvey$Rules" "code" "[I" ∈ uu := uu_in (i := 335) (by decide +kernel) (by decide +kernel)
theorem fk_LandSurvey_Reader_62 : fkR "LandSurvey$Reader" 62 5 17 RX5 TX5 19 := ⟨rfl, rfl, inX5, by decide, kw_335, by decide⟩
theorem dX3_readTape_0 : decode cX3_readTape 0 = .ok (.aload_n 0, 1) := by decide +kernel
theorem dX3_readTape_1 : decode cX3_readTape 1 = .ok (.new 23, 3) := by decide +kernel
theorem kw_671 : Cond.classLink "LandSurvey$Reader" 23 "LandSurvey$Rules" ∈ uu := uu_in (i := 671) (by decide +kernel) (by decide +kernel)
theorem kw_288 : Cond.instantiable "LandSurvey$Rules" 19 ∈ uu := uu_in (i := 288) (by decide +kernel) (by decide +kernel)
theorem dX3_readTape_4 : decode cX3_readTape 4 = .ok (.dup, 1) := by decide +kernel
theorem dX3_readTape_5 : decode cX3_readTape 5 = .ok (.invokespecial 25, 3) := by decide +kernel
theorem kw_291 : Cond.code yX5_init prog_7_method_1_code 1 none ∈ uu := uu_in (i := 291) (by decide +kernel) (by decide +kernel)
theorem kw_672 : Cond.methodLink "LandSurvey$Reader" 25 yX5_init ∈ uu := uu_in (i := 672) (by decide +kernel) (by decide +kernel)
theorem kw_290 : Cond.instanceMethod yX5_init ∈ uu := uu_in (i := 290) (by decide +kernel) (by decide +kernel)
theorem lk_LandSurvey_Reader_25 : lkI "LandSurvey$Reader" 25 yX5_init cX5_init 1 none 0 := ⟨kw_672, kw_290, kw_149, kw_291, okX5_init, rfl⟩
theorem tbI_2006_1006 : ∀ j, rI 2006 j = rI 1006 j := tab_I (by decide +kernel)
theorem tbE_2006_1006 : ∀ j, (rE 2006 j).1 = (rE 1006 j).1 ∧ (rE 2006 j).2.1 = (rE 1006 j).2.1 := tab_E (by decide +kernel)
theorem tbN_2006 : ∀ j, (rE 2006 j).2.2 = true → ([1, 2, 3, 4, 5, 11, 12, 14, 15, 16, 17, 18] : List Nat).elem j = true := tab_N _ (by decide +kernel)
theorem dX3_readTape_8 : decode cX3_readTape 8 = .ok (.putfield 26, 3) := by decide +kernel
theorem pk_LandSurvey_Reader_13 : pk RX3 TX3 14 13 tyX3 false := ⟨tyX3_ok, nmX3, rfl⟩
theorem dX3_readTape_11 : decode cX3_readTape 11 = .ok (.aload_n 0, 1) := by decide +kernel
theorem dX3_readTape_12 : decode cX3_readTape 12 = .ok (.iconst 0, 1) := by decide +kernel
theorem dX3_readTape_13 : decode cX3_readTape 13 = .ok (.putfield 30, 3) := by decide +kernel
theorem dX3_readTape_16 : decode cX3_readTape 16 = .ok (.aload_n 0, 1) := by decide +kernel
theorem dX3_readTape_17 : decode cX3_readTape 17 = .ok (.iconst 0, 1) := by decide +kernel
theorem dX3_readTape_18 : decode cX3_readTape 18 = .ok (.putfield 33, 3) := by decide +kernel
theorem dX3_readTape_21 : decode cX3_readTape 21 = .ok (.aload_n 0, 1) := by decide +kernel
theorem dX3_readTape_22 : decode cX3_readTape 22 = .ok (.iconst 0, 1) := by decide +kernel
theorem dX3_readTape_23 : decode cX3_readTape 23 = .ok (.putfield 36, 3) := by decide +kernel
theorem dX3_readTape_26 : decode cX3_readTape 26 = .ok (.aload_n 0, 1) := by decide +kernel
theorem dX3_readTape_27 : decode cX3_readTape 27 = .ok (.iconst 0, 1) := by decide +kernel
theorem dX3_readTape_28 : decode cX3_readTape 28 = .ok (.putfield 39, 3) := by decide +kernel
theorem dX3_readTape_31 : decode cX3_readTape 31 = .ok (.aload_n 0, 1) := by decide +kernel
theorem dX3_readTape_32 : decode cX3_readTape 32 = .ok (.iconst 0, 1) := by decide +kernel
theorem dX3_readTape_33 : decode cX3_readTape 33 = .ok (.putfield 43, 3) := by decide +kernel
theorem dX3_readTape_36 : decode cX3_readTape 36 = .ok (.aload_n 0, 1) := by decide +kernel
theorem dX3_readTape_37 : decode cX3_readTape 37 = .ok (.invokevirtual 46, 3) := by decide +kernel
theorem dX3_readTape_40 : decode cX3_readTape 40 = .ok (.iconst 0, 1) := by decide +kernel
theorem dX3_readTape_41 : decode cX3_readTape 41 = .ok (.istore_n 1, 1) := by decide +kernel
theorem dX3_readTape_42 : decode cX3_readTape 42 = .ok (.iload_n 1, 1) := by decide +kernel
theorem dX3_readTape_43 : decode cX3_readTape 43 = .ok (.sipush 1500, 3) := by decide +kernel
theorem dX3_readTape_46 : decode cX3_readTape 46 = .ok (.if_icmp .gt 28, 3) := by decide +kernel
theorem dX3_readTape_74 : decode cX3_readTape 74 = .ok (.aload_n 0, 1) := by decide +kernel
theorem dX3_readTape_75 : decode cX3_readTape 75 = .ok (.iconst 0, 1) := by decide +kernel
theorem dX3_readTape_76 : decode cX3_readTape 76 = .ok (.putfield 19, 3) := by decide +kernel
theorem dX3_readTape_79 : decode cX3_readTape 79 = .ok (.aload_n 0, 1) := by decide +kernel
theorem dX3_readTape_80 : decode cX3_readTape 80 = .ok (.getfield 33, 3) := by decide +kernel
theorem dX3_readTape_83 : decode cX3_readTape 83 = .ok (.ifCond .ne 28, 3) := by decide +kernel
theorem dX3_readTape_111 : decode cX3_readTape 111 = .ok (.aload_n 0, 1) := by decide +kernel
theorem dX3_readTape_112 : decode cX3_readTape 112 = .ok (.getfield 33, 3) := by decide +kernel
theorem dX3_readTape_115 : decode cX3_readTape 115 = .ok (.ireturn, 1) := by decide +kernel
theorem dX3_readTape_86 : decode cX3_readTape 86 = .ok (.aload_n 0, 1) := by decide +kernel
theorem dX3_readTape_87 : decode cX3_readTape 87 = .ok (.getfield 26, 3) := by decide +kernel
theorem dX3_readTape_90 : decode cX3_readTape 90 = .ok (.aload_n 0, 1) := by decide +kernel
theorem dX3_readTape_91 : decode cX3_readTape 91 = .ok (.getfield 15, 3) := by decide +kernel
theorem dX3_readTape_94 : decode cX3_readTape 94 = .ok (.aload_n 0, 1) := by decide +kernel
theorem dX3_readTape_95 : decode cX3_readTape 95 = .ok (.getfield 36, 3) := by decide +kernel
theorem dX3_readTape_98 : decode cX3_readTape 98 = .ok (.invokestatic 56, 3) := by decide +kernel
theorem kw_889 : Cond.code yJ7_copyOf_59c91 prog_28_method_123_code 3 (some (.array .int)) ∈ uu := uu_in (i := 889) (by decide +kernel) (by decide +kernel)
theorem kw_887 : Cond.methodLink "LandSurvey$Reader" 56 yJ7_copyOf_59c91 ∈ uu := uu_in (i := 887) (by decide +kernel) (by decide +kernel)
theorem kw_888 : Cond.static yJ7_copyOf_59c91 ∈ uu := uu_in (i := 888) (by decide +kernel) (by decide +kernel)
theorem lk_LandSurvey_Reader_56 : lkS "LandSurvey$Reader" 56 yJ7_copyOf_59c91 cJ7_copyOf_59c91 3 (some (.array .int)) 2 := ⟨kw_887, kw_888, kw_146, kw_889, okJ7_copyOf_59c91⟩
theorem dX3_readTape_101 : decode cX3_readTape 101 = .ok (.putfield 62, 3) := by decide +kernel
theorem dX3_readTape_104 : decode cX3_readTape 104 = .ok (.aload_n 0, 1) := by decide +kernel
theorem dX3_readTape_105 : decode cX3_readTape 105 = .ok (.getfield 26, 3) := by decide +kernel
theorem dX3_readTape_108 : decode cX3_readTape 108 = .ok (.invokevirtual 63, 3) := by decide +kernel
theorem kw_904 : Cond.code yX5_addUp prog_7_method_5_code 2 none ∈ uu := uu_in (i := 904) (by decide +kernel) (by decide +kernel)
theorem kw_901 : Cond.methodLink "LandSurvey$Reader" 63 yX5_addUp ∈ uu := uu_in (i := 901) (by decide +kernel) (by decide +kernel)
theorem kw_902 : Cond.instanceMethod yX5_addUp ∈ uu := uu_in (i := 902) (by decide +kernel) (by decide +kernel)
theorem kw_903 : Cond.selects "LandSurvey$Rules" yX5_addUp yX5_addUp ∈ uu := uu_in (i := 903) (by decide +kernel) (by decide +kernel)
theorem lk_LandSurvey_Reader_63 : lkV "LandSurvey$Reader" 63 yX5_addUp cX5_addUp 2 none 0 := ⟨kw_901, kw_902, kw_903, kw_149, kw_904, okX5_addUp⟩
theorem dX3_readTape_49 : decode cX3_readTape 49 = .ok (.aload_n 0, 1) := by decide +kernel
theorem dX3_readTape_50 : decode cX3_readTape 50 = .ok (.getfield 49, 3) := by decide +kernel
theorem dX3_readTape_53 : decode cX3_readTape 53 = .ok (.ifCond .eq 21, 3) := by decide +kernel
theorem dX3_readTape_56 : decode cX3_readTape 56 = .ok (.aload_n 0, 1) := by decide +kernel
theorem dX3_readTape_57 : decode cX3_readTape 57 = .ok (.getfield 33, 3) := by decide +kernel
theorem dX3_readTape_60 : decode cX3_readTape 60 = .ok (.ifCond .ne 14, 3) := by decide +kernel
theorem dX3_readTape_63 : decode cX3_readTape 63 = .ok (.aload_n 0, 1) := by decide +kernel
theorem dX3_readTape_64 : decode cX3_readTape 64 = .ok (.invokevirtual 52, 3) := by decide +kernel
theorem kw_774 : Cond.code yX3_readRule prog_5_method_11_code 1 (some .boolean) ∈ uu := uu_in (i := 774) (by decide +kernel) (by decide +kernel)
theorem kw_771 : Cond.methodLink "LandSurvey$Reader" 52 yX3_readRule ∈ uu := uu_in (i := 771) (by decide +kernel) (by decide +kernel)
theorem kw_773 : Cond.instanceMethod yX3_readRule ∈ uu := uu_in (i := 773) (by decide +kernel) (by decide +kernel)
theorem kw_2 : Cond.selects "LandSurvey$Reader" yX3_readRule yX3_readRule ∈ uu := uu_in (i := 2) (by decide +kernel) (by decide +kernel)
theorem lk_LandSurvey_Reader_52 : lkV "LandSurvey$Reader" 52 yX3_readRule cX3_readRule 1 (some .boolean) 0 := ⟨kw_771, kw_773, kw_2, kw_147, kw_774, okX3_readRule⟩
theorem dX3_readTape_67 : decode cX3_readTape 67 = .ok (.pop, 1) := by decide +kernel
theorem dX3_readTape_68 : decode cX3_readTape 68 = .ok (.iinc 1 1, 3) := by decide +kernel
theorem dX3_readTape_71 : decode cX3_readTape 71 = .ok (.goto (-29), 3) := by decide +kernel
def wr_k0_advance : List Nat := [802, 803, 804, 805, 806]
set_option maxRecDepth 100000 in
set_option maxHeartbeats 4000000 in
theorem k0_advance (l : Launch) (D : va_G) (cy : Nat → ClassId) (w : Nat → Nat) (z0 : Nat)  {h : Hp} {a0 : Nat}  (O : Okh h) (ta0 : Tg h a0 = 4) (P_RI0 : Tg h (Rv h a0 13) = 2006 ∧ DOk h a0) : MV l D cy w z0 yX3_advance cX3_advance 2 none 4 91 0 0 [.inr (.inr a0)] h (fun h1 => Okh h1 ∧ Fx wr_k0_advance h h1 ∧ (RInv w h1 a0)) := by
  obtain ⟨v1, e2⟩ : ∃ z, Rv h a0 13 = z := ⟨_, rfl⟩
  have t3 := P_RI0.1
  rw [e2] at t3
  refine hm_go (by decide +kernel) (Nat.le_of_ble_eq_true rfl) (fun p e s m below meth c C hr hn => ?_)
  refine GW.sub [0] rfl ?_
  -- loop at 0
  have L5 : ∀ (μ : Nat) (h4 : Hp), (1500 - Iv h4 a0 2).toNat = μ → Okh h4 → Fx [802] h h4 → GW p l e (rmm 4 91 0 0) s m (List.map toV [.inr (.inr a0)]).toArray below meth c D cy z0 2 (MQ below (QV D cy z0 (fun h1 => Okh h1 ∧ Fx wr_k0_advance h h1 ∧ (RInv w h1 a0))) (List.map toV [.inr (.inr a0)]).toArray s 0 0 (Aof z0)) 0 [(0, .inr (.inr a0))] [] h4 0 0 := by
    intro μ
    induction μ using Nat.strongRecOn with
    | ind μ ih6 =>
      intro h4 hm7 O8 F9
      obtain ⟨v10, e11⟩ : ∃ z, Iv h4 a0 2 = z := ⟨_, rfl⟩
      have e12 : Tg h4 a0 = 4 := (fxT F9 ta0)
      have f13 := ok_I O8 e12 rI_4_2 e11
      refine g_aload_n C rfl 0 rfl dX3_advance_0 ?_
      refine gf_I C fk_LandSurvey_Reader_30 rfl e12 e11 dX3_advance_1 ?_
      refine g_aload_n C rfl 0 rfl dX3_advance_4 ?_
      obtain ⟨v14, e15⟩ : ∃ z, Iv h4 a0 1 = z := ⟨_, rfl⟩
      have f16 := ok_I O8 e12 rI_4_1 e15
      refine gf_I C fk_LandSurvey_Reader_19 rfl e12 e15 dX3_advance_5 ?_
      refine g_icmp_ge C (iw f13 (by decide) (by decide)) (iw f16 (by decide) (by decide)) 52 (by decide) dX3_advance_8 (fun q17 => ?_) (fun q18 => ?_)
      · refine g_aload_n C rfl 0 rfl dX3_advance_52 ?_
        refine g_aload_n C rfl 0 rfl dX3_advance_53 ?_
        refine gf_I C fk_LandSurvey_Reader_30 rfl e12 e11 dX3_advance_54 ?_
        refine gp_I C fk_LandSurvey_Reader_66 pk_LandSurvey_Reader_3 rfl e12 (iw f13 (by decide) (by decide)) (nf_i _) dX3_advance_57 (fun h20 hh19 => ?_)
        have O21 := O8.pI e12 hh19 rI_4_3 f13 nofun
        refine g_aload_n C rfl 0 rfl dX3_advance_60 ?_
        refine g_null C dX3_advance_61 ?_
        have e22 : Tg h20 a0 = 4 := ((pIT hh19).trans e12)
        refine gp_R C fk_LandSurvey_Reader_69 pk_LandSurvey_Reader_6 rfl e22 (nf_o _ _) dX3_advance_62 (fun h24 hh23 => ?_)
        have O25 := O21.pR e22 hh23 (okR_f rE_4_6)
        refine g_aload_n C rfl 0 rfl dX3_advance_65 ?_
        refine g_lconst (z := 0) C (by decide) dX3_advance_66 ?_
        have e26 : Tg h24 a0 = 4 := ((pRT hh23).trans e22)
        refine gp_J C fk_LandSurvey_Reader_73 pk_LandSurvey_Reader_5 rfl e26 rfl (iw (il 0) (by decide) (by decide)) dX3_advance_67 (fun h28 hh27 => ?_)
        have O29 := O25.pJ hh27 (iw (il 0) (by decide) (by decide))
        refine g_aload_n C rfl 0 rfl dX3_advance_70 ?_
        have e30 : Tg h28 a0 = 4 := ((pJT hh27).trans e26)
        have e31 : Iv h28 a0 2 = v10 := ((pJI hh27).trans ((pRI hh23).trans ((pI_j hh19 (by decide)).trans e11)))
        refine gf_I C fk_LandSurvey_Reader_30 rfl e30 e31 dX3_advance_71 ?_
        refine g_aload_n C rfl 0 rfl dX3_advance_74 ?_
        have e32 : Iv h28 a0 1 = v14 := ((pJI hh27).trans ((pRI hh23).trans ((pI_j hh19 (by decide)).trans e15)))
        refine gf_I C fk_LandSurvey_Reader_19 rfl e30 e32 dX3_advance_75 ?_
        refine g_icmp_ge C (iw f13 (by decide) (by decide)) (iw f16 (by decide) (by decide)) 93 (by decide) dX3_advance_78 (fun q33 => ?_) (fun q34 => ?_)
        · refine g_iconst C dX3_advance_93 ?_
          refine g_istore_n C [(1, .inl 0), (0, .inr (.inr a0))] rfl (by decide) rfl dX3_advance_94 ?_
          refine g_aload_n C rfl 1 rfl dX3_advance_95 ?_
          refine gf_I C fk_LandSurvey_Reader_30 rfl e30 e31 dX3_advance_96 ?_
          refine g_aload_n C rfl 1 rfl dX3_advance_99 ?_
          refine gf_I C fk_LandSurvey_Reader_19 rfl e30 e32 dX3_advance_100 ?_
          refine g_icmp_lt C (iw f13 (by decide) (by decide)) (iw f16 (by decide) (by decide)) 114 (by decide) dX3_advance_103 (fun q35 => ?_) (fun q36 => ?_)
          · have f37 : (0 : Int) ≤ v10 ∧ v10 ≤ (1499 : Int) := r_lt f13 f16 q35 (by decide) (by decide)
            have f38 : (1 : Int) ≤ v14 ∧ v14 ≤ (1500 : Int) := r_gt f16 f13 q35 (by decide) (by decide)
            refine g_iload_n C rfl 0 rfl dX3_advance_114 ?_
            refine g_bipush C (by decide) dX3_advance_115 ?_
            refine g_icmp_lt C (iw (il 0) (by decide) (by decide)) (iw (il 97) (by decide) (by decide)) 255 (by decide) dX3_advance_117 (fun q39 => ?_) (fun q40 => ?_)
            · refine g_iload_n C rfl 0 rfl dX3_advance_255 ?_
              refine g_bipush C (by decide) dX3_advance_256 ?_
              refine g_icmp_lt C (iw (il 0) (by decide) (by decide)) (iw (il 48) (by decide) (by decide)) 370 (by decide) dX3_advance_258 (fun q41 => ?_) (fun q42 => ?_)
              · refine g_aload_n C rfl 1 rfl dX3_advance_370 ?_
                refine g_iload_n C rfl 0 rfl dX3_advance_371 ?_
                refine g_i2l C (iw (il 0) (by decide) (by decide)) dX3_advance_372 ?_
                refine gp_J C fk_LandSurvey_Reader_73 pk_LandSurvey_Reader_5 rfl e30 rfl (iw (il 0) (by decide) (by decide)) dX3_advance_373 (fun h44 hh43 => ?_)
                have O45 := O29.pJ hh43 (iw (il 0) (by decide) (by decide))
                refine g_aload_n C rfl 1 rfl dX3_advance_376 ?_
                refine g_ldcS C C.2.2.2.2.1.2 dX3_advance_377 ?_
                refine g_iload_n C rfl 0 rfl dX3_advance_379 ?_
                refine g_callI (st := [.inr (.inr a0)]) (gc_VS C lk_LandSurvey_Reader_89 rfl (k_J0_indexOf_0f7a4 l D cy w z0 O45 (iw (il 0) (by decide) (by decide))) rfl ⟨by decide, by decide⟩ (Nat.le_of_ble_eq_true rfl) dX3_advance_380 ⟨(by decide), (by decide)⟩) (fun r46 h47 f49 K48 => ?_)
                obtain ⟨O50, F51, f52⟩ := K48
                refine g_if_lt C f52 390 (by decide) dX3_advance_383 (fun q53 => ?_) (fun q54 => ?_)
                · have f55 : (-2147483648 : Int) ≤ r46 ∧ r46 ≤ (-1 : Int) := r_lt f52 (il 0) q53 (by decide) (by decide)
                  refine g_iconst C dX3_advance_390 ?_
                  have e56 : Tg h47 a0 = 4 := (fxT F51 ((pJT hh43).trans e30))
                  refine gp_I C fk_LandSurvey_Reader_49 pk_LandSurvey_Reader_4 rfl e56 (iw (il 4) (by decide) (by decide)) (nf_i _) dX3_advance_391 (fun h58 hh57 => ?_)
                  have O59 := O50.pI e56 hh57 rI_4_4 (iw (il 4) (by decide) (by decide)) nofun
                  refine g_aload_n C rfl 1 rfl dX3_advance_394 ?_
                  refine g_dup C rfl dX3_advance_395 ?_
                  have e60 : Tg h58 a0 = 4 := ((pIT hh57).trans e56)
                  have e61 : Tg h44 a0 = 4 := ((pJT hh43).trans e30)
                  have e62 : Iv h58 a0 2 = v10 := ((pI_j hh57 (by decide)).trans ((fxI F51 e61 rfl).trans ((pJI hh43).trans e31)))
                  refine gf_I C fk_LandSurvey_Reader_30 rfl e60 e62 dX3_advance_396 ?_
                  refine g_iconst C dX3_advance_399 ?_
                  have f63 : (1 : Int) ≤ (v10 + 1) ∧ (v10 + 1) ≤ (1500 : Int) := ia_add f37 (il 1) (by decide) (by decide)
                  refine g_iadd C dX3_advance_400 ?_
                  refine gp_I C fk_LandSurvey_Reader_30 pk_LandSurvey_Reader_2 rfl e60 (iw f63 (by decide) (by decide)) (nf_i _) dX3_advance_401 (fun h65 hh64 => ?_)
                  have O66 := O59.pI e60 hh64 rI_4_2 (iw f63 (by decide) (by decide)) nofun
                  have e67 : Rv h65 a0 13 = v1 := ((pIR hh64).trans ((pIR hh57).trans ((fxR F51 e61 rfl).trans ((pJR hh43).trans ((pJR hh27).trans ((pR_j hh23 (by decide)).trans ((pIR hh19).trans ((fxR F9 ta0 rfl).trans e2))))))))
                  have e68 : Iv h65 a0 4 = 4 := ((pI_j hh64 (by decide)).trans (pI_e hh57))
                  have e69 : Jv h65 a0 5 = 0 := ((pIJ hh64).trans ((pIJ hh57).trans ((fxJ F51 e61 rfl).trans (pJ_e hh43))))
                  have e70 : Rv h65 a0 6 = 0 := ((pIR hh64).trans ((pIR hh57).trans ((fxR F51 e61 rfl).trans ((pJR hh43).trans ((pJR hh27).trans (pR_e hh23))))))
                  have e71 : Tg h65 v1 = 2006 := ((pIT hh64).trans ((pIT hh57).trans (fxT F51 ((pJT hh43).trans ((pJT hh27).trans ((pRT hh23).trans ((pIT hh19).trans (fxT F9 t3))))))))
                  have e72 : Rv h4 a0 13 = v1 := ((fxR F9 ta0 rfl).trans e2)
                  have e73 : Tg h4 v1 = 2006 := (fxT F9 t3)
                  have e74 : Rv h20 a0 13 = v1 := ((pIR hh19).trans e72)
                  have e75 : Tg h20 v1 = 2006 := ((pIT hh19).trans e73)
                  have e76 : Rv h24 a0 13 = v1 := ((pR_j hh23 (by decide)).trans e74)
                  have e77 : Tg h24 v1 = 2006 := ((pRT hh23).trans e75)
                  have e78 : Rv h28 a0 13 = v1 := ((pJR hh27).trans e76)
                  have e79 : Tg h28 v1 = 2006 := ((pJT hh27).trans e77)
                  have e80 : Rv h44 a0 13 = v1 := ((pJR hh43).trans e78)
                  have e81 : Tg h44 v1 = 2006 := ((pJT hh43).trans e79)
                  have e82 : Rv h47 a0 13 = v1 := ((fxR F51 e61 rfl).trans e80)
                  have e83 : Tg h47 v1 = 2006 := (fxT F51 e81)
                  have e84 : Rv h58 a0 13 = v1 := ((pIR hh57).trans e82)
                  have e85 : Tg h58 v1 = 2006 := ((pIT hh57).trans e83)
                  have p86 := (DOk_fx O59 ((Fx.rf (wr := [802]) (h := h58)).pI e60 hh64 rfl) e60 (by rw [e84]; exact e85) rfl (DOk_fx O50 ((Fx.rf (wr := [804]) (h := h47)).pI e56 hh57 rfl) e56 (by rw [e82]; exact e83) rfl (DOk_fx O45 F51 e61 (by rw [e80]; exact e81) rfl (DOk_fx O29 ((Fx.rf (wr := [805]) (h := h28)).pJ e30 hh43 rfl) e30 (by rw [e78]; exact e79) rfl (DOk_fx O25 ((Fx.rf (wr := [805]) (h := h24)).pJ e26 hh27 rfl) e26 (by rw [e76]; exact e77) rfl (DOk_fx O21 ((Fx.rf (wr := [806]) (h := h20)).pR e22 hh23 rfl) e22 (by rw [e74]; exact e75) rfl (DOk_fx O8 ((Fx.rf (wr := [803]) (h := h4)).pI e12 hh19 rfl) e12 (by rw [e72]; exact e73) rfl (DOk_fx O F9 ta0 (by rw [e2]; exact t3) rfl P_RI0.2))))))))
                  exact g_vret C hr ⟨O66, (((((((((Fx.rf (wr := wr_k0_advance)).call F9 rfl).pI e12 hh19 rfl).pR e22 hh23 rfl).pJ e26 hh27 rfl).pJ e30 hh43 rfl).call F51 rfl).pI e56 hh57 rfl).pI e60 hh64 rfl), (by unfold RInv; rw [e67, e68, e69, e70]; exact ⟨e71, p86, by omega, (Or.inl rfl)⟩)⟩ (by decide) (by decide) dX3_advance_404
                · have f87 : (0 : Int) ≤ r46 ∧ r46 ≤ (2147483647 : Int) := r_ge f52 (il 0) q54 (by decide) (by decide)
                  refine g_iconst C dX3_advance_386 ?_
                  refine g_goto C 391 (by decide) dX3_advance_387 ?_
                  have e88 : Tg h47 a0 = 4 := (fxT F51 ((pJT hh43).trans e30))
                  refine gp_I C fk_LandSurvey_Reader_49 pk_LandSurvey_Reader_4 rfl e88 (iw (il 3) (by decide) (by decide)) (nf_i _) dX3_advance_391 (fun h90 hh89 => ?_)
                  have O91 := O50.pI e88 hh89 rI_4_4 (iw (il 3) (by decide) (by decide)) nofun
                  refine g_aload_n C rfl 1 rfl dX3_advance_394 ?_
                  refine g_dup C rfl dX3_advance_395 ?_
                  have e92 : Tg h90 a0 = 4 := ((pIT hh89).trans e88)
                  have e93 : Tg h44 a0 = 4 := ((pJT hh43).trans e30)
                  have e94 : Iv h90 a0 2 = v10 := ((pI_j hh89 (by decide)).trans ((fxI F51 e93 rfl).trans ((pJI hh43).trans e31)))
                  refine gf_I C fk_LandSurvey_Reader_30 rfl e92 e94 dX3_advance_396 ?_
                  refine g_iconst C dX3_advance_399 ?_
                  have f95 : (1 : Int) ≤ (v10 + 1) ∧ (v10 + 1) ≤ (1500 : Int) := ia_add f37 (il 1) (by decide) (by decide)
                  refine g_iadd C dX3_advance_400 ?_
                  refine gp_I C fk_LandSurvey_Reader_30 pk_LandSurvey_Reader_2 rfl e92 (iw f95 (by decide) (by decide)) (nf_i _) dX3_advance_401 (fun h97 hh96 => ?_)
                  have O98 := O91.pI e92 hh96 rI_4_2 (iw f95 (by decide) (by decide)) nofun
                  have e99 : Rv h97 a0 13 = v1 := ((pIR hh96).trans ((pIR hh89).trans ((fxR F51 e93 rfl).trans ((pJR hh43).trans ((pJR hh27).trans ((pR_j hh23 (by decide)).trans ((pIR hh19).trans ((fxR F9 ta0 rfl).trans e2))))))))
                  have e100 : Iv h97 a0 4 = 3 := ((pI_j hh96 (by decide)).trans (pI_e hh89))
                  have e101 : Jv h97 a0 5 = 0 := ((pIJ hh96).trans ((pIJ hh89).trans ((fxJ F51 e93 rfl).trans (pJ_e hh43))))
                  have e102 : Rv h97 a0 6 = 0 := ((pIR hh96).trans ((pIR hh89).trans ((fxR F51 e93 rfl).trans ((pJR hh43).trans ((pJR hh27).trans (pR_e hh23))))))
                  have e103 : Tg h97 v1 = 2006 := ((pIT hh96).trans ((pIT hh89).trans (fxT F51 ((pJT hh43).trans ((pJT hh27).trans ((pRT hh23).trans ((pIT hh19).trans (fxT F9 t3))))))))
                  have e104 : Rv h4 a0 13 = v1 := ((fxR F9 ta0 rfl).trans e2)
                  have e105 : Tg h4 v1 = 2006 := (fxT F9 t3)
                  have e106 : Rv h20 a0 13 = v1 := ((pIR hh19).trans e104)
                  have e107 : Tg h20 v1 = 2006 := ((pIT hh19).trans e105)
                  have e108 : Rv h24 a0 13 = v1 := ((pR_j hh23 (by decide)).trans e106)
                  have e109 : Tg h24 v1 = 2006 := ((pRT hh23).trans e107)
                  have e110 : Rv h28 a0 13 = v1 := ((pJR hh27).trans e108)
                  have e111 : Tg h28 v1 = 2006 := ((pJT hh27).trans e109)
                  have e112 : Rv h44 a0 13 = v1 := ((pJR hh43).trans e110)
                  have e113 : Tg h44 v1 = 2006 := ((pJT hh43).trans e111)
                  have e114 : Rv h47 a0 13 = v1 := ((fxR F51 e93 rfl).trans e112)
                  have e115 : Tg h47 v1 = 2006 := (fxT F51 e113)
                  have e116 : Rv h90 a0 13 = v1 := ((pIR hh89).trans e114)
                  have e117 : Tg h90 v1 = 2006 := ((pIT hh89).trans e115)
                  have p118 := (DOk_fx O91 ((Fx.rf (wr := [802]) (h := h90)).pI e92 hh96 rfl) e92 (by rw [e116]; exact e117) rfl (DOk_fx O50 ((Fx.rf (wr := [804]) (h := h47)).pI e88 hh89 rfl) e88 (by rw [e114]; exact e115) rfl (DOk_fx O45 F51 e93 (by rw [e112]; exact e113) rfl (DOk_fx O29 ((Fx.rf (wr := [805]) (h := h28)).pJ e30 hh43 rfl) e30 (by rw [e110]; exact e111) rfl (DOk_fx O25 ((Fx.rf (wr := [805]) (h := h24)).pJ e26 hh27 rfl) e26 (by rw [e108]; exact e109) rfl (DOk_fx O21 ((Fx.rf (wr := [806]) (h := h20)).pR e22 hh23 rfl) e22 (by rw [e106]; exact e107) rfl (DOk_fx O8 ((Fx.rf (wr := [803]) (h := h4)).pI e12 hh19 rfl) e12 (by rw [e104]; exact e105) rfl (DOk_fx O F9 ta0 (by rw [e2]; exact t3) rfl P_RI0.2))))))))
                  exact g_vret C hr ⟨O98, (((((((((Fx.rf (wr := wr_k0_advance)).call F9 rfl).pI e12 hh19 rfl).pR e22 hh23 rfl).pJ e26 hh27 rfl).pJ e30 hh43 rfl).call F51 rfl).pI e88 hh89 rfl).pI e92 hh96 rfl), (by unfold RInv; rw [e99, e100, e101, e102]; exact ⟨e103, p118, by omega, (Or.inl rfl)⟩)⟩ (by decide) (by decide) dX3_advance_404
              · exact (no_le (il 48) (il 0) q42 (by decide)).elim
            · exact (no_le (il 97) (il 0) q40 (by decide)).elim
          · refine g_aload_n C rfl 1 rfl dX3_advance_106 ?_
            refine g_iconst C dX3_advance_107 ?_
            refine gp_I C fk_LandSurvey_Reader_49 pk_LandSurvey_Reader_4 rfl e30 (iw (il 0) (by decide) (by decide)) (nf_i _) dX3_advance_108 (fun h120 hh119 => ?_)
            have O121 := O29.pI e30 hh119 rI_4_4 (iw (il 0) (by decide) (by decide)) nofun
            refine g_goto C 404 (by decide) dX3_advance_111 ?_
            have e122 : Rv h120 a0 13 = v1 := ((pIR hh119).trans ((pJR hh27).trans ((pR_j hh23 (by decide)).trans ((pIR hh19).trans ((fxR F9 ta0 rfl).trans e2)))))
            have e123 : Jv h120 a0 5 = 0 := ((pIJ hh119).trans (pJ_e hh27))
            have e124 : Rv h120 a0 6 = 0 := ((pIR hh119).trans ((pJR hh27).trans (pR_e hh23)))
            have e125 : Tg h120 v1 = 2006 := ((pIT hh119).trans ((pJT hh27).trans ((pRT hh23).trans ((pIT hh19).trans (fxT F9 t3)))))
            have e126 : Rv h4 a0 13 = v1 := ((fxR F9 ta0 rfl).trans e2)
            have e127 : Tg h4 v1 = 2006 := (fxT F9 t3)
            have e128 : Rv h20 a0 13 = v1 := ((pIR hh19).trans e126)
            have e129 : Tg h20 v1 = 2006 := ((pIT hh19).trans e127)
            have e130 : Rv h24 a0 13 = v1 := ((pR_j hh23 (by decide)).trans e128)
            have e131 : Tg h24 v1 = 2006 := ((pRT hh23).trans e129)
            have e132 : Rv h28 a0 13 = v1 := ((pJR hh27).trans e130)
            have e133 : Tg h28 v1 = 2006 := ((pJT hh27).trans e131)
            have p134 := (DOk_fx O29 ((Fx.rf (wr := [804]) (h := h28)).pI e30 hh119 rfl) e30 (by rw [e132]; exact e133) rfl (DOk_fx O25 ((Fx.rf (wr := [805]) (h := h24)).pJ e26 hh27 rfl) e26 (by rw [e130]; exact e131) rfl (DOk_fx O21 ((Fx.rf (wr := [806]) (h := h20)).pR e22 hh23 rfl) e22 (by rw [e128]; exact e129) rfl (DOk_fx O8 ((Fx.rf (wr := [803]) (h := h4)).pI e12 hh19 rfl) e12 (by rw [e126]; exact e127) rfl (DOk_fx O F9 ta0 (by rw [e2]; exact t3) rfl P_RI0.2)))))
            exact g_vret C hr ⟨O121, ((((((Fx.rf (wr := wr_k0_advance)).call F9 rfl).pI e12 hh19 rfl).pR e22 hh23 rfl).pJ e26 hh27 rfl).pI e30 hh119 rfl), (by unfold RInv; rw [e122, (pI_e hh119), e123, e124]; exact ⟨e125, p134, by omega, (Or.inl rfl)⟩)⟩ (by decide) (by decide) dX3_advance_404
        · have f135 : (0 : Int) ≤ v10 ∧ v10 ≤ (1499 : Int) := r_lt f13 f16 q34 (by decide) (by decide)
          have f136 : (1 : Int) ≤ v14 ∧ v14 ≤ (1500 : Int) := r_gt f16 f13 q34 (by decide) (by decide)
          refine g_aload_n C rfl 0 rfl dX3_advance_81 ?_
          obtain ⟨v137, e138⟩ : ∃ z, Rv h28 a0 0 = z := ⟨_, rfl⟩
          have t139 := ok_R O29 e30 rE_4_0 e138
          have l140 := ok_L O29 e30 rE_4_0 e138
          refine gf_R C fk_LandSurvey_Reader_9 rfl e30 e138 dX3_advance_82 ?_
          refine g_aload_n C rfl 0 rfl dX3_advance_85 ?_
          refine gf_I C fk_LandSurvey_Reader_30 rfl e30 e31 dX3_advance_86 ?_
          obtain ⟨v141, e142⟩ : ∃ z, Iv h28 v137 v10.toNat = z := ⟨_, rfl⟩
          have f143 := ok_Ia O29 t139 ar_19103 rI_19103_0 e142
          refine g_cald C t139 rfl l140 (ix f135 (by decide) (by decide)) e142 dX3_advance_89 ?_
          refine g_goto C 94 (by decide) dX3_advance_90 ?_
          refine g_istore_n C [(1, .inl v141), (0, .inr (.inr a0))] rfl (by decide) rfl dX3_advance_94 ?_
          refine g_aload_n C rfl 1 rfl dX3_advance_95 ?_
          refine gf_I C fk_LandSurvey_Reader_30 rfl e30 e31 dX3_advance_96 ?_
          refine g_aload_n C rfl 1 rfl dX3_advance_99 ?_
          refine gf_I C fk_LandSurvey_Reader_19 rfl e30 e32 dX3_advance_100 ?_
          refine g_icmp_lt C (iw f135 (by decide) (by decide)) (iw f136 (by decide) (by decide)) 114 (by decide) dX3_advance_103 (fun q144 => ?_) (fun q145 => ?_)
          · refine g_iload_n C rfl 0 rfl dX3_advance_114 ?_
            refine g_bipush C (by decide) dX3_advance_115 ?_
            refine g_icmp_lt C (iw f143 (by decide) (by decide)) (iw (il 97) (by decide) (by decide)) 255 (by decide) dX3_advance_117 (fun q146 => ?_) (fun q147 => ?_)
            · have f148 : (0 : Int) ≤ v141 ∧ v141 ≤ (96 : Int) := r_lt f143 (il 97) q146 (by decide) (by decide)
              refine g_iload_n C rfl 0 rfl dX3_advance_255 ?_
              refine g_bipush C (by decide) dX3_advance_256 ?_
              refine g_icmp_lt C (iw f148 (by decide) (by decide)) (iw (il 48) (by decide) (by decide)) 370 (by decide) dX3_advance_258 (fun q149 => ?_) (fun q150 => ?_)
              · have f151 : (0 : Int) ≤ v141 ∧ v141 ≤ (47 : Int) := r_lt f148 (il 48) q149 (by decide) (by decide)
                refine g_aload_n C rfl 1 rfl dX3_advance_370 ?_
                refine g_iload_n C rfl 0 rfl dX3_advance_371 ?_
                refine g_i2l C (iw f151 (by decide) (by decide)) dX3_advance_372 ?_
                refine gp_J C fk_LandSurvey_Reader_73 pk_LandSurvey_Reader_5 rfl e30 rfl (iw f151 (by decide) (by decide)) dX3_advance_373 (fun h153 hh152 => ?_)
                have O154 := O29.pJ hh152 (iw f151 (by decide) (by decide))
                refine g_aload_n C rfl 1 rfl dX3_advance_376 ?_
                refine g_ldcS C C.2.2.2.2.1.2 dX3_advance_377 ?_
                refine g_iload_n C rfl 0 rfl dX3_advance_379 ?_
                refine g_callI (st := [.inr (.inr a0)]) (gc_VS C lk_LandSurvey_Reader_89 rfl (k_J0_indexOf_0f7a4 l D cy w z0 O154 (iw f151 (by decide) (by decide))) rfl ⟨by decide, by decide⟩ (Nat.le_of_ble_eq_true rfl) dX3_advance_380 ⟨(by decide), (by decide)⟩) (fun r155 h156 f158 K157 => ?_)
                obtain ⟨O159, F160, f161⟩ := K157
                refine g_if_lt C f161 390 (by decide) dX3_advance_383 (fun q162 => ?_) (fun q163 => ?_)
                · have f164 : (-2147483648 : Int) ≤ r155 ∧ r155 ≤ (-1 : Int) := r_lt f161 (il 0) q162 (by decide) (by decide)
                  refine g_iconst C dX3_advance_390 ?_
                  have e165 : Tg h156 a0 = 4 := (fxT F160 ((pJT hh152).trans e30))
                  refine gp_I C fk_LandSurvey_Reader_49 pk_LandSurvey_Reader_4 rfl e165 (iw (il 4) (by decide) (by decide)) (nf_i _) dX3_advance_391 (fun h167 hh166 => ?_)
                  have O168 := O159.pI e165 hh166 rI_4_4 (iw (il 4) (by decide) (by decide)) nofun
                  refine g_aload_n C rfl 1 rfl dX3_advance_394 ?_
                  refine g_dup C rfl dX3_advance_395 ?_
                  have e169 : Tg h167 a0 = 4 := ((pIT hh166).trans e165)
                  have e170 : Tg h153 a0 = 4 := ((pJT hh152).trans e30)
                  have e171 : Iv h167 a0 2 = v10 := ((pI_j hh166 (by decide)).trans ((fxI F160 e170 rfl).trans ((pJI hh152).trans e31)))
                  refine gf_I C fk_LandSurvey_Reader_30 rfl e169 e171 dX3_advance_396 ?_
                  refine g_iconst C dX3_advance_399 ?_
                  have f172 : (1 : Int) ≤ (v10 + 1) ∧ (v10 + 1) ≤ (1500 : Int) := ia_add f135 (il 1) (by decide) (by decide)
                  refine g_iadd C dX3_advance_400 ?_
                  refine gp_I C fk_LandSurvey_Reader_30 pk_LandSurvey_Reader_2 rfl e169 (iw f172 (by decide) (by decide)) (nf_i _) dX3_advance_401 (fun h174 hh173 => ?_)
                  have O175 := O168.pI e169 hh173 rI_4_2 (iw f172 (by decide) (by decide)) nofun
                  have e176 : Rv h174 a0 13 = v1 := ((pIR hh173).trans ((pIR hh166).trans ((fxR F160 e170 rfl).trans ((pJR hh152).trans ((pJR hh27).trans ((pR_j hh23 (by decide)).trans ((pIR hh19).trans ((fxR F9 ta0 rfl).trans e2))))))))
                  have e177 : Iv h174 a0 4 = 4 := ((pI_j hh173 (by decide)).trans (pI_e hh166))
                  have e178 : Jv h174 a0 5 = v141 := ((pIJ hh173).trans ((pIJ hh166).trans ((fxJ F160 e170 rfl).trans (pJ_e hh152))))
                  have e179 : Rv h174 a0 6 = 0 := ((pIR hh173).trans ((pIR hh166).trans ((fxR F160 e170 rfl).trans ((pJR hh152).trans ((pJR hh27).trans (pR_e hh23))))))
                  have e180 : Tg h174 v1 = 2006 := ((pIT hh173).trans ((pIT hh166).trans (fxT F160 ((pJT hh152).trans ((pJT hh27).trans ((pRT hh23).trans ((pIT hh19).trans (fxT F9 t3))))))))
                  have e181 : Rv h4 a0 13 = v1 := ((fxR F9 ta0 rfl).trans e2)
                  have e182 : Tg h4 v1 = 2006 := (fxT F9 t3)
                  have e183 : Rv h20 a0 13 = v1 := ((pIR hh19).trans e181)
                  have e184 : Tg h20 v1 = 2006 := ((pIT hh19).trans e182)
                  have e185 : Rv h24 a0 13 = v1 := ((pR_j hh23 (by decide)).trans e183)
                  have e186 : Tg h24 v1 = 2006 := ((pRT hh23).trans e184)
                  have e187 : Rv h28 a0 13 = v1 := ((pJR hh27).trans e185)
                  have e188 : Tg h28 v1 = 2006 := ((pJT hh27).trans e186)
                  have e189 : Rv h153 a0 13 = v1 := ((pJR hh152).trans e187)
                  have e190 : Tg h153 v1 = 2006 := ((pJT hh152).trans e188)
                  have e191 : Rv h156 a0 13 = v1 := ((fxR F160 e170 rfl).trans e189)
                  have e192 : Tg h156 v1 = 2006 := (fxT F160 e190)
                  have e193 : Rv h167 a0 13 = v1 := ((pIR hh166).trans e191)
                  have e194 : Tg h167 v1 = 2006 := ((pIT hh166).trans e192)
                  have p195 := (DOk_fx O168 ((Fx.rf (wr := [802]) (h := h167)).pI e169 hh173 rfl) e169 (by rw [e193]; exact e194) rfl (DOk_fx O159 ((Fx.rf (wr := [804]) (h := h156)).pI e165 hh166 rfl) e165 (by rw [e191]; exact e192) rfl (DOk_fx O154 F160 e170 (by rw [e189]; exact e190) rfl (DOk_fx O29 ((Fx.rf (wr := [805]) (h := h28)).pJ e30 hh152 rfl) e30 (by rw [e187]; exact e188) rfl (DOk_fx O25 ((Fx.rf (wr := [805]) (h := h24)).pJ e26 hh27 rfl) e26 (by rw [e185]; exact e186) rfl (DOk_fx O21 ((Fx.rf (wr := [806]) (h := h20)).pR e22 hh23 rfl) e22 (by rw [e183]; exact e184) rfl (DOk_fx O8 ((Fx.rf (wr := [803]) (h := h4)).pI e12 hh19 rfl) e12 (by rw [e181]; exact e182) rfl (DOk_fx O F9 ta0 (by rw [e2]; exact t3) rfl P_RI0.2))))))))
                  exact g_vret C hr ⟨O175, (((((((((Fx.rf (wr := wr_k0_advance)).call F9 rfl).pI e12 hh19 rfl).pR e22 hh23 rfl).pJ e26 hh27 rfl).pJ e30 hh152 rfl).call F160 rfl).pI e165 hh166 rfl).pI e169 hh173 rfl), (by unfold RInv; rw [e176, e177, e178, e179]; exact ⟨e180, p195, by omega, (Or.inl rfl)⟩)⟩ (by decide) (by decide) dX3_advance_404
                · have f196 : (0 : Int) ≤ r155 ∧ r155 ≤ (2147483647 : Int) := r_ge f161 (il 0) q163 (by decide) (by decide)
                  refine g_iconst C dX3_advance_386 ?_
                  refine g_goto C 391 (by decide) dX3_advance_387 ?_
                  have e197 : Tg h156 a0 = 4 := (fxT F160 ((pJT hh152).trans e30))
                  refine gp_I C fk_LandSurvey_Reader_49 pk_LandSurvey_Reader_4 rfl e197 (iw (il 3) (by decide) (by decide)) (nf_i _) dX3_advance_391 (fun h199 hh198 => ?_)
                  have O200 := O159.pI e197 hh198 rI_4_4 (iw (il 3) (by decide) (by decide)) nofun
                  refine g_aload_n C rfl 1 rfl dX3_advance_394 ?_
                  refine g_dup C rfl dX3_advance_395 ?_
                  have e201 : Tg h199 a0 = 4 := ((pIT hh198).trans e197)
                  have e202 : Tg h153 a0 = 4 := ((pJT hh152).trans e30)
                  have e203 : Iv h199 a0 2 = v10 := ((pI_j hh198 (by decide)).trans ((fxI F160 e202 rfl).trans ((pJI hh152).trans e31)))
                  refine gf_I C fk_LandSurvey_Reader_30 rfl e201 e203 dX3_advance_396 ?_
                  refine g_iconst C dX3_advance_399 ?_
                  have f204 : (1 : Int) ≤ (v10 + 1) ∧ (v10 + 1) ≤ (1500 : Int) := ia_add f135 (il 1) (by decide) (by decide)
                  refine g_iadd C dX3_advance_400 ?_
                  refine gp_I C fk_LandSurvey_Reader_30 pk_LandSurvey_Reader_2 rfl e201 (iw f204 (by decide) (by decide)) (nf_i _) dX3_advance_401 (fun h206 hh205 => ?_)
                  have O207 := O200.pI e201 hh205 rI_4_2 (iw f204 (by decide) (by decide)) nofun
                  have e208 : Rv h206 a0 13 = v1 := ((pIR hh205).trans ((pIR hh198).trans ((fxR F160 e202 rfl).trans ((pJR hh152).trans ((pJR hh27).trans ((pR_j hh23 (by decide)).trans ((pIR hh19).trans ((fxR F9 ta0 rfl).trans e2))))))))
                  have e209 : Iv h206 a0 4 = 3 := ((pI_j hh205 (by decide)).trans (pI_e hh198))
                  have e210 : Jv h206 a0 5 = v141 := ((pIJ hh205).trans ((pIJ hh198).trans ((fxJ F160 e202 rfl).trans (pJ_e hh152))))
                  have e211 : Rv h206 a0 6 = 0 := ((pIR hh205).trans ((pIR hh198).trans ((fxR F160 e202 rfl).trans ((pJR hh152).trans ((pJR hh27).trans (pR_e hh23))))))
                  have e212 : Tg h206 v1 = 2006 := ((pIT hh205).trans ((pIT hh198).trans (fxT F160 ((pJT hh152).trans ((pJT hh27).trans ((pRT hh23).trans ((pIT hh19).trans (fxT F9 t3))))))))
                  have e213 : Rv h4 a0 13 = v1 := ((fxR F9 ta0 rfl).trans e2)
                  have e214 : Tg h4 v1 = 2006 := (fxT F9 t3)
                  have e215 : Rv h20 a0 13 = v1 := ((pIR hh19).trans e213)
                  have e216 : Tg h20 v1 = 2006 := ((pIT hh19).trans e214)
                  have e217 : Rv h24 a0 13 = v1 := ((pR_j hh23 (by decide)).trans e215)
                  have e218 : Tg h24 v1 = 2006 := ((pRT hh23).trans e216)
                  have e219 : Rv h28 a0 13 = v1 := ((pJR hh27).trans e217)
                  have e220 : Tg h28 v1 = 2006 := ((pJT hh27).trans e218)
                  have e221 : Rv h153 a0 13 = v1 := ((pJR hh152).trans e219)
                  have e222 : Tg h153 v1 = 2006 := ((pJT hh152).trans e220)
                  have e223 : Rv h156 a0 13 = v1 := ((fxR F160 e202 rfl).trans e221)
                  have e224 : Tg h156 v1 = 2006 := (fxT F160 e222)
                  have e225 : Rv h199 a0 13 = v1 := ((pIR hh198).trans e223)
                  have e226 : Tg h199 v1 = 2006 := ((pIT hh198).trans e224)
                  have p227 := (DOk_fx O200 ((Fx.rf (wr := [802]) (h := h199)).pI e201 hh205 rfl) e201 (by rw [e225]; exact e226) rfl (DOk_fx O159 ((Fx.rf (wr := [804]) (h := h156)).pI e197 hh198 rfl) e197 (by rw [e223]; exact e224) rfl (DOk_fx O154 F160 e202 (by rw [e221]; exact e222) rfl (DOk_fx O29 ((Fx.rf (wr := [805]) (h := h28)).pJ e30 hh152 rfl) e30 (by rw [e219]; exact e220) rfl (DOk_fx O25 ((Fx.rf (wr := [805]) (h := h24)).pJ e26 hh27 rfl) e26 (by rw [e217]; exact e218) rfl (DOk_fx O21 ((Fx.rf (wr := [806]) (h := h20)).pR e22 hh23 rfl) e22 (by rw [e215]; exact e216) rfl (DOk_fx O8 ((Fx.rf (wr := [803]) (h := h4)).pI e12 hh19 rfl) e12 (by rw [e213]; exact e214) rfl (DOk_fx O F9 ta0 (by rw [e2]; exact t3) rfl P_RI0.2))))))))
                  exact g_vret C hr ⟨O207, (((((((((Fx.rf (wr := wr_k0_advance)).call F9 rfl).pI e12 hh19 rfl).pR e22 hh23 rfl).pJ e26 hh27 rfl).pJ e30 hh152 rfl).call F160 rfl).pI e197 hh198 rfl).pI e201 hh205 rfl), (by unfold RInv; rw [e208, e209, e210, e211]; exact ⟨e212, p227, by omega, (Or.inl rfl)⟩)⟩ (by decide) (by decide) dX3_advance_404
              · have f228 : (48 : Int) ≤ v141 ∧ v141 ≤ (96 : Int) := r_ge f148 (il 48) q150 (by decide) (by decide)
                refine g_iload_n C rfl 0 rfl dX3_advance_261 ?_
                refine g_bipush C (by decide) dX3_advance_262 ?_
                refine g_icmp_gt C (iw f228 (by decide) (by decide)) (iw (il 57) (by decide) (by decide)) 370 (by decide) dX3_advance_264 (fun q229 => ?_) (fun q230 => ?_)
                · have f231 : (58 : Int) ≤ v141 ∧ v141 ≤ (96 : Int) := r_gt f228 (il 57) q229 (by decide) (by decide)
                  refine g_aload_n C rfl 1 rfl dX3_advance_370 ?_
                  refine g_iload_n C rfl 0 rfl dX3_advance_371 ?_
                  refine g_i2l C (iw f231 (by decide) (by decide)) dX3_advance_372 ?_
                  refine gp_J C fk_LandSurvey_Reader_73 pk_LandSurvey_Reader_5 rfl e30 rfl (iw f231 (by decide) (by decide)) dX3_advance_373 (fun h233 hh232 => ?_)
                  have O234 := O29.pJ hh232 (iw f231 (by decide) (by decide))
                  refine g_aload_n C rfl 1 rfl dX3_advance_376 ?_
                  refine g_ldcS C C.2.2.2.2.1.2 dX3_advance_377 ?_
                  refine g_iload_n C rfl 0 rfl dX3_advance_379 ?_
                  refine g_callI (st := [.inr (.inr a0)]) (gc_VS C lk_LandSurvey_Reader_89 rfl (k_J0_indexOf_0f7a4 l D cy w z0 O234 (iw f231 (by decide) (by decide))) rfl ⟨by decide, by decide⟩ (Nat.le_of_ble_eq_true rfl) dX3_advance_380 ⟨(by decide), (by decide)⟩) (fun r235 h236 f238 K237 => ?_)
                  obtain ⟨O239, F240, f241⟩ := K237
                  refine g_if_lt C f241 390 (by decide) dX3_advance_383 (fun q242 => ?_) (fun q243 => ?_)
                  · have f244 : (-2147483648 : Int) ≤ r235 ∧ r235 ≤ (-1 : Int) := r_lt f241 (il 0) q242 (by decide) (by decide)
                    refine g_iconst C dX3_advance_390 ?_
                    have e245 : Tg h236 a0 = 4 := (fxT F240 ((pJT hh232).trans e30))
                    refine gp_I C fk_LandSurvey_Reader_49 pk_LandSurvey_Reader_4 rfl e245 (iw (il 4) (by decide) (by decide)) (nf_i _) dX3_advance_391 (fun h247 hh246 => ?_)
                    have O248 := O239.pI e245 hh246 rI_4_4 (iw (il 4) (by decide) (by decide)) nofun
                    refine g_aload_n C rfl 1 rfl dX3_advance_394 ?_
                    refine g_dup C rfl dX3_advance_395 ?_
                    have e249 : Tg h247 a0 = 4 := ((pIT hh246).trans e245)
                    have e250 : Tg h233 a0 = 4 := ((pJT hh232).trans e30)
                    have e251 : Iv h247 a0 2 = v10 := ((pI_j hh246 (by decide)).trans ((fxI F240 e250 rfl).trans ((pJI hh232).trans e31)))
                    refine gf_I C fk_LandSurvey_Reader_30 rfl e249 e251 dX3_advance_396 ?_
                    refine g_iconst C dX3_advance_399 ?_
                    have f252 : (1 : Int) ≤ (v10 + 1) ∧ (v10 + 1) ≤ (1500 : Int) := ia_add f135 (il 1) (by decide) (by decide)
                    refine g_iadd C dX3_advance_400 ?_
                    refine gp_I C fk_LandSurvey_Reader_30 pk_LandSurvey_Reader_2 rfl e249 (iw f252 (by decide) (by decide)) (nf_i _) dX3_advance_401 (fun h254 hh253 => ?_)
                    have O255 := O248.pI e249 hh253 rI_4_2 (iw f252 (by decide) (by decide)) nofun
                    have e256 : Rv h254 a0 13 = v1 := ((pIR hh253).trans ((pIR hh246).trans ((fxR F240 e250 rfl).trans ((pJR hh232).trans ((pJR hh27).trans ((pR_j hh23 (by decide)).trans ((pIR hh19).trans ((fxR F9 ta0 rfl).trans e2))))))))
                    have e257 : Iv h254 a0 4 = 4 := ((pI_j hh253 (by decide)).trans (pI_e hh246))
                    have e258 : Jv h254 a0 5 = v141 := ((pIJ hh253).trans ((pIJ hh246).trans ((fxJ F240 e250 rfl).trans (pJ_e hh232))))
                    have e259 : Rv h254 a0 6 = 0 := ((pIR hh253).trans ((pIR hh246).trans ((fxR F240 e250 rfl).trans ((pJR hh232).trans ((pJR hh27).trans (pR_e hh23))))))
                    have e260 : Tg h254 v1 = 2006 := ((pIT hh253).trans ((pIT hh246).trans (fxT F240 ((pJT hh232).trans ((pJT hh27).trans ((pRT hh23).trans ((pIT hh19).trans (fxT F9 t3))))))))
                    have e261 : Rv h4 a0 13 = v1 := ((fxR F9 ta0 rfl).trans e2)
                    have e262 : Tg h4 v1 = 2006 := (fxT F9 t3)
                    have e263 : Rv h20 a0 13 = v1 := ((pIR hh19).trans e261)
                    have e264 : Tg h20 v1 = 2006 := ((pIT hh19).trans e262)
                    have e265 : Rv h24 a0 13 = v1 := ((pR_j hh23 (by decide)).trans e263)
                    have e266 : Tg h24 v1 = 2006 := ((pRT hh23).trans e264)
                    have e267 : Rv h28 a0 13 = v1 := ((pJR hh27).trans e265)
                    have e268 : Tg h28 v1 = 2006 := ((pJT hh27).trans e266)
                    have e269 : Rv h233 a0 13 = v1 := ((pJR hh232).trans e267)
                    have e270 : Tg h233 v1 = 2006 := ((pJT hh232).trans e268)
                    have e271 : Rv h236 a0 13 = v1 := ((fxR F240 e250 rfl).trans e269)
                    have e272 : Tg h236 v1 = 2006 := (fxT F240 e270)
                    have e273 : Rv h247 a0 13 = v1 := ((pIR hh246).trans e271)
                    have e274 : Tg h247 v1 = 2006 := ((pIT hh246).trans e272)
                    have p275 := (DOk_fx O248 ((Fx.rf (wr := [802]) (h := h247)).pI e249 hh253 rfl) e249 (by rw [e273]; exact e274) rfl (DOk_fx O239 ((Fx.rf (wr := [804]) (h := h236)).pI e245 hh246 rfl) e245 (by rw [e271]; exact e272) rfl (DOk_fx O234 F240 e250 (by rw [e269]; exact e270) rfl (DOk_fx O29 ((Fx.rf (wr := [805]) (h := h28)).pJ e30 hh232 rfl) e30 (by rw [e267]; exact e268) rfl (DOk_fx O25 ((Fx.rf (wr := [805]) (h := h24)).pJ e26 hh27 rfl) e26 (by rw [e265]; exact e266) rfl (DOk_fx O21 ((Fx.rf (wr := [806]) (h := h20)).pR e22 hh23 rfl) e22 (by rw [e263]; exact e264) rfl (DOk_fx O8 ((Fx.rf (wr := [803]) (h := h4)).pI e12 hh19 rfl) e12 (by rw [e261]; exact e262) rfl (DOk_fx O F9 ta0 (by rw [e2]; exact t3) rfl P_RI0.2))))))))
                    exact g_vret C hr ⟨O255, (((((((((Fx.rf (wr := wr_k0_advance)).call F9 rfl).pI e12 hh19 rfl).pR e22 hh23 rfl).pJ e26 hh27 rfl).pJ e30 hh232 rfl).call F240 rfl).pI e245 hh246 rfl).pI e249 hh253 rfl), (by unfold RInv; rw [e256, e257, e258, e259]; exact ⟨e260, p275, by omega, (Or.inl rfl)⟩)⟩ (by decide) (by decide) dX3_advance_404
                  · have f276 : (0 : Int) ≤ r235 ∧ r235 ≤ (2147483647 : Int) := r_ge f241 (il 0) q243 (by decide) (by decide)
                    refine g_iconst C dX3_advance_386 ?_
                    refine g_goto C 391 (by decide) dX3_advance_387 ?_
                    have e277 : Tg h236 a0 = 4 := (fxT F240 ((pJT hh232).trans e30))
                    refine gp_I C fk_LandSurvey_Reader_49 pk_LandSurvey_Reader_4 rfl e277 (iw (il 3) (by decide) (by decide)) (nf_i _) dX3_advance_391 (fun h279 hh278 => ?_)
                    have O280 := O239.pI e277 hh278 rI_4_4 (iw (il 3) (by decide) (by decide)) nofun
                    refine g_aload_n C rfl 1 rfl dX3_advance_394 ?_
                    refine g_dup C rfl dX3_advance_395 ?_
                    have e281 : Tg h279 a0 = 4 := ((pIT hh278).trans e277)
                    have e282 : Tg h233 a0 = 4 := ((pJT hh232).trans e30)
                    have e283 : Iv h279 a0 2 = v10 := ((pI_j hh278 (by decide)).trans ((fxI F240 e282 rfl).trans ((pJI hh232).trans e31)))
                    refine gf_I C fk_LandSurvey_Reader_30 rfl e281 e283 dX3_advance_396 ?_
                    refine g_iconst C dX3_advance_399 ?_
                    have f284 : (1 : Int) ≤ (v10 + 1) ∧ (v10 + 1) ≤ (1500 : Int) := ia_add f135 (il 1) (by decide) (by decide)
                    refine g_iadd C dX3_advance_400 ?_
                    refine gp_I C fk_LandSurvey_Reader_30 pk_LandSurvey_Reader_2 rfl e281 (iw f284 (by decide) (by decide)) (nf_i _) dX3_advance_401 (fun h286 hh285 => ?_)
                    have O287 := O280.pI e281 hh285 rI_4_2 (iw f284 (by decide) (by decide)) nofun
                    have e288 : Rv h286 a0 13 = v1 := ((pIR hh285).trans ((pIR hh278).trans ((fxR F240 e282 rfl).trans ((pJR hh232).trans ((pJR hh27).trans ((pR_j hh23 (by decide)).trans ((pIR hh19).trans ((fxR F9 ta0 rfl).trans e2))))))))
                    have e289 : Iv h286 a0 4 = 3 := ((pI_j hh285 (by decide)).trans (pI_e hh278))
                    have e290 : Jv h286 a0 5 = v141 := ((pIJ hh285).trans ((pIJ hh278).trans ((fxJ F240 e282 rfl).trans (pJ_e hh232))))
                    have e291 : Rv h286 a0 6 = 0 := ((pIR hh285).trans ((pIR hh278).trans ((fxR F240 e282 rfl).trans ((pJR hh232).trans ((pJR hh27).trans (pR_e hh23))))))
                    have e292 : Tg h286 v1 = 2006 := ((pIT hh285).trans ((pIT hh278).trans (fxT F240 ((pJT hh232).trans ((pJT hh27).trans ((pRT hh23).trans ((pIT hh19).trans (fxT F9 t3))))))))
                    have e293 : Rv h4 a0 13 = v1 := ((fxR F9 ta0 rfl).trans e2)
                    have e294 : Tg h4 v1 = 2006 := (fxT F9 t3)
                    have e295 : Rv h20 a0 13 = v1 := ((pIR hh19).trans e293)
                    have e296 : Tg h20 v1 = 2006 := ((pIT hh19).trans e294)
                    have e297 : Rv h24 a0 13 = v1 := ((pR_j hh23 (by decide)).trans e295)
                    have e298 : Tg h24 v1 = 2006 := ((pRT hh23).trans e296)
                    have e299 : Rv h28 a0 13 = v1 := ((pJR hh27).trans e297)
                    have e300 : Tg h28 v1 = 2006 := ((pJT hh27).trans e298)
                    have e301 : Rv h233 a0 13 = v1 := ((pJR hh232).trans e299)
                    have e302 : Tg h233 v1 = 2006 := ((pJT hh232).trans e300)
                    have e303 : Rv h236 a0 13 = v1 := ((fxR F240 e282 rfl).trans e301)
                    have e304 : Tg h236 v1 = 2006 := (fxT F240 e302)
                    have e305 : Rv h279 a0 13 = v1 := ((pIR hh278).trans e303)
                    have e306 : Tg h279 v1 = 2006 := ((pIT hh278).trans e304)
                    have p307 := (DOk_fx O280 ((Fx.rf (wr := [802]) (h := h279)).pI e281 hh285 rfl) e281 (by rw [e305]; exact e306) rfl (DOk_fx O239 ((Fx.rf (wr := [804]) (h := h236)).pI e277 hh278 rfl) e277 (by rw [e303]; exact e304) rfl (DOk_fx O234 F240 e282 (by rw [e301]; exact e302) rfl (DOk_fx O29 ((Fx.rf (wr := [805]) (h := h28)).pJ e30 hh232 rfl) e30 (by rw [e299]; exact e300) rfl (DOk_fx O25 ((Fx.rf (wr := [805]) (h := h24)).pJ e26 hh27 rfl) e26 (by rw [e297]; exact e298) rfl (DOk_fx O21 ((Fx.rf (wr := [806]) (h := h20)).pR e22 hh23 rfl) e22 (by rw [e295]; exact e296) rfl (DOk_fx O8 ((Fx.rf (wr := [803]) (h := h4)).pI e12 hh19 rfl) e12 (by rw [e293]; exact e294) rfl (DOk_fx O F9 ta0 (by rw [e2]; exact t3) rfl P_RI0.2))))))))
                    exact g_vret C hr ⟨O287, (((((((((Fx.rf (wr := wr_k0_advance)).call F9 rfl).pI e12 hh19 rfl).pR e22 hh23 rfl).pJ e26 hh27 rfl).pJ e30 hh232 rfl).call F240 rfl).pI e277 hh278 rfl).pI e281 hh285 rfl), (by unfold RInv; rw [e288, e289, e290, e291]; exact ⟨e292, p307, by omega, (Or.inl rfl)⟩)⟩ (by decide) (by decide) dX3_advance_404
                · have f308 : (48 : Int) ≤ v141 ∧ v141 ≤ (57 : Int) := r_le f228 (il 57) q230 (by decide) (by decide)
                  refine GW.sub [1, 0] rfl ?_
                  -- loop at 267
                  have L310 : ∀ (μ : Nat) (h309 : Hp), (1500 - Iv h309 a0 2).toNat = μ → Okh h309 → Fx [802, 805] h28 h309 → (0 ≤ (Iv h309 a0 2 - Iv h309 a0 3) ∧ ((Iv h309 a0 2 - Iv h309 a0 3) ≤ 4 → 0 ≤ Jv h309 a0 5) ∧ ((Iv h309 a0 2 - Iv h309 a0 3) ≤ 0 → Jv h309 a0 5 ≤ 0) ∧ ((Iv h309 a0 2 - Iv h309 a0 3) ≤ 1 → Jv h309 a0 5 ≤ 9) ∧ ((Iv h309 a0 2 - Iv h309 a0 3) ≤ 2 → Jv h309 a0 5 ≤ 99) ∧ ((Iv h309 a0 2 - Iv h309 a0 3) ≤ 3 → Jv h309 a0 5 ≤ 999) ∧ ((Iv h309 a0 2 - Iv h309 a0 3) ≤ 4 → Jv h309 a0 5 ≤ 9999)) → GW p l e (rmm 4 91 0 0) s m (List.map toV [.inr (.inr a0)]).toArray below meth c D cy z0 2 (MQ below (QV D cy z0 (fun h1 => Okh h1 ∧ Fx wr_k0_advance h h1 ∧ (RInv w h1 a0))) (List.map toV [.inr (.inr a0)]).toArray s 0 0 (Aof z0)) 267 [(0, .inr (.inr a0)), (1, .inl v141)] [] h309 0 0 := by
                    intro μ
                    induction μ using Nat.strongRecOn with
                    | ind μ ih311 =>
                      intro h309 hm312 O313 F314 p315
                      obtain ⟨v316, e317⟩ : ∃ z, Iv h309 a0 2 = z := ⟨_, rfl⟩
                      have e318 : Tg h309 a0 = 4 := (fxT F314 e30)
                      have f319 := ok_I O313 e318 rI_4_2 e317
                      obtain ⟨v320, e321⟩ : ∃ z, Jv h309 a0 5 = z := ⟨_, rfl⟩
                      have f322 := inL_J O313 e321
                      have e323 : Iv h309 a0 3 = v10 := ((fxI F314 e30 rfl).trans ((pJI hh27).trans ((pRI hh23).trans (pI_e hh19))))
                      rw [e317, e323, e321] at p315
                      refine g_aload_n C rfl 0 rfl dX3_advance_267 ?_
                      refine gf_I C fk_LandSurvey_Reader_30 rfl e318 e317 dX3_advance_268 ?_
                      refine g_aload_n C rfl 0 rfl dX3_advance_271 ?_
                      have e324 : Iv h309 a0 1 = v14 := ((fxI F314 e30 rfl).trans e32)
                      refine gf_I C fk_LandSurvey_Reader_19 rfl e318 e324 dX3_advance_272 ?_
                      refine g_icmp_ge C (iw f319 (by decide) (by decide)) (iw f136 (by decide) (by decide)) 345 (by decide) dX3_advance_275 (fun q325 => ?_) (fun q326 => ?_)
                      · have f327 : (1 : Int) ≤ v316 ∧ v316 ≤ (1500 : Int) := r_ge f319 f136 q325 (by decide) (by decide)
                        refine g_aload_n C rfl 0 rfl dX3_advance_345 ?_
                        refine g_aload_n C rfl 0 rfl dX3_advance_346 ?_
                        refine gf_I C fk_LandSurvey_Reader_30 rfl e318 e317 dX3_advance_347 ?_
                        refine g_aload_n C rfl 0 rfl dX3_advance_350 ?_
                        refine gf_I C fk_LandSurvey_Reader_66 rfl e318 e323 dX3_advance_351 ?_
                        have f328 : (-1498 : Int) ≤ (v316 - v10) ∧ (v316 - v10) ≤ (1500 : Int) := ia_sub f327 f135 (by decide) (by decide)
                        refine g_isub C dX3_advance_354 ?_
                        refine g_iconst C dX3_advance_355 ?_
                        refine g_icmp_gt C (iw f328 (by decide) (by decide)) (iw (il 4) (by decide) (by decide)) 363 (by decide) dX3_advance_356 (fun q329 => ?_) (fun q330 => ?_)
                        · have f331 : (5 : Int) ≤ (v316 - v10) ∧ (v316 - v10) ≤ (1500 : Int) := r_gt f328 (il 4) q329 (by decide) (by decide)
                          refine g_iconst C dX3_advance_363 ?_
                          refine gp_I C fk_LandSurvey_Reader_49 pk_LandSurvey_Reader_4 rfl e318 (iw (il 4) (by decide) (by decide)) (nf_i _) dX3_advance_364 (fun h333 hh332 => ?_)
                          have O334 := O313.pI e318 hh332 rI_4_4 (iw (il 4) (by decide) (by decide)) nofun
                          refine g_goto C 404 (by decide) dX3_advance_367 ?_
                          have e335 : Rv h333 a0 13 = v1 := ((pIR hh332).trans ((fxR F314 e30 rfl).trans ((pJR hh27).trans ((pR_j hh23 (by decide)).trans ((pIR hh19).trans ((fxR F9 ta0 rfl).trans e2))))))
                          have e336 : Jv h333 a0 5 = v320 := ((pIJ hh332).trans e321)
                          have e337 : Rv h333 a0 6 = 0 := ((pIR hh332).trans ((fxR F314 e30 rfl).trans ((pJR hh27).trans (pR_e hh23))))
                          have e338 : Tg h333 v1 = 2006 := ((pIT hh332).trans (fxT F314 ((pJT hh27).trans ((pRT hh23).trans ((pIT hh19).trans (fxT F9 t3))))))
                          have e339 : Rv h4 a0 13 = v1 := ((fxR F9 ta0 rfl).trans e2)
                          have e340 : Tg h4 v1 = 2006 := (fxT F9 t3)
                          have e341 : Rv h20 a0 13 = v1 := ((pIR hh19).trans e339)
                          have e342 : Tg h20 v1 = 2006 := ((pIT hh19).trans e340)
                          have e343 : Rv h24 a0 13 = v1 := ((pR_j hh23 (by decide)).trans e341)
                          have e344 : Tg h24 v1 = 2006 := ((pRT hh23).trans e342)
                          have e345 : Rv h28 a0 13 = v1 := ((pJR hh27).trans e343)
                          have e346 : Tg h28 v1 = 2006 := ((pJT hh27).trans e344)
                          have e347 : Rv h309 a0 13 = v1 := ((fxR F314 e30 rfl).trans e345)
                          have e348 : Tg h309 v1 = 2006 := (fxT F314 e346)
                          have p349 := (DOk_fx O313 ((Fx.rf (wr := [804]) (h := h309)).pI e318 hh332 rfl) e318 (by rw [e347]; exact e348) rfl (DOk_fx O29 F314 e30 (by rw [e345]; exact e346) rfl (DOk_fx O25 ((Fx.rf (wr := [805]) (h := h24)).pJ e26 hh27 rfl) e26 (by rw [e343]; exact e344) rfl (DOk_fx O21 ((Fx.rf (wr := [806]) (h := h20)).pR e22 hh23 rfl) e22 (by rw [e341]; exact e342) rfl (DOk_fx O8 ((Fx.rf (wr := [803]) (h := h4)).pI e12 hh19 rfl) e12 (by rw [e339]; exact e340) rfl (DOk_fx O F9 ta0 (by rw [e2]; exact t3) rfl P_RI0.2))))))
                          exact g_vret C hr ⟨O334, (((((((Fx.rf (wr := wr_k0_advance)).call F9 rfl).pI e12 hh19 rfl).pR e22 hh23 rfl).pJ e26 hh27 rfl).call F314 rfl).pI e318 hh332 rfl), (by unfold RInv; rw [e335, (pI_e hh332), e336, e337]; exact ⟨e338, p349, by omega, (Or.inl rfl)⟩)⟩ (by decide) (by decide) dX3_advance_404
                        · have f350 : (-1498 : Int) ≤ (v316 - v10) ∧ (v316 - v10) ≤ (4 : Int) := r_le f328 (il 4) q330 (by decide) (by decide)
                          refine g_iconst C dX3_advance_359 ?_
                          refine g_goto C 364 (by decide) dX3_advance_360 ?_
                          refine gp_I C fk_LandSurvey_Reader_49 pk_LandSurvey_Reader_4 rfl e318 (iw (il 2) (by decide) (by decide)) (nf_i _) dX3_advance_364 (fun h352 hh351 => ?_)
                          have O353 := O313.pI e318 hh351 rI_4_4 (iw (il 2) (by decide) (by decide)) nofun
                          refine g_goto C 404 (by decide) dX3_advance_367 ?_
                          have e354 : Rv h352 a0 13 = v1 := ((pIR hh351).trans ((fxR F314 e30 rfl).trans ((pJR hh27).trans ((pR_j hh23 (by decide)).trans ((pIR hh19).trans ((fxR F9 ta0 rfl).trans e2))))))
                          have e355 : Jv h352 a0 5 = v320 := ((pIJ hh351).trans e321)
                          have e356 : Rv h352 a0 6 = 0 := ((pIR hh351).trans ((fxR F314 e30 rfl).trans ((pJR hh27).trans (pR_e hh23))))
                          have e357 : Tg h352 v1 = 2006 := ((pIT hh351).trans (fxT F314 ((pJT hh27).trans ((pRT hh23).trans ((pIT hh19).trans (fxT F9 t3))))))
                          have e358 : Rv h4 a0 13 = v1 := ((fxR F9 ta0 rfl).trans e2)
                          have e359 : Tg h4 v1 = 2006 := (fxT F9 t3)
                          have e360 : Rv h20 a0 13 = v1 := ((pIR hh19).trans e358)
                          have e361 : Tg h20 v1 = 2006 := ((pIT hh19).trans e359)
                          have e362 : Rv h24 a0 13 = v1 := ((pR_j hh23 (by decide)).trans e360)
                          have e363 : Tg h24 v1 = 2006 := ((pRT hh23).trans e361)
                          have e364 : Rv h28 a0 13 = v1 := ((pJR hh27).trans e362)
                          have e365 : Tg h28 v1 = 2006 := ((pJT hh27).trans e363)
                          have e366 : Rv h309 a0 13 = v1 := ((fxR F314 e30 rfl).trans e364)
                          have e367 : Tg h309 v1 = 2006 := (fxT F314 e365)
                          have p368 := (DOk_fx O313 ((Fx.rf (wr := [804]) (h := h309)).pI e318 hh351 rfl) e318 (by rw [e366]; exact e367) rfl (DOk_fx O29 F314 e30 (by rw [e364]; exact e365) rfl (DOk_fx O25 ((Fx.rf (wr := [805]) (h := h24)).pJ e26 hh27 rfl) e26 (by rw [e362]; exact e363) rfl (DOk_fx O21 ((Fx.rf (wr := [806]) (h := h20)).pR e22 hh23 rfl) e22 (by rw [e360]; exact e361) rfl (DOk_fx O8 ((Fx.rf (wr := [803]) (h := h4)).pI e12 hh19 rfl) e12 (by rw [e358]; exact e359) rfl (DOk_fx O F9 ta0 (by rw [e2]; exact t3) rfl P_RI0.2))))))
                          exact g_vret C hr ⟨O353, (((((((Fx.rf (wr := wr_k0_advance)).call F9 rfl).pI e12 hh19 rfl).pR e22 hh23 rfl).pJ e26 hh27 rfl).call F314 rfl).pI e318 hh351 rfl), (by unfold RInv; rw [e354, (pI_e hh351), e355, e356]; exact ⟨e357, p368, by omega, (Or.inl rfl)⟩)⟩ (by decide) (by decide) dX3_advance_404
                      · have f369 : (0 : Int) ≤ v316 ∧ v316 ≤ (1499 : Int) := r_lt f319 f136 q326 (by decide) (by decide)
                        refine g_aload_n C rfl 0 rfl dX3_advance_278 ?_
                        have e370 : Rv h309 a0 0 = v137 := ((fxR F314 e30 rfl).trans e138)
                        refine gf_R C fk_LandSurvey_Reader_9 rfl e318 e370 dX3_advance_279 ?_
                        refine g_aload_n C rfl 0 rfl dX3_advance_282 ?_
                        refine gf_I C fk_LandSurvey_Reader_30 rfl e318 e317 dX3_advance_283 ?_
                        have e371 : Tg h309 v137 = 19103 := (fxT F314 t139)
                        have e372 : Ln h309 v137 = 1500 := ((fxL F314 t139).trans l140)
                        obtain ⟨v373, e374⟩ : ∃ z, Iv h309 v137 v316.toNat = z := ⟨_, rfl⟩
                        have f375 := ok_Ia O313 e371 ar_19103 rI_19103_0 e374
                        refine g_cald C e371 rfl e372 (ix f369 (by decide) (by decide)) e374 dX3_advance_286 ?_
                        refine g_bipush C (by decide) dX3_advance_287 ?_
                        refine g_icmp_lt C (iw f375 (by decide) (by decide)) (iw (il 48) (by decide) (by decide)) 345 (by decide) dX3_advance_289 (fun q376 => ?_) (fun q377 => ?_)
                        · have f378 : (0 : Int) ≤ v373 ∧ v373 ≤ (47 : Int) := r_lt f375 (il 48) q376 (by decide) (by decide)
                          refine g_aload_n C rfl 0 rfl dX3_advance_345 ?_
                          refine g_aload_n C rfl 0 rfl dX3_advance_346 ?_
                          refine gf_I C fk_LandSurvey_Reader_30 rfl e318 e317 dX3_advance_347 ?_
                          refine g_aload_n C rfl 0 rfl dX3_advance_350 ?_
                          refine gf_I C fk_LandSurvey_Reader_66 rfl e318 e323 dX3_advance_351 ?_
                          have f379 : (-1499 : Int) ≤ (v316 - v10) ∧ (v316 - v10) ≤ (1499 : Int) := ia_sub f369 f135 (by decide) (by decide)
                          refine g_isub C dX3_advance_354 ?_
                          refine g_iconst C dX3_advance_355 ?_
                          refine g_icmp_gt C (iw f379 (by decide) (by decide)) (iw (il 4) (by decide) (by decide)) 363 (by decide) dX3_advance_356 (fun q380 => ?_) (fun q381 => ?_)
                          · have f382 : (5 : Int) ≤ (v316 - v10) ∧ (v316 - v10) ≤ (1499 : Int) := r_gt f379 (il 4) q380 (by decide) (by decide)
                            refine g_iconst C dX3_advance_363 ?_
                            refine gp_I C fk_LandSurvey_Reader_49 pk_LandSurvey_Reader_4 rfl e318 (iw (il 4) (by decide) (by decide)) (nf_i _) dX3_advance_364 (fun h384 hh383 => ?_)
                            have O385 := O313.pI e318 hh383 rI_4_4 (iw (il 4) (by decide) (by decide)) nofun
                            refine g_goto C 404 (by decide) dX3_advance_367 ?_
                            have e386 : Rv h384 a0 13 = v1 := ((pIR hh383).trans ((fxR F314 e30 rfl).trans ((pJR hh27).trans ((pR_j hh23 (by decide)).trans ((pIR hh19).trans ((fxR F9 ta0 rfl).trans e2))))))
                            have e387 : Jv h384 a0 5 = v320 := ((pIJ hh383).trans e321)
                            have e388 : Rv h384 a0 6 = 0 := ((pIR hh383).trans ((fxR F314 e30 rfl).trans ((pJR hh27).trans (pR_e hh23))))
                            have e389 : Tg h384 v1 = 2006 := ((pIT hh383).trans (fxT F314 ((pJT hh27).trans ((pRT hh23).trans ((pIT hh19).trans (fxT F9 t3))))))
                            have e390 : Rv h4 a0 13 = v1 := ((fxR F9 ta0 rfl).trans e2)
                            have e391 : Tg h4 v1 = 2006 := (fxT F9 t3)
                            have e392 : Rv h20 a0 13 = v1 := ((pIR hh19).trans e390)
                            have e393 : Tg h20 v1 = 2006 := ((pIT hh19).trans e391)
                            have e394 : Rv h24 a0 13 = v1 := ((pR_j hh23 (by decide)).trans e392)
                            have e395 : Tg h24 v1 = 2006 := ((pRT hh23).trans e393)
                            have e396 : Rv h28 a0 13 = v1 := ((pJR hh27).trans e394)
                            have e397 : Tg h28 v1 = 2006 := ((pJT hh27).trans e395)
                            have e398 : Rv h309 a0 13 = v1 := ((fxR F314 e30 rfl).trans e396)
                            have e399 : Tg h309 v1 = 2006 := (fxT F314 e397)
                            have p400 := (DOk_fx O313 ((Fx.rf (wr := [804]) (h := h309)).pI e318 hh383 rfl) e318 (by rw [e398]; exact e399) rfl (DOk_fx O29 F314 e30 (by rw [e396]; exact e397) rfl (DOk_fx O25 ((Fx.rf (wr := [805]) (h := h24)).pJ e26 hh27 rfl) e26 (by rw [e394]; exact e395) rfl (DOk_fx O21 ((Fx.rf (wr := [806]) (h := h20)).pR e22 hh23 rfl) e22 (by rw [e392]; exact e393) rfl (DOk_fx O8 ((Fx.rf (wr := [803]) (h := h4)).pI e12 hh19 rfl) e12 (by rw [e390]; exact e391) rfl (DOk_fx O F9 ta0 (by rw [e2]; exact t3) rfl P_RI0.2))))))
                            exact g_vret C hr ⟨O385, (((((((Fx.rf (wr := wr_k0_advance)).call F9 rfl).pI e12 hh19 rfl).pR e22 hh23 rfl).pJ e26 hh27 rfl).call F314 rfl).pI e318 hh383 rfl), (by unfold RInv; rw [e386, (pI_e hh383), e387, e388]; exact ⟨e389, p400, by omega, (Or.inl rfl)⟩)⟩ (by decide) (by decide) dX3_advance_404
                          · have f401 : (-1499 : Int) ≤ (v316 - v10) ∧ (v316 - v10) ≤ (4 : Int) := r_le f379 (il 4) q381 (by decide) (by decide)
                            refine g_iconst C dX3_advance_359 ?_
                            refine g_goto C 364 (by decide) dX3_advance_360 ?_
                            refine gp_I C fk_LandSurvey_Reader_49 pk_LandSurvey_Reader_4 rfl e318 (iw (il 2) (by decide) (by decide)) (nf_i _) dX3_advance_364 (fun h403 hh402 => ?_)
                            have O404 := O313.pI e318 hh402 rI_4_4 (iw (il 2) (by decide) (by decide)) nofun
                            refine g_goto C 404 (by decide) dX3_advance_367 ?_
                            have e405 : Rv h403 a0 13 = v1 := ((pIR hh402).trans ((fxR F314 e30 rfl).trans ((pJR hh27).trans ((pR_j hh23 (by decide)).trans ((pIR hh19).trans ((fxR F9 ta0 rfl).trans e2))))))
                            have e406 : Jv h403 a0 5 = v320 := ((pIJ hh402).trans e321)
                            have e407 : Rv h403 a0 6 = 0 := ((pIR hh402).trans ((fxR F314 e30 rfl).trans ((pJR hh27).trans (pR_e hh23))))
                            have e408 : Tg h403 v1 = 2006 := ((pIT hh402).trans (fxT F314 ((pJT hh27).trans ((pRT hh23).trans ((pIT hh19).trans (fxT F9 t3))))))
                            have e409 : Rv h4 a0 13 = v1 := ((fxR F9 ta0 rfl).trans e2)
                            have e410 : Tg h4 v1 = 2006 := (fxT F9 t3)
                            have e411 : Rv h20 a0 13 = v1 := ((pIR hh19).trans e409)
                            have e412 : Tg h20 v1 = 2006 := ((pIT hh19).trans e410)
                            have e413 : Rv h24 a0 13 = v1 := ((pR_j hh23 (by decide)).trans e411)
                            have e414 : Tg h24 v1 = 2006 := ((pRT hh23).trans e412)
                            have e415 : Rv h28 a0 13 = v1 := ((pJR hh27).trans e413)
                            have e416 : Tg h28 v1 = 2006 := ((pJT hh27).trans e414)
                            have e417 : Rv h309 a0 13 = v1 := ((fxR F314 e30 rfl).trans e415)
                            have e418 : Tg h309 v1 = 2006 := (fxT F314 e416)
                            have p419 := (DOk_fx O313 ((Fx.rf (wr := [804]) (h := h309)).pI e318 hh402 rfl) e318 (by rw [e417]; exact e418) rfl (DOk_fx O29 F314 e30 (by rw [e415]; exact e416) rfl (DOk_fx O25 ((Fx.rf (wr := [805]) (h := h24)).pJ e26 hh27 rfl) e26 (by rw [e413]; exact e414) rfl (DOk_fx O21 ((Fx.rf (wr := [806]) (h := h20)).pR e22 hh23 rfl) e22 (by rw [e411]; exact e412) rfl (DOk_fx O8 ((Fx.rf (wr := [803]) (h := h4)).pI e12 hh19 rfl) e12 (by rw [e409]; exact e410) rfl (DOk_fx O F9 ta0 (by rw [e2]; exact t3) rfl P_RI0.2))))))
                            exact g_vret C hr ⟨O404, (((((((Fx.rf (wr := wr_k0_advance)).call F9 rfl).pI e12 hh19 rfl).pR e22 hh23 rfl).pJ e26 hh27 rfl).call F314 rfl).pI e318 hh402 rfl), (by unfold RInv; rw [e405, (pI_e hh402), e406, e407]; exact ⟨e408, p419, by omega, (Or.inl rfl)⟩)⟩ (by decide) (by decide) dX3_advance_404
                        · have f420 : (48 : Int) ≤ v373 ∧ v373 ≤ (126 : Int) := r_ge f375 (il 48) q377 (by decide) (by decide)
                          refine g_aload_n C rfl 0 rfl dX3_advance_292 ?_
                          refine gf_R C fk_LandSurvey_Reader_9 rfl e318 e370 dX3_advance_293 ?_
                          refine g_aload_n C rfl 0 rfl dX3_advance_296 ?_
                          refine gf_I C fk_LandSurvey_Reader_30 rfl e318 e317 dX3_advance_297 ?_
                          refine g_cald C e371 rfl e372 (ix f369 (by decide) (by decide)) e374 dX3_advance_300 ?_
                          refine g_bipush C (by decide) dX3_advance_301 ?_
                          refine g_icmp_gt C (iw f420 (by decide) (by decide)) (iw (il 57) (by decide) (by decide)) 345 (by decide) dX3_advance_303 (fun q421 => ?_) (fun q422 => ?_)
                          · have f423 : (58 : Int) ≤ v373 ∧ v373 ≤ (126 : Int) := r_gt f420 (il 57) q421 (by decide) (by decide)
                            refine g_aload_n C rfl 0 rfl dX3_advance_345 ?_
                            refine g_aload_n C rfl 0 rfl dX3_advance_346 ?_
                            refine gf_I C fk_LandSurvey_Reader_30 rfl e318 e317 dX3_advance_347 ?_
                            refine g_aload_n C rfl 0 rfl dX3_advance_350 ?_
                            refine gf_I C fk_LandSurvey_Reader_66 rfl e318 e323 dX3_advance_351 ?_
                            have f424 : (-1499 : Int) ≤ (v316 - v10) ∧ (v316 - v10) ≤ (1499 : Int) := ia_sub f369 f135 (by decide) (by decide)
                            refine g_isub C dX3_advance_354 ?_
                            refine g_iconst C dX3_advance_355 ?_
                            refine g_icmp_gt C (iw f424 (by decide) (by decide)) (iw (il 4) (by decide) (by decide)) 363 (by decide) dX3_advance_356 (fun q425 => ?_) (fun q426 => ?_)
                            · have f427 : (5 : Int) ≤ (v316 - v10) ∧ (v316 - v10) ≤ (1499 : Int) := r_gt f424 (il 4) q425 (by decide) (by decide)
                              refine g_iconst C dX3_advance_363 ?_
                              refine gp_I C fk_LandSurvey_Reader_49 pk_LandSurvey_Reader_4 rfl e318 (iw (il 4) (by decide) (by decide)) (nf_i _) dX3_advance_364 (fun h429 hh428 => ?_)
                              have O430 := O313.pI e318 hh428 rI_4_4 (iw (il 4) (by decide) (by decide)) nofun
                              refine g_goto C 404 (by decide) dX3_advance_367 ?_
                              have e431 : Rv h429 a0 13 = v1 := ((pIR hh428).trans ((fxR F314 e30 rfl).trans ((pJR hh27).trans ((pR_j hh23 (by decide)).trans ((pIR hh19).trans ((fxR F9 ta0 rfl).trans e2))))))
                              have e432 : Jv h429 a0 5 = v320 := ((pIJ hh428).trans e321)
                              have e433 : Rv h429 a0 6 = 0 := ((pIR hh428).trans ((fxR F314 e30 rfl).trans ((pJR hh27).trans (pR_e hh23))))
                              have e434 : Tg h429 v1 = 2006 := ((pIT hh428).trans (fxT F314 ((pJT hh27).trans ((pRT hh23).trans ((pIT hh19).trans (fxT F9 t3))))))
                              have e435 : Rv h4 a0 13 = v1 := ((fxR F9 ta0 rfl).trans e2)
                              have e436 : Tg h4 v1 = 2006 := (fxT F9 t3)
                              have e437 : Rv h20 a0 13 = v1 := ((pIR hh19).trans e435)
                              have e438 : Tg h20 v1 = 2006 := ((pIT hh19).trans e436)
                              have e439 : Rv h24 a0 13 = v1 := ((pR_j hh23 (by decide)).trans e437)
                              have e440 : Tg h24 v1 = 2006 := ((pRT hh23).trans e438)
                              have e441 : Rv h28 a0 13 = v1 := ((pJR hh27).trans e439)
                              have e442 : Tg h28 v1 = 2006 := ((pJT hh27).trans e440)
                              have e443 : Rv h309 a0 13 = v1 := ((fxR F314 e30 rfl).trans e441)
                              have e444 : Tg h309 v1 = 2006 := (fxT F314 e442)
                              have p445 := (DOk_fx O313 ((Fx.rf (wr := [804]) (h := h309)).pI e318 hh428 rfl) e318 (by rw [e443]; exact e444) rfl (DOk_fx O29 F314 e30 (by rw [e441]; exact e442) rfl (DOk_fx O25 ((Fx.rf (wr := [805]) (h := h24)).pJ e26 hh27 rfl) e26 (by rw [e439]; exact e440) rfl (DOk_fx O21 ((Fx.rf (wr := [806]) (h := h20)).pR e22 hh23 rfl) e22 (by rw [e437]; exact e438) rfl (DOk_fx O8 ((Fx.rf (wr := [803]) (h := h4)).pI e12 hh19 rfl) e12 (by rw [e435]; exact e436) rfl (DOk_fx O F9 ta0 (by rw [e2]; exact t3) rfl P_RI0.2))))))
                              exact g_vret C hr ⟨O430, (((((((Fx.rf (wr := wr_k0_advance)).call F9 rfl).pI e12 hh19 rfl).pR e22 hh23 rfl).pJ e26 hh27 rfl).call F314 rfl).pI e318 hh428 rfl), (by unfold RInv; rw [e431, (pI_e hh428), e432, e433]; exact ⟨e434, p445, by omega, (Or.inl rfl)⟩)⟩ (by decide) (by decide) dX3_advance_404
                            · have f446 : (-1499 : Int) ≤ (v316 - v10) ∧ (v316 - v10) ≤ (4 : Int) := r_le f424 (il 4) q426 (by decide) (by decide)
                              refine g_iconst C dX3_advance_359 ?_
                              refine g_goto C 364 (by decide) dX3_advance_360 ?_
                              refine gp_I C fk_LandSurvey_Reader_49 pk_LandSurvey_Reader_4 rfl e318 (iw (il 2) (by decide) (by decide)) (nf_i _) dX3_advance_364 (fun h448 hh447 => ?_)
                              have O449 := O313.pI e318 hh447 rI_4_4 (iw (il 2) (by decide) (by decide)) nofun
                              refine g_goto C 404 (by decide) dX3_advance_367 ?_
                              have e450 : Rv h448 a0 13 = v1 := ((pIR hh447).trans ((fxR F314 e30 rfl).trans ((pJR hh27).trans ((pR_j hh23 (by decide)).trans ((pIR hh19).trans ((fxR F9 ta0 rfl).trans e2))))))
                              have e451 : Jv h448 a0 5 = v320 := ((pIJ hh447).trans e321)
                              have e452 : Rv h448 a0 6 = 0 := ((pIR hh447).trans ((fxR F314 e30 rfl).trans ((pJR hh27).trans (pR_e hh23))))
                              have e453 : Tg h448 v1 = 2006 := ((pIT hh447).trans (fxT F314 ((pJT hh27).trans ((pRT hh23).trans ((pIT hh19).trans (fxT F9 t3))))))
                              have e454 : Rv h4 a0 13 = v1 := ((fxR F9 ta0 rfl).trans e2)
                              have e455 : Tg h4 v1 = 2006 := (fxT F9 t3)
                              have e456 : Rv h20 a0 13 = v1 := ((pIR hh19).trans e454)
                              have e457 : Tg h20 v1 = 2006 := ((pIT hh19).trans e455)
                              have e458 : Rv h24 a0 13 = v1 := ((pR_j hh23 (by decide)).trans e456)
                              have e459 : Tg h24 v1 = 2006 := ((pRT hh23).trans e457)
                              have e460 : Rv h28 a0 13 = v1 := ((pJR hh27).trans e458)
                              have e461 : Tg h28 v1 = 2006 := ((pJT hh27).trans e459)
                              have e462 : Rv h309 a0 13 = v1 := ((fxR F314 e30 rfl).trans e460)
                              have e463 : Tg h309 v1 = 2006 := (fxT F314 e461)
                              have p464 := (DOk_fx O313 ((Fx.rf (wr := [804]) (h := h309)).pI e318 hh447 rfl) e318 (by rw [e462]; exact e463) rfl (DOk_fx O29 F314 e30 (by rw [e460]; exact e461) rfl (DOk_fx O25 ((Fx.rf (wr := [805]) (h := h24)).pJ e26 hh27 rfl) e26 (by rw [e458]; exact e459) rfl (DOk_fx O21 ((Fx.rf (wr := [806]) (h := h20)).pR e22 hh23 rfl) e22 (by rw [e456]; exact e457) rfl (DOk_fx O8 ((Fx.rf (wr := [803]) (h := h4)).pI e12 hh19 rfl) e12 (by rw [e454]; exact e455) rfl (DOk_fx O F9 ta0 (by rw [e2]; exact t3) rfl P_RI0.2))))))
                              exact g_vret C hr ⟨O449, (((((((Fx.rf (wr := wr_k0_advance)).call F9 rfl).pI e12 hh19 rfl).pR e22 hh23 rfl).pJ e26 hh27 rfl).call F314 rfl).pI e318 hh447 rfl), (by unfold RInv; rw [e450, (pI_e hh447), e451, e452]; exact ⟨e453, p464, by omega, (Or.inl rfl)⟩)⟩ (by decide) (by decide) dX3_advance_404
                          · have f465 : (48 : Int) ≤ v373 ∧ v373 ≤ (57 : Int) := r_le f420 (il 57) q422 (by decide) (by decide)
                            refine g_aload_n C rfl 0 rfl dX3_advance_306 ?_
                            refine g_ldc2 (z := 10) C kw_683 (by decide) dX3_advance_307 ?_
                            refine g_aload_n C rfl 0 rfl dX3_advance_310 ?_
                            refine gf_J C fk_LandSurvey_Reader_73 rfl e318 e321 dX3_advance_311 ?_
                            refine g_lmul C dX3_advance_314 ?_
                            have f466 : (-9223372036854775808 : Int) ≤ (lM 10 v320) ∧ (lM 10 v320) ≤ (9223372036854775807 : Int) := inL_of _
                            refine g_aload_n C rfl 0 rfl dX3_advance_315 ?_
                            refine gf_R C fk_LandSurvey_Reader_9 rfl e318 e370 dX3_advance_316 ?_
                            refine g_aload_n C rfl 0 rfl dX3_advance_319 ?_
                            refine gf_I C fk_LandSurvey_Reader_30 rfl e318 e317 dX3_advance_320 ?_
                            refine g_cald C e371 rfl e372 (ix f369 (by decide) (by decide)) e374 dX3_advance_323 ?_
                            refine g_bipush C (by decide) dX3_advance_324 ?_
                            have f467 : (0 : Int) ≤ (v373 - 48) ∧ (v373 - 48) ≤ (9 : Int) := ia_sub f465 (il 48) (by decide) (by decide)
                            refine g_isub C dX3_advance_326 ?_
                            refine g_i2l C (iw f467 (by decide) (by decide)) dX3_advance_327 ?_
                            refine g_ladd C dX3_advance_328 ?_
                            have f468 : (-9223372036854775808 : Int) ≤ (lA (lM 10 v320) (v373 - 48)) ∧ (lA (lM 10 v320) (v373 - 48)) ≤ (9223372036854775807 : Int) := inL_of _
                            refine gp_J C fk_LandSurvey_Reader_73 pk_LandSurvey_Reader_5 rfl e318 rfl f468 dX3_advance_329 (fun h470 hh469 => ?_)
                            have O471 := O313.pJ hh469 f468
                            refine g_aload_n C rfl 0 rfl dX3_advance_332 ?_
                            refine g_dup C rfl dX3_advance_333 ?_
                            have e472 : Tg h470 a0 = 4 := ((pJT hh469).trans e318)
                            have e473 : Iv h470 a0 2 = v316 := ((pJI hh469).trans e317)
                            refine gf_I C fk_LandSurvey_Reader_30 rfl e472 e473 dX3_advance_334 ?_
                            refine g_iconst C dX3_advance_337 ?_
                            have f474 : (1 : Int) ≤ (v316 + 1) ∧ (v316 + 1) ≤ (1500 : Int) := ia_add f369 (il 1) (by decide) (by decide)
                            refine g_iadd C dX3_advance_338 ?_
                            refine gp_I C fk_LandSurvey_Reader_30 pk_LandSurvey_Reader_2 rfl e472 (iw f474 (by decide) (by decide)) (nf_i _) dX3_advance_339 (fun h476 hh475 => ?_)
                            have O477 := O471.pI e472 hh475 rI_4_2 (iw f474 (by decide) (by decide)) nofun
                            refine g_goto C 267 (by decide) dX3_advance_342 ?_
                            refine GW.sub [0, 1] rfl ?_
                            have e478 : Iv h476 a0 2 = (v316 + 1) := (pI_e hh475)
                            have e479 : Iv h476 a0 3 = v10 := ((pI_j hh475 (by decide)).trans ((pJI hh469).trans e323))
                            have e480 : Jv h476 a0 5 = (lA (lM 10 v320) (v373 - 48)) := ((pIJ hh475).trans (pJ_e hh469))
                            have q481 := fun z : 0 ≤ v320 ∧ v320 ≤ 999999 => la_dig z (x := (v373 - 48)) (by omega)
                            exact ih311 _ (by omega) h476 rfl O477 ((F314.pJ e318 hh469 rfl).pI e472 hh475 rfl) (by rw [e478, e479, e480]; omega)
                  have e482 : Iv h28 a0 3 = v10 := ((pJI hh27).trans ((pRI hh23).trans (pI_e hh19)))
                  have e483 : Jv h28 a0 5 = 0 := (pJ_e hh27)
                  exact L310 _ h28 rfl O29 Fx.rf (by rw [e31, e482, e483]; omega)
            · have f484 : (97 : Int) ≤ v141 ∧ v141 ≤ (126 : Int) := r_ge f143 (il 97) q147 (by decide) (by decide)
              refine g_iload_n C rfl 0 rfl dX3_advance_120 ?_
              refine g_bipush C (by decide) dX3_advance_121 ?_
              refine g_icmp_gt C (iw f484 (by decide) (by decide)) (iw (il 122) (by decide) (by decide)) 255 (by decide) dX3_advance_123 (fun q485 => ?_) (fun q486 => ?_)
              · have f487 : (123 : Int) ≤ v141 ∧ v141 ≤ (126 : Int) := r_gt f484 (il 122) q485 (by decide) (by decide)
                refine g_iload_n C rfl 0 rfl dX3_advance_255 ?_
                refine g_bipush C (by decide) dX3_advance_256 ?_
                refine g_icmp_lt C (iw f487 (by decide) (by decide)) (iw (il 48) (by decide) (by decide)) 370 (by decide) dX3_advance_258 (fun q488 => ?_) (fun q489 => ?_)
                · exact (no_lt f487 (il 48) q488 (by decide)).elim
                · refine g_iload_n C rfl 0 rfl dX3_advance_261 ?_
                  refine g_bipush C (by decide) dX3_advance_262 ?_
                  refine g_icmp_gt C (iw f487 (by decide) (by decide)) (iw (il 57) (by decide) (by decide)) 370 (by decide) dX3_advance_264 (fun q490 => ?_) (fun q491 => ?_)
                  · refine g_aload_n C rfl 1 rfl dX3_advance_370 ?_
                    refine g_iload_n C rfl 0 rfl dX3_advance_371 ?_
                    refine g_i2l C (iw f487 (by decide) (by decide)) dX3_advance_372 ?_
                    refine gp_J C fk_LandSurvey_Reader_73 pk_LandSurvey_Reader_5 rfl e30 rfl (iw f487 (by decide) (by decide)) dX3_advance_373 (fun h493 hh492 => ?_)
                    have O494 := O29.pJ hh492 (iw f487 (by decide) (by decide))
                    refine g_aload_n C rfl 1 rfl dX3_advance_376 ?_
                    refine g_ldcS C C.2.2.2.2.1.2 dX3_advance_377 ?_
                    refine g_iload_n C rfl 0 rfl dX3_advance_379 ?_
                    refine g_callI (st := [.inr (.inr a0)]) (gc_VS C lk_LandSurvey_Reader_89 rfl (k_J0_indexOf_0f7a4 l D cy w z0 O494 (iw f487 (by decide) (by decide))) rfl ⟨by decide, by decide⟩ (Nat.le_of_ble_eq_true rfl) dX3_advance_380 ⟨(by decide), (by decide)⟩) (fun r495 h496 f498 K497 => ?_)
                    obtain ⟨O499, F500, f501⟩ := K497
                    refine g_if_lt C f501 390 (by decide) dX3_advance_383 (fun q502 => ?_) (fun q503 => ?_)
                    · have f504 : (-2147483648 : Int) ≤ r495 ∧ r495 ≤ (-1 : Int) := r_lt f501 (il 0) q502 (by decide) (by decide)
                      refine g_iconst C dX3_advance_390 ?_
                      have e505 : Tg h496 a0 = 4 := (fxT F500 ((pJT hh492).trans e30))
                      refine gp_I C fk_LandSurvey_Reader_49 pk_LandSurvey_Reader_4 rfl e505 (iw (il 4) (by decide) (by decide)) (nf_i _) dX3_advance_391 (fun h507 hh506 => ?_)
                      have O508 := O499.pI e505 hh506 rI_4_4 (iw (il 4) (by decide) (by decide)) nofun
                      refine g_aload_n C rfl 1 rfl dX3_advance_394 ?_
                      refine g_dup C rfl dX3_advance_395 ?_
                      have e509 : Tg h507 a0 = 4 := ((pIT hh506).trans e505)
                      have e510 : Tg h493 a0 = 4 := ((pJT hh492).trans e30)
                      have e511 : Iv h507 a0 2 = v10 := ((pI_j hh506 (by decide)).trans ((fxI F500 e510 rfl).trans ((pJI hh492).trans e31)))
                      refine gf_I C fk_LandSurvey_Reader_30 rfl e509 e511 dX3_advance_396 ?_
                      refine g_iconst C dX3_advance_399 ?_
                      have f512 : (1 : Int) ≤ (v10 + 1) ∧ (v10 + 1) ≤ (1500 : Int) := ia_add f135 (il 1) (by decide) (by decide)
                      refine g_iadd C dX3_advance_400 ?_
                      refine gp_I C fk_LandSurvey_Reader_30 pk_LandSurvey_Reader_2 rfl e509 (iw f512 (by decide) (by decide)) (nf_i _) dX3_advance_401 (fun h514 hh513 => ?_)
                      have O515 := O508.pI e509 hh513 rI_4_2 (iw f512 (by decide) (by decide)) nofun
                      have e516 : Rv h514 a0 13 = v1 := ((pIR hh513).trans ((pIR hh506).trans ((fxR F500 e510 rfl).trans ((pJR hh492).trans ((pJR hh27).trans ((pR_j hh23 (by decide)).trans ((pIR hh19).trans ((fxR F9 ta0 rfl).trans e2))))))))
                      have e517 : Iv h514 a0 4 = 4 := ((pI_j hh513 (by decide)).trans (pI_e hh506))
                      have e518 : Jv h514 a0 5 = v141 := ((pIJ hh513).trans ((pIJ hh506).trans ((fxJ F500 e510 rfl).trans (pJ_e hh492))))
                      have e519 : Rv h514 a0 6 = 0 := ((pIR hh513).trans ((pIR hh506).trans ((fxR F500 e510 rfl).trans ((pJR hh492).trans ((pJR hh27).trans (pR_e hh23))))))
                      have e520 : Tg h514 v1 = 2006 := ((pIT hh513).trans ((pIT hh506).trans (fxT F500 ((pJT hh492).trans ((pJT hh27).trans ((pRT hh23).trans ((pIT hh19).trans (fxT F9 t3))))))))
                      have e521 : Rv h4 a0 13 = v1 := ((fxR F9 ta0 rfl).trans e2)
                      have e522 : Tg h4 v1 = 2006 := (fxT F9 t3)
                      have e523 : Rv h20 a0 13 = v1 := ((pIR hh19).trans e521)
                      have e524 : Tg h20 v1 = 2006 := ((pIT hh19).trans e522)
                      have e525 : Rv h24 a0 13 = v1 := ((pR_j hh23 (by decide)).trans e523)
                      have e526 : Tg h24 v1 = 2006 := ((pRT hh23).trans e524)
                      have e527 : Rv h28 a0 13 = v1 := ((pJR hh27).trans e525)
                      have e528 : Tg h28 v1 = 2006 := ((pJT hh27).trans e526)
                      have e529 : Rv h493 a0 13 = v1 := ((pJR hh492).trans e527)
                      have e530 : Tg h493 v1 = 2006 := ((pJT hh492).trans e528)
                      have e531 : Rv h496 a0 13 = v1 := ((fxR F500 e510 rfl).trans e529)
                      have e532 : Tg h496 v1 = 2006 := (fxT F500 e530)
                      have e533 : Rv h507 a0 13 = v1 := ((pIR hh506).trans e531)
                      have e534 : Tg h507 v1 = 2006 := ((pIT hh506).trans e532)
                      have p535 := (DOk_fx O508 ((Fx.rf (wr := [802]) (h := h507)).pI e509 hh513 rfl) e509 (by rw [e533]; exact e534) rfl (DOk_fx O499 ((Fx.rf (wr := [804]) (h := h496)).pI e505 hh506 rfl) e505 (by rw [e531]; exact e532) rfl (DOk_fx O494 F500 e510 (by rw [e529]; exact e530) rfl (DOk_fx O29 ((Fx.rf (wr := [805]) (h := h28)).pJ e30 hh492 rfl) e30 (by rw [e527]; exact e528) rfl (DOk_fx O25 ((Fx.rf (wr := [805]) (h := h24)).pJ e26 hh27 rfl) e26 (by rw [e525]; exact e526) rfl (DOk_fx O21 ((Fx.rf (wr := [806]) (h := h20)).pR e22 hh23 rfl) e22 (by rw [e523]; exact e524) rfl (DOk_fx O8 ((Fx.rf (wr := [803]) (h := h4)).pI e12 hh19 rfl) e12 (by rw [e521]; exact e522) rfl (DOk_fx O F9 ta0 (by rw [e2]; exact t3) rfl P_RI0.2))))))))
                      exact g_vret C hr ⟨O515, (((((((((Fx.rf (wr := wr_k0_advance)).call F9 rfl).pI e12 hh19 rfl).pR e22 hh23 rfl).pJ e26 hh27 rfl).pJ e30 hh492 rfl).call F500 rfl).pI e505 hh506 rfl).pI e509 hh513 rfl), (by unfold RInv; rw [e516, e517, e518, e519]; exact ⟨e520, p535, by omega, (Or.inl rfl)⟩)⟩ (by decide) (by decide) dX3_advance_404
                    · have f536 : (0 : Int) ≤ r495 ∧ r495 ≤ (2147483647 : Int) := r_ge f501 (il 0) q503 (by decide) (by decide)
                      refine g_iconst C dX3_advance_386 ?_
                      refine g_goto C 391 (by decide) dX3_advance_387 ?_
                      have e537 : Tg h496 a0 = 4 := (fxT F500 ((pJT hh492).trans e30))
                      refine gp_I C fk_LandSurvey_Reader_49 pk_LandSurvey_Reader_4 rfl e537 (iw (il 3) (by decide) (by decide)) (nf_i _) dX3_advance_391 (fun h539 hh538 => ?_)
                      have O540 := O499.pI e537 hh538 rI_4_4 (iw (il 3) (by decide) (by decide)) nofun
                      refine g_aload_n C rfl 1 rfl dX3_advance_394 ?_
                      refine g_dup C rfl dX3_advance_395 ?_
                      have e541 : Tg h539 a0 = 4 := ((pIT hh538).trans e537)
                      have e542 : Tg h493 a0 = 4 := ((pJT hh492).trans e30)
                      have e543 : Iv h539 a0 2 = v10 := ((pI_j hh538 (by decide)).trans ((fxI F500 e542 rfl).trans ((pJI hh492).trans e31)))
                      refine gf_I C fk_LandSurvey_Reader_30 rfl e541 e543 dX3_advance_396 ?_
                      refine g_iconst C dX3_advance_399 ?_
                      have f544 : (1 : Int) ≤ (v10 + 1) ∧ (v10 + 1) ≤ (1500 : Int) := ia_add f135 (il 1) (by decide) (by decide)
                      refine g_iadd C dX3_advance_400 ?_
                      refine gp_I C fk_LandSurvey_Reader_30 pk_LandSurvey_Reader_2 rfl e541 (iw f544 (by decide) (by decide)) (nf_i _) dX3_advance_401 (fun h546 hh545 => ?_)
                      have O547 := O540.pI e541 hh545 rI_4_2 (iw f544 (by decide) (by decide)) nofun
                      have e548 : Rv h546 a0 13 = v1 := ((pIR hh545).trans ((pIR hh538).trans ((fxR F500 e542 rfl).trans ((pJR hh492).trans ((pJR hh27).trans ((pR_j hh23 (by decide)).trans ((pIR hh19).trans ((fxR F9 ta0 rfl).trans e2))))))))
                      have e549 : Iv h546 a0 4 = 3 := ((pI_j hh545 (by decide)).trans (pI_e hh538))
                      have e550 : Jv h546 a0 5 = v141 := ((pIJ hh545).trans ((pIJ hh538).trans ((fxJ F500 e542 rfl).trans (pJ_e hh492))))
                      have e551 : Rv h546 a0 6 = 0 := ((pIR hh545).trans ((pIR hh538).trans ((fxR F500 e542 rfl).trans ((pJR hh492).trans ((pJR hh27).trans (pR_e hh23))))))
                      have e552 : Tg h546 v1 = 2006 := ((pIT hh545).trans ((pIT hh538).trans (fxT F500 ((pJT hh492).trans ((pJT hh27).trans ((pRT hh23).trans ((pIT hh19).trans (fxT F9 t3))))))))
                      have e553 : Rv h4 a0 13 = v1 := ((fxR F9 ta0 rfl).trans e2)
                      have e554 : Tg h4 v1 = 2006 := (fxT F9 t3)
                      have e555 : Rv h20 a0 13 = v1 := ((pIR hh19).trans e553)
                      have e556 : Tg h20 v1 = 2006 := ((pIT hh19).trans e554)
                      have e557 : Rv h24 a0 13 = v1 := ((pR_j hh23 (by decide)).trans e555)
                      have e558 : Tg h24 v1 = 2006 := ((pRT hh23).trans e556)
                      have e559 : Rv h28 a0 13 = v1 := ((pJR hh27).trans e557)
                      have e560 : Tg h28 v1 = 2006 := ((pJT hh27).trans e558)
                      have e561 : Rv h493 a0 13 = v1 := ((pJR hh492).trans e559)
                      have e562 : Tg h493 v1 = 2006 := ((pJT hh492).trans e560)
                      have e563 : Rv h496 a0 13 = v1 := ((fxR F500 e542 rfl).trans e561)
                      have e564 : Tg h496 v1 = 2006 := (fxT F500 e562)
                      have e565 : Rv h539 a0 13 = v1 := ((pIR hh538).trans e563)
                      have e566 : Tg h539 v1 = 2006 := ((pIT hh538).trans e564)
                      have p567 := (DOk_fx O540 ((Fx.rf (wr := [802]) (h := h539)).pI e541 hh545 rfl) e541 (by rw [e565]; exact e566) rfl (DOk_fx O499 ((Fx.rf (wr := [804]) (h := h496)).pI e537 hh538 rfl) e537 (by rw [e563]; exact e564) rfl (DOk_fx O494 F500 e542 (by rw [e561]; exact e562) rfl (DOk_fx O29 ((Fx.rf (wr := [805]) (h := h28)).pJ e30 hh492 rfl) e30 (by rw [e559]; exact e560) rfl (DOk_fx O25 ((Fx.rf (wr := [805]) (h := h24)).pJ e26 hh27 rfl) e26 (by rw [e557]; exact e558) rfl (DOk_fx O21 ((Fx.rf (wr := [806]) (h := h20)).pR e22 hh23 rfl) e22 (by rw [e555]; exact e556) rfl (DOk_fx O8 ((Fx.rf (wr := [803]) (h := h4)).pI e12 hh19 rfl) e12 (by rw [e553]; exact e554) rfl (DOk_fx O F9 ta0 (by rw [e2]; exact t3) rfl P_RI0.2))))))))
                      exact g_vret C hr ⟨O547, (((((((((Fx.rf (wr := wr_k0_advance)).call F9 rfl).pI e12 hh19 rfl).pR e22 hh23 rfl).pJ e26 hh27 rfl).pJ e30 hh492 rfl).call F500 rfl).pI e537 hh538 rfl).pI e541 hh545 rfl), (by unfold RInv; rw [e548, e549, e550, e551]; exact ⟨e552, p567, by omega, (Or.inl rfl)⟩)⟩ (by decide) (by decide) dX3_advance_404
                  · exact (no_le f487 (il 57) q491 (by decide)).elim
              · have f568 : (97 : Int) ≤ v141 ∧ v141 ≤ (122 : Int) := r_le f484 (il 122) q486 (by decide) (by decide)
                refine GW.sub [1, 0] rfl ?_
                -- loop at 126
                have L570 : ∀ (μ : Nat) (h569 : Hp), (1500 - Iv h569 a0 2).toNat = μ → Okh h569 → Fx [802, 805] h28 h569 → GW p l e (rmm 4 91 0 0) s m (List.map toV [.inr (.inr a0)]).toArray below meth c D cy z0 2 (MQ below (QV D cy z0 (fun h1 => Okh h1 ∧ Fx wr_k0_advance h h1 ∧ (RInv w h1 a0))) (List.map toV [.inr (.inr a0)]).toArray s 0 0 (Aof z0)) 126 [(0, .inr (.inr a0)), (1, .inl v141)] [] h569 0 0 := by
                  intro μ
                  induction μ using Nat.strongRecOn with
                  | ind μ ih571 =>
                    intro h569 hm572 O573 F574
                    obtain ⟨v575, e576⟩ : ∃ z, Iv h569 a0 2 = z := ⟨_, rfl⟩
                    have e577 : Tg h569 a0 = 4 := (fxT F574 e30)
                    have f578 := ok_I O573 e577 rI_4_2 e576
                    refine g_aload_n C rfl 0 rfl dX3_advance_126 ?_
                    refine gf_I C fk_LandSurvey_Reader_30 rfl e577 e576 dX3_advance_127 ?_
                    refine g_aload_n C rfl 0 rfl dX3_advance_130 ?_
                    have e579 : Iv h569 a0 1 = v14 := ((fxI F574 e30 rfl).trans e32)
                    refine gf_I C fk_LandSurvey_Reader_19 rfl e577 e579 dX3_advance_131 ?_
                    refine g_icmp_ge C (iw f578 (by decide) (by decide)) (iw f136 (by decide) (by decide)) 206 (by decide) dX3_advance_134 (fun q580 => ?_) (fun q581 => ?_)
                    · have f582 : (1 : Int) ≤ v575 ∧ v575 ≤ (1500 : Int) := r_ge f578 f136 q580 (by decide) (by decide)
                      refine g_aload_n C rfl 0 rfl dX3_advance_206 ?_
                      refine g_aload_n C rfl 0 rfl dX3_advance_207 ?_
                      refine gf_I C fk_LandSurvey_Reader_30 rfl e577 e576 dX3_advance_208 ?_
                      refine g_aload_n C rfl 0 rfl dX3_advance_211 ?_
                      have e583 : Iv h569 a0 3 = v10 := ((fxI F574 e30 rfl).trans ((pJI hh27).trans ((pRI hh23).trans (pI_e hh19))))
                      refine gf_I C fk_LandSurvey_Reader_66 rfl e577 e583 dX3_advance_212 ?_
                      have f584 : (-1498 : Int) ≤ (v575 - v10) ∧ (v575 - v10) ≤ (1500 : Int) := ia_sub f582 f135 (by decide) (by decide)
                      refine g_isub C dX3_advance_215 ?_
                      refine g_bipush C (by decide) dX3_advance_216 ?_
                      refine g_icmp_gt C (iw f584 (by decide) (by decide)) (iw (il 8) (by decide) (by decide)) 225 (by decide) dX3_advance_218 (fun q585 => ?_) (fun q586 => ?_)
                      · have f587 : (9 : Int) ≤ (v575 - v10) ∧ (v575 - v10) ≤ (1500 : Int) := r_gt f584 (il 8) q585 (by decide) (by decide)
                        refine g_iconst C dX3_advance_225 ?_
                        refine gp_I C fk_LandSurvey_Reader_49 pk_LandSurvey_Reader_4 rfl e577 (iw (il 4) (by decide) (by decide)) (nf_i _) dX3_advance_226 (fun h589 hh588 => ?_)
                        have O590 := O573.pI e577 hh588 rI_4_4 (iw (il 4) (by decide) (by decide)) nofun
                        refine g_aload_n C rfl 0 rfl dX3_advance_229 ?_
                        refine g_aload_n C rfl 0 rfl dX3_advance_230 ?_
                        have e591 : Tg h589 a0 = 4 := ((pIT hh588).trans e577)
                        refine gf_I C fk_LandSurvey_Reader_49 rfl e591 (pI_e hh588) dX3_advance_231 ?_
                        refine g_iconst C dX3_advance_234 ?_
                        refine g_icmp_ne C (iw (il 4) (by decide) (by decide)) (iw (il 1) (by decide) (by decide)) 248 (by decide) dX3_advance_235 (fun q592 => ?_) (fun q593 => ?_)
                        · refine g_null C dX3_advance_248 ?_
                          refine gp_R C fk_LandSurvey_Reader_69 pk_LandSurvey_Reader_6 rfl e591 (nf_o _ _) dX3_advance_249 (fun h595 hh594 => ?_)
                          have O596 := O590.pR e591 hh594 (okR_f rE_4_6)
                          refine g_goto C 404 (by decide) dX3_advance_252 ?_
                          have e597 : Rv h595 a0 13 = v1 := ((pR_j hh594 (by decide)).trans ((pIR hh588).trans ((fxR F574 e30 rfl).trans ((pJR hh27).trans ((pR_j hh23 (by decide)).trans ((pIR hh19).trans ((fxR F9 ta0 rfl).trans e2)))))))
                          have e598 : Iv h595 a0 4 = 4 := ((pRI hh594).trans (pI_e hh588))
                          obtain ⟨v599, e600⟩ : ∃ z, Jv h595 a0 5 = z := ⟨_, rfl⟩
                          have e601 : Tg h595 a0 = 4 := ((pRT hh594).trans e591)
                          have f602 := inL_J O596 e600
                          have e603 : Tg h595 v1 = 2006 := ((pRT hh594).trans ((pIT hh588).trans (fxT F574 ((pJT hh27).trans ((pRT hh23).trans ((pIT hh19).trans (fxT F9 t3)))))))
                          have e604 : Rv h4 a0 13 = v1 := ((fxR F9 ta0 rfl).trans e2)
                          have e605 : Tg h4 v1 = 2006 := (fxT F9 t3)
                          have e606 : Rv h20 a0 13 = v1 := ((pIR hh19).trans e604)
                          have e607 : Tg h20 v1 = 2006 := ((pIT hh19).trans e605)
                          have e608 : Rv h24 a0 13 = v1 := ((pR_j hh23 (by decide)).trans e606)
                          have e609 : Tg h24 v1 = 2006 := ((pRT hh23).trans e607)
                          have e610 : Rv h28 a0 13 = v1 := ((pJR hh27).trans e608)
                          have e611 : Tg h28 v1 = 2006 := ((pJT hh27).trans e609)
                          have e612 : Rv h569 a0 13 = v1 := ((fxR F574 e30 rfl).trans e610)
                          have e613 : Tg h569 v1 = 2006 := (fxT F574 e611)
                          have e614 : Rv h589 a0 13 = v1 := ((pIR hh588).trans e612)
                          have e615 : Tg h589 v1 = 2006 := ((pIT hh588).trans e613)
                          have p616 := (DOk_fx O590 ((Fx.rf (wr := [806]) (h := h589)).pR e591 hh594 rfl) e591 (by rw [e614]; exact e615) rfl (DOk_fx O573 ((Fx.rf (wr := [804]) (h := h569)).pI e577 hh588 rfl) e577 (by rw [e612]; exact e613) rfl (DOk_fx O29 F574 e30 (by rw [e610]; exact e611) rfl (DOk_fx O25 ((Fx.rf (wr := [805]) (h := h24)).pJ e26 hh27 rfl) e26 (by rw [e608]; exact e609) rfl (DOk_fx O21 ((Fx.rf (wr := [806]) (h := h20)).pR e22 hh23 rfl) e22 (by rw [e606]; exact e607) rfl (DOk_fx O8 ((Fx.rf (wr := [803]) (h := h4)).pI e12 hh19 rfl) e12 (by rw [e604]; exact e605) rfl (DOk_fx O F9 ta0 (by rw [e2]; exact t3) rfl P_RI0.2)))))))
                          exact g_vret C hr ⟨O596, ((((((((Fx.rf (wr := wr_k0_advance)).call F9 rfl).pI e12 hh19 rfl).pR e22 hh23 rfl).pJ e26 hh27 rfl).call F574 rfl).pI e577 hh588 rfl).pR e591 hh594 rfl), (by unfold RInv; rw [e597, e598, e600, (pR_e hh594)]; exact ⟨e603, p616, by omega, (Or.inl rfl)⟩)⟩ (by decide) (by decide) dX3_advance_404
                        · exact (no_eq (il 4) (il 1) q593 (by decide)).elim
                      · have f617 : (-1498 : Int) ≤ (v575 - v10) ∧ (v575 - v10) ≤ (8 : Int) := r_le f584 (il 8) q586 (by decide) (by decide)
                        refine g_iconst C dX3_advance_221 ?_
                        refine g_goto C 226 (by decide) dX3_advance_222 ?_
                        refine gp_I C fk_LandSurvey_Reader_49 pk_LandSurvey_Reader_4 rfl e577 (iw (il 1) (by decide) (by decide)) (nf_i _) dX3_advance_226 (fun h619 hh618 => ?_)
                        have O620 := O573.pI e577 hh618 rI_4_4 (iw (il 1) (by decide) (by decide)) nofun
                        refine g_aload_n C rfl 0 rfl dX3_advance_229 ?_
                        refine g_aload_n C rfl 0 rfl dX3_advance_230 ?_
                        have e621 : Tg h619 a0 = 4 := ((pIT hh618).trans e577)
                        refine gf_I C fk_LandSurvey_Reader_49 rfl e621 (pI_e hh618) dX3_advance_231 ?_
                        refine g_iconst C dX3_advance_234 ?_
                        refine g_icmp_ne C (iw (il 1) (by decide) (by decide)) (iw (il 1) (by decide) (by decide)) 248 (by decide) dX3_advance_235 (fun q622 => ?_) (fun q623 => ?_)
                        · exact (no_ne (il 1) (il 1) q622 (by decide)).elim
                        · refine g_aload_n C rfl 0 rfl dX3_advance_238 ?_
                          obtain ⟨v624, e625⟩ : ∃ z, Jv h619 a0 5 = z := ⟨_, rfl⟩
                          have f626 := inL_J O620 e625
                          refine gf_J C fk_LandSurvey_Reader_73 rfl e621 e625 dX3_advance_239 ?_
                          refine g_callR (st := [.inr (.inr a0)]) (gc_S C lk_LandSurvey_Reader_79 (k_X10_ofCode l D cy w z0 O620 f626) rfl ⟨by decide, by decide⟩ (Nat.le_of_ble_eq_true rfl) dX3_advance_242 ⟨(by decide), (by decide)⟩) (fun r627 h628 K629 => ?_)
                          obtain ⟨O631, F632, p633⟩ := K629
                          refine g_goto C 249 (by decide) dX3_advance_245 ?_
                          have e634 : Tg h628 a0 = 4 := (fxT F632 e621)
                          refine gp_R C fk_LandSurvey_Reader_69 pk_LandSurvey_Reader_6 rfl e634 (nf_o _ _) dX3_advance_249 (fun h636 hh635 => ?_)
                          have O637 := O631.pR e634 hh635 (okR_f rE_4_6)
                          refine g_goto C 404 (by decide) dX3_advance_252 ?_
                          have e638 : Rv h636 a0 13 = v1 := ((pR_j hh635 (by decide)).trans ((fxR F632 e621 rfl).trans ((pIR hh618).trans ((fxR F574 e30 rfl).trans ((pJR hh27).trans ((pR_j hh23 (by decide)).trans ((pIR hh19).trans ((fxR F9 ta0 rfl).trans e2))))))))
                          have e639 : Iv h636 a0 4 = 1 := ((pRI hh635).trans ((fxI F632 e621 rfl).trans (pI_e hh618)))
                          have e640 : Jv h636 a0 5 = v624 := ((pRJ hh635).trans ((fxJ F632 e621 rfl).trans e625))
                          have e641 : Tg h636 v1 = 2006 := ((pRT hh635).trans (fxT F632 ((pIT hh618).trans (fxT F574 ((pJT hh27).trans ((pRT hh23).trans ((pIT hh19).trans (fxT F9 t3))))))))
                          have e642 : Rv h4 a0 13 = v1 := ((fxR F9 ta0 rfl).trans e2)
                          have e643 : Tg h4 v1 = 2006 := (fxT F9 t3)
                          have e644 : Rv h20 a0 13 = v1 := ((pIR hh19).trans e642)
                          have e645 : Tg h20 v1 = 2006 := ((pIT hh19).trans e643)
                          have e646 : Rv h24 a0 13 = v1 := ((pR_j hh23 (by decide)).trans e644)
                          have e647 : Tg h24 v1 = 2006 := ((pRT hh23).trans e645)
                          have e648 : Rv h28 a0 13 = v1 := ((pJR hh27).trans e646)
                          have e649 : Tg h28 v1 = 2006 := ((pJT hh27).trans e647)
                          have e650 : Rv h569 a0 13 = v1 := ((fxR F574 e30 rfl).trans e648)
                          have e651 : Tg h569 v1 = 2006 := (fxT F574 e649)
                          have e652 : Rv h619 a0 13 = v1 := ((pIR hh618).trans e650)
                          have e653 : Tg h619 v1 = 2006 := ((pIT hh618).trans e651)
                          have e654 : Rv h628 a0 13 = v1 := ((fxR F632 e621 rfl).trans e652)
                          have e655 : Tg h628 v1 = 2006 := (fxT F632 e653)
                          have p656 := (DOk_fx O631 ((Fx.rf (wr := [806]) (h := h628)).pR e634 hh635 rfl) e634 (by rw [e654]; exact e655) rfl (DOk_fx O620 F632 e621 (by rw [e652]; exact e653) rfl (DOk_fx O573 ((Fx.rf (wr := [804]) (h := h569)).pI e577 hh618 rfl) e577 (by rw [e650]; exact e651) rfl (DOk_fx O29 F574 e30 (by rw [e648]; exact e649) rfl (DOk_fx O25 ((Fx.rf (wr := [805]) (h := h24)).pJ e26 hh27 rfl) e26 (by rw [e646]; exact e647) rfl (DOk_fx O21 ((Fx.rf (wr := [806]) (h := h20)).pR e22 hh23 rfl) e22 (by rw [e644]; exact e645) rfl (DOk_fx O8 ((Fx.rf (wr := [803]) (h := h4)).pI e12 hh19 rfl) e12 (by rw [e642]; exact e643) rfl (DOk_fx O F9 ta0 (by rw [e2]; exact t3) rfl P_RI0.2))))))))
                          exact g_vret C hr ⟨O637, (((((((((Fx.rf (wr := wr_k0_advance)).call F9 rfl).pI e12 hh19 rfl).pR e22 hh23 rfl).pJ e26 hh27 rfl).call F574 rfl).pI e577 hh618 rfl).call F632 rfl).pR e634 hh635 rfl), (by unfold RInv; rw [e638, e639, e640, (pR_e hh635)]; exact ⟨e641, p656, by omega, p633⟩)⟩ (by decide) (by decide) dX3_advance_404
                    · have f657 : (0 : Int) ≤ v575 ∧ v575 ≤ (1499 : Int) := r_lt f578 f136 q581 (by decide) (by decide)
                      refine g_aload_n C rfl 0 rfl dX3_advance_137 ?_
                      have e658 : Rv h569 a0 0 = v137 := ((fxR F574 e30 rfl).trans e138)
                      refine gf_R C fk_LandSurvey_Reader_9 rfl e577 e658 dX3_advance_138 ?_
                      refine g_aload_n C rfl 0 rfl dX3_advance_141 ?_
                      refine gf_I C fk_LandSurvey_Reader_30 rfl e577 e576 dX3_advance_142 ?_
                      have e659 : Tg h569 v137 = 19103 := (fxT F574 t139)
                      have e660 : Ln h569 v137 = 1500 := ((fxL F574 t139).trans l140)
                      obtain ⟨v661, e662⟩ : ∃ z, Iv h569 v137 v575.toNat = z := ⟨_, rfl⟩
                      have f663 := ok_Ia O573 e659 ar_19103 rI_19103_0 e662
                      refine g_cald C e659 rfl e660 (ix f657 (by decide) (by decide)) e662 dX3_advance_145 ?_
                      refine g_bipush C (by decide) dX3_advance_146 ?_
                      refine g_icmp_lt C (iw f663 (by decide) (by decide)) (iw (il 97) (by decide) (by decide)) 206 (by decide) dX3_advance_148 (fun q664 => ?_) (fun q665 => ?_)
                      · have f666 : (0 : Int) ≤ v661 ∧ v661 ≤ (96 : Int) := r_lt f663 (il 97) q664 (by decide) (by decide)
                        refine g_aload_n C rfl 0 rfl dX3_advance_206 ?_
                        refine g_aload_n C rfl 0 rfl dX3_advance_207 ?_
                        refine gf_I C fk_LandSurvey_Reader_30 rfl e577 e576 dX3_advance_208 ?_
                        refine g_aload_n C rfl 0 rfl dX3_advance_211 ?_
                        have e667 : Iv h569 a0 3 = v10 := ((fxI F574 e30 rfl).trans ((pJI hh27).trans ((pRI hh23).trans (pI_e hh19))))
                        refine gf_I C fk_LandSurvey_Reader_66 rfl e577 e667 dX3_advance_212 ?_
                        have f668 : (-1499 : Int) ≤ (v575 - v10) ∧ (v575 - v10) ≤ (1499 : Int) := ia_sub f657 f135 (by decide) (by decide)
                        refine g_isub C dX3_advance_215 ?_
                        refine g_bipush C (by decide) dX3_advance_216 ?_
                        refine g_icmp_gt C (iw f668 (by decide) (by decide)) (iw (il 8) (by decide) (by decide)) 225 (by decide) dX3_advance_218 (fun q669 => ?_) (fun q670 => ?_)
                        · have f671 : (9 : Int) ≤ (v575 - v10) ∧ (v575 - v10) ≤ (1499 : Int) := r_gt f668 (il 8) q669 (by decide) (by decide)
                          refine g_iconst C dX3_advance_225 ?_
                          refine gp_I C fk_LandSurvey_Reader_49 pk_LandSurvey_Reader_4 rfl e577 (iw (il 4) (by decide) (by decide)) (nf_i _) dX3_advance_226 (fun h673 hh672 => ?_)
                          have O674 := O573.pI e577 hh672 rI_4_4 (iw (il 4) (by decide) (by decide)) nofun
                          refine g_aload_n C rfl 0 rfl dX3_advance_229 ?_
                          refine g_aload_n C rfl 0 rfl dX3_advance_230 ?_
                          have e675 : Tg h673 a0 = 4 := ((pIT hh672).trans e577)
                          refine gf_I C fk_LandSurvey_Reader_49 rfl e675 (pI_e hh672) dX3_advance_231 ?_
                          refine g_iconst C dX3_advance_234 ?_
                          refine g_icmp_ne C (iw (il 4) (by decide) (by decide)) (iw (il 1) (by decide) (by decide)) 248 (by decide) dX3_advance_235 (fun q676 => ?_) (fun q677 => ?_)
                          · refine g_null C dX3_advance_248 ?_
                            refine gp_R C fk_LandSurvey_Reader_69 pk_LandSurvey_Reader_6 rfl e675 (nf_o _ _) dX3_advance_249 (fun h679 hh678 => ?_)
                            have O680 := O674.pR e675 hh678 (okR_f rE_4_6)
                            refine g_goto C 404 (by decide) dX3_advance_252 ?_
                            have e681 : Rv h679 a0 13 = v1 := ((pR_j hh678 (by decide)).trans ((pIR hh672).trans ((fxR F574 e30 rfl).trans ((pJR hh27).trans ((pR_j hh23 (by decide)).trans ((pIR hh19).trans ((fxR F9 ta0 rfl).trans e2)))))))
                            have e682 : Iv h679 a0 4 = 4 := ((pRI hh678).trans (pI_e hh672))
                            obtain ⟨v683, e684⟩ : ∃ z, Jv h679 a0 5 = z := ⟨_, rfl⟩
                            have e685 : Tg h679 a0 = 4 := ((pRT hh678).trans e675)
                            have f686 := inL_J O680 e684
                            have e687 : Tg h679 v1 = 2006 := ((pRT hh678).trans ((pIT hh672).trans (fxT F574 ((pJT hh27).trans ((pRT hh23).trans ((pIT hh19).trans (fxT F9 t3)))))))
                            have e688 : Rv h4 a0 13 = v1 := ((fxR F9 ta0 rfl).trans e2)
                            have e689 : Tg h4 v1 = 2006 := (fxT F9 t3)
                            have e690 : Rv h20 a0 13 = v1 := ((pIR hh19).trans e688)
                            have e691 : Tg h20 v1 = 2006 := ((pIT hh19).trans e689)
                            have e692 : Rv h24 a0 13 = v1 := ((pR_j hh23 (by decide)).trans e690)
                            have e693 : Tg h24 v1 = 2006 := ((pRT hh23).trans e691)
                            have e694 : Rv h28 a0 13 = v1 := ((pJR hh27).trans e692)
                            have e695 : Tg h28 v1 = 2006 := ((pJT hh27).trans e693)
                            have e696 : Rv h569 a0 13 = v1 := ((fxR F574 e30 rfl).trans e694)
                            have e697 : Tg h569 v1 = 2006 := (fxT F574 e695)
                            have e698 : Rv h673 a0 13 = v1 := ((pIR hh672).trans e696)
                            have e699 : Tg h673 v1 = 2006 := ((pIT hh672).trans e697)
                            have p700 := (DOk_fx O674 ((Fx.rf (wr := [806]) (h := h673)).pR e675 hh678 rfl) e675 (by rw [e698]; exact e699) rfl (DOk_fx O573 ((Fx.rf (wr := [804]) (h := h569)).pI e577 hh672 rfl) e577 (by rw [e696]; exact e697) rfl (DOk_fx O29 F574 e30 (by rw [e694]; exact e695) rfl (DOk_fx O25 ((Fx.rf (wr := [805]) (h := h24)).pJ e26 hh27 rfl) e26 (by rw [e692]; exact e693) rfl (DOk_fx O21 ((Fx.rf (wr := [806]) (h := h20)).pR e22 hh23 rfl) e22 (by rw [e690]; exact e691) rfl (DOk_fx O8 ((Fx.rf (wr := [803]) (h := h4)).pI e12 hh19 rfl) e12 (by rw [e688]; exact e689) rfl (DOk_fx O F9 ta0 (by rw [e2]; exact t3) rfl P_RI0.2)))))))
                            exact g_vret C hr ⟨O680, ((((((((Fx.rf (wr := wr_k0_advance)).call F9 rfl).pI e12 hh19 rfl).pR e22 hh23 rfl).pJ e26 hh27 rfl).call F574 rfl).pI e577 hh672 rfl).pR e675 hh678 rfl), (by unfold RInv; rw [e681, e682, e684, (pR_e hh678)]; exact ⟨e687, p700, by omega, (Or.inl rfl)⟩)⟩ (by decide) (by decide) dX3_advance_404
                          · exact (no_eq (il 4) (il 1) q677 (by decide)).elim
                        · have f701 : (-1499 : Int) ≤ (v575 - v10) ∧ (v575 - v10) ≤ (8 : Int) := r_le f668 (il 8) q670 (by decide) (by decide)
                          refine g_iconst C dX3_advance_221 ?_
                          refine g_goto C 226 (by decide) dX3_advance_222 ?_
                          refine gp_I C fk_LandSurvey_Reader_49 pk_LandSurvey_Reader_4 rfl e577 (iw (il 1) (by decide) (by decide)) (nf_i _) dX3_advance_226 (fun h703 hh702 => ?_)
                          have O704 := O573.pI e577 hh702 rI_4_4 (iw (il 1) (by decide) (by decide)) nofun
                          refine g_aload_n C rfl 0 rfl dX3_advance_229 ?_
                          refine g_aload_n C rfl 0 rfl dX3_advance_230 ?_
                          have e705 : Tg h703 a0 = 4 := ((pIT hh702).trans e577)
                          refine gf_I C fk_LandSurvey_Reader_49 rfl e705 (pI_e hh702) dX3_advance_231 ?_
                          refine g_iconst C dX3_advance_234 ?_
                          refine g_icmp_ne C (iw (il 1) (by decide) (by decide)) (iw (il 1) (by decide) (by decide)) 248 (by decide) dX3_advance_235 (fun q706 => ?_) (fun q707 => ?_)
                          · exact (no_ne (il 1) (il 1) q706 (by decide)).elim
                          · refine g_aload_n C rfl 0 rfl dX3_advance_238 ?_
                            obtain ⟨v708, e709⟩ : ∃ z, Jv h703 a0 5 = z := ⟨_, rfl⟩
                            have f710 := inL_J O704 e709
                            refine gf_J C fk_LandSurvey_Reader_73 rfl e705 e709 dX3_advance_239 ?_
                            refine g_callR (st := [.inr (.inr a0)]) (gc_S C lk_LandSurvey_Reader_79 (k_X10_ofCode l D cy w z0 O704 f710) rfl ⟨by decide, by decide⟩ (Nat.le_of_ble_eq_true rfl) dX3_advance_242 ⟨(by decide), (by decide)⟩) (fun r711 h712 K713 => ?_)
                            obtain ⟨O715, F716, p717⟩ := K713
                            refine g_goto C 249 (by decide) dX3_advance_245 ?_
                            have e718 : Tg h712 a0 = 4 := (fxT F716 e705)
                            refine gp_R C fk_LandSurvey_Reader_69 pk_LandSurvey_Reader_6 rfl e718 (nf_o _ _) dX3_advance_249 (fun h720 hh719 => ?_)
                            have O721 := O715.pR e718 hh719 (okR_f rE_4_6)
                            refine g_goto C 404 (by decide) dX3_advance_252 ?_
                            have e722 : Rv h720 a0 13 = v1 := ((pR_j hh719 (by decide)).trans ((fxR F716 e705 rfl).trans ((pIR hh702).trans ((fxR F574 e30 rfl).trans ((pJR hh27).trans ((pR_j hh23 (by decide)).trans ((pIR hh19).trans ((fxR F9 ta0 rfl).trans e2))))))))
                            have e723 : Iv h720 a0 4 = 1 := ((pRI hh719).trans ((fxI F716 e705 rfl).trans (pI_e hh702)))
                            have e724 : Jv h720 a0 5 = v708 := ((pRJ hh719).trans ((fxJ F716 e705 rfl).trans e709))
                            have e725 : Tg h720 v1 = 2006 := ((pRT hh719).trans (fxT F716 ((pIT hh702).trans (fxT F574 ((pJT hh27).trans ((pRT hh23).trans ((pIT hh19).trans (fxT F9 t3))))))))
                            have e726 : Rv h4 a0 13 = v1 := ((fxR F9 ta0 rfl).trans e2)
                            have e727 : Tg h4 v1 = 2006 := (fxT F9 t3)
                            have e728 : Rv h20 a0 13 = v1 := ((pIR hh19).trans e726)
                            have e729 : Tg h20 v1 = 2006 := ((pIT hh19).trans e727)
                            have e730 : Rv h24 a0 13 = v1 := ((pR_j hh23 (by decide)).trans e728)
                            have e731 : Tg h24 v1 = 2006 := ((pRT hh23).trans e729)
                            have e732 : Rv h28 a0 13 = v1 := ((pJR hh27).trans e730)
                            have e733 : Tg h28 v1 = 2006 := ((pJT hh27).trans e731)
                            have e734 : Rv h569 a0 13 = v1 := ((fxR F574 e30 rfl).trans e732)
                            have e735 : Tg h569 v1 = 2006 := (fxT F574 e733)
                            have e736 : Rv h703 a0 13 = v1 := ((pIR hh702).trans e734)
                            have e737 : Tg h703 v1 = 2006 := ((pIT hh702).trans e735)
                            have e738 : Rv h712 a0 13 = v1 := ((fxR F716 e705 rfl).trans e736)
                            have e739 : Tg h712 v1 = 2006 := (fxT F716 e737)
                            have p740 := (DOk_fx O715 ((Fx.rf (wr := [806]) (h := h712)).pR e718 hh719 rfl) e718 (by rw [e738]; exact e739) rfl (DOk_fx O704 F716 e705 (by rw [e736]; exact e737) rfl (DOk_fx O573 ((Fx.rf (wr := [804]) (h := h569)).pI e577 hh702 rfl) e577 (by rw [e734]; exact e735) rfl (DOk_fx O29 F574 e30 (by rw [e732]; exact e733) rfl (DOk_fx O25 ((Fx.rf (wr := [805]) (h := h24)).pJ e26 hh27 rfl) e26 (by rw [e730]; exact e731) rfl (DOk_fx O21 ((Fx.rf (wr := [806]) (h := h20)).pR e22 hh23 rfl) e22 (by rw [e728]; exact e729) rfl (DOk_fx O8 ((Fx.rf (wr := [803]) (h := h4)).pI e12 hh19 rfl) e12 (by rw [e726]; exact e727) rfl (DOk_fx O F9 ta0 (by rw [e2]; exact t3) rfl P_RI0.2))))))))
                            exact g_vret C hr ⟨O721, (((((((((Fx.rf (wr := wr_k0_advance)).call F9 rfl).pI e12 hh19 rfl).pR e22 hh23 rfl).pJ e26 hh27 rfl).call F574 rfl).pI e577 hh702 rfl).call F716 rfl).pR e718 hh719 rfl), (by unfold RInv; rw [e722, e723, e724, (pR_e hh719)]; exact ⟨e725, p740, by omega, p717⟩)⟩ (by decide) (by decide) dX3_advance_404
                      · have f741 : (97 : Int) ≤ v661 ∧ v661 ≤ (126 : Int) := r_ge f663 (il 97) q665 (by decide) (by decide)
                        refine g_aload_n C rfl 0 rfl dX3_advance_151 ?_
                        refine gf_R C fk_LandSurvey_Reader_9 rfl e577 e658 dX3_advance_152 ?_
                        refine g_aload_n C rfl 0 rfl dX3_advance_155 ?_
                        refine gf_I C fk_LandSurvey_Reader_30 rfl e577 e576 dX3_advance_156 ?_
                        refine g_cald C e659 rfl e660 (ix f657 (by decide) (by decide)) e662 dX3_advance_159 ?_
                        refine g_bipush C (by decide) dX3_advance_160 ?_
                        refine g_icmp_gt C (iw f741 (by decide) (by decide)) (iw (il 122) (by decide) (by decide)) 206 (by decide) dX3_advance_162 (fun q742 => ?_) (fun q743 => ?_)
                        · have f744 : (123 : Int) ≤ v661 ∧ v661 ≤ (126 : Int) := r_gt f741 (il 122) q742 (by decide) (by decide)
                          refine g_aload_n C rfl 0 rfl dX3_advance_206 ?_
                          refine g_aload_n C rfl 0 rfl dX3_advance_207 ?_
                          refine gf_I C fk_LandSurvey_Reader_30 rfl e577 e576 dX3_advance_208 ?_
                          refine g_aload_n C rfl 0 rfl dX3_advance_211 ?_
                          have e745 : Iv h569 a0 3 = v10 := ((fxI F574 e30 rfl).trans ((pJI hh27).trans ((pRI hh23).trans (pI_e hh19))))
                          refine gf_I C fk_LandSurvey_Reader_66 rfl e577 e745 dX3_advance_212 ?_
                          have f746 : (-1499 : Int) ≤ (v575 - v10) ∧ (v575 - v10) ≤ (1499 : Int) := ia_sub f657 f135 (by decide) (by decide)
                          refine g_isub C dX3_advance_215 ?_
                          refine g_bipush C (by decide) dX3_advance_216 ?_
                          refine g_icmp_gt C (iw f746 (by decide) (by decide)) (iw (il 8) (by decide) (by decide)) 225 (by decide) dX3_advance_218 (fun q747 => ?_) (fun q748 => ?_)
                          · have f749 : (9 : Int) ≤ (v575 - v10) ∧ (v575 - v10) ≤ (1499 : Int) := r_gt f746 (il 8) q747 (by decide) (by decide)
                            refine g_iconst C dX3_advance_225 ?_
                            refine gp_I C fk_LandSurvey_Reader_49 pk_LandSurvey_Reader_4 rfl e577 (iw (il 4) (by decide) (by decide)) (nf_i _) dX3_advance_226 (fun h751 hh750 => ?_)
                            have O752 := O573.pI e577 hh750 rI_4_4 (iw (il 4) (by decide) (by decide)) nofun
                            refine g_aload_n C rfl 0 rfl dX3_advance_229 ?_
                            refine g_aload_n C rfl 0 rfl dX3_advance_230 ?_
                            have e753 : Tg h751 a0 = 4 := ((pIT hh750).trans e577)
                            refine gf_I C fk_LandSurvey_Reader_49 rfl e753 (pI_e hh750) dX3_advance_231 ?_
                            refine g_iconst C dX3_advance_234 ?_
                            refine g_icmp_ne C (iw (il 4) (by decide) (by decide)) (iw (il 1) (by decide) (by decide)) 248 (by decide) dX3_advance_235 (fun q754 => ?_) (fun q755 => ?_)
                            · refine g_null C dX3_advance_248 ?_
                              refine gp_R C fk_LandSurvey_Reader_69 pk_LandSurvey_Reader_6 rfl e753 (nf_o _ _) dX3_advance_249 (fun h757 hh756 => ?_)
                              have O758 := O752.pR e753 hh756 (okR_f rE_4_6)
                              refine g_goto C 404 (by decide) dX3_advance_252 ?_
                              have e759 : Rv h757 a0 13 = v1 := ((pR_j hh756 (by decide)).trans ((pIR hh750).trans ((fxR F574 e30 rfl).trans ((pJR hh27).trans ((pR_j hh23 (by decide)).trans ((pIR hh19).trans ((fxR F9 ta0 rfl).trans e2)))))))
                              have e760 : Iv h757 a0 4 = 4 := ((pRI hh756).trans (pI_e hh750))
                              obtain ⟨v761, e762⟩ : ∃ z, Jv h757 a0 5 = z := ⟨_, rfl⟩
                              have e763 : Tg h757 a0 = 4 := ((pRT hh756).trans e753)
                              have f764 := inL_J O758 e762
                              have e765 : Tg h757 v1 = 2006 := ((pRT hh756).trans ((pIT hh750).trans (fxT F574 ((pJT hh27).trans ((pRT hh23).trans ((pIT hh19).trans (fxT F9 t3)))))))
                              have e766 : Rv h4 a0 13 = v1 := ((fxR F9 ta0 rfl).trans e2)
                              have e767 : Tg h4 v1 = 2006 := (fxT F9 t3)
                              have e768 : Rv h20 a0 13 = v1 := ((pIR hh19).trans e766)
                              have e769 : Tg h20 v1 = 2006 := ((pIT hh19).trans e767)
                              have e770 : Rv h24 a0 13 = v1 := ((pR_j hh23 (by decide)).trans e768)
                              have e771 : Tg h24 v1 = 2006 := ((pRT hh23).trans e769)
                              have e772 : Rv h28 a0 13 = v1 := ((pJR hh27).trans e770)
                              have e773 : Tg h28 v1 = 2006 := ((pJT hh27).trans e771)
                              have e774 : Rv h569 a0 13 = v1 := ((fxR F574 e30 rfl).trans e772)
                              have e775 : Tg h569 v1 = 2006 := (fxT F574 e773)
                              have e776 : Rv h751 a0 13 = v1 := ((pIR hh750).trans e774)
                              have e777 : Tg h751 v1 = 2006 := ((pIT hh750).trans e775)
                              have p778 := (DOk_fx O752 ((Fx.rf (wr := [806]) (h := h751)).pR e753 hh756 rfl) e753 (by rw [e776]; exact e777) rfl (DOk_fx O573 ((Fx.rf (wr := [804]) (h := h569)).pI e577 hh750 rfl) e577 (by rw [e774]; exact e775) rfl (DOk_fx O29 F574 e30 (by rw [e772]; exact e773) rfl (DOk_fx O25 ((Fx.rf (wr := [805]) (h := h24)).pJ e26 hh27 rfl) e26 (by rw [e770]; exact e771) rfl (DOk_fx O21 ((Fx.rf (wr := [806]) (h := h20)).pR e22 hh23 rfl) e22 (by rw [e768]; exact e769) rfl (DOk_fx O8 ((Fx.rf (wr := [803]) (h := h4)).pI e12 hh19 rfl) e12 (by rw [e766]; exact e767) rfl (DOk_fx O F9 ta0 (by rw [e2]; exact t3) rfl P_RI0.2)))))))
                              exact g_vret C hr ⟨O758, ((((((((Fx.rf (wr := wr_k0_advance)).call F9 rfl).pI e12 hh19 rfl).pR e22 hh23 rfl).pJ e26 hh27 rfl).call F574 rfl).pI e577 hh750 rfl).pR e753 hh756 rfl), (by unfold RInv; rw [e759, e760, e762, (pR_e hh756)]; exact ⟨e765, p778, by omega, (Or.inl rfl)⟩)⟩ (by decide) (by decide) dX3_advance_404
                            · exact (no_eq (il 4) (il 1) q755 (by decide)).elim
                          · have f779 : (-1499 : Int) ≤ (v575 - v10) ∧ (v575 - v10) ≤ (8 : Int) := r_le f746 (il 8) q748 (by decide) (by decide)
                            refine g_iconst C dX3_advance_221 ?_
                            refine g_goto C 226 (by decide) dX3_advance_222 ?_
                            refine gp_I C fk_LandSurvey_Reader_49 pk_LandSurvey_Reader_4 rfl e577 (iw (il 1) (by decide) (by decide)) (nf_i _) dX3_advance_226 (fun h781 hh780 => ?_)
                            have O782 := O573.pI e577 hh780 rI_4_4 (iw (il 1) (by decide) (by decide)) nofun
                            refine g_aload_n C rfl 0 rfl dX3_advance_229 ?_
                            refine g_aload_n C rfl 0 rfl dX3_advance_230 ?_
                            have e783 : Tg h781 a0 = 4 := ((pIT hh780).trans e577)
                            refine gf_I C fk_LandSurvey_Reader_49 rfl e783 (pI_e hh780) dX3_advance_231 ?_
                            refine g_iconst C dX3_advance_234 ?_
                            refine g_icmp_ne C (iw (il 1) (by decide) (by decide)) (iw (il 1) (by decide) (by decide)) 248 (by decide) dX3_advance_235 (fun q784 => ?_) (fun q785 => ?_)
                            · exact (no_ne (il 1) (il 1) q784 (by decide)).elim
                            · refine g_aload_n C rfl 0 rfl dX3_advance_238 ?_
                              obtain ⟨v786, e787⟩ : ∃ z, Jv h781 a0 5 = z := ⟨_, rfl⟩
                              have f788 := inL_J O782 e787
                              refine gf_J C fk_LandSurvey_Reader_73 rfl e783 e787 dX3_advance_239 ?_
                              refine g_callR (st := [.inr (.inr a0)]) (gc_S C lk_LandSurvey_Reader_79 (k_X10_ofCode l D cy w z0 O782 f788) rfl ⟨by decide, by decide⟩ (Nat.le_of_ble_eq_true rfl) dX3_advance_242 ⟨(by decide), (by decide)⟩) (fun r789 h790 K791 => ?_)
                              obtain ⟨O793, F794, p795⟩ := K791
                              refine g_goto C 249 (by decide) dX3_advance_245 ?_
                              have e796 : Tg h790 a0 = 4 := (fxT F794 e783)
                              refine gp_R C fk_LandSurvey_Reader_69 pk_LandSurvey_Reader_6 rfl e796 (nf_o _ _) dX3_advance_249 (fun h798 hh797 => ?_)
                              have O799 := O793.pR e796 hh797 (okR_f rE_4_6)
                              refine g_goto C 404 (by decide) dX3_advance_252 ?_
                              have e800 : Rv h798 a0 13 = v1 := ((pR_j hh797 (by decide)).trans ((fxR F794 e783 rfl).trans ((pIR hh780).trans ((fxR F574 e30 rfl).trans ((pJR hh27).trans ((pR_j hh23 (by decide)).trans ((pIR hh19).trans ((fxR F9 ta0 rfl).trans e2))))))))
                              have e801 : Iv h798 a0 4 = 1 := ((pRI hh797).trans ((fxI F794 e783 rfl).trans (pI_e hh780)))
                              have e802 : Jv h798 a0 5 = v786 := ((pRJ hh797).trans ((fxJ F794 e783 rfl).trans e787))
                              have e803 : Tg h798 v1 = 2006 := ((pRT hh797).trans (fxT F794 ((pIT hh780).trans (fxT F574 ((pJT hh27).trans ((pRT hh23).trans ((pIT hh19).trans (fxT F9 t3))))))))
                              have e804 : Rv h4 a0 13 = v1 := ((fxR F9 ta0 rfl).trans e2)
                              have e805 : Tg h4 v1 = 2006 := (fxT F9 t3)
                              have e806 : Rv h20 a0 13 = v1 := ((pIR hh19).trans e804)
                              have e807 : Tg h20 v1 = 2006 := ((pIT hh19).trans e805)
                              have e808 : Rv h24 a0 13 = v1 := ((pR_j hh23 (by decide)).trans e806)
                              have e809 : Tg h24 v1 = 2006 := ((pRT hh23).trans e807)
                              have e810 : Rv h28 a0 13 = v1 := ((pJR hh27).trans e808)
                              have e811 : Tg h28 v1 = 2006 := ((pJT hh27).trans e809)
                              have e812 : Rv h569 a0 13 = v1 := ((fxR F574 e30 rfl).trans e810)
                              have e813 : Tg h569 v1 = 2006 := (fxT F574 e811)
                              have e814 : Rv h781 a0 13 = v1 := ((pIR hh780).trans e812)
                              have e815 : Tg h781 v1 = 2006 := ((pIT hh780).trans e813)
                              have e816 : Rv h790 a0 13 = v1 := ((fxR F794 e783 rfl).trans e814)
                              have e817 : Tg h790 v1 = 2006 := (fxT F794 e815)
                              have p818 := (DOk_fx O793 ((Fx.rf (wr := [806]) (h := h790)).pR e796 hh797 rfl) e796 (by rw [e816]; exact e817) rfl (DOk_fx O782 F794 e783 (by rw [e814]; exact e815) rfl (DOk_fx O573 ((Fx.rf (wr := [804]) (h := h569)).pI e577 hh780 rfl) e577 (by rw [e812]; exact e813) rfl (DOk_fx O29 F574 e30 (by rw [e810]; exact e811) rfl (DOk_fx O25 ((Fx.rf (wr := [805]) (h := h24)).pJ e26 hh27 rfl) e26 (by rw [e808]; exact e809) rfl (DOk_fx O21 ((Fx.rf (wr := [806]) (h := h20)).pR e22 hh23 rfl) e22 (by rw [e806]; exact e807) rfl (DOk_fx O8 ((Fx.rf (wr := [803]) (h := h4)).pI e12 hh19 rfl) e12 (by rw [e804]; exact e805) rfl (DOk_fx O F9 ta0 (by rw [e2]; exact t3) rfl P_RI0.2))))))))
                              exact g_vret C hr ⟨O799, (((((((((Fx.rf (wr := wr_k0_advance)).call F9 rfl).pI e12 hh19 rfl).pR e22 hh23 rfl).pJ e26 hh27 rfl).call F574 rfl).pI e577 hh780 rfl).call F794 rfl).pR e796 hh797 rfl), (by unfold RInv; rw [e800, e801, e802, (pR_e hh797)]; exact ⟨e803, p818, by omega, p795⟩)⟩ (by decide) (by decide) dX3_advance_404
                        · have f819 : (97 : Int) ≤ v661 ∧ v661 ≤ (122 : Int) := r_le f741 (il 122) q743 (by decide) (by decide)
                          refine g_aload_n C rfl 0 rfl dX3_advance_165 ?_
                          refine g_ldc2 (z := 27) C kw_677 (by decide) dX3_advance_166 ?_
                          refine g_aload_n C rfl 0 rfl dX3_advance_169 ?_
                          obtain ⟨v820, e821⟩ : ∃ z, Jv h569 a0 5 = z := ⟨_, rfl⟩
                          have f822 := inL_J O573 e821
                          refine gf_J C fk_LandSurvey_Reader_73 rfl e577 e821 dX3_advance_170 ?_
                          refine g_lmul C dX3_advance_173 ?_
                          have f823 : (-9223372036854775808 : Int) ≤ (lM 27 v820) ∧ (lM 27 v820) ≤ (9223372036854775807 : Int) := inL_of _
                          refine g_aload_n C rfl 0 rfl dX3_advance_174 ?_
                          refine gf_R C fk_LandSurvey_Reader_9 rfl e577 e658 dX3_advance_175 ?_
                          refine g_aload_n C rfl 0 rfl dX3_advance_178 ?_
                          refine gf_I C fk_LandSurvey_Reader_30 rfl e577 e576 dX3_advance_179 ?_
                          refine g_cald C e659 rfl e660 (ix f657 (by decide) (by decide)) e662 dX3_advance_182 ?_
                          refine g_bipush C (by decide) dX3_advance_183 ?_
                          have f824 : (0 : Int) ≤ (v661 - 97) ∧ (v661 - 97) ≤ (25 : Int) := ia_sub f819 (il 97) (by decide) (by decide)
                          refine g_isub C dX3_advance_185 ?_
                          refine g_iconst C dX3_advance_186 ?_
                          have f825 : (1 : Int) ≤ ((v661 - 97) + 1) ∧ ((v661 - 97) + 1) ≤ (26 : Int) := ia_add f824 (il 1) (by decide) (by decide)
                          refine g_iadd C dX3_advance_187 ?_
                          refine g_i2l C (iw f825 (by decide) (by decide)) dX3_advance_188 ?_
                          refine g_ladd C dX3_advance_189 ?_
                          have f826 : (-9223372036854775808 : Int) ≤ (lA (lM 27 v820) ((v661 - 97) + 1)) ∧ (lA (lM 27 v820) ((v661 - 97) + 1)) ≤ (9223372036854775807 : Int) := inL_of _
                          refine gp_J C fk_LandSurvey_Reader_73 pk_LandSurvey_Reader_5 rfl e577 rfl f826 dX3_advance_190 (fun h828 hh827 => ?_)
                          have O829 := O573.pJ hh827 f826
                          refine g_aload_n C rfl 0 rfl dX3_advance_193 ?_
                          refine g_dup C rfl dX3_advance_194 ?_
                          have e830 : Tg h828 a0 = 4 := ((pJT hh827).trans e577)
                          have e831 : Iv h828 a0 2 = v575 := ((pJI hh827).trans e576)
                          refine gf_I C fk_LandSurvey_Reader_30 rfl e830 e831 dX3_advance_195 ?_
                          refine g_iconst C dX3_advance_198 ?_
                          have f832 : (1 : Int) ≤ (v575 + 1) ∧ (v575 + 1) ≤ (1500 : Int) := ia_add f657 (il 1) (by decide) (by decide)
                          refine g_iadd C dX3_advance_199 ?_
                          refine gp_I C fk_LandSurvey_Reader_30 pk_LandSurvey_Reader_2 rfl e830 (iw f832 (by decide) (by decide)) (nf_i _) dX3_advance_200 (fun h834 hh833 => ?_)
                          have O835 := O829.pI e830 hh833 rI_4_2 (iw f832 (by decide) (by decide)) nofun
                          refine g_goto C 126 (by decide) dX3_advance_203 ?_
                          refine GW.sub [0, 1] rfl ?_
                          have e836 : Iv h834 a0 2 = (v575 + 1) := (pI_e hh833)
                          exact ih571 _ (by omega) h834 rfl O835 ((F574.pJ e577 hh827 rfl).pI e830 hh833 rfl)
                exact L570 _ h28 rfl O29 Fx.rf
          · have f837 : (1 : Int) ≤ v14 ∧ v14 ≤ (1499 : Int) := r_le f136 f135 q145 (by decide) (by decide)
            have f838 : (1 : Int) ≤ v10 ∧ v10 ≤ (1499 : Int) := r_ge f135 f136 q145 (by decide) (by decide)
            refine g_aload_n C rfl 1 rfl dX3_advance_106 ?_
            refine g_iconst C dX3_advance_107 ?_
            refine gp_I C fk_LandSurvey_Reader_49 pk_LandSurvey_Reader_4 rfl e30 (iw (il 0) (by decide) (by decide)) (nf_i _) dX3_advance_108 (fun h840 hh839 => ?_)
            have O841 := O29.pI e30 hh839 rI_4_4 (iw (il 0) (by decide) (by decide)) nofun
            refine g_goto C 404 (by decide) dX3_advance_111 ?_
            have e842 : Rv h840 a0 13 = v1 := ((pIR hh839).trans ((pJR hh27).trans ((pR_j hh23 (by decide)).trans ((pIR hh19).trans ((fxR F9 ta0 rfl).trans e2)))))
            have e843 : Jv h840 a0 5 = 0 := ((pIJ hh839).trans (pJ_e hh27))
            have e844 : Rv h840 a0 6 = 0 := ((pIR hh839).trans ((pJR hh27).trans (pR_e hh23)))
            have e845 : Tg h840 v1 = 2006 := ((pIT hh839).trans ((pJT hh27).trans ((pRT hh23).trans ((pIT hh19).trans (fxT F9 t3)))))
            have e846 : Rv h4 a0 13 = v1 := ((fxR F9 ta0 rfl).trans e2)
            have e847 : Tg h4 v1 = 2006 := (fxT F9 t3)
            have e848 : Rv h20 a0 13 = v1 := ((pIR hh19).trans e846)
            have e849 : Tg h20 v1 = 2006 := ((pIT hh19).trans e847)
            have e850 : Rv h24 a0 13 = v1 := ((pR_j hh23 (by decide)).trans e848)
            have e851 : Tg h24 v1 = 2006 := ((pRT hh23).trans e849)
            have e852 : Rv h28 a0 13 = v1 := ((pJR hh27).trans e850)
            have e853 : Tg h28 v1 = 2006 := ((pJT hh27).trans e851)
            have p854 := (DOk_fx O29 ((Fx.rf (wr := [804]) (h := h28)).pI e30 hh839 rfl) e30 (by rw [e852]; exact e853) rfl (DOk_fx O25 ((Fx.rf (wr := [805]) (h := h24)).pJ e26 hh27 rfl) e26 (by rw [e850]; exact e851) rfl (DOk_fx O21 ((Fx.rf (wr := [806]) (h := h20)).pR e22 hh23 rfl) e22 (by rw [e848]; exact e849) rfl (DOk_fx O8 ((Fx.rf (wr := [803]) (h := h4)).pI e12 hh19 rfl) e12 (by rw [e846]; exact e847) rfl (DOk_fx O F9 ta0 (by rw [e2]; exact t3) rfl P_RI0.2)))))
            exact g_vret C hr ⟨O841, ((((((Fx.rf (wr := wr_k0_advance)).call F9 rfl).pI e12 hh19 rfl).pR e22 hh23 rfl).pJ e26 hh27 rfl).pI e30 hh839 rfl), (by unfold RInv; rw [e842, (pI_e hh839), e843, e844]; exact ⟨e845, p854, by omega, (Or.inl rfl)⟩)⟩ (by decide) (by decide) dX3_advance_404
      · have f855 : (0 : Int) ≤ v10 ∧ v10 ≤ (1499 : Int) := r_lt f13 f16 q18 (by decide) (by decide)
        have f856 : (1 : Int) ≤ v14 ∧ v14 ≤ (1500 : Int) := r_gt f16 f13 q18 (by decide) (by decide)
        refine g_aload_n C rfl 0 rfl dX3_advance_11 ?_
        obtain ⟨v857, e858⟩ : ∃ z, Rv h4 a0 0 = z := ⟨_, rfl⟩
        have t859 := ok_R O8 e12 rE_4_0 e858
        have l860 := ok_L O8 e12 rE_4_0 e858
        refine gf_R C fk_LandSurvey_Reader_9 rfl e12 e858 dX3_advance_12 ?_
        refine g_aload_n C rfl 0 rfl dX3_advance_15 ?_
        refine gf_I C fk_LandSurvey_Reader_30 rfl e12 e11 dX3_advance_16 ?_
        obtain ⟨v861, e862⟩ : ∃ z, Iv h4 v857 v10.toNat = z := ⟨_, rfl⟩
        have f863 := ok_Ia O8 t859 ar_19103 rI_19103_0 e862
        refine g_cald C t859 rfl l860 (ix f855 (by decide) (by decide)) e862 dX3_advance_19 ?_
        refine g_bipush C (by decide) dX3_advance_20 ?_
        refine g_icmp_eq C (iw f863 (by decide) (by decide)) (iw (il 32) (by decide) (by decide)) 39 (by decide) dX3_advance_22 (fun q864 => ?_) (fun q865 => ?_)
        · have f866 : (32 : Int) ≤ v861 ∧ v861 ≤ (32 : Int) := ii f863 (r_eq (il 32) q864) (by decide) (by decide)
          refine g_aload_n C rfl 0 rfl dX3_advance_39 ?_
          refine g_dup C rfl dX3_advance_40 ?_
          refine gf_I C fk_LandSurvey_Reader_30 rfl e12 e11 dX3_advance_41 ?_
          refine g_iconst C dX3_advance_44 ?_
          have f867 : (1 : Int) ≤ (v10 + 1) ∧ (v10 + 1) ≤ (1500 : Int) := ia_add f855 (il 1) (by decide) (by decide)
          refine g_iadd C dX3_advance_45 ?_
          refine gp_I C fk_LandSurvey_Reader_30 pk_LandSurvey_Reader_2 rfl e12 (iw f867 (by decide) (by decide)) (nf_i _) dX3_advance_46 (fun h869 hh868 => ?_)
          have O870 := O8.pI e12 hh868 rI_4_2 (iw f867 (by decide) (by decide)) nofun
          refine g_goto C 0 (by decide) dX3_advance_49 ?_
          refine GW.sub [0] rfl ?_
          have e871 : Iv h869 a0 2 = (v10 + 1) := (pI_e hh868)
          exact ih6 _ (by omega) h869 rfl O870 (F9.pI e12 hh868 rfl)
        · refine g_aload_n C rfl 0 rfl dX3_advance_25 ?_
          refine gf_R C fk_LandSurvey_Reader_9 rfl e12 e858 dX3_advance_26 ?_
          refine g_aload_n C rfl 0 rfl dX3_advance_29 ?_
          refine gf_I C fk_LandSurvey_Reader_30 rfl e12 e11 dX3_advance_30 ?_
          refine g_cald C t859 rfl l860 (ix f855 (by decide) (by decide)) e862 dX3_advance_33 ?_
          refine g_bipush C (by decide) dX3_advance_34 ?_
          refine g_icmp_ne C (iw f863 (by decide) (by decide)) (iw (il 10) (by decide) (by decide)) 52 (by decide) dX3_advance_36 (fun q872 => ?_) (fun q873 => ?_)
          · refine g_aload_n C rfl 0 rfl dX3_advance_52 ?_
            refine g_aload_n C rfl 0 rfl dX3_advance_53 ?_
            refine gf_I C fk_LandSurvey_Reader_30 rfl e12 e11 dX3_advance_54 ?_
            refine gp_I C fk_LandSurvey_Reader_66 pk_LandSurvey_Reader_3 rfl e12 (iw f855 (by decide) (by decide)) (nf_i _) dX3_advance_57 (fun h875 hh874 => ?_)
            have O876 := O8.pI e12 hh874 rI_4_3 (iw f855 (by decide) (by decide)) nofun
            refine g_aload_n C rfl 0 rfl dX3_advance_60 ?_
            refine g_null C dX3_advance_61 ?_
            have e877 : Tg h875 a0 = 4 := ((pIT hh874).trans e12)
            refine gp_R C fk_LandSurvey_Reader_69 pk_LandSurvey_Reader_6 rfl e877 (nf_o _ _) dX3_advance_62 (fun h879 hh878 => ?_)
            have O880 := O876.pR e877 hh878 (okR_f rE_4_6)
            refine g_aload_n C rfl 0 rfl dX3_advance_65 ?_
            refine g_lconst (z := 0) C (by decide) dX3_advance_66 ?_
            have e881 : Tg h879 a0 = 4 := ((pRT hh878).trans e877)
            refine gp_J C fk_LandSurvey_Reader_73 pk_LandSurvey_Reader_5 rfl e881 rfl (iw (il 0) (by decide) (by decide)) dX3_advance_67 (fun h883 hh882 => ?_)
            have O884 := O880.pJ hh882 (iw (il 0) (by decide) (by decide))
            refine g_aload_n C rfl 0 rfl dX3_advance_70 ?_
            have e885 : Tg h883 a0 = 4 := ((pJT hh882).trans e881)
            have e886 : Iv h883 a0 2 = v10 := ((pJI hh882).trans ((pRI hh878).trans ((pI_j hh874 (by decide)).trans e11)))
            refine gf_I C fk_LandSurvey_Reader_30 rfl e885 e886 dX3_advance_71 ?_
            refine g_aload_n C rfl 0 rfl dX3_advance_74 ?_
            have e887 : Iv h883 a0 1 = v14 := ((pJI hh882).trans ((pRI hh878).trans ((pI_j hh874 (by decide)).trans e15)))
            refine gf_I C fk_LandSurvey_Reader_19 rfl e885 e887 dX3_advance_75 ?_
            refine g_icmp_ge C (iw f855 (by decide) (by decide)) (iw f856 (by decide) (by decide)) 93 (by decide) dX3_advance_78 (fun q888 => ?_) (fun q889 => ?_)
            · have f890 : (1 : Int) ≤ v14 ∧ v14 ≤ (1499 : Int) := r_le f856 f855 q888 (by decide) (by decide)
              have f891 : (1 : Int) ≤ v10 ∧ v10 ≤ (1499 : Int) := r_ge f855 f856 q888 (by decide) (by decide)
              refine g_iconst C dX3_advance_93 ?_
              refine g_istore_n C [(1, .inl 0), (0, .inr (.inr a0))] rfl (by decide) rfl dX3_advance_94 ?_
              refine g_aload_n C rfl 1 rfl dX3_advance_95 ?_
              refine gf_I C fk_LandSurvey_Reader_30 rfl e885 e886 dX3_advance_96 ?_
              refine g_aload_n C rfl 1 rfl dX3_advance_99 ?_
              refine gf_I C fk_LandSurvey_Reader_19 rfl e885 e887 dX3_advance_100 ?_
              refine g_icmp_lt C (iw f891 (by decide) (by decide)) (iw f890 (by decide) (by decide)) 114 (by decide) dX3_advance_103 (fun q892 => ?_) (fun q893 => ?_)
              · have f894 : (1 : Int) ≤ v10 ∧ v10 ≤ (1498 : Int) := r_lt f891 f890 q892 (by decide) (by decide)
                have f895 : (2 : Int) ≤ v14 ∧ v14 ≤ (1499 : Int) := r_gt f890 f891 q892 (by decide) (by decide)
                refine g_iload_n C rfl 0 rfl dX3_advance_114 ?_
                refine g_bipush C (by decide) dX3_advance_115 ?_
                refine g_icmp_lt C (iw (il 0) (by decide) (by decide)) (iw (il 97) (by decide) (by decide)) 255 (by decide) dX3_advance_117 (fun q896 => ?_) (fun q897 => ?_)
                · refine g_iload_n C rfl 0 rfl dX3_advance_255 ?_
                  refine g_bipush C (by decide) dX3_advance_256 ?_
                  refine g_icmp_lt C (iw (il 0) (by decide) (by decide)) (iw (il 48) (by decide) (by decide)) 370 (by decide) dX3_advance_258 (fun q898 => ?_) (fun q899 => ?_)
                  · refine g_aload_n C rfl 1 rfl dX3_advance_370 ?_
                    refine g_iload_n C rfl 0 rfl dX3_advance_371 ?_
                    refine g_i2l C (iw (il 0) (by decide) (by decide)) dX3_advance_372 ?_
                    refine gp_J C fk_LandSurvey_Reader_73 pk_LandSurvey_Reader_5 rfl e885 rfl (iw (il 0) (by decide) (by decide)) dX3_advance_373 (fun h901 hh900 => ?_)
                    have O902 := O884.pJ hh900 (iw (il 0) (by decide) (by decide))
                    refine g_aload_n C rfl 1 rfl dX3_advance_376 ?_
                    refine g_ldcS C C.2.2.2.2.1.2 dX3_advance_377 ?_
                    refine g_iload_n C rfl 0 rfl dX3_advance_379 ?_
                    refine g_callI (st := [.inr (.inr a0)]) (gc_VS C lk_LandSurvey_Reader_89 rfl (k_J0_indexOf_0f7a4 l D cy w z0 O902 (iw (il 0) (by decide) (by decide))) rfl ⟨by decide, by decide⟩ (Nat.le_of_ble_eq_true rfl) dX3_advance_380 ⟨(by decide), (by decide)⟩) (fun r903 h904 f906 K905 => ?_)
                    obtain ⟨O907, F908, f909⟩ := K905
                    refine g_if_lt C f909 390 (by decide) dX3_advance_383 (fun q910 => ?_) (fun q911 => ?_)
                    · have f912 : (-2147483648 : Int) ≤ r903 ∧ r903 ≤ (-1 : Int) := r_lt f909 (il 0) q910 (by decide) (by decide)
                      refine g_iconst C dX3_advance_390 ?_
                      have e913 : Tg h904 a0 = 4 := (fxT F908 ((pJT hh900).trans e885))
                      refine gp_I C fk_LandSurvey_Reader_49 pk_LandSurvey_Reader_4 rfl e913 (iw (il 4) (by decide) (by decide)) (nf_i _) dX3_advance_391 (fun h915 hh914 => ?_)
                      have O916 := O907.pI e913 hh914 rI_4_4 (iw (il 4) (by decide) (by decide)) nofun
                      refine g_aload_n C rfl 1 rfl dX3_advance_394 ?_
                      refine g_dup C rfl dX3_advance_395 ?_
                      have e917 : Tg h915 a0 = 4 := ((pIT hh914).trans e913)
                      have e918 : Tg h901 a0 = 4 := ((pJT hh900).trans e885)
                      have e919 : Iv h915 a0 2 = v10 := ((pI_j hh914 (by decide)).trans ((fxI F908 e918 rfl).trans ((pJI hh900).trans e886)))
                      refine gf_I C fk_LandSurvey_Reader_30 rfl e917 e919 dX3_advance_396 ?_
                      refine g_iconst C dX3_advance_399 ?_
                      have f920 : (2 : Int) ≤ (v10 + 1) ∧ (v10 + 1) ≤ (1499 : Int) := ia_add f894 (il 1) (by decide) (by decide)
                      refine g_iadd C dX3_advance_400 ?_
                      refine gp_I C fk_LandSurvey_Reader_30 pk_LandSurvey_Reader_2 rfl e917 (iw f920 (by decide) (by decide)) (nf_i _) dX3_advance_401 (fun h922 hh921 => ?_)
                      have O923 := O916.pI e917 hh921 rI_4_2 (iw f920 (by decide) (by decide)) nofun
                      have e924 : Rv h922 a0 13 = v1 := ((pIR hh921).trans ((pIR hh914).trans ((fxR F908 e918 rfl).trans ((pJR hh900).trans ((pJR hh882).trans ((pR_j hh878 (by decide)).trans ((pIR hh874).trans ((fxR F9 ta0 rfl).trans e2))))))))
                      have e925 : Iv h922 a0 4 = 4 := ((pI_j hh921 (by decide)).trans (pI_e hh914))
                      have e926 : Jv h922 a0 5 = 0 := ((pIJ hh921).trans ((pIJ hh914).trans ((fxJ F908 e918 rfl).trans (pJ_e hh900))))
                      have e927 : Rv h922 a0 6 = 0 := ((pIR hh921).trans ((pIR hh914).trans ((fxR F908 e918 rfl).trans ((pJR hh900).trans ((pJR hh882).trans (pR_e hh878))))))
                      have e928 : Tg h922 v1 = 2006 := ((pIT hh921).trans ((pIT hh914).trans (fxT F908 ((pJT hh900).trans ((pJT hh882).trans ((pRT hh878).trans ((pIT hh874).trans (fxT F9 t3))))))))
                      have e929 : Rv h4 a0 13 = v1 := ((fxR F9 ta0 rfl).trans e2)
                      have e930 : Tg h4 v1 = 2006 := (fxT F9 t3)
                      have e931 : Rv h875 a0 13 = v1 := ((pIR hh874).trans e929)
                      have e932 : Tg h875 v1 = 2006 := ((pIT hh874).trans e930)
                      have e933 : Rv h879 a0 13 = v1 := ((pR_j hh878 (by decide)).trans e931)
                      have e934 : Tg h879 v1 = 2006 := ((pRT hh878).trans e932)
                      have e935 : Rv h883 a0 13 = v1 := ((pJR hh882).trans e933)
                      have e936 : Tg h883 v1 = 2006 := ((pJT hh882).trans e934)
                      have e937 : Rv h901 a0 13 = v1 := ((pJR hh900).trans e935)
                      have e938 : Tg h901 v1 = 2006 := ((pJT hh900).trans e936)
                      have e939 : Rv h904 a0 13 = v1 := ((fxR F908 e918 rfl).trans e937)
                      have e940 : Tg h904 v1 = 2006 := (fxT F908 e938)
                      have e941 : Rv h915 a0 13 = v1 := ((pIR hh914).trans e939)
                      have e942 : Tg h915 v1 = 2006 := ((pIT hh914).trans e940)
                      have p943 := (DOk_fx O916 ((Fx.rf (wr := [802]) (h := h915)).pI e917 hh921 rfl) e917 (by rw [e941]; exact e942) rfl (DOk_fx O907 ((Fx.rf (wr := [804]) (h := h904)).pI e913 hh914 rfl) e913 (by rw [e939]; exact e940) rfl (DOk_fx O902 F908 e918 (by rw [e937]; exact e938) rfl (DOk_fx O884 ((Fx.rf (wr := [805]) (h := h883)).pJ e885 hh900 rfl) e885 (by rw [e935]; exact e936) rfl (DOk_fx O880 ((Fx.rf (wr := [805]) (h := h879)).pJ e881 hh882 rfl) e881 (by rw [e933]; exact e934) rfl (DOk_fx O876 ((Fx.rf (wr := [806]) (h := h875)).pR e877 hh878 rfl) e877 (by rw [e931]; exact e932) rfl (DOk_fx O8 ((Fx.rf (wr := [803]) (h := h4)).pI e12 hh874 rfl) e12 (by rw [e929]; exact e930) rfl (DOk_fx O F9 ta0 (by rw [e2]; exact t3) rfl P_RI0.2))))))))
                      exact g_vret C hr ⟨O923, (((((((((Fx.rf (wr := wr_k0_advance)).call F9 rfl).pI e12 hh874 rfl).pR e877 hh878 rfl).pJ e881 hh882 rfl).pJ e885 hh900 rfl).call F908 rfl).pI e913 hh914 rfl).pI e917 hh921 rfl), (by unfold RInv; rw [e924, e925, e926, e927]; exact ⟨e928, p943, by omega, (Or.inl rfl)⟩)⟩ (by decide) (by decide) dX3_advance_404
                    · have f944 : (0 : Int) ≤ r903 ∧ r903 ≤ (2147483647 : Int) := r_ge f909 (il 0) q911 (by decide) (by decide)
                      refine g_iconst C dX3_advance_386 ?_
                      refine g_goto C 391 (by decide) dX3_advance_387 ?_
                      have e945 : Tg h904 a0 = 4 := (fxT F908 ((pJT hh900).trans e885))
                      refine gp_I C fk_LandSurvey_Reader_49 pk_LandSurvey_Reader_4 rfl e945 (iw (il 3) (by decide) (by decide)) (nf_i _) dX3_advance_391 (fun h947 hh946 => ?_)
                      have O948 := O907.pI e945 hh946 rI_4_4 (iw (il 3) (by decide) (by decide)) nofun
                      refine g_aload_n C rfl 1 rfl dX3_advance_394 ?_
                      refine g_dup C rfl dX3_advance_395 ?_
                      have e949 : Tg h947 a0 = 4 := ((pIT hh946).trans e945)
                      have e950 : Tg h901 a0 = 4 := ((pJT hh900).trans e885)
                      have e951 : Iv h947 a0 2 = v10 := ((pI_j hh946 (by decide)).trans ((fxI F908 e950 rfl).trans ((pJI hh900).trans e886)))
                      refine gf_I C fk_LandSurvey_Reader_30 rfl e949 e951 dX3_advance_396 ?_
                      refine g_iconst C dX3_advance_399 ?_
                      have f952 : (2 : Int) ≤ (v10 + 1) ∧ (v10 + 1) ≤ (1499 : Int) := ia_add f894 (il 1) (by decide) (by decide)
                      refine g_iadd C dX3_advance_400 ?_
                      refine gp_I C fk_LandSurvey_Reader_30 pk_LandSurvey_Reader_2 rfl e949 (iw f952 (by decide) (by decide)) (nf_i _) dX3_advance_401 (fun h954 hh953 => ?_)
                      have O955 := O948.pI e949 hh953 rI_4_2 (iw f952 (by decide) (by decide)) nofun
                      have e956 : Rv h954 a0 13 = v1 := ((pIR hh953).trans ((pIR hh946).trans ((fxR F908 e950 rfl).trans ((pJR hh900).trans ((pJR hh882).trans ((pR_j hh878 (by decide)).trans ((pIR hh874).trans ((fxR F9 ta0 rfl).trans e2))))))))
                      have e957 : Iv h954 a0 4 = 3 := ((pI_j hh953 (by decide)).trans (pI_e hh946))
                      have e958 : Jv h954 a0 5 = 0 := ((pIJ hh953).trans ((pIJ hh946).trans ((fxJ F908 e950 rfl).trans (pJ_e hh900))))
                      have e959 : Rv h954 a0 6 = 0 := ((pIR hh953).trans ((pIR hh946).trans ((fxR F908 e950 rfl).trans ((pJR hh900).trans ((pJR hh882).trans (pR_e hh878))))))
                      have e960 : Tg h954 v1 = 2006 := ((pIT hh953).trans ((pIT hh946).trans (fxT F908 ((pJT hh900).trans ((pJT hh882).trans ((pRT hh878).trans ((pIT hh874).trans (fxT F9 t3))))))))
                      have e961 : Rv h4 a0 13 = v1 := ((fxR F9 ta0 rfl).trans e2)
                      have e962 : Tg h4 v1 = 2006 := (fxT F9 t3)
                      have e963 : Rv h875 a0 13 = v1 := ((pIR hh874).trans e961)
                      have e964 : Tg h875 v1 = 2006 := ((pIT hh874).trans e962)
                      have e965 : Rv h879 a0 13 = v1 := ((pR_j hh878 (by decide)).trans e963)
                      have e966 : Tg h879 v1 = 2006 := ((pRT hh878).trans e964)
                      have e967 : Rv h883 a0 13 = v1 := ((pJR hh882).trans e965)
                      have e968 : Tg h883 v1 = 2006 := ((pJT hh882).trans e966)
                      have e969 : Rv h901 a0 13 = v1 := ((pJR hh900).trans e967)
                      have e970 : Tg h901 v1 = 2006 := ((pJT hh900).trans e968)
                      have e971 : Rv h904 a0 13 = v1 := ((fxR F908 e950 rfl).trans e969)
                      have e972 : Tg h904 v1 = 2006 := (fxT F908 e970)
                      have e973 : Rv h947 a0 13 = v1 := ((pIR hh946).trans e971)
                      have e974 : Tg h947 v1 = 2006 := ((pIT hh946).trans e972)
                      have p975 := (DOk_fx O948 ((Fx.rf (wr := [802]) (h := h947)).pI e949 hh953 rfl) e949 (by rw [e973]; exact e974) rfl (DOk_fx O907 ((Fx.rf (wr := [804]) (h := h904)).pI e945 hh946 rfl) e945 (by rw [e971]; exact e972) rfl (DOk_fx O902 F908 e950 (by rw [e969]; exact e970) rfl (DOk_fx O884 ((Fx.rf (wr := [805]) (h := h883)).pJ e885 hh900 rfl) e885 (by rw [e967]; exact e968) rfl (DOk_fx O880 ((Fx.rf (wr := [805]) (h := h879)).pJ e881 hh882 rfl) e881 (by rw [e965]; exact e966) rfl (DOk_fx O876 ((Fx.rf (wr := [806]) (h := h875)).pR e877 hh878 rfl) e877 (by rw [e963]; exact e964) rfl (DOk_fx O8 ((Fx.rf (wr := [803]) (h := h4)).pI e12 hh874 rfl) e12 (by rw [e961]; exact e962) rfl (DOk_fx O F9 ta0 (by rw [e2]; exact t3) rfl P_RI0.2))))))))
                      exact g_vret C hr ⟨O955, (((((((((Fx.rf (wr := wr_k0_advance)).call F9 rfl).pI e12 hh874 rfl).pR e877 hh878 rfl).pJ e881 hh882 rfl).pJ e885 hh900 rfl).call F908 rfl).pI e945 hh946 rfl).pI e949 hh953 rfl), (by unfold RInv; rw [e956, e957, e958, e959]; exact ⟨e960, p975, by omega, (Or.inl rfl)⟩)⟩ (by decide) (by decide) dX3_advance_404
                  · exact (no_le (il 48) (il 0) q899 (by decide)).elim
                · exact (no_le (il 97) (il 0) q897 (by decide)).elim
              · refine g_aload_n C rfl 1 rfl dX3_advance_106 ?_
                refine g_iconst C dX3_advance_107 ?_
                refine gp_I C fk_LandSurvey_Reader_49 pk_LandSurvey_Reader_4 rfl e885 (iw (il 0) (by decide) (by decide)) (nf_i _) dX3_advance_108 (fun h977 hh976 => ?_)
                have O978 := O884.pI e885 hh976 rI_4_4 (iw (il 0) (by decide) (by decide)) nofun
                refine g_goto C 404 (by decide) dX3_advance_111 ?_
                have e979 : Rv h977 a0 13 = v1 := ((pIR hh976).trans ((pJR hh882).trans ((pR_j hh878 (by decide)).trans ((pIR hh874).trans ((fxR F9 ta0 rfl).trans e2)))))
                have e980 : Jv h977 a0 5 = 0 := ((pIJ hh976).trans (pJ_e hh882))
                have e981 : Rv h977 a0 6 = 0 := ((pIR hh976).trans ((pJR hh882).trans (pR_e hh878)))
                have e982 : Tg h977 v1 = 2006 := ((pIT hh976).trans ((pJT hh882).trans ((pRT hh878).trans ((pIT hh874).trans (fxT F9 t3)))))
                have e983 : Rv h4 a0 13 = v1 := ((fxR F9 ta0 rfl).trans e2)
                have e984 : Tg h4 v1 = 2006 := (fxT F9 t3)
                have e985 : Rv h875 a0 13 = v1 := ((pIR hh874).trans e983)
                have e986 : Tg h875 v1 = 2006 := ((pIT hh874).trans e984)
                have e987 : Rv h879 a0 13 = v1 := ((pR_j hh878 (by decide)).trans e985)
                have e988 : Tg h879 v1 = 2006 := ((pRT hh878).trans e986)
                have e989 : Rv h883 a0 13 = v1 := ((pJR hh882).trans e987)
                have e990 : Tg h883 v1 = 2006 := ((pJT hh882).trans e988)
                have p991 := (DOk_fx O884 ((Fx.rf (wr := [804]) (h := h883)).pI e885 hh976 rfl) e885 (by rw [e989]; exact e990) rfl (DOk_fx O880 ((Fx.rf (wr := [805]) (h := h879)).pJ e881 hh882 rfl) e881 (by rw [e987]; exact e988) rfl (DOk_fx O876 ((Fx.rf (wr := [806]) (h := h875)).pR e877 hh878 rfl) e877 (by rw [e985]; exact e986) rfl (DOk_fx O8 ((Fx.rf (wr := [803]) (h := h4)).pI e12 hh874 rfl) e12 (by rw [e983]; exact e984) rfl (DOk_fx O F9 ta0 (by rw [e2]; exact t3) rfl P_RI0.2)))))
                exact g_vret C hr ⟨O978, ((((((Fx.rf (wr := wr_k0_advance)).call F9 rfl).pI e12 hh874 rfl).pR e877 hh878 rfl).pJ e881 hh882 rfl).pI e885 hh976 rfl), (by unfold RInv; rw [e979, (pI_e hh976), e980, e981]; exact ⟨e982, p991, by omega, (Or.inl rfl)⟩)⟩ (by decide) (by decide) dX3_advance_404
            · refine g_aload_n C rfl 0 rfl dX3_advance_81 ?_
              have e992 : Rv h883 a0 0 = v857 := ((pJR hh882).trans ((pR_j hh878 (by decide)).trans ((pIR hh874).trans e858)))
              refine gf_R C fk_LandSurvey_Reader_9 rfl e885 e992 dX3_advance_82 ?_
              refine g_aload_n C rfl 0 rfl dX3_advance_85 ?_
              refine gf_I C fk_LandSurvey_Reader_30 rfl e885 e886 dX3_advance_86 ?_
              have e993 : Tg h883 v857 = 19103 := ((pJT hh882).trans ((pRT hh878).trans ((pIT hh874).trans t859)))
              have e994 : Ln h883 v857 = 1500 := ((pJL hh882).trans ((pRL hh878).trans ((pIL hh874).trans l860)))
              have e995 : Iv h883 v857 v10.toNat = v861 := ((pJI hh882).trans ((pRI hh878).trans ((pI_n hh874 (ne_tag t859 e12 (by decide))).trans e862)))
              refine g_cald C e993 rfl e994 (ix f855 (by decide) (by decide)) e995 dX3_advance_89 ?_
              refine g_goto C 94 (by decide) dX3_advance_90 ?_
              refine g_istore_n C [(1, .inl v861), (0, .inr (.inr a0))] rfl (by decide) rfl dX3_advance_94 ?_
              refine g_aload_n C rfl 1 rfl dX3_advance_95 ?_
              refine gf_I C fk_LandSurvey_Reader_30 rfl e885 e886 dX3_advance_96 ?_
              refine g_aload_n C rfl 1 rfl dX3_advance_99 ?_
              refine gf_I C fk_LandSurvey_Reader_19 rfl e885 e887 dX3_advance_100 ?_
              refine g_icmp_lt C (iw f855 (by decide) (by decide)) (iw f856 (by decide) (by decide)) 114 (by decide) dX3_advance_103 (fun q996 => ?_) (fun q997 => ?_)
              · refine g_iload_n C rfl 0 rfl dX3_advance_114 ?_
                refine g_bipush C (by decide) dX3_advance_115 ?_
                refine g_icmp_lt C (iw f863 (by decide) (by decide)) (iw (il 97) (by decide) (by decide)) 255 (by decide) dX3_advance_117 (fun q998 => ?_) (fun q999 => ?_)
                · have f1000 : (0 : Int) ≤ v861 ∧ v861 ≤ (96 : Int) := r_lt f863 (il 97) q998 (by decide) (by decide)
                  refine g_iload_n C rfl 0 rfl dX3_advance_255 ?_
                  refine g_bipush C (by decide) dX3_advance_256 ?_
                  refine g_icmp_lt C (iw f1000 (by decide) (by decide)) (iw (il 48) (by decide) (by decide)) 370 (by decide) dX3_advance_258 (fun q1001 => ?_) (fun q1002 => ?_)
                  · have f1003 : (0 : Int) ≤ v861 ∧ v861 ≤ (47 : Int) := r_lt f1000 (il 48) q1001 (by decide) (by decide)
                    refine g_aload_n C rfl 1 rfl dX3_advance_370 ?_
                    refine g_iload_n C rfl 0 rfl dX3_advance_371 ?_
                    refine g_i2l C (iw f1003 (by decide) (by decide)) dX3_advance_372 ?_
                    refine gp_J C fk_LandSurvey_Reader_73 pk_LandSurvey_Reader_5 rfl e885 rfl (iw f1003 (by decide) (by decide)) dX3_advance_373 (fun h1005 hh1004 => ?_)
                    have O1006 := O884.pJ hh1004 (iw f1003 (by decide) (by decide))
                    refine g_aload_n C rfl 1 rfl dX3_advance_376 ?_
                    refine g_ldcS C C.2.2.2.2.1.2 dX3_advance_377 ?_
                    refine g_iload_n C rfl 0 rfl dX3_advance_379 ?_
                    refine g_callI (st := [.inr (.inr a0)]) (gc_VS C lk_LandSurvey_Reader_89 rfl (k_J0_indexOf_0f7a4 l D cy w z0 O1006 (iw f1003 (by decide) (by decide))) rfl ⟨by decide, by decide⟩ (Nat.le_of_ble_eq_true rfl) dX3_advance_380 ⟨(by decide), (by decide)⟩) (fun r1007 h1008 f1010 K1009 => ?_)
                    obtain ⟨O1011, F1012, f1013⟩ := K1009
                    refine g_if_lt C f1013 390 (by decide) dX3_advance_383 (fun q1014 => ?_) (fun q1015 => ?_)
                    · have f1016 : (-2147483648 : Int) ≤ r1007 ∧ r1007 ≤ (-1 : Int) := r_lt f1013 (il 0) q1014 (by decide) (by decide)
                      refine g_iconst C dX3_advance_390 ?_
                      have e1017 : Tg h1008 a0 = 4 := (fxT F1012 ((pJT hh1004).trans e885))
                      refine gp_I C fk_LandSurvey_Reader_49 pk_LandSurvey_Reader_4 rfl e1017 (iw (il 4) (by decide) (by decide)) (nf_i _) dX3_advance_391 (fun h1019 hh1018 => ?_)
                      have O1020 := O1011.pI e1017 hh1018 rI_4_4 (iw (il 4) (by decide) (by decide)) nofun
                      refine g_aload_n C rfl 1 rfl dX3_advance_394 ?_
                      refine g_dup C rfl dX3_advance_395 ?_
                      have e1021 : Tg h1019 a0 = 4 := ((pIT hh1018).trans e1017)
                      have e1022 : Tg h1005 a0 = 4 := ((pJT hh1004).trans e885)
                      have e1023 : Iv h1019 a0 2 = v10 := ((pI_j hh1018 (by decide)).trans ((fxI F1012 e1022 rfl).trans ((pJI hh1004).trans e886)))
                      refine gf_I C fk_LandSurvey_Reader_30 rfl e1021 e1023 dX3_advance_396 ?_
                      refine g_iconst C dX3_advance_399 ?_
                      have f1024 : (1 : Int) ≤ (v10 + 1) ∧ (v10 + 1) ≤ (1500 : Int) := ia_add f855 (il 1) (by decide) (by decide)
                      refine g_iadd C dX3_advance_400 ?_
                      refine gp_I C fk_LandSurvey_Reader_30 pk_LandSurvey_Reader_2 rfl e1021 (iw f1024 (by decide) (by decide)) (nf_i _) dX3_advance_401 (fun h1026 hh1025 => ?_)
                      have O1027 := O1020.pI e1021 hh1025 rI_4_2 (iw f1024 (by decide) (by decide)) nofun
                      have e1028 : Rv h1026 a0 13 = v1 := ((pIR hh1025).trans ((pIR hh1018).trans ((fxR F1012 e1022 rfl).trans ((pJR hh1004).trans ((pJR hh882).trans ((pR_j hh878 (by decide)).trans ((pIR hh874).trans ((fxR F9 ta0 rfl).trans e2))))))))
                      have e1029 : Iv h1026 a0 4 = 4 := ((pI_j hh1025 (by decide)).trans (pI_e hh1018))
                      have e1030 : Jv h1026 a0 5 = v861 := ((pIJ hh1025).trans ((pIJ hh1018).trans ((fxJ F1012 e1022 rfl).trans (pJ_e hh1004))))
                      have e1031 : Rv h1026 a0 6 = 0 := ((pIR hh1025).trans ((pIR hh1018).trans ((fxR F1012 e1022 rfl).trans ((pJR hh1004).trans ((pJR hh882).trans (pR_e hh878))))))
                      have e1032 : Tg h1026 v1 = 2006 := ((pIT hh1025).trans ((pIT hh1018).trans (fxT F1012 ((pJT hh1004).trans ((pJT hh882).trans ((pRT hh878).trans ((pIT hh874).trans (fxT F9 t3))))))))
                      have e1033 : Rv h4 a0 13 = v1 := ((fxR F9 ta0 rfl).trans e2)
                      have e1034 : Tg h4 v1 = 2006 := (fxT F9 t3)
                      have e1035 : Rv h875 a0 13 = v1 := ((pIR hh874).trans e1033)
                      have e1036 : Tg h875 v1 = 2006 := ((pIT hh874).trans e1034)
                      have e1037 : Rv h879 a0 13 = v1 := ((pR_j hh878 (by decide)).trans e1035)
                      have e1038 : Tg h879 v1 = 2006 := ((pRT hh878).trans e1036)
                      have e1039 : Rv h883 a0 13 = v1 := ((pJR hh882).trans e1037)
                      have e1040 : Tg h883 v1 = 2006 := ((pJT hh882).trans e1038)
                      have e1041 : Rv h1005 a0 13 = v1 := ((pJR hh1004).trans e1039)
                      have e1042 : Tg h1005 v1 = 2006 := ((pJT hh1004).trans e1040)
                      have e1043 : Rv h1008 a0 13 = v1 := ((fxR F1012 e1022 rfl).trans e1041)
                      have e1044 : Tg h1008 v1 = 2006 := (fxT F1012 e1042)
                      have e1045 : Rv h1019 a0 13 = v1 := ((pIR hh1018).trans e1043)
                      have e1046 : Tg h1019 v1 = 2006 := ((pIT hh1018).trans e1044)
                      have p1047 := (DOk_fx O1020 ((Fx.rf (wr := [802]) (h := h1019)).pI e1021 hh1025 rfl) e1021 (by rw [e1045]; exact e1046) rfl (DOk_fx O1011 ((Fx.rf (wr := [804]) (h := h1008)).pI e1017 hh1018 rfl) e1017 (by rw [e1043]; exact e1044) rfl (DOk_fx O1006 F1012 e1022 (by rw [e1041]; exact e1042) rfl (DOk_fx O884 ((Fx.rf (wr := [805]) (h := h883)).pJ e885 hh1004 rfl) e885 (by rw [e1039]; exact e1040) rfl (DOk_fx O880 ((Fx.rf (wr := [805]) (h := h879)).pJ e881 hh882 rfl) e881 (by rw [e1037]; exact e1038) rfl (DOk_fx O876 ((Fx.rf (wr := [806]) (h := h875)).pR e877 hh878 rfl) e877 (by rw [e1035]; exact e1036) rfl (DOk_fx O8 ((Fx.rf (wr := [803]) (h := h4)).pI e12 hh874 rfl) e12 (by rw [e1033]; exact e1034) rfl (DOk_fx O F9 ta0 (by rw [e2]; exact t3) rfl P_RI0.2))))))))
                      exact g_vret C hr ⟨O1027, (((((((((Fx.rf (wr := wr_k0_advance)).call F9 rfl).pI e12 hh874 rfl).pR e877 hh878 rfl).pJ e881 hh882 rfl).pJ e885 hh1004 rfl).call F1012 rfl).pI e1017 hh1018 rfl).pI e1021 hh1025 rfl), (by unfold RInv; rw [e1028, e1029, e1030, e1031]; exact ⟨e1032, p1047, by omega, (Or.inl rfl)⟩)⟩ (by decide) (by decide) dX3_advance_404
                    · have f1048 : (0 : Int) ≤ r1007 ∧ r1007 ≤ (2147483647 : Int) := r_ge f1013 (il 0) q1015 (by decide) (by decide)
                      refine g_iconst C dX3_advance_386 ?_
                      refine g_goto C 391 (by decide) dX3_advance_387 ?_
                      have e1049 : Tg h1008 a0 = 4 := (fxT F1012 ((pJT hh1004).trans e885))
                      refine gp_I C fk_LandSurvey_Reader_49 pk_LandSurvey_Reader_4 rfl e1049 (iw (il 3) (by decide) (by decide)) (nf_i _) dX3_advance_391 (fun h1051 hh1050 => ?_)
                      have O1052 := O1011.pI e1049 hh1050 rI_4_4 (iw (il 3) (by decide) (by decide)) nofun
                      refine g_aload_n C rfl 1 rfl dX3_advance_394 ?_
                      refine g_dup C rfl dX3_advance_395 ?_
                      have e1053 : Tg h1051 a0 = 4 := ((pIT hh1050).trans e1049)
                      have e1054 : Tg h1005 a0 = 4 := ((pJT hh1004).trans e885)
                      have e1055 : Iv h1051 a0 2 = v10 := ((pI_j hh1050 (by decide)).trans ((fxI F1012 e1054 rfl).trans ((pJI hh1004).trans e886)))
                      refine gf_I C fk_LandSurvey_Reader_30 rfl e1053 e1055 dX3_advance_396 ?_
                      refine g_iconst C dX3_advance_399 ?_
                      have f1056 : (1 : Int) ≤ (v10 + 1) ∧ (v10 + 1) ≤ (1500 : Int) := ia_add f855 (il 1) (by decide) (by decide)
                      refine g_iadd C dX3_advance_400 ?_
                      refine gp_I C fk_LandSurvey_Reader_30 pk_LandSurvey_Reader_2 rfl e1053 (iw f1056 (by decide) (by decide)) (nf_i _) dX3_advance_401 (fun h1058 hh1057 => ?_)
                      have O1059 := O1052.pI e1053 hh1057 rI_4_2 (iw f1056 (by decide) (by decide)) nofun
                      have e1060 : Rv h1058 a0 13 = v1 := ((pIR hh1057).trans ((pIR hh1050).trans ((fxR F1012 e1054 rfl).trans ((pJR hh1004).trans ((pJR hh882).trans ((pR_j hh878 (by decide)).trans ((pIR hh874).trans ((fxR F9 ta0 rfl).trans e2))))))))
                      have e1061 : Iv h1058 a0 4 = 3 := ((pI_j hh1057 (by decide)).trans (pI_e hh1050))
                      have e1062 : Jv h1058 a0 5 = v861 := ((pIJ hh1057).trans ((pIJ hh1050).trans ((fxJ F1012 e1054 rfl).trans (pJ_e hh1004))))
                      have e1063 : Rv h1058 a0 6 = 0 := ((pIR hh1057).trans ((pIR hh1050).trans ((fxR F1012 e1054 rfl).trans ((pJR hh1004).trans ((pJR hh882).trans (pR_e hh878))))))
                      have e1064 : Tg h1058 v1 = 2006 := ((pIT hh1057).trans ((pIT hh1050).trans (fxT F1012 ((pJT hh1004).trans ((pJT hh882).trans ((pRT hh878).trans ((pIT hh874).trans (fxT F9 t3))))))))
                      have e1065 : Rv h4 a0 13 = v1 := ((fxR F9 ta0 rfl).trans e2)
                      have e1066 : Tg h4 v1 = 2006 := (fxT F9 t3)
                      have e1067 : Rv h875 a0 13 = v1 := ((pIR hh874).trans e1065)
                      have e1068 : Tg h875 v1 = 2006 := ((pIT hh874).trans e1066)
                      have e1069 : Rv h879 a0 13 = v1 := ((pR_j hh878 (by decide)).trans e1067)
                      have e1070 : Tg h879 v1 = 2006 := ((pRT hh878).trans e1068)
                      have e1071 : Rv h883 a0 13 = v1 := ((pJR hh882).trans e1069)
                      have e1072 : Tg h883 v1 = 2006 := ((pJT hh882).trans e1070)
                      have e1073 : Rv h1005 a0 13 = v1 := ((pJR hh1004).trans e1071)
                      have e1074 : Tg h1005 v1 = 2006 := ((pJT hh1004).trans e1072)
                      have e1075 : Rv h1008 a0 13 = v1 := ((fxR F1012 e1054 rfl).trans e1073)
                      have e1076 : Tg h1008 v1 = 2006 := (fxT F1012 e1074)
                      have e1077 : Rv h1051 a0 13 = v1 := ((pIR hh1050).trans e1075)
                      have e1078 : Tg h1051 v1 = 2006 := ((pIT hh1050).trans e1076)
                      have p1079 := (DOk_fx O1052 ((Fx.rf (wr := [802]) (h := h1051)).pI e1053 hh1057 rfl) e1053 (by rw [e1077]; exact e1078) rfl (DOk_fx O1011 ((Fx.rf (wr := [804]) (h := h1008)).pI e1049 hh1050 rfl) e1049 (by rw [e1075]; exact e1076) rfl (DOk_fx O1006 F1012 e1054 (by rw [e1073]; exact e1074) rfl (DOk_fx O884 ((Fx.rf (wr := [805]) (h := h883)).pJ e885 hh1004 rfl) e885 (by rw [e1071]; exact e1072) rfl (DOk_fx O880 ((Fx.rf (wr := [805]) (h := h879)).pJ e881 hh882 rfl) e881 (by rw [e1069]; exact e1070) rfl (DOk_fx O876 ((Fx.rf (wr := [806]) (h := h875)).pR e877 hh878 rfl) e877 (by rw [e1067]; exact e1068) rfl (DOk_fx O8 ((Fx.rf (wr := [803]) (h := h4)).pI e12 hh874 rfl) e12 (by rw [e1065]; exact e1066) rfl (DOk_fx O F9 ta0 (by rw [e2]; exact t3) rfl P_RI0.2))))))))
                      exact g_vret C hr ⟨O1059, (((((((((Fx.rf (wr := wr_k0_advance)).call F9 rfl).pI e12 hh874 rfl).pR e877 hh878 rfl).pJ e881 hh882 rfl).pJ e885 hh1004 rfl).call F1012 rfl).pI e1049 hh1050 rfl).pI e1053 hh1057 rfl), (by unfold RInv; rw [e1060, e1061, e1062, e1063]; exact ⟨e1064, p1079, by omega, (Or.inl rfl)⟩)⟩ (by decide) (by decide) dX3_advance_404
                  · have f1080 : (48 : Int) ≤ v861 ∧ v861 ≤ (96 : Int) := r_ge f1000 (il 48) q1002 (by decide) (by decide)
                    refine g_iload_n C rfl 0 rfl dX3_advance_261 ?_
                    refine g_bipush C (by decide) dX3_advance_262 ?_
                    refine g_icmp_gt C (iw f1080 (by decide) (by decide)) (iw (il 57) (by decide) (by decide)) 370 (by decide) dX3_advance_264 (fun q1081 => ?_) (fun q1082 => ?_)
                    · have f1083 : (58 : Int) ≤ v861 ∧ v861 ≤ (96 : Int) := r_gt f1080 (il 57) q1081 (by decide) (by decide)
                      refine g_aload_n C rfl 1 rfl dX3_advance_370 ?_
                      refine g_iload_n C rfl 0 rfl dX3_advance_371 ?_
                      refine g_i2l C (iw f1083 (by decide) (by decide)) dX3_advance_372 ?_
                      refine gp_J C fk_LandSurvey_Reader_73 pk_LandSurvey_Reader_5 rfl e885 rfl (iw f1083 (by decide) (by decide)) dX3_advance_373 (fun h1085 hh1084 => ?_)
                      have O1086 := O884.pJ hh1084 (iw f1083 (by decide) (by decide))
                      refine g_aload_n C rfl 1 rfl dX3_advance_376 ?_
                      refine g_ldcS C C.2.2.2.2.1.2 dX3_advance_377 ?_
                      refine g_iload_n C rfl 0 rfl dX3_advance_379 ?_
                      refine g_callI (st := [.inr (.inr a0)]) (gc_VS C lk_LandSurvey_Reader_89 rfl (k_J0_indexOf_0f7a4 l D cy w z0 O1086 (iw f1083 (by decide) (by decide))) rfl ⟨by decide, by decide⟩ (Nat.le_of_ble_eq_true rfl) dX3_advance_380 ⟨(by decide), (by decide)⟩) (fun r1087 h1088 f1090 K1089 => ?_)
                      obtain ⟨O1091, F1092, f1093⟩ := K1089
                      refine g_if_lt C f1093 390 (by decide) dX3_advance_383 (fun q1094 => ?_) (fun q1095 => ?_)
                      · have f1096 : (-2147483648 : Int) ≤ r1087 ∧ r1087 ≤ (-1 : Int) := r_lt f1093 (il 0) q1094 (by decide) (by decide)
                        refine g_iconst C dX3_advance_390 ?_
                        have e1097 : Tg h1088 a0 = 4 := (fxT F1092 ((pJT hh1084).trans e885))
                        refine gp_I C fk_LandSurvey_Reader_49 pk_LandSurvey_Reader_4 rfl e1097 (iw (il 4) (by decide) (by decide)) (nf_i _) dX3_advance_391 (fun h1099 hh1098 => ?_)
                        have O1100 := O1091.pI e1097 hh1098 rI_4_4 (iw (il 4) (by decide) (by decide)) nofun
                        refine g_aload_n C rfl 1 rfl dX3_advance_394 ?_
                        refine g_dup C rfl dX3_advance_395 ?_
                        have e1101 : Tg h1099 a0 = 4 := ((pIT hh1098).trans e1097)
                        have e1102 : Tg h1085 a0 = 4 := ((pJT hh1084).trans e885)
                        have e1103 : Iv h1099 a0 2 = v10 := ((pI_j hh1098 (by decide)).trans ((fxI F1092 e1102 rfl).trans ((pJI hh1084).trans e886)))
                        refine gf_I C fk_LandSurvey_Reader_30 rfl e1101 e1103 dX3_advance_396 ?_
                        refine g_iconst C dX3_advance_399 ?_
                        have f1104 : (1 : Int) ≤ (v10 + 1) ∧ (v10 + 1) ≤ (1500 : Int) := ia_add f855 (il 1) (by decide) (by decide)
                        refine g_iadd C dX3_advance_400 ?_
                        refine gp_I C fk_LandSurvey_Reader_30 pk_LandSurvey_Reader_2 rfl e1101 (iw f1104 (by decide) (by decide)) (nf_i _) dX3_advance_401 (fun h1106 hh1105 => ?_)
                        have O1107 := O1100.pI e1101 hh1105 rI_4_2 (iw f1104 (by decide) (by decide)) nofun
                        have e1108 : Rv h1106 a0 13 = v1 := ((pIR hh1105).trans ((pIR hh1098).trans ((fxR F1092 e1102 rfl).trans ((pJR hh1084).trans ((pJR hh882).trans ((pR_j hh878 (by decide)).trans ((pIR hh874).trans ((fxR F9 ta0 rfl).trans e2))))))))
                        have e1109 : Iv h1106 a0 4 = 4 := ((pI_j hh1105 (by decide)).trans (pI_e hh1098))
                        have e1110 : Jv h1106 a0 5 = v861 := ((pIJ hh1105).trans ((pIJ hh1098).trans ((fxJ F1092 e1102 rfl).trans (pJ_e hh1084))))
                        have e1111 : Rv h1106 a0 6 = 0 := ((pIR hh1105).trans ((pIR hh1098).trans ((fxR F1092 e1102 rfl).trans ((pJR hh1084).trans ((pJR hh882).trans (pR_e hh878))))))
                        have e1112 : Tg h1106 v1 = 2006 := ((pIT hh1105).trans ((pIT hh1098).trans (fxT F1092 ((pJT hh1084).trans ((pJT hh882).trans ((pRT hh878).trans ((pIT hh874).trans (fxT F9 t3))))))))
                        have e1113 : Rv h4 a0 13 = v1 := ((fxR F9 ta0 rfl).trans e2)
                        have e1114 : Tg h4 v1 = 2006 := (fxT F9 t3)
                        have e1115 : Rv h875 a0 13 = v1 := ((pIR hh874).trans e1113)
                        have e1116 : Tg h875 v1 = 2006 := ((pIT hh874).trans e1114)
                        have e1117 : Rv h879 a0 13 = v1 := ((pR_j hh878 (by decide)).trans e1115)
                        have e1118 : Tg h879 v1 = 2006 := ((pRT hh878).trans e1116)
                        have e1119 : Rv h883 a0 13 = v1 := ((pJR hh882).trans e1117)
                        have e1120 : Tg h883 v1 = 2006 := ((pJT hh882).trans e1118)
                        have e1121 : Rv h1085 a0 13 = v1 := ((pJR hh1084).trans e1119)
                        have e1122 : Tg h1085 v1 = 2006 := ((pJT hh1084).trans e1120)
                        have e1123 : Rv h1088 a0 13 = v1 := ((fxR F1092 e1102 rfl).trans e1121)
                        have e1124 : Tg h1088 v1 = 2006 := (fxT F1092 e1122)
                        have e1125 : Rv h1099 a0 13 = v1 := ((pIR hh1098).trans e1123)
                        have e1126 : Tg h1099 v1 = 2006 := ((pIT hh1098).trans e1124)
                        have p1127 := (DOk_fx O1100 ((Fx.rf (wr := [802]) (h := h1099)).pI e1101 hh1105 rfl) e1101 (by rw [e1125]; exact e1126) rfl (DOk_fx O1091 ((Fx.rf (wr := [804]) (h := h1088)).pI e1097 hh1098 rfl) e1097 (by rw [e1123]; exact e1124) rfl (DOk_fx O1086 F1092 e1102 (by rw [e1121]; exact e1122) rfl (DOk_fx O884 ((Fx.rf (wr := [805]) (h := h883)).pJ e885 hh1084 rfl) e885 (by rw [e1119]; exact e1120) rfl (DOk_fx O880 ((Fx.rf (wr := [805]) (h := h879)).pJ e881 hh882 rfl) e881 (by rw [e1117]; exact e1118) rfl (DOk_fx O876 ((Fx.rf (wr := [806]) (h := h875)).pR e877 hh878 rfl) e877 (by rw [e1115]; exact e1116) rfl (DOk_fx O8 ((Fx.rf (wr := [803]) (h := h4)).pI e12 hh874 rfl) e12 (by rw [e1113]; exact e1114) rfl (DOk_fx O F9 ta0 (by rw [e2]; exact t3) rfl P_RI0.2))))))))
                        exact g_vret C hr ⟨O1107, (((((((((Fx.rf (wr := wr_k0_advance)).call F9 rfl).pI e12 hh874 rfl).pR e877 hh878 rfl).pJ e881 hh882 rfl).pJ e885 hh1084 rfl).call F1092 rfl).pI e1097 hh1098 rfl).pI e1101 hh1105 rfl), (by unfold RInv; rw [e1108, e1109, e1110, e1111]; exact ⟨e1112, p1127, by omega, (Or.inl rfl)⟩)⟩ (by decide) (by decide) dX3_advance_404
                      · have f1128 : (0 : Int) ≤ r1087 ∧ r1087 ≤ (2147483647 : Int) := r_ge f1093 (il 0) q1095 (by decide) (by decide)
                        refine g_iconst C dX3_advance_386 ?_
                        refine g_goto C 391 (by decide) dX3_advance_387 ?_
                        have e1129 : Tg h1088 a0 = 4 := (fxT F1092 ((pJT hh1084).trans e885))
                        refine gp_I C fk_LandSurvey_Reader_49 pk_LandSurvey_Reader_4 rfl e1129 (iw (il 3) (by decide) (by decide)) (nf_i _) dX3_advance_391 (fun h1131 hh1130 => ?_)
                        have O1132 := O1091.pI e1129 hh1130 rI_4_4 (iw (il 3) (by decide) (by decide)) nofun
                        refine g_aload_n C rfl 1 rfl dX3_advance_394 ?_
                        refine g_dup C rfl dX3_advance_395 ?_
                        have e1133 : Tg h1131 a0 = 4 := ((pIT hh1130).trans e1129)
                        have e1134 : Tg h1085 a0 = 4 := ((pJT hh1084).trans e885)
                        have e1135 : Iv h1131 a0 2 = v10 := ((pI_j hh1130 (by decide)).trans ((fxI F1092 e1134 rfl).trans ((pJI hh1084).trans e886)))
                        refine gf_I C fk_LandSurvey_Reader_30 rfl e1133 e1135 dX3_advance_396 ?_
                        refine g_iconst C dX3_advance_399 ?_
                        have f1136 : (1 : Int) ≤ (v10 + 1) ∧ (v10 + 1) ≤ (1500 : Int) := ia_add f855 (il 1) (by decide) (by decide)
                        refine g_iadd C dX3_advance_400 ?_
                        refine gp_I C fk_LandSurvey_Reader_30 pk_LandSurvey_Reader_2 rfl e1133 (iw f1136 (by decide) (by decide)) (nf_i _) dX3_advance_401 (fun h1138 hh1137 => ?_)
                        have O1139 := O1132.pI e1133 hh1137 rI_4_2 (iw f1136 (by decide) (by decide)) nofun
                        have e1140 : Rv h1138 a0 13 = v1 := ((pIR hh1137).trans ((pIR hh1130).trans ((fxR F1092 e1134 rfl).trans ((pJR hh1084).trans ((pJR hh882).trans ((pR_j hh878 (by decide)).trans ((pIR hh874).trans ((fxR F9 ta0 rfl).trans e2))))))))
                        have e1141 : Iv h1138 a0 4 = 3 := ((pI_j hh1137 (by decide)).trans (pI_e hh1130))
                        have e1142 : Jv h1138 a0 5 = v861 := ((pIJ hh1137).trans ((pIJ hh1130).trans ((fxJ F1092 e1134 rfl).trans (pJ_e hh1084))))
                        have e1143 : Rv h1138 a0 6 = 0 := ((pIR hh1137).trans ((pIR hh1130).trans ((fxR F1092 e1134 rfl).trans ((pJR hh1084).trans ((pJR hh882).trans (pR_e hh878))))))
                        have e1144 : Tg h1138 v1 = 2006 := ((pIT hh1137).trans ((pIT hh1130).trans (fxT F1092 ((pJT hh1084).trans ((pJT hh882).trans ((pRT hh878).trans ((pIT hh874).trans (fxT F9 t3))))))))
                        have e1145 : Rv h4 a0 13 = v1 := ((fxR F9 ta0 rfl).trans e2)
                        have e1146 : Tg h4 v1 = 2006 := (fxT F9 t3)
                        have e1147 : Rv h875 a0 13 = v1 := ((pIR hh874).trans e1145)
                        have e1148 : Tg h875 v1 = 2006 := ((pIT hh874).trans e1146)
                        have e1149 : Rv h879 a0 13 = v1 := ((pR_j hh878 (by decide)).trans e1147)
                        have e1150 : Tg h879 v1 = 2006 := ((pRT hh878).trans e1148)
                        have e1151 : Rv h883 a0 13 = v1 := ((pJR hh882).trans e1149)
                        have e1152 : Tg h883 v1 = 2006 := ((pJT hh882).trans e1150)
                        have e1153 : Rv h1085 a0 13 = v1 := ((pJR hh1084).trans e1151)
                        have e1154 : Tg h1085 v1 = 2006 := ((pJT hh1084).trans e1152)
                        have e1155 : Rv h1088 a0 13 = v1 := ((fxR F1092 e1134 rfl).trans e1153)
                        have e1156 : Tg h1088 v1 = 2006 := (fxT F1092 e1154)
                        have e1157 : Rv h1131 a0 13 = v1 := ((pIR hh1130).trans e1155)
                        have e1158 : Tg h1131 v1 = 2006 := ((pIT hh1130).trans e1156)
                        have p1159 := (DOk_fx O1132 ((Fx.rf (wr := [802]) (h := h1131)).pI e1133 hh1137 rfl) e1133 (by rw [e1157]; exact e1158) rfl (DOk_fx O1091 ((Fx.rf (wr := [804]) (h := h1088)).pI e1129 hh1130 rfl) e1129 (by rw [e1155]; exact e1156) rfl (DOk_fx O1086 F1092 e1134 (by rw [e1153]; exact e1154) rfl (DOk_fx O884 ((Fx.rf (wr := [805]) (h := h883)).pJ e885 hh1084 rfl) e885 (by rw [e1151]; exact e1152) rfl (DOk_fx O880 ((Fx.rf (wr := [805]) (h := h879)).pJ e881 hh882 rfl) e881 (by rw [e1149]; exact e1150) rfl (DOk_fx O876 ((Fx.rf (wr := [806]) (h := h875)).pR e877 hh878 rfl) e877 (by rw [e1147]; exact e1148) rfl (DOk_fx O8 ((Fx.rf (wr := [803]) (h := h4)).pI e12 hh874 rfl) e12 (by rw [e1145]; exact e1146) rfl (DOk_fx O F9 ta0 (by rw [e2]; exact t3) rfl P_RI0.2))))))))
                        exact g_vret C hr ⟨O1139, (((((((((Fx.rf (wr := wr_k0_advance)).call F9 rfl).pI e12 hh874 rfl).pR e877 hh878 rfl).pJ e881 hh882 rfl).pJ e885 hh1084 rfl).call F1092 rfl).pI e1129 hh1130 rfl).pI e1133 hh1137 rfl), (by unfold RInv; rw [e1140, e1141, e1142, e1143]; exact ⟨e1144, p1159, by omega, (Or.inl rfl)⟩)⟩ (by decide) (by decide) dX3_advance_404
                    · have f1160 : (48 : Int) ≤ v861 ∧ v861 ≤ (57 : Int) := r_le f1080 (il 57) q1082 (by decide) (by decide)
                      refine GW.sub [1, 0] rfl ?_
                      -- loop at 267
                      have L1162 : ∀ (μ : Nat) (h1161 : Hp), (1500 - Iv h1161 a0 2).toNat = μ → Okh h1161 → Fx [802, 805] h883 h1161 → (0 ≤ (Iv h1161 a0 2 - Iv h1161 a0 3) ∧ ((Iv h1161 a0 2 - Iv h1161 a0 3) ≤ 4 → 0 ≤ Jv h1161 a0 5) ∧ ((Iv h1161 a0 2 - Iv h1161 a0 3) ≤ 0 → Jv h1161 a0 5 ≤ 0) ∧ ((Iv h1161 a0 2 - Iv h1161 a0 3) ≤ 1 → Jv h1161 a0 5 ≤ 9) ∧ ((Iv h1161 a0 2 - Iv h1161 a0 3) ≤ 2 → Jv h1161 a0 5 ≤ 99) ∧ ((Iv h1161 a0 2 - Iv h1161 a0 3) ≤ 3 → Jv h1161 a0 5 ≤ 999) ∧ ((Iv h1161 a0 2 - Iv h1161 a0 3) ≤ 4 → Jv h1161 a0 5 ≤ 9999)) → GW p l e (rmm 4 91 0 0) s m (List.map toV [.inr (.inr a0)]).toArray below meth c D cy z0 2 (MQ below (QV D cy z0 (fun h1 => Okh h1 ∧ Fx wr_k0_advance h h1 ∧ (RInv w h1 a0))) (List.map toV [.inr (.inr a0)]).toArray s 0 0 (Aof z0)) 267 [(0, .inr (.inr a0)), (1, .inl v861)] [] h1161 0 0 := by
                        intro μ
                        induction μ using Nat.strongRecOn with
                        | ind μ ih1163 =>
                          intro h1161 hm1164 O1165 F1166 p1167
                          obtain ⟨v1168, e1169⟩ : ∃ z, Iv h1161 a0 2 = z := ⟨_, rfl⟩
                          have e1170 : Tg h1161 a0 = 4 := (fxT F1166 e885)
                          have f1171 := ok_I O1165 e1170 rI_4_2 e1169
                          obtain ⟨v1172, e1173⟩ : ∃ z, Jv h1161 a0 5 = z := ⟨_, rfl⟩
                          have f1174 := inL_J O1165 e1173
                          have e1175 : Iv h1161 a0 3 = v10 := ((fxI F1166 e885 rfl).trans ((pJI hh882).trans ((pRI hh878).trans (pI_e hh874))))
                          rw [e1169, e1175, e1173] at p1167
                          refine g_aload_n C rfl 0 rfl dX3_advance_267 ?_
                          refine gf_I C fk_LandSurvey_Reader_30 rfl e1170 e1169 dX3_advance_268 ?_
                          refine g_aload_n C rfl 0 rfl dX3_advance_271 ?_
                          have e1176 : Iv h1161 a0 1 = v14 := ((fxI F1166 e885 rfl).trans e887)
                          refine gf_I C fk_LandSurvey_Reader_19 rfl e1170 e1176 dX3_advance_272 ?_
                          refine g_icmp_ge C (iw f1171 (by decide) (by decide)) (iw f856 (by decide) (by decide)) 345 (by decide) dX3_advance_275 (fun q1177 => ?_) (fun q1178 => ?_)
                          · have f1179 : (1 : Int) ≤ v1168 ∧ v1168 ≤ (1500 : Int) := r_ge f1171 f856 q1177 (by decide) (by decide)
                            refine g_aload_n C rfl 0 rfl dX3_advance_345 ?_
                            refine g_aload_n C rfl 0 rfl dX3_advance_346 ?_
                            refine gf_I C fk_LandSurvey_Reader_30 rfl e1170 e1169 dX3_advance_347 ?_
                            refine g_aload_n C rfl 0 rfl dX3_advance_350 ?_
                            refine gf_I C fk_LandSurvey_Reader_66 rfl e1170 e1175 dX3_advance_351 ?_
                            have f1180 : (-1498 : Int) ≤ (v1168 - v10) ∧ (v1168 - v10) ≤ (1500 : Int) := ia_sub f1179 f855 (by decide) (by decide)
                            refine g_isub C dX3_advance_354 ?_
                            refine g_iconst C dX3_advance_355 ?_
                            refine g_icmp_gt C (iw f1180 (by decide) (by decide)) (iw (il 4) (by decide) (by decide)) 363 (by decide) dX3_advance_356 (fun q1181 => ?_) (fun q1182 => ?_)
                            · have f1183 : (5 : Int) ≤ (v1168 - v10) ∧ (v1168 - v10) ≤ (1500 : Int) := r_gt f1180 (il 4) q1181 (by decide) (by decide)
                              refine g_iconst C dX3_advance_363 ?_
                              refine gp_I C fk_LandSurvey_Reader_49 pk_LandSurvey_Reader_4 rfl e1170 (iw (il 4) (by decide) (by decide)) (nf_i _) dX3_advance_364 (fun h1185 hh1184 => ?_)
                              have O1186 := O1165.pI e1170 hh1184 rI_4_4 (iw (il 4) (by decide) (by decide)) nofun
                              refine g_goto C 404 (by decide) dX3_advance_367 ?_
                              have e1187 : Rv h1185 a0 13 = v1 := ((pIR hh1184).trans ((fxR F1166 e885 rfl).trans ((pJR hh882).trans ((pR_j hh878 (by decide)).trans ((pIR hh874).trans ((fxR F9 ta0 rfl).trans e2))))))
                              have e1188 : Jv h1185 a0 5 = v1172 := ((pIJ hh1184).trans e1173)
                              have e1189 : Rv h1185 a0 6 = 0 := ((pIR hh1184).trans ((fxR F1166 e885 rfl).trans ((pJR hh882).trans (pR_e hh878))))
                              have e1190 : Tg h1185 v1 = 2006 := ((pIT hh1184).trans (fxT F1166 ((pJT hh882).trans ((pRT hh878).trans ((pIT hh874).trans (fxT F9 t3))))))
                              have e1191 : Rv h4 a0 13 = v1 := ((fxR F9 ta0 rfl).trans e2)
                              have e1192 : Tg h4 v1 = 2006 := (fxT F9 t3)
                              have e1193 : Rv h875 a0 13 = v1 := ((pIR hh874).trans e1191)
                              have e1194 : Tg h875 v1 = 2006 := ((pIT hh874).trans e1192)
                              have e1195 : Rv h879 a0 13 = v1 := ((pR_j hh878 (by decide)).trans e1193)
                              have e1196 : Tg h879 v1 = 2006 := ((pRT hh878).trans e1194)
                              have e1197 : Rv h883 a0 13 = v1 := ((pJR hh882).trans e1195)
                              have e1198 : Tg h883 v1 = 2006 := ((pJT hh882).trans e1196)
                              have e1199 : Rv h1161 a0 13 = v1 := ((fxR F1166 e885 rfl).trans e1197)
                              have e1200 : Tg h1161 v1 = 2006 := (fxT F1166 e1198)
                              have p1201 := (DOk_fx O1165 ((Fx.rf (wr := [804]) (h := h1161)).pI e1170 hh1184 rfl) e1170 (by rw [e1199]; exact e1200) rfl (DOk_fx O884 F1166 e885 (by rw [e1197]; exact e1198) rfl (DOk_fx O880 ((Fx.rf (wr := [805]) (h := h879)).pJ e881 hh882 rfl) e881 (by rw [e1195]; exact e1196) rfl (DOk_fx O876 ((Fx.rf (wr := [806]) (h := h875)).pR e877 hh878 rfl) e877 (by rw [e1193]; exact e1194) rfl (DOk_fx O8 ((Fx.rf (wr := [803]) (h := h4)).pI e12 hh874 rfl) e12 (by rw [e1191]; exact e1192) rfl (DOk_fx O F9 ta0 (by rw [e2]; exact t3) rfl P_RI0.2))))))
                              exact g_vret C hr ⟨O1186, (((((((Fx.rf (wr := wr_k0_advance)).call F9 rfl).pI e12 hh874 rfl).pR e877 hh878 rfl).pJ e881 hh882 rfl).call F1166 rfl).pI e1170 hh1184 rfl), (by unfold RInv; rw [e1187, (pI_e hh1184), e1188, e1189]; exact ⟨e1190, p1201, by omega, (Or.inl rfl)⟩)⟩ (by decide) (by decide) dX3_advance_404
                            · have f1202 : (-1498 : Int) ≤ (v1168 - v10) ∧ (v1168 - v10) ≤ (4 : Int) := r_le f1180 (il 4) q1182 (by decide) (by decide)
                              refine g_iconst C dX3_advance_359 ?_
                              refine g_goto C 364 (by decide) dX3_advance_360 ?_
                              refine gp_I C fk_LandSurvey_Reader_49 pk_LandSurvey_Reader_4 rfl e1170 (iw (il 2) (by decide) (by decide)) (nf_i _) dX3_advance_364 (fun h1204 hh1203 => ?_)
                              have O1205 := O1165.pI e1170 hh1203 rI_4_4 (iw (il 2) (by decide) (by decide)) nofun
                              refine g_goto C 404 (by decide) dX3_advance_367 ?_
                              have e1206 : Rv h1204 a0 13 = v1 := ((pIR hh1203).trans ((fxR F1166 e885 rfl).trans ((pJR hh882).trans ((pR_j hh878 (by decide)).trans ((pIR hh874).trans ((fxR F9 ta0 rfl).trans e2))))))
                              have e1207 : Jv h1204 a0 5 = v1172 := ((pIJ hh1203).trans e1173)
                              have e1208 : Rv h1204 a0 6 = 0 := ((pIR hh1203).trans ((fxR F1166 e885 rfl).trans ((pJR hh882).trans (pR_e hh878))))
                              have e1209 : Tg h1204 v1 = 2006 := ((pIT hh1203).trans (fxT F1166 ((pJT hh882).trans ((pRT hh878).trans ((pIT hh874).trans (fxT F9 t3))))))
                              have e1210 : Rv h4 a0 13 = v1 := ((fxR F9 ta0 rfl).trans e2)
                              have e1211 : Tg h4 v1 = 2006 := (fxT F9 t3)
                              have e1212 : Rv h875 a0 13 = v1 := ((pIR hh874).trans e1210)
                              have e1213 : Tg h875 v1 = 2006 := ((pIT hh874).trans e1211)
                              have e1214 : Rv h879 a0 13 = v1 := ((pR_j hh878 (by decide)).trans e1212)
                              have e1215 : Tg h879 v1 = 2006 := ((pRT hh878).trans e1213)
                              have e1216 : Rv h883 a0 13 = v1 := ((pJR hh882).trans e1214)
                              have e1217 : Tg h883 v1 = 2006 := ((pJT hh882).trans e1215)
                              have e1218 : Rv h1161 a0 13 = v1 := ((fxR F1166 e885 rfl).trans e1216)
                              have e1219 : Tg h1161 v1 = 2006 := (fxT F1166 e1217)
                              have p1220 := (DOk_fx O1165 ((Fx.rf (wr := [804]) (h := h1161)).pI e1170 hh1203 rfl) e1170 (by rw [e1218]; exact e1219) rfl (DOk_fx O884 F1166 e885 (by rw [e1216]; exact e1217) rfl (DOk_fx O880 ((Fx.rf (wr := [805]) (h := h879)).pJ e881 hh882 rfl) e881 (by rw [e1214]; exact e1215) rfl (DOk_fx O876 ((Fx.rf (wr := [806]) (h := h875)).pR e877 hh878 rfl) e877 (by rw [e1212]; exact e1213) rfl (DOk_fx O8 ((Fx.rf (wr := [803]) (h := h4)).pI e12 hh874 rfl) e12 (by rw [e1210]; exact e1211) rfl (DOk_fx O F9 ta0 (by rw [e2]; exact t3) rfl P_RI0.2))))))
                              exact g_vret C hr ⟨O1205, (((((((Fx.rf (wr := wr_k0_advance)).call F9 rfl).pI e12 hh874 rfl).pR e877 hh878 rfl).pJ e881 hh882 rfl).call F1166 rfl).pI e1170 hh1203 rfl), (by unfold RInv; rw [e1206, (pI_e hh1203), e1207, e1208]; exact ⟨e1209, p1220, by omega, (Or.inl rfl)⟩)⟩ (by decide) (by decide) dX3_advance_404
                          · have f1221 : (0 : Int) ≤ v1168 ∧ v1168 ≤ (1499 : Int) := r_lt f1171 f856 q1178 (by decide) (by decide)
                            refine g_aload_n C rfl 0 rfl dX3_advance_278 ?_
                            have e1222 : Rv h1161 a0 0 = v857 := ((fxR F1166 e885 rfl).trans e992)
                            refine gf_R C fk_LandSurvey_Reader_9 rfl e1170 e1222 dX3_advance_279 ?_
                            refine g_aload_n C rfl 0 rfl dX3_advance_282 ?_
                            refine gf_I C fk_LandSurvey_Reader_30 rfl e1170 e1169 dX3_advance_283 ?_
                            have e1223 : Tg h1161 v857 = 19103 := (fxT F1166 e993)
                            have e1224 : Ln h1161 v857 = 1500 := ((fxL F1166 e993).trans e994)
                            obtain ⟨v1225, e1226⟩ : ∃ z, Iv h1161 v857 v1168.toNat = z := ⟨_, rfl⟩
                            have f1227 := ok_Ia O1165 e1223 ar_19103 rI_19103_0 e1226
                            refine g_cald C e1223 rfl e1224 (ix f1221 (by decide) (by decide)) e1226 dX3_advance_286 ?_
                            refine g_bipush C (by decide) dX3_advance_287 ?_
                            refine g_icmp_lt C (iw f1227 (by decide) (by decide)) (iw (il 48) (by decide) (by decide)) 345 (by decide) dX3_advance_289 (fun q1228 => ?_) (fun q1229 => ?_)
                            · have f1230 : (0 : Int) ≤ v1225 ∧ v1225 ≤ (47 : Int) := r_lt f1227 (il 48) q1228 (by decide) (by decide)
                              refine g_aload_n C rfl 0 rfl dX3_advance_345 ?_
                              refine g_aload_n C rfl 0 rfl dX3_advance_346 ?_
                              refine gf_I C fk_LandSurvey_Reader_30 rfl e1170 e1169 dX3_advance_347 ?_
                              refine g_aload_n C rfl 0 rfl dX3_advance_350 ?_
                              refine gf_I C fk_LandSurvey_Reader_66 rfl e1170 e1175 dX3_advance_351 ?_
                              have f1231 : (-1499 : Int) ≤ (v1168 - v10) ∧ (v1168 - v10) ≤ (1499 : Int) := ia_sub f1221 f855 (by decide) (by decide)
                              refine g_isub C dX3_advance_354 ?_
                              refine g_iconst C dX3_advance_355 ?_
                              refine g_icmp_gt C (iw f1231 (by decide) (by decide)) (iw (il 4) (by decide) (by decide)) 363 (by decide) dX3_advance_356 (fun q1232 => ?_) (fun q1233 => ?_)
                              · have f1234 : (5 : Int) ≤ (v1168 - v10) ∧ (v1168 - v10) ≤ (1499 : Int) := r_gt f1231 (il 4) q1232 (by decide) (by decide)
                                refine g_iconst C dX3_advance_363 ?_
                                refine gp_I C fk_LandSurvey_Reader_49 pk_LandSurvey_Reader_4 rfl e1170 (iw (il 4) (by decide) (by decide)) (nf_i _) dX3_advance_364 (fun h1236 hh1235 => ?_)
                                have O1237 := O1165.pI e1170 hh1235 rI_4_4 (iw (il 4) (by decide) (by decide)) nofun
                                refine g_goto C 404 (by decide) dX3_advance_367 ?_
                                have e1238 : Rv h1236 a0 13 = v1 := ((pIR hh1235).trans ((fxR F1166 e885 rfl).trans ((pJR hh882).trans ((pR_j hh878 (by decide)).trans ((pIR hh874).trans ((fxR F9 ta0 rfl).trans e2))))))
                                have e1239 : Jv h1236 a0 5 = v1172 := ((pIJ hh1235).trans e1173)
                                have e1240 : Rv h1236 a0 6 = 0 := ((pIR hh1235).trans ((fxR F1166 e885 rfl).trans ((pJR hh882).trans (pR_e hh878))))
                                have e1241 : Tg h1236 v1 = 2006 := ((pIT hh1235).trans (fxT F1166 ((pJT hh882).trans ((pRT hh878).trans ((pIT hh874).trans (fxT F9 t3))))))
                                have e1242 : Rv h4 a0 13 = v1 := ((fxR F9 ta0 rfl).trans e2)
                                have e1243 : Tg h4 v1 = 2006 := (fxT F9 t3)
                                have e1244 : Rv h875 a0 13 = v1 := ((pIR hh874).trans e1242)
                                have e1245 : Tg h875 v1 = 2006 := ((pIT hh874).trans e1243)
                                have e1246 : Rv h879 a0 13 = v1 := ((pR_j hh878 (by decide)).trans e1244)
                                have e1247 : Tg h879 v1 = 2006 := ((pRT hh878).trans e1245)
                                have e1248 : Rv h883 a0 13 = v1 := ((pJR hh882).trans e1246)
                                have e1249 : Tg h883 v1 = 2006 := ((pJT hh882).trans e1247)
                                have e1250 : Rv h1161 a0 13 = v1 := ((fxR F1166 e885 rfl).trans e1248)
                                have e1251 : Tg h1161 v1 = 2006 := (fxT F1166 e1249)
                                have p1252 := (DOk_fx O1165 ((Fx.rf (wr := [804]) (h := h1161)).pI e1170 hh1235 rfl) e1170 (by rw [e1250]; exact e1251) rfl (DOk_fx O884 F1166 e885 (by rw [e1248]; exact e1249) rfl (DOk_fx O880 ((Fx.rf (wr := [805]) (h := h879)).pJ e881 hh882 rfl) e881 (by rw [e1246]; exact e1247) rfl (DOk_fx O876 ((Fx.rf (wr := [806]) (h := h875)).pR e877 hh878 rfl) e877 (by rw [e1244]; exact e1245) rfl (DOk_fx O8 ((Fx.rf (wr := [803]) (h := h4)).pI e12 hh874 rfl) e12 (by rw [e1242]; exact e1243) rfl (DOk_fx O F9 ta0 (by rw [e2]; exact t3) rfl P_RI0.2))))))
                                exact g_vret C hr ⟨O1237, (((((((Fx.rf (wr := wr_k0_advance)).call F9 rfl).pI e12 hh874 rfl).pR e877 hh878 rfl).pJ e881 hh882 rfl).call F1166 rfl).pI e1170 hh1235 rfl), (by unfold RInv; rw [e1238, (pI_e hh1235), e1239, e1240]; exact ⟨e1241, p1252, by omega, (Or.inl rfl)⟩)⟩ (by decide) (by decide) dX3_advance_404
                              · have f1253 : (-1499 : Int) ≤ (v1168 - v10) ∧ (v1168 - v10) ≤ (4 : Int) := r_le f1231 (il 4) q1233 (by decide) (by decide)
                                refine g_iconst C dX3_advance_359 ?_
                                refine g_goto C 364 (by decide) dX3_advance_360 ?_
                                refine gp_I C fk_LandSurvey_Reader_49 pk_LandSurvey_Reader_4 rfl e1170 (iw (il 2) (by decide) (by decide)) (nf_i _) dX3_advance_364 (fun h1255 hh1254 => ?_)
                                have O1256 := O1165.pI e1170 hh1254 rI_4_4 (iw (il 2) (by decide) (by decide)) nofun
                                refine g_goto C 404 (by decide) dX3_advance_367 ?_
                                have e1257 : Rv h1255 a0 13 = v1 := ((pIR hh1254).trans ((fxR F1166 e885 rfl).trans ((pJR hh882).trans ((pR_j hh878 (by decide)).trans ((pIR hh874).trans ((fxR F9 ta0 rfl).trans e2))))))
                                have e1258 : Jv h1255 a0 5 = v1172 := ((pIJ hh1254).trans e1173)
                                have e1259 : Rv h1255 a0 6 = 0 := ((pIR hh1254).trans ((fxR F1166 e885 rfl).trans ((pJR hh882).trans (pR_e hh878))))
                                have e1260 : Tg h1255 v1 = 2006 := ((pIT hh1254).trans (fxT F1166 ((pJT hh882).trans ((pRT hh878).trans ((pIT hh874).trans (fxT F9 t3))))))
                                have e1261 : Rv h4 a0 13 = v1 := ((fxR F9 ta0 rfl).trans e2)
                                have e1262 : Tg h4 v1 = 2006 := (fxT F9 t3)
                                have e1263 : Rv h875 a0 13 = v1 := ((pIR hh874).trans e1261)
                                have e1264 : Tg h875 v1 = 2006 := ((pIT hh874).trans e1262)
                                have e1265 : Rv h879 a0 13 = v1 := ((pR_j hh878 (by decide)).trans e1263)
                                have e1266 : Tg h879 v1 = 2006 := ((pRT hh878).trans e1264)
                                have e1267 : Rv h883 a0 13 = v1 := ((pJR hh882).trans e1265)
                                have e1268 : Tg h883 v1 = 2006 := ((pJT hh882).trans e1266)
                                have e1269 : Rv h1161 a0 13 = v1 := ((fxR F1166 e885 rfl).trans e1267)
                                have e1270 : Tg h1161 v1 = 2006 := (fxT F1166 e1268)
                                have p1271 := (DOk_fx O1165 ((Fx.rf (wr := [804]) (h := h1161)).pI e1170 hh1254 rfl) e1170 (by rw [e1269]; exact e1270) rfl (DOk_fx O884 F1166 e885 (by rw [e1267]; exact e1268) rfl (DOk_fx O880 ((Fx.rf (wr := [805]) (h := h879)).pJ e881 hh882 rfl) e881 (by rw [e1265]; exact e1266) rfl (DOk_fx O876 ((Fx.rf (wr := [806]) (h := h875)).pR e877 hh878 rfl) e877 (by rw [e1263]; exact e1264) rfl (DOk_fx O8 ((Fx.rf (wr := [803]) (h := h4)).pI e12 hh874 rfl) e12 (by rw [e1261]; exact e1262) rfl (DOk_fx O F9 ta0 (by rw [e2]; exact t3) rfl P_RI0.2))))))
                                exact g_vret C hr ⟨O1256, (((((((Fx.rf (wr := wr_k0_advance)).call F9 rfl).pI e12 hh874 rfl).pR e877 hh878 rfl).pJ e881 hh882 rfl).call F1166 rfl).pI e1170 hh1254 rfl), (by unfold RInv; rw [e1257, (pI_e hh1254), e1258, e1259]; exact ⟨e1260, p1271, by omega, (Or.inl rfl)⟩)⟩ (by decide) (by decide) dX3_advance_404
                            · have f1272 : (48 : Int) ≤ v1225 ∧ v1225 ≤ (126 : Int) := r_ge f1227 (il 48) q1229 (by decide) (by decide)
                              refine g_aload_n C rfl 0 rfl dX3_advance_292 ?_
                              refine gf_R C fk_LandSurvey_Reader_9 rfl e1170 e1222 dX3_advance_293 ?_
                              refine g_aload_n C rfl 0 rfl dX3_advance_296 ?_
                              refine gf_I C fk_LandSurvey_Reader_30 rfl e1170 e1169 dX3_advance_297 ?_
                              refine g_cald C e1223 rfl e1224 (ix f1221 (by decide) (by decide)) e1226 dX3_advance_300 ?_
                              refine g_bipush C (by decide) dX3_advance_301 ?_
                              refine g_icmp_gt C (iw f1272 (by decide) (by decide)) (iw (il 57) (by decide) (by decide)) 345 (by decide) dX3_advance_303 (fun q1273 => ?_) (fun q1274 => ?_)
                              · have f1275 : (58 : Int) ≤ v1225 ∧ v1225 ≤ (126 : Int) := r_gt f1272 (il 57) q1273 (by decide) (by decide)
                                refine g_aload_n C rfl 0 rfl dX3_advance_345 ?_
                                refine g_aload_n C rfl 0 rfl dX3_advance_346 ?_
                                refine gf_I C fk_LandSurvey_Reader_30 rfl e1170 e1169 dX3_advance_347 ?_
                                refine g_aload_n C rfl 0 rfl dX3_advance_350 ?_
                                refine gf_I C fk_LandSurvey_Reader_66 rfl e1170 e1175 dX3_advance_351 ?_
                                have f1276 : (-1499 : Int) ≤ (v1168 - v10) ∧ (v1168 - v10) ≤ (1499 : Int) := ia_sub f1221 f855 (by decide) (by decide)
                                refine g_isub C dX3_advance_354 ?_
                                refine g_iconst C dX3_advance_355 ?_
                                refine g_icmp_gt C (iw f1276 (by decide) (by decide)) (iw (il 4) (by decide) (by decide)) 363 (by decide) dX3_advance_356 (fun q1277 => ?_) (fun q1278 => ?_)
                                · have f1279 : (5 : Int) ≤ (v1168 - v10) ∧ (v1168 - v10) ≤ (1499 : Int) := r_gt f1276 (il 4) q1277 (by decide) (by decide)
                                  refine g_iconst C dX3_advance_363 ?_
                                  refine gp_I C fk_LandSurvey_Reader_49 pk_LandSurvey_Reader_4 rfl e1170 (iw (il 4) (by decide) (by decide)) (nf_i _) dX3_advance_364 (fun h1281 hh1280 => ?_)
                                  have O1282 := O1165.pI e1170 hh1280 rI_4_4 (iw (il 4) (by decide) (by decide)) nofun
                                  refine g_goto C 404 (by decide) dX3_advance_367 ?_
                                  have e1283 : Rv h1281 a0 13 = v1 := ((pIR hh1280).trans ((fxR F1166 e885 rfl).trans ((pJR hh882).trans ((pR_j hh878 (by decide)).trans ((pIR hh874).trans ((fxR F9 ta0 rfl).trans e2))))))
                                  have e1284 : Jv h1281 a0 5 = v1172 := ((pIJ hh1280).trans e1173)
                                  have e1285 : Rv h1281 a0 6 = 0 := ((pIR hh1280).trans ((fxR F1166 e885 rfl).trans ((pJR hh882).trans (pR_e hh878))))
                                  have e1286 : Tg h1281 v1 = 2006 := ((pIT hh1280).trans (fxT F1166 ((pJT hh882).trans ((pRT hh878).trans ((pIT hh874).trans (fxT F9 t3))))))
                                  have e1287 : Rv h4 a0 13 = v1 := ((fxR F9 ta0 rfl).trans e2)
                                  have e1288 : Tg h4 v1 = 2006 := (fxT F9 t3)
                                  have e1289 : Rv h875 a0 13 = v1 := ((pIR hh874).trans e1287)
                                  have e1290 : Tg h875 v1 = 2006 := ((pIT hh874).trans e1288)
                                  have e1291 : Rv h879 a0 13 = v1 := ((pR_j hh878 (by decide)).trans e1289)
                                  have e1292 : Tg h879 v1 = 2006 := ((pRT hh878).trans e1290)
                                  have e1293 : Rv h883 a0 13 = v1 := ((pJR hh882).trans e1291)
                                  have e1294 : Tg h883 v1 = 2006 := ((pJT hh882).trans e1292)
                                  have e1295 : Rv h1161 a0 13 = v1 := ((fxR F1166 e885 rfl).trans e1293)
                                  have e1296 : Tg h1161 v1 = 2006 := (fxT F1166 e1294)
                                  have p1297 := (DOk_fx O1165 ((Fx.rf (wr := [804]) (h := h1161)).pI e1170 hh1280 rfl) e1170 (by rw [e1295]; exact e1296) rfl (DOk_fx O884 F1166 e885 (by rw [e1293]; exact e1294) rfl (DOk_fx O880 ((Fx.rf (wr := [805]) (h := h879)).pJ e881 hh882 rfl) e881 (by rw [e1291]; exact e1292) rfl (DOk_fx O876 ((Fx.rf (wr := [806]) (h := h875)).pR e877 hh878 rfl) e877 (by rw [e1289]; exact e1290) rfl (DOk_fx O8 ((Fx.rf (wr := [803]) (h := h4)).pI e12 hh874 rfl) e12 (by rw [e1287]; exact e1288) rfl (DOk_fx O F9 ta0 (by rw [e2]; exact t3) rfl P_RI0.2))))))
                                  exact g_vret C hr ⟨O1282, (((((((Fx.rf (wr := wr_k0_advance)).call F9 rfl).pI e12 hh874 rfl).pR e877 hh878 rfl).pJ e881 hh882 rfl).call F1166 rfl).pI e1170 hh1280 rfl), (by unfold RInv; rw [e1283, (pI_e hh1280), e1284, e1285]; exact ⟨e1286, p1297, by omega, (Or.inl rfl)⟩)⟩ (by decide) (by decide) dX3_advance_404
                                · have f1298 : (-1499 : Int) ≤ (v1168 - v10) ∧ (v1168 - v10) ≤ (4 : Int) := r_le f1276 (il 4) q1278 (by decide) (by decide)
                                  refine g_iconst C dX3_advance_359 ?_
                                  refine g_goto C 364 (by decide) dX3_advance_360 ?_
                                  refine gp_I C fk_LandSurvey_Reader_49 pk_LandSurvey_Reader_4 rfl e1170 (iw (il 2) (by decide) (by decide)) (nf_i _) dX3_advance_364 (fun h1300 hh1299 => ?_)
                                  have O1301 := O1165.pI e1170 hh1299 rI_4_4 (iw (il 2) (by decide) (by decide)) nofun
                                  refine g_goto C 404 (by decide) dX3_advance_367 ?_
                                  have e1302 : Rv h1300 a0 13 = v1 := ((pIR hh1299).trans ((fxR F1166 e885 rfl).trans ((pJR hh882).trans ((pR_j hh878 (by decide)).trans ((pIR hh874).trans ((fxR F9 ta0 rfl).trans e2))))))
                                  have e1303 : Jv h1300 a0 5 = v1172 := ((pIJ hh1299).trans e1173)
                                  have e1304 : Rv h1300 a0 6 = 0 := ((pIR hh1299).trans ((fxR F1166 e885 rfl).trans ((pJR hh882).trans (pR_e hh878))))
                                  have e1305 : Tg h1300 v1 = 2006 := ((pIT hh1299).trans (fxT F1166 ((pJT hh882).trans ((pRT hh878).trans ((pIT hh874).trans (fxT F9 t3))))))
                                  have e1306 : Rv h4 a0 13 = v1 := ((fxR F9 ta0 rfl).trans e2)
                                  have e1307 : Tg h4 v1 = 2006 := (fxT F9 t3)
                                  have e1308 : Rv h875 a0 13 = v1 := ((pIR hh874).trans e1306)
                                  have e1309 : Tg h875 v1 = 2006 := ((pIT hh874).trans e1307)
                                  have e1310 : Rv h879 a0 13 = v1 := ((pR_j hh878 (by decide)).trans e1308)
                                  have e1311 : Tg h879 v1 = 2006 := ((pRT hh878).trans e1309)
                                  have e1312 : Rv h883 a0 13 = v1 := ((pJR hh882).trans e1310)
                                  have e1313 : Tg h883 v1 = 2006 := ((pJT hh882).trans e1311)
                                  have e1314 : Rv h1161 a0 13 = v1 := ((fxR F1166 e885 rfl).trans e1312)
                                  have e1315 : Tg h1161 v1 = 2006 := (fxT F1166 e1313)
                                  have p1316 := (DOk_fx O1165 ((Fx.rf (wr := [804]) (h := h1161)).pI e1170 hh1299 rfl) e1170 (by rw [e1314]; exact e1315) rfl (DOk_fx O884 F1166 e885 (by rw [e1312]; exact e1313) rfl (DOk_fx O880 ((Fx.rf (wr := [805]) (h := h879)).pJ e881 hh882 rfl) e881 (by rw [e1310]; exact e1311) rfl (DOk_fx O876 ((Fx.rf (wr := [806]) (h := h875)).pR e877 hh878 rfl) e877 (by rw [e1308]; exact e1309) rfl (DOk_fx O8 ((Fx.rf (wr := [803]) (h := h4)).pI e12 hh874 rfl) e12 (by rw [e1306]; exact e1307) rfl (DOk_fx O F9 ta0 (by rw [e2]; exact t3) rfl P_RI0.2))))))
                                  exact g_vret C hr ⟨O1301, (((((((Fx.rf (wr := wr_k0_advance)).call F9 rfl).pI e12 hh874 rfl).pR e877 hh878 rfl).pJ e881 hh882 rfl).call F1166 rfl).pI e1170 hh1299 rfl), (by unfold RInv; rw [e1302, (pI_e hh1299), e1303, e1304]; exact ⟨e1305, p1316, by omega, (Or.inl rfl)⟩)⟩ (by decide) (by decide) dX3_advance_404
                              · have f1317 : (48 : Int) ≤ v1225 ∧ v1225 ≤ (57 : Int) := r_le f1272 (il 57) q1274 (by decide) (by decide)
                                refine g_aload_n C rfl 0 rfl dX3_advance_306 ?_
                                refine g_ldc2 (z := 10) C kw_683 (by decide) dX3_advance_307 ?_
                                refine g_aload_n C rfl 0 rfl dX3_advance_310 ?_
                                refine gf_J C fk_LandSurvey_Reader_73 rfl e1170 e1173 dX3_advance_311 ?_
                                refine g_lmul C dX3_advance_314 ?_
                                have f1318 : (-9223372036854775808 : Int) ≤ (lM 10 v1172) ∧ (lM 10 v1172) ≤ (9223372036854775807 : Int) := inL_of _
                                refine g_aload_n C rfl 0 rfl dX3_advance_315 ?_
                                refine gf_R C fk_LandSurvey_Reader_9 rfl e1170 e1222 dX3_advance_316 ?_
                                refine g_aload_n C rfl 0 rfl dX3_advance_319 ?_
                                refine gf_I C fk_LandSurvey_Reader_30 rfl e1170 e1169 dX3_advance_320 ?_
                                refine g_cald C e1223 rfl e1224 (ix f1221 (by decide) (by decide)) e1226 dX3_advance_323 ?_
                                refine g_bipush C (by decide) dX3_advance_324 ?_
                                have f1319 : (0 : Int) ≤ (v1225 - 48) ∧ (v1225 - 48) ≤ (9 : Int) := ia_sub f1317 (il 48) (by decide) (by decide)
                                refine g_isub C dX3_advance_326 ?_
                                refine g_i2l C (iw f1319 (by decide) (by decide)) dX3_advance_327 ?_
                                refine g_ladd C dX3_advance_328 ?_
                                have f1320 : (-9223372036854775808 : Int) ≤ (lA (lM 10 v1172) (v1225 - 48)) ∧ (lA (lM 10 v1172) (v1225 - 48)) ≤ (9223372036854775807 : Int) := inL_of _
                                refine gp_J C fk_LandSurvey_Reader_73 pk_LandSurvey_Reader_5 rfl e1170 rfl f1320 dX3_advance_329 (fun h1322 hh1321 => ?_)
                                have O1323 := O1165.pJ hh1321 f1320
                                refine g_aload_n C rfl 0 rfl dX3_advance_332 ?_
                                refine g_dup C rfl dX3_advance_333 ?_
                                have e1324 : Tg h1322 a0 = 4 := ((pJT hh1321).trans e1170)
                                have e1325 : Iv h1322 a0 2 = v1168 := ((pJI hh1321).trans e1169)
                                refine gf_I C fk_LandSurvey_Reader_30 rfl e1324 e1325 dX3_advance_334 ?_
                                refine g_iconst C dX3_advance_337 ?_
                                have f1326 : (1 : Int) ≤ (v1168 + 1) ∧ (v1168 + 1) ≤ (1500 : Int) := ia_add f1221 (il 1) (by decide) (by decide)
                                refine g_iadd C dX3_advance_338 ?_
                                refine gp_I C fk_LandSurvey_Reader_30 pk_LandSurvey_Reader_2 rfl e1324 (iw f1326 (by decide) (by decide)) (nf_i _) dX3_advance_339 (fun h1328 hh1327 => ?_)
                                have O1329 := O1323.pI e1324 hh1327 rI_4_2 (iw f1326 (by decide) (by decide)) nofun
                                refine g_goto C 267 (by decide) dX3_advance_342 ?_
                                refine GW.sub [0, 1] rfl ?_
                                have e1330 : Iv h1328 a0 2 = (v1168 + 1) := (pI_e hh1327)
                                have e1331 : Iv h1328 a0 3 = v10 := ((pI_j hh1327 (by decide)).trans ((pJI hh1321).trans e1175))
                                have e1332 : Jv h1328 a0 5 = (lA (lM 10 v1172) (v1225 - 48)) := ((pIJ hh1327).trans (pJ_e hh1321))
                                have q1333 := fun z : 0 ≤ v1172 ∧ v1172 ≤ 999999 => la_dig z (x := (v1225 - 48)) (by omega)
                                exact ih1163 _ (by omega) h1328 rfl O1329 ((F1166.pJ e1170 hh1321 rfl).pI e1324 hh1327 rfl) (by rw [e1330, e1331, e1332]; omega)
                      have e1334 : Iv h883 a0 3 = v10 := ((pJI hh882).trans ((pRI hh878).trans (pI_e hh874)))
                      have e1335 : Jv h883 a0 5 = 0 := (pJ_e hh882)
                      exact L1162 _ h883 rfl O884 Fx.rf (by rw [e886, e1334, e1335]; omega)
                · have f1336 : (97 : Int) ≤ v861 ∧ v861 ≤ (126 : Int) := r_ge f863 (il 97) q999 (by decide) (by decide)
                  refine g_iload_n C rfl 0 rfl dX3_advance_120 ?_
                  refine g_bipush C (by decide) dX3_advance_121 ?_
                  refine g_icmp_gt C (iw f1336 (by decide) (by decide)) (iw (il 122) (by decide) (by decide)) 255 (by decide) dX3_advance_123 (fun q1337 => ?_) (fun q1338 => ?_)
                  · have f1339 : (123 : Int) ≤ v861 ∧ v861 ≤ (126 : Int) := r_gt f1336 (il 122) q1337 (by decide) (by decide)
                    refine g_iload_n C rfl 0 rfl dX3_advance_255 ?_
                    refine g_bipush C (by decide) dX3_advance_256 ?_
                    refine g_icmp_lt C (iw f1339 (by decide) (by decide)) (iw (il 48) (by decide) (by decide)) 370 (by decide) dX3_advance_258 (fun q1340 => ?_) (fun q1341 => ?_)
                    · exact (no_lt f1339 (il 48) q1340 (by decide)).elim
                    · refine g_iload_n C rfl 0 rfl dX3_advance_261 ?_
                      refine g_bipush C (by decide) dX3_advance_262 ?_
                      refine g_icmp_gt C (iw f1339 (by decide) (by decide)) (iw (il 57) (by decide) (by decide)) 370 (by decide) dX3_advance_264 (fun q1342 => ?_) (fun q1343 => ?_)
                      · refine g_aload_n C rfl 1 rfl dX3_advance_370 ?_
                        refine g_iload_n C rfl 0 rfl dX3_advance_371 ?_
                        refine g_i2l C (iw f1339 (by decide) (by decide)) dX3_advance_372 ?_
                        refine gp_J C fk_LandSurvey_Reader_73 pk_LandSurvey_Reader_5 rfl e885 rfl (iw f1339 (by decide) (by decide)) dX3_advance_373 (fun h1345 hh1344 => ?_)
                        have O1346 := O884.pJ hh1344 (iw f1339 (by decide) (by decide))
                        refine g_aload_n C rfl 1 rfl dX3_advance_376 ?_
                        refine g_ldcS C C.2.2.2.2.1.2 dX3_advance_377 ?_
                        refine g_iload_n C rfl 0 rfl dX3_advance_379 ?_
                        refine g_callI (st := [.inr (.inr a0)]) (gc_VS C lk_LandSurvey_Reader_89 rfl (k_J0_indexOf_0f7a4 l D cy w z0 O1346 (iw f1339 (by decide) (by decide))) rfl ⟨by decide, by decide⟩ (Nat.le_of_ble_eq_true rfl) dX3_advance_380 ⟨(by decide), (by decide)⟩) (fun r1347 h1348 f1350 K1349 => ?_)
                        obtain ⟨O1351, F1352, f1353⟩ := K1349
                        refine g_if_lt C f1353 390 (by decide) dX3_advance_383 (fun q1354 => ?_) (fun q1355 => ?_)
                        · have f1356 : (-2147483648 : Int) ≤ r1347 ∧ r1347 ≤ (-1 : Int) := r_lt f1353 (il 0) q1354 (by decide) (by decide)
                          refine g_iconst C dX3_advance_390 ?_
                          have e1357 : Tg h1348 a0 = 4 := (fxT F1352 ((pJT hh1344).trans e885))
                          refine gp_I C fk_LandSurvey_Reader_49 pk_LandSurvey_Reader_4 rfl e1357 (iw (il 4) (by decide) (by decide)) (nf_i _) dX3_advance_391 (fun h1359 hh1358 => ?_)
                          have O1360 := O1351.pI e1357 hh1358 rI_4_4 (iw (il 4) (by decide) (by decide)) nofun
                          refine g_aload_n C rfl 1 rfl dX3_advance_394 ?_
                          refine g_dup C rfl dX3_advance_395 ?_
                          have e1361 : Tg h1359 a0 = 4 := ((pIT hh1358).trans e1357)
                          have e1362 : Tg h1345 a0 = 4 := ((pJT hh1344).trans e885)
                          have e1363 : Iv h1359 a0 2 = v10 := ((pI_j hh1358 (by decide)).trans ((fxI F1352 e1362 rfl).trans ((pJI hh1344).trans e886)))
                          refine gf_I C fk_LandSurvey_Reader_30 rfl e1361 e1363 dX3_advance_396 ?_
                          refine g_iconst C dX3_advance_399 ?_
                          have f1364 : (1 : Int) ≤ (v10 + 1) ∧ (v10 + 1) ≤ (1500 : Int) := ia_add f855 (il 1) (by decide) (by decide)
                          refine g_iadd C dX3_advance_400 ?_
                          refine gp_I C fk_LandSurvey_Reader_30 pk_LandSurvey_Reader_2 rfl e1361 (iw f1364 (by decide) (by decide)) (nf_i _) dX3_advance_401 (fun h1366 hh1365 => ?_)
                          have O1367 := O1360.pI e1361 hh1365 rI_4_2 (iw f1364 (by decide) (by decide)) nofun
                          have e1368 : Rv h1366 a0 13 = v1 := ((pIR hh1365).trans ((pIR hh1358).trans ((fxR F1352 e1362 rfl).trans ((pJR hh1344).trans ((pJR hh882).trans ((pR_j hh878 (by decide)).trans ((pIR hh874).trans ((fxR F9 ta0 rfl).trans e2))))))))
                          have e1369 : Iv h1366 a0 4 = 4 := ((pI_j hh1365 (by decide)).trans (pI_e hh1358))
                          have e1370 : Jv h1366 a0 5 = v861 := ((pIJ hh1365).trans ((pIJ hh1358).trans ((fxJ F1352 e1362 rfl).trans (pJ_e hh1344))))
                          have e1371 : Rv h1366 a0 6 = 0 := ((pIR hh1365).trans ((pIR hh1358).trans ((fxR F1352 e1362 rfl).trans ((pJR hh1344).trans ((pJR hh882).trans (pR_e hh878))))))
                          have e1372 : Tg h1366 v1 = 2006 := ((pIT hh1365).trans ((pIT hh1358).trans (fxT F1352 ((pJT hh1344).trans ((pJT hh882).trans ((pRT hh878).trans ((pIT hh874).trans (fxT F9 t3))))))))
                          have e1373 : Rv h4 a0 13 = v1 := ((fxR F9 ta0 rfl).trans e2)
                          have e1374 : Tg h4 v1 = 2006 := (fxT F9 t3)
                          have e1375 : Rv h875 a0 13 = v1 := ((pIR hh874).trans e1373)
                          have e1376 : Tg h875 v1 = 2006 := ((pIT hh874).trans e1374)
                          have e1377 : Rv h879 a0 13 = v1 := ((pR_j hh878 (by decide)).trans e1375)
                          have e1378 : Tg h879 v1 = 2006 := ((pRT hh878).trans e1376)
                          have e1379 : Rv h883 a0 13 = v1 := ((pJR hh882).trans e1377)
                          have e1380 : Tg h883 v1 = 2006 := ((pJT hh882).trans e1378)
                          have e1381 : Rv h1345 a0 13 = v1 := ((pJR hh1344).trans e1379)
                          have e1382 : Tg h1345 v1 = 2006 := ((pJT hh1344).trans e1380)
                          have e1383 : Rv h1348 a0 13 = v1 := ((fxR F1352 e1362 rfl).trans e1381)
                          have e1384 : Tg h1348 v1 = 2006 := (fxT F1352 e1382)
                          have e1385 : Rv h1359 a0 13 = v1 := ((pIR hh1358).trans e1383)
                          have e1386 : Tg h1359 v1 = 2006 := ((pIT hh1358).trans e1384)
                          have p1387 := (DOk_fx O1360 ((Fx.rf (wr := [802]) (h := h1359)).pI e1361 hh1365 rfl) e1361 (by rw [e1385]; exact e1386) rfl (DOk_fx O1351 ((Fx.rf (wr := [804]) (h := h1348)).pI e1357 hh1358 rfl) e1357 (by rw [e1383]; exact e1384) rfl (DOk_fx O1346 F1352 e1362 (by rw [e1381]; exact e1382) rfl (DOk_fx O884 ((Fx.rf (wr := [805]) (h := h883)).pJ e885 hh1344 rfl) e885 (by rw [e1379]; exact e1380) rfl (DOk_fx O880 ((Fx.rf (wr := [805]) (h := h879)).pJ e881 hh882 rfl) e881 (by rw [e1377]; exact e1378) rfl (DOk_fx O876 ((Fx.rf (wr := [806]) (h := h875)).pR e877 hh878 rfl) e877 (by rw [e1375]; exact e1376) rfl (DOk_fx O8 ((Fx.rf (wr := [803]) (h := h4)).pI e12 hh874 rfl) e12 (by rw [e1373]; exact e1374) rfl (DOk_fx O F9 ta0 (by rw [e2]; exact t3) rfl P_RI0.2))))))))
                          exact g_vret C hr ⟨O1367, (((((((((Fx.rf (wr := wr_k0_advance)).call F9 rfl).pI e12 hh874 rfl).pR e877 hh878 rfl).pJ e881 hh882 rfl).pJ e885 hh1344 rfl).call F1352 rfl).pI e1357 hh1358 rfl).pI e1361 hh1365 rfl), (by unfold RInv; rw [e1368, e1369, e1370, e1371]; exact ⟨e1372, p1387, by omega, (Or.inl rfl)⟩)⟩ (by decide) (by decide) dX3_advance_404
                        · have f1388 : (0 : Int) ≤ r1347 ∧ r1347 ≤ (2147483647 : Int) := r_ge f1353 (il 0) q1355 (by decide) (by decide)
                          refine g_iconst C dX3_advance_386 ?_
                          refine g_goto C 391 (by decide) dX3_advance_387 ?_
                          have e1389 : Tg h1348 a0 = 4 := (fxT F1352 ((pJT hh1344).trans e885))
                          refine gp_I C fk_LandSurvey_Reader_49 pk_LandSurvey_Reader_4 rfl e1389 (iw (il 3) (by decide) (by decide)) (nf_i _) dX3_advance_391 (fun h1391 hh1390 => ?_)
                          have O1392 := O1351.pI e1389 hh1390 rI_4_4 (iw (il 3) (by decide) (by decide)) nofun
                          refine g_aload_n C rfl 1 rfl dX3_advance_394 ?_
                          refine g_dup C rfl dX3_advance_395 ?_
                          have e1393 : Tg h1391 a0 = 4 := ((pIT hh1390).trans e1389)
                          have e1394 : Tg h1345 a0 = 4 := ((pJT hh1344).trans e885)
                          have e1395 : Iv h1391 a0 2 = v10 := ((pI_j hh1390 (by decide)).trans ((fxI F1352 e1394 rfl).trans ((pJI hh1344).trans e886)))
                          refine gf_I C fk_LandSurvey_Reader_30 rfl e1393 e1395 dX3_advance_396 ?_
                          refine g_iconst C dX3_advance_399 ?_
                          have f1396 : (1 : Int) ≤ (v10 + 1) ∧ (v10 + 1) ≤ (1500 : Int) := ia_add f855 (il 1) (by decide) (by decide)
                          refine g_iadd C dX3_advance_400 ?_
                          refine gp_I C fk_LandSurvey_Reader_30 pk_LandSurvey_Reader_2 rfl e1393 (iw f1396 (by decide) (by decide)) (nf_i _) dX3_advance_401 (fun h1398 hh1397 => ?_)
                          have O1399 := O1392.pI e1393 hh1397 rI_4_2 (iw f1396 (by decide) (by decide)) nofun
                          have e1400 : Rv h1398 a0 13 = v1 := ((pIR hh1397).trans ((pIR hh1390).trans ((fxR F1352 e1394 rfl).trans ((pJR hh1344).trans ((pJR hh882).trans ((pR_j hh878 (by decide)).trans ((pIR hh874).trans ((fxR F9 ta0 rfl).trans e2))))))))
                          have e1401 : Iv h1398 a0 4 = 3 := ((pI_j hh1397 (by decide)).trans (pI_e hh1390))
                          have e1402 : Jv h1398 a0 5 = v861 := ((pIJ hh1397).trans ((pIJ hh1390).trans ((fxJ F1352 e1394 rfl).trans (pJ_e hh1344))))
                          have e1403 : Rv h1398 a0 6 = 0 := ((pIR hh1397).trans ((pIR hh1390).trans ((fxR F1352 e1394 rfl).trans ((pJR hh1344).trans ((pJR hh882).trans (pR_e hh878))))))
                          have e1404 : Tg h1398 v1 = 2006 := ((pIT hh1397).trans ((pIT hh1390).trans (fxT F1352 ((pJT hh1344).trans ((pJT hh882).trans ((pRT hh878).trans ((pIT hh874).trans (fxT F9 t3))))))))
                          have e1405 : Rv h4 a0 13 = v1 := ((fxR F9 ta0 rfl).trans e2)
                          have e1406 : Tg h4 v1 = 2006 := (fxT F9 t3)
                          have e1407 : Rv h875 a0 13 = v1 := ((pIR hh874).trans e1405)
                          have e1408 : Tg h875 v1 = 2006 := ((pIT hh874).trans e1406)
                          have e1409 : Rv h879 a0 13 = v1 := ((pR_j hh878 (by decide)).trans e1407)
                          have e1410 : Tg h879 v1 = 2006 := ((pRT hh878).trans e1408)
                          have e1411 : Rv h883 a0 13 = v1 := ((pJR hh882).trans e1409)
                          have e1412 : Tg h883 v1 = 2006 := ((pJT hh882).trans e1410)
                          have e1413 : Rv h1345 a0 13 = v1 := ((pJR hh1344).trans e1411)
                          have e1414 : Tg h1345 v1 = 2006 := ((pJT hh1344).trans e1412)
                          have e1415 : Rv h1348 a0 13 = v1 := ((fxR F1352 e1394 rfl).trans e1413)
                          have e1416 : Tg h1348 v1 = 2006 := (fxT F1352 e1414)
                          have e1417 : Rv h1391 a0 13 = v1 := ((pIR hh1390).trans e1415)
                          have e1418 : Tg h1391 v1 = 2006 := ((pIT hh1390).trans e1416)
                          have p1419 := (DOk_fx O1392 ((Fx.rf (wr := [802]) (h := h1391)).pI e1393 hh1397 rfl) e1393 (by rw [e1417]; exact e1418) rfl (DOk_fx O1351 ((Fx.rf (wr := [804]) (h := h1348)).pI e1389 hh1390 rfl) e1389 (by rw [e1415]; exact e1416) rfl (DOk_fx O1346 F1352 e1394 (by rw [e1413]; exact e1414) rfl (DOk_fx O884 ((Fx.rf (wr := [805]) (h := h883)).pJ e885 hh1344 rfl) e885 (by rw [e1411]; exact e1412) rfl (DOk_fx O880 ((Fx.rf (wr := [805]) (h := h879)).pJ e881 hh882 rfl) e881 (by rw [e1409]; exact e1410) rfl (DOk_fx O876 ((Fx.rf (wr := [806]) (h := h875)).pR e877 hh878 rfl) e877 (by rw [e1407]; exact e1408) rfl (DOk_fx O8 ((Fx.rf (wr := [803]) (h := h4)).pI e12 hh874 rfl) e12 (by rw [e1405]; exact e1406) rfl (DOk_fx O F9 ta0 (by rw [e2]; exact t3) rfl P_RI0.2))))))))
                          exact g_vret C hr ⟨O1399, (((((((((Fx.rf (wr := wr_k0_advance)).call F9 rfl).pI e12 hh874 rfl).pR e877 hh878 rfl).pJ e881 hh882 rfl).pJ e885 hh1344 rfl).call F1352 rfl).pI e1389 hh1390 rfl).pI e1393 hh1397 rfl), (by unfold RInv; rw [e1400, e1401, e1402, e1403]; exact ⟨e1404, p1419, by omega, (Or.inl rfl)⟩)⟩ (by decide) (by decide) dX3_advance_404
                      · exact (no_le f1339 (il 57) q1343 (by decide)).elim
                  · have f1420 : (97 : Int) ≤ v861 ∧ v861 ≤ (122 : Int) := r_le f1336 (il 122) q1338 (by decide) (by decide)
                    refine GW.sub [1, 0] rfl ?_
                    -- loop at 126
                    have L1422 : ∀ (μ : Nat) (h1421 : Hp), (1500 - Iv h1421 a0 2).toNat = μ → Okh h1421 → Fx [802, 805] h883 h1421 → GW p l e (rmm 4 91 0 0) s m (List.map toV [.inr (.inr a0)]).toArray below meth c D cy z0 2 (MQ below (QV D cy z0 (fun h1 => Okh h1 ∧ Fx wr_k0_advance h h1 ∧ (RInv w h1 a0))) (List.map toV [.inr (.inr a0)]).toArray s 0 0 (Aof z0)) 126 [(0, .inr (.inr a0)), (1, .inl v861)] [] h1421 0 0 := by
                      intro μ
                      induction μ using Nat.strongRecOn with
                      | ind μ ih1423 =>
                        intro h1421 hm1424 O1425 F1426
                        obtain ⟨v1427, e1428⟩ : ∃ z, Iv h1421 a0 2 = z := ⟨_, rfl⟩
                        have e1429 : Tg h1421 a0 = 4 := (fxT F1426 e885)
                        have f1430 := ok_I O1425 e1429 rI_4_2 e1428
                        refine g_aload_n C rfl 0 rfl dX3_advance_126 ?_
                        refine gf_I C fk_LandSurvey_Reader_30 rfl e1429 e1428 dX3_advance_127 ?_
                        refine g_aload_n C rfl 0 rfl dX3_advance_130 ?_
                        have e1431 : Iv h1421 a0 1 = v14 := ((fxI F1426 e885 rfl).trans e887)
                        refine gf_I C fk_LandSurvey_Reader_19 rfl e1429 e1431 dX3_advance_131 ?_
                        refine g_icmp_ge C (iw f1430 (by decide) (by decide)) (iw f856 (by decide) (by decide)) 206 (by decide) dX3_advance_134 (fun q1432 => ?_) (fun q1433 => ?_)
                        · have f1434 : (1 : Int) ≤ v1427 ∧ v1427 ≤ (1500 : Int) := r_ge f1430 f856 q1432 (by decide) (by decide)
                          refine g_aload_n C rfl 0 rfl dX3_advance_206 ?_
                          refine g_aload_n C rfl 0 rfl dX3_advance_207 ?_
                          refine gf_I C fk_LandSurvey_Reader_30 rfl e1429 e1428 dX3_advance_208 ?_
                          refine g_aload_n C rfl 0 rfl dX3_advance_211 ?_
                          have e1435 : Iv h1421 a0 3 = v10 := ((fxI F1426 e885 rfl).trans ((pJI hh882).trans ((pRI hh878).trans (pI_e hh874))))
                          refine gf_I C fk_LandSurvey_Reader_66 rfl e1429 e1435 dX3_advance_212 ?_
                          have f1436 : (-1498 : Int) ≤ (v1427 - v10) ∧ (v1427 - v10) ≤ (1500 : Int) := ia_sub f1434 f855 (by decide) (by decide)
                          refine g_isub C dX3_advance_215 ?_
                          refine g_bipush C (by decide) dX3_advance_216 ?_
                          refine g_icmp_gt C (iw f1436 (by decide) (by decide)) (iw (il 8) (by decide) (by decide)) 225 (by decide) dX3_advance_218 (fun q1437 => ?_) (fun q1438 => ?_)
                          · have f1439 : (9 : Int) ≤ (v1427 - v10) ∧ (v1427 - v10) ≤ (1500 : Int) := r_gt f1436 (il 8) q1437 (by decide) (by decide)
                            refine g_iconst C dX3_advance_225 ?_
                            refine gp_I C fk_LandSurvey_Reader_49 pk_LandSurvey_Reader_4 rfl e1429 (iw (il 4) (by decide) (by decide)) (nf_i _) dX3_advance_226 (fun h1441 hh1440 => ?_)
                            have O1442 := O1425.pI e1429 hh1440 rI_4_4 (iw (il 4) (by decide) (by decide)) nofun
                            refine g_aload_n C rfl 0 rfl dX3_advance_229 ?_
                            refine g_aload_n C rfl 0 rfl dX3_advance_230 ?_
                            have e1443 : Tg h1441 a0 = 4 := ((pIT hh1440).trans e1429)
                            refine gf_I C fk_LandSurvey_Reader_49 rfl e1443 (pI_e hh1440) dX3_advance_231 ?_
                            refine g_iconst C dX3_advance_234 ?_
                            refine g_icmp_ne C (iw (il 4) (by decide) (by decide)) (iw (il 1) (by decide) (by decide)) 248 (by decide) dX3_advance_235 (fun q1444 => ?_) (fun q1445 => ?_)
                            · refine g_null C dX3_advance_248 ?_
                              refine gp_R C fk_LandSurvey_Reader_69 pk_LandSurvey_Reader_6 rfl e1443 (nf_o _ _) dX3_advance_249 (fun h1447 hh1446 => ?_)
                              have O1448 := O1442.pR e1443 hh1446 (okR_f rE_4_6)
                              refine g_goto C 404 (by decide) dX3_advance_252 ?_
                              have e1449 : Rv h1447 a0 13 = v1 := ((pR_j hh1446 (by decide)).trans ((pIR hh1440).trans ((fxR F1426 e885 rfl).trans ((pJR hh882).trans ((pR_j hh878 (by decide)).trans ((pIR hh874).trans ((fxR F9 ta0 rfl).trans e2)))))))
                              have e1450 : Iv h1447 a0 4 = 4 := ((pRI hh1446).trans (pI_e hh1440))
                              obtain ⟨v1451, e1452⟩ : ∃ z, Jv h1447 a0 5 = z := ⟨_, rfl⟩
                              have e1453 : Tg h1447 a0 = 4 := ((pRT hh1446).trans e1443)
                              have f1454 := inL_J O1448 e1452
                              have e1455 : Tg h1447 v1 = 2006 := ((pRT hh1446).trans ((pIT hh1440).trans (fxT F1426 ((pJT hh882).trans ((pRT hh878).trans ((pIT hh874).trans (fxT F9 t3)))))))
                              have e1456 : Rv h4 a0 13 = v1 := ((fxR F9 ta0 rfl).trans e2)
                              have e1457 : Tg h4 v1 = 2006 := (fxT F9 t3)
                              have e1458 : Rv h875 a0 13 = v1 := ((pIR hh874).trans e1456)
                              have e1459 : Tg h875 v1 = 2006 := ((pIT hh874).trans e1457)
                              have e1460 : Rv h879 a0 13 = v1 := ((pR_j hh878 (by decide)).trans e1458)
                              have e1461 : Tg h879 v1 = 2006 := ((pRT hh878).trans e1459)
                              have e1462 : Rv h883 a0 13 = v1 := ((pJR hh882).trans e1460)
                              have e1463 : Tg h883 v1 = 2006 := ((pJT hh882).trans e1461)
                              have e1464 : Rv h1421 a0 13 = v1 := ((fxR F1426 e885 rfl).trans e1462)
                              have e1465 : Tg h1421 v1 = 2006 := (fxT F1426 e1463)
                              have e1466 : Rv h1441 a0 13 = v1 := ((pIR hh1440).trans e1464)
                              have e1467 : Tg h1441 v1 = 2006 := ((pIT hh1440).trans e1465)
                              have p1468 := (DOk_fx O1442 ((Fx.rf (wr := [806]) (h := h1441)).pR e1443 hh1446 rfl) e1443 (by rw [e1466]; exact e1467) rfl (DOk_fx O1425 ((Fx.rf (wr := [804]) (h := h1421)).pI e1429 hh1440 rfl) e1429 (by rw [e1464]; exact e1465) rfl (DOk_fx O884 F1426 e885 (by rw [e1462]; exact e1463) rfl (DOk_fx O880 ((Fx.rf (wr := [805]) (h := h879)).pJ e881 hh882 rfl) e881 (by rw [e1460]; exact e1461) rfl (DOk_fx O876 ((Fx.rf (wr := [806]) (h := h875)).pR e877 hh878 rfl) e877 (by rw [e1458]; exact e1459) rfl (DOk_fx O8 ((Fx.rf (wr := [803]) (h := h4)).pI e12 hh874 rfl) e12 (by rw [e1456]; exact e1457) rfl (DOk_fx O F9 ta0 (by rw [e2]; exact t3) rfl P_RI0.2)))))))
                              exact g_vret C hr ⟨O1448, ((((((((Fx.rf (wr := wr_k0_advance)).call F9 rfl).pI e12 hh874 rfl).pR e877 hh878 rfl).pJ e881 hh882 rfl).call F1426 rfl).pI e1429 hh1440 rfl).pR e1443 hh1446 rfl), (by unfold RInv; rw [e1449, e1450, e1452, (pR_e hh1446)]; exact ⟨e1455, p1468, by omega, (Or.inl rfl)⟩)⟩ (by decide) (by decide) dX3_advance_404
                            · exact (no_eq (il 4) (il 1) q1445 (by decide)).elim
                          · have f1469 : (-1498 : Int) ≤ (v1427 - v10) ∧ (v1427 - v10) ≤ (8 : Int) := r_le f1436 (il 8) q1438 (by decide) (by decide)
                            refine g_iconst C dX3_advance_221 ?_
                            refine g_goto C 226 (by decide) dX3_advance_222 ?_
                            refine gp_I C fk_LandSurvey_Reader_49 pk_LandSurvey_Reader_4 rfl e1429 (iw (il 1) (by decide) (by decide)) (nf_i _) dX3_advance_226 (fun h1471 hh1470 => ?_)
                            have O1472 := O1425.pI e1429 hh1470 rI_4_4 (iw (il 1) (by decide) (by decide)) nofun
                            refine g_aload_n C rfl 0 rfl dX3_advance_229 ?_
                            refine g_aload_n C rfl 0 rfl dX3_advance_230 ?_
                            have e1473 : Tg h1471 a0 = 4 := ((pIT hh1470).trans e1429)
                            refine gf_I C fk_LandSurvey_Reader_49 rfl e1473 (pI_e hh1470) dX3_advance_231 ?_
                            refine g_iconst C dX3_advance_234 ?_
                            refine g_icmp_ne C (iw (il 1) (by decide) (by decide)) (iw (il 1) (by decide) (by decide)) 248 (by decide) dX3_advance_235 (fun q1474 => ?_) (fun q1475 => ?_)
                            · exact (no_ne (il 1) (il 1) q1474 (by decide)).elim
                            · refine g_aload_n C rfl 0 rfl dX3_advance_238 ?_
                              obtain ⟨v1476, e1477⟩ : ∃ z, Jv h1471 a0 5 = z := ⟨_, rfl⟩
                              have f1478 := inL_J O1472 e1477
                              refine gf_J C fk_LandSurvey_Reader_73 rfl e1473 e1477 dX3_advance_239 ?_
                              refine g_callR (st := [.inr (.inr a0)]) (gc_S C lk_LandSurvey_Reader_79 (k_X10_ofCode l D cy w z0 O1472 f1478) rfl ⟨by decide, by decide⟩ (Nat.le_of_ble_eq_true rfl) dX3_advance_242 ⟨(by decide), (by decide)⟩) (fun r1479 h1480 K1481 => ?_)
                              obtain ⟨O1483, F1484, p1485⟩ := K1481
                              refine g_goto C 249 (by decide) dX3_advance_245 ?_
                              have e1486 : Tg h1480 a0 = 4 := (fxT F1484 e1473)
                              refine gp_R C fk_LandSurvey_Reader_69 pk_LandSurvey_Reader_6 rfl e1486 (nf_o _ _) dX3_advance_249 (fun h1488 hh1487 => ?_)
                              have O1489 := O1483.pR e1486 hh1487 (okR_f rE_4_6)
                              refine g_goto C 404 (by decide) dX3_advance_252 ?_
                              have e1490 : Rv h1488 a0 13 = v1 := ((pR_j hh1487 (by decide)).trans ((fxR F1484 e1473 rfl).trans ((pIR hh1470).trans ((fxR F1426 e885 rfl).trans ((pJR hh882).trans ((pR_j hh878 (by decide)).trans ((pIR hh874).trans ((fxR F9 ta0 rfl).trans e2))))))))
                              have e1491 : Iv h1488 a0 4 = 1 := ((pRI hh1487).trans ((fxI F1484 e1473 rfl).trans (pI_e hh1470)))
                              have e1492 : Jv h1488 a0 5 = v1476 := ((pRJ hh1487).trans ((fxJ F1484 e1473 rfl).trans e1477))
                              have e1493 : Tg h1488 v1 = 2006 := ((pRT hh1487).trans (fxT F1484 ((pIT hh1470).trans (fxT F1426 ((pJT hh882).trans ((pRT hh878).trans ((pIT hh874).trans (fxT F9 t3))))))))
                              have e1494 : Rv h4 a0 13 = v1 := ((fxR F9 ta0 rfl).trans e2)
                              have e1495 : Tg h4 v1 = 2006 := (fxT F9 t3)
                              have e1496 : Rv h875 a0 13 = v1 := ((pIR hh874).trans e1494)
                              have e1497 : Tg h875 v1 = 2006 := ((pIT hh874).trans e1495)
                              have e1498 : Rv h879 a0 13 = v1 := ((pR_j hh878 (by decide)).trans e1496)
                              have e1499 : Tg h879 v1 = 2006 := ((pRT hh878).trans e1497)
                              have e1500 : Rv h883 a0 13 = v1 := ((pJR hh882).trans e1498)
                              have e1501 : Tg h883 v1 = 2006 := ((pJT hh882).trans e1499)
                              have e1502 : Rv h1421 a0 13 = v1 := ((fxR F1426 e885 rfl).trans e1500)
                              have e1503 : Tg h1421 v1 = 2006 := (fxT F1426 e1501)
                              have e1504 : Rv h1471 a0 13 = v1 := ((pIR hh1470).trans e1502)
                              have e1505 : Tg h1471 v1 = 2006 := ((pIT hh1470).trans e1503)
                              have e1506 : Rv h1480 a0 13 = v1 := ((fxR F1484 e1473 rfl).trans e1504)
                              have e1507 : Tg h1480 v1 = 2006 := (fxT F1484 e1505)
                              have p1508 := (DOk_fx O1483 ((Fx.rf (wr := [806]) (h := h1480)).pR e1486 hh1487 rfl) e1486 (by rw [e1506]; exact e1507) rfl (DOk_fx O1472 F1484 e1473 (by rw [e1504]; exact e1505) rfl (DOk_fx O1425 ((Fx.rf (wr := [804]) (h := h1421)).pI e1429 hh1470 rfl) e1429 (by rw [e1502]; exact e1503) rfl (DOk_fx O884 F1426 e885 (by rw [e1500]; exact e1501) rfl (DOk_fx O880 ((Fx.rf (wr := [805]) (h := h879)).pJ e881 hh882 rfl) e881 (by rw [e1498]; exact e1499) rfl (DOk_fx O876 ((Fx.rf (wr := [806]) (h := h875)).pR e877 hh878 rfl) e877 (by rw [e1496]; exact e1497) rfl (DOk_fx O8 ((Fx.rf (wr := [803]) (h := h4)).pI e12 hh874 rfl) e12 (by rw [e1494]; exact e1495) rfl (DOk_fx O F9 ta0 (by rw [e2]; exact t3) rfl P_RI0.2))))))))
                              exact g_vret C hr ⟨O1489, (((((((((Fx.rf (wr := wr_k0_advance)).call F9 rfl).pI e12 hh874 rfl).pR e877 hh878 rfl).pJ e881 hh882 rfl).call F1426 rfl).pI e1429 hh1470 rfl).call F1484 rfl).pR e1486 hh1487 rfl), (by unfold RInv; rw [e1490, e1491, e1492, (pR_e hh1487)]; exact ⟨e1493, p1508, by omega, p1485⟩)⟩ (by decide) (by decide) dX3_advance_404
                        · have f1509 : (0 : Int) ≤ v1427 ∧ v1427 ≤ (1499 : Int) := r_lt f1430 f856 q1433 (by decide) (by decide)
                          refine g_aload_n C rfl 0 rfl dX3_advance_137 ?_
                          have e1510 : Rv h1421 a0 0 = v857 := ((fxR F1426 e885 rfl).trans e992)
                          refine gf_R C fk_LandSurvey_Reader_9 rfl e1429 e1510 dX3_advance_138 ?_
                          refine g_aload_n C rfl 0 rfl dX3_advance_141 ?_
                          refine gf_I C fk_LandSurvey_Reader_30 rfl e1429 e1428 dX3_advance_142 ?_
                          have e1511 : Tg h1421 v857 = 19103 := (fxT F1426 e993)
                          have e1512 : Ln h1421 v857 = 1500 := ((fxL F1426 e993).trans e994)
                          obtain ⟨v1513, e1514⟩ : ∃ z, Iv h1421 v857 v1427.toNat = z := ⟨_, rfl⟩
                          have f1515 := ok_Ia O1425 e1511 ar_19103 rI_19103_0 e1514
                          refine g_cald C e1511 rfl e1512 (ix f1509 (by decide) (by decide)) e1514 dX3_advance_145 ?_
                          refine g_bipush C (by decide) dX3_advance_146 ?_
                          refine g_icmp_lt C (iw f1515 (by decide) (by decide)) (iw (il 97) (by decide) (by decide)) 206 (by decide) dX3_advance_148 (fun q1516 => ?_) (fun q1517 => ?_)
                          · have f1518 : (0 : Int) ≤ v1513 ∧ v1513 ≤ (96 : Int) := r_lt f1515 (il 97) q1516 (by decide) (by decide)
                            refine g_aload_n C rfl 0 rfl dX3_advance_206 ?_
                            refine g_aload_n C rfl 0 rfl dX3_advance_207 ?_
                            refine gf_I C fk_LandSurvey_Reader_30 rfl e1429 e1428 dX3_advance_208 ?_
                            refine g_aload_n C rfl 0 rfl dX3_advance_211 ?_
                            have e1519 : Iv h1421 a0 3 = v10 := ((fxI F1426 e885 rfl).trans ((pJI hh882).trans ((pRI hh878).trans (pI_e hh874))))
                            refine gf_I C fk_LandSurvey_Reader_66 rfl e1429 e1519 dX3_advance_212 ?_
                            have f1520 : (-1499 : Int) ≤ (v1427 - v10) ∧ (v1427 - v10) ≤ (1499 : Int) := ia_sub f1509 f855 (by decide) (by decide)
                            refine g_isub C dX3_advance_215 ?_
                            refine g_bipush C (by decide) dX3_advance_216 ?_
                            refine g_icmp_gt C (iw f1520 (by decide) (by decide)) (iw (il 8) (by decide) (by decide)) 225 (by decide) dX3_advance_218 (fun q1521 => ?_) (fun q1522 => ?_)
                            · have f1523 : (9 : Int) ≤ (v1427 - v10) ∧ (v1427 - v10) ≤ (1499 : Int) := r_gt f1520 (il 8) q1521 (by decide) (by decide)
                              refine g_iconst C dX3_advance_225 ?_
                              refine gp_I C fk_LandSurvey_Reader_49 pk_LandSurvey_Reader_4 rfl e1429 (iw (il 4) (by decide) (by decide)) (nf_i _) dX3_advance_226 (fun h1525 hh1524 => ?_)
                              have O1526 := O1425.pI e1429 hh1524 rI_4_4 (iw (il 4) (by decide) (by decide)) nofun
                              refine g_aload_n C rfl 0 rfl dX3_advance_229 ?_
                              refine g_aload_n C rfl 0 rfl dX3_advance_230 ?_
                              have e1527 : Tg h1525 a0 = 4 := ((pIT hh1524).trans e1429)
                              refine gf_I C fk_LandSurvey_Reader_49 rfl e1527 (pI_e hh1524) dX3_advance_231 ?_
                              refine g_iconst C dX3_advance_234 ?_
                              refine g_icmp_ne C (iw (il 4) (by decide) (by decide)) (iw (il 1) (by decide) (by decide)) 248 (by decide) dX3_advance_235 (fun q1528 => ?_) (fun q1529 => ?_)
                              · refine g_null C dX3_advance_248 ?_
                                refine gp_R C fk_LandSurvey_Reader_69 pk_LandSurvey_Reader_6 rfl e1527 (nf_o _ _) dX3_advance_249 (fun h1531 hh1530 => ?_)
                                have O1532 := O1526.pR e1527 hh1530 (okR_f rE_4_6)
                                refine g_goto C 404 (by decide) dX3_advance_252 ?_
                                have e1533 : Rv h1531 a0 13 = v1 := ((pR_j hh1530 (by decide)).trans ((pIR hh1524).trans ((fxR F1426 e885 rfl).trans ((pJR hh882).trans ((pR_j hh878 (by decide)).trans ((pIR hh874).trans ((fxR F9 ta0 rfl).trans e2)))))))
                                have e1534 : Iv h1531 a0 4 = 4 := ((pRI hh1530).trans (pI_e hh1524))
                                obtain ⟨v1535, e1536⟩ : ∃ z, Jv h1531 a0 5 = z := ⟨_, rfl⟩
                                have e1537 : Tg h1531 a0 = 4 := ((pRT hh1530).trans e1527)
                                have f1538 := inL_J O1532 e1536
                                have e1539 : Tg h1531 v1 = 2006 := ((pRT hh1530).trans ((pIT hh1524).trans (fxT F1426 ((pJT hh882).trans ((pRT hh878).trans ((pIT hh874).trans (fxT F9 t3)))))))
                                have e1540 : Rv h4 a0 13 = v1 := ((fxR F9 ta0 rfl).trans e2)
                                have e1541 : Tg h4 v1 = 2006 := (fxT F9 t3)
                                have e1542 : Rv h875 a0 13 = v1 := ((pIR hh874).trans e1540)
                                have e1543 : Tg h875 v1 = 2006 := ((pIT hh874).trans e1541)
                                have e1544 : Rv h879 a0 13 = v1 := ((pR_j hh878 (by decide)).trans e1542)
                                have e1545 : Tg h879 v1 = 2006 := ((pRT hh878).trans e1543)
                                have e1546 : Rv h883 a0 13 = v1 := ((pJR hh882).trans e1544)
                                have e1547 : Tg h883 v1 = 2006 := ((pJT hh882).trans e1545)
                                have e1548 : Rv h1421 a0 13 = v1 := ((fxR F1426 e885 rfl).trans e1546)
                                have e1549 : Tg h1421 v1 = 2006 := (fxT F1426 e1547)
                                have e1550 : Rv h1525 a0 13 = v1 := ((pIR hh1524).trans e1548)
                                have e1551 : Tg h1525 v1 = 2006 := ((pIT hh1524).trans e1549)
                                have p1552 := (DOk_fx O1526 ((Fx.rf (wr := [806]) (h := h1525)).pR e1527 hh1530 rfl) e1527 (by rw [e1550]; exact e1551) rfl (DOk_fx O1425 ((Fx.rf (wr := [804]) (h := h1421)).pI e1429 hh1524 rfl) e1429 (by rw [e1548]; exact e1549) rfl (DOk_fx O884 F1426 e885 (by rw [e1546]; exact e1547) rfl (DOk_fx O880 ((Fx.rf (wr := [805]) (h := h879)).pJ e881 hh882 rfl) e881 (by rw [e1544]; exact e1545) rfl (DOk_fx O876 ((Fx.rf (wr := [806]) (h := h875)).pR e877 hh878 rfl) e877 (by rw [e1542]; exact e1543) rfl (DOk_fx O8 ((Fx.rf (wr := [803]) (h := h4)).pI e12 hh874 rfl) e12 (by rw [e1540]; exact e1541) rfl (DOk_fx O F9 ta0 (by rw [e2]; exact t3) rfl P_RI0.2)))))))
                                exact g_vret C hr ⟨O1532, ((((((((Fx.rf (wr := wr_k0_advance)).call F9 rfl).pI e12 hh874 rfl).pR e877 hh878 rfl).pJ e881 hh882 rfl).call F1426 rfl).pI e1429 hh1524 rfl).pR e1527 hh1530 rfl), (by unfold RInv; rw [e1533, e1534, e1536, (pR_e hh1530)]; exact ⟨e1539, p1552, by omega, (Or.inl rfl)⟩)⟩ (by decide) (by decide) dX3_advance_404
                              · exact (no_eq (il 4) (il 1) q1529 (by decide)).elim
                            · have f1553 : (-1499 : Int) ≤ (v1427 - v10) ∧ (v1427 - v10) ≤ (8 : Int) := r_le f1520 (il 8) q1522 (by decide) (by decide)
                              refine g_iconst C dX3_advance_221 ?_
                              refine g_goto C 226 (by decide) dX3_advance_222 ?_
                              refine gp_I C fk_LandSurvey_Reader_49 pk_LandSurvey_Reader_4 rfl e1429 (iw (il 1) (by decide) (by decide)) (nf_i _) dX3_advance_226 (fun h1555 hh1554 => ?_)
                              have O1556 := O1425.pI e1429 hh1554 rI_4_4 (iw (il 1) (by decide) (by decide)) nofun
                              refine g_aload_n C rfl 0 rfl dX3_advance_229 ?_
                              refine g_aload_n C rfl 0 rfl dX3_advance_230 ?_
                              have e1557 : Tg h1555 a0 = 4 := ((pIT hh1554).trans e1429)
                              refine gf_I C fk_LandSurvey_Reader_49 rfl e1557 (pI_e hh1554) dX3_advance_231 ?_
                              refine g_iconst C dX3_advance_234 ?_
                              refine g_icmp_ne C (iw (il 1) (by decide) (by decide)) (iw (il 1) (by decide) (by decide)) 248 (by decide) dX3_advance_235 (fun q1558 => ?_) (fun q1559 => ?_)
                              · exact (no_ne (il 1) (il 1) q1558 (by decide)).elim
                              · refine g_aload_n C rfl 0 rfl dX3_advance_238 ?_
                                obtain ⟨v1560, e1561⟩ : ∃ z, Jv h1555 a0 5 = z := ⟨_, rfl⟩
                                have f1562 := inL_J O1556 e1561
                                refine gf_J C fk_LandSurvey_Reader_73 rfl e1557 e1561 dX3_advance_239 ?_
                                refine g_callR (st := [.inr (.inr a0)]) (gc_S C lk_LandSurvey_Reader_79 (k_X10_ofCode l D cy w z0 O1556 f1562) rfl ⟨by decide, by decide⟩ (Nat.le_of_ble_eq_true rfl) dX3_advance_242 ⟨(by decide), (by decide)⟩) (fun r1563 h1564 K1565 => ?_)
                                obtain ⟨O1567, F1568, p1569⟩ := K1565
                                refine g_goto C 249 (by decide) dX3_advance_245 ?_
                                have e1570 : Tg h1564 a0 = 4 := (fxT F1568 e1557)
                                refine gp_R C fk_LandSurvey_Reader_69 pk_LandSurvey_Reader_6 rfl e1570 (nf_o _ _) dX3_advance_249 (fun h1572 hh1571 => ?_)
                                have O1573 := O1567.pR e1570 hh1571 (okR_f rE_4_6)
                                refine g_goto C 404 (by decide) dX3_advance_252 ?_
                                have e1574 : Rv h1572 a0 13 = v1 := ((pR_j hh1571 (by decide)).trans ((fxR F1568 e1557 rfl).trans ((pIR hh1554).trans ((fxR F1426 e885 rfl).trans ((pJR hh882).trans ((pR_j hh878 (by decide)).trans ((pIR hh874).trans ((fxR F9 ta0 rfl).trans e2))))))))
                                have e1575 : Iv h1572 a0 4 = 1 := ((pRI hh1571).trans ((fxI F1568 e1557 rfl).trans (pI_e hh1554)))
                                have e1576 : Jv h1572 a0 5 = v1560 := ((pRJ hh1571).trans ((fxJ F1568 e1557 rfl).trans e1561))
                                have e1577 : Tg h1572 v1 = 2006 := ((pRT hh1571).trans (fxT F1568 ((pIT hh1554).trans (fxT F1426 ((pJT hh882).trans ((pRT hh878).trans ((pIT hh874).trans (fxT F9 t3))))))))
                                have e1578 : Rv h4 a0 13 = v1 := ((fxR F9 ta0 rfl).trans e2)
                                have e1579 : Tg h4 v1 = 2006 := (fxT F9 t3)
                                have e1580 : Rv h875 a0 13 = v1 := ((pIR hh874).trans e1578)
                                have e1581 : Tg h875 v1 = 2006 := ((pIT hh874).trans e1579)
                                have e1582 : Rv h879 a0 13 = v1 := ((pR_j hh878 (by decide)).trans e1580)
                                have e1583 : Tg h879 v1 = 2006 := ((pRT hh878).trans e1581)
                                have e1584 : Rv h883 a0 13 = v1 := ((pJR hh882).trans e1582)
                                have e1585 : Tg h883 v1 = 2006 := ((pJT hh882).trans e1583)
                                have e1586 : Rv h1421 a0 13 = v1 := ((fxR F1426 e885 rfl).trans e1584)
                                have e1587 : Tg h1421 v1 = 2006 := (fxT F1426 e1585)
                                have e1588 : Rv h1555 a0 13 = v1 := ((pIR hh1554).trans e1586)
                                have e1589 : Tg h1555 v1 = 2006 := ((pIT hh1554).trans e1587)
                                have e1590 : Rv h1564 a0 13 = v1 := ((fxR F1568 e1557 rfl).trans e1588)
                                have e1591 : Tg h1564 v1 = 2006 := (fxT F1568 e1589)
                                have p1592 := (DOk_fx O1567 ((Fx.rf (wr := [806]) (h := h1564)).pR e1570 hh1571 rfl) e1570 (by rw [e1590]; exact e1591) rfl (DOk_fx O1556 F1568 e1557 (by rw [e1588]; exact e1589) rfl (DOk_fx O1425 ((Fx.rf (wr := [804]) (h := h1421)).pI e1429 hh1554 rfl) e1429 (by rw [e1586]; exact e1587) rfl (DOk_fx O884 F1426 e885 (by rw [e1584]; exact e1585) rfl (DOk_fx O880 ((Fx.rf (wr := [805]) (h := h879)).pJ e881 hh882 rfl) e881 (by rw [e1582]; exact e1583) rfl (DOk_fx O876 ((Fx.rf (wr := [806]) (h := h875)).pR e877 hh878 rfl) e877 (by rw [e1580]; exact e1581) rfl (DOk_fx O8 ((Fx.rf (wr := [803]) (h := h4)).pI e12 hh874 rfl) e12 (by rw [e1578]; exact e1579) rfl (DOk_fx O F9 ta0 (by rw [e2]; exact t3) rfl P_RI0.2))))))))
                                exact g_vret C hr ⟨O1573, (((((((((Fx.rf (wr := wr_k0_advance)).call F9 rfl).pI e12 hh874 rfl).pR e877 hh878 rfl).pJ e881 hh882 rfl).call F1426 rfl).pI e1429 hh1554 rfl).call F1568 rfl).pR e1570 hh1571 rfl), (by unfold RInv; rw [e1574, e1575, e1576, (pR_e hh1571)]; exact ⟨e1577, p1592, by omega, p1569⟩)⟩ (by decide) (by decide) dX3_advance_404
                          · have f1593 : (97 : Int) ≤ v1513 ∧ v1513 ≤ (126 : Int) := r_ge f1515 (il 97) q1517 (by decide) (by decide)
                            refine g_aload_n C rfl 0 rfl dX3_advance_151 ?_
                            refine gf_R C fk_LandSurvey_Reader_9 rfl e1429 e1510 dX3_advance_152 ?_
                            refine g_aload_n C rfl 0 rfl dX3_advance_155 ?_
                            refine gf_I C fk_LandSurvey_Reader_30 rfl e1429 e1428 dX3_advance_156 ?_
                            refine g_cald C e1511 rfl e1512 (ix f1509 (by decide) (by decide)) e1514 dX3_advance_159 ?_
                            refine g_bipush C (by decide) dX3_advance_160 ?_
                            refine g_icmp_gt C (iw f1593 (by decide) (by decide)) (iw (il 122) (by decide) (by decide)) 206 (by decide) dX3_advance_162 (fun q1594 => ?_) (fun q1595 => ?_)
                            · have f1596 : (123 : Int) ≤ v1513 ∧ v1513 ≤ (126 : Int) := r_gt f1593 (il 122) q1594 (by decide) (by decide)
                              refine g_aload_n C rfl 0 rfl dX3_advance_206 ?_
                              refine g_aload_n C rfl 0 rfl dX3_advance_207 ?_
                              refine gf_I C fk_LandSurvey_Reader_30 rfl e1429 e1428 dX3_advance_208 ?_
                              refine g_aload_n C rfl 0 rfl dX3_advance_211 ?_
                              have e1597 : Iv h1421 a0 3 = v10 := ((fxI F1426 e885 rfl).trans ((pJI hh882).trans ((pRI hh878).trans (pI_e hh874))))
                              refine gf_I C fk_LandSurvey_Reader_66 rfl e1429 e1597 dX3_advance_212 ?_
                              have f1598 : (-1499 : Int) ≤ (v1427 - v10) ∧ (v1427 - v10) ≤ (1499 : Int) := ia_sub f1509 f855 (by decide) (by decide)
                              refine g_isub C dX3_advance_215 ?_
                              refine g_bipush C (by decide) dX3_advance_216 ?_
                              refine g_icmp_gt C (iw f1598 (by decide) (by decide)) (iw (il 8) (by decide) (by decide)) 225 (by decide) dX3_advance_218 (fun q1599 => ?_) (fun q1600 => ?_)
                              · have f1601 : (9 : Int) ≤ (v1427 - v10) ∧ (v1427 - v10) ≤ (1499 : Int) := r_gt f1598 (il 8) q1599 (by decide) (by decide)
                                refine g_iconst C dX3_advance_225 ?_
                                refine gp_I C fk_LandSurvey_Reader_49 pk_LandSurvey_Reader_4 rfl e1429 (iw (il 4) (by decide) (by decide)) (nf_i _) dX3_advance_226 (fun h1603 hh1602 => ?_)
                                have O1604 := O1425.pI e1429 hh1602 rI_4_4 (iw (il 4) (by decide) (by decide)) nofun
                                refine g_aload_n C rfl 0 rfl dX3_advance_229 ?_
                                refine g_aload_n C rfl 0 rfl dX3_advance_230 ?_
                                have e1605 : Tg h1603 a0 = 4 := ((pIT hh1602).trans e1429)
                                refine gf_I C fk_LandSurvey_Reader_49 rfl e1605 (pI_e hh1602) dX3_advance_231 ?_
                                refine g_iconst C dX3_advance_234 ?_
                                refine g_icmp_ne C (iw (il 4) (by decide) (by decide)) (iw (il 1) (by decide) (by decide)) 248 (by decide) dX3_advance_235 (fun q1606 => ?_) (fun q1607 => ?_)
                                · refine g_null C dX3_advance_248 ?_
                                  refine gp_R C fk_LandSurvey_Reader_69 pk_LandSurvey_Reader_6 rfl e1605 (nf_o _ _) dX3_advance_249 (fun h1609 hh1608 => ?_)
                                  have O1610 := O1604.pR e1605 hh1608 (okR_f rE_4_6)
                                  refine g_goto C 404 (by decide) dX3_advance_252 ?_
                                  have e1611 : Rv h1609 a0 13 = v1 := ((pR_j hh1608 (by decide)).trans ((pIR hh1602).trans ((fxR F1426 e885 rfl).trans ((pJR hh882).trans ((pR_j hh878 (by decide)).trans ((pIR hh874).trans ((fxR F9 ta0 rfl).trans e2)))))))
                                  have e1612 : Iv h1609 a0 4 = 4 := ((pRI hh1608).trans (pI_e hh1602))
                                  obtain ⟨v1613, e1614⟩ : ∃ z, Jv h1609 a0 5 = z := ⟨_, rfl⟩
                                  have e1615 : Tg h1609 a0 = 4 := ((pRT hh1608).trans e1605)
                                  have f1616 := inL_J O1610 e1614
                                  have e1617 : Tg h1609 v1 = 2006 := ((pRT hh1608).trans ((pIT hh1602).trans (fxT F1426 ((pJT hh882).trans ((pRT hh878).trans ((pIT hh874).trans (fxT F9 t3)))))))
                                  have e1618 : Rv h4 a0 13 = v1 := ((fxR F9 ta0 rfl).trans e2)
                                  have e1619 : Tg h4 v1 = 2006 := (fxT F9 t3)
                                  have e1620 : Rv h875 a0 13 = v1 := ((pIR hh874).trans e1618)
                                  have e1621 : Tg h875 v1 = 2006 := ((pIT hh874).trans e1619)
                                  have e1622 : Rv h879 a0 13 = v1 := ((pR_j hh878 (by decide)).trans e1620)
                                  have e1623 : Tg h879 v1 = 2006 := ((pRT hh878).trans e1621)
                                  have e1624 : Rv h883 a0 13 = v1 := ((pJR hh882).trans e1622)
                                  have e1625 : Tg h883 v1 = 2006 := ((pJT hh882).trans e1623)
                                  have e1626 : Rv h1421 a0 13 = v1 := ((fxR F1426 e885 rfl).trans e1624)
                                  have e1627 : Tg h1421 v1 = 2006 := (fxT F1426 e1625)
                                  have e1628 : Rv h1603 a0 13 = v1 := ((pIR hh1602).trans e1626)
                                  have e1629 : Tg h1603 v1 = 2006 := ((pIT hh1602).trans e1627)
                                  have p1630 := (DOk_fx O1604 ((Fx.rf (wr := [806]) (h := h1603)).pR e1605 hh1608 rfl) e1605 (by rw [e1628]; exact e1629) rfl (DOk_fx O1425 ((Fx.rf (wr := [804]) (h := h1421)).pI e1429 hh1602 rfl) e1429 (by rw [e1626]; exact e1627) rfl (DOk_fx O884 F1426 e885 (by rw [e1624]; exact e1625) rfl (DOk_fx O880 ((Fx.rf (wr := [805]) (h := h879)).pJ e881 hh882 rfl) e881 (by rw [e1622]; exact e1623) rfl (DOk_fx O876 ((Fx.rf (wr := [806]) (h := h875)).pR e877 hh878 rfl) e877 (by rw [e1620]; exact e1621) rfl (DOk_fx O8 ((Fx.rf (wr := [803]) (h := h4)).pI e12 hh874 rfl) e12 (by rw [e1618]; exact e1619) rfl (DOk_fx O F9 ta0 (by rw [e2]; exact t3) rfl P_RI0.2)))))))
                                  exact g_vret C hr ⟨O1610, ((((((((Fx.rf (wr := wr_k0_advance)).call F9 rfl).pI e12 hh874 rfl).pR e877 hh878 rfl).pJ e881 hh882 rfl).call F1426 rfl).pI e1429 hh1602 rfl).pR e1605 hh1608 rfl), (by unfold RInv; rw [e1611, e1612, e1614, (pR_e hh1608)]; exact ⟨e1617, p1630, by omega, (Or.inl rfl)⟩)⟩ (by decide) (by decide) dX3_advance_404
                                · exact (no_eq (il 4) (il 1) q1607 (by decide)).elim
                              · have f1631 : (-1499 : Int) ≤ (v1427 - v10) ∧ (v1427 - v10) ≤ (8 : Int) := r_le f1598 (il 8) q1600 (by decide) (by decide)
                                refine g_iconst C dX3_advance_221 ?_
                                refine g_goto C 226 (by decide) dX3_advance_222 ?_
                                refine gp_I C fk_LandSurvey_Reader_49 pk_LandSurvey_Reader_4 rfl e1429 (iw (il 1) (by decide) (by decide)) (nf_i _) dX3_advance_226 (fun h1633 hh1632 => ?_)
                                have O1634 := O1425.pI e1429 hh1632 rI_4_4 (iw (il 1) (by decide) (by decide)) nofun
                                refine g_aload_n C rfl 0 rfl dX3_advance_229 ?_
                                refine g_aload_n C rfl 0 rfl dX3_advance_230 ?_
                                have e1635 : Tg h1633 a0 = 4 := ((pIT hh1632).trans e1429)
                                refine gf_I C fk_LandSurvey_Reader_49 rfl e1635 (pI_e hh1632) dX3_advance_231 ?_
                                refine g_iconst C dX3_advance_234 ?_
                                refine g_icmp_ne C (iw (il 1) (by decide) (by decide)) (iw (il 1) (by decide) (by decide)) 248 (by decide) dX3_advance_235 (fun q1636 => ?_) (fun q1637 => ?_)
                                · exact (no_ne (il 1) (il 1) q1636 (by decide)).elim
                                · refine g_aload_n C rfl 0 rfl dX3_advance_238 ?_
                                  obtain ⟨v1638, e1639⟩ : ∃ z, Jv h1633 a0 5 = z := ⟨_, rfl⟩
                                  have f1640 := inL_J O1634 e1639
                                  refine gf_J C fk_LandSurvey_Reader_73 rfl e1635 e1639 dX3_advance_239 ?_
                                  refine g_callR (st := [.inr (.inr a0)]) (gc_S C lk_LandSurvey_Reader_79 (k_X10_ofCode l D cy w z0 O1634 f1640) rfl ⟨by decide, by decide⟩ (Nat.le_of_ble_eq_true rfl) dX3_advance_242 ⟨(by decide), (by decide)⟩) (fun r1641 h1642 K1643 => ?_)
                                  obtain ⟨O1645, F1646, p1647⟩ := K1643
                                  refine g_goto C 249 (by decide) dX3_advance_245 ?_
                                  have e1648 : Tg h1642 a0 = 4 := (fxT F1646 e1635)
                                  refine gp_R C fk_LandSurvey_Reader_69 pk_LandSurvey_Reader_6 rfl e1648 (nf_o _ _) dX3_advance_249 (fun h1650 hh1649 => ?_)
                                  have O1651 := O1645.pR e1648 hh1649 (okR_f rE_4_6)
                                  refine g_goto C 404 (by decide) dX3_advance_252 ?_
                                  have e1652 : Rv h1650 a0 13 = v1 := ((pR_j hh1649 (by decide)).trans ((fxR F1646 e1635 rfl).trans ((pIR hh1632).trans ((fxR F1426 e885 rfl).trans ((pJR hh882).trans ((pR_j hh878 (by decide)).trans ((pIR hh874).trans ((fxR F9 ta0 rfl).trans e2))))))))
                                  have e1653 : Iv h1650 a0 4 = 1 := ((pRI hh1649).trans ((fxI F1646 e1635 rfl).trans (pI_e hh1632)))
                                  have e1654 : Jv h1650 a0 5 = v1638 := ((pRJ hh1649).trans ((fxJ F1646 e1635 rfl).trans e1639))
                                  have e1655 : Tg h1650 v1 = 2006 := ((pRT hh1649).trans (fxT F1646 ((pIT hh1632).trans (fxT F1426 ((pJT hh882).trans ((pRT hh878).trans ((pIT hh874).trans (fxT F9 t3))))))))
                                  have e1656 : Rv h4 a0 13 = v1 := ((fxR F9 ta0 rfl).trans e2)
                                  have e1657 : Tg h4 v1 = 2006 := (fxT F9 t3)
                                  have e1658 : Rv h875 a0 13 = v1 := ((pIR hh874).trans e1656)
                                  have e1659 : Tg h875 v1 = 2006 := ((pIT hh874).trans e1657)
                                  have e1660 : Rv h879 a0 13 = v1 := ((pR_j hh878 (by decide)).trans e1658)
                                  have e1661 : Tg h879 v1 = 2006 := ((pRT hh878).trans e1659)
                                  have e1662 : Rv h883 a0 13 = v1 := ((pJR hh882).trans e1660)
                                  have e1663 : Tg h883 v1 = 2006 := ((pJT hh882).trans e1661)
                                  have e1664 : Rv h1421 a0 13 = v1 := ((fxR F1426 e885 rfl).trans e1662)
                                  have e1665 : Tg h1421 v1 = 2006 := (fxT F1426 e1663)
                                  have e1666 : Rv h1633 a0 13 = v1 := ((pIR hh1632).trans e1664)
                                  have e1667 : Tg h1633 v1 = 2006 := ((pIT hh1632).trans e1665)
                                  have e1668 : Rv h1642 a0 13 = v1 := ((fxR F1646 e1635 rfl).trans e1666)
                                  have e1669 : Tg h1642 v1 = 2006 := (fxT F1646 e1667)
                                  have p1670 := (DOk_fx O1645 ((Fx.rf (wr := [806]) (h := h1642)).pR e1648 hh1649 rfl) e1648 (by rw [e1668]; exact e1669) rfl (DOk_fx O1634 F1646 e1635 (by rw [e1666]; exact e1667) rfl (DOk_fx O1425 ((Fx.rf (wr := [804]) (h := h1421)).pI e1429 hh1632 rfl) e1429 (by rw [e1664]; exact e1665) rfl (DOk_fx O884 F1426 e885 (by rw [e1662]; exact e1663) rfl (DOk_fx O880 ((Fx.rf (wr := [805]) (h := h879)).pJ e881 hh882 rfl) e881 (by rw [e1660]; exact e1661) rfl (DOk_fx O876 ((Fx.rf (wr := [806]) (h := h875)).pR e877 hh878 rfl) e877 (by rw [e1658]; exact e1659) rfl (DOk_fx O8 ((Fx.rf (wr := [803]) (h := h4)).pI e12 hh874 rfl) e12 (by rw [e1656]; exact e1657) rfl (DOk_fx O F9 ta0 (by rw [e2]; exact t3) rfl P_RI0.2))))))))
                                  exact g_vret C hr ⟨O1651, (((((((((Fx.rf (wr := wr_k0_advance)).call F9 rfl).pI e12 hh874 rfl).pR e877 hh878 rfl).pJ e881 hh882 rfl).call F1426 rfl).pI e1429 hh1632 rfl).call F1646 rfl).pR e1648 hh1649 rfl), (by unfold RInv; rw [e1652, e1653, e1654, (pR_e hh1649)]; exact ⟨e1655, p1670, by omega, p1647⟩)⟩ (by decide) (by decide) dX3_advance_404
                            · have f1671 : (97 : Int) ≤ v1513 ∧ v1513 ≤ (122 : Int) := r_le f1593 (il 122) q1595 (by decide) (by decide)
                              refine g_aload_n C rfl 0 rfl dX3_advance_165 ?_
                              refine g_ldc2 (z := 27) C kw_677 (by decide) dX3_advance_166 ?_
                              refine g_aload_n C rfl 0 rfl dX3_advance_169 ?_
                              obtain ⟨v1672, e1673⟩ : ∃ z, Jv h1421 a0 5 = z := ⟨_, rfl⟩
                              have f1674 := inL_J O1425 e1673
                              refine gf_J C fk_LandSurvey_Reader_73 rfl e1429 e1673 dX3_advance_170 ?_
                              refine g_lmul C dX3_advance_173 ?_
                              have f1675 : (-9223372036854775808 : Int) ≤ (lM 27 v1672) ∧ (lM 27 v1672) ≤ (9223372036854775807 : Int) := inL_of _
                              refine g_aload_n C rfl 0 rfl dX3_advance_174 ?_
                              refine gf_R C fk_LandSurvey_Reader_9 rfl e1429 e1510 dX3_advance_175 ?_
                              refine g_aload_n C rfl 0 rfl dX3_advance_178 ?_
                              refine gf_I C fk_LandSurvey_Reader_30 rfl e1429 e1428 dX3_advance_179 ?_
                              refine g_cald C e1511 rfl e1512 (ix f1509 (by decide) (by decide)) e1514 dX3_advance_182 ?_
                              refine g_bipush C (by decide) dX3_advance_183 ?_
                              have f1676 : (0 : Int) ≤ (v1513 - 97) ∧ (v1513 - 97) ≤ (25 : Int) := ia_sub f1671 (il 97) (by decide) (by decide)
                              refine g_isub C dX3_advance_185 ?_
                              refine g_iconst C dX3_advance_186 ?_
                              have f1677 : (1 : Int) ≤ ((v1513 - 97) + 1) ∧ ((v1513 - 97) + 1) ≤ (26 : Int) := ia_add f1676 (il 1) (by decide) (by decide)
                              refine g_iadd C dX3_advance_187 ?_
                              refine g_i2l C (iw f1677 (by decide) (by decide)) dX3_advance_188 ?_
                              refine g_ladd C dX3_advance_189 ?_
                              have f1678 : (-9223372036854775808 : Int) ≤ (lA (lM 27 v1672) ((v1513 - 97) + 1)) ∧ (lA (lM 27 v1672) ((v1513 - 97) + 1)) ≤ (9223372036854775807 : Int) := inL_of _
                              refine gp_J C fk_LandSurvey_Reader_73 pk_LandSurvey_Reader_5 rfl e1429 rfl f1678 dX3_advance_190 (fun h1680 hh1679 => ?_)
                              have O1681 := O1425.pJ hh1679 f1678
                              refine g_aload_n C rfl 0 rfl dX3_advance_193 ?_
                              refine g_dup C rfl dX3_advance_194 ?_
                              have e1682 : Tg h1680 a0 = 4 := ((pJT hh1679).trans e1429)
                              have e1683 : Iv h1680 a0 2 = v1427 := ((pJI hh1679).trans e1428)
                              refine gf_I C fk_LandSurvey_Reader_30 rfl e1682 e1683 dX3_advance_195 ?_
                              refine g_iconst C dX3_advance_198 ?_
                              have f1684 : (1 : Int) ≤ (v1427 + 1) ∧ (v1427 + 1) ≤ (1500 : Int) := ia_add f1509 (il 1) (by decide) (by decide)
                              refine g_iadd C dX3_advance_199 ?_
                              refine gp_I C fk_LandSurvey_Reader_30 pk_LandSurvey_Reader_2 rfl e1682 (iw f1684 (by decide) (by decide)) (nf_i _) dX3_advance_200 (fun h1686 hh1685 => ?_)
                              have O1687 := O1681.pI e1682 hh1685 rI_4_2 (iw f1684 (by decide) (by decide)) nofun
                              refine g_goto C 126 (by decide) dX3_advance_203 ?_
                              refine GW.sub [0, 1] rfl ?_
                              have e1688 : Iv h1686 a0 2 = (v1427 + 1) := (pI_e hh1685)
                              exact ih1423 _ (by omega) h1686 rfl O1687 ((F1426.pJ e1429 hh1679 rfl).pI e1682 hh1685 rfl)
                    exact L1422 _ h883 rfl O884 Fx.rf
              · have f1689 : (1 : Int) ≤ v14 ∧ v14 ≤ (1499 : Int) := r_le f856 f855 q997 (by decide) (by decide)
                have f1690 : (1 : Int) ≤ v10 ∧ v10 ≤ (1499 : Int) := r_ge f855 f856 q997 (by decide) (by decide)
                refine g_aload_n C rfl 1 rfl dX3_advance_106 ?_
                refine g_iconst C dX3_advance_107 ?_
                refine gp_I C fk_LandSurvey_Reader_49 pk_LandSurvey_Reader_4 rfl e885 (iw (il 0) (by decide) (by decide)) (nf_i _) dX3_advance_108 (fun h1692 hh1691 => ?_)
                have O1693 := O884.pI e885 hh1691 rI_4_4 (iw (il 0) (by decide) (by decide)) nofun
                refine g_goto C 404 (by decide) dX3_advance_111 ?_
                have e1694 : Rv h1692 a0 13 = v1 := ((pIR hh1691).trans ((pJR hh882).trans ((pR_j hh878 (by decide)).trans ((pIR hh874).trans ((fxR F9 ta0 rfl).trans e2)))))
                have e1695 : Jv h1692 a0 5 = 0 := ((pIJ hh1691).trans (pJ_e hh882))
                have e1696 : Rv h1692 a0 6 = 0 := ((pIR hh1691).trans ((pJR hh882).trans (pR_e hh878)))
                have e1697 : Tg h1692 v1 = 2006 := ((pIT hh1691).trans ((pJT hh882).trans ((pRT hh878).trans ((pIT hh874).trans (fxT F9 t3)))))
                have e1698 : Rv h4 a0 13 = v1 := ((fxR F9 ta0 rfl).trans e2)
                have e1699 : Tg h4 v1 = 2006 := (fxT F9 t3)
                have e1700 : Rv h875 a0 13 = v1 := ((pIR hh874).trans e1698)
                have e1701 : Tg h875 v1 = 2006 := ((pIT hh874).trans e1699)
                have e1702 : Rv h879 a0 13 = v1 := ((pR_j hh878 (by decide)).trans e1700)
                have e1703 : Tg h879 v1 = 2006 := ((pRT hh878).trans e1701)
                have e1704 : Rv h883 a0 13 = v1 := ((pJR hh882).trans e1702)
                have e1705 : Tg h883 v1 = 2006 := ((pJT hh882).trans e1703)
                have p1706 := (DOk_fx O884 ((Fx.rf (wr := [804]) (h := h883)).pI e885 hh1691 rfl) e885 (by rw [e1704]; exact e1705) rfl (DOk_fx O880 ((Fx.rf (wr := [805]) (h := h879)).pJ e881 hh882 rfl) e881 (by rw [e1702]; exact e1703) rfl (DOk_fx O876 ((Fx.rf (wr := [806]) (h := h875)).pR e877 hh878 rfl) e877 (by rw [e1700]; exact e1701) rfl (DOk_fx O8 ((Fx.rf (wr := [803]) (h := h4)).pI e12 hh874 rfl) e12 (by rw [e1698]; exact e1699) rfl (DOk_fx O F9 ta0 (by rw [e2]; exact t3) rfl P_RI0.2)))))
                exact g_vret C hr ⟨O1693, ((((((Fx.rf (wr := wr_k0_advance)).call F9 rfl).pI e12 hh874 rfl).pR e877 hh878 rfl).pJ e881 hh882 rfl).pI e885 hh1691 rfl), (by unfold RInv; rw [e1694, (pI_e hh1691), e1695, e1696]; exact ⟨e1697, p1706, by omega, (Or.inl rfl)⟩)⟩ (by decide) (by decide) dX3_advance_404
          · have f1707 : (10 : Int) ≤ v861 ∧ v861 ≤ (10 : Int) := ii f863 (r_eq (il 10) q873) (by decide) (by decide)
            refine g_aload_n C rfl 0 rfl dX3_advance_39 ?_
            refine g_dup C rfl dX3_advance_40 ?_
            refine gf_I C fk_LandSurvey_Reader_30 rfl e12 e11 dX3_advance_41 ?_
            refine g_iconst C dX3_advance_44 ?_
            have f1708 : (1 : Int) ≤ (v10 + 1) ∧ (v10 + 1) ≤ (1500 : Int) := ia_add f855 (il 1) (by decide) (by decide)
            refine g_iadd C dX3_advance_45 ?_
            refine gp_I C fk_LandSurvey_Reader_30 pk_LandSurvey_Reader_2 rfl e12 (iw f1708 (by decide) (by decide)) (nf_i _) dX3_advance_46 (fun h1710 hh1709 => ?_)
            have O1711 := O8.pI e12 hh1709 rI_4_2 (iw f1708 (by decide) (by decide)) nofun
            refine g_goto C 0 (by decide) dX3_advance_49 ?_
            refine GW.sub [0] rfl ?_
            have e1712 : Iv h1710 a0 2 = (v10 + 1) := (pI_e hh1709)
            exact ih6 _ (by omega) h1710 rfl O1711 (F9.pI e12 hh1709 rfl)
  exact L5 _ h rfl O Fx.rf
def wr_k_X3_readTape : List Nat := [801, 802, 803, 804, 805, 806, 807, 808, 809, 810, 812, 813, 201201, 201202, 201203, 201204, 201205, 201207, 201208, 201211, 201212, 201214, 201215, 201216, 201217, 201218, 401200, 401206, 401207, 401208, 401209, 401210, 401213, 401217, 4020000, 4620400, 4820000, 5020000, 5220000, 5420000, 5620000, 5820000, 6220000, 6620000, 7020000, 7220000, 1000000006, 1000001006, 1000002006, 1000003006, 1000023102, 1000024100, 1000025100, 1000026100, 1000027100, 1000028100, 1000029100, 1000030100, 1000031100, 1000032100, 1000033100, 1000034100, 1000035100, 1000036100, 1000037100]
set_option maxRecDepth 100000 in
set_option maxHeartbeats 4000000 in
theorem k_X3_readTape (l : Launch) (D : va_G) (cy : Nat → ClassId) (w : Nat → Nat) (z0 : Nat)  {h : Hp} {a0 : Nat}  (O : Okh h) (ta0 : Tg h a0 = 4) (P_ND : ND h) : MI l D cy w z0 yX3_readTape cX3_readTape 2 (some .int) 28 630 14 1713 [.inr (.inr a0)] h (fun v h1 => Okh h1 ∧ Fx wr_k_X3_readTape h h1 ∧ ((-2147483648) ≤ v ∧ v ≤ 2147483647) ∧ (ND h1) ∧ (v = 0 → Tg h1 (Rv h1 a0 13) = 6 ∧ RulesOk h1 (Rv h1 a0 13))) := by
  refine hm_go (by decide +kernel) (Nat.le_of_ble_eq_true rfl) (fun p e s m below meth c C hr hn => ?_)
  refine g_aload_n C rfl 0 rfl dX3_readTape_0 ?_
  refine g_new C 1006 rfl rfl rfl inX5 tyX5 tyX5_ok kw_671 kw_288 kw_149 (by decide +kernel) (by decide) (by decide) dX3_readTape_1 (fun n1 z2 z3 h5 hh4 => ?_)
  have O6 := O.pN z2 z3 hh4 (by decide) nn_1006
  refine g_dup C rfl dX3_readTape_4 ?_
  refine g_callV (st := [.inr (.inr n1), .inr (.inr a0)]) (gc_I C lk_LandSurvey_Reader_25 rfl (k_X5_init l D cy w z0 O6 (pN_T hh4)) (tg_nz (pN_T hh4)) rfl ⟨by decide, by decide⟩ (Nat.le_of_ble_eq_true rfl) dX3_readTape_5 ⟨(by decide), (by decide)⟩) (fun h8 K9 => ?_)
  obtain ⟨O11, F12, p13, p14, p15, p16, p17, p18, p19, p20, p21, p22, p23, p24, p25, p26, p27⟩ := K9
  have p28 := DU_new P_ND hh4
  have p29 := DU_fx F12 rfl rfl p28
  obtain ⟨v30, e31⟩ : ∃ z, Rv h8 n1 14 = z := ⟨_, rfl⟩
  have e32 : Tg h8 n1 = 1006 := (fxT F12 (pN_T hh4))
  have t33 := ok_N O11 e32 rE_1006_14 e31 (by rw [← e31]; exact p20)
  have l34 := ok_NL O11 e32 rE_1006_14 e31 (by rw [← e31]; exact p20)
  have z35 := p25
  rw [e31] at z35
  obtain ⟨v36, e37⟩ : ∃ z, Rv h8 n1 15 = z := ⟨_, rfl⟩
  have t38 := ok_N O11 e32 rE_1006_15 e37 (by rw [← e37]; exact p21)
  have l39 := ok_NL O11 e32 rE_1006_15 e37 (by rw [← e37]; exact p21)
  have z40 := p26
  rw [e37] at z40
  obtain ⟨v41, e42⟩ : ∃ z, Rv h8 n1 16 = z := ⟨_, rfl⟩
  have t43 := ok_N O11 e32 rE_1006_16 e42 (by rw [← e42]; exact p22)
  have l44 := ok_NL O11 e32 rE_1006_16 e42 (by rw [← e42]; exact p22)
  have z45 := p27
  rw [e42] at z45
  refine g_rt (T0 := 1005) (T1 := 2005) e32 rfl (fun h47 hh46 => ?_)
  have O48 := O11.rt1 (T0 := 2006) (T1 := 1005) e32 hh46 nu_1006 tbI_2006_1006 tbE_2006_1006 (fun j hj => by
      have z := List.elem_iff.mp (tbN_2006 j hj)
      simp only [List.mem_cons, List.not_mem_nil, or_false] at z
      rcases z with rfl | rfl | rfl | rfl | rfl | rfl | rfl | rfl | rfl | rfl | rfl | rfl
      · exact p13
      · exact p14
      · exact p15
      · exact p16
      · exact p17
      · exact p18
      · exact p19
      · exact p20
      · exact p21
      · exact p22
      · exact p23
      · exact p24)
  have e49 : Ln h47 n1 = 0 := ((pTL hh46).trans ((fxL F12 (pN_T hh4)).trans (pN_L hh4)))
  have e50 : Rv h47 n1 14 = v30 := ((pTR hh46).trans e31)
  have e51 : Tg h47 v30 = 31100 := ((pTT hh46 (ne_tag t33 e32 (by decide))).trans t33)
  have e52 : Ln h47 v30 = 24 := ((pTL hh46).trans l34)
  have e53 : Rv h47 n1 15 = v36 := ((pTR hh46).trans e37)
  have e54 : Tg h47 v36 = 33100 := ((pTT hh46 (ne_tag t38 e32 (by decide))).trans t38)
  have e55 : Ln h47 v36 = 24 := ((pTL hh46).trans l39)
  have e56 : Rv h47 n1 16 = v41 := ((pTR hh46).trans e42)
  have e57 : Tg h47 v41 = 35100 := ((pTT hh46 (ne_tag t43 e32 (by decide))).trans t43)
  have e58 : Ln h47 v41 = 24 := ((pTL hh46).trans l44)
  have e59 : Iv h47 n1 13 = 0 := ((pTI hh46).trans ((fxI F12 (pN_T hh4) rfl).trans (pN_I hh4)))
  have p60 := DU_rt p29 hh46
  have F61 : Fx [201201, 201202, 201203, 201204, 201205, 201207, 201208, 201211, 201212, 201214, 201215, 201216, 201217, 201218, 5620000, 1000001006, 1000002006, 1000023102, 1000024100, 1000025100, 1000026100, 1000027100, 1000028100, 1000029100, 1000031100, 1000033100, 1000035100, 1000036100, 1000037100] h h47 := ((((Fx.rf (wr := [201201, 201202, 201203, 201204, 201205, 201207, 201208, 201211, 201212, 201214, 201215, 201216, 201217, 201218, 5620000, 1000001006, 1000002006, 1000023102, 1000024100, 1000025100, 1000026100, 1000027100, 1000028100, 1000029100, 1000031100, 1000033100, 1000035100, 1000036100, 1000037100]) (h := h)).pN z3 hh4 rfl).call F12 rfl).pT (nt_of (Fx.rf (wr := [201201, 201202, 201203, 201204, 201205, 201207, 201208, 201211, 201212, 201214, 201215, 201216, 201217, 201218, 5620000, 1000001006, 1000002006, 1000023102, 1000024100, 1000025100, 1000026100, 1000027100, 1000028100, 1000029100, 1000031100, 1000033100, 1000035100, 1000036100, 1000037100]) (h := h)) z3) hh46 rfl)
  have e62 : Tg h47 a0 = 4 := (fxT F61 ta0)
  refine gp_R C fk_LandSurvey_Reader_26 pk_LandSurvey_Reader_13 rfl e62 (nf_o _ _) dX3_readTape_8 (fun h64 hh63 => ?_)
  have O65 := O48.pR e62 hh63 (okR_f rE_4_13)
  refine g_aload_n C rfl 0 rfl dX3_readTape_11 ?_
  refine g_iconst C dX3_readTape_12 ?_
  have e66 : Tg h64 a0 = 4 := ((pRT hh63).trans e62)
  refine gp_I C fk_LandSurvey_Reader_30 pk_LandSurvey_Reader_2 rfl e66 (iw (il 0) (by decide) (by decide)) (nf_i _) dX3_readTape_13 (fun h68 hh67 => ?_)
  have O69 := O65.pI e66 hh67 rI_4_2 (iw (il 0) (by decide) (by decide)) nofun
  refine g_aload_n C rfl 0 rfl dX3_readTape_16 ?_
  refine g_iconst C dX3_readTape_17 ?_
  have e70 : Tg h68 a0 = 4 := ((pIT hh67).trans e66)
  refine gp_I C fk_LandSurvey_Reader_33 pk_LandSurvey_Reader_7 rfl e70 (iw (il 0) (by decide) (by decide)) (nf_i _) dX3_readTape_18 (fun h72 hh71 => ?_)
  have O73 := O69.pI e70 hh71 rI_4_7 (iw (il 0) (by decide) (by decide)) nofun
  refine g_aload_n C rfl 0 rfl dX3_readTape_21 ?_
  refine g_iconst C dX3_readTape_22 ?_
  have e74 : Tg h72 a0 = 4 := ((pIT hh71).trans e70)
  refine gp_I C fk_LandSurvey_Reader_36 pk_LandSurvey_Reader_12 rfl e74 (iw (il 0) (by decide) (by decide)) (nf_i _) dX3_readTape_23 (fun h76 hh75 => ?_)
  have O77 := O73.pI e74 hh75 rI_4_12 (iw (il 0) (by decide) (by decide)) nofun
  refine g_aload_n C rfl 0 rfl dX3_readTape_26 ?_
  refine g_iconst C dX3_readTape_27 ?_
  have e78 : Tg h76 a0 = 4 := ((pIT hh75).trans e74)
  refine gp_I C fk_LandSurvey_Reader_39 pk_LandSurvey_Reader_9 rfl e78 (iw (il 0) (by decide) (by decide)) (nar_z2 (iw (il 0) (by decide) (by decide))) dX3_readTape_28 (fun h80 hh79 => ?_)
  have O81 := O77.pI e78 hh79 rI_4_9 (iw (il 0) (by decide) (by decide)) nofun
  refine g_aload_n C rfl 0 rfl dX3_readTape_31 ?_
  refine g_iconst C dX3_readTape_32 ?_
  have e82 : Tg h80 a0 = 4 := ((pIT hh79).trans e78)
  refine gp_I C fk_LandSurvey_Reader_43 pk_LandSurvey_Reader_10 rfl e82 (iw (il 0) (by decide) (by decide)) (nar_z2 (iw (il 0) (by decide) (by decide))) dX3_readTape_33 (fun h84 hh83 => ?_)
  have O85 := O81.pI e82 hh83 rI_4_10 (iw (il 0) (by decide) (by decide)) nofun
  have e86 : Rv h84 a0 13 = n1 := ((pIR hh83).trans ((pIR hh79).trans ((pIR hh75).trans ((pIR hh71).trans ((pIR hh67).trans (pR_e hh63))))))
  have e87 : Tg h64 n1 = 2006 := ((pRT hh63).trans (pT_T hh46))
  have e88 : Tg h68 n1 = 2006 := ((pIT hh67).trans e87)
  have e89 : Tg h72 n1 = 2006 := ((pIT hh71).trans e88)
  have e90 : Tg h76 n1 = 2006 := ((pIT hh75).trans e89)
  have e91 : Tg h80 n1 = 2006 := ((pIT hh79).trans e90)
  have e92 : Iv h84 n1 13 = 0 := ((pI_n hh83 (ne_tag e91 e82 (by decide))).trans ((pI_n hh79 (ne_tag e90 e78 (by decide))).trans ((pI_n hh75 (ne_tag e89 e74 (by decide))).trans ((pI_n hh71 (ne_tag e88 e70 (by decide))).trans ((pI_n hh67 (ne_tag e87 e66 (by decide))).trans ((pRI hh63).trans e59))))))
  refine g_aload_n C rfl 0 rfl dX3_readTape_36 ?_
  have e93 : Tg h84 a0 = 4 := ((pIT hh83).trans e82)
  have e94 : Tg h84 n1 = 2006 := ((pIT hh83).trans e91)
  refine g_callV (st := []) (gc_V C lk_LandSurvey_Reader_46 (k0_advance l D cy w z0 O85 e93 ⟨by rw [e86]; exact e94, (fun k hk => absurd hk (by rw [e86, e92]; omega))⟩) e93 rfl rfl rfl ⟨by decide, by decide⟩ (Nat.le_of_ble_eq_true rfl) dX3_readTape_37 ⟨(by decide), (by decide)⟩) (fun h96 K97 => ?_)
  obtain ⟨O99, F100, p101⟩ := K97
  have e102 : Rv h96 a0 13 = n1 := ((fxR F100 e93 rfl).trans e86)
  obtain ⟨v103, e104⟩ : ∃ z, Iv h96 a0 4 = z := ⟨_, rfl⟩
  have e105 : Tg h96 a0 = 4 := (fxT F100 e93)
  have f106 := ok_I O99 e105 rI_4_4 e104
  obtain ⟨v107, e108⟩ : ∃ z, Jv h96 a0 5 = z := ⟨_, rfl⟩
  have f109 := inL_J O99 e108
  obtain ⟨v110, e111⟩ : ∃ z, Rv h96 a0 6 = z := ⟨_, rfl⟩
  have p112 := p101.2.2.1
  rw [e104, e108] at p112
  have p113 := p101.2.2.2
  rw [e111] at p113
  refine g_iconst C dX3_readTape_40 ?_
  refine g_istore_n C [(1, .inl 0), (0, .inr (.inr a0))] rfl (by decide) rfl dX3_readTape_41 ?_
  refine GW.sub [1, 0] rfl ?_
  -- loop at 42
  have L116 : ∀ (μ : Nat) (x114 : Int) (h115 : Hp), (1501 - x114).toNat = μ → Okh h115 → Fx [802, 803, 804, 805, 806, 807, 808, 809, 810, 812, 401200, 401207, 401208, 401209, 401210, 401213, 4020000, 4620400, 4820000, 5020000, 5620000, 5820000, 6220000, 6620000, 7020000] h96 h115 → ((0 : Int) ≤ x114 ∧ x114 ≤ (1501 : Int)) → (RInv w h115 a0) → GW p l e (rmm 28 630 14 1713) s m (List.map toV [.inr (.inr a0)]).toArray below meth c D cy z0 2 (MQ below (QI D cy z0 (fun v h1 => Okh h1 ∧ Fx wr_k_X3_readTape h h1 ∧ ((-2147483648) ≤ v ∧ v ≤ 2147483647) ∧ (ND h1) ∧ (v = 0 → Tg h1 (Rv h1 a0 13) = 6 ∧ RulesOk h1 (Rv h1 a0 13)))) (List.map toV [.inr (.inr a0)]).toArray s 14 1713 (Aof z0)) 42 [(0, .inr (.inr a0)), (1, .inl x114)] [] h115 13 213 := by
    intro μ
    induction μ using Nat.strongRecOn with
    | ind μ ih117 =>
      intro x114 h115 hm118 O119 F120 f121 p122
      have e123 : Rv h115 a0 13 = n1 := ((fxR F120 e105 rfl).trans e102)
      obtain ⟨v124, e125⟩ : ∃ z, Iv h115 a0 4 = z := ⟨_, rfl⟩
      have e126 : Tg h115 a0 = 4 := (fxT F120 e105)
      have f127 := ok_I O119 e126 rI_4_4 e125
      obtain ⟨v128, e129⟩ : ∃ z, Jv h115 a0 5 = z := ⟨_, rfl⟩
      have f130 := inL_J O119 e129
      obtain ⟨v131, e132⟩ : ∃ z, Rv h115 a0 6 = z := ⟨_, rfl⟩
      have p133 := p122.2.2.1
      rw [e125, e129] at p133
      have p134 := p122.2.2.2
      rw [e132] at p134
      refine g_iload_n C rfl 1 rfl dX3_readTape_42 ?_
      refine g_sipush C (by decide) dX3_readTape_43 ?_
      refine g_icmp_gt C (iw f121 (by decide) (by decide)) (iw (il 1500) (by decide) (by decide)) 74 (by decide) dX3_readTape_46 (fun q135 => ?_) (fun q136 => ?_)
      · have f137 : (1501 : Int) ≤ x114 ∧ x114 ≤ (1501 : Int) := r_gt f121 (il 1500) q135 (by decide) (by decide)
        refine g_aload_n C rfl 0 rfl dX3_readTape_74 ?_
        refine g_iconst C dX3_readTape_75 ?_
        refine gp_I C fk_LandSurvey_Reader_19 pk_LandSurvey_Reader_1 rfl e126 (iw (il 0) (by decide) (by decide)) (nf_i _) dX3_readTape_76 (fun h139 hh138 => ?_)
        have O140 := O119.pI e126 hh138 rI_4_1 (iw (il 0) (by decide) (by decide)) nofun
        refine g_aload_n C rfl 0 rfl dX3_readTape_79 ?_
        have e141 : Tg h139 a0 = 4 := ((pIT hh138).trans e126)
        obtain ⟨v142, e143⟩ : ∃ z, Iv h139 a0 7 = z := ⟨_, rfl⟩
        have f144 := ok_I O140 e141 rI_4_7 e143
        refine gf_I C fk_LandSurvey_Reader_33 rfl e141 e143 dX3_readTape_80 ?_
        refine g_if_ne C f144 111 (by decide) dX3_readTape_83 (fun q145 => ?_) (fun q146 => ?_)
        · have p147 := (DU_fx ((Fx.rf (wr := [801]) (h := h115)).pI e126 hh138 rfl) rfl rfl (DU_fx F120 rfl rfl (DU_fx F100 rfl rfl (DU_fx ((Fx.rf (wr := [810]) (h := h80)).pI e82 hh83 rfl) rfl rfl (DU_fx ((Fx.rf (wr := [809]) (h := h76)).pI e78 hh79 rfl) rfl rfl (DU_fx ((Fx.rf (wr := [812]) (h := h72)).pI e74 hh75 rfl) rfl rfl (DU_fx ((Fx.rf (wr := [807]) (h := h68)).pI e70 hh71 rfl) rfl rfl (DU_fx ((Fx.rf (wr := [802]) (h := h64)).pI e66 hh67 rfl) rfl rfl (DU_fx ((Fx.rf (wr := [813]) (h := h47)).pR e62 hh63 rfl) rfl rfl p60)))))))))
          have e148 : Tg h139 n1 = 2006 := ((pIT hh138).trans (fxT F120 (fxT F100 e94)))
          refine g_rt (T0 := 2005) (T1 := 3005) e148 rfl (fun h150 hh149 => ?_)
          have O151 := dead_rules O140 e148 hh149
          refine g_aload_n C rfl 0 rfl dX3_readTape_111 ?_
          have e152 : Tg h150 a0 = 4 := ((pTT hh149 (ne_tag e141 e148 (by decide))).trans e141)
          have e153 : Iv h150 a0 7 = v142 := ((pTI hh149).trans e143)
          refine gf_I C fk_LandSurvey_Reader_33 rfl e152 e153 dX3_readTape_112 ?_
          exact g_iret C hr rfl f144 ⟨O151, ((((((((((((Fx.rf (wr := wr_k_X3_readTape)).call F61 rfl).pR e62 hh63 rfl).pI e66 hh67 rfl).pI e70 hh71 rfl).pI e74 hh75 rfl).pI e78 hh79 rfl).pI e82 hh83 rfl).call F100 rfl).call F120 rfl).pI e126 hh138 rfl).pT z3 hh149 rfl), f144, (ND_rt p147 hh149 ⟨by decide, by decide⟩), (fun z => absurd z (by omega))⟩ (by decide) (by decide) dX3_readTape_115
        · have f154 : (0 : Int) ≤ v142 ∧ v142 ≤ (0 : Int) := ii f144 (r_eq (il 0) q146) (by decide) (by decide)
          refine g_aload_n C rfl 0 rfl dX3_readTape_86 ?_
          have e155 : Rv h139 a0 13 = n1 := ((pIR hh138).trans e123)
          refine gf_R C fk_LandSurvey_Reader_26 rfl e141 e155 dX3_readTape_87 ?_
          refine g_aload_n C rfl 0 rfl dX3_readTape_90 ?_
          obtain ⟨v156, e157⟩ : ∃ z, Rv h139 a0 11 = z := ⟨_, rfl⟩
          have t158 := ok_R O140 e141 rE_4_11 e157
          have l159 := ok_L O140 e141 rE_4_11 e157
          refine gf_R C fk_LandSurvey_Reader_15 rfl e141 e157 dX3_readTape_91 ?_
          refine g_aload_n C rfl 0 rfl dX3_readTape_94 ?_
          obtain ⟨v160, e161⟩ : ∃ z, Iv h139 a0 12 = z := ⟨_, rfl⟩
          have f162 := ok_I O140 e141 rI_4_12 e161
          refine gf_I C fk_LandSurvey_Reader_36 rfl e141 e161 dX3_readTape_95 ?_
          refine g_callR (st := [.inr (.inr n1)]) (gc_S C lk_LandSurvey_Reader_56 (k_J7_copyOf_59c91 l D cy w z0 O140 t158 l159 f162) rfl ⟨by decide, by decide⟩ (Nat.le_of_ble_eq_true rfl) dX3_readTape_98 ⟨(by decide), (by decide)⟩) (fun r163 h164 K165 => ?_)
          obtain ⟨O167, F168, p169, p170⟩ := K165
          obtain ⟨L171, l172⟩ : ∃ z, Ln h164 r163 = z := ⟨_, rfl⟩
          rw [l172] at p170
          have e173 : Tg h164 n1 = 2006 := (fxT F168 ((pIT hh138).trans (fxT F120 (fxT F100 e94))))
          refine gp_R C fk_LandSurvey_Reader_62 pk_LandSurvey_Rules_17 rfl e173 (nf_a _ _) dX3_readTape_101 (fun h175 hh174 => ?_)
          have O176 := O167.pR e173 hh174 (okR_o rE_2006_17 p169)
          refine g_aload_n C rfl 0 rfl dX3_readTape_104 ?_
          have e177 : Tg h175 a0 = 4 := ((pRT hh174).trans (fxT F168 e141))
          have e178 : Tg h164 a0 = 4 := (fxT F168 e141)
          have e179 : Rv h175 a0 13 = n1 := ((pR_n hh174 (ne_tag e178 e173 (by decide))).trans ((fxR F168 e141 rfl).trans e155))
          refine gf_R C fk_LandSurvey_Reader_26 rfl e177 e179 dX3_readTape_105 ?_
          have e180 : Tg h175 n1 = 2006 := ((pRT hh174).trans e173)
          refine g_callV (st := []) (gc_V C lk_LandSurvey_Reader_63 (k_X5_addUp l D cy w z0 O176 e180) e180 rfl rfl rfl ⟨by decide, by decide⟩ (Nat.le_of_ble_eq_true rfl) dX3_readTape_108 ⟨(by decide), (by decide)⟩) (fun h182 K183 => ?_)
          obtain ⟨O185, F186⟩ := K183
          have p187 := (DU_fx F186 rfl rfl (DU_fx ((Fx.rf (wr := [401217]) (h := h164)).pR e173 hh174 rfl) rfl rfl (DU_fx F168 rfl rfl (DU_fx ((Fx.rf (wr := [801]) (h := h115)).pI e126 hh138 rfl) rfl rfl (DU_fx F120 rfl rfl (DU_fx F100 rfl rfl (DU_fx ((Fx.rf (wr := [810]) (h := h80)).pI e82 hh83 rfl) rfl rfl (DU_fx ((Fx.rf (wr := [809]) (h := h76)).pI e78 hh79 rfl) rfl rfl (DU_fx ((Fx.rf (wr := [812]) (h := h72)).pI e74 hh75 rfl) rfl rfl (DU_fx ((Fx.rf (wr := [807]) (h := h68)).pI e70 hh71 rfl) rfl rfl (DU_fx ((Fx.rf (wr := [802]) (h := h64)).pI e66 hh67 rfl) rfl rfl (DU_fx ((Fx.rf (wr := [813]) (h := h47)).pR e62 hh63 rfl) rfl rfl p60))))))))))))
          have e188 : Tg h115 n1 = 2006 := (fxT F120 (fxT F100 e94))
          have e189 : Tg h139 n1 = 2006 := ((pIT hh138).trans e188)
          have e190 : Rv h164 a0 13 = n1 := ((fxR F168 e141 rfl).trans e155)
          have p191 := (DOk_fx O176 F186 e177 (by rw [e179]; exact e180) rfl (DOk_fx O167 ((Fx.rf (wr := [401217]) (h := h164)).pR e173 hh174 rfl) e178 (by rw [e190]; exact e173) rfl (DOk_fx O140 F168 e141 (by rw [e155]; exact e189) rfl (DOk_fx O119 ((Fx.rf (wr := [801]) (h := h115)).pI e126 hh138 rfl) e126 (by rw [e123]; exact e188) rfl p122.2.1))))
          have e192 : Rv h182 a0 13 = n1 := ((fxR F186 e177 rfl).trans e179)
          have e193 : Iv h182 a0 12 = v160 := ((fxI F186 e177 rfl).trans ((pRI hh174).trans ((fxI F168 e141 rfl).trans e161)))
          have e194 : Rv h182 n1 17 = r163 := ((fxR F186 e180 rfl).trans (pR_e hh174))
          have e195 : Tg h175 r163 = 36100 := ((pRT hh174).trans p169)
          have e196 : Ln h182 r163 = L171 := ((fxL F186 e195).trans ((pRL hh174).trans l172))
          have p197 := RO_of_DOk p191 e192 e194 (by rw [e196, e193]; omega)
          have e198 : Tg h182 n1 = 2006 := (fxT F186 e180)
          have e199 : Tg h96 n1 = 2006 := (fxT F100 e94)
          have e200 : Rv h182 n1 14 = v30 := ((fxR F186 e180 rfl).trans ((pR_j hh174 (by decide)).trans ((fxR F168 e189 rfl).trans ((pIR hh138).trans ((fxR F120 e199 rfl).trans ((fxR F100 e94 rfl).trans ((pIR hh83).trans ((pIR hh79).trans ((pIR hh75).trans ((pIR hh71).trans ((pIR hh67).trans ((pR_n hh63 (ne_tag (pT_T hh46) e62 (by decide))).trans e50))))))))))))
          have e201 : Rv h182 n1 15 = v36 := ((fxR F186 e180 rfl).trans ((pR_j hh174 (by decide)).trans ((fxR F168 e189 rfl).trans ((pIR hh138).trans ((fxR F120 e199 rfl).trans ((fxR F100 e94 rfl).trans ((pIR hh83).trans ((pIR hh79).trans ((pIR hh75).trans ((pIR hh71).trans ((pIR hh67).trans ((pR_n hh63 (ne_tag (pT_T hh46) e62 (by decide))).trans e53))))))))))))
          have e202 : Rv h182 n1 16 = v41 := ((fxR F186 e180 rfl).trans ((pR_j hh174 (by decide)).trans ((fxR F168 e189 rfl).trans ((pIR hh138).trans ((fxR F120 e199 rfl).trans ((fxR F100 e94 rfl).trans ((pIR hh83).trans ((pIR hh79).trans ((pIR hh75).trans ((pIR hh71).trans ((pIR hh67).trans ((pR_n hh63 (ne_tag (pT_T hh46) e62 (by decide))).trans e56))))))))))))
          refine g_rt (T0 := 2005) (T1 := 5) e198 rfl (fun h204 hh203 => ?_)
          have e205 : Tg h204 v30 = 31100 := ((pTT hh203 (ne_tag (fxT F186 ((pRT hh174).trans (fxT F168 ((pIT hh138).trans (fxT F120 (fxT F100 ((pIT hh83).trans ((pIT hh79).trans ((pIT hh75).trans ((pIT hh71).trans ((pIT hh67).trans ((pRT hh63).trans e51)))))))))))) e198 (by decide))).trans (fxT F186 ((pRT hh174).trans (fxT F168 ((pIT hh138).trans (fxT F120 (fxT F100 ((pIT hh83).trans ((pIT hh79).trans ((pIT hh75).trans ((pIT hh71).trans ((pIT hh67).trans ((pRT hh63).trans e51)))))))))))))
          refine g_rt (T0 := 31099) (T1 := 30099) e205 rfl (fun h207 hh206 => ?_)
          have e208 : Tg h207 v36 = 33100 := ((pTT hh206 (ne_tag ((pTT hh203 (ne_tag (fxT F186 ((pRT hh174).trans (fxT F168 ((pIT hh138).trans (fxT F120 (fxT F100 ((pIT hh83).trans ((pIT hh79).trans ((pIT hh75).trans ((pIT hh71).trans ((pIT hh67).trans ((pRT hh63).trans e54)))))))))))) e198 (by decide))).trans (fxT F186 ((pRT hh174).trans (fxT F168 ((pIT hh138).trans (fxT F120 (fxT F100 ((pIT hh83).trans ((pIT hh79).trans ((pIT hh75).trans ((pIT hh71).trans ((pIT hh67).trans ((pRT hh63).trans e54))))))))))))) e205 (by decide))).trans ((pTT hh203 (ne_tag (fxT F186 ((pRT hh174).trans (fxT F168 ((pIT hh138).trans (fxT F120 (fxT F100 ((pIT hh83).trans ((pIT hh79).trans ((pIT hh75).trans ((pIT hh71).trans ((pIT hh67).trans ((pRT hh63).trans e54)))))))))))) e198 (by decide))).trans (fxT F186 ((pRT hh174).trans (fxT F168 ((pIT hh138).trans (fxT F120 (fxT F100 ((pIT hh83).trans ((pIT hh79).trans ((pIT hh75).trans ((pIT hh71).trans ((pIT hh67).trans ((pRT hh63).trans e54))))))))))))))
          refine g_rt (T0 := 33099) (T1 := 32099) e208 rfl (fun h210 hh209 => ?_)
          have e211 : Tg h210 v41 = 35100 := ((pTT hh209 (ne_tag ((pTT hh206 (ne_tag ((pTT hh203 (ne_tag (fxT F186 ((pRT hh174).trans (fxT F168 ((pIT hh138).trans (fxT F120 (fxT F100 ((pIT hh83).trans ((pIT hh79).trans ((pIT hh75).trans ((pIT hh71).trans ((pIT hh67).trans ((pRT hh63).trans e57)))))))))))) e198 (by decide))).trans (fxT F186 ((pRT hh174).trans (fxT F168 ((pIT hh138).trans (fxT F120 (fxT F100 ((pIT hh83).trans ((pIT hh79).trans ((pIT hh75).trans ((pIT hh71).trans ((pIT hh67).trans ((pRT hh63).trans e57))))))))))))) e205 (by decide))).trans ((pTT hh203 (ne_tag (fxT F186 ((pRT hh174).trans (fxT F168 ((pIT hh138).trans (fxT F120 (fxT F100 ((pIT hh83).trans ((pIT hh79).trans ((pIT hh75).trans ((pIT hh71).trans ((pIT hh67).trans ((pRT hh63).trans e57)))))))))))) e198 (by decide))).trans (fxT F186 ((pRT hh174).trans (fxT F168 ((pIT hh138).trans (fxT F120 (fxT F100 ((pIT hh83).trans ((pIT hh79).trans ((pIT hh75).trans ((pIT hh71).trans ((pIT hh67).trans ((pRT hh63).trans e57)))))))))))))) e208 (by decide))).trans ((pTT hh206 (ne_tag ((pTT hh203 (ne_tag (fxT F186 ((pRT hh174).trans (fxT F168 ((pIT hh138).trans (fxT F120 (fxT F100 ((pIT hh83).trans ((pIT hh79).trans ((pIT hh75).trans ((pIT hh71).trans ((pIT hh67).trans ((pRT hh63).trans e57)))))))))))) e198 (by decide))).trans (fxT F186 ((pRT hh174).trans (fxT F168 ((pIT hh138).trans (fxT F120 (fxT F100 ((pIT hh83).trans ((pIT hh79).trans ((pIT hh75).trans ((pIT hh71).trans ((pIT hh67).trans ((pRT hh63).trans e57))))))))))))) e205 (by decide))).trans ((pTT hh203 (ne_tag (fxT F186 ((pRT hh174).trans (fxT F168 ((pIT hh138).trans (fxT F120 (fxT F100 ((pIT hh83).trans ((pIT hh79).trans ((pIT hh75).trans ((pIT hh71).trans ((pIT hh67).trans ((pRT hh63).trans e57)))))))))))) e198 (by decide))).trans (fxT F186 ((pRT hh174).trans (fxT F168 ((pIT hh138).trans (fxT F120 (fxT F100 ((pIT hh83).trans ((pIT hh79).trans ((pIT hh75).trans ((pIT hh71).trans ((pIT hh67).trans ((pRT hh63).trans e57)))))))))))))))
          refine g_rt (T0 := 35099) (T1 := 34099) e211 rfl (fun h213 hh212 => ?_)
          have O214 := fin_rules O185 p187 e198 e200 e201 e202 hh203 hh206 hh209 hh212
          have p215 := (ND_rt2 (ND_rt2 (ND_rt2 (ND_rt p187 hh203 ⟨by decide, by decide⟩) hh206 ⟨by decide, by decide⟩) hh209 ⟨by decide, by decide⟩) hh212 ⟨by decide, by decide⟩)
          have p216 := (RulesOk_rt hh212 (RulesOk_rt hh209 (RulesOk_rt hh206 (RulesOk_rt hh203 p197))))
          refine g_aload_n C rfl 0 rfl dX3_readTape_111 ?_
          have e217 : Tg h213 a0 = 4 := ((pTT hh212 (ne_tag ((pTT hh209 (ne_tag ((pTT hh206 (ne_tag ((pTT hh203 (ne_tag (fxT F186 e177) e198 (by decide))).trans (fxT F186 e177)) e205 (by decide))).trans ((pTT hh203 (ne_tag (fxT F186 e177) e198 (by decide))).trans (fxT F186 e177))) e208 (by decide))).trans ((pTT hh206 (ne_tag ((pTT hh203 (ne_tag (fxT F186 e177) e198 (by decide))).trans (fxT F186 e177)) e205 (by decide))).trans ((pTT hh203 (ne_tag (fxT F186 e177) e198 (by decide))).trans (fxT F186 e177)))) e211 (by decide))).trans ((pTT hh209 (ne_tag ((pTT hh206 (ne_tag ((pTT hh203 (ne_tag (fxT F186 e177) e198 (by decide))).trans (fxT F186 e177)) e205 (by decide))).trans ((pTT hh203 (ne_tag (fxT F186 e177) e198 (by decide))).trans (fxT F186 e177))) e208 (by decide))).trans ((pTT hh206 (ne_tag ((pTT hh203 (ne_tag (fxT F186 e177) e198 (by decide))).trans (fxT F186 e177)) e205 (by decide))).trans ((pTT hh203 (ne_tag (fxT F186 e177) e198 (by decide))).trans (fxT F186 e177)))))
          have e218 : Iv h213 a0 7 = v142 := ((pTI hh212).trans ((pTI hh209).trans ((pTI hh206).trans ((pTI hh203).trans ((fxI F186 e177 rfl).trans ((pRI hh174).trans ((fxI F168 e141 rfl).trans e143)))))))
          refine gf_I C fk_LandSurvey_Reader_33 rfl e217 e218 dX3_readTape_112 ?_
          have e219 : Rv h213 a0 13 = n1 := ((pTR hh212).trans ((pTR hh209).trans ((pTR hh206).trans ((pTR hh203).trans e192))))
          have e220 : Tg h213 n1 = 6 := ((pTT hh212 (ne_tag ((pTT hh209 (ne_tag ((pTT hh206 (ne_tag (pT_T hh203) e205 (by decide))).trans (pT_T hh203)) e208 (by decide))).trans ((pTT hh206 (ne_tag (pT_T hh203) e205 (by decide))).trans (pT_T hh203))) e211 (by decide))).trans ((pTT hh209 (ne_tag ((pTT hh206 (ne_tag (pT_T hh203) e205 (by decide))).trans (pT_T hh203)) e208 (by decide))).trans ((pTT hh206 (ne_tag (pT_T hh203) e205 (by decide))).trans (pT_T hh203))))
          exact g_iret C hr rfl (iw f154 (by decide) (by decide)) ⟨O214, ((((((((((((((((((Fx.rf (wr := wr_k_X3_readTape)).call F61 rfl).pR e62 hh63 rfl).pI e66 hh67 rfl).pI e70 hh71 rfl).pI e74 hh75 rfl).pI e78 hh79 rfl).pI e82 hh83 rfl).call F100 rfl).call F120 rfl).pI e126 hh138 rfl).call F168 rfl).pR e173 hh174 rfl).call F186 rfl).pT z3 hh203 rfl).pT (nt_of ((Fx.rf (wr := [1000001006])).pN z3 hh4 rfl) z35) hh206 rfl).pT (nt_of ((Fx.rf (wr := [1000001006])).pN z3 hh4 rfl) z40) hh209 rfl).pT (nt_of ((Fx.rf (wr := [1000001006])).pN z3 hh4 rfl) z45) hh212 rfl), (iw f154 (by decide) (by decide)), p215, (fun _ => ⟨by rw [e219]; exact e220, by rw [e219]; exact p216⟩)⟩ (by decide) (by decide) dX3_readTape_115
      · have f221 : (0 : Int) ≤ x114 ∧ x114 ≤ (1500 : Int) := r_le f121 (il 1500) q136 (by decide) (by decide)
        refine g_aload_n C rfl 0 rfl dX3_readTape_49 ?_
        refine gf_I C fk_LandSurvey_Reader_49 rfl e126 e125 dX3_readTape_50 ?_
        refine g_if_eq C (iw f127 (by decide) (by decide)) 74 (by decide) dX3_readTape_53 (fun q222 => ?_) (fun q223 => ?_)
        · have f224 : (0 : Int) ≤ v124 ∧ v124 ≤ (0 : Int) := ii f127 (r_eq (il 0) q222) (by decide) (by decide)
          refine g_aload_n C rfl 0 rfl dX3_readTape_74 ?_
          refine g_iconst C dX3_readTape_75 ?_
          refine gp_I C fk_LandSurvey_Reader_19 pk_LandSurvey_Reader_1 rfl e126 (iw (il 0) (by decide) (by decide)) (nf_i _) dX3_readTape_76 (fun h226 hh225 => ?_)
          have O227 := O119.pI e126 hh225 rI_4_1 (iw (il 0) (by decide) (by decide)) nofun
          refine g_aload_n C rfl 0 rfl dX3_readTape_79 ?_
          have e228 : Tg h226 a0 = 4 := ((pIT hh225).trans e126)
          obtain ⟨v229, e230⟩ : ∃ z, Iv h226 a0 7 = z := ⟨_, rfl⟩
          have f231 := ok_I O227 e228 rI_4_7 e230
          refine gf_I C fk_LandSurvey_Reader_33 rfl e228 e230 dX3_readTape_80 ?_
          refine g_if_ne C f231 111 (by decide) dX3_readTape_83 (fun q232 => ?_) (fun q233 => ?_)
          · have p234 := (DU_fx ((Fx.rf (wr := [801]) (h := h115)).pI e126 hh225 rfl) rfl rfl (DU_fx F120 rfl rfl (DU_fx F100 rfl rfl (DU_fx ((Fx.rf (wr := [810]) (h := h80)).pI e82 hh83 rfl) rfl rfl (DU_fx ((Fx.rf (wr := [809]) (h := h76)).pI e78 hh79 rfl) rfl rfl (DU_fx ((Fx.rf (wr := [812]) (h := h72)).pI e74 hh75 rfl) rfl rfl (DU_fx ((Fx.rf (wr := [807]) (h := h68)).pI e70 hh71 rfl) rfl rfl (DU_fx ((Fx.rf (wr := [802]) (h := h64)).pI e66 hh67 rfl) rfl rfl (DU_fx ((Fx.rf (wr := [813]) (h := h47)).pR e62 hh63 rfl) rfl rfl p60)))))))))
            have e235 : Tg h226 n1 = 2006 := ((pIT hh225).trans (fxT F120 (fxT F100 e94)))
            refine g_rt (T0 := 2005) (T1 := 3005) e235 rfl (fun h237 hh236 => ?_)
            have O238 := dead_rules O227 e235 hh236
            refine g_aload_n C rfl 0 rfl dX3_readTape_111 ?_
            have e239 : Tg h237 a0 = 4 := ((pTT hh236 (ne_tag e228 e235 (by decide))).trans e228)
            have e240 : Iv h237 a0 7 = v229 := ((pTI hh236).trans e230)
            refine gf_I C fk_LandSurvey_Reader_33 rfl e239 e240 dX3_readTape_112 ?_
            exact g_iret C hr rfl f231 ⟨O238, ((((((((((((Fx.rf (wr := wr_k_X3_readTape)).call F61 rfl).pR e62 hh63 rfl).pI e66 hh67 rfl).pI e70 hh71 rfl).pI e74 hh75 rfl).pI e78 hh79 rfl).pI e82 hh83 rfl).call F100 rfl).call F120 rfl).pI e126 hh225 rfl).pT z3 hh236 rfl), f231, (ND_rt p234 hh236 ⟨by decide, by decide⟩), (fun z => absurd z (by omega))⟩ (by decide) (by decide) dX3_readTape_115
          · have f241 : (0 : Int) ≤ v229 ∧ v229 ≤ (0 : Int) := ii f231 (r_eq (il 0) q233) (by decide) (by decide)
            refine g_aload_n C rfl 0 rfl dX3_readTape_86 ?_
            have e242 : Rv h226 a0 13 = n1 := ((pIR hh225).trans e123)
            refine gf_R C fk_LandSurvey_Reader_26 rfl e228 e242 dX3_readTape_87 ?_
            refine g_aload_n C rfl 0 rfl dX3_readTape_90 ?_
            obtain ⟨v243, e244⟩ : ∃ z, Rv h226 a0 11 = z := ⟨_, rfl⟩
            have t245 := ok_R O227 e228 rE_4_11 e244
            have l246 := ok_L O227 e228 rE_4_11 e244
            refine gf_R C fk_LandSurvey_Reader_15 rfl e228 e244 dX3_readTape_91 ?_
            refine g_aload_n C rfl 0 rfl dX3_readTape_94 ?_
            obtain ⟨v247, e248⟩ : ∃ z, Iv h226 a0 12 = z := ⟨_, rfl⟩
            have f249 := ok_I O227 e228 rI_4_12 e248
            refine gf_I C fk_LandSurvey_Reader_36 rfl e228 e248 dX3_readTape_95 ?_
            refine g_callR (st := [.inr (.inr n1)]) (gc_S C lk_LandSurvey_Reader_56 (k_J7_copyOf_59c91 l D cy w z0 O227 t245 l246 f249) rfl ⟨by decide, by decide⟩ (Nat.le_of_ble_eq_true rfl) dX3_readTape_98 ⟨(by decide), (by decide)⟩) (fun r250 h251 K252 => ?_)
            obtain ⟨O254, F255, p256, p257⟩ := K252
            obtain ⟨L258, l259⟩ : ∃ z, Ln h251 r250 = z := ⟨_, rfl⟩
            rw [l259] at p257
            have e260 : Tg h251 n1 = 2006 := (fxT F255 ((pIT hh225).trans (fxT F120 (fxT F100 e94))))
            refine gp_R C fk_LandSurvey_Reader_62 pk_LandSurvey_Rules_17 rfl e260 (nf_a _ _) dX3_readTape_101 (fun h262 hh261 => ?_)
            have O263 := O254.pR e260 hh261 (okR_o rE_2006_17 p256)
            refine g_aload_n C rfl 0 rfl dX3_readTape_104 ?_
            have e264 : Tg h262 a0 = 4 := ((pRT hh261).trans (fxT F255 e228))
            have e265 : Tg h251 a0 = 4 := (fxT F255 e228)
            have e266 : Rv h262 a0 13 = n1 := ((pR_n hh261 (ne_tag e265 e260 (by decide))).trans ((fxR F255 e228 rfl).trans e242))
            refine gf_R C fk_LandSurvey_Reader_26 rfl e264 e266 dX3_readTape_105 ?_
            have e267 : Tg h262 n1 = 2006 := ((pRT hh261).trans e260)
            refine g_callV (st := []) (gc_V C lk_LandSurvey_Reader_63 (k_X5_addUp l D cy w z0 O263 e267) e267 rfl rfl rfl ⟨by decide, by decide⟩ (Nat.le_of_ble_eq_true rfl) dX3_readTape_108 ⟨(by decide), (by decide)⟩) (fun h269 K270 => ?_)
            obtain ⟨O272, F273⟩ := K270
            have p274 := (DU_fx F273 rfl rfl (DU_fx ((Fx.rf (wr := [401217]) (h := h251)).pR e260 hh261 rfl) rfl rfl (DU_fx F255 rfl rfl (DU_fx ((Fx.rf (wr := [801]) (h := h115)).pI e126 hh225 rfl) rfl rfl (DU_fx F120 rfl rfl (DU_fx F100 rfl rfl (DU_fx ((Fx.rf (wr := [810]) (h := h80)).pI e82 hh83 rfl) rfl rfl (DU_fx ((Fx.rf (wr := [809]) (h := h76)).pI e78 hh79 rfl) rfl rfl (DU_fx ((Fx.rf (wr := [812]) (h := h72)).pI e74 hh75 rfl) rfl rfl (DU_fx ((Fx.rf (wr := [807]) (h := h68)).pI e70 hh71 rfl) rfl rfl (DU_fx ((Fx.rf (wr := [802]) (h := h64)).pI e66 hh67 rfl) rfl rfl (DU_fx ((Fx.rf (wr := [813]) (h := h47)).pR e62 hh63 rfl) rfl rfl p60))))))))))))
            have e275 : Tg h115 n1 = 2006 := (fxT F120 (fxT F100 e94))
            have e276 : Tg h226 n1 = 2006 := ((pIT hh225).trans e275)
            have e277 : Rv h251 a0 13 = n1 := ((fxR F255 e228 rfl).trans e242)
            have p278 := (DOk_fx O263 F273 e264 (by rw [e266]; exact e267) rfl (DOk_fx O254 ((Fx.rf (wr := [401217]) (h := h251)).pR e260 hh261 rfl) e265 (by rw [e277]; exact e260) rfl (DOk_fx O227 F255 e228 (by rw [e242]; exact e276) rfl (DOk_fx O119 ((Fx.rf (wr := [801]) (h := h115)).pI e126 hh225 rfl) e126 (by rw [e123]; exact e275) rfl p122.2.1))))
            have e279 : Rv h269 a0 13 = n1 := ((fxR F273 e264 rfl).trans e266)
            have e280 : Iv h269 a0 12 = v247 := ((fxI F273 e264 rfl).trans ((pRI hh261).trans ((fxI F255 e228 rfl).trans e248)))
            have e281 : Rv h269 n1 17 = r250 := ((fxR F273 e267 rfl).trans (pR_e hh261))
            have e282 : Tg h262 r250 = 36100 := ((pRT hh261).trans p256)
            have e283 : Ln h269 r250 = L258 := ((fxL F273 e282).trans ((pRL hh261).trans l259))
            have p284 := RO_of_DOk p278 e279 e281 (by rw [e283, e280]; omega)
            have e285 : Tg h269 n1 = 2006 := (fxT F273 e267)
            have e286 : Tg h96 n1 = 2006 := (fxT F100 e94)
            have e287 : Rv h269 n1 14 = v30 := ((fxR F273 e267 rfl).trans ((pR_j hh261 (by decide)).trans ((fxR F255 e276 rfl).trans ((pIR hh225).trans ((fxR F120 e286 rfl).trans ((fxR F100 e94 rfl).trans ((pIR hh83).trans ((pIR hh79).trans ((pIR hh75).trans ((pIR hh71).trans ((pIR hh67).trans ((pR_n hh63 (ne_tag (pT_T hh46) e62 (by decide))).trans e50))))))))))))
            have e288 : Rv h269 n1 15 = v36 := ((fxR F273 e267 rfl).trans ((pR_j hh261 (by decide)).trans ((fxR F255 e276 rfl).trans ((pIR hh225).trans ((fxR F120 e286 rfl).trans ((fxR F100 e94 rfl).trans ((pIR hh83).trans ((pIR hh79).trans ((pIR hh75).trans ((pIR hh71).trans ((pIR hh67).trans ((pR_n hh63 (ne_tag (pT_T hh46) e62 (by decide))).trans e53))))))))))))
            have e289 : Rv h269 n1 16 = v41 := ((fxR F273 e267 rfl).trans ((pR_j hh261 (by decide)).trans ((fxR F255 e276 rfl).trans ((pIR hh225).trans ((fxR F120 e286 rfl).trans ((fxR F100 e94 rfl).trans ((pIR hh83).trans ((pIR hh79).trans ((pIR hh75).trans ((pIR hh71).trans ((pIR hh67).trans ((pR_n hh63 (ne_tag (pT_T hh46) e62 (by decide))).trans e56))))))))))))
            refine g_rt (T0 := 2005) (T1 := 5) e285 rfl (fun h291 hh290 => ?_)
            have e292 : Tg h291 v30 = 31100 := ((pTT hh290 (ne_tag (fxT F273 ((pRT hh261).trans (fxT F255 ((pIT hh225).trans (fxT F120 (fxT F100 ((pIT hh83).trans ((pIT hh79).trans ((pIT hh75).trans ((pIT hh71).trans ((pIT hh67).trans ((pRT hh63).trans e51)))))))))))) e285 (by decide))).trans (fxT F273 ((pRT hh261).trans (fxT F255 ((pIT hh225).trans (fxT F120 (fxT F100 ((pIT hh83).trans ((pIT hh79).trans ((pIT hh75).trans ((pIT hh71).trans ((pIT hh67).trans ((pRT hh63).trans e51)))))))))))))
            refine g_rt (T0 := 31099) (T1 := 30099) e292 rfl (fun h294 hh293 => ?_)
            have e295 : Tg h294 v36 = 33100 := ((pTT hh293 (ne_tag ((pTT hh290 (ne_tag (fxT F273 ((pRT hh261).trans (fxT F255 ((pIT hh225).trans (fxT F120 (fxT F100 ((pIT hh83).trans ((pIT hh79).trans ((pIT hh75).trans ((pIT hh71).trans ((pIT hh67).trans ((pRT hh63).trans e54)))))))))))) e285 (by decide))).trans (fxT F273 ((pRT hh261).trans (fxT F255 ((pIT hh225).trans (fxT F120 (fxT F100 ((pIT hh83).trans ((pIT hh79).trans ((pIT hh75).trans ((pIT hh71).trans ((pIT hh67).trans ((pRT hh63).trans e54))))))))))))) e292 (by decide))).trans ((pTT hh290 (ne_tag (fxT F273 ((pRT hh261).trans (fxT F255 ((pIT hh225).trans (fxT F120 (fxT F100 ((pIT hh83).trans ((pIT hh79).trans ((pIT hh75).trans ((pIT hh71).trans ((pIT hh67).trans ((pRT hh63).trans e54)))))))))))) e285 (by decide))).trans (fxT F273 ((pRT hh261).trans (fxT F255 ((pIT hh225).trans (fxT F120 (fxT F100 ((pIT hh83).trans ((pIT hh79).trans ((pIT hh75).trans ((pIT hh71).trans ((pIT hh67).trans ((pRT hh63).trans e54))))))))))))))
            refine g_rt (T0 := 33099) (T1 := 32099) e295 rfl (fun h297 hh296 => ?_)
            have e298 : Tg h297 v41 = 35100 := ((pTT hh296 (ne_tag ((pTT hh293 (ne_tag ((pTT hh290 (ne_tag (fxT F273 ((pRT hh261).trans (fxT F255 ((pIT hh225).trans (fxT F120 (fxT F100 ((pIT hh83).trans ((pIT hh79).trans ((pIT hh75).trans ((pIT hh71).trans ((pIT hh67).trans ((pRT hh63).trans e57)))))))))))) e285 (by decide))).trans (fxT F273 ((pRT hh261).trans (fxT F255 ((pIT hh225).trans (fxT F120 (fxT F100 ((pIT hh83).trans ((pIT hh79).trans ((pIT hh75).trans ((pIT hh71).trans ((pIT hh67).trans ((pRT hh63).trans e57))))))))))))) e292 (by decide))).trans ((pTT hh290 (ne_tag (fxT F273 ((pRT hh261).trans (fxT F255 ((pIT hh225).trans (fxT F120 (fxT F100 ((pIT hh83).trans ((pIT hh79).trans ((pIT hh75).trans ((pIT hh71).trans ((pIT hh67).trans ((pRT hh63).trans e57)))))))))))) e285 (by decide))).trans (fxT F273 ((pRT hh261).trans (fxT F255 ((pIT hh225).trans (fxT F120 (fxT F100 ((pIT hh83).trans ((pIT hh79).trans ((pIT hh75).trans ((pIT hh71).trans ((pIT hh67).trans ((pRT hh63).trans e57)))))))))))))) e295 (by decide))).trans ((pTT hh293 (ne_tag ((pTT hh290 (ne_tag (fxT F273 ((pRT hh261).trans (fxT F255 ((pIT hh225).trans (fxT F120 (fxT F100 ((pIT hh83).trans ((pIT hh79).trans ((pIT hh75).trans ((pIT hh71).trans ((pIT hh67).trans ((pRT hh63).trans e57)))))))))))) e285 (by decide))).trans (fxT F273 ((pRT hh261).trans (fxT F255 ((pIT hh225).trans (fxT F120 (fxT F100 ((pIT hh83).trans ((pIT hh79).trans ((pIT hh75).trans ((pIT hh71).trans ((pIT hh67).trans ((pRT hh63).trans e57))))))))))))) e292 (by decide))).trans ((pTT hh290 (ne_tag (fxT F273 ((pRT hh261).trans (fxT F255 ((pIT hh225).trans (fxT F120 (fxT F100 ((pIT hh83).trans ((pIT hh79).trans ((pIT hh75).trans ((pIT hh71).trans ((pIT hh67).trans ((pRT hh63).trans e57)))))))))))) e285 (by decide))).trans (fxT F273 ((pRT hh261).trans (fxT F255 ((pIT hh225).trans (fxT F120 (fxT F100 ((pIT hh83).trans ((pIT hh79).trans ((pIT hh75).trans ((pIT hh71).trans ((pIT hh67).trans ((pRT hh63).trans e57)))))))))))))))
            refine g_rt (T0 := 35099) (T1 := 34099) e298 rfl (fun h300 hh299 => ?_)
            have O301 := fin_rules O272 p274 e285 e287 e288 e289 hh290 hh293 hh296 hh299
            have p302 := (ND_rt2 (ND_rt2 (ND_rt2 (ND_rt p274 hh290 ⟨by decide, by decide⟩) hh293 ⟨by decide, by decide⟩) hh296 ⟨by decide, by decide⟩) hh299 ⟨by decide, by decide⟩)
            have p303 := (RulesOk_rt hh299 (RulesOk_rt hh296 (RulesOk_rt hh293 (RulesOk_rt hh290 p284))))
            refine g_aload_n C rfl 0 rfl dX3_readTape_111 ?_
            have e304 : Tg h300 a0 = 4 := ((pTT hh299 (ne_tag ((pTT hh296 (ne_tag ((pTT hh293 (ne_tag ((pTT hh290 (ne_tag (fxT F273 e264) e285 (by decide))).trans (fxT F273 e264)) e292 (by decide))).trans ((pTT hh290 (ne_tag (fxT F273 e264) e285 (by decide))).trans (fxT F273 e264))) e295 (by decide))).trans ((pTT hh293 (ne_tag ((pTT hh290 (ne_tag (fxT F273 e264) e285 (by decide))).trans (fxT F273 e264)) e292 (by decide))).trans ((pTT hh290 (ne_tag (fxT F273 e264) e285 (by decide))).trans (fxT F273 e264)))) e298 (by decide))).trans ((pTT hh296 (ne_tag ((pTT hh293 (ne_tag ((pTT hh290 (ne_tag (fxT F273 e264) e285 (by decide))).trans (fxT F273 e264)) e292 (by decide))).trans ((pTT hh290 (ne_tag (fxT F273 e264) e285 (by decide))).trans (fxT F273 e264))) e295 (by decide))).trans ((pTT hh293 (ne_tag ((pTT hh290 (ne_tag (fxT F273 e264) e285 (by decide))).trans (fxT F273 e264)) e292 (by decide))).trans ((pTT hh290 (ne_tag (fxT F273 e264) e285 (by decide))).trans (fxT F273 e264)))))
            have e305 : Iv h300 a0 7 = v229 := ((pTI hh299).trans ((pTI hh296).trans ((pTI hh293).trans ((pTI hh290).trans ((fxI F273 e264 rfl).trans ((pRI hh261).trans ((fxI F255 e228 rfl).trans e230)))))))
            refine gf_I C fk_LandSurvey_Reader_33 rfl e304 e305 dX3_readTape_112 ?_
            have e306 : Rv h300 a0 13 = n1 := ((pTR hh299).trans ((pTR hh296).trans ((pTR hh293).trans ((pTR hh290).trans e279))))
            have e307 : Tg h300 n1 = 6 := ((pTT hh299 (ne_tag ((pTT hh296 (ne_tag ((pTT hh293 (ne_tag (pT_T hh290) e292 (by decide))).trans (pT_T hh290)) e295 (by decide))).trans ((pTT hh293 (ne_tag (pT_T hh290) e292 (by decide))).trans (pT_T hh290))) e298 (by decide))).trans ((pTT hh296 (ne_tag ((pTT hh293 (ne_tag (pT_T hh290) e292 (by decide))).trans (pT_T hh290)) e295 (by decide))).trans ((pTT hh293 (ne_tag (pT_T hh290) e292 (by decide))).trans (pT_T hh290))))
            exact g_iret C hr rfl (iw f241 (by decide) (by decide)) ⟨O301, ((((((((((((((((((Fx.rf (wr := wr_k_X3_readTape)).call F61 rfl).pR e62 hh63 rfl).pI e66 hh67 rfl).pI e70 hh71 rfl).pI e74 hh75 rfl).pI e78 hh79 rfl).pI e82 hh83 rfl).call F100 rfl).call F120 rfl).pI e126 hh225 rfl).call F255 rfl).pR e260 hh261 rfl).call F273 rfl).pT z3 hh290 rfl).pT (nt_of ((Fx.rf (wr := [1000001006])).pN z3 hh4 rfl) z35) hh293 rfl).pT (nt_of ((Fx.rf (wr := [1000001006])).pN z3 hh4 rfl) z40) hh296 rfl).pT (nt_of ((Fx.rf (wr := [1000001006])).pN z3 hh4 rfl) z45) hh299 rfl), (iw f241 (by decide) (by decide)), p302, (fun _ => ⟨by rw [e306]; exact e307, by rw [e306]; exact p303⟩)⟩ (by decide) (by decide) dX3_readTape_115
        · have f308 : (1 : Int) ≤ v124 ∧ v124 ≤ (4 : Int) := r_nl f127 q223
          refine g_aload_n C rfl 0 rfl dX3_readTape_56 ?_
          obtain ⟨v309, e310⟩ : ∃ z, Iv h115 a0 7 = z := ⟨_, rfl⟩
          have f311 := ok_I O119 e126 rI_4_7 e310
          refine gf_I C fk_LandSurvey_Reader_33 rfl e126 e310 dX3_readTape_57 ?_
          refine g_if_ne C f311 74 (by decide) dX3_readTape_60 (fun q312 => ?_) (fun q313 => ?_)
          · refine g_aload_n C rfl 0 rfl dX3_readTape_74 ?_
            refine g_iconst C dX3_readTape_75 ?_
            refine gp_I C fk_LandSurvey_Reader_19 pk_LandSurvey_Reader_1 rfl e126 (iw (il 0) (by decide) (by decide)) (nf_i _) dX3_readTape_76 (fun h315 hh314 => ?_)
            have O316 := O119.pI e126 hh314 rI_4_1 (iw (il 0) (by decide) (by decide)) nofun
            refine g_aload_n C rfl 0 rfl dX3_readTape_79 ?_
            have e317 : Tg h315 a0 = 4 := ((pIT hh314).trans e126)
            have e318 : Iv h315 a0 7 = v309 := ((pI_j hh314 (by decide)).trans e310)
            refine gf_I C fk_LandSurvey_Reader_33 rfl e317 e318 dX3_readTape_80 ?_
            refine g_if_ne C f311 111 (by decide) dX3_readTape_83 (fun q319 => ?_) (fun q320 => ?_)
            · have p321 := (DU_fx ((Fx.rf (wr := [801]) (h := h115)).pI e126 hh314 rfl) rfl rfl (DU_fx F120 rfl rfl (DU_fx F100 rfl rfl (DU_fx ((Fx.rf (wr := [810]) (h := h80)).pI e82 hh83 rfl) rfl rfl (DU_fx ((Fx.rf (wr := [809]) (h := h76)).pI e78 hh79 rfl) rfl rfl (DU_fx ((Fx.rf (wr := [812]) (h := h72)).pI e74 hh75 rfl) rfl rfl (DU_fx ((Fx.rf (wr := [807]) (h := h68)).pI e70 hh71 rfl) rfl rfl (DU_fx ((Fx.rf (wr := [802]) (h := h64)).pI e66 hh67 rfl) rfl rfl (DU_fx ((Fx.rf (wr := [813]) (h := h47)).pR e62 hh63 rfl) rfl rfl p60)))))))))
              have e322 : Tg h315 n1 = 2006 := ((pIT hh314).trans (fxT F120 (fxT F100 e94)))
              refine g_rt (T0 := 2005) (T1 := 3005) e322 rfl (fun h324 hh323 => ?_)
              have O325 := dead_rules O316 e322 hh323
              refine g_aload_n C rfl 0 rfl dX3_readTape_111 ?_
              have e326 : Tg h324 a0 = 4 := ((pTT hh323 (ne_tag e317 e322 (by decide))).trans e317)
              have e327 : Iv h324 a0 7 = v309 := ((pTI hh323).trans e318)
              refine gf_I C fk_LandSurvey_Reader_33 rfl e326 e327 dX3_readTape_112 ?_
              exact g_iret C hr rfl f311 ⟨O325, ((((((((((((Fx.rf (wr := wr_k_X3_readTape)).call F61 rfl).pR e62 hh63 rfl).pI e66 hh67 rfl).pI e70 hh71 rfl).pI e74 hh75 rfl).pI e78 hh79 rfl).pI e82 hh83 rfl).call F100 rfl).call F120 rfl).pI e126 hh314 rfl).pT z3 hh323 rfl), f311, (ND_rt p321 hh323 ⟨by decide, by decide⟩), (fun z => absurd z (by omega))⟩ (by decide) (by decide) dX3_readTape_115
            · have f328 : (0 : Int) ≤ v309 ∧ v309 ≤ (0 : Int) := ii f311 (r_eq (il 0) q320) (by decide) (by decide)
              refine g_aload_n C rfl 0 rfl dX3_readTape_86 ?_
              have e329 : Rv h315 a0 13 = n1 := ((pIR hh314).trans e123)
              refine gf_R C fk_LandSurvey_Reader_26 rfl e317 e329 dX3_readTape_87 ?_
              refine g_aload_n C rfl 0 rfl dX3_readTape_90 ?_
              obtain ⟨v330, e331⟩ : ∃ z, Rv h315 a0 11 = z := ⟨_, rfl⟩
              have t332 := ok_R O316 e317 rE_4_11 e331
              have l333 := ok_L O316 e317 rE_4_11 e331
              refine gf_R C fk_LandSurvey_Reader_15 rfl e317 e331 dX3_readTape_91 ?_
              refine g_aload_n C rfl 0 rfl dX3_readTape_94 ?_
              obtain ⟨v334, e335⟩ : ∃ z, Iv h315 a0 12 = z := ⟨_, rfl⟩
              have f336 := ok_I O316 e317 rI_4_12 e335
              refine gf_I C fk_LandSurvey_Reader_36 rfl e317 e335 dX3_readTape_95 ?_
              refine g_callR (st := [.inr (.inr n1)]) (gc_S C lk_LandSurvey_Reader_56 (k_J7_copyOf_59c91 l D cy w z0 O316 t332 l333 f336) rfl ⟨by decide, by decide⟩ (Nat.le_of_ble_eq_true rfl) dX3_readTape_98 ⟨(by decide), (by decide)⟩) (fun r337 h338 K339 => ?_)
              obtain ⟨O341, F342, p343, p344⟩ := K339
              obtain ⟨L345, l346⟩ : ∃ z, Ln h338 r337 = z := ⟨_, rfl⟩
              rw [l346] at p344
              have e347 : Tg h338 n1 = 2006 := (fxT F342 ((pIT hh314).trans (fxT F120 (fxT F100 e94))))
              refine gp_R C fk_LandSurvey_Reader_62 pk_LandSurvey_Rules_17 rfl e347 (nf_a _ _) dX3_readTape_101 (fun h349 hh348 => ?_)
              have O350 := O341.pR e347 hh348 (okR_o rE_2006_17 p343)
              refine g_aload_n C rfl 0 rfl dX3_readTape_104 ?_
              have e351 : Tg h349 a0 = 4 := ((pRT hh348).trans (fxT F342 e317))
              have e352 : Tg h338 a0 = 4 := (fxT F342 e317)
              have e353 : Rv h349 a0 13 = n1 := ((pR_n hh348 (ne_tag e352 e347 (by decide))).trans ((fxR F342 e317 rfl).trans e329))
              refine gf_R C fk_LandSurvey_Reader_26 rfl e351 e353 dX3_readTape_105 ?_
              have e354 : Tg h349 n1 = 2006 := ((pRT hh348).trans e347)
              refine g_callV (st := []) (gc_V C lk_LandSurvey_Reader_63 (k_X5_addUp l D cy w z0 O350 e354) e354 rfl rfl rfl ⟨by decide, by decide⟩ (Nat.le_of_ble_eq_true rfl) dX3_readTape_108 ⟨(by decide), (by decide)⟩) (fun h356 K357 => ?_)
              obtain ⟨O359, F360⟩ := K357
              have p361 := (DU_fx F360 rfl rfl (DU_fx ((Fx.rf (wr := [401217]) (h := h338)).pR e347 hh348 rfl) rfl rfl (DU_fx F342 rfl rfl (DU_fx ((Fx.rf (wr := [801]) (h := h115)).pI e126 hh314 rfl) rfl rfl (DU_fx F120 rfl rfl (DU_fx F100 rfl rfl (DU_fx ((Fx.rf (wr := [810]) (h := h80)).pI e82 hh83 rfl) rfl rfl (DU_fx ((Fx.rf (wr := [809]) (h := h76)).pI e78 hh79 rfl) rfl rfl (DU_fx ((Fx.rf (wr := [812]) (h := h72)).pI e74 hh75 rfl) rfl rfl (DU_fx ((Fx.rf (wr := [807]) (h := h68)).pI e70 hh71 rfl) rfl rfl (DU_fx ((Fx.rf (wr := [802]) (h := h64)).pI e66 hh67 rfl) rfl rfl (DU_fx ((Fx.rf (wr := [813]) (h := h47)).pR e62 hh63 rfl) rfl rfl p60))))))))))))
              have e362 : Tg h115 n1 = 2006 := (fxT F120 (fxT F100 e94))
              have e363 : Tg h315 n1 = 2006 := ((pIT hh314).trans e362)
              have e364 : Rv h338 a0 13 = n1 := ((fxR F342 e317 rfl).trans e329)
              have p365 := (DOk_fx O350 F360 e351 (by rw [e353]; exact e354) rfl (DOk_fx O341 ((Fx.rf (wr := [401217]) (h := h338)).pR e347 hh348 rfl) e352 (by rw [e364]; exact e347) rfl (DOk_fx O316 F342 e317 (by rw [e329]; exact e363) rfl (DOk_fx O119 ((Fx.rf (wr := [801]) (h := h115)).pI e126 hh314 rfl) e126 (by rw [e123]; exact e362) rfl p122.2.1))))
              have e366 : Rv h356 a0 13 = n1 := ((fxR F360 e351 rfl).trans e353)
              have e367 : Iv h356 a0 12 = v334 := ((fxI F360 e351 rfl).trans ((pRI hh348).trans ((fxI F342 e317 rfl).trans e335)))
              have e368 : Rv h356 n1 17 = r337 := ((fxR F360 e354 rfl).trans (pR_e hh348))
              have e369 : Tg h349 r337 = 36100 := ((pRT hh348).trans p343)
              have e370 : Ln h356 r337 = L345 := ((fxL F360 e369).trans ((pRL hh348).trans l346))
              have p371 := RO_of_DOk p365 e366 e368 (by rw [e370, e367]; omega)
              have e372 : Tg h356 n1 = 2006 := (fxT F360 e354)
              have e373 : Tg h96 n1 = 2006 := (fxT F100 e94)
              have e374 : Rv h356 n1 14 = v30 := ((fxR F360 e354 rfl).trans ((pR_j hh348 (by decide)).trans ((fxR F342 e363 rfl).trans ((pIR hh314).trans ((fxR F120 e373 rfl).trans ((fxR F100 e94 rfl).trans ((pIR hh83).trans ((pIR hh79).trans ((pIR hh75).trans ((pIR hh71).trans ((pIR hh67).trans ((pR_n hh63 (ne_tag (pT_T hh46) e62 (by decide))).trans e50))))))))))))
              have e375 : Rv h356 n1 15 = v36 := ((fxR F360 e354 rfl).trans ((pR_j hh348 (by decide)).trans ((fxR F342 e363 rfl).trans ((pIR hh314).trans ((fxR F120 e373 rfl).trans ((fxR F100 e94 rfl).trans ((pIR hh83).trans ((pIR hh79).trans ((pIR hh75).trans ((pIR hh71).trans ((pIR hh67).trans ((pR_n hh63 (ne_tag (pT_T hh46) e62 (by decide))).trans e53))))))))))))
              have e376 : Rv h356 n1 16 = v41 := ((fxR F360 e354 rfl).trans ((pR_j hh348 (by decide)).trans ((fxR F342 e363 rfl).trans ((pIR hh314).trans ((fxR F120 e373 rfl).trans ((fxR F100 e94 rfl).trans ((pIR hh83).trans ((pIR hh79).trans ((pIR hh75).trans ((pIR hh71).trans ((pIR hh67).trans ((pR_n hh63 (ne_tag (pT_T hh46) e62 (by decide))).trans e56))))))))))))
              refine g_rt (T0 := 2005) (T1 := 5) e372 rfl (fun h378 hh377 => ?_)
              have e379 : Tg h378 v30 = 31100 := ((pTT hh377 (ne_tag (fxT F360 ((pRT hh348).trans (fxT F342 ((pIT hh314).trans (fxT F120 (fxT F100 ((pIT hh83).trans ((pIT hh79).trans ((pIT hh75).trans ((pIT hh71).trans ((pIT hh67).trans ((pRT hh63).trans e51)))))))))))) e372 (by decide))).trans (fxT F360 ((pRT hh348).trans (fxT F342 ((pIT hh314).trans (fxT F120 (fxT F100 ((pIT hh83).trans ((pIT hh79).trans ((pIT hh75).trans ((pIT hh71).trans ((pIT hh67).trans ((pRT hh63).trans e51)))))))))))))
              refine g_rt (T0 := 31099) (T1 := 30099) e379 rfl (fun h381 hh380 => ?_)
              have e382 : Tg h381 v36 = 33100 := ((pTT hh380 (ne_tag ((pTT hh377 (ne_tag (fxT F360 ((pRT hh348).trans (fxT F342 ((pIT hh314).trans (fxT F120 (fxT F100 ((pIT hh83).trans ((pIT hh79).trans ((pIT hh75).trans ((pIT hh71).trans ((pIT hh67).trans ((pRT hh63).trans e54)))))))))))) e372 (by decide))).trans (fxT F360 ((pRT hh348).trans (fxT F342 ((pIT hh314).trans (fxT F120 (fxT F100 ((pIT hh83).trans ((pIT hh79).trans ((pIT hh75).trans ((pIT hh71).trans ((pIT hh67).trans ((pRT hh63).trans e54))))))))))))) e379 (by decide))).trans ((pTT hh377 (ne_tag (fxT F360 ((pRT hh348).trans (fxT F342 ((pIT hh314).trans (fxT F120 (fxT F100 ((pIT hh83).trans ((pIT hh79).trans ((pIT hh75).trans ((pIT hh71).trans ((pIT hh67).trans ((pRT hh63).trans e54)))))))))))) e372 (by decide))).trans (fxT F360 ((pRT hh348).trans (fxT F342 ((pIT hh314).trans (fxT F120 (fxT F100 ((pIT hh83).trans ((pIT hh79).trans ((pIT hh75).trans ((pIT hh71).trans ((pIT hh67).trans ((pRT hh63).trans e54))))))))))))))
              refine g_rt (T0 := 33099) (T1 := 32099) e382 rfl (fun h384 hh383 => ?_)
              have e385 : Tg h384 v41 = 35100 := ((pTT hh383 (ne_tag ((pTT hh380 (ne_tag ((pTT hh377 (ne_tag (fxT F360 ((pRT hh348).trans (fxT F342 ((pIT hh314).trans (fxT F120 (fxT F100 ((pIT hh83).trans ((pIT hh79).trans ((pIT hh75).trans ((pIT hh71).trans ((pIT hh67).trans ((pRT hh63).trans e57)))))))))))) e372 (by decide))).trans (fxT F360 ((pRT hh348).trans (fxT F342 ((pIT hh314).trans (fxT F120 (fxT F100 ((pIT hh83).trans ((pIT hh79).trans ((pIT hh75).trans ((pIT hh71).trans ((pIT hh67).trans ((pRT hh63).trans e57))))))))))))) e379 (by decide))).trans ((pTT hh377 (ne_tag (fxT F360 ((pRT hh348).trans (fxT F342 ((pIT hh314).trans (fxT F120 (fxT F100 ((pIT hh83).trans ((pIT hh79).trans ((pIT hh75).trans ((pIT hh71).trans ((pIT hh67).trans ((pRT hh63).trans e57)))))))))))) e372 (by decide))).trans (fxT F360 ((pRT hh348).trans (fxT F342 ((pIT hh314).trans (fxT F120 (fxT F100 ((pIT hh83).trans ((pIT hh79).trans ((pIT hh75).trans ((pIT hh71).trans ((pIT hh67).trans ((pRT hh63).trans e57)))))))))))))) e382 (by decide))).trans ((pTT hh380 (ne_tag ((pTT hh377 (ne_tag (fxT F360 ((pRT hh348).trans (fxT F342 ((pIT hh314).trans (fxT F120 (fxT F100 ((pIT hh83).trans ((pIT hh79).trans ((pIT hh75).trans ((pIT hh71).trans ((pIT hh67).trans ((pRT hh63).trans e57)))))))))))) e372 (by decide))).trans (fxT F360 ((pRT hh348).trans (fxT F342 ((pIT hh314).trans (fxT F120 (fxT F100 ((pIT hh83).trans ((pIT hh79).trans ((pIT hh75).trans ((pIT hh71).trans ((pIT hh67).trans ((pRT hh63).trans e57))))))))))))) e379 (by decide))).trans ((pTT hh377 (ne_tag (fxT F360 ((pRT hh348).trans (fxT F342 ((pIT hh314).trans (fxT F120 (fxT F100 ((pIT hh83).trans ((pIT hh79).trans ((pIT hh75).trans ((pIT hh71).trans ((pIT hh67).trans ((pRT hh63).trans e57)))))))))))) e372 (by decide))).trans (fxT F360 ((pRT hh348).trans (fxT F342 ((pIT hh314).trans (fxT F120 (fxT F100 ((pIT hh83).trans ((pIT hh79).trans ((pIT hh75).trans ((pIT hh71).trans ((pIT hh67).trans ((pRT hh63).trans e57)))))))))))))))
              refine g_rt (T0 := 35099) (T1 := 34099) e385 rfl (fun h387 hh386 => ?_)
              have O388 := fin_rules O359 p361 e372 e374 e375 e376 hh377 hh380 hh383 hh386
              have p389 := (ND_rt2 (ND_rt2 (ND_rt2 (ND_rt p361 hh377 ⟨by decide, by decide⟩) hh380 ⟨by decide, by decide⟩) hh383 ⟨by decide, by decide⟩) hh386 ⟨by decide, by decide⟩)
              have p390 := (RulesOk_rt hh386 (RulesOk_rt hh383 (RulesOk_rt hh380 (RulesOk_rt hh377 p371))))
              refine g_aload_n C rfl 0 rfl dX3_readTape_111 ?_
              have e391 : Tg h387 a0 = 4 := ((pTT hh386 (ne_tag ((pTT hh383 (ne_tag ((pTT hh380 (ne_tag ((pTT hh377 (ne_tag (fxT F360 e351) e372 (by decide))).trans (fxT F360 e351)) e379 (by decide))).trans ((pTT hh377 (ne_tag (fxT F360 e351) e372 (by decide))).trans (fxT F360 e351))) e382 (by decide))).trans ((pTT hh380 (ne_tag ((pTT hh377 (ne_tag (fxT F360 e351) e372 (by decide))).trans (fxT F360 e351)) e379 (by decide))).trans ((pTT hh377 (ne_tag (fxT F360 e351) e372 (by decide))).trans (fxT F360 e351)))) e385 (by decide))).trans ((pTT hh383 (ne_tag ((pTT hh380 (ne_tag ((pTT hh377 (ne_tag (fxT F360 e351) e372 (by decide))).trans (fxT F360 e351)) e379 (by decide))).trans ((pTT hh377 (ne_tag (fxT F360 e351) e372 (by decide))).trans (fxT F360 e351))) e382 (by decide))).trans ((pTT hh380 (ne_tag ((pTT hh377 (ne_tag (fxT F360 e351) e372 (by decide))).trans (fxT F360 e351)) e379 (by decide))).trans ((pTT hh377 (ne_tag (fxT F360 e351) e372 (by decide))).trans (fxT F360 e351)))))
              have e392 : Iv h387 a0 7 = v309 := ((pTI hh386).trans ((pTI hh383).trans ((pTI hh380).trans ((pTI hh377).trans ((fxI F360 e351 rfl).trans ((pRI hh348).trans ((fxI F342 e317 rfl).trans e318)))))))
              refine gf_I C fk_LandSurvey_Reader_33 rfl e391 e392 dX3_readTape_112 ?_
              have e393 : Rv h387 a0 13 = n1 := ((pTR hh386).trans ((pTR hh383).trans ((pTR hh380).trans ((pTR hh377).trans e366))))
              have e394 : Tg h387 n1 = 6 := ((pTT hh386 (ne_tag ((pTT hh383 (ne_tag ((pTT hh380 (ne_tag (pT_T hh377) e379 (by decide))).trans (pT_T hh377)) e382 (by decide))).trans ((pTT hh380 (ne_tag (pT_T hh377) e379 (by decide))).trans (pT_T hh377))) e385 (by decide))).trans ((pTT hh383 (ne_tag ((pTT hh380 (ne_tag (pT_T hh377) e379 (by decide))).trans (pT_T hh377)) e382 (by decide))).trans ((pTT hh380 (ne_tag (pT_T hh377) e379 (by decide))).trans (pT_T hh377))))
              exact g_iret C hr rfl (iw f328 (by decide) (by decide)) ⟨O388, ((((((((((((((((((Fx.rf (wr := wr_k_X3_readTape)).call F61 rfl).pR e62 hh63 rfl).pI e66 hh67 rfl).pI e70 hh71 rfl).pI e74 hh75 rfl).pI e78 hh79 rfl).pI e82 hh83 rfl).call F100 rfl).call F120 rfl).pI e126 hh314 rfl).call F342 rfl).pR e347 hh348 rfl).call F360 rfl).pT z3 hh377 rfl).pT (nt_of ((Fx.rf (wr := [1000001006])).pN z3 hh4 rfl) z35) hh380 rfl).pT (nt_of ((Fx.rf (wr := [1000001006])).pN z3 hh4 rfl) z40) hh383 rfl).pT (nt_of ((Fx.rf (wr := [1000001006])).pN z3 hh4 rfl) z45) hh386 rfl), (iw f328 (by decide) (by decide)), p389, (fun _ => ⟨by rw [e393]; exact e394, by rw [e393]; exact p390⟩)⟩ (by decide) (by decide) dX3_readTape_115
          · have f395 : (0 : Int) ≤ v309 ∧ v309 ≤ (0 : Int) := ii f311 (r_eq (il 0) q313) (by decide) (by decide)
            refine g_aload_n C rfl 0 rfl dX3_readTape_63 ?_
            have e396 : Tg h115 n1 = 2006 := (fxT F120 (fxT F100 e94))
            refine g_callI (st := []) (gc_V C lk_LandSurvey_Reader_52 (k_X3_readRule l D cy w z0 O119 e126 (by unfold RInv; rw [e123, e125, e129, e132]; exact ⟨e396, p122.2.1, p133, p134⟩)) e126 rfl rfl rfl ⟨by decide, by decide⟩ (Nat.le_of_ble_eq_true rfl) dX3_readTape_64 ⟨(by decide), (by decide)⟩) (fun r397 h398 f400 K399 => ?_)
            obtain ⟨O401, F402, f403, p404⟩ := K399
            have e405 : Rv h398 a0 13 = n1 := ((fxR F402 e126 rfl).trans e123)
            obtain ⟨v406, e407⟩ : ∃ z, Iv h398 a0 4 = z := ⟨_, rfl⟩
            have e408 : Tg h398 a0 = 4 := (fxT F402 e126)
            have f409 := ok_I O401 e408 rI_4_4 e407
            obtain ⟨v410, e411⟩ : ∃ z, Jv h398 a0 5 = z := ⟨_, rfl⟩
            have f412 := inL_J O401 e411
            obtain ⟨v413, e414⟩ : ∃ z, Rv h398 a0 6 = z := ⟨_, rfl⟩
            have p415 := p404.2.2.1
            rw [e407, e411] at p415
            have p416 := p404.2.2.2
            rw [e414] at p416
            refine g_pop C rfl dX3_readTape_67 ?_
            have f417 : (1 : Int) ≤ (x114 + 1) ∧ (x114 + 1) ≤ (1501 : Int) := ia_add f221 (il 1) (by decide) (by decide)
            refine g_iinc C [(1, .inl (x114 + 1)), (0, .inr (.inr a0))] 1 rfl (by decide) rfl dX3_readTape_68 ?_
            refine g_goto C 42 (by decide) dX3_readTape_71 ?_
            refine GW.sub [1, 0] rfl ?_
            have e418 : Tg h398 n1 = 2006 := (fxT F402 e396)
            exact ih117 _ (by omega) (x114 + 1) h398 rfl O401 (F120.call F402 rfl) (iw f417 (by decide) (by decide)) (by unfold RInv; rw [e405, e407, e411, e414]; exact ⟨e418, p404.2.1, p415, p416⟩)
  have e419 : Tg h96 n1 = 2006 := (fxT F100 e94)
  exact L116 _ 0 h96 rfl O99 Fx.rf (iw (il 0) (by decide) (by decide)) (by unfold RInv; rw [e102, e104, e108, e111]; exact ⟨e419, p101.2.1, p112, p113⟩)
