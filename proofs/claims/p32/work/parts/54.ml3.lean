theorem dL_law_23 : decode cL_law 23 = .ok (.iload 4, 2) := by decide +kernel
theorem dL_law_25 : decode cL_law 25 = .ok (.aload_n 0, 1) := by decide +kernel
theorem dL_law_26 : decode cL_law 26 = .ok (.arraylength, 1) := by decide +kernel
theorem dL_law_27 : decode cL_law 27 = .ok (.bipush 8, 2) := by decide +kernel
theorem dL_law_29 : decode cL_law 29 = .ok (.isub, 1) := by decide +kernel
theorem dL_law_30 : decode cL_law 30 = .ok (.if_icmp .gt 1872, 3) := by decide +kernel
theorem dL_law_1902 : decode cL_law 1902 = .ok (.iconst 1, 1) := by decide +kernel
theorem dL_law_1903 : decode cL_law 1903 = .ok (.ireturn, 1) := by decide +kernel
theorem dL_law_33 : decode cL_law 33 = .ok (.aload_n 0, 1) := by decide +kernel
theorem dL_law_34 : decode cL_law 34 = .ok (.iload 4, 2) := by decide +kernel
theorem dL_law_36 : decode cL_law 36 = .ok (.iaload, 1) := by decide +kernel
theorem dL_law_37 : decode cL_law 37 = .ok (.bipush 63, 2) := by decide +kernel
theorem dL_law_39 : decode cL_law 39 = .ok (.iand, 1) := by decide +kernel
theorem dL_law_40 : decode cL_law 40 = .ok (.tableswitch 1856 0 35 #[160, 185, 210, 287, 352, 401, 488, 549, 614, 639, 786, 799, 916, 941, 981, 1006, 1043, 1068, 1093, 1157, 1206, 1255, 1319, 1368, 1417, 1478, 1527, 1564, 1589, 1638, 1666, 1731, 1780, 1793, 1818, 1831], 160) := by decide +kernel
theorem dL_law_0 : decode cL_law 0 = .ok (.new 8, 3) := by decide +kernel
theorem kw_172 : Cond.classLink "LandSurveyLaw" 8 "LandSurvey" ∈ uu := uu_in (i := 172) (by decide +kernel) (by decide +kernel)
theorem kw_173 : Cond.instantiable "LandSurvey" 19 ∈ uu := uu_in (i := 173) (by decide +kernel) (by decide +kernel)
theorem dL_law_3 : decode cL_law 3 = .ok (.dup, 1) := by decide +kernel
theorem dL_law_4 : decode cL_law 4 = .ok (.invokespecial 26, 3) := by decide +kernel
theorem kw_176 : Cond.code yX11_init prog_1_method_1_code 1 none ∈ uu := uu_in (i := 176) (by decide +kernel) (by decide +kernel)
theorem kw_174 : Cond.methodLink "LandSurveyLaw" 26 yX11_init ∈ uu := uu_in (i := 174) (by decide +kernel) (by decide +kernel)
theorem kw_175 : Cond.instanceMethod yX11_init ∈ uu := uu_in (i := 175) (by decide +kernel) (by decide +kernel)
theorem lk_LandSurveyLaw_26 : lkI "LandSurveyLaw" 26 yX11_init cX11_init 1 none 0 := ⟨kw_174, kw_175, kw_144, kw_176, okX11_init, rfl⟩
theorem tbI_11_1011 : ∀ j, rI 11 j = rI 1011 j := tab_I (by decide +kernel)
theorem tbE_11_1011 : ∀ j, (rE 11 j).1 = (rE 1011 j).1 ∧ (rE 11 j).2.1 = (rE 1011 j).2.1 := tab_E (by decide +kernel)
theorem tbN_11 : ∀ j, (rE 11 j).2.2 = true → ([2, 3, 5, 6, 7, 8, 11, 13, 14, 18] : List Nat).elem j = true := tab_N _ (by decide +kernel)
theorem dL_law_7 : decode cL_law 7 = .ok (.astore_n 1, 1) := by decide +kernel
theorem dL_law_8 : decode cL_law 8 = .ok (.new 27, 3) := by decide +kernel
theorem kw_1471 : Cond.classLink "LandSurveyLaw" 27 "LandSurveyModel" ∈ uu := uu_in (i := 1471) (by decide +kernel) (by decide +kernel)
theorem kw_1469 : Cond.instantiable "LandSurveyModel" 87 ∈ uu := uu_in (i := 1469) (by decide +kernel) (by decide +kernel)
theorem dL_law_11 : decode cL_law 11 = .ok (.dup, 1) := by decide +kernel
theorem dL_law_12 : decode cL_law 12 = .ok (.invokespecial 29, 3) := by decide +kernel
theorem kw_1474 : Cond.code yX12_init prog_14_method_4_code 2 none ∈ uu := List.mem_filter.mpr ⟨List.mem_append_right _ (List.mem_append_right _ (List.mem_append_right _ (List.mem_append_right _ (List.mem_append_right _ (List.mem_append_right _ (List.mem_append_left _ (List.mem_of_getElem? (i := 131) rfl))))))), by decide +kernel⟩
theorem kw_1472 : Cond.methodLink "LandSurveyLaw" 29 yX12_init ∈ uu := uu_in (i := 1472) (by decide +kernel) (by decide +kernel)
theorem kw_1473 : Cond.instanceMethod yX12_init ∈ uu := uu_in (i := 1473) (by decide +kernel) (by decide +kernel)
theorem lk_LandSurveyLaw_29 : lkI "LandSurveyLaw" 29 yX12_init cX12_init 2 none 0 := ⟨kw_1472, kw_1473, kw_152, kw_1474, okX12_init, rfl⟩
theorem tbI_12_1012 : ∀ j, rI 12 j = rI 1012 j := tab_I (by decide +kernel)
theorem tbE_12_1012 : ∀ j, (rE 12 j).1 = (rE 1012 j).1 ∧ (rE 12 j).2.1 = (rE 1012 j).2.1 := tab_E (by decide +kernel)
theorem tbN_12 : ∀ j, (rE 12 j).2.2 = true → ([1, 4, 5, 6, 9, 11, 12, 13, 14, 15, 16, 17, 18, 19, 20, 21, 22, 23, 24, 25, 26, 27, 29, 30, 31, 32, 36, 37, 38, 39, 41, 42, 43, 44, 45, 46, 47, 48, 49, 50, 51, 52, 53, 54, 55, 56, 58, 59, 60, 61, 63, 64, 65, 66, 67, 68, 70, 71, 72, 73, 74, 75, 76, 81, 82, 84, 85, 86] : List Nat).elem j = true := tab_N _ (by decide +kernel)
theorem dL_law_15 : decode cL_law 15 = .ok (.astore_n 2, 1) := by decide +kernel
theorem dL_law_16 : decode cL_law 16 = .ok (.iconst 1, 1) := by decide +kernel
theorem dL_law_17 : decode cL_law 17 = .ok (.newarray .long, 2) := by decide +kernel
theorem dL_law_19 : decode cL_law 19 = .ok (.astore_n 3, 1) := by decide +kernel
theorem dL_law_20 : decode cL_law 20 = .ok (.iconst 0, 1) := by decide +kernel
theorem dL_law_21 : decode cL_law 21 = .ok (.istore 4, 2) := by decide +kernel
set_option maxRecDepth 100000 in
set_option maxHeartbeats 8000000 in
theorem law_loop (l : Launch) (hst : l.stackTraces = false) {p : Program} {e : Env} {s : State} {m : MethodId} {below : List Frame} {meth : Method} {c : Code} {D : va_G} {cy : Nat → ClassId} {w : Nat → Nat} {z0 b L : Nat} {xs : Nat → Int32} {n1 n2 n3 : Nat} (C : Cx p l room_1 s m #[Value.ref b] meth c D cy z0 7 cL_law "LandSurveyLaw" w) (hr : meth.sig.returnType = ret) (hX : va_X b L xs s s.heap) (hbl : b < s.heap.size) (hbz : b < z0) (hzs : s.heap.size ≤ z0) (hL : L ≤ 4096) : ∀ (μ : Nat) (x : Int) (h : Hp), (4104 - x).toNat = μ → Okh h → (0 ≤ x ∧ x ≤ 4096) → Tg h n1 = 11 → Tg h n2 = 12 → Tg h n3 = 99102 → Ln h n3 = 1 → XInv h n1 → MInv h n2 → Qask h n1 = Qm 82 h n2 ∧ ASK h n1 → GW p l e room_1 s m #[Value.ref b] below meth c D cy z0 7 (lw_Z below #[Value.ref b] s) 23 [(4, .inl x), (3, .inr (.inr n3)), (2, .inr (.inr n2)), (1, .inr (.inr n1)), (0, .inr (.inr (b + 1)))] [] h (13 * x.toNat + 119) (806 * x.toNat + 52115) := by
  intro μ
  induction μ using Nat.strongRecOn with
  | ind μ ih =>
    intro x h hm O fx tn1 tn2 tn3 ln3 pX pM hT
    refine g_iload C 0 rfl dL_law_23 ?_
    refine g_aload_n C rfl 4 rfl dL_law_25 ?_
    refine g_slen C hX hbl hbz (by omega) dL_law_26 ?_
    have f1 : (0 : Int) ≤ (L : Int) ∧ (L : Int) ≤ (4096 : Int) := ⟨by omega, by omega⟩
    refine g_bipush C (by decide) dL_law_27 ?_
    have f2 : (-8 : Int) ≤ ((L : Int) - 8) ∧ ((L : Int) - 8) ≤ (4088 : Int) := ia_sub f1 (il 8) (by decide) (by decide)
    refine g_isub C dL_law_29 ?_
    refine g_icmp_gt C (iw fx (by decide) (by decide)) (iw f2 (by decide) (by decide)) 1902 (by decide) dL_law_30 (fun q3 => ?_) (fun q4 => ?_)
    · refine g_iconst C dL_law_1902 ?_
      exact g_lend C hr hzs (by omega) (by omega) dL_law_1903
    · have f5 : (0 : Int) ≤ x ∧ x ≤ (4088 : Int) := r_le fx f2 q4 (by decide) (by decide)
      have f6 : (0 : Int) ≤ ((L : Int) - 8) ∧ ((L : Int) - 8) ≤ (4088 : Int) := r_ge f2 fx q4 (by decide) (by decide)
      refine g_aload_n C rfl 4 rfl dL_law_33 ?_
      refine g_iload C 0 rfl dL_law_34 ?_
      refine g_sld C hX hbl hbz ⟨by omega, by omega⟩ (by omega) dL_law_36 ?_
      have f7 : (-2147483648 : Int) ≤ (sx xs x) ∧ (sx xs x) ≤ (2147483647 : Int) := inR_of _
      refine g_bipush C (by decide) dL_law_37 ?_
      refine g_iand C dL_law_39 ?_
      have f8 : (0 : Int) ≤ (bAnd (sx xs x) 63) ∧ (bAnd (sx xs x) 63) ≤ (63 : Int) := bAnd_63 _
      rcases Classical.em ((bAnd (sx xs x) 63) = 0) with q9 | q10
      · refine g_tin (kv := 0) C q9 (by decide) 200 (by decide) (by decide) rfl (by decide) dL_law_40 ?_
        exact law_c0 l hst C hr hX hbl hbz hzs hL ⟨by omega, by omega⟩ (by omega) O tn1 tn2 tn3 ln3 pX pM hT (fun h1 a1 a2 a3 a4 a5 a6 a7 a8 => ih _ (by omega) (x + 8) h1 rfl a1 ⟨by omega, by omega⟩ a2 a3 a4 a5 a6 a7 a8)
      · rcases Classical.em ((bAnd (sx xs x) 63) = 1) with q11 | q12
        · refine g_tin (kv := 1) C q11 (by decide) 225 (by decide) (by decide) rfl (by decide) dL_law_40 ?_
          exact law_c1 l hst C hr hX hbl hbz hzs hL ⟨by omega, by omega⟩ (by omega) O tn1 tn2 tn3 ln3 pX pM hT (fun h1 a1 a2 a3 a4 a5 a6 a7 a8 => ih _ (by omega) (x + 8) h1 rfl a1 ⟨by omega, by omega⟩ a2 a3 a4 a5 a6 a7 a8)
        · rcases Classical.em ((bAnd (sx xs x) 63) = 2) with q13 | q14
          · refine g_tin (kv := 2) C q13 (by decide) 250 (by decide) (by decide) rfl (by decide) dL_law_40 ?_
            exact law_c2 l hst C hr hX hbl hbz hzs hL ⟨by omega, by omega⟩ (by omega) O tn1 tn2 tn3 ln3 pX pM hT (fun h1 a1 a2 a3 a4 a5 a6 a7 a8 => ih _ (by omega) (x + 8) h1 rfl a1 ⟨by omega, by omega⟩ a2 a3 a4 a5 a6 a7 a8)
          · rcases Classical.em ((bAnd (sx xs x) 63) = 3) with q15 | q16
            · refine g_tin (kv := 3) C q15 (by decide) 327 (by decide) (by decide) rfl (by decide) dL_law_40 ?_
              exact law_c3 l hst C hr hX hbl hbz hzs hL ⟨by omega, by omega⟩ (by omega) O tn1 tn2 tn3 ln3 pX pM hT (fun h1 a1 a2 a3 a4 a5 a6 a7 a8 => ih _ (by omega) (x + 8) h1 rfl a1 ⟨by omega, by omega⟩ a2 a3 a4 a5 a6 a7 a8)
            · rcases Classical.em ((bAnd (sx xs x) 63) = 4) with q17 | q18
              · refine g_tin (kv := 4) C q17 (by decide) 392 (by decide) (by decide) rfl (by decide) dL_law_40 ?_
                exact law_c4 l hst C hr hX hbl hbz hzs hL ⟨by omega, by omega⟩ (by omega) O tn1 tn2 tn3 ln3 pX pM hT (fun h1 a1 a2 a3 a4 a5 a6 a7 a8 => ih _ (by omega) (x + 8) h1 rfl a1 ⟨by omega, by omega⟩ a2 a3 a4 a5 a6 a7 a8)
              · rcases Classical.em ((bAnd (sx xs x) 63) = 5) with q19 | q20
                · refine g_tin (kv := 5) C q19 (by decide) 441 (by decide) (by decide) rfl (by decide) dL_law_40 ?_
                  exact law_c5 l hst C hr hX hbl hbz hzs hL ⟨by omega, by omega⟩ (by omega) O tn1 tn2 tn3 ln3 pX pM hT (fun h1 a1 a2 a3 a4 a5 a6 a7 a8 => ih _ (by omega) (x + 8) h1 rfl a1 ⟨by omega, by omega⟩ a2 a3 a4 a5 a6 a7 a8)
                · rcases Classical.em ((bAnd (sx xs x) 63) = 6) with q21 | q22
                  · refine g_tin (kv := 6) C q21 (by decide) 528 (by decide) (by decide) rfl (by decide) dL_law_40 ?_
                    exact law_c6 l hst C hr hX hbl hbz hzs hL ⟨by omega, by omega⟩ (by omega) O tn1 tn2 tn3 ln3 pX pM hT (fun h1 a1 a2 a3 a4 a5 a6 a7 a8 => ih _ (by omega) (x + 8) h1 rfl a1 ⟨by omega, by omega⟩ a2 a3 a4 a5 a6 a7 a8)
                  · rcases Classical.em ((bAnd (sx xs x) 63) = 7) with q23 | q24
                    · refine g_tin (kv := 7) C q23 (by decide) 589 (by decide) (by decide) rfl (by decide) dL_law_40 ?_
                      exact law_c7 l hst C hr hX hbl hbz hzs hL ⟨by omega, by omega⟩ (by omega) O tn1 tn2 tn3 ln3 pX pM hT (fun h1 a1 a2 a3 a4 a5 a6 a7 a8 => ih _ (by omega) (x + 8) h1 rfl a1 ⟨by omega, by omega⟩ a2 a3 a4 a5 a6 a7 a8)
                    · rcases Classical.em ((bAnd (sx xs x) 63) = 8) with q25 | q26
                      · refine g_tin (kv := 8) C q25 (by decide) 654 (by decide) (by decide) rfl (by decide) dL_law_40 ?_
                        exact law_c8 l hst C hr hX hbl hbz hzs hL ⟨by omega, by omega⟩ (by omega) O tn1 tn2 tn3 ln3 pX pM hT (fun h1 a1 a2 a3 a4 a5 a6 a7 a8 => ih _ (by omega) (x + 8) h1 rfl a1 ⟨by omega, by omega⟩ a2 a3 a4 a5 a6 a7 a8)
                      · rcases Classical.em ((bAnd (sx xs x) 63) = 9) with q27 | q28
                        · refine g_tin (kv := 9) C q27 (by decide) 679 (by decide) (by decide) rfl (by decide) dL_law_40 ?_
                          exact law_c9 l hst C hr hX hbl hbz hzs hL ⟨by omega, by omega⟩ (by omega) O tn1 tn2 tn3 ln3 pX pM hT (fun h1 a1 a2 a3 a4 a5 a6 a7 a8 => ih _ (by omega) (x + 8) h1 rfl a1 ⟨by omega, by omega⟩ a2 a3 a4 a5 a6 a7 a8)
                        · rcases Classical.em ((bAnd (sx xs x) 63) = 10) with q29 | q30
                          · refine g_tin (kv := 10) C q29 (by decide) 826 (by decide) (by decide) rfl (by decide) dL_law_40 ?_
                            exact law_c10 l hst C hr hX hbl hbz hzs hL ⟨by omega, by omega⟩ (by omega) O tn1 tn2 tn3 ln3 pX pM hT (fun h1 a1 a2 a3 a4 a5 a6 a7 a8 => ih _ (by omega) (x + 8) h1 rfl a1 ⟨by omega, by omega⟩ a2 a3 a4 a5 a6 a7 a8)
                          · rcases Classical.em ((bAnd (sx xs x) 63) = 11) with q31 | q32
                            · refine g_tin (kv := 11) C q31 (by decide) 839 (by decide) (by decide) rfl (by decide) dL_law_40 ?_
                              exact law_c11 l hst C hr hX hbl hbz hzs hL ⟨by omega, by omega⟩ (by omega) O tn1 tn2 tn3 ln3 pX pM hT (fun h1 a1 a2 a3 a4 a5 a6 a7 a8 => ih _ (by omega) (x + 8) h1 rfl a1 ⟨by omega, by omega⟩ a2 a3 a4 a5 a6 a7 a8)
                            · rcases Classical.em ((bAnd (sx xs x) 63) = 12) with q33 | q34
                              · refine g_tin (kv := 12) C q33 (by decide) 956 (by decide) (by decide) rfl (by decide) dL_law_40 ?_
                                exact law_c12 l hst C hr hX hbl hbz hzs hL ⟨by omega, by omega⟩ (by omega) O tn1 tn2 tn3 ln3 pX pM hT (fun h1 a1 a2 a3 a4 a5 a6 a7 a8 => ih _ (by omega) (x + 8) h1 rfl a1 ⟨by omega, by omega⟩ a2 a3 a4 a5 a6 a7 a8)
                              · rcases Classical.em ((bAnd (sx xs x) 63) = 13) with q35 | q36
                                · refine g_tin (kv := 13) C q35 (by decide) 981 (by decide) (by decide) rfl (by decide) dL_law_40 ?_
                                  exact law_c13 l hst C hr hX hbl hbz hzs hL ⟨by omega, by omega⟩ (by omega) O tn1 tn2 tn3 ln3 pX pM hT (fun h1 a1 a2 a3 a4 a5 a6 a7 a8 => ih _ (by omega) (x + 8) h1 rfl a1 ⟨by omega, by omega⟩ a2 a3 a4 a5 a6 a7 a8)
                                · rcases Classical.em ((bAnd (sx xs x) 63) = 14) with q37 | q38
                                  · refine g_tin (kv := 14) C q37 (by decide) 1021 (by decide) (by decide) rfl (by decide) dL_law_40 ?_
                                    exact law_c14 l hst C hr hX hbl hbz hzs hL ⟨by omega, by omega⟩ (by omega) O tn1 tn2 tn3 ln3 pX pM hT (fun h1 a1 a2 a3 a4 a5 a6 a7 a8 => ih _ (by omega) (x + 8) h1 rfl a1 ⟨by omega, by omega⟩ a2 a3 a4 a5 a6 a7 a8)
                                  · rcases Classical.em ((bAnd (sx xs x) 63) = 15) with q39 | q40
                                    · refine g_tin (kv := 15) C q39 (by decide) 1046 (by decide) (by decide) rfl (by decide) dL_law_40 ?_
                                      exact law_c15 l hst C hr hX hbl hbz hzs hL ⟨by omega, by omega⟩ (by omega) O tn1 tn2 tn3 ln3 pX pM hT (fun h1 a1 a2 a3 a4 a5 a6 a7 a8 => ih _ (by omega) (x + 8) h1 rfl a1 ⟨by omega, by omega⟩ a2 a3 a4 a5 a6 a7 a8)
                                    · rcases Classical.em ((bAnd (sx xs x) 63) = 16) with q41 | q42
                                      · refine g_tin (kv := 16) C q41 (by decide) 1083 (by decide) (by decide) rfl (by decide) dL_law_40 ?_
                                        exact law_c16 l hst C hr hX hbl hbz hzs hL ⟨by omega, by omega⟩ (by omega) O tn1 tn2 tn3 ln3 pX pM hT (fun h1 a1 a2 a3 a4 a5 a6 a7 a8 => ih _ (by omega) (x + 8) h1 rfl a1 ⟨by omega, by omega⟩ a2 a3 a4 a5 a6 a7 a8)
                                      · rcases Classical.em ((bAnd (sx xs x) 63) = 17) with q43 | q44
                                        · refine g_tin (kv := 17) C q43 (by decide) 1108 (by decide) (by decide) rfl (by decide) dL_law_40 ?_
                                          exact law_c17 l hst C hr hX hbl hbz hzs hL ⟨by omega, by omega⟩ (by omega) O tn1 tn2 tn3 ln3 pX pM hT (fun h1 a1 a2 a3 a4 a5 a6 a7 a8 => ih _ (by omega) (x + 8) h1 rfl a1 ⟨by omega, by omega⟩ a2 a3 a4 a5 a6 a7 a8)
                                        · rcases Classical.em ((bAnd (sx xs x) 63) = 18) with q45 | q46
                                          · refine g_tin (kv := 18) C q45 (by decide) 1133 (by decide) (by decide) rfl (by decide) dL_law_40 ?_
                                            exact law_c18 l hst C hr hX hbl hbz hzs hL ⟨by omega, by omega⟩ (by omega) O tn1 tn2 tn3 ln3 pX pM hT (fun h1 a1 a2 a3 a4 a5 a6 a7 a8 => ih _ (by omega) (x + 8) h1 rfl a1 ⟨by omega, by omega⟩ a2 a3 a4 a5 a6 a7 a8)
                                          · rcases Classical.em ((bAnd (sx xs x) 63) = 19) with q47 | q48
                                            · refine g_tin (kv := 19) C q47 (by decide) 1197 (by decide) (by decide) rfl (by decide) dL_law_40 ?_
                                              exact law_c19 l hst C hr hX hbl hbz hzs hL ⟨by omega, by omega⟩ (by omega) O tn1 tn2 tn3 ln3 pX pM hT (fun h1 a1 a2 a3 a4 a5 a6 a7 a8 => ih _ (by omega) (x + 8) h1 rfl a1 ⟨by omega, by omega⟩ a2 a3 a4 a5 a6 a7 a8)
                                            · rcases Classical.em ((bAnd (sx xs x) 63) = 20) with q49 | q50
                                              · refine g_tin (kv := 20) C q49 (by decide) 1246 (by decide) (by decide) rfl (by decide) dL_law_40 ?_
                                                exact law_c20 l hst C hr hX hbl hbz hzs hL ⟨by omega, by omega⟩ (by omega) O tn1 tn2 tn3 ln3 pX pM hT (fun h1 a1 a2 a3 a4 a5 a6 a7 a8 => ih _ (by omega) (x + 8) h1 rfl a1 ⟨by omega, by omega⟩ a2 a3 a4 a5 a6 a7 a8)
                                              · rcases Classical.em ((bAnd (sx xs x) 63) = 21) with q51 | q52
                                                · refine g_tin (kv := 21) C q51 (by decide) 1295 (by decide) (by decide) rfl (by decide) dL_law_40 ?_
                                                  exact law_c21 l hst C hr hX hbl hbz hzs hL ⟨by omega, by omega⟩ (by omega) O tn1 tn2 tn3 ln3 pX pM hT (fun h1 a1 a2 a3 a4 a5 a6 a7 a8 => ih _ (by omega) (x + 8) h1 rfl a1 ⟨by omega, by omega⟩ a2 a3 a4 a5 a6 a7 a8)
                                                · rcases Classical.em ((bAnd (sx xs x) 63) = 22) with q53 | q54
                                                  · refine g_tin (kv := 22) C q53 (by decide) 1359 (by decide) (by decide) rfl (by decide) dL_law_40 ?_
                                                    exact law_c22 l hst C hr hX hbl hbz hzs hL ⟨by omega, by omega⟩ (by omega) O tn1 tn2 tn3 ln3 pX pM hT (fun h1 a1 a2 a3 a4 a5 a6 a7 a8 => ih _ (by omega) (x + 8) h1 rfl a1 ⟨by omega, by omega⟩ a2 a3 a4 a5 a6 a7 a8)
                                                  · rcases Classical.em ((bAnd (sx xs x) 63) = 23) with q55 | q56
                                                    · refine g_tin (kv := 23) C q55 (by decide) 1408 (by decide) (by decide) rfl (by decide) dL_law_40 ?_
                                                      exact law_c23 l hst C hr hX hbl hbz hzs hL ⟨by omega, by omega⟩ (by omega) O tn1 tn2 tn3 ln3 pX pM hT (fun h1 a1 a2 a3 a4 a5 a6 a7 a8 => ih _ (by omega) (x + 8) h1 rfl a1 ⟨by omega, by omega⟩ a2 a3 a4 a5 a6 a7 a8)
                                                    · rcases Classical.em ((bAnd (sx xs x) 63) = 24) with q57 | q58
                                                      · refine g_tin (kv := 24) C q57 (by decide) 1457 (by decide) (by decide) rfl (by decide) dL_law_40 ?_
                                                        exact law_c24 l hst C hr hX hbl hbz hzs hL ⟨by omega, by omega⟩ (by omega) O tn1 tn2 tn3 ln3 pX pM hT (fun h1 a1 a2 a3 a4 a5 a6 a7 a8 => ih _ (by omega) (x + 8) h1 rfl a1 ⟨by omega, by omega⟩ a2 a3 a4 a5 a6 a7 a8)
                                                      · rcases Classical.em ((bAnd (sx xs x) 63) = 25) with q59 | q60
                                                        · refine g_tin (kv := 25) C q59 (by decide) 1518 (by decide) (by decide) rfl (by decide) dL_law_40 ?_
                                                          exact law_c25 l hst C hr hX hbl hbz hzs hL ⟨by omega, by omega⟩ (by omega) O tn1 tn2 tn3 ln3 pX pM hT (fun h1 a1 a2 a3 a4 a5 a6 a7 a8 => ih _ (by omega) (x + 8) h1 rfl a1 ⟨by omega, by omega⟩ a2 a3 a4 a5 a6 a7 a8)
                                                        · rcases Classical.em ((bAnd (sx xs x) 63) = 26) with q61 | q62
                                                          · refine g_tin (kv := 26) C q61 (by decide) 1567 (by decide) (by decide) rfl (by decide) dL_law_40 ?_
                                                            exact law_c26 l hst C hr hX hbl hbz hzs hL ⟨by omega, by omega⟩ (by omega) O tn1 tn2 tn3 ln3 pX pM hT (fun h1 a1 a2 a3 a4 a5 a6 a7 a8 => ih _ (by omega) (x + 8) h1 rfl a1 ⟨by omega, by omega⟩ a2 a3 a4 a5 a6 a7 a8)
                                                          · rcases Classical.em ((bAnd (sx xs x) 63) = 27) with q63 | q64
                                                            · refine g_tin (kv := 27) C q63 (by decide) 1604 (by decide) (by decide) rfl (by decide) dL_law_40 ?_
                                                              exact law_c27 l hst C hr hX hbl hbz hzs hL ⟨by omega, by omega⟩ (by omega) O tn1 tn2 tn3 ln3 pX pM hT (fun h1 a1 a2 a3 a4 a5 a6 a7 a8 => ih _ (by omega) (x + 8) h1 rfl a1 ⟨by omega, by omega⟩ a2 a3 a4 a5 a6 a7 a8)
                                                            · rcases Classical.em ((bAnd (sx xs x) 63) = 28) with q65 | q66
                                                              · refine g_tin (kv := 28) C q65 (by decide) 1629 (by decide) (by decide) rfl (by decide) dL_law_40 ?_
                                                                exact law_c28 l hst C hr hX hbl hbz hzs hL ⟨by omega, by omega⟩ (by omega) O tn1 tn2 tn3 ln3 pX pM hT (fun h1 a1 a2 a3 a4 a5 a6 a7 a8 => ih _ (by omega) (x + 8) h1 rfl a1 ⟨by omega, by omega⟩ a2 a3 a4 a5 a6 a7 a8)
                                                              · rcases Classical.em ((bAnd (sx xs x) 63) = 29) with q67 | q68
                                                                · refine g_tin (kv := 29) C q67 (by decide) 1678 (by decide) (by decide) rfl (by decide) dL_law_40 ?_
                                                                  exact law_c29 l hst C hr hX hbl hbz hzs hL ⟨by omega, by omega⟩ (by omega) O tn1 tn2 tn3 ln3 pX pM hT (fun h1 a1 a2 a3 a4 a5 a6 a7 a8 => ih _ (by omega) (x + 8) h1 rfl a1 ⟨by omega, by omega⟩ a2 a3 a4 a5 a6 a7 a8)
                                                                · rcases Classical.em ((bAnd (sx xs x) 63) = 30) with q69 | q70
                                                                  · refine g_tin (kv := 30) C q69 (by decide) 1706 (by decide) (by decide) rfl (by decide) dL_law_40 ?_
                                                                    exact law_c30 l hst C hr hX hbl hbz hzs hL ⟨by omega, by omega⟩ (by omega) O tn1 tn2 tn3 ln3 pX pM hT (fun h1 a1 a2 a3 a4 a5 a6 a7 a8 => ih _ (by omega) (x + 8) h1 rfl a1 ⟨by omega, by omega⟩ a2 a3 a4 a5 a6 a7 a8)
                                                                  · rcases Classical.em ((bAnd (sx xs x) 63) = 31) with q71 | q72
                                                                    · refine g_tin (kv := 31) C q71 (by decide) 1771 (by decide) (by decide) rfl (by decide) dL_law_40 ?_
                                                                      exact law_c31 l hst C hr hX hbl hbz hzs hL ⟨by omega, by omega⟩ (by omega) O tn1 tn2 tn3 ln3 pX pM hT (fun h1 a1 a2 a3 a4 a5 a6 a7 a8 => ih _ (by omega) (x + 8) h1 rfl a1 ⟨by omega, by omega⟩ a2 a3 a4 a5 a6 a7 a8)
                                                                    · rcases Classical.em ((bAnd (sx xs x) 63) = 32) with q73 | q74
                                                                      · refine g_tin (kv := 32) C q73 (by decide) 1820 (by decide) (by decide) rfl (by decide) dL_law_40 ?_
                                                                        exact law_c32 l hst C hr hX hbl hbz hzs hL ⟨by omega, by omega⟩ (by omega) O tn1 tn2 tn3 ln3 pX pM hT (fun h1 a1 a2 a3 a4 a5 a6 a7 a8 => ih _ (by omega) (x + 8) h1 rfl a1 ⟨by omega, by omega⟩ a2 a3 a4 a5 a6 a7 a8)
                                                                      · rcases Classical.em ((bAnd (sx xs x) 63) = 33) with q75 | q76
                                                                        · refine g_tin (kv := 33) C q75 (by decide) 1833 (by decide) (by decide) rfl (by decide) dL_law_40 ?_
                                                                          exact law_c33 l hst C hr hX hbl hbz hzs hL ⟨by omega, by omega⟩ (by omega) O tn1 tn2 tn3 ln3 pX pM hT (fun h1 a1 a2 a3 a4 a5 a6 a7 a8 => ih _ (by omega) (x + 8) h1 rfl a1 ⟨by omega, by omega⟩ a2 a3 a4 a5 a6 a7 a8)
                                                                        · rcases Classical.em ((bAnd (sx xs x) 63) = 34) with q77 | q78
                                                                          · refine g_tin (kv := 34) C q77 (by decide) 1858 (by decide) (by decide) rfl (by decide) dL_law_40 ?_
                                                                            exact law_c34 l hst C hr hX hbl hbz hzs hL ⟨by omega, by omega⟩ (by omega) O tn1 tn2 tn3 ln3 pX pM hT (fun h1 a1 a2 a3 a4 a5 a6 a7 a8 => ih _ (by omega) (x + 8) h1 rfl a1 ⟨by omega, by omega⟩ a2 a3 a4 a5 a6 a7 a8)
                                                                          · rcases Classical.em ((bAnd (sx xs x) 63) = 35) with q79 | q80
                                                                            · refine g_tin (kv := 35) C q79 (by decide) 1871 (by decide) (by decide) rfl (by decide) dL_law_40 ?_
                                                                              exact law_c35 l hst C hr hX hbl hbz hzs hL ⟨by omega, by omega⟩ (by omega) O tn1 tn2 tn3 ln3 pX pM hT (fun h1 a1 a2 a3 a4 a5 a6 a7 a8 => ih _ (by omega) (x + 8) h1 rfl a1 ⟨by omega, by omega⟩ a2 a3 a4 a5 a6 a7 a8)
                                                                            · refine g_tout C (iw f8 (by decide) (by decide)) 1896 (by omega) (by decide) dL_law_40 ?_
                                                                              exact law_cx l hst C hr hX hbl hbz hzs hL ⟨by omega, by omega⟩ (by omega) O tn1 tn2 tn3 ln3 pX pM hT (fun h1 a1 a2 a3 a4 a5 a6 a7 a8 => ih _ (by omega) (x + 8) h1 rfl a1 ⟨by omega, by omega⟩ a2 a3 a4 a5 a6 a7 a8)
set_option maxRecDepth 100000 in
set_option maxHeartbeats 8000000 in
theorem law_gw (l : Launch) (hst : l.stackTraces = false) {p : Program} {e : Env} {s : State} {m : MethodId} {below : List Frame} {meth : Method} {c : Code} {D : va_G} {cy : Nat → ClassId} {w : Nat → Nat} {z0 b L : Nat} {xs : Nat → Int32} {h : Hp} (C : Cx p l room_1 s m #[Value.ref b] meth c D cy z0 7 cL_law "LandSurveyLaw" w) (hr : meth.sig.returnType = ret) (hX : va_X b L xs s s.heap) (hbl : b < s.heap.size) (hbz : b < z0) (hzs : s.heap.size ≤ z0) (hL : L ≤ 4096) (O : Okh h) (hND : ND h) : GW p l e room_1 s m #[Value.ref b] below meth c D cy z0 7 (lw_Z below #[Value.ref b] s) 0 [(0, .inr (.inr (b + 1)))] [] h 0 0 := by
  refine g_new C 1011 rfl rfl rfl inX11 tyX11 tyX11_ok kw_172 kw_173 kw_144 (by decide +kernel) (by decide) (by decide) dL_law_0 (fun n1 z2 z3 h5 hh4 => ?_)
  have O6 := O.pN z2 z3 hh4 (by decide) nn_1011
  refine g_dup C rfl dL_law_3 ?_
  have p7 := (ND_fx ((Fx.rf (wr := [1000001011]) (h := h)).pN z3 hh4 rfl) rfl rfl hND)
  refine g_callV (st := [.inr (.inr n1)]) (gc_I C lk_LandSurveyLaw_26 rfl (k3_X11_init l D cy w z0 O6 (pN_T hh4) p7 ⟨(pN_I hh4), (pN_I hh4), (pN_I hh4), (pN_I hh4)⟩) (tg_nz (pN_T hh4)) rfl ⟨by decide, by decide⟩ (Nat.le_of_ble_eq_true rfl) dL_law_4 ⟨(by decide), (by decide)⟩) (fun h9 K10 => ?_)
  obtain ⟨O12, F13, p14, p15, p16, p17, p18, p19, p20, p21, p22, p23, p24, p25, p26⟩ := K10
  have e27 : Tg h9 n1 = 1011 := (fxT F13 (pN_T hh4))
  refine g_rt (T0 := 1010) (T1 := 10) e27 rfl (fun h29 hh28 => ?_)
  have O30 := O12.rt1 (T0 := 11) (T1 := 1010) e27 hh28 nu_1011 tbI_11_1011 tbE_11_1011 (fun j hj => by
      have z := List.elem_iff.mp (tbN_11 j hj)
      simp only [List.mem_cons, List.not_mem_nil, or_false] at z
      rcases z with rfl | rfl | rfl | rfl | rfl | rfl | rfl | rfl | rfl | rfl
      · exact p14
      · exact p15
      · exact p16
      · exact p17
      · exact p18
      · exact p19
      · exact p20
      · exact p21
      · exact p22
      · exact p23)
  have e31 : Ln h29 n1 = 0 := ((pTL hh28).trans ((fxL F13 (pN_T hh4)).trans (pN_L hh4)))
  have p32 := XInv_rt hh28 ⟨by decide, by decide⟩ p24
  have e33 : Qask h29 n1 = zer1 := (Qask_rt hh28).trans p25
  have e34 := ASK_rt hh28 p26
  have F35 : Fx [200600, 200601, 200602, 200603, 200604, 200606, 200607, 200800, 200811, 201000, 201001, 201003, 201201, 201202, 201203, 201204, 201205, 201207, 201208, 201211, 201212, 201214, 201215, 201216, 201217, 201218, 201400, 201401, 201402, 201406, 201407, 201408, 201409, 201410, 201411, 202000, 202001, 202002, 202201, 202202, 202203, 202205, 202206, 202207, 202208, 202211, 202213, 202214, 202218, 2420000, 3020000, 5620000, 1000000003, 1000000004, 1000000005, 1000000006, 1000000007, 1000000010, 1000000011, 1000001003, 1000001004, 1000001005, 1000001006, 1000001007, 1000001010, 1000001011, 1000002006, 1000012100, 1000013101, 1000014101, 1000015100, 1000016101, 1000017100, 1000018100, 1000019103, 1000020100, 1000021100, 1000022108, 1000023102, 1000024100, 1000025100, 1000026100, 1000027100, 1000028100, 1000029100, 1000030100, 1000031100, 1000032100, 1000033100, 1000034100, 1000035100, 1000036100, 1000037100, 1000038104, 1000039105, 1000040100, 1000041102, 1000042102, 1000043100, 1000045100, 1000046102, 1000047100, 1000048106, 1000049107, 1000050100] h h29 := ((((Fx.rf (wr := [200600, 200601, 200602, 200603, 200604, 200606, 200607, 200800, 200811, 201000, 201001, 201003, 201201, 201202, 201203, 201204, 201205, 201207, 201208, 201211, 201212, 201214, 201215, 201216, 201217, 201218, 201400, 201401, 201402, 201406, 201407, 201408, 201409, 201410, 201411, 202000, 202001, 202002, 202201, 202202, 202203, 202205, 202206, 202207, 202208, 202211, 202213, 202214, 202218, 2420000, 3020000, 5620000, 1000000003, 1000000004, 1000000005, 1000000006, 1000000007, 1000000010, 1000000011, 1000001003, 1000001004, 1000001005, 1000001006, 1000001007, 1000001010, 1000001011, 1000002006, 1000012100, 1000013101, 1000014101, 1000015100, 1000016101, 1000017100, 1000018100, 1000019103, 1000020100, 1000021100, 1000022108, 1000023102, 1000024100, 1000025100, 1000026100, 1000027100, 1000028100, 1000029100, 1000030100, 1000031100, 1000032100, 1000033100, 1000034100, 1000035100, 1000036100, 1000037100, 1000038104, 1000039105, 1000040100, 1000041102, 1000042102, 1000043100, 1000045100, 1000046102, 1000047100, 1000048106, 1000049107, 1000050100]) (h := h)).pN z3 hh4 rfl).call F13 rfl).pT (nt_of (Fx.rf (wr := [200600, 200601, 200602, 200603, 200604, 200606, 200607, 200800, 200811, 201000, 201001, 201003, 201201, 201202, 201203, 201204, 201205, 201207, 201208, 201211, 201212, 201214, 201215, 201216, 201217, 201218, 201400, 201401, 201402, 201406, 201407, 201408, 201409, 201410, 201411, 202000, 202001, 202002, 202201, 202202, 202203, 202205, 202206, 202207, 202208, 202211, 202213, 202214, 202218, 2420000, 3020000, 5620000, 1000000003, 1000000004, 1000000005, 1000000006, 1000000007, 1000000010, 1000000011, 1000001003, 1000001004, 1000001005, 1000001006, 1000001007, 1000001010, 1000001011, 1000002006, 1000012100, 1000013101, 1000014101, 1000015100, 1000016101, 1000017100, 1000018100, 1000019103, 1000020100, 1000021100, 1000022108, 1000023102, 1000024100, 1000025100, 1000026100, 1000027100, 1000028100, 1000029100, 1000030100, 1000031100, 1000032100, 1000033100, 1000034100, 1000035100, 1000036100, 1000037100, 1000038104, 1000039105, 1000040100, 1000041102, 1000042102, 1000043100, 1000045100, 1000046102, 1000047100, 1000048106, 1000049107, 1000050100]) (h := h)) z3) hh28 rfl)
  clear p14 p15 p16 p17 p18 p19 p20 p21 p22 p23
  refine g_astore_n C [(1, .inr (.inr n1)), (0, .inr (.inr (b + 1)))] rfl (by decide) rfl dL_law_7 ?_
  refine g_new C 1012 rfl rfl rfl inX12 tyX12 tyX12_ok kw_1471 kw_1469 kw_152 (by decide +kernel) (by decide) (by decide) dL_law_8 (fun n36 z37 z38 h40 hh39 => ?_)
  have O41 := O30.pN z37 z38 hh39 (by decide) nn_1012
  refine g_dup C rfl dL_law_11 ?_
  refine g_callV (st := [.inr (.inr n36)]) (gc_I C lk_LandSurveyLaw_29 rfl (k3_X12_init l D cy w z0 O41 (pN_T hh39) ⟨(pN_I hh39), (pN_I hh39)⟩) (tg_nz (pN_T hh39)) rfl ⟨by decide, by decide⟩ (Nat.le_of_ble_eq_true rfl) dL_law_12 ⟨(by decide), (by decide)⟩) (fun h43 K44 => ?_)
  obtain ⟨O46, F47, p48, p49, p50, p51, p52, p53, p54, p55, p56, p57, p58, p59, p60, p61, p62, p63, p64, p65, p66, p67, p68, p69, p70, p71, p72, p73, p74, p75, p76, p77, p78, p79, p80, p81, p82, p83, p84, p85, p86, p87, p88, p89, p90, p91, p92, p93, p94, p95, p96, p97, p98, p99, p100, p101, p102, p103, p104, p105, p106, p107, p108, p109, p110, p111, p112, p113, p114, p115, p116, p117⟩ := K44
  have e118 : Tg h43 n36 = 1012 := (fxT F47 (pN_T hh39))
  refine g_rt (T0 := 1011) (T1 := 11) e118 rfl (fun h120 hh119 => ?_)
  have O121 := O46.rt1 (T0 := 12) (T1 := 1011) e118 hh119 nu_1012 tbI_12_1012 tbE_12_1012 (fun j hj => by
      have z := List.elem_iff.mp (tbN_12 j hj)
      simp only [List.mem_cons, List.not_mem_nil, or_false] at z
      rcases z with rfl | rfl | rfl | rfl | rfl | rfl | rfl | rfl | rfl | rfl | rfl | rfl | rfl | rfl | rfl | rfl | rfl | rfl | rfl | rfl | rfl | rfl | rfl | rfl | rfl | rfl | rfl | rfl | rfl | rfl | rfl | rfl | rfl | rfl | rfl | rfl | rfl | rfl | rfl | rfl | rfl | rfl | rfl | rfl | rfl | rfl | rfl | rfl | rfl | rfl | rfl | rfl | rfl | rfl | rfl | rfl | rfl | rfl | rfl | rfl | rfl | rfl | rfl | rfl | rfl | rfl | rfl | rfl
      · exact p48
      · exact p49
      · exact p50
      · exact p51
      · exact p52
      · exact p53
      · exact p54
      · exact p55
      · exact p56
      · exact p57
      · exact p58
      · exact p59
      · exact p60
      · exact p61
      · exact p62
      · exact p63
      · exact p64
      · exact p65
      · exact p66
      · exact p67
      · exact p68
      · exact p69
      · exact p70
      · exact p71
      · exact p72
      · exact p73
      · exact p74
      · exact p75
      · exact p76
      · exact p77
      · exact p78
      · exact p79
      · exact p80
      · exact p81
      · exact p82
      · exact p83
      · exact p84
      · exact p85
      · exact p86
      · exact p87
      · exact p88
      · exact p89
      · exact p90
      · exact p91
      · exact p92
      · exact p93
      · exact p94
      · exact p95
      · exact p96
      · exact p97
      · exact p98
      · exact p99
      · exact p100
      · exact p101
      · exact p102
      · exact p103
      · exact p104
      · exact p105
      · exact p106
      · exact p107
      · exact p108
      · exact p109
      · exact p110
      · exact p111
      · exact p112
      · exact p113
      · exact p114
      · exact p115)
  have e122 : Ln h120 n36 = 0 := ((pTL hh119).trans ((fxL F47 (pN_T hh39)).trans (pN_L hh39)))
  have p123 := MInv_rt hh119 p116
  have e124 : Qm 82 h120 n36 = zer1 := (Qm_rt hh119).trans p117
  have F125 : Fx [202401, 202404, 202405, 202406, 202409, 202411, 202412, 202413, 202414, 202415, 202416, 202417, 202418, 202419, 202420, 202421, 202422, 202423, 202424, 202425, 202426, 202427, 202429, 202430, 202431, 202432, 202434, 202435, 202436, 202437, 202438, 202439, 202441, 202442, 202443, 202444, 202445, 202446, 202447, 202448, 202449, 202450, 202451, 202452, 202453, 202454, 202455, 202456, 202458, 202459, 202460, 202461, 202463, 202464, 202465, 202466, 202467, 202468, 202470, 202471, 202472, 202473, 202474, 202475, 202476, 202481, 202482, 202484, 202485, 202486, 21820400, 27220000, 27420200, 27820000, 1000000012, 1000001012, 1000101100, 1000104100, 1000105100, 1000106102, 1000109102, 1000111100, 1000112100, 1000113102, 1000114100, 1000115100, 1000116101, 1000117101, 1000118101, 1000119100, 1000120101, 1000121100, 1000122100, 1000123100, 1000124100, 1000125100, 1000126100, 1000127100, 1000129100, 1000130100, 1000131100, 1000132100, 1000136100, 1000137101, 1000138101, 1000139100, 1000141100, 1000142100, 1000143100, 1000144100, 1000145100, 1000146100, 1000147100, 1000148100, 1000149100, 1000150100, 1000151100, 1000152101, 1000153101, 1000154100, 1000155100, 1000156100, 1000158101, 1000159100, 1000160100, 1000161100, 1000163100, 1000164100, 1000165100, 1000166100, 1000167100, 1000168100, 1000170101, 1000171100, 1000172102, 1000173101, 1000174101, 1000175100, 1000176100, 1000181100, 1000182101, 1000184100, 1000185100, 1000186100] h29 h120 := ((((Fx.rf (wr := [202401, 202404, 202405, 202406, 202409, 202411, 202412, 202413, 202414, 202415, 202416, 202417, 202418, 202419, 202420, 202421, 202422, 202423, 202424, 202425, 202426, 202427, 202429, 202430, 202431, 202432, 202434, 202435, 202436, 202437, 202438, 202439, 202441, 202442, 202443, 202444, 202445, 202446, 202447, 202448, 202449, 202450, 202451, 202452, 202453, 202454, 202455, 202456, 202458, 202459, 202460, 202461, 202463, 202464, 202465, 202466, 202467, 202468, 202470, 202471, 202472, 202473, 202474, 202475, 202476, 202481, 202482, 202484, 202485, 202486, 21820400, 27220000, 27420200, 27820000, 1000000012, 1000001012, 1000101100, 1000104100, 1000105100, 1000106102, 1000109102, 1000111100, 1000112100, 1000113102, 1000114100, 1000115100, 1000116101, 1000117101, 1000118101, 1000119100, 1000120101, 1000121100, 1000122100, 1000123100, 1000124100, 1000125100, 1000126100, 1000127100, 1000129100, 1000130100, 1000131100, 1000132100, 1000136100, 1000137101, 1000138101, 1000139100, 1000141100, 1000142100, 1000143100, 1000144100, 1000145100, 1000146100, 1000147100, 1000148100, 1000149100, 1000150100, 1000151100, 1000152101, 1000153101, 1000154100, 1000155100, 1000156100, 1000158101, 1000159100, 1000160100, 1000161100, 1000163100, 1000164100, 1000165100, 1000166100, 1000167100, 1000168100, 1000170101, 1000171100, 1000172102, 1000173101, 1000174101, 1000175100, 1000176100, 1000181100, 1000182101, 1000184100, 1000185100, 1000186100]) (h := h29)).pN z38 hh39 rfl).call F47 rfl).pT (nt_of (Fx.rf (wr := [202401, 202404, 202405, 202406, 202409, 202411, 202412, 202413, 202414, 202415, 202416, 202417, 202418, 202419, 202420, 202421, 202422, 202423, 202424, 202425, 202426, 202427, 202429, 202430, 202431, 202432, 202434, 202435, 202436, 202437, 202438, 202439, 202441, 202442, 202443, 202444, 202445, 202446, 202447, 202448, 202449, 202450, 202451, 202452, 202453, 202454, 202455, 202456, 202458, 202459, 202460, 202461, 202463, 202464, 202465, 202466, 202467, 202468, 202470, 202471, 202472, 202473, 202474, 202475, 202476, 202481, 202482, 202484, 202485, 202486, 21820400, 27220000, 27420200, 27820000, 1000000012, 1000001012, 1000101100, 1000104100, 1000105100, 1000106102, 1000109102, 1000111100, 1000112100, 1000113102, 1000114100, 1000115100, 1000116101, 1000117101, 1000118101, 1000119100, 1000120101, 1000121100, 1000122100, 1000123100, 1000124100, 1000125100, 1000126100, 1000127100, 1000129100, 1000130100, 1000131100, 1000132100, 1000136100, 1000137101, 1000138101, 1000139100, 1000141100, 1000142100, 1000143100, 1000144100, 1000145100, 1000146100, 1000147100, 1000148100, 1000149100, 1000150100, 1000151100, 1000152101, 1000153101, 1000154100, 1000155100, 1000156100, 1000158101, 1000159100, 1000160100, 1000161100, 1000163100, 1000164100, 1000165100, 1000166100, 1000167100, 1000168100, 1000170101, 1000171100, 1000172102, 1000173101, 1000174101, 1000175100, 1000176100, 1000181100, 1000182101, 1000184100, 1000185100, 1000186100]) (h := h29)) z38) hh119 rfl)
  clear p48 p49 p50 p51 p52 p53 p54 p55 p56 p57 p58 p59 p60 p61 p62 p63 p64 p65 p66 p67 p68 p69 p70 p71 p72 p73 p74 p75 p76 p77 p78 p79 p80 p81 p82 p83 p84 p85 p86 p87 p88 p89 p90 p91 p92 p93 p94 p95 p96 p97 p98 p99 p100 p101 p102 p103 p104 p105 p106 p107 p108 p109 p110 p111 p112 p113 p114 p115
  refine g_astore_n C [(2, .inr (.inr n36)), (1, .inr (.inr n1)), (0, .inr (.inr (b + 1)))] rfl (by decide) rfl dL_law_15 ?_
  refine g_iconst C dL_law_16 ?_
  refine g_newa (atype := .long) (t := 2) (ty := .long) (N := 1) C 99102 rfl (iw (il 1) (by decide) (by decide)) (by decide) rfl kw_376 rfl (fun _ => rfl) (by decide) (by decide) (by decide) (by decide) dL_law_17 (fun n126 z127 z128 h130 hh129 => ?_)
  have O131 := O121.pN z127 z128 hh129 (by decide) nn_99102
  refine g_astore_n C [(3, .inr (.inr n126)), (2, .inr (.inr n36)), (1, .inr (.inr n1)), (0, .inr (.inr (b + 1)))] rfl (by decide) rfl dL_law_19 ?_
  refine g_iconst C dL_law_20 ?_
  refine g_istore C [(4, .inl 0), (3, .inr (.inr n126)), (2, .inr (.inr n36)), (1, .inr (.inr n1)), (0, .inr (.inr (b + 1)))] (by decide) rfl dL_law_21 ?_
  refine GW.sub [0, 1, 2, 3, 4] rfl ?_
  have e132 : Qask h120 n1 = zer1 := Eq.trans (show Qask h120 n1 = Qask h29 n1 from (Qask_fx O30 F125 (pT_T hh28) rfl)) e33
  have e134 : Tg h120 n1 = 11 := (fxT F125 (pT_T hh28))
  have e133 : Qask h130 n1 = zer1 := Eq.trans (show Qask h130 n1 = Qask h120 n1 from (Qask_fx O121 ((Fx.rf (wr := [1000099102]) (h := h120)).pN z128 hh129 rfl) e134 rfl)) e132
  have e135 : Qm 82 h130 n36 = zer1 := Eq.trans (show Qm 82 h130 n36 = Qm 82 h120 n36 from (mAI (j := 82) O121 ((Fx.rf (wr := [1000099102]) (h := h120)).pN z128 hh129 rfl) (pT_T hh119) rE_12_82 ar_182101 rfl rfl)) e124
  have p136 := (ASK_fx O121 ((Fx.rf (wr := [1000099102]) (h := h120)).pN z128 hh129 rfl) e134 rfl (ASK_fx O30 F125 (pT_T hh28) rfl e34))
  have e137 : Tg h130 n1 = 11 := ((pNT hh129 (pN_n hh129 z128 e134)).trans e134)
  have e138 : Tg h120 n36 = 12 := (pT_T hh119)
  have e139 : Tg h130 n36 = 12 := ((pNT hh129 (pN_n hh129 z128 e138)).trans e138)
  have p140 := (XInv_fx O121 ((Fx.rf (wr := [1000099102]) (h := h120)).pN z128 hh129 rfl) e134 rfl (XInv_fx O30 F125 (pT_T hh28) rfl p32))
  have p141 := (MInv_fx O121 ((Fx.rf (wr := [1000099102]) (h := h120)).pN z128 hh129 rfl) (pT_T hh119) rfl p123)
  exact law_loop l hst C hr hX hbl hbz hzs hL _ 0 _ rfl O131 ⟨by omega, by omega⟩ e137 e139 (pN_T hh129) (pN_L hh129) p140 p141 ⟨(e133.trans (Eq.symm e135)), p136⟩
